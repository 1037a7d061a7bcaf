/-! ===== 84: an op on whole rows: the class's and the reference's are alike ===== -/
theorem zw_pop1 {x : zT} (h : zw_ok x) : zw_ok (zs_pop1 x) := by
  obtain ⟨x1, x2, x3⟩ := x
  obtain ⟨⟨h1, h2⟩, h3, h4⟩ := h
  dsimp only at h1 h2 h3 h4
  unfold zs_pop1
  dsimp only
  split
  · exact ⟨⟨h1, h2⟩, h3, h4⟩
  · split
    · exact ⟨⟨h1, h2⟩, h3, h4⟩
    · next c =>
      have d := zw_drop1 h2 (by rw [show 8 + x2 - 1 = x2 + 7 by omega]; exact c)
      exact ⟨⟨h1, by show zw_loc 8 (8 + (x2 - 1)) x3; rw [show 8 + (x2 - 1) = 8 + x2 - 1 by omega]; exact d⟩, by show 0 ≤ x2 - 1; omega, by show x2 - 1 ≤ 6; omega⟩
theorem zw_pop2 {x : zT} (h : zw_ok x) : zw_ok (zs_pop2 x) := by
  obtain ⟨x1, x2, x3⟩ := x
  obtain ⟨⟨h1, h2⟩, h3, h4⟩ := h
  dsimp only at h1 h2 h3 h4
  unfold zs_pop2
  dsimp only
  split
  · exact ⟨⟨h1, h2⟩, h3, h4⟩
  · split
    · next c =>
      have d := zw_drop2 h2 (by omega) (by rw [show 8 + x2 - 1 = x2 + 7 by omega]; exact c)
      exact ⟨⟨h1, by show zw_loc 8 (8 + (x2 - 2)) x3; rw [show 8 + (x2 - 2) = 8 + x2 - 2 by omega]; exact d.1⟩, by show 0 ≤ x2 - 2; omega, by show x2 - 2 ≤ 6; omega⟩
    · next c =>
      have d := zw_drop1 h2 (by rw [show 8 + x2 - 1 = x2 + 7 by omega]; exact c)
      exact zw_pop1 ⟨⟨h1, by show zw_loc 8 (8 + (x2 - 1)) x3; rw [show 8 + (x2 - 1) = 8 + x2 - 1 by omega]; exact d⟩, by show 0 ≤ x2 - 1; omega, by show x2 - 1 ≤ 6; omega⟩
theorem zw_load {a : Int} {x : zT} (h : zw_ok x) : zw_ok (zs_load a x) := by
  unfold zs_load
  split
  · exact h
  · split
    · exact h
    · exact zw_push (by omega) h
theorem zw_inc {a : Int} {x : zT} (h : zw_ok x) : zw_ok (zs_inc a x) := by
  unfold zs_inc
  split
  · exact h
  · split <;> exact h
theorem zw_wh {f u : Int} {N : Int → Int} : zw_loc f u (zs_wh f u N) := by
  refine fun j j0 j1 => ⟨fun z => ?_, fun z => ?_⟩
  · unfold zs_wh at z ⊢
    rw [if_neg (show ¬ (j < f ∨ u ≤ j) by omega)] at z
    by_cases c : N j = 2
    · rw [if_pos c] at z
      by_cases d : j + 1 < u ∧ N (j + 1) = 3
      · refine ⟨d.1, ?_⟩
        rw [if_neg (by omega), if_neg (by omega), if_pos d.2, if_pos ⟨by omega, by rw [show j + 1 - 1 = j by omega]; exact c⟩]
      · rw [if_neg d] at z; omega
    · rw [if_neg c] at z
      split at z
      · split at z <;> omega
      · omega
  · unfold zs_wh at z ⊢
    rw [if_neg (show ¬ (j < f ∨ u ≤ j) by omega)] at z
    by_cases c : N j = 2
    · rw [if_pos c] at z; split at z <;> omega
    · rw [if_neg c] at z
      by_cases c3 : N j = 3
      · rw [if_pos c3] at z
        by_cases d : f < j ∧ N (j - 1) = 2
        · refine ⟨d.1, ?_⟩
          rw [if_neg (by omega), if_pos d.2, if_pos ⟨by omega, by rw [show j - 1 + 1 = j by omega]; exact c3⟩]
        · rw [if_neg d] at z; omega
      · rw [if_neg c3] at z; omega
theorem zw_cg {f u : Int} {M N : Int → Int} (h : zw_loc f u N) (e : ∀ j, f ≤ j → j < u → M j = N j) : zw_loc f u M := by
  refine fun j j0 j1 => ⟨fun z => ?_, fun z => ?_⟩
  · have b := (h j j0 j1).1 (by rw [← e j j0 j1]; exact z)
    exact ⟨b.1, by rw [e (j + 1) (by omega) b.1]; exact b.2⟩
  · have b := (h j j0 j1).2 (by rw [← e j j0 j1]; exact z)
    exact ⟨b.1, by rw [e (j - 1) (by omega) (by omega)]; exact b.2⟩
theorem zw_store {a : Int} {x : zT} (h : zw_ok x) : zw_ok (zs_store a x) := by
  obtain ⟨x1, x2, x3⟩ := x
  obtain ⟨⟨h1, h2⟩, h3, h4⟩ := h
  dsimp only at h1 h2 h3 h4
  unfold zs_store
  dsimp only
  split
  · exact ⟨⟨h1, h2⟩, h3, h4⟩
  · split
    · exact ⟨⟨h1, h2⟩, h3, h4⟩
    · split
      · next c =>
        have d := zw_drop2 h2 (by omega) (by rw [show 8 + x2 - 1 = x2 + 7 by omega]; exact c)
        have d2 : zw_loc 8 (8 + (x2 - 2)) x3 := by rw [show 8 + (x2 - 2) = 8 + x2 - 2 by omega]; exact d.1
        split
        · refine ⟨⟨zw_wh, zw_cg d2 (fun j j0 j1 => ?_)⟩, by show 0 ≤ x2 - 2; omega, by show x2 - 2 ≤ 6; omega⟩
          dsimp only
          unfold zs_wh
          rw [if_pos (Or.inr j0)]; dsimp only; rw [if_neg (by omega), if_neg (by omega)]
        · exact ⟨⟨h1, d2⟩, by show 0 ≤ x2 - 2; omega, by show x2 - 2 ≤ 6; omega⟩
      · next c =>
        have d := zw_drop1 h2 (by rw [show 8 + x2 - 1 = x2 + 7 by omega]; exact c)
        have d2 : zw_loc 8 (8 + (x2 - 1)) x3 := by rw [show 8 + (x2 - 1) = 8 + x2 - 1 by omega]; exact d
        split
        · refine ⟨⟨zw_wh, zw_cg d2 (fun j j0 j1 => ?_)⟩, by show 0 ≤ x2 - 1; omega, by show x2 - 1 ≤ 6; omega⟩
          dsimp only
          unfold zs_wh
          rw [if_pos (Or.inr j0)]; dsimp only; rw [if_neg (by omega)]
        · exact ⟨⟨h1, d2⟩, by show 0 ≤ x2 - 1; omega, by show x2 - 1 ≤ 6; omega⟩
theorem zs_ap_0 {a : Int} {x : zT} : zs_ap 0 a x = x := rfl
theorem zs_ap_1 {a : Int} {x : zT} : zs_ap 1 a x = zs_push 1 x := rfl
theorem zs_ap_2 {a : Int} {x : zT} : zs_ap 2 a x = zs_push 2 x := rfl
theorem zs_ap_3 {a : Int} {x : zT} : zs_ap 3 a x = zs_push 4 x := rfl
theorem zs_ap_4 {a : Int} {x : zT} : zs_ap 4 a x = zs_push 5 x := rfl
theorem zs_ap_5 {a : Int} {x : zT} : zs_ap 5 a x = zs_push 7 x := rfl
theorem zs_ap_6 {a : Int} {x : zT} : zs_ap 6 a x = zs_push 8 x := rfl
theorem zs_ap_7 {a : Int} {x : zT} : zs_ap 7 a x = zs_push 6 (zs_need 1 x) := rfl
theorem zs_ap_8 {a : Int} {x : zT} : zs_ap 8 a x = zs_load a x := rfl
theorem zs_ap_9 {a : Int} {x : zT} : zs_ap 9 a x = zs_store a x := rfl
theorem zs_ap_10 {a : Int} {x : zT} : zs_ap 10 a x = zs_pop1 x := rfl
theorem zs_ap_11 {a : Int} {x : zT} : zs_ap 11 a x = zs_pop2 x := rfl
theorem zs_ap_12 {a : Int} {x : zT} : zs_ap 12 a x = zs_push 1 (zs_need 1 (zs_need 1 x)) := rfl
theorem zs_ap_13 {a : Int} {x : zT} : zs_ap 13 a x = zs_push 1 (zs_need 1 (zs_need 1 x)) := rfl
theorem zs_ap_14 {a : Int} {x : zT} : zs_ap 14 a x = zs_push 2 (zs_need 2 (zs_need 2 x)) := rfl
theorem zs_ap_15 {a : Int} {x : zT} : zs_ap 15 a x = zs_push 1 (zs_need 2 x) := rfl
theorem zs_ap_16 {a : Int} {x : zT} : zs_ap 16 a x = zs_push 2 (zs_need 1 x) := rfl
theorem zs_ap_17 {a : Int} {x : zT} : zs_ap 17 a x = zs_push 1 (zs_need 6 (zs_need 1 x)) := rfl
theorem zs_ap_18 {a : Int} {x : zT} : zs_ap 18 a x = zs_need 6 (zs_need 1 (zs_need 1 x)) := rfl
theorem zs_ap_19 {a : Int} {x : zT} : zs_ap 19 a x = zs_push 1 (zs_need 6 x) := rfl
theorem zs_ap_20 {a : Int} {x : zT} : zs_ap 20 a x = zs_push 1 (zs_need 7 x) := rfl
theorem zs_ap_21 {a : Int} {x : zT} : zs_ap 21 a x = zs_push a (zs_need 5 x) := rfl
theorem zs_ap_22 {a : Int} {x : zT} : zs_ap 22 a x = zs_need 7 x := rfl
theorem zs_ap_23 {a : Int} {x : zT} : zs_ap 23 a x = x := rfl
theorem zs_ap_24 {a : Int} {x : zT} : zs_ap 24 a x = x := rfl
theorem zs_ap_25 {a : Int} {x : zT} : zs_ap 25 a x = zs_need 1 x := rfl
theorem zs_ap_26 {a : Int} {x : zT} : zs_ap 26 a x = zs_need 5 x := rfl
theorem zs_ap_27 {a : Int} {x : zT} : zs_ap 27 a x = zs_need 1 x := rfl
theorem zs_ap_28 {a : Int} {x : zT} : zs_ap 28 a x = zs_inc a x := rfl
theorem zs_ops {o : Int} (h : 0 ≤ o ∧ o ≤ 28) : o = 0 ∨ o = 1 ∨ o = 2 ∨ o = 3 ∨ o = 4 ∨ o = 5 ∨ o = 6 ∨ o = 7 ∨ o = 8 ∨ o = 9 ∨ o = 10 ∨ o = 11 ∨ o = 12 ∨ o = 13 ∨ o = 14 ∨ o = 15 ∨ o = 16 ∨ o = 17 ∨ o = 18 ∨ o = 19 ∨ o = 20 ∨ o = 21 ∨ o = 22 ∨ o = 23 ∨ o = 24 ∨ o = 25 ∨ o = 26 ∨ o = 27 ∨ o = 28 := by omega
theorem zw_ap {o a : Int} {x : zT} (h : zw_ok x) (ho : 0 ≤ o ∧ o ≤ 28) (ha : o = 21 → 5 ≤ a) : zw_ok (zs_ap o a x) := by
  rcases zs_ops ho with e | e | e | e | e | e | e | e | e | e | e | e | e | e | e | e | e | e | e | e | e | e | e | e | e | e | e | e | e <;> subst e
  · rw [zs_ap_0]; exact h
  · rw [zs_ap_1]; exact zw_push (by decide) (h)
  · rw [zs_ap_2]; exact zw_push (by decide) (h)
  · rw [zs_ap_3]; exact zw_push (by decide) (h)
  · rw [zs_ap_4]; exact zw_push (by decide) (h)
  · rw [zs_ap_5]; exact zw_push (by decide) (h)
  · rw [zs_ap_6]; exact zw_push (by decide) (h)
  · rw [zs_ap_7]; exact zw_push (by decide) (zw_need (by decide) (h))
  · rw [zs_ap_8]; exact zw_load h
  · rw [zs_ap_9]; exact zw_store h
  · rw [zs_ap_10]; exact zw_pop1 h
  · rw [zs_ap_11]; exact zw_pop2 h
  · rw [zs_ap_12]; exact zw_push (by decide) (zw_need (by decide) (zw_need (by decide) (h)))
  · rw [zs_ap_13]; exact zw_push (by decide) (zw_need (by decide) (zw_need (by decide) (h)))
  · rw [zs_ap_14]; exact zw_push (by decide) (zw_need (by decide) (zw_need (by decide) (h)))
  · rw [zs_ap_15]; exact zw_push (by decide) (zw_need (by decide) (h))
  · rw [zs_ap_16]; exact zw_push (by decide) (zw_need (by decide) (h))
  · rw [zs_ap_17]; exact zw_push (by decide) (zw_need (by decide) (zw_need (by decide) (h)))
  · rw [zs_ap_18]; exact zw_need (by decide) (zw_need (by decide) (zw_need (by decide) (h)))
  · rw [zs_ap_19]; exact zw_push (by decide) (zw_need (by decide) (h))
  · rw [zs_ap_20]; exact zw_push (by decide) (zw_need (by decide) (h))
  · rw [zs_ap_21]; exact zw_push (by have := ha rfl; omega) (zw_need (by decide) (h))
  · rw [zs_ap_22]; exact zw_need (by decide) (h)
  · rw [zs_ap_23]; exact h
  · rw [zs_ap_24]; exact h
  · rw [zs_ap_25]; exact zw_need (by decide) (h)
  · rw [zs_ap_26]; exact zw_need (by decide) (h)
  · rw [zs_ap_27]; exact zw_need (by decide) (h)
  · rw [zs_ap_28]; exact zw_inc h
theorem zc_ex_tw {t g : Int} {x y : zT} (x0 : x.1 = 0) (h : zc_tw 4 t x = y) : zc_ex t g x = if g = 0 then y else zs_push g y := by
  unfold zc_tw at h
  rw [if_pos x0] at h
  unfold zc_ex
  rw [h]
  by_cases c : y.1 = 0
  · rw [if_neg (show ¬ ¬ y.1 = 0 from fun z => z c)]
  · rw [if_pos c]
    by_cases d : g = 0
    · rw [if_pos d]
    · rw [if_neg d, zs_push_id c]
theorem zc_pop2_f {x : zT} (x0 : x.1 = 0) (h : zw_ok x) : zt_f (zc_pop2 x) (zs_pop2 x) := by
  obtain ⟨x1, x2, x3⟩ := x
  obtain ⟨⟨h1, h2⟩, h3, h4⟩ := h
  dsimp only at x0 h1 h2 h3 h4
  unfold zc_pop2 zs_pop2 zs_pop1
  dsimp only
  by_cases c : x2 = 0
  · rw [if_pos (show x2 < 2 by omega), if_pos c]; exact ⟨rfl, fun z => absurd z (show ¬ (2 : Int) = 0 by decide)⟩
  · rw [if_neg c]
    by_cases d : x3 (x2 + 7) = 3
    · have b := (h2 (x2 + 7) (by omega) (by omega)).2 d
      rw [show x2 + 7 - 1 = x2 + 6 by omega] at b
      rw [if_pos d, if_neg (show ¬ x2 < 2 by omega), if_neg (show ¬ x3 (x2 + 6) = 3 by omega)]
      exact zt_ag.rf.f
    · rw [if_neg d]
      by_cases e : x2 - 1 = 0
      · rw [if_pos (show x2 < 2 by omega), if_pos e]; exact ⟨rfl, fun z => absurd z (show ¬ (2 : Int) = 0 by decide)⟩
      · rw [if_neg (show ¬ x2 < 2 by omega), if_neg e, show x2 - 1 + 7 = x2 + 6 by omega]
        by_cases g : x3 (x2 + 6) = 3
        · rw [if_pos g, if_pos g]; exact ⟨rfl, fun z => absurd z (show ¬ (1 : Int) = 0 by decide)⟩
        · rw [if_neg g, if_neg g, show x2 - 1 - 1 = x2 - 2 by omega]; exact zt_ag.rf.f
theorem zc_store_f {a : Int} {x : zT} (h : zw_ok x) : zt_f (zc_store a x) (zs_store a x) := by
  obtain ⟨x1, x2, x3⟩ := x
  obtain ⟨⟨h1, h2⟩, h3, h4⟩ := h
  dsimp only at h1 h2 h3 h4
  unfold zc_store zs_store
  dsimp only
  by_cases c : x2 = 0
  · rw [if_pos c, if_pos c]; exact zt_ag.rf.f
  · rw [if_neg c, if_neg c]
    by_cases d : x3 (x2 + 7) = 0
    · rw [if_pos d, if_pos d]; exact zt_ag.rf.f
    · rw [if_neg d, if_neg d]
      by_cases e : x3 (x2 + 7) = 3
      · rw [if_pos e, if_pos e]
        by_cases g : 0 ≤ a ∧ a ≤ 6
        · rw [if_pos g, if_pos g]
          exact zt_ag.f ⟨rfl, rfl, fun j j0 _ => (zc_st_wh (k := 2) (M := fun j => if j = a then 2 else if j = a + 1 then 3 else x3 j) h1 (by decide) g.1 (by show a + 2 ≤ 8; omega) (fun i _ => by simp) j0).symm⟩
        · rw [if_neg g, if_neg g]; exact zt_ag.rf.f
      · rw [if_neg e, if_neg e]
        by_cases g : 0 ≤ a ∧ a ≤ 7
        · rw [if_pos g, if_pos g]
          have k2 : ¬ x3 (x2 + 7) = 2 := fun z => by have b := (h2 (x2 + 7) (by omega) (by omega)).1 z; omega
          exact zt_ag.f ⟨rfl, rfl, fun j j0 _ => (zc_st_wh (M := fun j => if j = a then x3 (x2 + 7) else x3 j) h1 e g.1 (by unfold zs_wd; rw [if_neg k2]; omega) (fun i _ => by simp [k2]) j0).symm⟩
        · rw [if_neg g, if_neg g]; exact zt_ag.rf.f
theorem zc_ap_f {o a : Int} {x : zT} (x0 : x.1 = 0) (h : zw_ok x) (ho : 0 ≤ o ∧ o ≤ 28) (ha : o = 21 → 5 ≤ a) : zt_f (zc_ap o a x) (zs_ap o a x) := by
  have ex : ∀ {t g : Int} {y z : zT}, zc_tw 4 t x = y → (if g = 0 then y else zs_push g y) = z → zt_f (zc_ex t g x) z := fun {t g y z} e1 e2 => by rw [zc_ex_tw x0 e1, e2]; exact zt_ag.rf.f
  have w1 : zw_ok (zs_need 2 x) := zw_need (by decide) h
  rcases zs_ops ho with e | e | e | e | e | e | e | e | e | e | e | e | e | e | e | e | e | e | e | e | e | e | e | e | e | e | e | e | e <;> subst e
  · refine ex (y := x) (by exact zc_tw0) rfl
  · refine ex (y := x) (by exact zc_tw0) rfl
  · refine ex (y := x) (by exact zc_tw0) rfl
  · refine ex (y := x) (by exact zc_tw0) rfl
  · refine ex (y := x) (by exact zc_tw0) rfl
  · refine ex (y := x) (by exact zc_tw0) rfl
  · refine ex (y := x) (by exact zc_tw0) rfl
  · refine ex (y := zs_need 1 x) (by show zc_tw 4 1 x = _; rw [zc_tw1 (w := 1) (by decide) (by decide)]; rw [show ( 1 / 16  : Int) = 0 from by decide, zc_tw0]) rfl
  · exact zt_ag.rf.f
  · exact zc_store_f h
  · exact zt_ag.rf.f
  · exact zc_pop2_f x0 h
  · refine ex (y := zs_need 1 (zs_need 1 x)) (by show zc_tw 4 17 x = _; rw [zc_tw1 (w := 1) (by decide) (by decide), zc_tw1 (w := 1) (by decide) (by decide)]; rw [show ( 17 / 16 / 16  : Int) = 0 from by decide, zc_tw0]) rfl
  · refine ex (y := zs_need 1 (zs_need 1 x)) (by show zc_tw 4 17 x = _; rw [zc_tw1 (w := 1) (by decide) (by decide), zc_tw1 (w := 1) (by decide) (by decide)]; rw [show ( 17 / 16 / 16  : Int) = 0 from by decide, zc_tw0]) rfl
  · refine ex (y := zs_need 2 (zs_need 2 x)) (by show zc_tw 4 8995 x = _; rw [zc_tw2 (fun _ => ⟨h.2.1, h.1.2⟩) (by decide) (by decide), zc_tw2 (fun _ => ⟨w1.2.1, w1.1.2⟩) (by decide) (by decide)]; rw [show ( 8995 / 16 / 16 / 16 / 16  : Int) = 0 from by decide, zc_tw0]) rfl
  · refine ex (y := zs_need 2 x) (by show zc_tw 4 35 x = _; rw [zc_tw2 (fun _ => ⟨h.2.1, h.1.2⟩) (by decide) (by decide)]; rw [show ( 35 / 16 / 16  : Int) = 0 from by decide, zc_tw0]) rfl
  · refine ex (y := zs_need 1 x) (by show zc_tw 4 1 x = _; rw [zc_tw1 (w := 1) (by decide) (by decide)]; rw [show ( 1 / 16  : Int) = 0 from by decide, zc_tw0]) rfl
  · refine ex (y := zs_need 6 (zs_need 1 x)) (by show zc_tw 4 97 x = _; rw [zc_tw1 (w := 1) (by decide) (by decide), zc_tw1 (w := 6) (by decide) (by decide)]; rw [show ( 97 / 16 / 16  : Int) = 0 from by decide, zc_tw0]) rfl
  · refine ex (y := zs_need 6 (zs_need 1 (zs_need 1 x))) (by show zc_tw 4 1553 x = _; rw [zc_tw1 (w := 1) (by decide) (by decide), zc_tw1 (w := 1) (by decide) (by decide), zc_tw1 (w := 6) (by decide) (by decide)]; rw [show ( 1553 / 16 / 16 / 16  : Int) = 0 from by decide, zc_tw0]) rfl
  · refine ex (y := zs_need 6 x) (by show zc_tw 4 6 x = _; rw [zc_tw1 (w := 6) (by decide) (by decide)]; rw [show ( 6 / 16  : Int) = 0 from by decide, zc_tw0]) rfl
  · refine ex (y := zs_need 7 x) (by show zc_tw 4 7 x = _; rw [zc_tw1 (w := 7) (by decide) (by decide)]; rw [show ( 7 / 16  : Int) = 0 from by decide, zc_tw0]) rfl
  · refine ex (y := zs_need 5 x) (by show zc_tw 4 4 x = _; rw [zc_tw1 (w := 5) (by decide) (by decide)]; rw [show ( 4 / 16  : Int) = 0 from by decide, zc_tw0]) (if_neg (show ¬ a = 0 from by have := ha rfl; omega))
  · refine ex (y := zs_need 7 x) (by show zc_tw 4 7 x = _; rw [zc_tw1 (w := 7) (by decide) (by decide)]; rw [show ( 7 / 16  : Int) = 0 from by decide, zc_tw0]) rfl
  · refine ex (y := x) (by exact zc_tw0) rfl
  · refine ex (y := x) (by exact zc_tw0) rfl
  · refine ex (y := zs_need 1 x) (by show zc_tw 4 1 x = _; rw [zc_tw1 (w := 1) (by decide) (by decide)]; rw [show ( 1 / 16  : Int) = 0 from by decide, zc_tw0]) rfl
  · refine ex (y := zs_need 5 x) (by show zc_tw 4 4 x = _; rw [zc_tw1 (w := 5) (by decide) (by decide)]; rw [show ( 4 / 16  : Int) = 0 from by decide, zc_tw0]) rfl
  · refine ex (y := zs_need 1 x) (by show zc_tw 4 1 x = _; rw [zc_tw1 (w := 1) (by decide) (by decide)]; rw [show ( 1 / 16  : Int) = 0 from by decide, zc_tw0]) rfl
  · exact zt_ag.rf.f
