/-! ===== 83: kinds as the class works them, and that both work alike on whole rows ===== -/
/-- every 2 has its 3 behind it, every 3 its 2 ahead (places f to u - 1) -/
def zw_loc (f u : Int) (N : Int → Int) : Prop := ∀ j, f ≤ j → j < u → (N j = 2 → j + 1 < u ∧ N (j + 1) = 3) ∧ (N j = 3 → f < j ∧ N (j - 1) = 2)
def zw_T (x : zT) : Prop := zw_loc 0 8 x.2.2 ∧ zw_loc 8 (8 + x.2.1) x.2.2
/-- the same fault, and the same else if there is none -/
def zt_f (x y : zT) : Prop := x.1 = y.1 ∧ (x.1 = 0 → zt_ag x y)
theorem zt_ag.f {x y : zT} (a : zt_ag x y) : zt_f x y := ⟨a.1, fun _ => a⟩
theorem zt_f.sy {x y : zT} (a : zt_f x y) : zt_f y x := ⟨a.1.symm, fun z => (a.2 (a.1.trans z)).sy⟩
theorem zt_f.tr {x y z : zT} (a : zt_f x y) (b : zt_f y z) : zt_f x z := ⟨a.1.trans b.1, fun c => (a.2 c).tr (b.2 (a.1.symm.trans c))⟩
def zc_fit (k t : Int) : Bool := if t = 4 then decide (4 ≤ k) else decide (k = t ∨ t = 0 ∨ (k = 4 ∧ 5 ≤ t) ∨ ((k = 6 ∨ k = 7) ∧ t = 5) ∨ (k = 8 ∧ (t = 7 ∨ t = 5)))
/-- a digit a place -/
def zc_take : Nat → Int → zT → zT
  | 0, _, x => x
  | n + 1, t, x => if t = 0 then x else if x.2.1 = 0 then (2, x.2) else if zc_fit (x.2.2 (x.2.1 + 7)) (t % 16) = true then zc_take n (t / 16) (x.1, x.2.1 - 1, x.2.2) else (1, x.2)
def zc_ex (t g : Int) (x : zT) : zT := if ¬ (zc_take 4 t x).1 = 0 then zc_take 4 t x else if g = 0 then zc_take 4 t x else zs_push g (zc_take 4 t x)
def zc_pop2 (x : zT) : zT := if x.2.1 < 2 then (2, x.2) else if x.2.2 (x.2.1 + 6) = 3 then (1, x.2) else (0, x.2.1 - 2, x.2.2)
def zc_st (a k : Int) (N : Int → Int) (j : Int) : Int := if j = a + zs_wd k ∧ j < 8 ∧ N j = 3 then 0 else if j = a then k else if k = 2 ∧ j = a + 1 then 3 else if j = a - 1 ∧ N j = 2 then 0 else N j
def zc_store (a : Int) (x : zT) : zT := if x.2.1 = 0 then (2, x.2) else if x.2.2 (x.2.1 + 7) = 0 then (1, x.2) else if x.2.2 (x.2.1 + 7) = 3 then (if 0 ≤ a ∧ a ≤ 6 then (0, x.2.1 - 2, zc_st a 2 x.2.2) else (4, x.2.1 - 2, x.2.2)) else (if 0 ≤ a ∧ a ≤ 7 then (0, x.2.1 - 1, zc_st a (x.2.2 (x.2.1 + 7)) x.2.2) else (4, x.2.1 - 1, x.2.2))
/-- TAKES and GIVES -/
def zc_tk (o : Int) : Int := if o = 7 ∨ o = 16 ∨ o = 25 ∨ o = 27 then 1 else if o = 12 ∨ o = 13 then 17 else if o = 14 then 8995 else if o = 15 then 35 else if o = 17 then 97 else if o = 18 then 1553 else if o = 19 then 6 else if o = 20 ∨ o = 22 then 7 else if o = 21 ∨ o = 26 then 4 else 0
def zc_gv (o a : Int) : Int := if o = 21 then a else if o = 1 ∨ o = 12 ∨ o = 13 ∨ o = 15 ∨ o = 17 ∨ o = 19 ∨ o = 20 then 1 else if o = 2 ∨ o = 14 ∨ o = 16 then 2 else if o = 3 then 4 else if o = 4 then 5 else if o = 5 then 7 else if o = 6 then 8 else if o = 7 then 6 else 0
def zc_ap (o a : Int) (x : zT) : zT := if o = 8 then zs_load a x else if o = 9 then zc_store a x else if o = 10 then zs_pop1 x else if o = 11 then zc_pop2 x else if o = 28 then zs_inc a x else zc_ex (zc_tk o) (zc_gv o a) x
theorem zc_one {n : Nat} {t w : Int} {x : zT} (x0 : x.1 = 0) (t0 : ¬ t = 0) (hw : (w = 1 ∧ t % 16 = 1) ∨ (w = 6 ∧ t % 16 = 6) ∨ (w = 7 ∧ t % 16 = 7) ∨ (w = 5 ∧ t % 16 = 4)) : zc_take (n + 1) t x = if (zs_need w x).1 = 0 then zc_take n (t / 16) (zs_need w x) else zs_need w x := by
  have e : zc_fit (x.2.2 (x.2.1 + 7)) (t % 16) = zs_fit (x.2.2 (x.2.1 + 7)) w := by
    generalize x.2.2 (x.2.1 + 7) = k
    unfold zc_fit zs_fit
    rcases hw with ⟨h, h2⟩ | ⟨h, h2⟩ | ⟨h, h2⟩ | ⟨h, h2⟩ <;> rw [h, h2]
    · rw [if_neg (by decide)]; exact decide_eq_decide.mpr (by omega)
    · rw [if_neg (by decide)]; exact decide_eq_decide.mpr (by omega)
    · rw [if_neg (by decide)]; exact decide_eq_decide.mpr (by omega)
    · rw [if_pos rfl]; exact decide_eq_decide.mpr (by omega)
  have w2 : ¬ w = 2 := by omega
  show (if t = 0 then x else if x.2.1 = 0 then (2, x.2) else if zc_fit (x.2.2 (x.2.1 + 7)) (t % 16) = true then zc_take n (t / 16) (x.1, x.2.1 - 1, x.2.2) else (1, x.2)) = _
  rw [if_neg t0, e]
  unfold zs_need
  rw [if_neg (show ¬ ¬ x.1 = 0 from fun z => z x0), if_neg w2, x0]
  by_cases c : x.2.1 = 0
  · rw [if_pos c, if_pos c, if_neg (show ¬ (2 : Int) = 0 by decide)]
  · rw [if_neg c, if_neg c]
    by_cases d : zs_fit (x.2.2 (x.2.1 + 7)) w = true
    · rw [if_pos d, if_pos d, if_pos rfl]
    · rw [if_neg d, if_neg d, if_neg (show ¬ (1 : Int) = 0 by decide)]
theorem zc_two {n : Nat} {t : Int} {x : zT} (x0 : x.1 = 0) (s0 : 0 ≤ x.2.1) (t1 : t % 16 = 3) (t2 : t / 16 % 16 = 2) (hw : zw_loc 8 (8 + x.2.1) x.2.2) : zc_take (n + 2) t x = if (zs_need 2 x).1 = 0 then zc_take n (t / 16 / 16) (zs_need 2 x) else zs_need 2 x := by
  show (if t = 0 then x else if x.2.1 = 0 then (2, x.2) else if zc_fit (x.2.2 (x.2.1 + 7)) (t % 16) = true then (if t / 16 = 0 then (x.1, x.2.1 - 1, x.2.2) else if x.2.1 - 1 = 0 then (2, x.2.1 - 1, x.2.2) else if zc_fit (x.2.2 (x.2.1 - 1 + 7)) (t / 16 % 16) = true then zc_take n (t / 16 / 16) (x.1, x.2.1 - 1 - 1, x.2.2) else (1, x.2.1 - 1, x.2.2)) else (1, x.2)) = _
  rw [if_neg (show ¬ t = 0 by omega), t1, t2]
  unfold zs_need
  rw [if_neg (show ¬ ¬ x.1 = 0 from fun z => z x0), if_pos rfl, x0]
  by_cases c : x.2.1 = 0
  · rw [if_pos c, if_pos c, if_neg (show ¬ (2 : Int) = 0 by decide)]
  · rw [if_neg c, if_neg c]
    by_cases d : x.2.2 (x.2.1 + 7) = 3
    · have b := (hw (x.2.1 + 7) (by omega) (by omega)).2 d
      rw [show x.2.1 + 7 - 1 = x.2.1 - 1 + 7 by omega] at b
      rw [if_pos (show zc_fit (x.2.2 (x.2.1 + 7)) 3 = true by rw [d]; decide), if_neg (show ¬ t / 16 = 0 by omega), if_neg (show ¬ x.2.1 - 1 = 0 by omega), if_pos (show zc_fit (x.2.2 (x.2.1 - 1 + 7)) 2 = true by rw [b.2]; decide), if_pos (show zs_fit (x.2.2 (x.2.1 + 7)) 2 = true by rw [d]; decide), if_pos rfl, show x.2.1 - 1 - 1 = x.2.1 - 2 by omega]
    · rw [if_neg (show ¬ zc_fit (x.2.2 (x.2.1 + 7)) 3 = true by unfold zc_fit; simp; omega), if_neg (show ¬ zs_fit (x.2.2 (x.2.1 + 7)) 2 = true by unfold zs_fit; simp; omega), if_neg (show ¬ (1 : Int) = 0 by decide)]
theorem zc_st_wh {a k : Int} {N M : Int → Int} (hw : zw_loc 0 8 N) (k3 : ¬ k = 3) (a0 : 0 ≤ a) (a1 : a + zs_wd k ≤ 8) (hm : ∀ j, 0 ≤ j → M j = if j = a then k else if k = 2 ∧ j = a + 1 then 3 else N j) {j : Int} (j0 : 0 ≤ j) : zs_wh 0 8 M j = zc_st a k N j := by
  unfold zs_wd at a1
  by_cases u : 8 ≤ j
  · unfold zs_wh zc_st zs_wd
    rw [if_pos (Or.inr u), hm j j0]
    by_cases c : k = 2
    · rw [if_pos c] at a1; rw [if_neg (show ¬ j = a by omega), if_neg (show ¬ (k = 2 ∧ j = a + 1) by omega), if_neg (by omega), if_neg (by omega), if_neg (by omega), if_neg (by omega)]
    · rw [if_neg c] at a1; rw [if_neg (show ¬ j = a by omega), if_neg (show ¬ (k = 2 ∧ j = a + 1) by omega), if_neg (by omega), if_neg (by omega), if_neg (by omega), if_neg (by omega)]
  · have b := hw j (by omega) (by omega)
    unfold zs_wh zc_st zs_wd
    rw [if_neg (show ¬ (j < 0 ∨ 8 ≤ j) by omega)]
    have m0 := hm j j0
    have m1 := hm (j + 1) (by omega)
    by_cases c : k = 2
    · rw [if_pos c] at a1 ⊢
      subst c
      by_cases z : j = 0
      · subst z
        generalize M (0 - 1) = v at *
        repeat' split at m0
        all_goals repeat' split at m1
        all_goals repeat' split
        all_goals first | omega | (exfalso; omega)
      · have m2 := hm (j - 1) (by omega)
        repeat' split at m0
        all_goals repeat' split at m1
        all_goals repeat' split at m2
        all_goals repeat' split
        all_goals first | omega | (exfalso; omega)
    · rw [if_neg c] at a1 ⊢
      simp only [c, false_and, if_false] at m0 m1 ⊢
      by_cases z : j = 0
      · subst z
        generalize M (0 - 1) = v at *
        repeat' split at m0
        all_goals repeat' split at m1
        all_goals repeat' split
        all_goals first | omega | (exfalso; omega)
      · have m2 := hm (j - 1) (by omega)
        simp only [c, false_and, if_false] at m2
        repeat' split at m0
        all_goals repeat' split at m1
        all_goals repeat' split at m2
        all_goals repeat' split
        all_goals first | omega | (exfalso; omega)
/-- taking, where nothing is wrong yet -/
def zc_tw (n : Nat) (t : Int) (x : zT) : zT := if x.1 = 0 then zc_take n t x else x
theorem zs_need_id {w : Int} {x : zT} (h : ¬ x.1 = 0) : zs_need w x = x := by unfold zs_need; rw [if_pos h]
theorem zs_push_id {k : Int} {x : zT} (h : ¬ x.1 = 0) : zs_push k x = x := by unfold zs_push; rw [if_pos h]
theorem zc_tw0 {n : Nat} {x : zT} : zc_tw n 0 x = x := by
  unfold zc_tw
  cases n <;> (split <;> rfl)
theorem zc_tw1 {n : Nat} {t w : Int} {x : zT} (t0 : ¬ t = 0) (hw : (w = 1 ∧ t % 16 = 1) ∨ (w = 6 ∧ t % 16 = 6) ∨ (w = 7 ∧ t % 16 = 7) ∨ (w = 5 ∧ t % 16 = 4)) : zc_tw (n + 1) t x = zc_tw n (t / 16) (zs_need w x) := by
  unfold zc_tw
  by_cases c : x.1 = 0
  · rw [if_pos c, zc_one c t0 hw]
  · rw [if_neg c, zs_need_id c, if_neg c]
theorem zc_tw2 {n : Nat} {t : Int} {x : zT} (s0 : x.1 = 0 → 0 ≤ x.2.1 ∧ zw_loc 8 (8 + x.2.1) x.2.2) (t1 : t % 16 = 3) (t2 : t / 16 % 16 = 2) : zc_tw (n + 2) t x = zc_tw n (t / 16 / 16) (zs_need 2 x) := by
  unfold zc_tw
  by_cases c : x.1 = 0
  · rw [if_pos c, zc_two c (s0 c).1 t1 t2 (s0 c).2]
  · rw [if_neg c, zs_need_id c, if_neg c]
theorem zw_drop2 {u : Int} {N : Int → Int} (h : zw_loc 8 u N) (u0 : 8 < u) (h3 : N (u - 1) = 3) : zw_loc 8 (u - 2) N ∧ 10 ≤ u := by
  have b := (h (u - 1) (by omega) (by omega)).2 h3
  refine ⟨fun j j0 j1 => ⟨fun z => ?_, fun z => (h j j0 (by omega)).2 z⟩, by omega⟩
  have c := (h j j0 (by omega)).1 z
  refine ⟨?_, c.2⟩
  by_cases e : j + 1 = u - 2
  · rw [e] at c; rw [show u - 1 - 1 = u - 2 by omega] at b; omega
  · omega
theorem zw_drop1 {u : Int} {N : Int → Int} (h : zw_loc 8 u N) (h3 : ¬ N (u - 1) = 3) : zw_loc 8 (u - 1) N := by
  refine fun j j0 j1 => ⟨fun z => ?_, fun z => (h j j0 (by omega)).2 z⟩
  have c := (h j j0 (by omega)).1 z
  refine ⟨?_, c.2⟩
  by_cases e : j + 1 = u - 1
  · rw [e] at c; omega
  · omega
theorem zs_fit_3 {k w : Int} (hw : w = 1 ∨ w = 2 ∨ w = 5 ∨ w = 6 ∨ w = 7) (h : zs_fit k w = true) : (w = 2 → k = 3) ∧ (¬ w = 2 → ¬ k = 3 ∧ ¬ k = 2) := by
  have b := of_decide_eq_true h
  omega
/-- whole, and a stack of none to six -/
def zw_ok (x : zT) : Prop := zw_T x ∧ 0 ≤ x.2.1 ∧ x.2.1 ≤ 6
theorem zw_need {w : Int} {x : zT} (hw : w = 1 ∨ w = 2 ∨ w = 5 ∨ w = 6 ∨ w = 7) (h : zw_ok x) : zw_ok (zs_need w x) := by
  obtain ⟨x1, x2, x3⟩ := x
  obtain ⟨⟨h1, h2⟩, h3, h4⟩ := h
  dsimp only at h1 h2 h3 h4
  unfold zs_need
  dsimp only
  split
  · exact ⟨⟨h1, h2⟩, h3, h4⟩
  · split
    · exact ⟨⟨h1, h2⟩, h3, h4⟩
    · split
      · next c =>
        have b := zs_fit_3 hw c
        by_cases e : w = 2
        · rw [if_pos e]
          have d := zw_drop2 h2 (by omega) (by rw [show 8 + x2 - 1 = x2 + 7 by omega]; exact b.1 e)
          exact ⟨⟨h1, by show zw_loc 8 (8 + (x2 - 2)) x3; rw [show 8 + (x2 - 2) = 8 + x2 - 2 by omega]; exact d.1⟩, by show 0 ≤ x2 - 2; omega, by show x2 - 2 ≤ 6; omega⟩
        · rw [if_neg e]
          have d := zw_drop1 h2 (by rw [show 8 + x2 - 1 = x2 + 7 by omega]; exact (b.2 e).1)
          exact ⟨⟨h1, by show zw_loc 8 (8 + (x2 - 1)) x3; rw [show 8 + (x2 - 1) = 8 + x2 - 1 by omega]; exact d⟩, by show 0 ≤ x2 - 1; omega, by show x2 - 1 ≤ 6; omega⟩
      · exact ⟨⟨h1, h2⟩, h3, h4⟩
theorem zw_push {k : Int} {x : zT} (k3 : ¬ k = 3) (h : zw_ok x) : zw_ok (zs_push k x) := by
  obtain ⟨x1, x2, x3⟩ := x
  obtain ⟨⟨h1, h2⟩, h3, h4⟩ := h
  dsimp only at h1 h2 h3 h4
  unfold zs_push
  dsimp only
  split
  · exact ⟨⟨h1, h2⟩, h3, h4⟩
  · split
    · exact ⟨⟨h1, h2⟩, h3, h4⟩
    · next c =>
      have wd : (k = 2 ∧ zs_wd k = 2) ∨ (¬ k = 2 ∧ zs_wd k = 1) := by unfold zs_wd; split <;> omega
      refine ⟨⟨fun j j0 j1 => ?_, fun j j0 j1 => ?_⟩, by show 0 ≤ x2 + zs_wd k; omega, by show x2 + zs_wd k ≤ 6; omega⟩
      · have b := h1 j j0 j1
        show ((if j = x2 + 8 then k else if k = 2 ∧ j = x2 + 9 then 3 else x3 j) = 2 → j + 1 < 8 ∧ (if j + 1 = x2 + 8 then k else if k = 2 ∧ j + 1 = x2 + 9 then 3 else x3 (j + 1)) = 3) ∧ ((if j = x2 + 8 then k else if k = 2 ∧ j = x2 + 9 then 3 else x3 j) = 3 → 0 < j ∧ (if j - 1 = x2 + 8 then k else if k = 2 ∧ j - 1 = x2 + 9 then 3 else x3 (j - 1)) = 2)
        rw [if_neg (show ¬ j = x2 + 8 by omega), if_neg (show ¬ (k = 2 ∧ j = x2 + 9) by omega), if_neg (show ¬ j - 1 = x2 + 8 by omega), if_neg (show ¬ (k = 2 ∧ j - 1 = x2 + 9) by omega)]
        refine ⟨fun z => ?_, b.2⟩
        have b1 := b.1 z
        rw [if_neg (show ¬ j + 1 = x2 + 8 by omega), if_neg (show ¬ (k = 2 ∧ j + 1 = x2 + 9) by omega)]
        exact b1
      · replace j1 : j < 8 + (x2 + zs_wd k) := j1
        show ((if j = x2 + 8 then k else if k = 2 ∧ j = x2 + 9 then 3 else x3 j) = 2 → j + 1 < 8 + (x2 + zs_wd k) ∧ (if j + 1 = x2 + 8 then k else if k = 2 ∧ j + 1 = x2 + 9 then 3 else x3 (j + 1)) = 3) ∧ ((if j = x2 + 8 then k else if k = 2 ∧ j = x2 + 9 then 3 else x3 j) = 3 → 8 < j ∧ (if j - 1 = x2 + 8 then k else if k = 2 ∧ j - 1 = x2 + 9 then 3 else x3 (j - 1)) = 2)
        by_cases e : j < 8 + x2
        · have b := h2 j j0 e
          rw [if_neg (show ¬ j = x2 + 8 by omega), if_neg (show ¬ (k = 2 ∧ j = x2 + 9) by omega), if_neg (show ¬ j - 1 = x2 + 8 by omega), if_neg (show ¬ (k = 2 ∧ j - 1 = x2 + 9) by omega)]
          refine ⟨fun z => ?_, b.2⟩
          have b1 := b.1 z
          rw [if_neg (show ¬ j + 1 = x2 + 8 by omega), if_neg (show ¬ (k = 2 ∧ j + 1 = x2 + 9) by omega)]
          exact ⟨by omega, b1.2⟩
        · by_cases e2 : j = x2 + 8
          · subst e2
            rw [if_pos rfl]
            refine ⟨fun z => ⟨by omega, ?_⟩, fun z => absurd z k3⟩
            rw [if_neg (by omega), if_pos ⟨z, by omega⟩]
          · rw [if_neg e2, if_pos (show k = 2 ∧ j = x2 + 9 by omega)]
            exact ⟨fun z => absurd z (by decide), fun _ => ⟨by omega, by rw [if_pos (by omega)]; omega⟩⟩
