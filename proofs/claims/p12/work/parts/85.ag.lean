/-! ===== 85: an op hangs on what is on the stack and in the locals alone ===== -/
/-- alike where it matters, and the stack isn't far below nothing -/
def zg (n : Int) (x y : zT) : Prop := zt_ag x y ∧ n ≤ x.2.1
theorem zg_need' {n w : Int} {x y : zT} (h : zg n x y) (n7 : -7 ≤ n) : zg (n - 2) (zs_need w x) (zs_need w y) := by
  obtain ⟨x1, x2, x3⟩ := x
  obtain ⟨y1, y2, y3⟩ := y
  obtain ⟨⟨h1, h2, h3⟩, h4⟩ := h
  dsimp only at h1 h2 h3 h4
  subst h1 h2
  have e := h3 (x2 + 7) (by omega) (by omega)
  unfold zs_need
  simp only [e]
  have g : ∀ (v : Int), zg (n - 2) (v, x2, x3) (v, x2, y3) := fun v => ⟨⟨rfl, rfl, h3⟩, by show n - 2 ≤ x2; omega⟩
  split
  · exact g _
  · split
    · exact g _
    · split
      · split
        · exact ⟨⟨rfl, rfl, fun j j0 (j1 : j < x2 - 2 + 8) => h3 j j0 (by omega)⟩, by show n - 2 ≤ x2 - 2; omega⟩
        · exact ⟨⟨rfl, rfl, fun j j0 (j1 : j < x2 - 1 + 8) => h3 j j0 (by omega)⟩, by show n - 2 ≤ x2 - 1; omega⟩
      · exact g _
theorem zg_push' {n k : Int} {x y : zT} (h : zg n x y) : zg n (zs_push k x) (zs_push k y) := by
  obtain ⟨x1, x2, x3⟩ := x
  obtain ⟨y1, y2, y3⟩ := y
  obtain ⟨⟨h1, h2, h3⟩, h4⟩ := h
  dsimp only at h1 h2 h3 h4
  subst h1 h2
  have wd : (k = 2 ∧ zs_wd k = 2) ∨ (¬ k = 2 ∧ zs_wd k = 1) := by unfold zs_wd; split <;> omega
  unfold zs_push
  dsimp only
  split
  · exact ⟨⟨rfl, rfl, h3⟩, h4⟩
  · split
    · exact ⟨⟨rfl, rfl, h3⟩, h4⟩
    · refine ⟨⟨rfl, rfl, fun j j0 (j1 : j < x2 + zs_wd k + 8) => ?_⟩, by show n ≤ x2 + zs_wd k; omega⟩
      dsimp only
      by_cases c : j = x2 + 8
      · rw [if_pos c, if_pos c]
      · rw [if_neg c, if_neg c]
        by_cases d : k = 2 ∧ j = x2 + 9
        · rw [if_pos d, if_pos d]
        · rw [if_neg d, if_neg d, h3 j j0 (by omega)]
theorem zg_pop1' {n : Int} {x y : zT} (h : zg n x y) (n7 : -7 ≤ n) : zg (n - 1) (zs_pop1 x) (zs_pop1 y) := by
  obtain ⟨x1, x2, x3⟩ := x
  obtain ⟨y1, y2, y3⟩ := y
  obtain ⟨⟨h1, h2, h3⟩, h4⟩ := h
  dsimp only at h1 h2 h3 h4
  subst h1 h2
  have e := h3 (x2 + 7) (by omega) (by omega)
  unfold zs_pop1
  simp only [e]
  have g : ∀ (v : Int), zg (n - 1) (v, x2, x3) (v, x2, y3) := fun v => ⟨⟨rfl, rfl, h3⟩, by show n - 1 ≤ x2; omega⟩
  split
  · exact g _
  · split
    · exact g _
    · exact ⟨⟨rfl, rfl, fun j j0 (j1 : j < x2 - 1 + 8) => h3 j j0 (by omega)⟩, by show n - 1 ≤ x2 - 1; omega⟩
theorem zg_need {n w : Int} {x y : zT} (h : zg n x y) (n7 : -7 ≤ n := by decide) : zg (n - 2) (zs_need w x) (zs_need w y) := zg_need' h n7
theorem zg_push {n k : Int} {x y : zT} (h : zg n x y) : zt_ag (zs_push k x) (zs_push k y) := (zg_push' h).1
theorem zg_pop1 {x y : zT} (h : zg 0 x y) : zt_ag (zs_pop1 x) (zs_pop1 y) := (zg_pop1' h (by decide)).1
theorem zg_pop2 {x y : zT} (h : zg 0 x y) : zt_ag (zs_pop2 x) (zs_pop2 y) := by
  obtain ⟨x1, x2, x3⟩ := x
  obtain ⟨y1, y2, y3⟩ := y
  obtain ⟨⟨h1, h2, h3⟩, h4⟩ := h
  dsimp only at h1 h2 h3 h4
  subst h1 h2
  have e := h3 (x2 + 7) (by omega) (by omega)
  unfold zs_pop2
  simp only [e]
  split
  · exact ⟨rfl, rfl, h3⟩
  · split
    · exact ⟨rfl, rfl, fun j j0 (j1 : j < x2 - 2 + 8) => h3 j j0 (by omega)⟩
    · exact (zg_pop1' (n := -1) (x := (0, x2 - 1, x3)) (y := (0, x2 - 1, y3)) ⟨⟨rfl, rfl, fun j j0 (j1 : j < x2 - 1 + 8) => h3 j j0 (by omega)⟩, by show -1 ≤ x2 - 1; omega⟩ (by decide)).1
theorem zg_load {a : Int} {x y : zT} (h : zg 0 x y) : zt_ag (zs_load a x) (zs_load a y) := by
  have k := @zg_push
  obtain ⟨x1, x2, x3⟩ := x
  obtain ⟨y1, y2, y3⟩ := y
  obtain ⟨⟨h1, h2, h3⟩, h4⟩ := h
  dsimp only at h1 h2 h3 h4
  subst h1 h2
  unfold zs_load
  dsimp only
  by_cases c : 0 ≤ a ∧ a ≤ 7
  · rw [if_neg (show ¬ ¬ (0 ≤ a ∧ a ≤ 7) from fun z => z c), if_neg (show ¬ ¬ (0 ≤ a ∧ a ≤ 7) from fun z => z c)]
    simp only [h3 a c.1 (by omega)]
    split
    · exact ⟨rfl, rfl, h3⟩
    · exact zg_push (n := 0) ⟨⟨rfl, rfl, h3⟩, h4⟩
  · rw [if_pos c, if_pos c]; exact ⟨rfl, rfl, h3⟩
theorem zg_inc {a : Int} {x y : zT} (h : zg 0 x y) : zt_ag (zs_inc a x) (zs_inc a y) := by
  obtain ⟨x1, x2, x3⟩ := x
  obtain ⟨y1, y2, y3⟩ := y
  obtain ⟨⟨h1, h2, h3⟩, h4⟩ := h
  dsimp only at h1 h2 h3 h4
  subst h1 h2
  unfold zs_inc
  dsimp only
  by_cases c : 0 ≤ a ∧ a ≤ 7
  · rw [if_neg (show ¬ ¬ (0 ≤ a ∧ a ≤ 7) from fun z => z c), if_neg (show ¬ ¬ (0 ≤ a ∧ a ≤ 7) from fun z => z c)]
    simp only [h3 a c.1 (by omega)]
    split <;> exact ⟨rfl, rfl, h3⟩
  · rw [if_pos c, if_pos c]; exact ⟨rfl, rfl, h3⟩
theorem zs_wh_cg8 {M N : Int → Int} (h : ∀ j, 0 ≤ j → j < 8 → M j = N j) {j : Int} (j0 : 0 ≤ j) (hj : M j = N j) : zs_wh 0 8 M j = zs_wh 0 8 N j := by
  unfold zs_wh
  by_cases c : j < 0 ∨ 8 ≤ j
  · rw [if_pos c, if_pos c]; exact hj
  · rw [if_neg c, if_neg c, hj]
    have a1 : (j + 1 < 8 ∧ M (j + 1) = 3) = (j + 1 < 8 ∧ N (j + 1) = 3) := by
      by_cases d : j + 1 < 8
      · rw [h (j + 1) (by omega) d]
      · simp only [d, false_and]
    have a2 : (0 < j ∧ M (j - 1) = 2) = (0 < j ∧ N (j - 1) = 2) := by
      by_cases d : 0 < j
      · rw [h (j - 1) (by omega) (by omega)]
      · simp only [d, false_and]
    simp only [a1, a2]
theorem zg_store {a : Int} {x y : zT} (h : zg 0 x y) : zt_ag (zs_store a x) (zs_store a y) := by
  obtain ⟨x1, x2, x3⟩ := x
  obtain ⟨y1, y2, y3⟩ := y
  obtain ⟨⟨h1, h2, h3⟩, h4⟩ := h
  dsimp only at h1 h2 h3 h4
  subst h1 h2
  have e := h3 (x2 + 7) (by omega) (by omega)
  unfold zs_store
  simp only [e]
  split
  · exact ⟨rfl, rfl, h3⟩
  · split
    · exact ⟨rfl, rfl, h3⟩
    · split
      · split
        · exact ⟨rfl, rfl, fun j j0 (j1 : j < x2 - 2 + 8) => zs_wh_cg8 (M := fun j => if j = a then 2 else if j = a + 1 then 3 else x3 j) (N := fun j => if j = a then 2 else if j = a + 1 then 3 else y3 j) (fun i i0 i1 => by simp only [h3 i i0 (by omega)]) j0 (by simp only [h3 j j0 (by omega)])⟩
        · exact ⟨rfl, rfl, fun j j0 (j1 : j < x2 - 2 + 8) => h3 j j0 (by omega)⟩
      · split
        · exact ⟨rfl, rfl, fun j j0 (j1 : j < x2 - 1 + 8) => zs_wh_cg8 (M := fun j => if j = a then y3 (x2 + 7) else x3 j) (N := fun j => if j = a then y3 (x2 + 7) else y3 j) (fun i i0 i1 => by simp only [h3 i i0 (by omega)]) j0 (by simp only [h3 j j0 (by omega)])⟩
        · exact ⟨rfl, rfl, fun j j0 (j1 : j < x2 - 1 + 8) => h3 j j0 (by omega)⟩
theorem zs_ap_ag {o a : Int} {x y : zT} (hg : zt_ag x y) (s0 : 0 ≤ x.2.1) (ho : 0 ≤ o ∧ o ≤ 28) : zt_ag (zs_ap o a x) (zs_ap o a y) := by
  have h : zg 0 x y := ⟨hg, s0⟩
  rcases zs_ops ho with e | e | e | e | e | e | e | e | e | e | e | e | e | e | e | e | e | e | e | e | e | e | e | e | e | e | e | e | e <;> subst e
  · rw [zs_ap_0, zs_ap_0]; exact (h).1
  · rw [zs_ap_1, zs_ap_1]; exact zg_push (h)
  · rw [zs_ap_2, zs_ap_2]; exact zg_push (h)
  · rw [zs_ap_3, zs_ap_3]; exact zg_push (h)
  · rw [zs_ap_4, zs_ap_4]; exact zg_push (h)
  · rw [zs_ap_5, zs_ap_5]; exact zg_push (h)
  · rw [zs_ap_6, zs_ap_6]; exact zg_push (h)
  · rw [zs_ap_7, zs_ap_7]; exact zg_push (zg_need (h))
  · rw [zs_ap_8, zs_ap_8]; exact zg_load h
  · rw [zs_ap_9, zs_ap_9]; exact zg_store h
  · rw [zs_ap_10, zs_ap_10]; exact zg_pop1 h
  · rw [zs_ap_11, zs_ap_11]; exact zg_pop2 h
  · rw [zs_ap_12, zs_ap_12]; exact zg_push (zg_need (zg_need (h)))
  · rw [zs_ap_13, zs_ap_13]; exact zg_push (zg_need (zg_need (h)))
  · rw [zs_ap_14, zs_ap_14]; exact zg_push (zg_need (zg_need (h)))
  · rw [zs_ap_15, zs_ap_15]; exact zg_push (zg_need (h))
  · rw [zs_ap_16, zs_ap_16]; exact zg_push (zg_need (h))
  · rw [zs_ap_17, zs_ap_17]; exact zg_push (zg_need (zg_need (h)))
  · rw [zs_ap_18, zs_ap_18]; exact (zg_need (zg_need (zg_need (h)))).1
  · rw [zs_ap_19, zs_ap_19]; exact zg_push (zg_need (h))
  · rw [zs_ap_20, zs_ap_20]; exact zg_push (zg_need (h))
  · rw [zs_ap_21, zs_ap_21]; exact zg_push (zg_need (h))
  · rw [zs_ap_22, zs_ap_22]; exact (zg_need (h)).1
  · rw [zs_ap_23, zs_ap_23]; exact (h).1
  · rw [zs_ap_24, zs_ap_24]; exact (h).1
  · rw [zs_ap_25, zs_ap_25]; exact (zg_need (h)).1
  · rw [zs_ap_26, zs_ap_26]; exact (zg_need (h)).1
  · rw [zs_ap_27, zs_ap_27]; exact (zg_need (h)).1
  · rw [zs_ap_28, zs_ap_28]; exact zg_inc h
