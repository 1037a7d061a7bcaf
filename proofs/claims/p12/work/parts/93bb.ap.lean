/-! ===== 93d: an op in the class ===== -/
theorem zc_ap8 {o a : Int} {x : zT} (h : o = 8) : zc_ap o a x = zs_load a x := by unfold zc_ap; rw [if_pos h]
theorem zc_ap9 {o a : Int} {x : zT} (h : o = 9) : zc_ap o a x = zc_store a x := by unfold zc_ap; rw [if_neg (by omega), if_pos h]
theorem zc_ap10 {o a : Int} {x : zT} (h : o = 10) : zc_ap o a x = zs_pop1 x := by unfold zc_ap; rw [if_neg (by omega), if_neg (by omega), if_pos h]
theorem zc_ap11 {o a : Int} {x : zT} (h : o = 11) : zc_ap o a x = zc_pop2 x := by unfold zc_ap; rw [if_neg (by omega), if_neg (by omega), if_neg (by omega), if_pos h]
theorem zc_ap28 {o a : Int} {x : zT} (h : o = 28) : zc_ap o a x = zs_inc a x := by unfold zc_ap; rw [if_neg (by omega), if_neg (by omega), if_neg (by omega), if_neg (by omega), if_pos h]
theorem zc_apd {o a : Int} {x : zT} (h : ¬ o = 8 ∧ ¬ o = 9 ∧ ¬ o = 10 ∧ ¬ o = 11 ∧ ¬ o = 28) : zc_ap o a x = zc_ex (zc_tk o) (zc_gv o a) x := by unfold zc_ap; rw [if_neg h.1, if_neg h.2.1, if_neg h.2.2.1, if_neg h.2.2.2.1, if_neg h.2.2.2.2]
/-- the topmost of whole kinds -/
theorem zw_top {S : Int} {N : Int → Int} (h : zw_ok (0, S, N)) : 1 ≤ S → ¬ N (S + 7) = 2 ∧ (N (S + 7) = 3 → 2 ≤ S) := fun s => by
  have w := h.1.2 (S + 7) (by omega) (by show S + 7 < 8 + S; omega)
  dsimp only at w
  exact ⟨fun z => by have := (w.1 z).1; omega, fun z => by have := (w.2 z).1; omega⟩
