/-! ===== 97zn: what an op that isn't faulty has found ===== -/
theorem zk_ap1 {o a S : Int} {N : Int → Int} (hw : zw_ok (0, S, N)) (ho : 0 ≤ o ∧ o ≤ 28) (ha : o = 21 → 5 ≤ a) (x0 : (zc_ap o a (0, S, N)).1 = 0) : ((o = 8 ∨ o = 9 ∨ o = 28) → 0 ≤ a ∧ a ≤ 7) ∧ ((o = 21 ∨ o = 22) → 1 ≤ S) ∧ (o = 21 → 1 ≤ (zc_ap o a (0, S, N)).2.1) := by
  have f := zc_ap_f (x := (0, S, N)) rfl hw ho ha
  have f1 : (zs_ap o a (0, S, N)).1 = 0 := f.1.symm.trans x0
  have s0 : 0 ≤ S := hw.2.1
  refine ⟨fun z => ?_, fun z => ?_, fun z => ?_⟩
  · rcases z with z | z | z
    · subst z
      have f2 : (zs_load a (0, S, N)).1 = 0 := f1
      unfold zs_load at f2
      split at f2
      · (dsimp only at f2; omega)
      · next q => exact Classical.byContradiction fun y => q y
    · subst z
      have f2 : (zs_store a (0, S, N)).1 = 0 := f1
      unfold zs_store at f2
      dsimp only at f2
      split at f2
      · (dsimp only at f2; omega)
      · split at f2
        · (dsimp only at f2; omega)
        · split at f2
          · split at f2
            · next q => exact ⟨q.1, by omega⟩
            · (dsimp only at f2; omega)
          · split at f2
            · next q => exact q
            · (dsimp only at f2; omega)
    · subst z
      have f2 : (zs_inc a (0, S, N)).1 = 0 := f1
      unfold zs_inc at f2
      split at f2
      · (dsimp only at f2; omega)
      · next q => exact Classical.byContradiction fun y => q y
  · have key : ∀ w, (zs_need w (0, S, N)).1 = 0 → 1 ≤ S := fun w f3 => by
      unfold zs_need at f3
      rw [if_neg (fun z => z rfl)] at f3
      dsimp only at f3
      split at f3
      · (dsimp only at f3; omega)
      · omega
    rcases z with z | z
    · subst z
      have f2 : (zs_push a (zs_need 5 (0, S, N))).1 = 0 := f1
      unfold zs_push at f2
      by_cases q : (zs_need 5 (0, S, N)).1 = 0
      · exact key 5 q
      · rw [if_pos q] at f2; exact absurd f2 q
    · subst z
      exact key 7 f1
  · have g := (f.2 x0).2.1
    rw [g]
    subst z
    have f2 : (zs_push a (zs_need 5 (0, S, N))).1 = 0 := f1
    show 1 ≤ (zs_push a (zs_need 5 (0, S, N))).2.1
    have m : 0 ≤ (zs_need 5 (0, S, N)).2.1 := by
      unfold zs_need
      rw [if_neg (fun z => z rfl)]
      dsimp only
      split
      · exact s0
      · split
        · rw [if_neg (by decide)]
          show 0 ≤ S - 1
          omega
        · exact s0
    unfold zs_push at f2 ⊢
    by_cases q : (zs_need 5 (0, S, N)).1 = 0
    · rw [if_neg (fun y => y q)] at f2 ⊢
      split at f2
      · (dsimp only at f2; omega)
      · next y =>
        rw [if_neg y]
        show 1 ≤ (zs_need 5 (0, S, N)).2.1 + zs_wd a
        unfold zs_wd
        split <;> omega
    · rw [if_pos q] at f2; exact absurd f2 q
theorem zk_wk_h {W : List (Nat × Nat)} {h h' : zx_H} (w : zb_W W h h') (e1 : za_in W 41 2 = false) (e2 : za_in W 38 0 = false) (e3 : za_in W 42 0 = false) (e4 : za_in W 43 0 = false) {o a b S n : Int} {T V L C : Int → Int} (x : zk_wk o a b S n T V L C (zv_f h 41 2) (zv_b h 38) (zv_a h 42) (zv_a h 43)) : zk_wk o a b S n T V L C (zv_f h' 41 2) (zv_b h' 38) (zv_a h' 42) (zv_a h' 43) := by
  rw [zv_wf w e1, show zv_b h' 38 = zv_b h 38 from funext (fun q => zv_wb w e2 q), show zv_a h' 42 = zv_a h 42 from funext (fun q => zv_wa w e3 q), show zv_a h' 43 = zv_a h 43 from funext (fun q => zv_wa w e4 q)]
  exact x
theorem zk_lc_h {W : List (Nat × Nat)} {h h' : zx_H} (w : zb_W W h h') (e1 : za_in W 37 0 = false) {N1 N2 : Int → Int} (nA : ∀ j, 0 ≤ j → N1 j = N2 j) {a a' k k' : Int} (ea : a = a') (ek : k = k') (x : zk_lc a N1 (zv_a h 37) k) : zk_lc a' N2 (zv_a h' 37) k' := fun j j0 => by
  subst ea ek
  rw [zv_wa w e1 j, x j j0, nA j j0]
