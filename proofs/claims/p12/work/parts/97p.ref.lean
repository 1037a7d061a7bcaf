/-! ===== 97p: the reference, method by method (by program) ===== -/
set_option maxRecDepth 100000 in
set_option maxHeartbeats 4000000 in
theorem zm_goesAsR {h : zx_H} (hI : zb_I zc_H h) {a : Int} {b : Int} (a1 : 0 ≤ a) (a2 : a ≤ 8) (b1 : 0 ≤ b) (b2 : b ≤ 8) : zx_T zp_P 0 zp_m156 0 [(0, .int (zI (a))), (1, .int (zI (b)))] [] h (zr_P h (fun e => ((e = 1 ∧ zc_g a b) ∨ (e = 0 ∧ ¬ zc_g a b)) ∧ 0 ≤ e ∧ e ≤ 1)) := by
  refine zx_T.l (i := .iload_n 0) (k := 1) (v := .int (zI (a))) (pc := 0) rfl rfl rfl ?_
  refine zx_T.l (i := .iload_n 1) (k := 1) (v := .int (zI (b))) (pc := 1) rfl rfl rfl ?_
  refine zr_i2 (x := a) (y := b) (t := 53) (pc := 2) rfl rfl (by omega) (by omega) (by omega) (by omega) (fun (c1 : a = b) => ?_) (fun (c1 : ¬ (a = b)) => ?_)
  · refine zx_T.s (i := .iconst 1) (k := 1) (st' := [.int (zI (1))]) (pc := 53) rfl rfl ?_
    refine zx_T.j (i := .goto 4) (k := 3) (pc' := 58) (st' := [.int (zI (1))]) (pc := 54) rfl rfl rfl rfl rfl ?_
    exact zr_ir (x := 1) (pc := 58) rfl rfl (zr_nb (by omega) (by omega)) ⟨rfl, _, rfl, by dsimp only; exact ⟨by unfold zc_g; omega, by omega, by omega⟩⟩
  · refine zx_T.l (i := .iload_n 1) (k := 1) (v := .int (zI (b))) (pc := 5) rfl rfl rfl ?_
    refine zr_i1 (x := b) (t := 53) (pc := 6) rfl rfl (by omega) (by omega) (fun (c2 : b = 0) => ?_) (fun (c2 : ¬ (b = 0)) => ?_)
    · refine zx_T.s (i := .iconst 1) (k := 1) (st' := [.int (zI (1))]) (pc := 53) rfl rfl ?_
      refine zx_T.j (i := .goto 4) (k := 3) (pc' := 58) (st' := [.int (zI (1))]) (pc := 54) rfl rfl rfl rfl rfl ?_
      exact zr_ir (x := 1) (pc := 58) rfl rfl (zr_nb (by omega) (by omega)) ⟨rfl, _, rfl, by dsimp only; exact ⟨by unfold zc_g; omega, by omega, by omega⟩⟩
    · refine zx_T.l (i := .iload_n 0) (k := 1) (v := .int (zI (a))) (pc := 9) rfl rfl rfl ?_
      refine zx_T.s (i := .iconst 4) (k := 1) (st' := [.int (zI (4)), .int (zI (a))]) (pc := 10) rfl rfl ?_
      refine zr_i2 (x := a) (y := 4) (t := 19) (pc := 11) rfl rfl (by omega) (by omega) (by omega) (by omega) (fun (c3 : ¬ a = 4) => ?_) (fun (c3 : ¬ (¬ a = 4)) => ?_)
      · refine zx_T.l (i := .iload_n 0) (k := 1) (v := .int (zI (a))) (pc := 19) rfl rfl rfl ?_
        refine zx_T.s (i := .bipush 6) (k := 2) (st' := [.int (zI (6)), .int (zI (a))]) (pc := 20) rfl rfl ?_
        refine zr_i2 (x := a) (y := 6) (t := 31) (pc := 22) rfl rfl (by omega) (by omega) (by omega) (by omega) (fun (c4 : a = 6) => ?_) (fun (c4 : ¬ (a = 6)) => ?_)
        · refine zx_T.l (i := .iload_n 1) (k := 1) (v := .int (zI (b))) (pc := 31) rfl rfl rfl ?_
          refine zx_T.s (i := .iconst 5) (k := 1) (st' := [.int (zI (5)), .int (zI (b))]) (pc := 32) rfl rfl ?_
          refine zr_i2 (x := b) (y := 5) (t := 53) (pc := 33) rfl rfl (by omega) (by omega) (by omega) (by omega) (fun (c5 : b = 5) => ?_) (fun (c5 : ¬ (b = 5)) => ?_)
          · refine zx_T.s (i := .iconst 1) (k := 1) (st' := [.int (zI (1))]) (pc := 53) rfl rfl ?_
            refine zx_T.j (i := .goto 4) (k := 3) (pc' := 58) (st' := [.int (zI (1))]) (pc := 54) rfl rfl rfl rfl rfl ?_
            exact zr_ir (x := 1) (pc := 58) rfl rfl (zr_nb (by omega) (by omega)) ⟨rfl, _, rfl, by dsimp only; exact ⟨by unfold zc_g; omega, by omega, by omega⟩⟩
          · refine zx_T.l (i := .iload_n 0) (k := 1) (v := .int (zI (a))) (pc := 36) rfl rfl rfl ?_
            refine zx_T.s (i := .bipush 8) (k := 2) (st' := [.int (zI (8)), .int (zI (a))]) (pc := 37) rfl rfl ?_
            refine zr_i2 (x := a) (y := 8) (t := 57) (pc := 39) rfl rfl (by omega) (by omega) (by omega) (by omega) (fun (c6 : ¬ a = 8) => ?_) (fun (c6 : ¬ (¬ a = 8)) => False.elim (by omega))
            refine zx_T.s (i := .iconst 0) (k := 1) (st' := [.int (zI (0))]) (pc := 57) rfl rfl ?_
            exact zr_ir (x := 0) (pc := 58) rfl rfl (zr_nb (by omega) (by omega)) ⟨rfl, _, rfl, by dsimp only; exact ⟨by unfold zc_g; omega, by omega, by omega⟩⟩
        · refine zx_T.l (i := .iload_n 0) (k := 1) (v := .int (zI (a))) (pc := 25) rfl rfl rfl ?_
          refine zx_T.s (i := .bipush 7) (k := 2) (st' := [.int (zI (7)), .int (zI (a))]) (pc := 26) rfl rfl ?_
          refine zr_i2 (x := a) (y := 7) (t := 36) (pc := 28) rfl rfl (by omega) (by omega) (by omega) (by omega) (fun (c7 : ¬ a = 7) => ?_) (fun (c7 : ¬ (¬ a = 7)) => ?_)
          · refine zx_T.l (i := .iload_n 0) (k := 1) (v := .int (zI (a))) (pc := 36) rfl rfl rfl ?_
            refine zx_T.s (i := .bipush 8) (k := 2) (st' := [.int (zI (8)), .int (zI (a))]) (pc := 37) rfl rfl ?_
            refine zr_i2 (x := a) (y := 8) (t := 57) (pc := 39) rfl rfl (by omega) (by omega) (by omega) (by omega) (fun (c8 : ¬ a = 8) => ?_) (fun (c8 : ¬ (¬ a = 8)) => ?_)
            · refine zx_T.s (i := .iconst 0) (k := 1) (st' := [.int (zI (0))]) (pc := 57) rfl rfl ?_
              exact zr_ir (x := 0) (pc := 58) rfl rfl (zr_nb (by omega) (by omega)) ⟨rfl, _, rfl, by dsimp only; exact ⟨by unfold zc_g; omega, by omega, by omega⟩⟩
            · refine zx_T.l (i := .iload_n 1) (k := 1) (v := .int (zI (b))) (pc := 42) rfl rfl rfl ?_
              refine zx_T.s (i := .bipush 7) (k := 2) (st' := [.int (zI (7)), .int (zI (b))]) (pc := 43) rfl rfl ?_
              refine zr_i2 (x := b) (y := 7) (t := 53) (pc := 45) rfl rfl (by omega) (by omega) (by omega) (by omega) (fun (c9 : b = 7) => ?_) (fun (c9 : ¬ (b = 7)) => ?_)
              · refine zx_T.s (i := .iconst 1) (k := 1) (st' := [.int (zI (1))]) (pc := 53) rfl rfl ?_
                refine zx_T.j (i := .goto 4) (k := 3) (pc' := 58) (st' := [.int (zI (1))]) (pc := 54) rfl rfl rfl rfl rfl ?_
                exact zr_ir (x := 1) (pc := 58) rfl rfl (zr_nb (by omega) (by omega)) ⟨rfl, _, rfl, by dsimp only; exact ⟨by unfold zc_g; omega, by omega, by omega⟩⟩
              · refine zx_T.l (i := .iload_n 1) (k := 1) (v := .int (zI (b))) (pc := 48) rfl rfl rfl ?_
                refine zx_T.s (i := .iconst 5) (k := 1) (st' := [.int (zI (5)), .int (zI (b))]) (pc := 49) rfl rfl ?_
                refine zr_i2 (x := b) (y := 5) (t := 57) (pc := 50) rfl rfl (by omega) (by omega) (by omega) (by omega) (fun (c10 : ¬ b = 5) => ?_) (fun (c10 : ¬ (¬ b = 5)) => ?_)
                · refine zx_T.s (i := .iconst 0) (k := 1) (st' := [.int (zI (0))]) (pc := 57) rfl rfl ?_
                  exact zr_ir (x := 0) (pc := 58) rfl rfl (zr_nb (by omega) (by omega)) ⟨rfl, _, rfl, by dsimp only; exact ⟨by unfold zc_g; omega, by omega, by omega⟩⟩
                · refine zx_T.s (i := .iconst 1) (k := 1) (st' := [.int (zI (1))]) (pc := 53) rfl rfl ?_
                  refine zx_T.j (i := .goto 4) (k := 3) (pc' := 58) (st' := [.int (zI (1))]) (pc := 54) rfl rfl rfl rfl rfl ?_
                  exact zr_ir (x := 1) (pc := 58) rfl rfl (zr_nb (by omega) (by omega)) ⟨rfl, _, rfl, by dsimp only; exact ⟨by unfold zc_g; omega, by omega, by omega⟩⟩
          · refine zx_T.l (i := .iload_n 1) (k := 1) (v := .int (zI (b))) (pc := 31) rfl rfl rfl ?_
            refine zx_T.s (i := .iconst 5) (k := 1) (st' := [.int (zI (5)), .int (zI (b))]) (pc := 32) rfl rfl ?_
            refine zr_i2 (x := b) (y := 5) (t := 53) (pc := 33) rfl rfl (by omega) (by omega) (by omega) (by omega) (fun (c11 : b = 5) => ?_) (fun (c11 : ¬ (b = 5)) => ?_)
            · refine zx_T.s (i := .iconst 1) (k := 1) (st' := [.int (zI (1))]) (pc := 53) rfl rfl ?_
              refine zx_T.j (i := .goto 4) (k := 3) (pc' := 58) (st' := [.int (zI (1))]) (pc := 54) rfl rfl rfl rfl rfl ?_
              exact zr_ir (x := 1) (pc := 58) rfl rfl (zr_nb (by omega) (by omega)) ⟨rfl, _, rfl, by dsimp only; exact ⟨by unfold zc_g; omega, by omega, by omega⟩⟩
            · refine zx_T.l (i := .iload_n 0) (k := 1) (v := .int (zI (a))) (pc := 36) rfl rfl rfl ?_
              refine zx_T.s (i := .bipush 8) (k := 2) (st' := [.int (zI (8)), .int (zI (a))]) (pc := 37) rfl rfl ?_
              refine zr_i2 (x := a) (y := 8) (t := 57) (pc := 39) rfl rfl (by omega) (by omega) (by omega) (by omega) (fun (c12 : ¬ a = 8) => ?_) (fun (c12 : ¬ (¬ a = 8)) => False.elim (by omega))
              refine zx_T.s (i := .iconst 0) (k := 1) (st' := [.int (zI (0))]) (pc := 57) rfl rfl ?_
              exact zr_ir (x := 0) (pc := 58) rfl rfl (zr_nb (by omega) (by omega)) ⟨rfl, _, rfl, by dsimp only; exact ⟨by unfold zc_g; omega, by omega, by omega⟩⟩
      · refine zx_T.l (i := .iload_n 1) (k := 1) (v := .int (zI (b))) (pc := 14) rfl rfl rfl ?_
        refine zx_T.s (i := .iconst 5) (k := 1) (st' := [.int (zI (5)), .int (zI (b))]) (pc := 15) rfl rfl ?_
        refine zr_i2 (x := b) (y := 5) (t := 53) (pc := 16) rfl rfl (by omega) (by omega) (by omega) (by omega) (fun (c13 : 5 ≤ b) => ?_) (fun (c13 : ¬ (5 ≤ b)) => ?_)
        · refine zx_T.s (i := .iconst 1) (k := 1) (st' := [.int (zI (1))]) (pc := 53) rfl rfl ?_
          refine zx_T.j (i := .goto 4) (k := 3) (pc' := 58) (st' := [.int (zI (1))]) (pc := 54) rfl rfl rfl rfl rfl ?_
          exact zr_ir (x := 1) (pc := 58) rfl rfl (zr_nb (by omega) (by omega)) ⟨rfl, _, rfl, by dsimp only; exact ⟨by unfold zc_g; omega, by omega, by omega⟩⟩
        · refine zx_T.l (i := .iload_n 0) (k := 1) (v := .int (zI (a))) (pc := 19) rfl rfl rfl ?_
          refine zx_T.s (i := .bipush 6) (k := 2) (st' := [.int (zI (6)), .int (zI (a))]) (pc := 20) rfl rfl ?_
          refine zr_i2 (x := a) (y := 6) (t := 31) (pc := 22) rfl rfl (by omega) (by omega) (by omega) (by omega) (fun (c14 : a = 6) => False.elim (by omega)) (fun (c14 : ¬ (a = 6)) => ?_)
          refine zx_T.l (i := .iload_n 0) (k := 1) (v := .int (zI (a))) (pc := 25) rfl rfl rfl ?_
          refine zx_T.s (i := .bipush 7) (k := 2) (st' := [.int (zI (7)), .int (zI (a))]) (pc := 26) rfl rfl ?_
          refine zr_i2 (x := a) (y := 7) (t := 36) (pc := 28) rfl rfl (by omega) (by omega) (by omega) (by omega) (fun (c15 : ¬ a = 7) => ?_) (fun (c15 : ¬ (¬ a = 7)) => False.elim (by omega))
          refine zx_T.l (i := .iload_n 0) (k := 1) (v := .int (zI (a))) (pc := 36) rfl rfl rfl ?_
          refine zx_T.s (i := .bipush 8) (k := 2) (st' := [.int (zI (8)), .int (zI (a))]) (pc := 37) rfl rfl ?_
          refine zr_i2 (x := a) (y := 8) (t := 57) (pc := 39) rfl rfl (by omega) (by omega) (by omega) (by omega) (fun (c16 : ¬ a = 8) => ?_) (fun (c16 : ¬ (¬ a = 8)) => False.elim (by omega))
          refine zx_T.s (i := .iconst 0) (k := 1) (st' := [.int (zI (0))]) (pc := 57) rfl rfl ?_
          exact zr_ir (x := 0) (pc := 58) rfl rfl (zr_nb (by omega) (by omega)) ⟨rfl, _, rfl, by dsimp only; exact ⟨by unfold zc_g; omega, by omega, by omega⟩⟩

set_option maxRecDepth 100000 in
set_option maxHeartbeats 4000000 in
theorem zm_areWholeF_L {h : zx_H} (hI : zb_I zc_H h) {f : Int} {m : Int} (f1 : 0 ≤ f) (m1 : 0 ≤ m) (fm : f + m ≤ 840) (n : Nat) : (∀ {k : Int} (k1 : f ≤ k) (k2 : k ≤ f + m) (wl : ∀ j, f ≤ j → j < k → ((zv_a h 60 j = 2 → j + 1 < f + m ∧ zv_a h 60 (j + 1) = 3) ∧ (zv_a h 60 j = 3 → f < j ∧ zv_a h 60 (j - 1) = 2))), (f + m - k : Int).toNat < n → zx_T zp_P 0 zp_m180 2 [(0, .ref 60), (1, .int (zI (f))), (2, .int (zI (m))), (3, .int (zI (k)))] [] h (zr_P h (fun e => ((e = 1 ∧ zw_loc f (f + m) (zv_a h 60)) ∨ (e = 0 ∧ ¬ zw_loc f (f + m) (zv_a h 60))) ∧ 0 ≤ e ∧ e ≤ 1))) := by
  induction n with
  | zero => exact fun _ _ _ hm => absurd hm (Nat.not_lt_zero _)
  | succ n ih =>
    intro k k1 k2 wl hm
    refine zx_T.l (i := .iload_n 3) (k := 1) (v := .int (zI (k))) (pc := 2) rfl rfl rfl ?_
    refine zx_T.l (i := .iload_n 1) (k := 1) (v := .int (zI (f))) (pc := 3) rfl rfl rfl ?_
    refine zx_T.l (i := .iload_n 2) (k := 1) (v := .int (zI (m))) (pc := 4) rfl rfl rfl ?_
    refine zr_add (x := f) (y := m) (e := f + m) (pc := 5) rfl (by omega) ?_
    refine zr_i2 (x := k) (y := f + m) (t := 63) (pc := 6) rfl rfl (by omega) (by omega) (by omega) (by omega) (fun (c1 : (f + m) ≤ k) => ?_) (fun (c1 : ¬ ((f + m) ≤ k)) => ?_)
    · refine zx_T.s (i := .iconst 1) (k := 1) (st' := [.int (zI (1))]) (pc := 63) rfl rfl ?_
      exact zr_ir (x := 1) (pc := 64) rfl rfl (zr_nb (by omega) (by omega)) ⟨rfl, _, rfl, by dsimp only; exact ⟨Or.inl ⟨rfl, fun j j0 j1 => wl j j0 (by omega)⟩, by omega, by omega⟩⟩
    · refine zx_T.l (i := .aload_n 0) (k := 1) (v := .ref 60) (pc := 9) rfl rfl rfl ?_
      refine zx_T.l (i := .iload_n 3) (k := 1) (v := .int (zI (k))) (pc := 10) rfl rfl rfl ?_
      refine zr_al (n := 840) (lo := 0) (hi := 8) (e := zv_a h 60 k) (pc := 11) rfl rfl rfl hI (by omega) (by omega) rfl (fun g2a g2b => ?_)
      refine zx_T.s (i := .iconst 2) (k := 1) (st' := [.int (zI (2)), .int (zI (zv_a h 60 k))]) (pc := 12) rfl rfl ?_
      refine zr_i2 (x := zv_a h 60 k) (y := 2) (t := 34) (pc := 13) rfl rfl (by omega) (by omega) (by omega) (by omega) (fun (c3 : ¬ (zv_a h 60 k) = 2) => ?_) (fun (c3 : ¬ (¬ (zv_a h 60 k) = 2)) => ?_)
      · refine zx_T.l (i := .aload_n 0) (k := 1) (v := .ref 60) (pc := 34) rfl rfl rfl ?_
        refine zx_T.l (i := .iload_n 3) (k := 1) (v := .int (zI (k))) (pc := 35) rfl rfl rfl ?_
        refine zr_al (n := 840) (lo := 0) (hi := 8) (e := zv_a h 60 k) (pc := 36) rfl rfl rfl hI (by omega) (by omega) rfl (fun g4a g4b => ?_)
        refine zx_T.s (i := .iconst 3) (k := 1) (st' := [.int (zI (3)), .int (zI (zv_a h 60 k))]) (pc := 37) rfl rfl ?_
        refine zr_i2 (x := zv_a h 60 k) (y := 3) (t := 57) (pc := 38) rfl rfl (by omega) (by omega) (by omega) (by omega) (fun (c5 : ¬ (zv_a h 60 k) = 3) => ?_) (fun (c5 : ¬ (¬ (zv_a h 60 k) = 3)) => ?_)
        · refine zr_inc (x := k) (n := 1) (y := k + 1) (ls' := [(3, .int (zI (k + 1))), (0, .ref 60), (1, .int (zI (f))), (2, .int (zI (m)))]) (pc := 57) rfl rfl rfl (by omega) rfl ?_
          refine zx_T.j (i := .goto (-58)) (k := 3) (pc' := 2) (st' := []) (pc := 60) rfl rfl rfl rfl rfl ?_
          refine zx_T.lk (ls' := [(0, .ref 60), (1, .int (zI (f))), (2, .int (zI (m))), (3, .int (zI (k + 1)))]) rfl ⟨rfl, rfl, rfl, rfl, trivial⟩ ?_
          exact ih (k := k + 1) (by omega) (by omega) (fun j j0 j1 => by rcases (show j = k ∨ j < k by omega) with z | z; (subst z; exact ⟨fun z1 => by omega, fun z1 => by omega⟩); exact wl j j0 z) (by omega)
        · refine zx_T.l (i := .iload_n 3) (k := 1) (v := .int (zI (k))) (pc := 41) rfl rfl rfl ?_
          refine zx_T.l (i := .iload_n 1) (k := 1) (v := .int (zI (f))) (pc := 42) rfl rfl rfl ?_
          refine zr_i2 (x := k) (y := f) (t := 55) (pc := 43) rfl rfl (by omega) (by omega) (by omega) (by omega) (fun (c6 : k = f) => ?_) (fun (c6 : ¬ (k = f)) => ?_)
          · refine zx_T.s (i := .iconst 0) (k := 1) (st' := [.int (zI (0))]) (pc := 55) rfl rfl ?_
            exact zr_ir (x := 0) (pc := 56) rfl rfl (zr_nb (by omega) (by omega)) ⟨rfl, _, rfl, by dsimp only; exact ⟨Or.inr ⟨rfl, fun z => by have z1 := z k (by omega) (by omega); omega⟩, by omega, by omega⟩⟩
          · refine zx_T.l (i := .aload_n 0) (k := 1) (v := .ref 60) (pc := 46) rfl rfl rfl ?_
            refine zx_T.l (i := .iload_n 3) (k := 1) (v := .int (zI (k))) (pc := 47) rfl rfl rfl ?_
            refine zx_T.s (i := .iconst 1) (k := 1) (st' := [.int (zI (1)), .int (zI (k)), .ref 60]) (pc := 48) rfl rfl ?_
            refine zr_sub (x := k) (y := 1) (e := k - 1) (pc := 49) rfl (by omega) ?_
            refine zr_al (n := 840) (lo := 0) (hi := 8) (e := zv_a h 60 (k - 1)) (pc := 50) rfl rfl rfl hI (by omega) (by omega) rfl (fun g7a g7b => ?_)
            refine zx_T.s (i := .iconst 2) (k := 1) (st' := [.int (zI (2)), .int (zI (zv_a h 60 (k - 1)))]) (pc := 51) rfl rfl ?_
            refine zr_i2 (x := zv_a h 60 (k - 1)) (y := 2) (t := 57) (pc := 52) rfl rfl (by omega) (by omega) (by omega) (by omega) (fun (c8 : (zv_a h 60 (k - 1)) = 2) => ?_) (fun (c8 : ¬ ((zv_a h 60 (k - 1)) = 2)) => ?_)
            · refine zr_inc (x := k) (n := 1) (y := k + 1) (ls' := [(3, .int (zI (k + 1))), (0, .ref 60), (1, .int (zI (f))), (2, .int (zI (m)))]) (pc := 57) rfl rfl rfl (by omega) rfl ?_
              refine zx_T.j (i := .goto (-58)) (k := 3) (pc' := 2) (st' := []) (pc := 60) rfl rfl rfl rfl rfl ?_
              refine zx_T.lk (ls' := [(0, .ref 60), (1, .int (zI (f))), (2, .int (zI (m))), (3, .int (zI (k + 1)))]) rfl ⟨rfl, rfl, rfl, rfl, trivial⟩ ?_
              exact ih (k := k + 1) (by omega) (by omega) (fun j j0 j1 => by rcases (show j = k ∨ j < k by omega) with z | z; (subst z; exact ⟨fun z1 => by omega, fun z1 => by omega⟩); exact wl j j0 z) (by omega)
            · refine zx_T.s (i := .iconst 0) (k := 1) (st' := [.int (zI (0))]) (pc := 55) rfl rfl ?_
              exact zr_ir (x := 0) (pc := 56) rfl rfl (zr_nb (by omega) (by omega)) ⟨rfl, _, rfl, by dsimp only; exact ⟨Or.inr ⟨rfl, fun z => by have z1 := z k (by omega) (by omega); omega⟩, by omega, by omega⟩⟩
      · refine zx_T.l (i := .iload_n 3) (k := 1) (v := .int (zI (k))) (pc := 16) rfl rfl rfl ?_
        refine zx_T.s (i := .iconst 1) (k := 1) (st' := [.int (zI (1)), .int (zI (k))]) (pc := 17) rfl rfl ?_
        refine zr_add (x := k) (y := 1) (e := k + 1) (pc := 18) rfl (by omega) ?_
        refine zx_T.l (i := .iload_n 1) (k := 1) (v := .int (zI (f))) (pc := 19) rfl rfl rfl ?_
        refine zx_T.l (i := .iload_n 2) (k := 1) (v := .int (zI (m))) (pc := 20) rfl rfl rfl ?_
        refine zr_add (x := f) (y := m) (e := f + m) (pc := 21) rfl (by omega) ?_
        refine zr_i2 (x := k + 1) (y := f + m) (t := 55) (pc := 22) rfl rfl (by omega) (by omega) (by omega) (by omega) (fun (c9 : (k + 1) = (f + m)) => ?_) (fun (c9 : ¬ ((k + 1) = (f + m))) => ?_)
        · refine zx_T.s (i := .iconst 0) (k := 1) (st' := [.int (zI (0))]) (pc := 55) rfl rfl ?_
          exact zr_ir (x := 0) (pc := 56) rfl rfl (zr_nb (by omega) (by omega)) ⟨rfl, _, rfl, by dsimp only; exact ⟨Or.inr ⟨rfl, fun z => by have z1 := z k (by omega) (by omega); omega⟩, by omega, by omega⟩⟩
        · refine zx_T.l (i := .aload_n 0) (k := 1) (v := .ref 60) (pc := 25) rfl rfl rfl ?_
          refine zx_T.l (i := .iload_n 3) (k := 1) (v := .int (zI (k))) (pc := 26) rfl rfl rfl ?_
          refine zx_T.s (i := .iconst 1) (k := 1) (st' := [.int (zI (1)), .int (zI (k)), .ref 60]) (pc := 27) rfl rfl ?_
          refine zr_add (x := k) (y := 1) (e := k + 1) (pc := 28) rfl (by omega) ?_
          refine zr_al (n := 840) (lo := 0) (hi := 8) (e := zv_a h 60 (k + 1)) (pc := 29) rfl rfl rfl hI (by omega) (by omega) rfl (fun g10a g10b => ?_)
          refine zx_T.s (i := .iconst 3) (k := 1) (st' := [.int (zI (3)), .int (zI (zv_a h 60 (k + 1)))]) (pc := 30) rfl rfl ?_
          refine zr_i2 (x := zv_a h 60 (k + 1)) (y := 3) (t := 55) (pc := 31) rfl rfl (by omega) (by omega) (by omega) (by omega) (fun (c11 : ¬ (zv_a h 60 (k + 1)) = 3) => ?_) (fun (c11 : ¬ (¬ (zv_a h 60 (k + 1)) = 3)) => ?_)
          · refine zx_T.s (i := .iconst 0) (k := 1) (st' := [.int (zI (0))]) (pc := 55) rfl rfl ?_
            exact zr_ir (x := 0) (pc := 56) rfl rfl (zr_nb (by omega) (by omega)) ⟨rfl, _, rfl, by dsimp only; exact ⟨Or.inr ⟨rfl, fun z => by have z1 := z k (by omega) (by omega); omega⟩, by omega, by omega⟩⟩
          · refine zx_T.l (i := .aload_n 0) (k := 1) (v := .ref 60) (pc := 34) rfl rfl rfl ?_
            refine zx_T.l (i := .iload_n 3) (k := 1) (v := .int (zI (k))) (pc := 35) rfl rfl rfl ?_
            refine zr_al (n := 840) (lo := 0) (hi := 8) (e := zv_a h 60 k) (pc := 36) rfl rfl rfl hI (by omega) (by omega) rfl (fun g12a g12b => ?_)
            refine zx_T.s (i := .iconst 3) (k := 1) (st' := [.int (zI (3)), .int (zI (zv_a h 60 k))]) (pc := 37) rfl rfl ?_
            refine zr_i2 (x := zv_a h 60 k) (y := 3) (t := 57) (pc := 38) rfl rfl (by omega) (by omega) (by omega) (by omega) (fun (c13 : ¬ (zv_a h 60 k) = 3) => ?_) (fun (c13 : ¬ (¬ (zv_a h 60 k) = 3)) => False.elim (by omega))
            refine zr_inc (x := k) (n := 1) (y := k + 1) (ls' := [(3, .int (zI (k + 1))), (0, .ref 60), (1, .int (zI (f))), (2, .int (zI (m)))]) (pc := 57) rfl rfl rfl (by omega) rfl ?_
            refine zx_T.j (i := .goto (-58)) (k := 3) (pc' := 2) (st' := []) (pc := 60) rfl rfl rfl rfl rfl ?_
            refine zx_T.lk (ls' := [(0, .ref 60), (1, .int (zI (f))), (2, .int (zI (m))), (3, .int (zI (k + 1)))]) rfl ⟨rfl, rfl, rfl, rfl, trivial⟩ ?_
            exact ih (k := k + 1) (by omega) (by omega) (fun j j0 j1 => by rcases (show j = k ∨ j < k by omega) with z | z; (subst z; exact ⟨fun z1 => by omega, fun z1 => by omega⟩); exact wl j j0 z) (by omega)
set_option maxRecDepth 100000 in
set_option maxHeartbeats 4000000 in
theorem zm_areWholeF {h : zx_H} (hI : zb_I zc_H h) {f : Int} {m : Int} (f1 : 0 ≤ f) (m1 : 0 ≤ m) (fm : f + m ≤ 840) : zx_T zp_P 0 zp_m180 0 [(0, .ref 60), (1, .int (zI (f))), (2, .int (zI (m)))] [] h (zr_P h (fun e => ((e = 1 ∧ zw_loc f (f + m) (zv_a h 60)) ∨ (e = 0 ∧ ¬ zw_loc f (f + m) (zv_a h 60))) ∧ 0 ≤ e ∧ e ≤ 1)) := by
  refine zx_T.l (i := .iload_n 1) (k := 1) (v := .int (zI (f))) (pc := 0) rfl rfl rfl ?_
  refine zx_T.t (i := .istore_n 3) (k := 1) (ls' := [(3, .int (zI (f))), (0, .ref 60), (1, .int (zI (f))), (2, .int (zI (m)))]) (st' := []) (pc := 1) rfl rfl rfl rfl ?_
  refine zx_T.lk (ls' := [(0, .ref 60), (1, .int (zI (f))), (2, .int (zI (m))), (3, .int (zI (f)))]) rfl ⟨rfl, rfl, rfl, rfl, trivial⟩ ?_
  exact zm_areWholeF_L (h := h) hI (f := f) (m := m) f1 m1 fm ((f + m - f : Int).toNat + 1) (k := f) (by omega) (by omega) (fun j j0 j1 => absurd j1 (by omega)) (Nat.lt_succ_self _)

set_option maxRecDepth 100000 in
set_option maxHeartbeats 4000000 in
theorem zm_localsGoF_L {h : zx_H} (hI : zb_I zc_H h) {f : Int} (F : zF) (hF : zr_Fr h F) (oF : F.ok) (f1 : 0 ≤ f) (f2 : f < F.n) (n : Nat) : (∀ {k : Int} (k1 : 0 ≤ k) (k2 : k ≤ 8) (lg : ∀ j, 0 ≤ j → j < k → zc_g (zv_a h 61 j) (F.kf f j)), (8 - k : Int).toNat < n → zx_T zp_P 1 zp_m182 2 [(0, .ref 44), (1, .int (zI (f))), (2, .int (zI (k)))] [] h (zr_P h (fun e => ((e = 1 ∧ zs_lg (zv_a h 61) (F.kf f)) ∨ (e = 0 ∧ ¬ zs_lg (zv_a h 61) (F.kf f))) ∧ 0 ≤ e ∧ e ≤ 1))) := by
  induction n with
  | zero => exact fun _ _ _ hm => absurd hm (Nat.not_lt_zero _)
  | succ n ih =>
    intro k k1 k2 lg hm
    have of := oF.2.2 f f1 f2
    have hf := hF.2 f f1 f2
    have ofn := oF.2.1
    refine zx_T.l (i := .iload_n 2) (k := 1) (v := .int (zI (k))) (pc := 2) rfl rfl rfl ?_
    refine zx_T.s (i := .bipush 8) (k := 2) (st' := [.int (zI (8)), .int (zI (k))]) (pc := 3) rfl rfl ?_
    refine zr_i2 (x := k) (y := 8) (t := 34) (pc := 5) rfl rfl (by omega) (by omega) (by omega) (by omega) (fun (c1 : 8 ≤ k) => ?_) (fun (c1 : ¬ (8 ≤ k)) => ?_)
    · refine zx_T.s (i := .iconst 1) (k := 1) (st' := [.int (zI (1))]) (pc := 34) rfl rfl ?_
      exact zr_ir (x := 1) (pc := 35) rfl rfl (zr_nb (by omega) (by omega)) ⟨rfl, _, rfl, by dsimp only; exact ⟨Or.inl ⟨rfl, fun j j0 j1 => lg j j0 (by omega)⟩, by omega, by omega⟩⟩
    · refine zx_T.l (i := .aload_n 0) (k := 1) (v := .ref 44) (pc := 8) rfl rfl rfl ?_
      refine zr_gr (k := 24) (b := 61) (pc := 9) rfl rfl rfl hI ?_
      refine zx_T.l (i := .iload_n 2) (k := 1) (v := .int (zI (k))) (pc := 12) rfl rfl rfl ?_
      refine zr_al (n := 14) (lo := 0) (hi := 8) (e := zv_a h 61 k) (pc := 13) rfl rfl rfl hI (by omega) (by omega) rfl (fun g2a g2b => ?_)
      refine zx_T.l (i := .aload_n 0) (k := 1) (v := .ref 44) (pc := 14) rfl rfl rfl ?_
      refine zx_T.l (i := .iload_n 1) (k := 1) (v := .int (zI (f))) (pc := 15) rfl rfl rfl ?_
      refine zx_T.l (i := .iload_n 2) (k := 1) (v := .int (zI (k))) (pc := 16) rfl rfl rfl ?_
      refine zr_iv (cj := 181) (q' := zp_m181) (As := [.int (zI (f)), .int (zI (k))]) (rest := [.int (zI (zv_a h 61 k))]) (pc := 17) rfl rfl rfl rfl rfl rfl (Nat.le_of_ble_eq_true rfl) rfl (Nat.le_of_ble_eq_true rfl) hI ((zm_frameLocal (h := h) hI (f := f) (k := k) (by omega) (by omega) (by omega) (by omega)).up (Nat.le_of_ble_eq_true rfl)) ?_
      rintro r3 h6 ⟨h6q, v4, r3q, x5⟩
      subst h6q r3q
      try dsimp only at x5
      have fL := x5.2.2
      have kf9 : v4 = F.kf f k := (by have kz := of.2.2.2.2 k; have ky := hf.2.2.2.1 k; omega)
      show zx_T zp_P 1 zp_m182 20 [(0, .ref 44), (1, .int (zI (f))), (2, .int (zI (k)))] [.int (zI (v4)), .int (zI (zv_a h 61 k))] h _
      refine zr_is (cj := 156) (q' := zp_m156) (As := [.int (zI (zv_a h 61 k)), .int (zI (v4))]) (rest := []) (pc := 20) rfl rfl rfl rfl rfl rfl (Nat.le_of_ble_eq_true rfl) rfl (Nat.le_of_ble_eq_true rfl) rfl ((zm_goesAsR (h := h) hI (a := zv_a h 61 k) (b := v4) (by omega) (by omega) (by omega) (by omega)).up (Nat.le_of_ble_eq_true rfl)) ?_
      rintro r7 h10 ⟨h10q, v8, r7q, x9⟩
      subst h10q r7q
      try dsimp only at x9
      have gA := x9.1
      show zx_T zp_P 1 zp_m182 23 [(0, .ref 44), (1, .int (zI (f))), (2, .int (zI (k)))] [.int (zI (v8))] h _
      refine zr_i1 (x := v8) (t := 28) (pc := 23) rfl rfl (by omega) (by omega) (fun (c11 : ¬ v8 = 0) => ?_) (fun (c11 : ¬ (¬ v8 = 0)) => ?_)
      · refine zr_inc (x := k) (n := 1) (y := k + 1) (ls' := [(2, .int (zI (k + 1))), (0, .ref 44), (1, .int (zI (f)))]) (pc := 28) rfl rfl rfl (by omega) rfl ?_
        refine zx_T.j (i := .goto (-29)) (k := 3) (pc' := 2) (st' := []) (pc := 31) rfl rfl rfl rfl rfl ?_
        refine zx_T.lk (ls' := [(0, .ref 44), (1, .int (zI (f))), (2, .int (zI (k + 1)))]) rfl ⟨rfl, rfl, rfl, trivial⟩ ?_
        exact ih (k := k + 1) (by omega) (by omega) (fun j j0 j1 => by rcases (show j = k ∨ j < k by omega) with z | z; (subst z; rw [← kf9]; exact (gA.resolve_right (fun z => absurd z.1 (by omega))).2); exact lg j j0 z) (by omega)
      · refine zx_T.s (i := .iconst 0) (k := 1) (st' := [.int (zI (0))]) (pc := 26) rfl rfl ?_
        exact zr_ir (x := 0) (pc := 27) rfl rfl (zr_nb (by omega) (by omega)) ⟨rfl, _, rfl, by dsimp only; exact ⟨Or.inr ⟨rfl, fun z => (gA.resolve_left (fun z => absurd z.1 (by omega))).2 (by rw [kf9]; exact z k k1 (by omega))⟩, by omega, by omega⟩⟩
set_option maxRecDepth 100000 in
set_option maxHeartbeats 4000000 in
theorem zm_localsGoF {h : zx_H} (hI : zb_I zc_H h) {f : Int} (F : zF) (hF : zr_Fr h F) (oF : F.ok) (f1 : 0 ≤ f) (f2 : f < F.n) : zx_T zp_P 1 zp_m182 0 [(0, .ref 44), (1, .int (zI (f)))] [] h (zr_P h (fun e => ((e = 1 ∧ zs_lg (zv_a h 61) (F.kf f)) ∨ (e = 0 ∧ ¬ zs_lg (zv_a h 61) (F.kf f))) ∧ 0 ≤ e ∧ e ≤ 1)) := by
  have of := oF.2.2 f f1 f2
  have hf := hF.2 f f1 f2
  have ofn := oF.2.1
  refine zx_T.s (i := .iconst 0) (k := 1) (st' := [.int (zI (0))]) (pc := 0) rfl rfl ?_
  refine zx_T.t (i := .istore_n 2) (k := 1) (ls' := [(2, .int (zI (0))), (0, .ref 44), (1, .int (zI (f)))]) (st' := []) (pc := 1) rfl rfl rfl rfl ?_
  refine zx_T.lk (ls' := [(0, .ref 44), (1, .int (zI (f))), (2, .int (zI (0)))]) rfl ⟨rfl, rfl, rfl, trivial⟩ ?_
  exact zm_localsGoF_L (h := h) hI (f := f) F hF oF f1 f2 ((8 - 0 : Int).toNat + 1) (k := 0) (by omega) (by omega) (fun j j0 j1 => absurd j1 (by omega)) (Nat.lt_succ_self _)

set_option maxRecDepth 100000 in
set_option maxHeartbeats 4000000 in
theorem zm_goesF_L {h : zx_H} (hI : zb_I zc_H h) {f : Int} (F : zF) (hF : zr_Fr h F) (oF : F.ok) (f1 : 0 ≤ f) (f2 : f < F.n) (n : Nat) : (∀ {k : Int} (k1 : 0 ≤ k) (k2 : k ≤ zv_i h 25) (sE : zv_i h 25 = F.st f) (lg : zs_lg (zv_a h 61) (F.kf f)) (sg : ∀ j, 0 ≤ j → j < k → zc_g (zv_a h 61 (8 + j)) (F.kf f (8 + j))), (10 - k : Int).toNat < n → zx_T zp_P 2 zp_m183 25 [(0, .ref 44), (1, .int (zI (f))), (2, .int (zI (k)))] [] h (zr_P h (fun e => ((e = 1 ∧ zs_gg (zv_i h 25) (zv_a h 61) (F.st f) (F.kf f)) ∨ (e = 0 ∧ ¬ zs_gg (zv_i h 25) (zv_a h 61) (F.st f) (F.kf f))) ∧ 0 ≤ e ∧ e ≤ 1))) := by
  induction n with
  | zero => exact fun _ _ _ _ _ hm => absurd hm (Nat.not_lt_zero _)
  | succ n ih =>
    intro k k1 k2 sE lg sg hm
    have of := oF.2.2 f f1 f2
    have hf := hF.2 f f1 f2
    have ofn := oF.2.1
    have hS := zv_ri hI (k := 25) rfl
    refine zx_T.l (i := .iload_n 2) (k := 1) (v := .int (zI (k))) (pc := 25) rfl rfl rfl ?_
    refine zx_T.l (i := .aload_n 0) (k := 1) (v := .ref 44) (pc := 26) rfl rfl rfl ?_
    refine zr_gi (k := 25) (lo := 0) (hi := 6) (e := zv_i h 25) (pc := 27) rfl rfl rfl hI rfl (fun g1a g1b => ?_)
    refine zr_i2 (x := k) (y := zv_i h 25) (t := 74) (pc := 30) rfl rfl (by omega) (by omega) (by omega) (by omega) (fun (c2 : (zv_i h 25) ≤ k) => ?_) (fun (c2 : ¬ ((zv_i h 25) ≤ k)) => ?_)
    · refine zx_T.s (i := .iconst 1) (k := 1) (st' := [.int (zI (1))]) (pc := 74) rfl rfl ?_
      exact zr_ir (x := 1) (pc := 75) rfl rfl (zr_nb (by omega) (by omega)) ⟨rfl, _, rfl, by dsimp only; exact ⟨Or.inl ⟨rfl, sE, lg, fun j j0 j1 => sg j j0 (by omega)⟩, by omega, by omega⟩⟩
    · refine zx_T.l (i := .aload_n 0) (k := 1) (v := .ref 44) (pc := 33) rfl rfl rfl ?_
      refine zr_gr (k := 24) (b := 61) (pc := 34) rfl rfl rfl hI ?_
      refine zx_T.s (i := .bipush 8) (k := 2) (st' := [.int (zI (8)), .ref 61]) (pc := 37) rfl rfl ?_
      refine zx_T.l (i := .iload_n 2) (k := 1) (v := .int (zI (k))) (pc := 39) rfl rfl rfl ?_
      refine zr_add (x := 8) (y := k) (e := k + 8) (pc := 40) rfl (by omega) ?_
      refine zr_al (n := 14) (lo := 0) (hi := 8) (e := zv_a h 61 (k + 8)) (pc := 41) rfl rfl rfl hI (by omega) (by omega) rfl (fun g3a g3b => ?_)
      refine zx_T.l (i := .aload_n 0) (k := 1) (v := .ref 44) (pc := 42) rfl rfl rfl ?_
      refine zr_gr (k := 23) (b := 60) (pc := 43) rfl rfl rfl hI ?_
      refine zx_T.s (i := .bipush 14) (k := 2) (st' := [.int (zI (14)), .ref 60, .int (zI (zv_a h 61 (k + 8)))]) (pc := 46) rfl rfl ?_
      refine zx_T.l (i := .iload_n 1) (k := 1) (v := .int (zI (f))) (pc := 48) rfl rfl rfl ?_
      refine zr_mul (x := 14) (y := f) (e := 14 * f) (pc := 49) rfl (by omega) ?_
      refine zx_T.l (i := .aload_n 0) (k := 1) (v := .ref 44) (pc := 50) rfl rfl rfl ?_
      refine zr_gr (k := 21) (b := 58) (pc := 51) rfl rfl rfl hI ?_
      refine zx_T.l (i := .iload_n 1) (k := 1) (v := .int (zI (f))) (pc := 54) rfl rfl rfl ?_
      refine zr_al (n := 60) (lo := 0) (hi := 8) (e := zv_a h 58 f) (pc := 55) rfl rfl rfl hI (by omega) (by omega) rfl (fun g4a g4b => ?_)
      refine zr_add (x := 14 * f) (y := zv_a h 58 f) (e := 14 * f + zv_a h 58 f) (pc := 56) rfl (by omega) ?_
      refine zx_T.l (i := .iload_n 2) (k := 1) (v := .int (zI (k))) (pc := 57) rfl rfl rfl ?_
      refine zr_add (x := 14 * f + zv_a h 58 f) (y := k) (e := 14 * f + k + zv_a h 58 f) (pc := 58) rfl (by omega) ?_
      refine zr_al (n := 840) (lo := 0) (hi := 8) (e := zv_a h 60 (14 * f + k + zv_a h 58 f)) (pc := 59) rfl rfl rfl hI (by omega) (by omega) rfl (fun g5a g5b => ?_)
      have kf9 : zv_a h 60 (14 * f + k + zv_a h 58 f) = F.kf f (8 + k) := (by have ky := hf.2.2.2.2 k k1 (by omega); have kl := hf.2.1; rw [show 14 * f + k + zv_a h 58 f = 14 * f + F.lo f + k by omega]; exact ky)
      refine zr_is (cj := 156) (q' := zp_m156) (As := [.int (zI (zv_a h 61 (k + 8))), .int (zI (zv_a h 60 (14 * f + k + zv_a h 58 f)))]) (rest := []) (pc := 60) rfl rfl rfl rfl rfl rfl (Nat.le_of_ble_eq_true rfl) rfl (Nat.le_of_ble_eq_true rfl) rfl ((zm_goesAsR (h := h) hI (a := zv_a h 61 (k + 8)) (b := zv_a h 60 (14 * f + k + zv_a h 58 f)) (by omega) (by omega) (by omega) (by omega)).up (Nat.le_of_ble_eq_true rfl)) ?_
      rintro r6 h9 ⟨h9q, v7, r6q, x8⟩
      subst h9q r6q
      try dsimp only at x8
      have gA := x8.1
      show zx_T zp_P 2 zp_m183 63 [(0, .ref 44), (1, .int (zI (f))), (2, .int (zI (k)))] [.int (zI (v7))] h _
      refine zr_i1 (x := v7) (t := 68) (pc := 63) rfl rfl (by omega) (by omega) (fun (c10 : ¬ v7 = 0) => ?_) (fun (c10 : ¬ (¬ v7 = 0)) => ?_)
      · refine zr_inc (x := k) (n := 1) (y := k + 1) (ls' := [(2, .int (zI (k + 1))), (0, .ref 44), (1, .int (zI (f)))]) (pc := 68) rfl rfl rfl (by omega) rfl ?_
        refine zx_T.j (i := .goto (-46)) (k := 3) (pc' := 25) (st' := []) (pc := 71) rfl rfl rfl rfl rfl ?_
        refine zx_T.lk (ls' := [(0, .ref 44), (1, .int (zI (f))), (2, .int (zI (k + 1)))]) rfl ⟨rfl, rfl, rfl, trivial⟩ ?_
        exact ih (k := k + 1) (by omega) (by omega) (by omega) lg (fun j j0 j1 => by rcases (show j = k ∨ j < k by omega) with z | z; (subst z; rw [← kf9, show 8 + j = j + 8 by omega]; exact (gA.resolve_right (fun z => absurd z.1 (by omega))).2); exact sg j j0 z) (by omega)
      · refine zx_T.s (i := .iconst 0) (k := 1) (st' := [.int (zI (0))]) (pc := 66) rfl rfl ?_
        exact zr_ir (x := 0) (pc := 67) rfl rfl (zr_nb (by omega) (by omega)) ⟨rfl, _, rfl, by dsimp only; exact ⟨Or.inr ⟨rfl, fun z => (gA.resolve_left (fun z => absurd z.1 (by omega))).2 (by have z9 := z.2.2 k k1 (by omega); rw [show 8 + k = k + 8 by omega] at z9 kf9; rw [kf9]; exact z9)⟩, by omega, by omega⟩⟩
set_option maxRecDepth 100000 in
set_option maxHeartbeats 4000000 in
theorem zm_goesF {h : zx_H} (hI : zb_I zc_H h) {f : Int} (F : zF) (hF : zr_Fr h F) (oF : F.ok) (f1 : 0 ≤ f) (f2 : f < F.n) : zx_T zp_P 2 zp_m183 0 [(0, .ref 44), (1, .int (zI (f)))] [] h (zr_P h (fun e => ((e = 1 ∧ zs_gg (zv_i h 25) (zv_a h 61) (F.st f) (F.kf f)) ∨ (e = 0 ∧ ¬ zs_gg (zv_i h 25) (zv_a h 61) (F.st f) (F.kf f))) ∧ 0 ≤ e ∧ e ≤ 1)) := by
  have of := oF.2.2 f f1 f2
  have hf := hF.2 f f1 f2
  have ofn := oF.2.1
  have hS := zv_ri hI (k := 25) rfl
  refine zx_T.l (i := .aload_n 0) (k := 1) (v := .ref 44) (pc := 0) rfl rfl rfl ?_
  refine zr_gr (k := 22) (b := 59) (pc := 1) rfl rfl rfl hI ?_
  refine zx_T.l (i := .iload_n 1) (k := 1) (v := .int (zI (f))) (pc := 4) rfl rfl rfl ?_
  refine zr_al (n := 60) (lo := 0) (hi := 6) (e := zv_a h 59 f) (pc := 5) rfl rfl rfl hI (by omega) (by omega) rfl (fun g11a g11b => ?_)
  refine zx_T.l (i := .aload_n 0) (k := 1) (v := .ref 44) (pc := 6) rfl rfl rfl ?_
  refine zr_gi (k := 25) (lo := 0) (hi := 6) (e := zv_i h 25) (pc := 7) rfl rfl rfl hI rfl (fun g12a g12b => ?_)
  refine zr_i2 (x := zv_a h 59 f) (y := zv_i h 25) (t := 21) (pc := 10) rfl rfl (by omega) (by omega) (by omega) (by omega) (fun (c13 : ¬ (zv_a h 59 f) = (zv_i h 25)) => ?_) (fun (c13 : ¬ (¬ (zv_a h 59 f) = (zv_i h 25))) => ?_)
  · refine zx_T.s (i := .iconst 0) (k := 1) (st' := [.int (zI (0))]) (pc := 21) rfl rfl ?_
    exact zr_ir (x := 0) (pc := 22) rfl rfl (zr_nb (by omega) (by omega)) ⟨rfl, _, rfl, by dsimp only; exact ⟨Or.inr ⟨rfl, fun z => by have z1 := z.1; first | omega | exact (lG.resolve_left (fun z => absurd z.1 (by omega))).2 z.2.1⟩, by omega, by omega⟩⟩
  · refine zx_T.l (i := .aload_n 0) (k := 1) (v := .ref 44) (pc := 13) rfl rfl rfl ?_
    refine zx_T.l (i := .iload_n 1) (k := 1) (v := .int (zI (f))) (pc := 14) rfl rfl rfl ?_
    refine zr_iv (cj := 182) (q' := zp_m182) (As := [.int (zI (f))]) (rest := []) (pc := 15) rfl rfl rfl rfl rfl rfl (Nat.le_of_ble_eq_true rfl) rfl (Nat.le_of_ble_eq_true rfl) hI ((zm_localsGoF (h := h) hI (f := f) F hF oF (by omega) (by omega)).up (Nat.le_of_ble_eq_true rfl)) ?_
    rintro r14 h17 ⟨h17q, v15, r14q, x16⟩
    subst h17q r14q
    try dsimp only at x16
    have lG := x16.1
    show zx_T zp_P 2 zp_m183 18 [(0, .ref 44), (1, .int (zI (f)))] [.int (zI (v15))] h _
    refine zr_i1 (x := v15) (t := 23) (pc := 18) rfl rfl (by omega) (by omega) (fun (c18 : ¬ v15 = 0) => ?_) (fun (c18 : ¬ (¬ v15 = 0)) => ?_)
    · refine zx_T.s (i := .iconst 0) (k := 1) (st' := [.int (zI (0))]) (pc := 23) rfl rfl ?_
      refine zx_T.t (i := .istore_n 2) (k := 1) (ls' := [(2, .int (zI (0))), (0, .ref 44), (1, .int (zI (f)))]) (st' := []) (pc := 24) rfl rfl rfl rfl ?_
      refine zx_T.lk (ls' := [(0, .ref 44), (1, .int (zI (f))), (2, .int (zI (0)))]) rfl ⟨rfl, rfl, rfl, trivial⟩ ?_
      exact zm_goesF_L (h := h) hI (f := f) F hF oF f1 f2 ((10 - 0 : Int).toNat + 1) (k := 0) (by omega) (by omega) (by omega) (lG.resolve_right (fun z => absurd z.1 (by omega))).2 (fun j j0 j1 => absurd j1 (by omega)) (Nat.lt_succ_self _)
    · refine zx_T.s (i := .iconst 0) (k := 1) (st' := [.int (zI (0))]) (pc := 21) rfl rfl ?_
      exact zr_ir (x := 0) (pc := 22) rfl rfl (zr_nb (by omega) (by omega)) ⟨rfl, _, rfl, by dsimp only; exact ⟨Or.inr ⟨rfl, fun z => by have z1 := z.1; first | omega | exact (lG.resolve_left (fun z => absurd z.1 (by omega))).2 z.2.1⟩, by omega, by omega⟩⟩

set_option maxRecDepth 100000 in
set_option maxHeartbeats 4000000 in
theorem zm_takeF_L {h : zx_H} (hI : zb_I zc_H h) {f : Int} (F : zF) (hF : zr_Fr h F) (oF : F.ok) (f1 : 0 ≤ f) (f2 : f < F.n) (n : Nat) : (∀ {h2 : zx_H} {k : Int} (hI2 : zb_I zc_H h2) (k1 : 0 ≤ k) (k2 : k ≤ 8) (hw : zb_W [(61, 0)] h h2) (n8 : zv_a h2 61 8 = zv_a h 61 8) (lk : ∀ j, 0 ≤ j → j < k → zv_a h2 61 j = F.kf f j), (100 - k : Int).toNat < n → zx_T zp_P 1 zp_m184 2 [(0, .ref 44), (1, .int (zI (f))), (2, .int (zI (k)))] [] h2 (zr_V [(44, 25), (61, 0)] h (fun h' => zv_i h' 25 = F.st f ∧ (∀ j, 0 ≤ j → j < 8 + F.st f → zv_a h' 61 j = F.kf f j) ∧ (F.st f = 0 → zv_a h' 61 8 = zv_a h 61 8)))) ∧ (∀ {h2 : zx_H} {k : Int} (hI2 : zb_I zc_H h2) (k1 : 0 ≤ k) (k2 : k ≤ F.st f) (hw : zb_W [(44, 25), (61, 0)] h h2) (hs : zv_i h2 25 = F.st f) (n8 : F.st f = 0 → zv_a h2 61 8 = zv_a h 61 8) (lk : ∀ j, 0 ≤ j → j < 8 + k → zv_a h2 61 j = F.kf f j), (10 - k : Int).toNat < n → zx_T zp_P 1 zp_m184 38 [(0, .ref 44), (1, .int (zI (f))), (2, .int (zI (k)))] [] h2 (zr_V [(44, 25), (61, 0)] h (fun h' => zv_i h' 25 = F.st f ∧ (∀ j, 0 ≤ j → j < 8 + F.st f → zv_a h' 61 j = F.kf f j) ∧ (F.st f = 0 → zv_a h' 61 8 = zv_a h 61 8)))) := by
  induction n with
  | zero => exact ⟨fun _ _ _ _ _ _ hm => absurd hm (Nat.not_lt_zero _), fun _ _ _ _ _ _ _ hm => absurd hm (Nat.not_lt_zero _)⟩
  | succ n ih =>
    refine ⟨?_, ?_⟩
    · intro h2 k hI2 k1 k2 hw n8 lk hm
      have of := oF.2.2 f f1 f2
      have hf := hF.2 f f1 f2
      have ofn := oF.2.1
      refine zx_T.l (i := .iload_n 2) (k := 1) (v := .int (zI (k))) (pc := 2) rfl rfl rfl ?_
      refine zx_T.s (i := .bipush 8) (k := 2) (st' := [.int (zI (8)), .int (zI (k))]) (pc := 3) rfl rfl ?_
      refine zr_i2 (x := k) (y := 8) (t := 26) (pc := 5) rfl rfl (by omega) (by omega) (by omega) (by omega) (fun (c1 : 8 ≤ k) => ?_) (fun (c1 : ¬ (8 ≤ k)) => ?_)
      · refine zx_T.l (i := .aload_n 0) (k := 1) (v := .ref 44) (pc := 26) rfl rfl rfl ?_
        refine zx_T.l (i := .aload_n 0) (k := 1) (v := .ref 44) (pc := 27) rfl rfl rfl ?_
        refine zr_gr (k := 22) (b := 59) (pc := 28) rfl rfl rfl hI2 ?_
        refine zx_T.l (i := .iload_n 1) (k := 1) (v := .int (zI (f))) (pc := 31) rfl rfl rfl ?_
        refine zr_al (n := 60) (lo := 0) (hi := 6) (e := zv_a h 59 f) (pc := 32) rfl rfl rfl hI2 (by omega) (by omega) (zv_wa hw rfl f) (fun g2a g2b => ?_)
        refine zr_pi (k := 25) (lo := 0) (hi := 6) (e := zv_a h 59 f) (pc := 33) rfl rfl rfl rfl rfl rfl hI2 (by omega) (by omega) (fun h3 ih3 w4 e5 => ?_)
        refine zx_T.s (i := .iconst 0) (k := 1) (st' := [.int (zI (0))]) (pc := 36) rfl rfl ?_
        refine zx_T.t (i := .istore_n 2) (k := 1) (ls' := [(2, .int (zI (0))), (0, .ref 44), (1, .int (zI (f)))]) (st' := []) (pc := 37) rfl rfl rfl rfl ?_
        have a61 : ∀ j, 0 ≤ j → zv_a h3 61 j = zv_a h2 61 j := fun j hj => by rw [zv_wa w4 rfl j]
        have y7 : zv_i h3 25 = zv_a h 59 f := e5
        refine zx_T.lk (ls' := [(0, .ref 44), (1, .int (zI (f))), (2, .int (zI (0)))]) rfl ⟨rfl, rfl, rfl, trivial⟩ ?_
        exact ih.2 (h2 := h3) (k := 0) ih3 (by omega) (by omega) ((hw.wd rfl : zb_W [(44, 25), (61, 0)] h _).tr (w4.wd rfl)) (by omega) (fun _ => by rw [a61 8 (by decide)]; exact n8) (fun j j0 j1 => by rw [a61 j j0]; exact lk j j0 (by omega)) (by omega)
      · refine zx_T.l (i := .aload_n 0) (k := 1) (v := .ref 44) (pc := 8) rfl rfl rfl ?_
        refine zr_gr (k := 24) (b := 61) (pc := 9) rfl rfl rfl hI2 ?_
        refine zx_T.l (i := .iload_n 2) (k := 1) (v := .int (zI (k))) (pc := 12) rfl rfl rfl ?_
        refine zx_T.l (i := .aload_n 0) (k := 1) (v := .ref 44) (pc := 13) rfl rfl rfl ?_
        refine zx_T.l (i := .iload_n 1) (k := 1) (v := .int (zI (f))) (pc := 14) rfl rfl rfl ?_
        refine zx_T.l (i := .iload_n 2) (k := 1) (v := .int (zI (k))) (pc := 15) rfl rfl rfl ?_
        refine zr_iv (cj := 181) (q' := zp_m181) (As := [.int (zI (f)), .int (zI (k))]) (rest := [.int (zI (k)), .ref 61]) (pc := 16) rfl rfl rfl rfl rfl rfl (Nat.le_of_ble_eq_true rfl) rfl (Nat.le_of_ble_eq_true rfl) hI2 ((zm_frameLocal (h := h2) hI2 (f := f) (k := k) (by omega) (by omega) (by omega) (by omega)).up (Nat.le_of_ble_eq_true rfl)) ?_
        rintro r8 h11 ⟨h11q, v9, r8q, x10⟩
        subst h11q r8q
        try dsimp only at x10
        have fL := x10.2.2
        simp only [zv_wa hw (a := 58) rfl, zv_wa hw (a := 60) rfl] at fL
        have kf9 : v9 = F.kf f k := (by have kz := of.2.2.2.2 k; have ky := hf.2.2.2.1 k; omega)
        show zx_T zp_P 1 zp_m184 19 [(0, .ref 44), (1, .int (zI (f))), (2, .int (zI (k)))] [.int (zI (v9)), .int (zI (k)), .ref 61] h2 _
        refine zr_as (n := 14) (lo := 0) (hi := 8) (e := v9) (pc := 19) rfl rfl rfl rfl hI2 (by omega) (by omega) (by omega) (by omega) (fun h12 ih12 w13 s14 => ?_)
        refine zr_inc (x := k) (n := 1) (y := k + 1) (ls' := [(2, .int (zI (k + 1))), (0, .ref 44), (1, .int (zI (f)))]) (pc := 20) rfl rfl rfl (by omega) rfl ?_
        refine zx_T.j (i := .goto (-21)) (k := 3) (pc' := 2) (st' := []) (pc := 23) rfl rfl rfl rfl rfl ?_
        have a61 : ∀ j, 0 ≤ j → zv_a h12 61 j = if j = k then v9 else zv_a h2 61 j := fun j hj => by rw [s14 j hj]
        refine zx_T.lk (ls' := [(0, .ref 44), (1, .int (zI (f))), (2, .int (zI (k + 1)))]) rfl ⟨rfl, rfl, rfl, trivial⟩ ?_
        exact ih.1 (h2 := h12) (k := k + 1) ih12 (by omega) (by omega) ((hw.wd rfl : zb_W [(61, 0)] h _).tr (w13.wd rfl)) (by rw [a61 8 (by decide), if_neg (by omega)]; exact n8) (fun j j0 j1 => by rw [a61 j j0]; by_cases z : j = k; (rw [if_pos z, z]; exact kf9); (rw [if_neg z]; exact lk j j0 (by omega))) (by omega)
    · intro h2 k hI2 k1 k2 hw hs n8 lk hm
      have of := oF.2.2 f f1 f2
      have hf := hF.2 f f1 f2
      have ofn := oF.2.1
      refine zx_T.l (i := .iload_n 2) (k := 1) (v := .int (zI (k))) (pc := 38) rfl rfl rfl ?_
      refine zx_T.l (i := .aload_n 0) (k := 1) (v := .ref 44) (pc := 39) rfl rfl rfl ?_
      refine zr_gi (k := 25) (lo := 0) (hi := 6) (e := zv_i h2 25) (pc := 40) rfl rfl rfl hI2 rfl (fun g16a g16b => ?_)
      refine zr_i2 (x := k) (y := zv_i h2 25) (t := 79) (pc := 43) rfl rfl (by omega) (by omega) (by omega) (by omega) (fun (c17 : (zv_i h2 25) ≤ k) => ?_) (fun (c17 : ¬ ((zv_i h2 25) ≤ k)) => ?_)
      · exact zr_vr (pc := 79) rfl rfl ⟨hI2, (hw.wd rfl : zb_W [(44, 25), (61, 0)] h _), rfl, by dsimp only; exact ⟨hs, fun j j0 j1 => lk j j0 (by omega), n8⟩⟩
      · have kf9 : zv_a h 60 (14 * f + k + zv_a h 58 f) = F.kf f (8 + k) := (by have ky := hf.2.2.2.2 k k1 (by omega); have kl := hf.2.1; rw [show 14 * f + k + zv_a h 58 f = 14 * f + F.lo f + k by omega]; exact ky)
        refine zx_T.l (i := .aload_n 0) (k := 1) (v := .ref 44) (pc := 46) rfl rfl rfl ?_
        refine zr_gr (k := 24) (b := 61) (pc := 47) rfl rfl rfl hI2 ?_
        refine zx_T.s (i := .bipush 8) (k := 2) (st' := [.int (zI (8)), .ref 61]) (pc := 50) rfl rfl ?_
        refine zx_T.l (i := .iload_n 2) (k := 1) (v := .int (zI (k))) (pc := 52) rfl rfl rfl ?_
        refine zr_add (x := 8) (y := k) (e := k + 8) (pc := 53) rfl (by omega) ?_
        refine zx_T.l (i := .aload_n 0) (k := 1) (v := .ref 44) (pc := 54) rfl rfl rfl ?_
        refine zr_gr (k := 23) (b := 60) (pc := 55) rfl rfl rfl hI2 ?_
        refine zx_T.s (i := .bipush 14) (k := 2) (st' := [.int (zI (14)), .ref 60, .int (zI (k + 8)), .ref 61]) (pc := 58) rfl rfl ?_
        refine zx_T.l (i := .iload_n 1) (k := 1) (v := .int (zI (f))) (pc := 60) rfl rfl rfl ?_
        refine zr_mul (x := 14) (y := f) (e := 14 * f) (pc := 61) rfl (by omega) ?_
        refine zx_T.l (i := .aload_n 0) (k := 1) (v := .ref 44) (pc := 62) rfl rfl rfl ?_
        refine zr_gr (k := 21) (b := 58) (pc := 63) rfl rfl rfl hI2 ?_
        refine zx_T.l (i := .iload_n 1) (k := 1) (v := .int (zI (f))) (pc := 66) rfl rfl rfl ?_
        refine zr_al (n := 60) (lo := 0) (hi := 8) (e := zv_a h 58 f) (pc := 67) rfl rfl rfl hI2 (by omega) (by omega) (zv_wa hw rfl f) (fun g18a g18b => ?_)
        refine zr_add (x := 14 * f) (y := zv_a h 58 f) (e := 14 * f + zv_a h 58 f) (pc := 68) rfl (by omega) ?_
        refine zx_T.l (i := .iload_n 2) (k := 1) (v := .int (zI (k))) (pc := 69) rfl rfl rfl ?_
        refine zr_add (x := 14 * f + zv_a h 58 f) (y := k) (e := 14 * f + k + zv_a h 58 f) (pc := 70) rfl (by omega) ?_
        refine zr_al (n := 840) (lo := 0) (hi := 8) (e := zv_a h 60 (14 * f + k + zv_a h 58 f)) (pc := 71) rfl rfl rfl hI2 (by omega) (by omega) (zv_wa hw rfl (14 * f + k + zv_a h 58 f)) (fun g19a g19b => ?_)
        refine zr_as (n := 14) (lo := 0) (hi := 8) (e := zv_a h 60 (14 * f + k + zv_a h 58 f)) (pc := 72) rfl rfl rfl rfl hI2 (by omega) (by omega) (by omega) (by omega) (fun h20 ih20 w21 s22 => ?_)
        refine zr_inc (x := k) (n := 1) (y := k + 1) (ls' := [(2, .int (zI (k + 1))), (0, .ref 44), (1, .int (zI (f)))]) (pc := 73) rfl rfl rfl (by omega) rfl ?_
        refine zx_T.j (i := .goto (-38)) (k := 3) (pc' := 38) (st' := []) (pc := 76) rfl rfl rfl rfl rfl ?_
        have a61 : ∀ j, 0 ≤ j → zv_a h20 61 j = if j = k + 8 then zv_a h 60 (14 * f + k + zv_a h 58 f) else zv_a h2 61 j := fun j hj => by rw [s22 j hj]
        have y24 : zv_i h20 25 = zv_i h2 25 := (zv_wi w21 rfl)
        refine zx_T.lk (ls' := [(0, .ref 44), (1, .int (zI (f))), (2, .int (zI (k + 1)))]) rfl ⟨rfl, rfl, rfl, trivial⟩ ?_
        exact ih.2 (h2 := h20) (k := k + 1) ih20 (by omega) (by omega) ((hw.wd rfl : zb_W [(44, 25), (61, 0)] h _).tr (w21.wd rfl)) (by omega) (fun z => absurd z (by omega)) (fun j j0 j1 => by rw [a61 j j0]; by_cases z : j = k + 8; (rw [if_pos z, z, show k + 8 = 8 + k by omega]; exact kf9); (rw [if_neg z]; exact lk j j0 (by omega))) (by omega)
set_option maxRecDepth 100000 in
set_option maxHeartbeats 4000000 in
theorem zm_takeF {h : zx_H} (hI : zb_I zc_H h) {f : Int} (F : zF) (hF : zr_Fr h F) (oF : F.ok) (f1 : 0 ≤ f) (f2 : f < F.n) : zx_T zp_P 1 zp_m184 0 [(0, .ref 44), (1, .int (zI (f)))] [] h (zr_V [(44, 25), (61, 0)] h (fun h' => zv_i h' 25 = F.st f ∧ (∀ j, 0 ≤ j → j < 8 + F.st f → zv_a h' 61 j = F.kf f j) ∧ (F.st f = 0 → zv_a h' 61 8 = zv_a h 61 8))) := by
  have of := oF.2.2 f f1 f2
  have hf := hF.2 f f1 f2
  have ofn := oF.2.1
  refine zx_T.s (i := .iconst 0) (k := 1) (st' := [.int (zI (0))]) (pc := 0) rfl rfl ?_
  refine zx_T.t (i := .istore_n 2) (k := 1) (ls' := [(2, .int (zI (0))), (0, .ref 44), (1, .int (zI (f)))]) (st' := []) (pc := 1) rfl rfl rfl rfl ?_
  have a61 : ∀ j, 0 ≤ j → zv_a h 61 j = zv_a h 61 j := fun j hj => rfl
  refine zx_T.lk (ls' := [(0, .ref 44), (1, .int (zI (f))), (2, .int (zI (0)))]) rfl ⟨rfl, rfl, rfl, trivial⟩ ?_
  exact (zm_takeF_L (h := h) hI (f := f) F hF oF f1 f2 ((100 - 0 : Int).toNat + 1)).1 (h2 := h) (k := 0) hI (by omega) (by omega) zb_W.rf rfl (fun j j0 j1 => absurd j1 (by omega)) (Nat.lt_succ_self _)
