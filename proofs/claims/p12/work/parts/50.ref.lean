/-! ===== 50: the reference, method by method (by program) ===== -/
set_option maxRecDepth 100000 in
set_option maxHeartbeats 4000000 in
theorem zm_in {h : zx_H} (hI : zb_I zc_H h) {v : Int} {l : Int} {u : Int} (v1 : -2147483648 ≤ v) (v2 : v ≤ 2147483647) (l1 : -2147483648 ≤ l) (l2 : l ≤ 2147483647) (u1 : -2147483648 ≤ u) (u2 : u ≤ 2147483647) : zx_T zp_P 0 zp_m155 0 [(0, .int (zI (v))), (1, .int (zI (l))), (2, .int (zI (u)))] [] h (zr_P h (fun e => (e = 1 ∧ l ≤ v ∧ v ≤ u) ∨ (e = 0 ∧ ¬ (l ≤ v ∧ v ≤ u)))) := by
  refine zx_T.l (i := .iload_n 0) (k := 1) (v := .int (zI (v))) (pc := 0) rfl rfl rfl ?_
  refine zx_T.l (i := .iload_n 1) (k := 1) (v := .int (zI (l))) (pc := 1) rfl rfl rfl ?_
  refine zr_i2 (x := v) (y := l) (t := 14) (pc := 2) rfl rfl (by omega) (by omega) (by omega) (by omega) (fun (c1 : v < l) => ?_) (fun (c1 : ¬ (v < l)) => ?_)
  · refine zx_T.s (i := .iconst 0) (k := 1) (st' := [.int (zI (0))]) (pc := 14) rfl rfl ?_
    exact zr_ir (x := 0) (pc := 15) rfl rfl (zr_nb (by omega) (by omega)) ⟨rfl, _, rfl, by dsimp only; omega⟩
  · refine zx_T.l (i := .iload_n 0) (k := 1) (v := .int (zI (v))) (pc := 5) rfl rfl rfl ?_
    refine zx_T.l (i := .iload_n 2) (k := 1) (v := .int (zI (u))) (pc := 6) rfl rfl rfl ?_
    refine zr_i2 (x := v) (y := u) (t := 14) (pc := 7) rfl rfl (by omega) (by omega) (by omega) (by omega) (fun (c2 : u < v) => ?_) (fun (c2 : ¬ (u < v)) => ?_)
    · refine zx_T.s (i := .iconst 0) (k := 1) (st' := [.int (zI (0))]) (pc := 14) rfl rfl ?_
      exact zr_ir (x := 0) (pc := 15) rfl rfl (zr_nb (by omega) (by omega)) ⟨rfl, _, rfl, by dsimp only; omega⟩
    · refine zx_T.s (i := .iconst 1) (k := 1) (st' := [.int (zI (1))]) (pc := 10) rfl rfl ?_
      refine zx_T.j (i := .goto 4) (k := 3) (pc' := 15) (st' := [.int (zI (1))]) (pc := 11) rfl rfl rfl rfl rfl ?_
      exact zr_ir (x := 1) (pc := 15) rfl rfl (zr_nb (by omega) (by omega)) ⟨rfl, _, rfl, by dsimp only; omega⟩

set_option maxRecDepth 100000 in
set_option maxHeartbeats 4000000 in
theorem zm_goesAs {h : zx_H} (hI : zb_I zc_H h) {a : Int} {b : Int} (a1 : 0 ≤ a) (a2 : a ≤ 8) (b1 : 0 ≤ b) (b2 : b ≤ 8) : zx_T zp_P 0 zp_m156 0 [(0, .int (zI (a))), (1, .int (zI (b)))] [] h (zr_P h (fun e => (e = 1 ∧ (a = b ∨ b = 0 ∨ (a = 4 ∧ 5 ≤ b) ∨ ((a = 6 ∨ a = 7) ∧ b = 5) ∨ (a = 8 ∧ (b = 7 ∨ b = 5)))) ∨ (e = 0 ∧ ¬ (a = b ∨ b = 0 ∨ (a = 4 ∧ 5 ≤ b) ∨ ((a = 6 ∨ a = 7) ∧ b = 5) ∨ (a = 8 ∧ (b = 7 ∨ b = 5)))))) := by
  refine zx_T.l (i := .iload_n 0) (k := 1) (v := .int (zI (a))) (pc := 0) rfl rfl rfl ?_
  refine zx_T.l (i := .iload_n 1) (k := 1) (v := .int (zI (b))) (pc := 1) rfl rfl rfl ?_
  refine zr_i2 (x := a) (y := b) (t := 53) (pc := 2) rfl rfl (by omega) (by omega) (by omega) (by omega) (fun (c1 : a = b) => ?_) (fun (c1 : ¬ (a = b)) => ?_)
  · refine zx_T.s (i := .iconst 1) (k := 1) (st' := [.int (zI (1))]) (pc := 53) rfl rfl ?_
    refine zx_T.j (i := .goto 4) (k := 3) (pc' := 58) (st' := [.int (zI (1))]) (pc := 54) rfl rfl rfl rfl rfl ?_
    exact zr_ir (x := 1) (pc := 58) rfl rfl (zr_nb (by omega) (by omega)) ⟨rfl, _, rfl, by dsimp only; omega⟩
  · refine zx_T.l (i := .iload_n 1) (k := 1) (v := .int (zI (b))) (pc := 5) rfl rfl rfl ?_
    refine zr_i1 (x := b) (t := 53) (pc := 6) rfl rfl (by omega) (by omega) (fun (c2 : b = 0) => ?_) (fun (c2 : ¬ (b = 0)) => ?_)
    · refine zx_T.s (i := .iconst 1) (k := 1) (st' := [.int (zI (1))]) (pc := 53) rfl rfl ?_
      refine zx_T.j (i := .goto 4) (k := 3) (pc' := 58) (st' := [.int (zI (1))]) (pc := 54) rfl rfl rfl rfl rfl ?_
      exact zr_ir (x := 1) (pc := 58) rfl rfl (zr_nb (by omega) (by omega)) ⟨rfl, _, rfl, by dsimp only; omega⟩
    · refine zx_T.l (i := .iload_n 0) (k := 1) (v := .int (zI (a))) (pc := 9) rfl rfl rfl ?_
      refine zx_T.s (i := .iconst 4) (k := 1) (st' := [.int (zI (4)), .int (zI (a))]) (pc := 10) rfl rfl ?_
      refine zr_i2 (x := a) (y := 4) (t := 19) (pc := 11) rfl rfl (by omega) (by omega) (by omega) (by omega) (fun (c3 : ¬ a = 4) => ?_) (fun (c3 : ¬ (¬ a = 4)) => ?_)
      · refine zx_T.l (i := .iload_n 0) (k := 1) (v := .int (zI (a))) (pc := 19) rfl rfl rfl ?_
        refine zx_T.s (i := .bipush 6) (k := 2) (st' := [.int (zI (6)), .int (zI (a))]) (pc := 20) rfl rfl ?_
        refine zr_i2 (x := a) (y := 6) (t := 31) (pc := 22) rfl rfl (by omega) (by omega) (by omega) (by omega) (fun (c4 : a = 6) => ?_) (fun (c4 : ¬ (a = 6)) => ?_)
        · refine zx_T.l (i := .iload_n 1) (k := 1) (v := .int (zI (b))) (pc := 31) rfl rfl rfl ?_
          refine zx_T.s (i := .iconst 5) (k := 1) (st' := [.int (zI (5)), .int (zI (b))]) (pc := 32) rfl rfl ?_
          refine zr_i2 (x := b) (y := 5) (t := 53) (pc := 33) rfl rfl (by omega) (by omega) (by omega) (by omega) (fun (c5 : b = 5) => ?_) (fun (c5 : ¬ (b = 5)) => ?_)
          · refine zx_T.s (i := .iconst 1) (k := 1) (st' := [.int (zI (1))]) (pc := 53) rfl rfl ?_
            refine zx_T.j (i := .goto 4) (k := 3) (pc' := 58) (st' := [.int (zI (1))]) (pc := 54) rfl rfl rfl rfl rfl ?_
            exact zr_ir (x := 1) (pc := 58) rfl rfl (zr_nb (by omega) (by omega)) ⟨rfl, _, rfl, by dsimp only; omega⟩
          · refine zx_T.l (i := .iload_n 0) (k := 1) (v := .int (zI (a))) (pc := 36) rfl rfl rfl ?_
            refine zx_T.s (i := .bipush 8) (k := 2) (st' := [.int (zI (8)), .int (zI (a))]) (pc := 37) rfl rfl ?_
            refine zr_i2 (x := a) (y := 8) (t := 57) (pc := 39) rfl rfl (by omega) (by omega) (by omega) (by omega) (fun (c6 : ¬ a = 8) => ?_) (fun (c6 : ¬ (¬ a = 8)) => False.elim (by omega))
            refine zx_T.s (i := .iconst 0) (k := 1) (st' := [.int (zI (0))]) (pc := 57) rfl rfl ?_
            exact zr_ir (x := 0) (pc := 58) rfl rfl (zr_nb (by omega) (by omega)) ⟨rfl, _, rfl, by dsimp only; omega⟩
        · refine zx_T.l (i := .iload_n 0) (k := 1) (v := .int (zI (a))) (pc := 25) rfl rfl rfl ?_
          refine zx_T.s (i := .bipush 7) (k := 2) (st' := [.int (zI (7)), .int (zI (a))]) (pc := 26) rfl rfl ?_
          refine zr_i2 (x := a) (y := 7) (t := 36) (pc := 28) rfl rfl (by omega) (by omega) (by omega) (by omega) (fun (c7 : ¬ a = 7) => ?_) (fun (c7 : ¬ (¬ a = 7)) => ?_)
          · refine zx_T.l (i := .iload_n 0) (k := 1) (v := .int (zI (a))) (pc := 36) rfl rfl rfl ?_
            refine zx_T.s (i := .bipush 8) (k := 2) (st' := [.int (zI (8)), .int (zI (a))]) (pc := 37) rfl rfl ?_
            refine zr_i2 (x := a) (y := 8) (t := 57) (pc := 39) rfl rfl (by omega) (by omega) (by omega) (by omega) (fun (c8 : ¬ a = 8) => ?_) (fun (c8 : ¬ (¬ a = 8)) => ?_)
            · refine zx_T.s (i := .iconst 0) (k := 1) (st' := [.int (zI (0))]) (pc := 57) rfl rfl ?_
              exact zr_ir (x := 0) (pc := 58) rfl rfl (zr_nb (by omega) (by omega)) ⟨rfl, _, rfl, by dsimp only; omega⟩
            · refine zx_T.l (i := .iload_n 1) (k := 1) (v := .int (zI (b))) (pc := 42) rfl rfl rfl ?_
              refine zx_T.s (i := .bipush 7) (k := 2) (st' := [.int (zI (7)), .int (zI (b))]) (pc := 43) rfl rfl ?_
              refine zr_i2 (x := b) (y := 7) (t := 53) (pc := 45) rfl rfl (by omega) (by omega) (by omega) (by omega) (fun (c9 : b = 7) => ?_) (fun (c9 : ¬ (b = 7)) => ?_)
              · refine zx_T.s (i := .iconst 1) (k := 1) (st' := [.int (zI (1))]) (pc := 53) rfl rfl ?_
                refine zx_T.j (i := .goto 4) (k := 3) (pc' := 58) (st' := [.int (zI (1))]) (pc := 54) rfl rfl rfl rfl rfl ?_
                exact zr_ir (x := 1) (pc := 58) rfl rfl (zr_nb (by omega) (by omega)) ⟨rfl, _, rfl, by dsimp only; omega⟩
              · refine zx_T.l (i := .iload_n 1) (k := 1) (v := .int (zI (b))) (pc := 48) rfl rfl rfl ?_
                refine zx_T.s (i := .iconst 5) (k := 1) (st' := [.int (zI (5)), .int (zI (b))]) (pc := 49) rfl rfl ?_
                refine zr_i2 (x := b) (y := 5) (t := 57) (pc := 50) rfl rfl (by omega) (by omega) (by omega) (by omega) (fun (c10 : ¬ b = 5) => ?_) (fun (c10 : ¬ (¬ b = 5)) => ?_)
                · refine zx_T.s (i := .iconst 0) (k := 1) (st' := [.int (zI (0))]) (pc := 57) rfl rfl ?_
                  exact zr_ir (x := 0) (pc := 58) rfl rfl (zr_nb (by omega) (by omega)) ⟨rfl, _, rfl, by dsimp only; omega⟩
                · refine zx_T.s (i := .iconst 1) (k := 1) (st' := [.int (zI (1))]) (pc := 53) rfl rfl ?_
                  refine zx_T.j (i := .goto 4) (k := 3) (pc' := 58) (st' := [.int (zI (1))]) (pc := 54) rfl rfl rfl rfl rfl ?_
                  exact zr_ir (x := 1) (pc := 58) rfl rfl (zr_nb (by omega) (by omega)) ⟨rfl, _, rfl, by dsimp only; omega⟩
          · refine zx_T.l (i := .iload_n 1) (k := 1) (v := .int (zI (b))) (pc := 31) rfl rfl rfl ?_
            refine zx_T.s (i := .iconst 5) (k := 1) (st' := [.int (zI (5)), .int (zI (b))]) (pc := 32) rfl rfl ?_
            refine zr_i2 (x := b) (y := 5) (t := 53) (pc := 33) rfl rfl (by omega) (by omega) (by omega) (by omega) (fun (c11 : b = 5) => ?_) (fun (c11 : ¬ (b = 5)) => ?_)
            · refine zx_T.s (i := .iconst 1) (k := 1) (st' := [.int (zI (1))]) (pc := 53) rfl rfl ?_
              refine zx_T.j (i := .goto 4) (k := 3) (pc' := 58) (st' := [.int (zI (1))]) (pc := 54) rfl rfl rfl rfl rfl ?_
              exact zr_ir (x := 1) (pc := 58) rfl rfl (zr_nb (by omega) (by omega)) ⟨rfl, _, rfl, by dsimp only; omega⟩
            · refine zx_T.l (i := .iload_n 0) (k := 1) (v := .int (zI (a))) (pc := 36) rfl rfl rfl ?_
              refine zx_T.s (i := .bipush 8) (k := 2) (st' := [.int (zI (8)), .int (zI (a))]) (pc := 37) rfl rfl ?_
              refine zr_i2 (x := a) (y := 8) (t := 57) (pc := 39) rfl rfl (by omega) (by omega) (by omega) (by omega) (fun (c12 : ¬ a = 8) => ?_) (fun (c12 : ¬ (¬ a = 8)) => False.elim (by omega))
              refine zx_T.s (i := .iconst 0) (k := 1) (st' := [.int (zI (0))]) (pc := 57) rfl rfl ?_
              exact zr_ir (x := 0) (pc := 58) rfl rfl (zr_nb (by omega) (by omega)) ⟨rfl, _, rfl, by dsimp only; omega⟩
      · refine zx_T.l (i := .iload_n 1) (k := 1) (v := .int (zI (b))) (pc := 14) rfl rfl rfl ?_
        refine zx_T.s (i := .iconst 5) (k := 1) (st' := [.int (zI (5)), .int (zI (b))]) (pc := 15) rfl rfl ?_
        refine zr_i2 (x := b) (y := 5) (t := 53) (pc := 16) rfl rfl (by omega) (by omega) (by omega) (by omega) (fun (c13 : 5 ≤ b) => ?_) (fun (c13 : ¬ (5 ≤ b)) => ?_)
        · refine zx_T.s (i := .iconst 1) (k := 1) (st' := [.int (zI (1))]) (pc := 53) rfl rfl ?_
          refine zx_T.j (i := .goto 4) (k := 3) (pc' := 58) (st' := [.int (zI (1))]) (pc := 54) rfl rfl rfl rfl rfl ?_
          exact zr_ir (x := 1) (pc := 58) rfl rfl (zr_nb (by omega) (by omega)) ⟨rfl, _, rfl, by dsimp only; omega⟩
        · refine zx_T.l (i := .iload_n 0) (k := 1) (v := .int (zI (a))) (pc := 19) rfl rfl rfl ?_
          refine zx_T.s (i := .bipush 6) (k := 2) (st' := [.int (zI (6)), .int (zI (a))]) (pc := 20) rfl rfl ?_
          refine zr_i2 (x := a) (y := 6) (t := 31) (pc := 22) rfl rfl (by omega) (by omega) (by omega) (by omega) (fun (c14 : a = 6) => False.elim (by omega)) (fun (c14 : ¬ (a = 6)) => ?_)
          refine zx_T.l (i := .iload_n 0) (k := 1) (v := .int (zI (a))) (pc := 25) rfl rfl rfl ?_
          refine zx_T.s (i := .bipush 7) (k := 2) (st' := [.int (zI (7)), .int (zI (a))]) (pc := 26) rfl rfl ?_
          refine zr_i2 (x := a) (y := 7) (t := 36) (pc := 28) rfl rfl (by omega) (by omega) (by omega) (by omega) (fun (c15 : ¬ a = 7) => ?_) (fun (c15 : ¬ (¬ a = 7)) => False.elim (by omega))
          refine zx_T.l (i := .iload_n 0) (k := 1) (v := .int (zI (a))) (pc := 36) rfl rfl rfl ?_
          refine zx_T.s (i := .bipush 8) (k := 2) (st' := [.int (zI (8)), .int (zI (a))]) (pc := 37) rfl rfl ?_
          refine zr_i2 (x := a) (y := 8) (t := 57) (pc := 39) rfl rfl (by omega) (by omega) (by omega) (by omega) (fun (c16 : ¬ a = 8) => ?_) (fun (c16 : ¬ (¬ a = 8)) => False.elim (by omega))
          refine zx_T.s (i := .iconst 0) (k := 1) (st' := [.int (zI (0))]) (pc := 57) rfl rfl ?_
          exact zr_ir (x := 0) (pc := 58) rfl rfl (zr_nb (by omega) (by omega)) ⟨rfl, _, rfl, by dsimp only; omega⟩

/-- how far a kind is from TOP -/
def zg_r (x : Int) : Int := if x = 0 then 0 else if x ≤ 3 then 1 else if x = 4 then 4 else if x = 5 then 1 else if x ≤ 7 then 2 else 3
theorem zg_r_b (x : Int) : 0 ≤ zg_r x ∧ zg_r x ≤ 4 := by
  unfold zg_r
  repeat' split
  all_goals omega

set_option maxRecDepth 100000 in
set_option maxHeartbeats 4000000 in
theorem zm_joined {h : zx_H} (hI : zb_I zc_H h) {a : Int} {b : Int} (a1 : 0 ≤ a) (a2 : a ≤ 8) (b1 : 0 ≤ b) (b2 : b ≤ 8) : zx_T zp_P 1 zp_m157 0 [(0, .int (zI (a))), (1, .int (zI (b)))] [] h (zr_P h (fun e => 0 ≤ e ∧ e ≤ 8 ∧ (e = a ∨ zg_r e < zg_r a) ∧ (e = 3 → a = 3 ∧ b = 3))) := by
  refine zx_T.l (i := .iload_n 0) (k := 1) (v := .int (zI (a))) (pc := 0) rfl rfl rfl ?_
  refine zx_T.l (i := .iload_n 1) (k := 1) (v := .int (zI (b))) (pc := 1) rfl rfl rfl ?_
  refine zr_is (cj := 156) (q' := zp_m156) (As := [.int (zI (a)), .int (zI (b))]) (rest := []) (pc := 2) rfl rfl rfl rfl rfl rfl (Nat.le_of_ble_eq_true rfl) rfl (Nat.le_of_ble_eq_true rfl) rfl ((zm_goesAs (h := h) hI (a := a) (b := b) (by omega) (by omega) (by omega) (by omega)).up (Nat.le_of_ble_eq_true rfl)) ?_
  rintro r1 h4 ⟨h4q, v2, r1q, x3⟩
  subst h4q r1q
  try dsimp only at x3
  show zx_T zp_P 1 zp_m157 5 [(0, .int (zI (a))), (1, .int (zI (b)))] [.int (zI (v2))] h _
  refine zr_i1 (x := v2) (t := 10) (pc := 5) rfl rfl (by omega) (by omega) (fun (c5 : v2 = 0) => ?_) (fun (c5 : ¬ (v2 = 0)) => ?_)
  · refine zx_T.l (i := .iload_n 1) (k := 1) (v := .int (zI (b))) (pc := 10) rfl rfl rfl ?_
    refine zx_T.l (i := .iload_n 0) (k := 1) (v := .int (zI (a))) (pc := 11) rfl rfl rfl ?_
    refine zr_is (cj := 156) (q' := zp_m156) (As := [.int (zI (b)), .int (zI (a))]) (rest := []) (pc := 12) rfl rfl rfl rfl rfl rfl (Nat.le_of_ble_eq_true rfl) rfl (Nat.le_of_ble_eq_true rfl) rfl ((zm_goesAs (h := h) hI (a := b) (b := a) (by omega) (by omega) (by omega) (by omega)).up (Nat.le_of_ble_eq_true rfl)) ?_
    rintro r6 h9 ⟨h9q, v7, r6q, x8⟩
    subst h9q r6q
    try dsimp only at x8
    show zx_T zp_P 1 zp_m157 15 [(0, .int (zI (a))), (1, .int (zI (b)))] [.int (zI (v7))] h _
    refine zr_i1 (x := v7) (t := 20) (pc := 15) rfl rfl (by omega) (by omega) (fun (c10 : v7 = 0) => ?_) (fun (c10 : ¬ (v7 = 0)) => ?_)
    · refine zx_T.l (i := .iload_n 0) (k := 1) (v := .int (zI (a))) (pc := 20) rfl rfl rfl ?_
      refine zx_T.s (i := .iconst 5) (k := 1) (st' := [.int (zI (5)), .int (zI (a))]) (pc := 21) rfl rfl ?_
      refine zr_i2 (x := a) (y := 5) (t := 34) (pc := 22) rfl rfl (by omega) (by omega) (by omega) (by omega) (fun (c11 : a < 5) => ?_) (fun (c11 : ¬ (a < 5)) => ?_)
      · refine zx_T.s (i := .iconst 0) (k := 1) (st' := [.int (zI (0))]) (pc := 34) rfl rfl ?_
        exact zr_ir (x := 0) (pc := 35) rfl rfl rfl ⟨rfl, _, rfl, by dsimp only; exact ⟨by omega, by omega, by unfold zg_r; repeat' split; all_goals omega, by omega⟩⟩
      · refine zx_T.l (i := .iload_n 1) (k := 1) (v := .int (zI (b))) (pc := 25) rfl rfl rfl ?_
        refine zx_T.s (i := .iconst 5) (k := 1) (st' := [.int (zI (5)), .int (zI (b))]) (pc := 26) rfl rfl ?_
        refine zr_i2 (x := b) (y := 5) (t := 34) (pc := 27) rfl rfl (by omega) (by omega) (by omega) (by omega) (fun (c12 : b < 5) => ?_) (fun (c12 : ¬ (b < 5)) => ?_)
        · refine zx_T.s (i := .iconst 0) (k := 1) (st' := [.int (zI (0))]) (pc := 34) rfl rfl ?_
          exact zr_ir (x := 0) (pc := 35) rfl rfl rfl ⟨rfl, _, rfl, by dsimp only; exact ⟨by omega, by omega, by unfold zg_r; repeat' split; all_goals omega, by omega⟩⟩
        · refine zx_T.s (i := .iconst 5) (k := 1) (st' := [.int (zI (5))]) (pc := 30) rfl rfl ?_
          refine zx_T.j (i := .goto 4) (k := 3) (pc' := 35) (st' := [.int (zI (5))]) (pc := 31) rfl rfl rfl rfl rfl ?_
          exact zr_ir (x := 5) (pc := 35) rfl rfl rfl ⟨rfl, _, rfl, by dsimp only; exact ⟨by omega, by omega, by unfold zg_r; repeat' split; all_goals omega, by omega⟩⟩
    · refine zx_T.l (i := .iload_n 0) (k := 1) (v := .int (zI (a))) (pc := 18) rfl rfl rfl ?_
      exact zr_ir (x := a) (pc := 19) rfl rfl rfl ⟨rfl, _, rfl, by dsimp only; exact ⟨by omega, by omega, by unfold zg_r; repeat' split; all_goals omega, by omega⟩⟩
  · refine zx_T.l (i := .iload_n 1) (k := 1) (v := .int (zI (b))) (pc := 8) rfl rfl rfl ?_
    exact zr_ir (x := b) (pc := 9) rfl rfl rfl ⟨rfl, _, rfl, by dsimp only; exact ⟨by omega, by omega, by unfold zg_r; repeat' split; all_goals omega, by omega⟩⟩

set_option maxRecDepth 100000 in
set_option maxHeartbeats 4000000 in
theorem zm_fits {h : zx_H} (hI : zb_I zc_H h) {k : Int} {w : Int} (k1 : 0 ≤ k) (k2 : k ≤ 8) (w1 : 1 ≤ w) (w2 : w ≤ 7) : zx_T zp_P 0 zp_m161 0 [(0, .int (zI (k))), (1, .int (zI (w)))] [] h (zr_P h (fun e => (e = 0 ∨ e = 1) ∧ (e = 1 → (w = 1 → k = 1) ∧ (w = 2 → k = 3) ∧ (w = 5 → 4 ≤ k) ∧ (w = 6 → k = 6 ∨ k = 4) ∧ (w = 7 → k = 7 ∨ k = 8 ∨ k = 4)))) := by
  refine zx_T.l (i := .iload_n 1) (k := 1) (v := .int (zI (w))) (pc := 0) rfl rfl rfl ?_
  have c1 : w = 1 ∨ w = 2 ∨ w = 3 ∨ w = 4 ∨ w = 5 ∨ w = 6 ∨ w = 7 := by omega
  rcases c1 with c1 | c1 | c1 | c1 | c1 | c1 | c1
  · refine zr_sw (i := .tableswitch 89 1 6 #[39, 50, 89, 89, 61, 72]) (len := 39) (t := 40) (x := w) (k := 1) (pc := 1) rfl c1 rfl rfl rfl rfl ?_
    refine zx_T.l (i := .iload_n 0) (k := 1) (v := .int (zI (k))) (pc := 40) rfl rfl rfl ?_
    refine zx_T.s (i := .iconst 1) (k := 1) (st' := [.int (zI (1)), .int (zI (k))]) (pc := 41) rfl rfl ?_
    refine zr_i2 (x := k) (y := 1) (t := 49) (pc := 42) rfl rfl (by omega) (by omega) (by omega) (by omega) (fun (c2 : ¬ k = 1) => ?_) (fun (c2 : ¬ (¬ k = 1)) => ?_)
    · refine zx_T.s (i := .iconst 0) (k := 1) (st' := [.int (zI (0))]) (pc := 49) rfl rfl ?_
      exact zr_ir (x := 0) (pc := 50) rfl rfl (zr_nb (by omega) (by omega)) ⟨rfl, _, rfl, by dsimp only; omega⟩
    · refine zx_T.s (i := .iconst 1) (k := 1) (st' := [.int (zI (1))]) (pc := 45) rfl rfl ?_
      refine zx_T.j (i := .goto 4) (k := 3) (pc' := 50) (st' := [.int (zI (1))]) (pc := 46) rfl rfl rfl rfl rfl ?_
      exact zr_ir (x := 1) (pc := 50) rfl rfl (zr_nb (by omega) (by omega)) ⟨rfl, _, rfl, by dsimp only; omega⟩
  · refine zr_sw (i := .tableswitch 89 1 6 #[39, 50, 89, 89, 61, 72]) (len := 39) (t := 51) (x := w) (k := 2) (pc := 1) rfl c1 rfl rfl rfl rfl ?_
    refine zx_T.l (i := .iload_n 0) (k := 1) (v := .int (zI (k))) (pc := 51) rfl rfl rfl ?_
    refine zx_T.s (i := .iconst 3) (k := 1) (st' := [.int (zI (3)), .int (zI (k))]) (pc := 52) rfl rfl ?_
    refine zr_i2 (x := k) (y := 3) (t := 60) (pc := 53) rfl rfl (by omega) (by omega) (by omega) (by omega) (fun (c3 : ¬ k = 3) => ?_) (fun (c3 : ¬ (¬ k = 3)) => ?_)
    · refine zx_T.s (i := .iconst 0) (k := 1) (st' := [.int (zI (0))]) (pc := 60) rfl rfl ?_
      exact zr_ir (x := 0) (pc := 61) rfl rfl (zr_nb (by omega) (by omega)) ⟨rfl, _, rfl, by dsimp only; omega⟩
    · refine zx_T.s (i := .iconst 1) (k := 1) (st' := [.int (zI (1))]) (pc := 56) rfl rfl ?_
      refine zx_T.j (i := .goto 4) (k := 3) (pc' := 61) (st' := [.int (zI (1))]) (pc := 57) rfl rfl rfl rfl rfl ?_
      exact zr_ir (x := 1) (pc := 61) rfl rfl (zr_nb (by omega) (by omega)) ⟨rfl, _, rfl, by dsimp only; omega⟩
  · refine zr_sw (i := .tableswitch 89 1 6 #[39, 50, 89, 89, 61, 72]) (len := 39) (t := 90) (x := w) (k := 3) (pc := 1) rfl c1 rfl rfl rfl rfl ?_
    refine zx_T.l (i := .iload_n 0) (k := 1) (v := .int (zI (k))) (pc := 90) rfl rfl rfl ?_
    refine zx_T.s (i := .bipush 7) (k := 2) (st' := [.int (zI (7)), .int (zI (k))]) (pc := 91) rfl rfl ?_
    refine zr_i2 (x := k) (y := 7) (t := 107) (pc := 93) rfl rfl (by omega) (by omega) (by omega) (by omega) (fun (c4 : k = 7) => ?_) (fun (c4 : ¬ (k = 7)) => ?_)
    · refine zx_T.s (i := .iconst 1) (k := 1) (st' := [.int (zI (1))]) (pc := 107) rfl rfl ?_
      refine zx_T.j (i := .goto 4) (k := 3) (pc' := 112) (st' := [.int (zI (1))]) (pc := 108) rfl rfl rfl rfl rfl ?_
      exact zr_ir (x := 1) (pc := 112) rfl rfl (zr_nb (by omega) (by omega)) ⟨rfl, _, rfl, by dsimp only; omega⟩
    · refine zx_T.l (i := .iload_n 0) (k := 1) (v := .int (zI (k))) (pc := 96) rfl rfl rfl ?_
      refine zx_T.s (i := .bipush 8) (k := 2) (st' := [.int (zI (8)), .int (zI (k))]) (pc := 97) rfl rfl ?_
      refine zr_i2 (x := k) (y := 8) (t := 107) (pc := 99) rfl rfl (by omega) (by omega) (by omega) (by omega) (fun (c5 : k = 8) => ?_) (fun (c5 : ¬ (k = 8)) => ?_)
      · refine zx_T.s (i := .iconst 1) (k := 1) (st' := [.int (zI (1))]) (pc := 107) rfl rfl ?_
        refine zx_T.j (i := .goto 4) (k := 3) (pc' := 112) (st' := [.int (zI (1))]) (pc := 108) rfl rfl rfl rfl rfl ?_
        exact zr_ir (x := 1) (pc := 112) rfl rfl (zr_nb (by omega) (by omega)) ⟨rfl, _, rfl, by dsimp only; omega⟩
      · refine zx_T.l (i := .iload_n 0) (k := 1) (v := .int (zI (k))) (pc := 102) rfl rfl rfl ?_
        refine zx_T.s (i := .iconst 4) (k := 1) (st' := [.int (zI (4)), .int (zI (k))]) (pc := 103) rfl rfl ?_
        refine zr_i2 (x := k) (y := 4) (t := 111) (pc := 104) rfl rfl (by omega) (by omega) (by omega) (by omega) (fun (c6 : ¬ k = 4) => ?_) (fun (c6 : ¬ (¬ k = 4)) => ?_)
        · refine zx_T.s (i := .iconst 0) (k := 1) (st' := [.int (zI (0))]) (pc := 111) rfl rfl ?_
          exact zr_ir (x := 0) (pc := 112) rfl rfl (zr_nb (by omega) (by omega)) ⟨rfl, _, rfl, by dsimp only; omega⟩
        · refine zx_T.s (i := .iconst 1) (k := 1) (st' := [.int (zI (1))]) (pc := 107) rfl rfl ?_
          refine zx_T.j (i := .goto 4) (k := 3) (pc' := 112) (st' := [.int (zI (1))]) (pc := 108) rfl rfl rfl rfl rfl ?_
          exact zr_ir (x := 1) (pc := 112) rfl rfl (zr_nb (by omega) (by omega)) ⟨rfl, _, rfl, by dsimp only; omega⟩
  · refine zr_sw (i := .tableswitch 89 1 6 #[39, 50, 89, 89, 61, 72]) (len := 39) (t := 90) (x := w) (k := 4) (pc := 1) rfl c1 rfl rfl rfl rfl ?_
    refine zx_T.l (i := .iload_n 0) (k := 1) (v := .int (zI (k))) (pc := 90) rfl rfl rfl ?_
    refine zx_T.s (i := .bipush 7) (k := 2) (st' := [.int (zI (7)), .int (zI (k))]) (pc := 91) rfl rfl ?_
    refine zr_i2 (x := k) (y := 7) (t := 107) (pc := 93) rfl rfl (by omega) (by omega) (by omega) (by omega) (fun (c7 : k = 7) => ?_) (fun (c7 : ¬ (k = 7)) => ?_)
    · refine zx_T.s (i := .iconst 1) (k := 1) (st' := [.int (zI (1))]) (pc := 107) rfl rfl ?_
      refine zx_T.j (i := .goto 4) (k := 3) (pc' := 112) (st' := [.int (zI (1))]) (pc := 108) rfl rfl rfl rfl rfl ?_
      exact zr_ir (x := 1) (pc := 112) rfl rfl (zr_nb (by omega) (by omega)) ⟨rfl, _, rfl, by dsimp only; omega⟩
    · refine zx_T.l (i := .iload_n 0) (k := 1) (v := .int (zI (k))) (pc := 96) rfl rfl rfl ?_
      refine zx_T.s (i := .bipush 8) (k := 2) (st' := [.int (zI (8)), .int (zI (k))]) (pc := 97) rfl rfl ?_
      refine zr_i2 (x := k) (y := 8) (t := 107) (pc := 99) rfl rfl (by omega) (by omega) (by omega) (by omega) (fun (c8 : k = 8) => ?_) (fun (c8 : ¬ (k = 8)) => ?_)
      · refine zx_T.s (i := .iconst 1) (k := 1) (st' := [.int (zI (1))]) (pc := 107) rfl rfl ?_
        refine zx_T.j (i := .goto 4) (k := 3) (pc' := 112) (st' := [.int (zI (1))]) (pc := 108) rfl rfl rfl rfl rfl ?_
        exact zr_ir (x := 1) (pc := 112) rfl rfl (zr_nb (by omega) (by omega)) ⟨rfl, _, rfl, by dsimp only; omega⟩
      · refine zx_T.l (i := .iload_n 0) (k := 1) (v := .int (zI (k))) (pc := 102) rfl rfl rfl ?_
        refine zx_T.s (i := .iconst 4) (k := 1) (st' := [.int (zI (4)), .int (zI (k))]) (pc := 103) rfl rfl ?_
        refine zr_i2 (x := k) (y := 4) (t := 111) (pc := 104) rfl rfl (by omega) (by omega) (by omega) (by omega) (fun (c9 : ¬ k = 4) => ?_) (fun (c9 : ¬ (¬ k = 4)) => ?_)
        · refine zx_T.s (i := .iconst 0) (k := 1) (st' := [.int (zI (0))]) (pc := 111) rfl rfl ?_
          exact zr_ir (x := 0) (pc := 112) rfl rfl (zr_nb (by omega) (by omega)) ⟨rfl, _, rfl, by dsimp only; omega⟩
        · refine zx_T.s (i := .iconst 1) (k := 1) (st' := [.int (zI (1))]) (pc := 107) rfl rfl ?_
          refine zx_T.j (i := .goto 4) (k := 3) (pc' := 112) (st' := [.int (zI (1))]) (pc := 108) rfl rfl rfl rfl rfl ?_
          exact zr_ir (x := 1) (pc := 112) rfl rfl (zr_nb (by omega) (by omega)) ⟨rfl, _, rfl, by dsimp only; omega⟩
  · refine zr_sw (i := .tableswitch 89 1 6 #[39, 50, 89, 89, 61, 72]) (len := 39) (t := 62) (x := w) (k := 5) (pc := 1) rfl c1 rfl rfl rfl rfl ?_
    refine zx_T.l (i := .iload_n 0) (k := 1) (v := .int (zI (k))) (pc := 62) rfl rfl rfl ?_
    refine zx_T.s (i := .iconst 4) (k := 1) (st' := [.int (zI (4)), .int (zI (k))]) (pc := 63) rfl rfl ?_
    refine zr_i2 (x := k) (y := 4) (t := 71) (pc := 64) rfl rfl (by omega) (by omega) (by omega) (by omega) (fun (c10 : k < 4) => ?_) (fun (c10 : ¬ (k < 4)) => ?_)
    · refine zx_T.s (i := .iconst 0) (k := 1) (st' := [.int (zI (0))]) (pc := 71) rfl rfl ?_
      exact zr_ir (x := 0) (pc := 72) rfl rfl (zr_nb (by omega) (by omega)) ⟨rfl, _, rfl, by dsimp only; omega⟩
    · refine zx_T.s (i := .iconst 1) (k := 1) (st' := [.int (zI (1))]) (pc := 67) rfl rfl ?_
      refine zx_T.j (i := .goto 4) (k := 3) (pc' := 72) (st' := [.int (zI (1))]) (pc := 68) rfl rfl rfl rfl rfl ?_
      exact zr_ir (x := 1) (pc := 72) rfl rfl (zr_nb (by omega) (by omega)) ⟨rfl, _, rfl, by dsimp only; omega⟩
  · refine zr_sw (i := .tableswitch 89 1 6 #[39, 50, 89, 89, 61, 72]) (len := 39) (t := 73) (x := w) (k := 6) (pc := 1) rfl c1 rfl rfl rfl rfl ?_
    refine zx_T.l (i := .iload_n 0) (k := 1) (v := .int (zI (k))) (pc := 73) rfl rfl rfl ?_
    refine zx_T.s (i := .bipush 6) (k := 2) (st' := [.int (zI (6)), .int (zI (k))]) (pc := 74) rfl rfl ?_
    refine zr_i2 (x := k) (y := 6) (t := 84) (pc := 76) rfl rfl (by omega) (by omega) (by omega) (by omega) (fun (c11 : k = 6) => ?_) (fun (c11 : ¬ (k = 6)) => ?_)
    · refine zx_T.s (i := .iconst 1) (k := 1) (st' := [.int (zI (1))]) (pc := 84) rfl rfl ?_
      refine zx_T.j (i := .goto 4) (k := 3) (pc' := 89) (st' := [.int (zI (1))]) (pc := 85) rfl rfl rfl rfl rfl ?_
      exact zr_ir (x := 1) (pc := 89) rfl rfl (zr_nb (by omega) (by omega)) ⟨rfl, _, rfl, by dsimp only; omega⟩
    · refine zx_T.l (i := .iload_n 0) (k := 1) (v := .int (zI (k))) (pc := 79) rfl rfl rfl ?_
      refine zx_T.s (i := .iconst 4) (k := 1) (st' := [.int (zI (4)), .int (zI (k))]) (pc := 80) rfl rfl ?_
      refine zr_i2 (x := k) (y := 4) (t := 88) (pc := 81) rfl rfl (by omega) (by omega) (by omega) (by omega) (fun (c12 : ¬ k = 4) => ?_) (fun (c12 : ¬ (¬ k = 4)) => ?_)
      · refine zx_T.s (i := .iconst 0) (k := 1) (st' := [.int (zI (0))]) (pc := 88) rfl rfl ?_
        exact zr_ir (x := 0) (pc := 89) rfl rfl (zr_nb (by omega) (by omega)) ⟨rfl, _, rfl, by dsimp only; omega⟩
      · refine zx_T.s (i := .iconst 1) (k := 1) (st' := [.int (zI (1))]) (pc := 84) rfl rfl ?_
        refine zx_T.j (i := .goto 4) (k := 3) (pc' := 89) (st' := [.int (zI (1))]) (pc := 85) rfl rfl rfl rfl rfl ?_
        exact zr_ir (x := 1) (pc := 89) rfl rfl (zr_nb (by omega) (by omega)) ⟨rfl, _, rfl, by dsimp only; omega⟩
  · refine zr_sw (i := .tableswitch 89 1 6 #[39, 50, 89, 89, 61, 72]) (len := 39) (t := 90) (x := w) (k := 7) (pc := 1) rfl c1 rfl rfl rfl rfl ?_
    refine zx_T.l (i := .iload_n 0) (k := 1) (v := .int (zI (k))) (pc := 90) rfl rfl rfl ?_
    refine zx_T.s (i := .bipush 7) (k := 2) (st' := [.int (zI (7)), .int (zI (k))]) (pc := 91) rfl rfl ?_
    refine zr_i2 (x := k) (y := 7) (t := 107) (pc := 93) rfl rfl (by omega) (by omega) (by omega) (by omega) (fun (c13 : k = 7) => ?_) (fun (c13 : ¬ (k = 7)) => ?_)
    · refine zx_T.s (i := .iconst 1) (k := 1) (st' := [.int (zI (1))]) (pc := 107) rfl rfl ?_
      refine zx_T.j (i := .goto 4) (k := 3) (pc' := 112) (st' := [.int (zI (1))]) (pc := 108) rfl rfl rfl rfl rfl ?_
      exact zr_ir (x := 1) (pc := 112) rfl rfl (zr_nb (by omega) (by omega)) ⟨rfl, _, rfl, by dsimp only; omega⟩
    · refine zx_T.l (i := .iload_n 0) (k := 1) (v := .int (zI (k))) (pc := 96) rfl rfl rfl ?_
      refine zx_T.s (i := .bipush 8) (k := 2) (st' := [.int (zI (8)), .int (zI (k))]) (pc := 97) rfl rfl ?_
      refine zr_i2 (x := k) (y := 8) (t := 107) (pc := 99) rfl rfl (by omega) (by omega) (by omega) (by omega) (fun (c14 : k = 8) => ?_) (fun (c14 : ¬ (k = 8)) => ?_)
      · refine zx_T.s (i := .iconst 1) (k := 1) (st' := [.int (zI (1))]) (pc := 107) rfl rfl ?_
        refine zx_T.j (i := .goto 4) (k := 3) (pc' := 112) (st' := [.int (zI (1))]) (pc := 108) rfl rfl rfl rfl rfl ?_
        exact zr_ir (x := 1) (pc := 112) rfl rfl (zr_nb (by omega) (by omega)) ⟨rfl, _, rfl, by dsimp only; omega⟩
      · refine zx_T.l (i := .iload_n 0) (k := 1) (v := .int (zI (k))) (pc := 102) rfl rfl rfl ?_
        refine zx_T.s (i := .iconst 4) (k := 1) (st' := [.int (zI (4)), .int (zI (k))]) (pc := 103) rfl rfl ?_
        refine zr_i2 (x := k) (y := 4) (t := 111) (pc := 104) rfl rfl (by omega) (by omega) (by omega) (by omega) (fun (c15 : ¬ k = 4) => ?_) (fun (c15 : ¬ (¬ k = 4)) => ?_)
        · refine zx_T.s (i := .iconst 0) (k := 1) (st' := [.int (zI (0))]) (pc := 111) rfl rfl ?_
          exact zr_ir (x := 0) (pc := 112) rfl rfl (zr_nb (by omega) (by omega)) ⟨rfl, _, rfl, by dsimp only; omega⟩
        · refine zx_T.s (i := .iconst 1) (k := 1) (st' := [.int (zI (1))]) (pc := 107) rfl rfl ?_
          refine zx_T.j (i := .goto 4) (k := 3) (pc' := 112) (st' := [.int (zI (1))]) (pc := 108) rfl rfl rfl rfl rfl ?_
          exact zr_ir (x := 1) (pc := 112) rfl rfl (zr_nb (by omega) (by omega)) ⟨rfl, _, rfl, by dsimp only; omega⟩

set_option maxRecDepth 100000 in
set_option maxHeartbeats 4000000 in
theorem zm_top {h : zx_H} (hI : zb_I zc_H h)   : zx_T zp_P 0 zp_m160 0 [(0, .ref 44)] [] h (zr_P h (fun e => 0 ≤ e ∧ e ≤ 8 ∧ e = zv_a h 61 (zv_i h 25 + 7))) := by
  refine zx_T.l (i := .aload_n 0) (k := 1) (v := .ref 44) (pc := 0) rfl rfl rfl ?_
  refine zr_gr (k := 24) (b := 61) (pc := 1) rfl rfl rfl hI ?_
  refine zx_T.s (i := .bipush 8) (k := 2) (st' := [.int (zI (8)), .ref 61]) (pc := 4) rfl rfl ?_
  refine zx_T.l (i := .aload_n 0) (k := 1) (v := .ref 44) (pc := 6) rfl rfl rfl ?_
  refine zr_gi (k := 25) (lo := 0) (hi := 6) (e := zv_i h 25) (pc := 7) rfl rfl rfl hI rfl (fun g1a g1b => ?_)
  refine zr_add (x := 8) (y := zv_i h 25) (e := zv_i h 25 + 8) (pc := 10) rfl (by omega) ?_
  refine zx_T.s (i := .iconst 1) (k := 1) (st' := [.int (zI (1)), .int (zI (zv_i h 25 + 8)), .ref 61]) (pc := 11) rfl rfl ?_
  refine zr_sub (x := zv_i h 25 + 8) (y := 1) (e := zv_i h 25 + 7) (pc := 12) rfl (by omega) ?_
  refine zr_al (n := 14) (lo := 0) (hi := 8) (e := zv_a h 61 (zv_i h 25 + 7)) (pc := 13) rfl rfl rfl hI (by omega) (by omega) rfl (fun g2a g2b => ?_)
  exact zr_ir (x := zv_a h 61 (zv_i h 25 + 7)) (pc := 14) rfl rfl rfl ⟨rfl, _, rfl, by dsimp only; exact ⟨by omega, by omega, rfl⟩⟩

set_option maxRecDepth 100000 in
set_option maxHeartbeats 4000000 in
theorem zm_fails {h : zx_H} (hI : zb_I zc_H h) {w : Int} (w1 : 1 ≤ w) (w2 : w ≤ 7) : zx_T zp_P 0 zp_m159 0 [(0, .ref 44), (1, .int (zI (w)))] [] h (zr_V [(44, 26)] h (fun h' => ¬ zv_i h' 26 = 0 ∧ (zv_i h 26 = 0 → zv_i h' 26 = w) ∧ (¬ zv_i h 26 = 0 → zv_i h' 26 = zv_i h 26))) := by
  refine zx_T.l (i := .aload_n 0) (k := 1) (v := .ref 44) (pc := 0) rfl rfl rfl ?_
  refine zx_T.l (i := .aload_n 0) (k := 1) (v := .ref 44) (pc := 1) rfl rfl rfl ?_
  refine zr_gi (k := 26) (lo := 0) (hi := 7) (e := zv_i h 26) (pc := 2) rfl rfl rfl hI rfl (fun g1a g1b => ?_)
  refine zr_i1 (x := zv_i h 26) (t := 12) (pc := 5) rfl rfl (by omega) (by omega) (fun (c2 : ¬ (zv_i h 26) = 0) => ?_) (fun (c2 : ¬ (¬ (zv_i h 26) = 0)) => ?_)
  · refine zx_T.l (i := .aload_n 0) (k := 1) (v := .ref 44) (pc := 12) rfl rfl rfl ?_
    refine zr_gi (k := 26) (lo := 0) (hi := 7) (e := zv_i h 26) (pc := 13) rfl rfl rfl hI rfl (fun g3a g3b => ?_)
    refine zr_pi (k := 26) (lo := 0) (hi := 7) (e := zv_i h 26) (pc := 16) rfl rfl rfl rfl rfl rfl hI (by omega) (by omega) (fun h4 ih4 w5 e6 => ?_)
    have y7 : zv_i h4 26 = zv_i h 26 := e6
    exact zr_vr (pc := 19) rfl rfl ⟨ih4, (w5.wd rfl : zb_W [(44, 26)] h _), rfl, by dsimp only; omega⟩
  · refine zx_T.l (i := .iload_n 1) (k := 1) (v := .int (zI (w))) (pc := 8) rfl rfl rfl ?_
    refine zx_T.j (i := .goto 7) (k := 3) (pc' := 16) (st' := [.int (zI (w)), .ref 44]) (pc := 9) rfl rfl rfl rfl rfl ?_
    refine zr_pi (k := 26) (lo := 0) (hi := 7) (e := w) (pc := 16) rfl rfl rfl rfl rfl rfl hI (by omega) (by omega) (fun h8 ih8 w9 e10 => ?_)
    have y11 : zv_i h8 26 = w := e10
    exact zr_vr (pc := 19) rfl rfl ⟨ih8, (w9.wd rfl : zb_W [(44, 26)] h _), rfl, by dsimp only; omega⟩
