/-! ===== 93: the reference, method by method (by program) ===== -/
set_option maxRecDepth 100000 in
set_option maxHeartbeats 4000000 in
theorem zm_goesAsF {h : zx_H} (hI : zb_I zc_H h) {a : Int} {b : Int} (a1 : 0 ≤ a) (a2 : a ≤ 8) (b1 : -2147483648 ≤ b) (b2 : b ≤ 2147483647) : zx_T zp_P 0 zp_m49 0 [(0, .int (zI (a))), (1, .int (zI (b)))] [] h (zr_P h (fun e => ((e = 1 ∧ zc_g a b) ∨ (e = 0 ∧ ¬ zc_g a b)) ∧ 0 ≤ e ∧ e ≤ 1)) := by
  refine zx_T.l (i := .iload_n 0) (k := 1) (v := .int (zI (a))) (pc := 0) rfl rfl rfl ?_
  refine zx_T.l (i := .iload_n 1) (k := 1) (v := .int (zI (b))) (pc := 1) rfl rfl rfl ?_
  refine zr_i2 (x := a) (y := b) (t := 9) (pc := 2) rfl rfl (by omega) (by omega) (by omega) (by omega) (fun (c1 : a = b) => ?_) (fun (c1 : ¬ (a = b)) => ?_)
  · refine zx_T.s (i := .iconst 1) (k := 1) (st' := [.int (zI (1))]) (pc := 9) rfl rfl ?_
    exact zr_ir (x := 1) (pc := 10) rfl rfl (zr_nb (by omega) (by omega)) ⟨rfl, _, rfl, by dsimp only; exact ⟨by unfold zc_g; omega, by omega, by omega⟩⟩
  · refine zx_T.l (i := .iload_n 1) (k := 1) (v := .int (zI (b))) (pc := 5) rfl rfl rfl ?_
    refine zr_i1 (x := b) (t := 11) (pc := 6) rfl rfl (by omega) (by omega) (fun (c2 : ¬ b = 0) => ?_) (fun (c2 : ¬ (¬ b = 0)) => ?_)
    · refine zx_T.l (i := .iload_n 0) (k := 1) (v := .int (zI (a))) (pc := 11) rfl rfl rfl ?_
      have c3 : a = 0 ∨ a = 1 ∨ a = 2 ∨ a = 3 ∨ a = 4 ∨ a = 5 ∨ a = 6 ∨ a = 7 ∨ a = 8 := by omega
      rcases c3 with c3 | c3 | c3 | c3 | c3 | c3 | c3 | c3 | c3
      · refine zr_sw (i := .tableswitch 75 4 8 #[36, 75, 47, 47, 58]) (len := 36) (t := 87) (x := a) (k := 0) (pc := 12) rfl c3 rfl rfl rfl rfl ?_
        refine zx_T.s (i := .iconst 0) (k := 1) (st' := [.int (zI (0))]) (pc := 87) rfl rfl ?_
        exact zr_ir (x := 0) (pc := 88) rfl rfl (zr_nb (by omega) (by omega)) ⟨rfl, _, rfl, by dsimp only; exact ⟨by unfold zc_g; omega, by omega, by omega⟩⟩
      · refine zr_sw (i := .tableswitch 75 4 8 #[36, 75, 47, 47, 58]) (len := 36) (t := 87) (x := a) (k := 1) (pc := 12) rfl c3 rfl rfl rfl rfl ?_
        refine zx_T.s (i := .iconst 0) (k := 1) (st' := [.int (zI (0))]) (pc := 87) rfl rfl ?_
        exact zr_ir (x := 0) (pc := 88) rfl rfl (zr_nb (by omega) (by omega)) ⟨rfl, _, rfl, by dsimp only; exact ⟨by unfold zc_g; omega, by omega, by omega⟩⟩
      · refine zr_sw (i := .tableswitch 75 4 8 #[36, 75, 47, 47, 58]) (len := 36) (t := 87) (x := a) (k := 2) (pc := 12) rfl c3 rfl rfl rfl rfl ?_
        refine zx_T.s (i := .iconst 0) (k := 1) (st' := [.int (zI (0))]) (pc := 87) rfl rfl ?_
        exact zr_ir (x := 0) (pc := 88) rfl rfl (zr_nb (by omega) (by omega)) ⟨rfl, _, rfl, by dsimp only; exact ⟨by unfold zc_g; omega, by omega, by omega⟩⟩
      · refine zr_sw (i := .tableswitch 75 4 8 #[36, 75, 47, 47, 58]) (len := 36) (t := 87) (x := a) (k := 3) (pc := 12) rfl c3 rfl rfl rfl rfl ?_
        refine zx_T.s (i := .iconst 0) (k := 1) (st' := [.int (zI (0))]) (pc := 87) rfl rfl ?_
        exact zr_ir (x := 0) (pc := 88) rfl rfl (zr_nb (by omega) (by omega)) ⟨rfl, _, rfl, by dsimp only; exact ⟨by unfold zc_g; omega, by omega, by omega⟩⟩
      · refine zr_sw (i := .tableswitch 75 4 8 #[36, 75, 47, 47, 58]) (len := 36) (t := 48) (x := a) (k := 4) (pc := 12) rfl c3 rfl rfl rfl rfl ?_
        refine zx_T.l (i := .iload_n 1) (k := 1) (v := .int (zI (b))) (pc := 48) rfl rfl rfl ?_
        refine zx_T.s (i := .iconst 5) (k := 1) (st' := [.int (zI (5)), .int (zI (b))]) (pc := 49) rfl rfl ?_
        refine zr_i2 (x := b) (y := 5) (t := 57) (pc := 50) rfl rfl (by omega) (by omega) (by omega) (by omega) (fun (c4 : b < 5) => ?_) (fun (c4 : ¬ (b < 5)) => ?_)
        · refine zx_T.s (i := .iconst 0) (k := 1) (st' := [.int (zI (0))]) (pc := 57) rfl rfl ?_
          exact zr_ir (x := 0) (pc := 58) rfl rfl (zr_nb (by omega) (by omega)) ⟨rfl, _, rfl, by dsimp only; exact ⟨by unfold zc_g; omega, by omega, by omega⟩⟩
        · refine zx_T.s (i := .iconst 1) (k := 1) (st' := [.int (zI (1))]) (pc := 53) rfl rfl ?_
          refine zx_T.j (i := .goto 4) (k := 3) (pc' := 58) (st' := [.int (zI (1))]) (pc := 54) rfl rfl rfl rfl rfl ?_
          exact zr_ir (x := 1) (pc := 58) rfl rfl (zr_nb (by omega) (by omega)) ⟨rfl, _, rfl, by dsimp only; exact ⟨by unfold zc_g; omega, by omega, by omega⟩⟩
      · refine zr_sw (i := .tableswitch 75 4 8 #[36, 75, 47, 47, 58]) (len := 36) (t := 87) (x := a) (k := 5) (pc := 12) rfl c3 rfl rfl rfl rfl ?_
        refine zx_T.s (i := .iconst 0) (k := 1) (st' := [.int (zI (0))]) (pc := 87) rfl rfl ?_
        exact zr_ir (x := 0) (pc := 88) rfl rfl (zr_nb (by omega) (by omega)) ⟨rfl, _, rfl, by dsimp only; exact ⟨by unfold zc_g; omega, by omega, by omega⟩⟩
      · refine zr_sw (i := .tableswitch 75 4 8 #[36, 75, 47, 47, 58]) (len := 36) (t := 59) (x := a) (k := 6) (pc := 12) rfl c3 rfl rfl rfl rfl ?_
        refine zx_T.l (i := .iload_n 1) (k := 1) (v := .int (zI (b))) (pc := 59) rfl rfl rfl ?_
        refine zx_T.s (i := .iconst 5) (k := 1) (st' := [.int (zI (5)), .int (zI (b))]) (pc := 60) rfl rfl ?_
        refine zr_i2 (x := b) (y := 5) (t := 68) (pc := 61) rfl rfl (by omega) (by omega) (by omega) (by omega) (fun (c5 : ¬ b = 5) => ?_) (fun (c5 : ¬ (¬ b = 5)) => ?_)
        · refine zx_T.s (i := .iconst 0) (k := 1) (st' := [.int (zI (0))]) (pc := 68) rfl rfl ?_
          exact zr_ir (x := 0) (pc := 69) rfl rfl (zr_nb (by omega) (by omega)) ⟨rfl, _, rfl, by dsimp only; exact ⟨by unfold zc_g; omega, by omega, by omega⟩⟩
        · refine zx_T.s (i := .iconst 1) (k := 1) (st' := [.int (zI (1))]) (pc := 64) rfl rfl ?_
          refine zx_T.j (i := .goto 4) (k := 3) (pc' := 69) (st' := [.int (zI (1))]) (pc := 65) rfl rfl rfl rfl rfl ?_
          exact zr_ir (x := 1) (pc := 69) rfl rfl (zr_nb (by omega) (by omega)) ⟨rfl, _, rfl, by dsimp only; exact ⟨by unfold zc_g; omega, by omega, by omega⟩⟩
      · refine zr_sw (i := .tableswitch 75 4 8 #[36, 75, 47, 47, 58]) (len := 36) (t := 59) (x := a) (k := 7) (pc := 12) rfl c3 rfl rfl rfl rfl ?_
        refine zx_T.l (i := .iload_n 1) (k := 1) (v := .int (zI (b))) (pc := 59) rfl rfl rfl ?_
        refine zx_T.s (i := .iconst 5) (k := 1) (st' := [.int (zI (5)), .int (zI (b))]) (pc := 60) rfl rfl ?_
        refine zr_i2 (x := b) (y := 5) (t := 68) (pc := 61) rfl rfl (by omega) (by omega) (by omega) (by omega) (fun (c6 : ¬ b = 5) => ?_) (fun (c6 : ¬ (¬ b = 5)) => ?_)
        · refine zx_T.s (i := .iconst 0) (k := 1) (st' := [.int (zI (0))]) (pc := 68) rfl rfl ?_
          exact zr_ir (x := 0) (pc := 69) rfl rfl (zr_nb (by omega) (by omega)) ⟨rfl, _, rfl, by dsimp only; exact ⟨by unfold zc_g; omega, by omega, by omega⟩⟩
        · refine zx_T.s (i := .iconst 1) (k := 1) (st' := [.int (zI (1))]) (pc := 64) rfl rfl ?_
          refine zx_T.j (i := .goto 4) (k := 3) (pc' := 69) (st' := [.int (zI (1))]) (pc := 65) rfl rfl rfl rfl rfl ?_
          exact zr_ir (x := 1) (pc := 69) rfl rfl (zr_nb (by omega) (by omega)) ⟨rfl, _, rfl, by dsimp only; exact ⟨by unfold zc_g; omega, by omega, by omega⟩⟩
      · refine zr_sw (i := .tableswitch 75 4 8 #[36, 75, 47, 47, 58]) (len := 36) (t := 70) (x := a) (k := 8) (pc := 12) rfl c3 rfl rfl rfl rfl ?_
        refine zx_T.l (i := .iload_n 1) (k := 1) (v := .int (zI (b))) (pc := 70) rfl rfl rfl ?_
        refine zx_T.s (i := .bipush 7) (k := 2) (st' := [.int (zI (7)), .int (zI (b))]) (pc := 71) rfl rfl ?_
        refine zr_i2 (x := b) (y := 7) (t := 81) (pc := 73) rfl rfl (by omega) (by omega) (by omega) (by omega) (fun (c7 : b = 7) => ?_) (fun (c7 : ¬ (b = 7)) => ?_)
        · refine zx_T.s (i := .iconst 1) (k := 1) (st' := [.int (zI (1))]) (pc := 81) rfl rfl ?_
          refine zx_T.j (i := .goto 4) (k := 3) (pc' := 86) (st' := [.int (zI (1))]) (pc := 82) rfl rfl rfl rfl rfl ?_
          exact zr_ir (x := 1) (pc := 86) rfl rfl (zr_nb (by omega) (by omega)) ⟨rfl, _, rfl, by dsimp only; exact ⟨by unfold zc_g; omega, by omega, by omega⟩⟩
        · refine zx_T.l (i := .iload_n 1) (k := 1) (v := .int (zI (b))) (pc := 76) rfl rfl rfl ?_
          refine zx_T.s (i := .iconst 5) (k := 1) (st' := [.int (zI (5)), .int (zI (b))]) (pc := 77) rfl rfl ?_
          refine zr_i2 (x := b) (y := 5) (t := 85) (pc := 78) rfl rfl (by omega) (by omega) (by omega) (by omega) (fun (c8 : ¬ b = 5) => ?_) (fun (c8 : ¬ (¬ b = 5)) => ?_)
          · refine zx_T.s (i := .iconst 0) (k := 1) (st' := [.int (zI (0))]) (pc := 85) rfl rfl ?_
            exact zr_ir (x := 0) (pc := 86) rfl rfl (zr_nb (by omega) (by omega)) ⟨rfl, _, rfl, by dsimp only; exact ⟨by unfold zc_g; omega, by omega, by omega⟩⟩
          · refine zx_T.s (i := .iconst 1) (k := 1) (st' := [.int (zI (1))]) (pc := 81) rfl rfl ?_
            refine zx_T.j (i := .goto 4) (k := 3) (pc' := 86) (st' := [.int (zI (1))]) (pc := 82) rfl rfl rfl rfl rfl ?_
            exact zr_ir (x := 1) (pc := 86) rfl rfl (zr_nb (by omega) (by omega)) ⟨rfl, _, rfl, by dsimp only; exact ⟨by unfold zc_g; omega, by omega, by omega⟩⟩
    · refine zx_T.s (i := .iconst 1) (k := 1) (st' := [.int (zI (1))]) (pc := 9) rfl rfl ?_
      exact zr_ir (x := 1) (pc := 10) rfl rfl (zr_nb (by omega) (by omega)) ⟨rfl, _, rfl, by dsimp only; exact ⟨by unfold zc_g; omega, by omega, by omega⟩⟩

set_option maxRecDepth 100000 in
set_option maxHeartbeats 4000000 in
theorem zm_joinedC {h : zx_H} (hI : zb_I zc_H h) {a : Int} {b : Int} (a1 : 0 ≤ a) (a2 : a ≤ 8) (b1 : 0 ≤ b) (b2 : b ≤ 8) : zx_T zp_P 1 zp_m50 0 [(0, .int (zI (a))), (1, .int (zI (b)))] [] h (zr_P h (fun e => e = zs_jn a b ∧ 0 ≤ e ∧ e ≤ 8)) := by
  refine zx_T.l (i := .iload_n 0) (k := 1) (v := .int (zI (a))) (pc := 0) rfl rfl rfl ?_
  refine zx_T.l (i := .iload_n 1) (k := 1) (v := .int (zI (b))) (pc := 1) rfl rfl rfl ?_
  refine zr_is (cj := 49) (q' := zp_m49) (As := [.int (zI (a)), .int (zI (b))]) (rest := []) (pc := 2) rfl rfl rfl rfl rfl rfl (Nat.le_of_ble_eq_true rfl) rfl (Nat.le_of_ble_eq_true rfl) rfl ((zm_goesAsF (h := h) hI (a := a) (b := b) (by omega) (by omega) (by omega) (by omega)).up (Nat.le_of_ble_eq_true rfl)) ?_
  rintro r1 h4 ⟨h4q, v2, r1q, x3⟩
  subst h4q r1q
  try dsimp only at x3
  show zx_T zp_P 1 zp_m50 5 [(0, .int (zI (a))), (1, .int (zI (b)))] [.int (zI (v2))] h _
  refine zr_i1 (x := v2) (t := 10) (pc := 5) rfl rfl (by omega) (by omega) (fun (c5 : v2 = 0) => ?_) (fun (c5 : ¬ (v2 = 0)) => ?_)
  · refine zx_T.l (i := .iload_n 1) (k := 1) (v := .int (zI (b))) (pc := 10) rfl rfl rfl ?_
    refine zx_T.l (i := .iload_n 0) (k := 1) (v := .int (zI (a))) (pc := 11) rfl rfl rfl ?_
    refine zr_is (cj := 49) (q' := zp_m49) (As := [.int (zI (b)), .int (zI (a))]) (rest := []) (pc := 12) rfl rfl rfl rfl rfl rfl (Nat.le_of_ble_eq_true rfl) rfl (Nat.le_of_ble_eq_true rfl) rfl ((zm_goesAsF (h := h) hI (a := b) (b := a) (by omega) (by omega) (by omega) (by omega)).up (Nat.le_of_ble_eq_true rfl)) ?_
    rintro r6 h9 ⟨h9q, v7, r6q, x8⟩
    subst h9q r6q
    try dsimp only at x8
    show zx_T zp_P 1 zp_m50 15 [(0, .int (zI (a))), (1, .int (zI (b)))] [.int (zI (v7))] h _
    refine zr_i1 (x := v7) (t := 20) (pc := 15) rfl rfl (by omega) (by omega) (fun (c10 : v7 = 0) => ?_) (fun (c10 : ¬ (v7 = 0)) => ?_)
    · refine zx_T.l (i := .iload_n 0) (k := 1) (v := .int (zI (a))) (pc := 20) rfl rfl rfl ?_
      refine zx_T.s (i := .iconst 5) (k := 1) (st' := [.int (zI (5)), .int (zI (a))]) (pc := 21) rfl rfl ?_
      refine zr_i2 (x := a) (y := 5) (t := 34) (pc := 22) rfl rfl (by omega) (by omega) (by omega) (by omega) (fun (c11 : a < 5) => ?_) (fun (c11 : ¬ (a < 5)) => ?_)
      · refine zx_T.s (i := .iconst 0) (k := 1) (st' := [.int (zI (0))]) (pc := 34) rfl rfl ?_
        exact zr_ir (x := 0) (pc := 35) rfl rfl rfl ⟨rfl, _, rfl, by dsimp only; first | exact ⟨zj_1 (zj_t x3.1 c5), by omega, by omega⟩ | exact ⟨zj_2 (zj_f x3.1 c5) (zj_t x8.1 c10), by omega, by omega⟩ | exact ⟨zj_3 (zj_f x3.1 c5) (zj_f x8.1 c10) (Int.not_lt.mp c11) (Int.not_lt.mp c12), by omega, by omega⟩ | exact ⟨zj_4 (zj_f x3.1 c5) (zj_f x8.1 c10) (Or.inl c11), by omega, by omega⟩ | exact ⟨zj_4 (zj_f x3.1 c5) (zj_f x8.1 c10) (Or.inr c12), by omega, by omega⟩⟩
      · refine zx_T.l (i := .iload_n 1) (k := 1) (v := .int (zI (b))) (pc := 25) rfl rfl rfl ?_
        refine zx_T.s (i := .iconst 5) (k := 1) (st' := [.int (zI (5)), .int (zI (b))]) (pc := 26) rfl rfl ?_
        refine zr_i2 (x := b) (y := 5) (t := 34) (pc := 27) rfl rfl (by omega) (by omega) (by omega) (by omega) (fun (c12 : b < 5) => ?_) (fun (c12 : ¬ (b < 5)) => ?_)
        · refine zx_T.s (i := .iconst 0) (k := 1) (st' := [.int (zI (0))]) (pc := 34) rfl rfl ?_
          exact zr_ir (x := 0) (pc := 35) rfl rfl rfl ⟨rfl, _, rfl, by dsimp only; first | exact ⟨zj_1 (zj_t x3.1 c5), by omega, by omega⟩ | exact ⟨zj_2 (zj_f x3.1 c5) (zj_t x8.1 c10), by omega, by omega⟩ | exact ⟨zj_3 (zj_f x3.1 c5) (zj_f x8.1 c10) (Int.not_lt.mp c11) (Int.not_lt.mp c12), by omega, by omega⟩ | exact ⟨zj_4 (zj_f x3.1 c5) (zj_f x8.1 c10) (Or.inl c11), by omega, by omega⟩ | exact ⟨zj_4 (zj_f x3.1 c5) (zj_f x8.1 c10) (Or.inr c12), by omega, by omega⟩⟩
        · refine zx_T.s (i := .iconst 5) (k := 1) (st' := [.int (zI (5))]) (pc := 30) rfl rfl ?_
          refine zx_T.j (i := .goto 4) (k := 3) (pc' := 35) (st' := [.int (zI (5))]) (pc := 31) rfl rfl rfl rfl rfl ?_
          exact zr_ir (x := 5) (pc := 35) rfl rfl rfl ⟨rfl, _, rfl, by dsimp only; first | exact ⟨zj_1 (zj_t x3.1 c5), by omega, by omega⟩ | exact ⟨zj_2 (zj_f x3.1 c5) (zj_t x8.1 c10), by omega, by omega⟩ | exact ⟨zj_3 (zj_f x3.1 c5) (zj_f x8.1 c10) (Int.not_lt.mp c11) (Int.not_lt.mp c12), by omega, by omega⟩ | exact ⟨zj_4 (zj_f x3.1 c5) (zj_f x8.1 c10) (Or.inl c11), by omega, by omega⟩ | exact ⟨zj_4 (zj_f x3.1 c5) (zj_f x8.1 c10) (Or.inr c12), by omega, by omega⟩⟩
    · refine zx_T.l (i := .iload_n 0) (k := 1) (v := .int (zI (a))) (pc := 18) rfl rfl rfl ?_
      exact zr_ir (x := a) (pc := 19) rfl rfl rfl ⟨rfl, _, rfl, by dsimp only; first | exact ⟨zj_1 (zj_t x3.1 c5), by omega, by omega⟩ | exact ⟨zj_2 (zj_f x3.1 c5) (zj_t x8.1 c10), by omega, by omega⟩ | exact ⟨zj_3 (zj_f x3.1 c5) (zj_f x8.1 c10) (Int.not_lt.mp c11) (Int.not_lt.mp c12), by omega, by omega⟩ | exact ⟨zj_4 (zj_f x3.1 c5) (zj_f x8.1 c10) (Or.inl c11), by omega, by omega⟩ | exact ⟨zj_4 (zj_f x3.1 c5) (zj_f x8.1 c10) (Or.inr c12), by omega, by omega⟩⟩
  · refine zx_T.l (i := .iload_n 1) (k := 1) (v := .int (zI (b))) (pc := 8) rfl rfl rfl ?_
    exact zr_ir (x := b) (pc := 9) rfl rfl rfl ⟨rfl, _, rfl, by dsimp only; first | exact ⟨zj_1 (zj_t x3.1 c5), by omega, by omega⟩ | exact ⟨zj_2 (zj_f x3.1 c5) (zj_t x8.1 c10), by omega, by omega⟩ | exact ⟨zj_3 (zj_f x3.1 c5) (zj_f x8.1 c10) (Int.not_lt.mp c11) (Int.not_lt.mp c12), by omega, by omega⟩ | exact ⟨zj_4 (zj_f x3.1 c5) (zj_f x8.1 c10) (Or.inl c11), by omega, by omega⟩ | exact ⟨zj_4 (zj_f x3.1 c5) (zj_f x8.1 c10) (Or.inr c12), by omega, by omega⟩⟩

set_option maxRecDepth 100000 in
set_option maxHeartbeats 4000000 in
theorem zm_depth_20 {h : zx_H} (hI : zb_I zc_H h)   : zx_T zp_P 0 zp_m116 0 [(0, .ref 20)] [] h (zr_P h (fun e => e = zv_f h 20 1 ∧ 0 ≤ e ∧ e ≤ 6)) := by
  refine zx_T.l (i := .aload_n 0) (k := 1) (v := .ref 20) (pc := 0) rfl rfl rfl ?_
  refine zw_gi (k := 1) (lo := 0) (hi := 6) (e := zv_f h 20 1) (pc := 1) rfl rfl rfl hI rfl (fun g1a g1b => ?_)
  exact zr_ir (x := zv_f h 20 1) (pc := 4) rfl rfl rfl ⟨rfl, _, rfl, by dsimp only; exact ⟨rfl, by omega, by omega⟩⟩

set_option maxRecDepth 100000 in
set_option maxHeartbeats 4000000 in
theorem zm_setDepth_20 {h : zx_H} (hI : zb_I zc_H h) {n : Int} (n1 : -2147483648 ≤ n) (n2 : n ≤ 2147483647) : zx_T zp_P 1 zp_m117 0 [(0, .ref 20), (1, .int (zI (n)))] [] h (zr_V [(20, 1)] h (fun h' => (n < 0 ∧ zv_f h' 20 1 = 0) ∨ (0 ≤ n ∧ n ≤ 6 ∧ zv_f h' 20 1 = n) ∨ (6 < n ∧ zv_f h' 20 1 = 6))) := by
  refine zx_T.l (i := .aload_n 0) (k := 1) (v := .ref 20) (pc := 0) rfl rfl rfl ?_
  refine zx_T.l (i := .iload_n 1) (k := 1) (v := .int (zI (n))) (pc := 1) rfl rfl rfl ?_
  refine zr_i1 (x := n) (t := 9) (pc := 2) rfl rfl (by omega) (by omega) (fun (c1 : 0 ≤ n) => ?_) (fun (c1 : ¬ (0 ≤ n)) => ?_)
  · refine zx_T.l (i := .iload_n 1) (k := 1) (v := .int (zI (n))) (pc := 9) rfl rfl rfl ?_
    refine zx_T.s (i := .bipush 6) (k := 2) (st' := [.int (zI (6)), .int (zI (n)), .ref 20]) (pc := 10) rfl rfl ?_
    refine zr_min (pc := 12) rfl rfl (Nat.le_of_ble_eq_true rfl) (by omega) (by omega) (by omega) (by omega) (fun z2 z2a => ?_)
    refine zw_pi (k := 1) (lo := 0) (hi := 6) (e := z2) (pc := 15) rfl rfl rfl rfl rfl rfl hI (by omega) (by omega) (fun h3 ih3 w4 e5 => ?_)
    have y6 : zv_f h3 20 1 = z2 := e5
    exact zr_vr (pc := 18) rfl rfl ⟨ih3, (w4.wd rfl : zb_W [(20, 1)] h _), rfl, by dsimp only; omega⟩
  · refine zx_T.s (i := .iconst 0) (k := 1) (st' := [.int (zI (0)), .ref 20]) (pc := 5) rfl rfl ?_
    refine zx_T.j (i := .goto 9) (k := 3) (pc' := 15) (st' := [.int (zI (0)), .ref 20]) (pc := 6) rfl rfl rfl rfl rfl ?_
    refine zw_pi (k := 1) (lo := 0) (hi := 6) (e := 0) (pc := 15) rfl rfl rfl rfl rfl rfl hI (by omega) (by omega) (fun h7 ih7 w8 e9 => ?_)
    have y10 : zv_f h7 20 1 = 0 := e9
    exact zr_vr (pc := 18) rfl rfl ⟨ih7, (w8.wd rfl : zb_W [(20, 1)] h _), rfl, by dsimp only; omega⟩

set_option maxRecDepth 100000 in
set_option maxHeartbeats 4000000 in
theorem zm_kindOf_20 {h : zx_H} (hI : zb_I zc_H h) {i : Int} (i1 : -2147483648 ≤ i) (i2 : i ≤ 2147483647) : zx_T zp_P 0 zp_m118 0 [(0, .ref 20), (1, .int (zI (i)))] [] h (zr_P h (fun e => ((0 ≤ i ∧ i < 14 ∧ e = zv_a h 21 i) ∨ (¬ (0 ≤ i ∧ i < 14) ∧ e = 0)) ∧ (-2147483648) ≤ e ∧ e ≤ 2147483647)) := by
  refine zx_T.l (i := .iload_n 1) (k := 1) (v := .int (zI (i))) (pc := 0) rfl rfl rfl ?_
  refine zr_i1 (x := i) (t := 19) (pc := 1) rfl rfl (by omega) (by omega) (fun (c1 : i < 0) => ?_) (fun (c1 : ¬ (i < 0)) => ?_)
  · refine zx_T.s (i := .iconst 0) (k := 1) (st' := [.int (zI (0))]) (pc := 19) rfl rfl ?_
    exact zr_ir (x := 0) (pc := 20) rfl rfl rfl ⟨rfl, _, rfl, by dsimp only; exact ⟨by first | exact Or.inl ⟨by omega, by omega, rfl⟩ | exact Or.inr ⟨by omega, rfl⟩, by omega, by omega⟩⟩
  · refine zx_T.l (i := .iload_n 1) (k := 1) (v := .int (zI (i))) (pc := 4) rfl rfl rfl ?_
    refine zx_T.s (i := .bipush 14) (k := 2) (st' := [.int (zI (14)), .int (zI (i))]) (pc := 5) rfl rfl ?_
    refine zr_i2 (x := i) (y := 14) (t := 19) (pc := 7) rfl rfl (by omega) (by omega) (by omega) (by omega) (fun (c2 : 14 ≤ i) => ?_) (fun (c2 : ¬ (14 ≤ i)) => ?_)
    · refine zx_T.s (i := .iconst 0) (k := 1) (st' := [.int (zI (0))]) (pc := 19) rfl rfl ?_
      exact zr_ir (x := 0) (pc := 20) rfl rfl rfl ⟨rfl, _, rfl, by dsimp only; exact ⟨by first | exact Or.inl ⟨by omega, by omega, rfl⟩ | exact Or.inr ⟨by omega, rfl⟩, by omega, by omega⟩⟩
    · refine zx_T.l (i := .aload_n 0) (k := 1) (v := .ref 20) (pc := 10) rfl rfl rfl ?_
      refine zw_gr (k := 0) (b := 21) (pc := 11) rfl rfl rfl hI ?_
      refine zx_T.l (i := .iload_n 1) (k := 1) (v := .int (zI (i))) (pc := 14) rfl rfl rfl ?_
      refine zr_al (n := 14) (lo := (-2147483648)) (hi := 2147483647) (e := zv_a h 21 i) (pc := 15) rfl rfl rfl hI (by omega) (by omega) rfl (fun g3a g3b => ?_)
      refine zx_T.j (i := .goto 4) (k := 3) (pc' := 20) (st' := [.int (zI (zv_a h 21 i))]) (pc := 16) rfl rfl rfl rfl rfl ?_
      exact zr_ir (x := zv_a h 21 i) (pc := 20) rfl rfl rfl ⟨rfl, _, rfl, by dsimp only; exact ⟨by first | exact Or.inl ⟨by omega, by omega, rfl⟩ | exact Or.inr ⟨by omega, rfl⟩, by omega, by omega⟩⟩

set_option maxRecDepth 100000 in
set_option maxHeartbeats 4000000 in
theorem zm_setKind_20 {h : zx_H} (hI : zb_I zc_H h) {i : Int} {k : Int} (i1 : 0 ≤ i) (i2 : i ≤ 13) (k1 : -2147483648 ≤ k) (k2 : k ≤ 2147483647) : zx_T zp_P 0 zp_m119 0 [(0, .ref 20), (1, .int (zI (i))), (2, .int (zI (k)))] [] h (zr_V [(21, 0)] h (fun h' => ∀ j, 0 ≤ j → zv_a h' 21 j = if j = i then k else zv_a h 21 j)) := by
  refine zx_T.l (i := .iload_n 1) (k := 1) (v := .int (zI (i))) (pc := 0) rfl rfl rfl ?_
  refine zr_i1 (x := i) (t := 17) (pc := 1) rfl rfl (by omega) (by omega) (fun (c1 : i < 0) => False.elim (by omega)) (fun (c1 : ¬ (i < 0)) => ?_)
  refine zx_T.l (i := .iload_n 1) (k := 1) (v := .int (zI (i))) (pc := 4) rfl rfl rfl ?_
  refine zx_T.s (i := .bipush 14) (k := 2) (st' := [.int (zI (14)), .int (zI (i))]) (pc := 5) rfl rfl ?_
  refine zr_i2 (x := i) (y := 14) (t := 17) (pc := 7) rfl rfl (by omega) (by omega) (by omega) (by omega) (fun (c2 : 14 ≤ i) => False.elim (by omega)) (fun (c2 : ¬ (14 ≤ i)) => ?_)
  refine zx_T.l (i := .aload_n 0) (k := 1) (v := .ref 20) (pc := 10) rfl rfl rfl ?_
  refine zw_gr (k := 0) (b := 21) (pc := 11) rfl rfl rfl hI ?_
  refine zx_T.l (i := .iload_n 1) (k := 1) (v := .int (zI (i))) (pc := 14) rfl rfl rfl ?_
  refine zx_T.l (i := .iload_n 2) (k := 1) (v := .int (zI (k))) (pc := 15) rfl rfl rfl ?_
  refine zr_as (n := 14) (lo := (-2147483648)) (hi := 2147483647) (e := k) (pc := 16) rfl rfl rfl rfl hI (by omega) (by omega) (by omega) (by omega) (fun h3 ih3 w4 s5 => ?_)
  have a21 : ∀ j, 0 ≤ j → zv_a h3 21 j = if j = i then k else zv_a h 21 j := fun j hj => by rw [s5 j hj]
  exact zr_vr (pc := 17) rfl rfl ⟨ih3, (w4.wd rfl : zb_W [(21, 0)] h _), rfl, by dsimp only; exact a21⟩

set_option maxRecDepth 100000 in
set_option maxHeartbeats 4000000 in
theorem zm_kindDown_20 {h : zx_H} (hI : zb_I zc_H h) {d : Int} (d1 : 0 ≤ d) (d2 : d ≤ 5) : zx_T zp_P 0 zp_m120 0 [(0, .ref 20), (1, .int (zI (d)))] [] h (zr_P h (fun e => ((d < zv_f h 20 1 ∧ e = zv_a h 21 (zv_f h 20 1 + 7 - d)) ∨ (¬ d < zv_f h 20 1 ∧ e = -1)) ∧ (-2147483648) ≤ e ∧ e ≤ 2147483647)) := by
  have hS := zw_ri hI (a := 20) (k := 1) rfl
  refine zx_T.l (i := .iload_n 1) (k := 1) (v := .int (zI (d))) (pc := 0) rfl rfl rfl ?_
  refine zr_i1 (x := d) (t := 31) (pc := 1) rfl rfl (by omega) (by omega) (fun (c1 : d < 0) => False.elim (by omega)) (fun (c1 : ¬ (d < 0)) => ?_)
  refine zx_T.l (i := .iload_n 1) (k := 1) (v := .int (zI (d))) (pc := 4) rfl rfl rfl ?_
  refine zx_T.l (i := .aload_n 0) (k := 1) (v := .ref 20) (pc := 5) rfl rfl rfl ?_
  refine zw_gi (k := 1) (lo := 0) (hi := 6) (e := zv_f h 20 1) (pc := 6) rfl rfl rfl hI rfl (fun g2a g2b => ?_)
  refine zr_i2 (x := d) (y := zv_f h 20 1) (t := 31) (pc := 9) rfl rfl (by omega) (by omega) (by omega) (by omega) (fun (c3 : (zv_f h 20 1) ≤ d) => ?_) (fun (c3 : ¬ ((zv_f h 20 1) ≤ d)) => ?_)
  · refine zx_T.s (i := .iconst (-1)) (k := 1) (st' := [.int (zI ((-1)))]) (pc := 31) rfl rfl ?_
    exact zr_ir (x := (-1)) (pc := 32) rfl rfl rfl ⟨rfl, _, rfl, by dsimp only; exact ⟨by first | exact Or.inr ⟨by omega, rfl⟩ | exact Or.inl ⟨by omega, by congr 1; omega⟩, by omega, by omega⟩⟩
  · refine zx_T.l (i := .aload_n 0) (k := 1) (v := .ref 20) (pc := 12) rfl rfl rfl ?_
    refine zw_gr (k := 0) (b := 21) (pc := 13) rfl rfl rfl hI ?_
    refine zx_T.s (i := .bipush 8) (k := 2) (st' := [.int (zI (8)), .ref 21]) (pc := 16) rfl rfl ?_
    refine zx_T.l (i := .aload_n 0) (k := 1) (v := .ref 20) (pc := 18) rfl rfl rfl ?_
    refine zw_gi (k := 1) (lo := 0) (hi := 6) (e := zv_f h 20 1) (pc := 19) rfl rfl rfl hI rfl (fun g4a g4b => ?_)
    refine zr_add (x := 8) (y := zv_f h 20 1) (e := zv_f h 20 1 + 8) (pc := 22) rfl (by omega) ?_
    refine zx_T.s (i := .iconst 1) (k := 1) (st' := [.int (zI (1)), .int (zI (zv_f h 20 1 + 8)), .ref 21]) (pc := 23) rfl rfl ?_
    refine zr_sub (x := zv_f h 20 1 + 8) (y := 1) (e := zv_f h 20 1 + 7) (pc := 24) rfl (by omega) ?_
    refine zx_T.l (i := .iload_n 1) (k := 1) (v := .int (zI (d))) (pc := 25) rfl rfl rfl ?_
    refine zr_sub (x := zv_f h 20 1 + 7) (y := d) (e := zv_f h 20 1 - d + 7) (pc := 26) rfl (by omega) ?_
    refine zr_al (n := 14) (lo := (-2147483648)) (hi := 2147483647) (e := zv_a h 21 (zv_f h 20 1 - d + 7)) (pc := 27) rfl rfl rfl hI (by omega) (by omega) rfl (fun g5a g5b => ?_)
    refine zx_T.j (i := .goto 4) (k := 3) (pc' := 32) (st' := [.int (zI (zv_a h 21 (zv_f h 20 1 - d + 7)))]) (pc := 28) rfl rfl rfl rfl rfl ?_
    exact zr_ir (x := zv_a h 21 (zv_f h 20 1 - d + 7)) (pc := 32) rfl rfl rfl ⟨rfl, _, rfl, by dsimp only; exact ⟨by first | exact Or.inr ⟨by omega, rfl⟩ | exact Or.inl ⟨by omega, by congr 1; omega⟩, by omega, by omega⟩⟩

set_option maxRecDepth 100000 in
set_option maxHeartbeats 4000000 in
theorem zm_leaveAlone_20 {h : zx_H} (hI : zb_I zc_H h) {k : Int} (k1 : -2147483648 ≤ k) (k2 : k ≤ 2147483647) : zx_T zp_P 0 zp_m121 0 [(0, .ref 20), (1, .int (zI (k)))] [] h (zr_V [(20, 1), (21, 0)] h (fun h' => zv_f h' 20 1 = 1 ∧ ∀ j, 0 ≤ j → zv_a h' 21 j = if j = 8 then k else zv_a h 21 j)) := by
  refine zx_T.l (i := .aload_n 0) (k := 1) (v := .ref 20) (pc := 0) rfl rfl rfl ?_
  refine zw_gr (k := 0) (b := 21) (pc := 1) rfl rfl rfl hI ?_
  refine zx_T.s (i := .bipush 8) (k := 2) (st' := [.int (zI (8)), .ref 21]) (pc := 4) rfl rfl ?_
  refine zx_T.l (i := .iload_n 1) (k := 1) (v := .int (zI (k))) (pc := 6) rfl rfl rfl ?_
  refine zr_as (n := 14) (lo := (-2147483648)) (hi := 2147483647) (e := k) (pc := 7) rfl rfl rfl rfl hI (by omega) (by omega) (by omega) (by omega) (fun h1 ih1 w2 s3 => ?_)
  refine zx_T.l (i := .aload_n 0) (k := 1) (v := .ref 20) (pc := 8) rfl rfl rfl ?_
  refine zx_T.s (i := .iconst 1) (k := 1) (st' := [.int (zI (1)), .ref 20]) (pc := 9) rfl rfl ?_
  refine zw_pi (k := 1) (lo := 0) (hi := 6) (e := 1) (pc := 10) rfl rfl rfl rfl rfl rfl ih1 (by omega) (by omega) (fun h4 ih4 w5 e6 => ?_)
  have y7 : zv_f h4 20 1 = 1 := e6
  have a21 : ∀ j, 0 ≤ j → zv_a h4 21 j = if j = 8 then k else zv_a h 21 j := fun j hj => by rw [zv_wa w5 rfl j, s3 j hj]
  exact zr_vr (pc := 13) rfl rfl ⟨ih4, ((w2.wd rfl : zb_W [(20, 1), (21, 0)] h _).tr (w5.wd rfl)), rfl, by dsimp only; exact ⟨by omega, a21⟩⟩

set_option maxRecDepth 100000 in
set_option maxHeartbeats 4000000 in
theorem zm_drop_20 {h : zx_H} (hI : zb_I zc_H h) {n : Int} (n1 : 0 ≤ n) (n2 : n ≤ 6) : zx_T zp_P 0 zp_m122 0 [(0, .ref 20), (1, .int (zI (n)))] [] h (zr_V [(20, 1)] h (fun h' => (n < zv_f h 20 1 ∧ zv_f h' 20 1 = zv_f h 20 1 - n) ∨ (¬ n < zv_f h 20 1 ∧ zv_f h' 20 1 = 0))) := by
  have hS := zw_ri hI (a := 20) (k := 1) rfl
  refine zx_T.l (i := .aload_n 0) (k := 1) (v := .ref 20) (pc := 0) rfl rfl rfl ?_
  refine zx_T.l (i := .iload_n 1) (k := 1) (v := .int (zI (n))) (pc := 1) rfl rfl rfl ?_
  refine zx_T.l (i := .aload_n 0) (k := 1) (v := .ref 20) (pc := 2) rfl rfl rfl ?_
  refine zw_gi (k := 1) (lo := 0) (hi := 6) (e := zv_f h 20 1) (pc := 3) rfl rfl rfl hI rfl (fun g1a g1b => ?_)
  refine zr_i2 (x := n) (y := zv_f h 20 1) (t := 18) (pc := 6) rfl rfl (by omega) (by omega) (by omega) (by omega) (fun (c2 : (zv_f h 20 1) ≤ n) => ?_) (fun (c2 : ¬ ((zv_f h 20 1) ≤ n)) => ?_)
  · refine zx_T.s (i := .iconst 0) (k := 1) (st' := [.int (zI (0)), .ref 20]) (pc := 18) rfl rfl ?_
    refine zw_pi (k := 1) (lo := 0) (hi := 6) (e := 0) (pc := 19) rfl rfl rfl rfl rfl rfl hI (by omega) (by omega) (fun h3 ih3 w4 e5 => ?_)
    have y6 : zv_f h3 20 1 = 0 := e5
    exact zr_vr (pc := 22) rfl rfl ⟨ih3, (w4.wd rfl : zb_W [(20, 1)] h _), rfl, by dsimp only; omega⟩
  · refine zx_T.l (i := .aload_n 0) (k := 1) (v := .ref 20) (pc := 9) rfl rfl rfl ?_
    refine zw_gi (k := 1) (lo := 0) (hi := 6) (e := zv_f h 20 1) (pc := 10) rfl rfl rfl hI rfl (fun g7a g7b => ?_)
    refine zx_T.l (i := .iload_n 1) (k := 1) (v := .int (zI (n))) (pc := 13) rfl rfl rfl ?_
    refine zr_sub (x := zv_f h 20 1) (y := n) (e := zv_f h 20 1 - n) (pc := 14) rfl (by omega) ?_
    refine zx_T.j (i := .goto 4) (k := 3) (pc' := 19) (st' := [.int (zI (zv_f h 20 1 - n)), .ref 20]) (pc := 15) rfl rfl rfl rfl rfl ?_
    refine zw_pi (k := 1) (lo := 0) (hi := 6) (e := zv_f h 20 1 - n) (pc := 19) rfl rfl rfl rfl rfl rfl hI (by omega) (by omega) (fun h8 ih8 w9 e10 => ?_)
    have y11 : zv_f h8 20 1 = zv_f h 20 1 - n := e10
    exact zr_vr (pc := 22) rfl rfl ⟨ih8, (w9.wd rfl : zb_W [(20, 1)] h _), rfl, by dsimp only; omega⟩

set_option maxRecDepth 100000 in
set_option maxHeartbeats 4000000 in
theorem zm_push_20 {h : zx_H} (hI : zb_I zc_H h) {k : Int} (k1 : -2147483648 ≤ k) (k2 : k ≤ 2147483647) : zx_T zp_P 1 zp_m123 0 [(0, .ref 20), (1, .int (zI (k)))] [] h (zr_R [(20, 1), (21, 0)] h (fun e h' => zt_eq (e, zv_f h' 20 1, zv_a h' 21) (zs_push k (0, zv_f h 20 1, zv_a h 21)) ∧ 0 ≤ e ∧ e ≤ 3)) := by
  have hS := zw_ri hI (a := 20) (k := 1) rfl
  refine zx_T.l (i := .iload_n 1) (k := 1) (v := .int (zI (k))) (pc := 0) rfl rfl rfl ?_
  refine zx_T.s (i := .iconst 2) (k := 1) (st' := [.int (zI (2)), .int (zI (k))]) (pc := 1) rfl rfl ?_
  refine zr_i2 (x := k) (y := 2) (t := 9) (pc := 2) rfl rfl (by omega) (by omega) (by omega) (by omega) (fun (c1 : ¬ k = 2) => ?_) (fun (c1 : ¬ (¬ k = 2)) => ?_)
  · refine zx_T.s (i := .iconst 1) (k := 1) (st' := [.int (zI (1))]) (pc := 9) rfl rfl ?_
    refine zx_T.t (i := .istore_n 2) (k := 1) (ls' := [(2, .int (zI (1))), (0, .ref 20), (1, .int (zI (k)))]) (st' := []) (pc := 10) rfl rfl rfl rfl ?_
    refine zx_T.l (i := .aload_n 0) (k := 1) (v := .ref 20) (pc := 11) rfl rfl rfl ?_
    refine zw_gi (k := 1) (lo := 0) (hi := 6) (e := zv_f h 20 1) (pc := 12) rfl rfl rfl hI rfl (fun g2a g2b => ?_)
    refine zx_T.l (i := .iload_n 2) (k := 1) (v := .int (zI (1))) (pc := 15) rfl rfl rfl ?_
    refine zr_add (x := zv_f h 20 1) (y := 1) (e := zv_f h 20 1 + 1) (pc := 16) rfl (by omega) ?_
    refine zx_T.s (i := .bipush 6) (k := 2) (st' := [.int (zI (6)), .int (zI (zv_f h 20 1 + 1))]) (pc := 17) rfl rfl ?_
    refine zr_i2 (x := zv_f h 20 1 + 1) (y := 6) (t := 24) (pc := 19) rfl rfl (by omega) (by omega) (by omega) (by omega) (fun (c3 : (zv_f h 20 1 + 1) ≤ 6) => ?_) (fun (c3 : ¬ ((zv_f h 20 1 + 1) ≤ 6)) => ?_)
    · refine zx_T.l (i := .aload_n 0) (k := 1) (v := .ref 20) (pc := 24) rfl rfl rfl ?_
      refine zx_T.s (i := .bipush 8) (k := 2) (st' := [.int (zI (8)), .ref 20]) (pc := 25) rfl rfl ?_
      refine zx_T.l (i := .aload_n 0) (k := 1) (v := .ref 20) (pc := 27) rfl rfl rfl ?_
      refine zw_gi (k := 1) (lo := 0) (hi := 6) (e := zv_f h 20 1) (pc := 28) rfl rfl rfl hI rfl (fun g4a g4b => ?_)
      refine zr_add (x := 8) (y := zv_f h 20 1) (e := zv_f h 20 1 + 8) (pc := 31) rfl (by omega) ?_
      refine zx_T.l (i := .iload_n 1) (k := 1) (v := .int (zI (k))) (pc := 32) rfl rfl rfl ?_
      refine zw_iv (b := 20) (cj := 119) (q' := zp_m119) (As := [.int (zI (zv_f h 20 1 + 8)), .int (zI (k))]) (rest := []) (pc := 33) rfl rfl rfl rfl rfl rfl rfl (Nat.le_of_ble_eq_true rfl) rfl (Nat.le_of_ble_eq_true rfl) hI ((zm_setKind_20 (h := h) hI (i := zv_f h 20 1 + 8) (k := k) (by omega) (by omega) (by omega) (by omega)).up (Nat.le_of_ble_eq_true rfl)) ?_
      rintro r5 h8 ⟨ih8, w9, r5q, x7⟩
      subst r5q
      try dsimp only at x7
      have sk1 := x7
      show zx_T zp_P 1 zp_m123 36 [(2, .int (zI (1))), (0, .ref 20), (1, .int (zI (k)))] [] h8 _
      refine zx_T.l (i := .iload_n 2) (k := 1) (v := .int (zI (1))) (pc := 36) rfl rfl rfl ?_
      refine zx_T.s (i := .iconst 2) (k := 1) (st' := [.int (zI (2)), .int (zI (1))]) (pc := 37) rfl rfl ?_
      refine zr_i2 (x := 1) (y := 2) (t := 55) (pc := 38) rfl rfl (by omega) (by omega) (by omega) (by omega) (fun _ => ?_) (fun (c10 : ¬ (¬ 1 = 2)) => absurd (by decide) c10)
      refine zx_T.l (i := .aload_n 0) (k := 1) (v := .ref 20) (pc := 55) rfl rfl rfl ?_
      refine zx_T.s (i := .dup) (k := 1) (st' := [.ref 20, .ref 20]) (pc := 56) rfl rfl ?_
      refine zw_gi (k := 1) (lo := 0) (hi := 6) (e := zv_f h 20 1) (pc := 57) rfl rfl rfl ih8 (zv_wf w9 rfl) (fun g11a g11b => ?_)
      refine zx_T.l (i := .iload_n 2) (k := 1) (v := .int (zI (1))) (pc := 60) rfl rfl rfl ?_
      refine zr_add (x := zv_f h 20 1) (y := 1) (e := zv_f h 20 1 + 1) (pc := 61) rfl (by omega) ?_
      refine zw_pi (k := 1) (lo := 0) (hi := 6) (e := zv_f h 20 1 + 1) (pc := 62) rfl rfl rfl rfl rfl rfl ih8 (by omega) (by omega) (fun h12 ih12 w13 e14 => ?_)
      refine zx_T.s (i := .iconst 0) (k := 1) (st' := [.int (zI (0))]) (pc := 65) rfl rfl ?_
      have y15 : zv_f h12 20 1 = zv_f h 20 1 + 1 := e14
      have a21 : ∀ j, 0 ≤ j → zv_a h12 21 j = zv_a h8 21 j := fun j hj => by rw [zv_wa w13 rfl j]
      exact zr_ir (x := 0) (pc := 66) rfl rfl rfl ⟨ih12, ((w9.wd rfl : zb_W [(20, 1), (21, 0)] h _).tr (w13.wd rfl)), _, rfl, by dsimp only; exact ⟨zt_push (by first | exact Or.inr (Or.inl ⟨rfl, by unfold zs_wd; split <;> omega, by omega, by omega, fun j j0 => by rw [a21 j j0]⟩) | exact Or.inr (Or.inr ⟨rfl, by unfold zs_wd; split <;> omega, by omega, by unfold zs_wd; split <;> omega, fun j j0 => by rw [a21 j j0]; rw [sk1 j j0]; (repeat split) <;> omega⟩)), by omega, by omega⟩⟩
    · refine zx_T.s (i := .iconst 3) (k := 1) (st' := [.int (zI (3))]) (pc := 22) rfl rfl ?_
      have a21 : ∀ j, 0 ≤ j → zv_a h 21 j = zv_a h 21 j := fun j hj => rfl
      exact zr_ir (x := 3) (pc := 23) rfl rfl rfl ⟨hI, zb_W.rf, _, rfl, by dsimp only; exact ⟨zt_push (by first | exact Or.inr (Or.inl ⟨rfl, by unfold zs_wd; split <;> omega, by omega, by omega, fun j j0 => by rw [a21 j j0]⟩) | exact Or.inr (Or.inr ⟨rfl, by unfold zs_wd; split <;> omega, by omega, by unfold zs_wd; split <;> omega, fun j j0 => by rw [a21 j j0]; (repeat split) <;> omega⟩)), by omega, by omega⟩⟩
  · refine zx_T.s (i := .iconst 2) (k := 1) (st' := [.int (zI (2))]) (pc := 5) rfl rfl ?_
    refine zx_T.j (i := .goto 4) (k := 3) (pc' := 10) (st' := [.int (zI (2))]) (pc := 6) rfl rfl rfl rfl rfl ?_
    refine zx_T.t (i := .istore_n 2) (k := 1) (ls' := [(2, .int (zI (2))), (0, .ref 20), (1, .int (zI (k)))]) (st' := []) (pc := 10) rfl rfl rfl rfl ?_
    refine zx_T.l (i := .aload_n 0) (k := 1) (v := .ref 20) (pc := 11) rfl rfl rfl ?_
    refine zw_gi (k := 1) (lo := 0) (hi := 6) (e := zv_f h 20 1) (pc := 12) rfl rfl rfl hI rfl (fun g19a g19b => ?_)
    refine zx_T.l (i := .iload_n 2) (k := 1) (v := .int (zI (2))) (pc := 15) rfl rfl rfl ?_
    refine zr_add (x := zv_f h 20 1) (y := 2) (e := zv_f h 20 1 + 2) (pc := 16) rfl (by omega) ?_
    refine zx_T.s (i := .bipush 6) (k := 2) (st' := [.int (zI (6)), .int (zI (zv_f h 20 1 + 2))]) (pc := 17) rfl rfl ?_
    refine zr_i2 (x := zv_f h 20 1 + 2) (y := 6) (t := 24) (pc := 19) rfl rfl (by omega) (by omega) (by omega) (by omega) (fun (c20 : (zv_f h 20 1 + 2) ≤ 6) => ?_) (fun (c20 : ¬ ((zv_f h 20 1 + 2) ≤ 6)) => ?_)
    · refine zx_T.l (i := .aload_n 0) (k := 1) (v := .ref 20) (pc := 24) rfl rfl rfl ?_
      refine zx_T.s (i := .bipush 8) (k := 2) (st' := [.int (zI (8)), .ref 20]) (pc := 25) rfl rfl ?_
      refine zx_T.l (i := .aload_n 0) (k := 1) (v := .ref 20) (pc := 27) rfl rfl rfl ?_
      refine zw_gi (k := 1) (lo := 0) (hi := 6) (e := zv_f h 20 1) (pc := 28) rfl rfl rfl hI rfl (fun g21a g21b => ?_)
      refine zr_add (x := 8) (y := zv_f h 20 1) (e := zv_f h 20 1 + 8) (pc := 31) rfl (by omega) ?_
      refine zx_T.l (i := .iload_n 1) (k := 1) (v := .int (zI (k))) (pc := 32) rfl rfl rfl ?_
      refine zw_iv (b := 20) (cj := 119) (q' := zp_m119) (As := [.int (zI (zv_f h 20 1 + 8)), .int (zI (k))]) (rest := []) (pc := 33) rfl rfl rfl rfl rfl rfl rfl (Nat.le_of_ble_eq_true rfl) rfl (Nat.le_of_ble_eq_true rfl) hI ((zm_setKind_20 (h := h) hI (i := zv_f h 20 1 + 8) (k := k) (by omega) (by omega) (by omega) (by omega)).up (Nat.le_of_ble_eq_true rfl)) ?_
      rintro r22 h25 ⟨ih25, w26, r22q, x24⟩
      subst r22q
      try dsimp only at x24
      have sk1 := x24
      show zx_T zp_P 1 zp_m123 36 [(2, .int (zI (2))), (0, .ref 20), (1, .int (zI (k)))] [] h25 _
      refine zx_T.l (i := .iload_n 2) (k := 1) (v := .int (zI (2))) (pc := 36) rfl rfl rfl ?_
      refine zx_T.s (i := .iconst 2) (k := 1) (st' := [.int (zI (2)), .int (zI (2))]) (pc := 37) rfl rfl ?_
      refine zr_i2 (x := 2) (y := 2) (t := 55) (pc := 38) rfl rfl (by omega) (by omega) (by omega) (by omega) (fun (c27 : ¬ 2 = 2) => absurd c27 (by decide)) (fun _ => ?_)
      refine zx_T.l (i := .aload_n 0) (k := 1) (v := .ref 20) (pc := 41) rfl rfl rfl ?_
      refine zx_T.s (i := .bipush 8) (k := 2) (st' := [.int (zI (8)), .ref 20]) (pc := 42) rfl rfl ?_
      refine zx_T.l (i := .aload_n 0) (k := 1) (v := .ref 20) (pc := 44) rfl rfl rfl ?_
      refine zw_gi (k := 1) (lo := 0) (hi := 6) (e := zv_f h 20 1) (pc := 45) rfl rfl rfl ih25 (zv_wf w26 rfl) (fun g28a g28b => ?_)
      refine zr_add (x := 8) (y := zv_f h 20 1) (e := zv_f h 20 1 + 8) (pc := 48) rfl (by omega) ?_
      refine zx_T.s (i := .iconst 1) (k := 1) (st' := [.int (zI (1)), .int (zI (zv_f h 20 1 + 8)), .ref 20]) (pc := 49) rfl rfl ?_
      refine zr_add (x := zv_f h 20 1 + 8) (y := 1) (e := zv_f h 20 1 + 9) (pc := 50) rfl (by omega) ?_
      refine zx_T.s (i := .iconst 3) (k := 1) (st' := [.int (zI (3)), .int (zI (zv_f h 20 1 + 9)), .ref 20]) (pc := 51) rfl rfl ?_
      refine zw_iv (b := 20) (cj := 119) (q' := zp_m119) (As := [.int (zI (zv_f h 20 1 + 9)), .int (zI (3))]) (rest := []) (pc := 52) rfl rfl rfl rfl rfl rfl rfl (Nat.le_of_ble_eq_true rfl) rfl (Nat.le_of_ble_eq_true rfl) ih25 ((zm_setKind_20 (h := h25) ih25 (i := zv_f h 20 1 + 9) (k := 3) (by omega) (by omega) (by omega) (by omega)).up (Nat.le_of_ble_eq_true rfl)) ?_
      rintro r29 h32 ⟨ih32, w33, r29q, x31⟩
      subst r29q
      try dsimp only at x31
      have sk2 := x31
      show zx_T zp_P 1 zp_m123 55 [(2, .int (zI (2))), (0, .ref 20), (1, .int (zI (k)))] [] h32 _
      refine zx_T.l (i := .aload_n 0) (k := 1) (v := .ref 20) (pc := 55) rfl rfl rfl ?_
      refine zx_T.s (i := .dup) (k := 1) (st' := [.ref 20, .ref 20]) (pc := 56) rfl rfl ?_
      refine zw_gi (k := 1) (lo := 0) (hi := 6) (e := zv_f h 20 1) (pc := 57) rfl rfl rfl ih32 ((zv_wf w33 rfl).trans (zv_wf w26 rfl)) (fun g34a g34b => ?_)
      refine zx_T.l (i := .iload_n 2) (k := 1) (v := .int (zI (2))) (pc := 60) rfl rfl rfl ?_
      refine zr_add (x := zv_f h 20 1) (y := 2) (e := zv_f h 20 1 + 2) (pc := 61) rfl (by omega) ?_
      refine zw_pi (k := 1) (lo := 0) (hi := 6) (e := zv_f h 20 1 + 2) (pc := 62) rfl rfl rfl rfl rfl rfl ih32 (by omega) (by omega) (fun h35 ih35 w36 e37 => ?_)
      refine zx_T.s (i := .iconst 0) (k := 1) (st' := [.int (zI (0))]) (pc := 65) rfl rfl ?_
      have y38 : zv_f h35 20 1 = zv_f h 20 1 + 2 := e37
      have a21 : ∀ j, 0 ≤ j → zv_a h35 21 j = zv_a h32 21 j := fun j hj => by rw [zv_wa w36 rfl j]
      exact zr_ir (x := 0) (pc := 66) rfl rfl rfl ⟨ih35, (((w26.wd rfl : zb_W [(20, 1), (21, 0)] h _).tr (w33.wd rfl)).tr (w36.wd rfl)), _, rfl, by dsimp only; exact ⟨zt_push (by first | exact Or.inr (Or.inl ⟨rfl, by unfold zs_wd; split <;> omega, by omega, by omega, fun j j0 => by rw [a21 j j0]⟩) | exact Or.inr (Or.inr ⟨rfl, by unfold zs_wd; split <;> omega, by omega, by unfold zs_wd; split <;> omega, fun j j0 => by rw [a21 j j0]; rw [sk2 j j0, sk1 j j0]; (repeat split) <;> omega⟩)), by omega, by omega⟩⟩
    · refine zx_T.s (i := .iconst 3) (k := 1) (st' := [.int (zI (3))]) (pc := 22) rfl rfl ?_
      have a21 : ∀ j, 0 ≤ j → zv_a h 21 j = zv_a h 21 j := fun j hj => rfl
      exact zr_ir (x := 3) (pc := 23) rfl rfl rfl ⟨hI, zb_W.rf, _, rfl, by dsimp only; exact ⟨zt_push (by first | exact Or.inr (Or.inl ⟨rfl, by unfold zs_wd; split <;> omega, by omega, by omega, fun j j0 => by rw [a21 j j0]⟩) | exact Or.inr (Or.inr ⟨rfl, by unfold zs_wd; split <;> omega, by omega, by unfold zs_wd; split <;> omega, fun j j0 => by rw [a21 j j0]; (repeat split) <;> omega⟩)), by omega, by omega⟩⟩

set_option maxRecDepth 100000 in
set_option maxHeartbeats 4000000 in
theorem zm_store_20 {h : zx_H} (hI : zb_I zc_H h) {a : Int} {k : Int} (a1 : -2147483648 ≤ a) (a2 : a ≤ 2147483647) (k1 : -2147483648 ≤ k) (k2 : k ≤ 2147483647) : zx_T zp_P 0 zp_m124 0 [(0, .ref 20), (1, .int (zI (a))), (2, .int (zI (k)))] [] h (zr_R [(21, 0)] h (fun e h' => (¬ (0 ≤ a ∧ a + zs_wd k ≤ 8) ∧ e = 4 ∧ ∀ j, 0 ≤ j → zv_a h' 21 j = zv_a h 21 j) ∨ ((0 ≤ a ∧ a + zs_wd k ≤ 8) ∧ e = 0 ∧ ∀ j, 0 ≤ j → zv_a h' 21 j = zc_st a k (zv_a h 21) j))) := by
  refine zx_T.l (i := .iload_n 2) (k := 1) (v := .int (zI (k))) (pc := 0) rfl rfl rfl ?_
  refine zx_T.s (i := .iconst 2) (k := 1) (st' := [.int (zI (2)), .int (zI (k))]) (pc := 1) rfl rfl ?_
  refine zr_i2 (x := k) (y := 2) (t := 9) (pc := 2) rfl rfl (by omega) (by omega) (by omega) (by omega) (fun (c1 : ¬ k = 2) => ?_) (fun (c1 : ¬ (¬ k = 2)) => ?_)
  · refine zx_T.s (i := .iconst 1) (k := 1) (st' := [.int (zI (1))]) (pc := 9) rfl rfl ?_
    refine zx_T.t (i := .istore_n 3) (k := 1) (ls' := [(3, .int (zI (1))), (0, .ref 20), (1, .int (zI (a))), (2, .int (zI (k)))]) (st' := []) (pc := 10) rfl rfl rfl rfl ?_
    refine zx_T.l (i := .iload_n 1) (k := 1) (v := .int (zI (a))) (pc := 11) rfl rfl rfl ?_
    refine zr_i1 (x := a) (t := 23) (pc := 12) rfl rfl (by omega) (by omega) (fun (c2 : a < 0) => ?_) (fun (c2 : ¬ (a < 0)) => ?_)
    · refine zx_T.s (i := .iconst 4) (k := 1) (st' := [.int (zI (4))]) (pc := 23) rfl rfl ?_
      have a21 : ∀ j, 0 ≤ j → zv_a h 21 j = zv_a h 21 j := fun j hj => rfl
      exact zr_ir (x := 4) (pc := 24) rfl rfl rfl ⟨hI, zb_W.rf, _, rfl, by dsimp only; exact Or.inl ⟨by unfold zs_wd; split <;> omega, rfl, a21⟩⟩
    · refine zx_T.l (i := .iload_n 1) (k := 1) (v := .int (zI (a))) (pc := 15) rfl rfl rfl ?_
      refine zx_T.s (i := .bipush 8) (k := 2) (st' := [.int (zI (8)), .int (zI (a))]) (pc := 16) rfl rfl ?_
      refine zx_T.l (i := .iload_n 3) (k := 1) (v := .int (zI (1))) (pc := 18) rfl rfl rfl ?_
      refine zr_sub (x := 8) (y := 1) (e := 7) (pc := 19) rfl (by omega) ?_
      refine zr_i2 (x := a) (y := 7) (t := 25) (pc := 20) rfl rfl (by omega) (by omega) (by omega) (by omega) (fun (c4 : a ≤ 7) => ?_) (fun (c4 : ¬ (a ≤ 7)) => ?_)
      · refine zx_T.l (i := .iload_n 1) (k := 1) (v := .int (zI (a))) (pc := 25) rfl rfl rfl ?_
        refine zr_i1 (x := a) (t := 50) (pc := 26) rfl rfl (by omega) (by omega) (fun (c5 : a ≤ 0) => ?_) (fun (c5 : ¬ (a ≤ 0)) => ?_)
        · refine zx_T.l (i := .aload_n 0) (k := 1) (v := .ref 20) (pc := 50) rfl rfl rfl ?_
          refine zw_gr (k := 0) (b := 21) (pc := 51) rfl rfl rfl hI ?_
          refine zx_T.l (i := .iload_n 1) (k := 1) (v := .int (zI (a))) (pc := 54) rfl rfl rfl ?_
          refine zx_T.l (i := .iload_n 2) (k := 1) (v := .int (zI (k))) (pc := 55) rfl rfl rfl ?_
          refine zr_as (n := 14) (lo := (-2147483648)) (hi := 2147483647) (e := k) (pc := 56) rfl rfl rfl rfl hI (by omega) (by omega) (by omega) (by omega) (fun h6 ih6 w7 s8 => ?_)
          refine zx_T.l (i := .iload_n 3) (k := 1) (v := .int (zI (1))) (pc := 57) rfl rfl rfl ?_
          refine zx_T.s (i := .iconst 2) (k := 1) (st' := [.int (zI (2)), .int (zI (1))]) (pc := 58) rfl rfl ?_
          refine zr_i2 (x := 1) (y := 2) (t := 71) (pc := 59) rfl rfl (by omega) (by omega) (by omega) (by omega) (fun _ => ?_) (fun (c9 : ¬ (¬ 1 = 2)) => absurd (by decide) c9)
          refine zx_T.l (i := .iload_n 1) (k := 1) (v := .int (zI (a))) (pc := 71) rfl rfl rfl ?_
          refine zx_T.l (i := .iload_n 3) (k := 1) (v := .int (zI (1))) (pc := 72) rfl rfl rfl ?_
          refine zr_add (x := a) (y := 1) (e := a + 1) (pc := 73) rfl (by omega) ?_
          refine zx_T.t (i := .istore 4) (k := 2) (ls' := [(4, .int (zI (a + 1))), (3, .int (zI (1))), (0, .ref 20), (1, .int (zI (a))), (2, .int (zI (k)))]) (st' := []) (pc := 74) rfl rfl rfl rfl ?_
          refine zx_T.l (i := .iload 4) (k := 2) (v := .int (zI (a + 1))) (pc := 76) rfl rfl rfl ?_
          refine zx_T.s (i := .bipush 8) (k := 2) (st' := [.int (zI (8)), .int (zI (a + 1))]) (pc := 78) rfl rfl ?_
          refine zr_i2 (x := a + 1) (y := 8) (t := 102) (pc := 80) rfl rfl (by omega) (by omega) (by omega) (by omega) (fun (c10 : 8 ≤ (a + 1)) => False.elim (by omega)) (fun (c10 : ¬ (8 ≤ (a + 1))) => ?_)
          refine zx_T.l (i := .aload_n 0) (k := 1) (v := .ref 20) (pc := 83) rfl rfl rfl ?_
          refine zw_gr (k := 0) (b := 21) (pc := 84) rfl rfl rfl ih6 ?_
          refine zx_T.l (i := .iload 4) (k := 2) (v := .int (zI (a + 1))) (pc := 87) rfl rfl rfl ?_
          refine zr_al (n := 14) (lo := (-2147483648)) (hi := 2147483647) (e := zv_a h 21 (a + 1)) (pc := 89) rfl rfl rfl ih6 (by omega) (by omega) ((s8 (a + 1) (by omega)).trans (if_neg (by omega))) (fun g11a g11b => ?_)
          refine zx_T.s (i := .iconst 3) (k := 1) (st' := [.int (zI (3)), .int (zI (zv_a h 21 (a + 1)))]) (pc := 90) rfl rfl ?_
          refine zr_i2 (x := zv_a h 21 (a + 1)) (y := 3) (t := 102) (pc := 91) rfl rfl (by omega) (by omega) (by omega) (by omega) (fun (c12 : ¬ (zv_a h 21 (a + 1)) = 3) => ?_) (fun (c12 : ¬ (¬ (zv_a h 21 (a + 1)) = 3)) => ?_)
          · refine zx_T.s (i := .iconst 0) (k := 1) (st' := [.int (zI (0))]) (pc := 102) rfl rfl ?_
            have a21 : ∀ j, 0 ≤ j → zv_a h6 21 j = if j = a then k else zv_a h 21 j := fun j hj => by rw [s8 j hj]
            exact zr_ir (x := 0) (pc := 103) rfl rfl rfl ⟨ih6, (w7.wd rfl : zb_W [(21, 0)] h _), _, rfl, by dsimp only; first | exact Or.inr ⟨zc_wd1 (by assumption) (by assumption) (by assumption), rfl, zc_st_e1 a21 (by assumption) (by assumption) (by first | exact Or.inl (by assumption) | exact Or.inr (by assumption)) (by first | exact Or.inl (by assumption) | exact Or.inr (by assumption))⟩ | exact Or.inr ⟨zc_wd1 (by assumption) (by assumption) (by assumption), rfl, zc_st_e2 a21 (by assumption) (by assumption) (by assumption) (by first | exact Or.inl (by assumption) | exact Or.inr (by assumption))⟩ | exact Or.inr ⟨zc_wd1 (by assumption) (by assumption) (by assumption), rfl, zc_st_e3 a21 (by assumption) (by assumption) (by first | exact Or.inl (by assumption) | exact Or.inr (by assumption)) (by assumption) (by assumption)⟩ | exact Or.inr ⟨zc_wd1 (by assumption) (by assumption) (by assumption), rfl, zc_st_e4 a21 (by assumption) (by assumption) (by assumption) (by assumption) (by assumption)⟩ | exact Or.inr ⟨zc_wd2 (by assumption) (by assumption) (by assumption), rfl, zc_st_e5 a21 (by assumption) (by assumption) (by first | exact Or.inl (by assumption) | exact Or.inr (by assumption)) (by first | exact Or.inl (by assumption) | exact Or.inr (by assumption))⟩ | exact Or.inr ⟨zc_wd2 (by assumption) (by assumption) (by assumption), rfl, zc_st_e6 a21 (by assumption) (by assumption) (by assumption) (by first | exact Or.inl (by assumption) | exact Or.inr (by assumption))⟩ | exact Or.inr ⟨zc_wd2 (by assumption) (by assumption) (by assumption), rfl, zc_st_e7 a21 (by assumption) (by assumption) (by first | exact Or.inl (by assumption) | exact Or.inr (by assumption)) (by assumption) (by assumption)⟩ | exact Or.inr ⟨zc_wd2 (by assumption) (by assumption) (by assumption), rfl, zc_st_e8 a21 (by assumption) (by assumption) (by assumption) (by assumption) (by assumption)⟩⟩
          · refine zx_T.l (i := .aload_n 0) (k := 1) (v := .ref 20) (pc := 94) rfl rfl rfl ?_
            refine zw_gr (k := 0) (b := 21) (pc := 95) rfl rfl rfl ih6 ?_
            refine zx_T.l (i := .iload 4) (k := 2) (v := .int (zI (a + 1))) (pc := 98) rfl rfl rfl ?_
            refine zx_T.s (i := .iconst 0) (k := 1) (st' := [.int (zI (0)), .int (zI (a + 1)), .ref 21]) (pc := 100) rfl rfl ?_
            refine zr_as (n := 14) (lo := (-2147483648)) (hi := 2147483647) (e := 0) (pc := 101) rfl rfl rfl rfl ih6 (by omega) (by omega) (by omega) (by omega) (fun h14 ih14 w15 s16 => ?_)
            refine zx_T.s (i := .iconst 0) (k := 1) (st' := [.int (zI (0))]) (pc := 102) rfl rfl ?_
            have a21 : ∀ j, 0 ≤ j → zv_a h14 21 j = if j = a + 1 then 0 else if j = a then k else zv_a h 21 j := fun j hj => by rw [s16 j hj, s8 j hj]
            exact zr_ir (x := 0) (pc := 103) rfl rfl rfl ⟨ih14, ((w7.wd rfl : zb_W [(21, 0)] h _).tr (w15.wd rfl)), _, rfl, by dsimp only; first | exact Or.inr ⟨zc_wd1 (by assumption) (by assumption) (by assumption), rfl, zc_st_e1 a21 (by assumption) (by assumption) (by first | exact Or.inl (by assumption) | exact Or.inr (by assumption)) (by first | exact Or.inl (by assumption) | exact Or.inr (by assumption))⟩ | exact Or.inr ⟨zc_wd1 (by assumption) (by assumption) (by assumption), rfl, zc_st_e2 a21 (by assumption) (by assumption) (by assumption) (by first | exact Or.inl (by assumption) | exact Or.inr (by assumption))⟩ | exact Or.inr ⟨zc_wd1 (by assumption) (by assumption) (by assumption), rfl, zc_st_e3 a21 (by assumption) (by assumption) (by first | exact Or.inl (by assumption) | exact Or.inr (by assumption)) (by assumption) (by assumption)⟩ | exact Or.inr ⟨zc_wd1 (by assumption) (by assumption) (by assumption), rfl, zc_st_e4 a21 (by assumption) (by assumption) (by assumption) (by assumption) (by assumption)⟩ | exact Or.inr ⟨zc_wd2 (by assumption) (by assumption) (by assumption), rfl, zc_st_e5 a21 (by assumption) (by assumption) (by first | exact Or.inl (by assumption) | exact Or.inr (by assumption)) (by first | exact Or.inl (by assumption) | exact Or.inr (by assumption))⟩ | exact Or.inr ⟨zc_wd2 (by assumption) (by assumption) (by assumption), rfl, zc_st_e6 a21 (by assumption) (by assumption) (by assumption) (by first | exact Or.inl (by assumption) | exact Or.inr (by assumption))⟩ | exact Or.inr ⟨zc_wd2 (by assumption) (by assumption) (by assumption), rfl, zc_st_e7 a21 (by assumption) (by assumption) (by first | exact Or.inl (by assumption) | exact Or.inr (by assumption)) (by assumption) (by assumption)⟩ | exact Or.inr ⟨zc_wd2 (by assumption) (by assumption) (by assumption), rfl, zc_st_e8 a21 (by assumption) (by assumption) (by assumption) (by assumption) (by assumption)⟩⟩
        · refine zx_T.l (i := .aload_n 0) (k := 1) (v := .ref 20) (pc := 29) rfl rfl rfl ?_
          refine zw_gr (k := 0) (b := 21) (pc := 30) rfl rfl rfl hI ?_
          refine zx_T.l (i := .iload_n 1) (k := 1) (v := .int (zI (a))) (pc := 33) rfl rfl rfl ?_
          refine zx_T.s (i := .iconst 1) (k := 1) (st' := [.int (zI (1)), .int (zI (a)), .ref 21]) (pc := 34) rfl rfl ?_
          refine zr_sub (x := a) (y := 1) (e := a - 1) (pc := 35) rfl (by omega) ?_
          refine zr_al (n := 14) (lo := (-2147483648)) (hi := 2147483647) (e := zv_a h 21 (a - 1)) (pc := 36) rfl rfl rfl hI (by omega) (by omega) rfl (fun g18a g18b => ?_)
          refine zx_T.s (i := .iconst 2) (k := 1) (st' := [.int (zI (2)), .int (zI (zv_a h 21 (a - 1)))]) (pc := 37) rfl rfl ?_
          refine zr_i2 (x := zv_a h 21 (a - 1)) (y := 2) (t := 50) (pc := 38) rfl rfl (by omega) (by omega) (by omega) (by omega) (fun (c19 : ¬ (zv_a h 21 (a - 1)) = 2) => ?_) (fun (c19 : ¬ (¬ (zv_a h 21 (a - 1)) = 2)) => ?_)
          · refine zx_T.l (i := .aload_n 0) (k := 1) (v := .ref 20) (pc := 50) rfl rfl rfl ?_
            refine zw_gr (k := 0) (b := 21) (pc := 51) rfl rfl rfl hI ?_
            refine zx_T.l (i := .iload_n 1) (k := 1) (v := .int (zI (a))) (pc := 54) rfl rfl rfl ?_
            refine zx_T.l (i := .iload_n 2) (k := 1) (v := .int (zI (k))) (pc := 55) rfl rfl rfl ?_
            refine zr_as (n := 14) (lo := (-2147483648)) (hi := 2147483647) (e := k) (pc := 56) rfl rfl rfl rfl hI (by omega) (by omega) (by omega) (by omega) (fun h20 ih20 w21 s22 => ?_)
            refine zx_T.l (i := .iload_n 3) (k := 1) (v := .int (zI (1))) (pc := 57) rfl rfl rfl ?_
            refine zx_T.s (i := .iconst 2) (k := 1) (st' := [.int (zI (2)), .int (zI (1))]) (pc := 58) rfl rfl ?_
            refine zr_i2 (x := 1) (y := 2) (t := 71) (pc := 59) rfl rfl (by omega) (by omega) (by omega) (by omega) (fun _ => ?_) (fun (c23 : ¬ (¬ 1 = 2)) => absurd (by decide) c23)
            refine zx_T.l (i := .iload_n 1) (k := 1) (v := .int (zI (a))) (pc := 71) rfl rfl rfl ?_
            refine zx_T.l (i := .iload_n 3) (k := 1) (v := .int (zI (1))) (pc := 72) rfl rfl rfl ?_
            refine zr_add (x := a) (y := 1) (e := a + 1) (pc := 73) rfl (by omega) ?_
            refine zx_T.t (i := .istore 4) (k := 2) (ls' := [(4, .int (zI (a + 1))), (3, .int (zI (1))), (0, .ref 20), (1, .int (zI (a))), (2, .int (zI (k)))]) (st' := []) (pc := 74) rfl rfl rfl rfl ?_
            refine zx_T.l (i := .iload 4) (k := 2) (v := .int (zI (a + 1))) (pc := 76) rfl rfl rfl ?_
            refine zx_T.s (i := .bipush 8) (k := 2) (st' := [.int (zI (8)), .int (zI (a + 1))]) (pc := 78) rfl rfl ?_
            refine zr_i2 (x := a + 1) (y := 8) (t := 102) (pc := 80) rfl rfl (by omega) (by omega) (by omega) (by omega) (fun (c24 : 8 ≤ (a + 1)) => ?_) (fun (c24 : ¬ (8 ≤ (a + 1))) => ?_)
            · refine zx_T.s (i := .iconst 0) (k := 1) (st' := [.int (zI (0))]) (pc := 102) rfl rfl ?_
              have a21 : ∀ j, 0 ≤ j → zv_a h20 21 j = if j = a then k else zv_a h 21 j := fun j hj => by rw [s22 j hj]
              exact zr_ir (x := 0) (pc := 103) rfl rfl rfl ⟨ih20, (w21.wd rfl : zb_W [(21, 0)] h _), _, rfl, by dsimp only; first | exact Or.inr ⟨zc_wd1 (by assumption) (by assumption) (by assumption), rfl, zc_st_e1 a21 (by assumption) (by assumption) (by first | exact Or.inl (by assumption) | exact Or.inr (by assumption)) (by first | exact Or.inl (by assumption) | exact Or.inr (by assumption))⟩ | exact Or.inr ⟨zc_wd1 (by assumption) (by assumption) (by assumption), rfl, zc_st_e2 a21 (by assumption) (by assumption) (by assumption) (by first | exact Or.inl (by assumption) | exact Or.inr (by assumption))⟩ | exact Or.inr ⟨zc_wd1 (by assumption) (by assumption) (by assumption), rfl, zc_st_e3 a21 (by assumption) (by assumption) (by first | exact Or.inl (by assumption) | exact Or.inr (by assumption)) (by assumption) (by assumption)⟩ | exact Or.inr ⟨zc_wd1 (by assumption) (by assumption) (by assumption), rfl, zc_st_e4 a21 (by assumption) (by assumption) (by assumption) (by assumption) (by assumption)⟩ | exact Or.inr ⟨zc_wd2 (by assumption) (by assumption) (by assumption), rfl, zc_st_e5 a21 (by assumption) (by assumption) (by first | exact Or.inl (by assumption) | exact Or.inr (by assumption)) (by first | exact Or.inl (by assumption) | exact Or.inr (by assumption))⟩ | exact Or.inr ⟨zc_wd2 (by assumption) (by assumption) (by assumption), rfl, zc_st_e6 a21 (by assumption) (by assumption) (by assumption) (by first | exact Or.inl (by assumption) | exact Or.inr (by assumption))⟩ | exact Or.inr ⟨zc_wd2 (by assumption) (by assumption) (by assumption), rfl, zc_st_e7 a21 (by assumption) (by assumption) (by first | exact Or.inl (by assumption) | exact Or.inr (by assumption)) (by assumption) (by assumption)⟩ | exact Or.inr ⟨zc_wd2 (by assumption) (by assumption) (by assumption), rfl, zc_st_e8 a21 (by assumption) (by assumption) (by assumption) (by assumption) (by assumption)⟩⟩
            · refine zx_T.l (i := .aload_n 0) (k := 1) (v := .ref 20) (pc := 83) rfl rfl rfl ?_
              refine zw_gr (k := 0) (b := 21) (pc := 84) rfl rfl rfl ih20 ?_
              refine zx_T.l (i := .iload 4) (k := 2) (v := .int (zI (a + 1))) (pc := 87) rfl rfl rfl ?_
              refine zr_al (n := 14) (lo := (-2147483648)) (hi := 2147483647) (e := zv_a h 21 (a + 1)) (pc := 89) rfl rfl rfl ih20 (by omega) (by omega) ((s22 (a + 1) (by omega)).trans (if_neg (by omega))) (fun g26a g26b => ?_)
              refine zx_T.s (i := .iconst 3) (k := 1) (st' := [.int (zI (3)), .int (zI (zv_a h 21 (a + 1)))]) (pc := 90) rfl rfl ?_
              refine zr_i2 (x := zv_a h 21 (a + 1)) (y := 3) (t := 102) (pc := 91) rfl rfl (by omega) (by omega) (by omega) (by omega) (fun (c27 : ¬ (zv_a h 21 (a + 1)) = 3) => ?_) (fun (c27 : ¬ (¬ (zv_a h 21 (a + 1)) = 3)) => ?_)
              · refine zx_T.s (i := .iconst 0) (k := 1) (st' := [.int (zI (0))]) (pc := 102) rfl rfl ?_
                have a21 : ∀ j, 0 ≤ j → zv_a h20 21 j = if j = a then k else zv_a h 21 j := fun j hj => by rw [s22 j hj]
                exact zr_ir (x := 0) (pc := 103) rfl rfl rfl ⟨ih20, (w21.wd rfl : zb_W [(21, 0)] h _), _, rfl, by dsimp only; first | exact Or.inr ⟨zc_wd1 (by assumption) (by assumption) (by assumption), rfl, zc_st_e1 a21 (by assumption) (by assumption) (by first | exact Or.inl (by assumption) | exact Or.inr (by assumption)) (by first | exact Or.inl (by assumption) | exact Or.inr (by assumption))⟩ | exact Or.inr ⟨zc_wd1 (by assumption) (by assumption) (by assumption), rfl, zc_st_e2 a21 (by assumption) (by assumption) (by assumption) (by first | exact Or.inl (by assumption) | exact Or.inr (by assumption))⟩ | exact Or.inr ⟨zc_wd1 (by assumption) (by assumption) (by assumption), rfl, zc_st_e3 a21 (by assumption) (by assumption) (by first | exact Or.inl (by assumption) | exact Or.inr (by assumption)) (by assumption) (by assumption)⟩ | exact Or.inr ⟨zc_wd1 (by assumption) (by assumption) (by assumption), rfl, zc_st_e4 a21 (by assumption) (by assumption) (by assumption) (by assumption) (by assumption)⟩ | exact Or.inr ⟨zc_wd2 (by assumption) (by assumption) (by assumption), rfl, zc_st_e5 a21 (by assumption) (by assumption) (by first | exact Or.inl (by assumption) | exact Or.inr (by assumption)) (by first | exact Or.inl (by assumption) | exact Or.inr (by assumption))⟩ | exact Or.inr ⟨zc_wd2 (by assumption) (by assumption) (by assumption), rfl, zc_st_e6 a21 (by assumption) (by assumption) (by assumption) (by first | exact Or.inl (by assumption) | exact Or.inr (by assumption))⟩ | exact Or.inr ⟨zc_wd2 (by assumption) (by assumption) (by assumption), rfl, zc_st_e7 a21 (by assumption) (by assumption) (by first | exact Or.inl (by assumption) | exact Or.inr (by assumption)) (by assumption) (by assumption)⟩ | exact Or.inr ⟨zc_wd2 (by assumption) (by assumption) (by assumption), rfl, zc_st_e8 a21 (by assumption) (by assumption) (by assumption) (by assumption) (by assumption)⟩⟩
              · refine zx_T.l (i := .aload_n 0) (k := 1) (v := .ref 20) (pc := 94) rfl rfl rfl ?_
                refine zw_gr (k := 0) (b := 21) (pc := 95) rfl rfl rfl ih20 ?_
                refine zx_T.l (i := .iload 4) (k := 2) (v := .int (zI (a + 1))) (pc := 98) rfl rfl rfl ?_
                refine zx_T.s (i := .iconst 0) (k := 1) (st' := [.int (zI (0)), .int (zI (a + 1)), .ref 21]) (pc := 100) rfl rfl ?_
                refine zr_as (n := 14) (lo := (-2147483648)) (hi := 2147483647) (e := 0) (pc := 101) rfl rfl rfl rfl ih20 (by omega) (by omega) (by omega) (by omega) (fun h29 ih29 w30 s31 => ?_)
                refine zx_T.s (i := .iconst 0) (k := 1) (st' := [.int (zI (0))]) (pc := 102) rfl rfl ?_
                have a21 : ∀ j, 0 ≤ j → zv_a h29 21 j = if j = a + 1 then 0 else if j = a then k else zv_a h 21 j := fun j hj => by rw [s31 j hj, s22 j hj]
                exact zr_ir (x := 0) (pc := 103) rfl rfl rfl ⟨ih29, ((w21.wd rfl : zb_W [(21, 0)] h _).tr (w30.wd rfl)), _, rfl, by dsimp only; first | exact Or.inr ⟨zc_wd1 (by assumption) (by assumption) (by assumption), rfl, zc_st_e1 a21 (by assumption) (by assumption) (by first | exact Or.inl (by assumption) | exact Or.inr (by assumption)) (by first | exact Or.inl (by assumption) | exact Or.inr (by assumption))⟩ | exact Or.inr ⟨zc_wd1 (by assumption) (by assumption) (by assumption), rfl, zc_st_e2 a21 (by assumption) (by assumption) (by assumption) (by first | exact Or.inl (by assumption) | exact Or.inr (by assumption))⟩ | exact Or.inr ⟨zc_wd1 (by assumption) (by assumption) (by assumption), rfl, zc_st_e3 a21 (by assumption) (by assumption) (by first | exact Or.inl (by assumption) | exact Or.inr (by assumption)) (by assumption) (by assumption)⟩ | exact Or.inr ⟨zc_wd1 (by assumption) (by assumption) (by assumption), rfl, zc_st_e4 a21 (by assumption) (by assumption) (by assumption) (by assumption) (by assumption)⟩ | exact Or.inr ⟨zc_wd2 (by assumption) (by assumption) (by assumption), rfl, zc_st_e5 a21 (by assumption) (by assumption) (by first | exact Or.inl (by assumption) | exact Or.inr (by assumption)) (by first | exact Or.inl (by assumption) | exact Or.inr (by assumption))⟩ | exact Or.inr ⟨zc_wd2 (by assumption) (by assumption) (by assumption), rfl, zc_st_e6 a21 (by assumption) (by assumption) (by assumption) (by first | exact Or.inl (by assumption) | exact Or.inr (by assumption))⟩ | exact Or.inr ⟨zc_wd2 (by assumption) (by assumption) (by assumption), rfl, zc_st_e7 a21 (by assumption) (by assumption) (by first | exact Or.inl (by assumption) | exact Or.inr (by assumption)) (by assumption) (by assumption)⟩ | exact Or.inr ⟨zc_wd2 (by assumption) (by assumption) (by assumption), rfl, zc_st_e8 a21 (by assumption) (by assumption) (by assumption) (by assumption) (by assumption)⟩⟩
          · refine zx_T.l (i := .aload_n 0) (k := 1) (v := .ref 20) (pc := 41) rfl rfl rfl ?_
            refine zw_gr (k := 0) (b := 21) (pc := 42) rfl rfl rfl hI ?_
            refine zx_T.l (i := .iload_n 1) (k := 1) (v := .int (zI (a))) (pc := 45) rfl rfl rfl ?_
            refine zx_T.s (i := .iconst 1) (k := 1) (st' := [.int (zI (1)), .int (zI (a)), .ref 21]) (pc := 46) rfl rfl ?_
            refine zr_sub (x := a) (y := 1) (e := a - 1) (pc := 47) rfl (by omega) ?_
            refine zx_T.s (i := .iconst 0) (k := 1) (st' := [.int (zI (0)), .int (zI (a - 1)), .ref 21]) (pc := 48) rfl rfl ?_
            refine zr_as (n := 14) (lo := (-2147483648)) (hi := 2147483647) (e := 0) (pc := 49) rfl rfl rfl rfl hI (by omega) (by omega) (by omega) (by omega) (fun h33 ih33 w34 s35 => ?_)
            refine zx_T.l (i := .aload_n 0) (k := 1) (v := .ref 20) (pc := 50) rfl rfl rfl ?_
            refine zw_gr (k := 0) (b := 21) (pc := 51) rfl rfl rfl ih33 ?_
            refine zx_T.l (i := .iload_n 1) (k := 1) (v := .int (zI (a))) (pc := 54) rfl rfl rfl ?_
            refine zx_T.l (i := .iload_n 2) (k := 1) (v := .int (zI (k))) (pc := 55) rfl rfl rfl ?_
            refine zr_as (n := 14) (lo := (-2147483648)) (hi := 2147483647) (e := k) (pc := 56) rfl rfl rfl rfl ih33 (by omega) (by omega) (by omega) (by omega) (fun h36 ih36 w37 s38 => ?_)
            refine zx_T.l (i := .iload_n 3) (k := 1) (v := .int (zI (1))) (pc := 57) rfl rfl rfl ?_
            refine zx_T.s (i := .iconst 2) (k := 1) (st' := [.int (zI (2)), .int (zI (1))]) (pc := 58) rfl rfl ?_
            refine zr_i2 (x := 1) (y := 2) (t := 71) (pc := 59) rfl rfl (by omega) (by omega) (by omega) (by omega) (fun _ => ?_) (fun (c39 : ¬ (¬ 1 = 2)) => absurd (by decide) c39)
            refine zx_T.l (i := .iload_n 1) (k := 1) (v := .int (zI (a))) (pc := 71) rfl rfl rfl ?_
            refine zx_T.l (i := .iload_n 3) (k := 1) (v := .int (zI (1))) (pc := 72) rfl rfl rfl ?_
            refine zr_add (x := a) (y := 1) (e := a + 1) (pc := 73) rfl (by omega) ?_
            refine zx_T.t (i := .istore 4) (k := 2) (ls' := [(4, .int (zI (a + 1))), (3, .int (zI (1))), (0, .ref 20), (1, .int (zI (a))), (2, .int (zI (k)))]) (st' := []) (pc := 74) rfl rfl rfl rfl ?_
            refine zx_T.l (i := .iload 4) (k := 2) (v := .int (zI (a + 1))) (pc := 76) rfl rfl rfl ?_
            refine zx_T.s (i := .bipush 8) (k := 2) (st' := [.int (zI (8)), .int (zI (a + 1))]) (pc := 78) rfl rfl ?_
            refine zr_i2 (x := a + 1) (y := 8) (t := 102) (pc := 80) rfl rfl (by omega) (by omega) (by omega) (by omega) (fun (c40 : 8 ≤ (a + 1)) => ?_) (fun (c40 : ¬ (8 ≤ (a + 1))) => ?_)
            · refine zx_T.s (i := .iconst 0) (k := 1) (st' := [.int (zI (0))]) (pc := 102) rfl rfl ?_
              have a21 : ∀ j, 0 ≤ j → zv_a h36 21 j = if j = a then k else if j = a - 1 then 0 else zv_a h 21 j := fun j hj => by rw [s38 j hj, s35 j hj]
              exact zr_ir (x := 0) (pc := 103) rfl rfl rfl ⟨ih36, ((w34.wd rfl : zb_W [(21, 0)] h _).tr (w37.wd rfl)), _, rfl, by dsimp only; first | exact Or.inr ⟨zc_wd1 (by assumption) (by assumption) (by assumption), rfl, zc_st_e1 a21 (by assumption) (by assumption) (by first | exact Or.inl (by assumption) | exact Or.inr (by assumption)) (by first | exact Or.inl (by assumption) | exact Or.inr (by assumption))⟩ | exact Or.inr ⟨zc_wd1 (by assumption) (by assumption) (by assumption), rfl, zc_st_e2 a21 (by assumption) (by assumption) (by assumption) (by first | exact Or.inl (by assumption) | exact Or.inr (by assumption))⟩ | exact Or.inr ⟨zc_wd1 (by assumption) (by assumption) (by assumption), rfl, zc_st_e3 a21 (by assumption) (by assumption) (by first | exact Or.inl (by assumption) | exact Or.inr (by assumption)) (by assumption) (by assumption)⟩ | exact Or.inr ⟨zc_wd1 (by assumption) (by assumption) (by assumption), rfl, zc_st_e4 a21 (by assumption) (by assumption) (by assumption) (by assumption) (by assumption)⟩ | exact Or.inr ⟨zc_wd2 (by assumption) (by assumption) (by assumption), rfl, zc_st_e5 a21 (by assumption) (by assumption) (by first | exact Or.inl (by assumption) | exact Or.inr (by assumption)) (by first | exact Or.inl (by assumption) | exact Or.inr (by assumption))⟩ | exact Or.inr ⟨zc_wd2 (by assumption) (by assumption) (by assumption), rfl, zc_st_e6 a21 (by assumption) (by assumption) (by assumption) (by first | exact Or.inl (by assumption) | exact Or.inr (by assumption))⟩ | exact Or.inr ⟨zc_wd2 (by assumption) (by assumption) (by assumption), rfl, zc_st_e7 a21 (by assumption) (by assumption) (by first | exact Or.inl (by assumption) | exact Or.inr (by assumption)) (by assumption) (by assumption)⟩ | exact Or.inr ⟨zc_wd2 (by assumption) (by assumption) (by assumption), rfl, zc_st_e8 a21 (by assumption) (by assumption) (by assumption) (by assumption) (by assumption)⟩⟩
            · refine zx_T.l (i := .aload_n 0) (k := 1) (v := .ref 20) (pc := 83) rfl rfl rfl ?_
              refine zw_gr (k := 0) (b := 21) (pc := 84) rfl rfl rfl ih36 ?_
              refine zx_T.l (i := .iload 4) (k := 2) (v := .int (zI (a + 1))) (pc := 87) rfl rfl rfl ?_
              refine zr_al (n := 14) (lo := (-2147483648)) (hi := 2147483647) (e := zv_a h 21 (a + 1)) (pc := 89) rfl rfl rfl ih36 (by omega) (by omega) (((s38 (a + 1) (by omega)).trans (if_neg (by omega))).trans ((s35 (a + 1) (by omega)).trans (if_neg (by omega)))) (fun g42a g42b => ?_)
              refine zx_T.s (i := .iconst 3) (k := 1) (st' := [.int (zI (3)), .int (zI (zv_a h 21 (a + 1)))]) (pc := 90) rfl rfl ?_
              refine zr_i2 (x := zv_a h 21 (a + 1)) (y := 3) (t := 102) (pc := 91) rfl rfl (by omega) (by omega) (by omega) (by omega) (fun (c43 : ¬ (zv_a h 21 (a + 1)) = 3) => ?_) (fun (c43 : ¬ (¬ (zv_a h 21 (a + 1)) = 3)) => ?_)
              · refine zx_T.s (i := .iconst 0) (k := 1) (st' := [.int (zI (0))]) (pc := 102) rfl rfl ?_
                have a21 : ∀ j, 0 ≤ j → zv_a h36 21 j = if j = a then k else if j = a - 1 then 0 else zv_a h 21 j := fun j hj => by rw [s38 j hj, s35 j hj]
                exact zr_ir (x := 0) (pc := 103) rfl rfl rfl ⟨ih36, ((w34.wd rfl : zb_W [(21, 0)] h _).tr (w37.wd rfl)), _, rfl, by dsimp only; first | exact Or.inr ⟨zc_wd1 (by assumption) (by assumption) (by assumption), rfl, zc_st_e1 a21 (by assumption) (by assumption) (by first | exact Or.inl (by assumption) | exact Or.inr (by assumption)) (by first | exact Or.inl (by assumption) | exact Or.inr (by assumption))⟩ | exact Or.inr ⟨zc_wd1 (by assumption) (by assumption) (by assumption), rfl, zc_st_e2 a21 (by assumption) (by assumption) (by assumption) (by first | exact Or.inl (by assumption) | exact Or.inr (by assumption))⟩ | exact Or.inr ⟨zc_wd1 (by assumption) (by assumption) (by assumption), rfl, zc_st_e3 a21 (by assumption) (by assumption) (by first | exact Or.inl (by assumption) | exact Or.inr (by assumption)) (by assumption) (by assumption)⟩ | exact Or.inr ⟨zc_wd1 (by assumption) (by assumption) (by assumption), rfl, zc_st_e4 a21 (by assumption) (by assumption) (by assumption) (by assumption) (by assumption)⟩ | exact Or.inr ⟨zc_wd2 (by assumption) (by assumption) (by assumption), rfl, zc_st_e5 a21 (by assumption) (by assumption) (by first | exact Or.inl (by assumption) | exact Or.inr (by assumption)) (by first | exact Or.inl (by assumption) | exact Or.inr (by assumption))⟩ | exact Or.inr ⟨zc_wd2 (by assumption) (by assumption) (by assumption), rfl, zc_st_e6 a21 (by assumption) (by assumption) (by assumption) (by first | exact Or.inl (by assumption) | exact Or.inr (by assumption))⟩ | exact Or.inr ⟨zc_wd2 (by assumption) (by assumption) (by assumption), rfl, zc_st_e7 a21 (by assumption) (by assumption) (by first | exact Or.inl (by assumption) | exact Or.inr (by assumption)) (by assumption) (by assumption)⟩ | exact Or.inr ⟨zc_wd2 (by assumption) (by assumption) (by assumption), rfl, zc_st_e8 a21 (by assumption) (by assumption) (by assumption) (by assumption) (by assumption)⟩⟩
              · refine zx_T.l (i := .aload_n 0) (k := 1) (v := .ref 20) (pc := 94) rfl rfl rfl ?_
                refine zw_gr (k := 0) (b := 21) (pc := 95) rfl rfl rfl ih36 ?_
                refine zx_T.l (i := .iload 4) (k := 2) (v := .int (zI (a + 1))) (pc := 98) rfl rfl rfl ?_
                refine zx_T.s (i := .iconst 0) (k := 1) (st' := [.int (zI (0)), .int (zI (a + 1)), .ref 21]) (pc := 100) rfl rfl ?_
                refine zr_as (n := 14) (lo := (-2147483648)) (hi := 2147483647) (e := 0) (pc := 101) rfl rfl rfl rfl ih36 (by omega) (by omega) (by omega) (by omega) (fun h45 ih45 w46 s47 => ?_)
                refine zx_T.s (i := .iconst 0) (k := 1) (st' := [.int (zI (0))]) (pc := 102) rfl rfl ?_
                have a21 : ∀ j, 0 ≤ j → zv_a h45 21 j = if j = a + 1 then 0 else if j = a then k else if j = a - 1 then 0 else zv_a h 21 j := fun j hj => by rw [s47 j hj, s38 j hj, s35 j hj]
                exact zr_ir (x := 0) (pc := 103) rfl rfl rfl ⟨ih45, (((w34.wd rfl : zb_W [(21, 0)] h _).tr (w37.wd rfl)).tr (w46.wd rfl)), _, rfl, by dsimp only; first | exact Or.inr ⟨zc_wd1 (by assumption) (by assumption) (by assumption), rfl, zc_st_e1 a21 (by assumption) (by assumption) (by first | exact Or.inl (by assumption) | exact Or.inr (by assumption)) (by first | exact Or.inl (by assumption) | exact Or.inr (by assumption))⟩ | exact Or.inr ⟨zc_wd1 (by assumption) (by assumption) (by assumption), rfl, zc_st_e2 a21 (by assumption) (by assumption) (by assumption) (by first | exact Or.inl (by assumption) | exact Or.inr (by assumption))⟩ | exact Or.inr ⟨zc_wd1 (by assumption) (by assumption) (by assumption), rfl, zc_st_e3 a21 (by assumption) (by assumption) (by first | exact Or.inl (by assumption) | exact Or.inr (by assumption)) (by assumption) (by assumption)⟩ | exact Or.inr ⟨zc_wd1 (by assumption) (by assumption) (by assumption), rfl, zc_st_e4 a21 (by assumption) (by assumption) (by assumption) (by assumption) (by assumption)⟩ | exact Or.inr ⟨zc_wd2 (by assumption) (by assumption) (by assumption), rfl, zc_st_e5 a21 (by assumption) (by assumption) (by first | exact Or.inl (by assumption) | exact Or.inr (by assumption)) (by first | exact Or.inl (by assumption) | exact Or.inr (by assumption))⟩ | exact Or.inr ⟨zc_wd2 (by assumption) (by assumption) (by assumption), rfl, zc_st_e6 a21 (by assumption) (by assumption) (by assumption) (by first | exact Or.inl (by assumption) | exact Or.inr (by assumption))⟩ | exact Or.inr ⟨zc_wd2 (by assumption) (by assumption) (by assumption), rfl, zc_st_e7 a21 (by assumption) (by assumption) (by first | exact Or.inl (by assumption) | exact Or.inr (by assumption)) (by assumption) (by assumption)⟩ | exact Or.inr ⟨zc_wd2 (by assumption) (by assumption) (by assumption), rfl, zc_st_e8 a21 (by assumption) (by assumption) (by assumption) (by assumption) (by assumption)⟩⟩
      · refine zx_T.s (i := .iconst 4) (k := 1) (st' := [.int (zI (4))]) (pc := 23) rfl rfl ?_
        have a21 : ∀ j, 0 ≤ j → zv_a h 21 j = zv_a h 21 j := fun j hj => rfl
        exact zr_ir (x := 4) (pc := 24) rfl rfl rfl ⟨hI, zb_W.rf, _, rfl, by dsimp only; exact Or.inl ⟨by unfold zs_wd; split <;> omega, rfl, a21⟩⟩
  · refine zx_T.s (i := .iconst 2) (k := 1) (st' := [.int (zI (2))]) (pc := 5) rfl rfl ?_
    refine zx_T.j (i := .goto 4) (k := 3) (pc' := 10) (st' := [.int (zI (2))]) (pc := 6) rfl rfl rfl rfl rfl ?_
    refine zx_T.t (i := .istore_n 3) (k := 1) (ls' := [(3, .int (zI (2))), (0, .ref 20), (1, .int (zI (a))), (2, .int (zI (k)))]) (st' := []) (pc := 10) rfl rfl rfl rfl ?_
    refine zx_T.l (i := .iload_n 1) (k := 1) (v := .int (zI (a))) (pc := 11) rfl rfl rfl ?_
    refine zr_i1 (x := a) (t := 23) (pc := 12) rfl rfl (by omega) (by omega) (fun (c50 : a < 0) => ?_) (fun (c50 : ¬ (a < 0)) => ?_)
    · refine zx_T.s (i := .iconst 4) (k := 1) (st' := [.int (zI (4))]) (pc := 23) rfl rfl ?_
      have a21 : ∀ j, 0 ≤ j → zv_a h 21 j = zv_a h 21 j := fun j hj => rfl
      exact zr_ir (x := 4) (pc := 24) rfl rfl rfl ⟨hI, zb_W.rf, _, rfl, by dsimp only; exact Or.inl ⟨by unfold zs_wd; split <;> omega, rfl, a21⟩⟩
    · refine zx_T.l (i := .iload_n 1) (k := 1) (v := .int (zI (a))) (pc := 15) rfl rfl rfl ?_
      refine zx_T.s (i := .bipush 8) (k := 2) (st' := [.int (zI (8)), .int (zI (a))]) (pc := 16) rfl rfl ?_
      refine zx_T.l (i := .iload_n 3) (k := 1) (v := .int (zI (2))) (pc := 18) rfl rfl rfl ?_
      refine zr_sub (x := 8) (y := 2) (e := 6) (pc := 19) rfl (by omega) ?_
      refine zr_i2 (x := a) (y := 6) (t := 25) (pc := 20) rfl rfl (by omega) (by omega) (by omega) (by omega) (fun (c52 : a ≤ 6) => ?_) (fun (c52 : ¬ (a ≤ 6)) => ?_)
      · refine zx_T.l (i := .iload_n 1) (k := 1) (v := .int (zI (a))) (pc := 25) rfl rfl rfl ?_
        refine zr_i1 (x := a) (t := 50) (pc := 26) rfl rfl (by omega) (by omega) (fun (c53 : a ≤ 0) => ?_) (fun (c53 : ¬ (a ≤ 0)) => ?_)
        · refine zx_T.l (i := .aload_n 0) (k := 1) (v := .ref 20) (pc := 50) rfl rfl rfl ?_
          refine zw_gr (k := 0) (b := 21) (pc := 51) rfl rfl rfl hI ?_
          refine zx_T.l (i := .iload_n 1) (k := 1) (v := .int (zI (a))) (pc := 54) rfl rfl rfl ?_
          refine zx_T.l (i := .iload_n 2) (k := 1) (v := .int (zI (k))) (pc := 55) rfl rfl rfl ?_
          refine zr_as (n := 14) (lo := (-2147483648)) (hi := 2147483647) (e := k) (pc := 56) rfl rfl rfl rfl hI (by omega) (by omega) (by omega) (by omega) (fun h54 ih54 w55 s56 => ?_)
          refine zx_T.l (i := .iload_n 3) (k := 1) (v := .int (zI (2))) (pc := 57) rfl rfl rfl ?_
          refine zx_T.s (i := .iconst 2) (k := 1) (st' := [.int (zI (2)), .int (zI (2))]) (pc := 58) rfl rfl ?_
          refine zr_i2 (x := 2) (y := 2) (t := 71) (pc := 59) rfl rfl (by omega) (by omega) (by omega) (by omega) (fun (c57 : ¬ 2 = 2) => absurd c57 (by decide)) (fun _ => ?_)
          refine zx_T.l (i := .aload_n 0) (k := 1) (v := .ref 20) (pc := 62) rfl rfl rfl ?_
          refine zw_gr (k := 0) (b := 21) (pc := 63) rfl rfl rfl ih54 ?_
          refine zx_T.l (i := .iload_n 1) (k := 1) (v := .int (zI (a))) (pc := 66) rfl rfl rfl ?_
          refine zx_T.s (i := .iconst 1) (k := 1) (st' := [.int (zI (1)), .int (zI (a)), .ref 21]) (pc := 67) rfl rfl ?_
          refine zr_add (x := a) (y := 1) (e := a + 1) (pc := 68) rfl (by omega) ?_
          refine zx_T.s (i := .iconst 3) (k := 1) (st' := [.int (zI (3)), .int (zI (a + 1)), .ref 21]) (pc := 69) rfl rfl ?_
          refine zr_as (n := 14) (lo := (-2147483648)) (hi := 2147483647) (e := 3) (pc := 70) rfl rfl rfl rfl ih54 (by omega) (by omega) (by omega) (by omega) (fun h58 ih58 w59 s60 => ?_)
          refine zx_T.l (i := .iload_n 1) (k := 1) (v := .int (zI (a))) (pc := 71) rfl rfl rfl ?_
          refine zx_T.l (i := .iload_n 3) (k := 1) (v := .int (zI (2))) (pc := 72) rfl rfl rfl ?_
          refine zr_add (x := a) (y := 2) (e := a + 2) (pc := 73) rfl (by omega) ?_
          refine zx_T.t (i := .istore 4) (k := 2) (ls' := [(4, .int (zI (a + 2))), (3, .int (zI (2))), (0, .ref 20), (1, .int (zI (a))), (2, .int (zI (k)))]) (st' := []) (pc := 74) rfl rfl rfl rfl ?_
          refine zx_T.l (i := .iload 4) (k := 2) (v := .int (zI (a + 2))) (pc := 76) rfl rfl rfl ?_
          refine zx_T.s (i := .bipush 8) (k := 2) (st' := [.int (zI (8)), .int (zI (a + 2))]) (pc := 78) rfl rfl ?_
          refine zr_i2 (x := a + 2) (y := 8) (t := 102) (pc := 80) rfl rfl (by omega) (by omega) (by omega) (by omega) (fun (c61 : 8 ≤ (a + 2)) => False.elim (by omega)) (fun (c61 : ¬ (8 ≤ (a + 2))) => ?_)
          refine zx_T.l (i := .aload_n 0) (k := 1) (v := .ref 20) (pc := 83) rfl rfl rfl ?_
          refine zw_gr (k := 0) (b := 21) (pc := 84) rfl rfl rfl ih58 ?_
          refine zx_T.l (i := .iload 4) (k := 2) (v := .int (zI (a + 2))) (pc := 87) rfl rfl rfl ?_
          refine zr_al (n := 14) (lo := (-2147483648)) (hi := 2147483647) (e := zv_a h 21 (a + 2)) (pc := 89) rfl rfl rfl ih58 (by omega) (by omega) (((s60 (a + 2) (by omega)).trans (if_neg (by omega))).trans ((s56 (a + 2) (by omega)).trans (if_neg (by omega)))) (fun g62a g62b => ?_)
          refine zx_T.s (i := .iconst 3) (k := 1) (st' := [.int (zI (3)), .int (zI (zv_a h 21 (a + 2)))]) (pc := 90) rfl rfl ?_
          refine zr_i2 (x := zv_a h 21 (a + 2)) (y := 3) (t := 102) (pc := 91) rfl rfl (by omega) (by omega) (by omega) (by omega) (fun (c63 : ¬ (zv_a h 21 (a + 2)) = 3) => ?_) (fun (c63 : ¬ (¬ (zv_a h 21 (a + 2)) = 3)) => ?_)
          · refine zx_T.s (i := .iconst 0) (k := 1) (st' := [.int (zI (0))]) (pc := 102) rfl rfl ?_
            have a21 : ∀ j, 0 ≤ j → zv_a h58 21 j = if j = a + 1 then 3 else if j = a then k else zv_a h 21 j := fun j hj => by rw [s60 j hj, s56 j hj]
            exact zr_ir (x := 0) (pc := 103) rfl rfl rfl ⟨ih58, ((w55.wd rfl : zb_W [(21, 0)] h _).tr (w59.wd rfl)), _, rfl, by dsimp only; first | exact Or.inr ⟨zc_wd1 (by assumption) (by assumption) (by assumption), rfl, zc_st_e1 a21 (by assumption) (by assumption) (by first | exact Or.inl (by assumption) | exact Or.inr (by assumption)) (by first | exact Or.inl (by assumption) | exact Or.inr (by assumption))⟩ | exact Or.inr ⟨zc_wd1 (by assumption) (by assumption) (by assumption), rfl, zc_st_e2 a21 (by assumption) (by assumption) (by assumption) (by first | exact Or.inl (by assumption) | exact Or.inr (by assumption))⟩ | exact Or.inr ⟨zc_wd1 (by assumption) (by assumption) (by assumption), rfl, zc_st_e3 a21 (by assumption) (by assumption) (by first | exact Or.inl (by assumption) | exact Or.inr (by assumption)) (by assumption) (by assumption)⟩ | exact Or.inr ⟨zc_wd1 (by assumption) (by assumption) (by assumption), rfl, zc_st_e4 a21 (by assumption) (by assumption) (by assumption) (by assumption) (by assumption)⟩ | exact Or.inr ⟨zc_wd2 (by assumption) (by assumption) (by assumption), rfl, zc_st_e5 a21 (by assumption) (by assumption) (by first | exact Or.inl (by assumption) | exact Or.inr (by assumption)) (by first | exact Or.inl (by assumption) | exact Or.inr (by assumption))⟩ | exact Or.inr ⟨zc_wd2 (by assumption) (by assumption) (by assumption), rfl, zc_st_e6 a21 (by assumption) (by assumption) (by assumption) (by first | exact Or.inl (by assumption) | exact Or.inr (by assumption))⟩ | exact Or.inr ⟨zc_wd2 (by assumption) (by assumption) (by assumption), rfl, zc_st_e7 a21 (by assumption) (by assumption) (by first | exact Or.inl (by assumption) | exact Or.inr (by assumption)) (by assumption) (by assumption)⟩ | exact Or.inr ⟨zc_wd2 (by assumption) (by assumption) (by assumption), rfl, zc_st_e8 a21 (by assumption) (by assumption) (by assumption) (by assumption) (by assumption)⟩⟩
          · refine zx_T.l (i := .aload_n 0) (k := 1) (v := .ref 20) (pc := 94) rfl rfl rfl ?_
            refine zw_gr (k := 0) (b := 21) (pc := 95) rfl rfl rfl ih58 ?_
            refine zx_T.l (i := .iload 4) (k := 2) (v := .int (zI (a + 2))) (pc := 98) rfl rfl rfl ?_
            refine zx_T.s (i := .iconst 0) (k := 1) (st' := [.int (zI (0)), .int (zI (a + 2)), .ref 21]) (pc := 100) rfl rfl ?_
            refine zr_as (n := 14) (lo := (-2147483648)) (hi := 2147483647) (e := 0) (pc := 101) rfl rfl rfl rfl ih58 (by omega) (by omega) (by omega) (by omega) (fun h65 ih65 w66 s67 => ?_)
            refine zx_T.s (i := .iconst 0) (k := 1) (st' := [.int (zI (0))]) (pc := 102) rfl rfl ?_
            have a21 : ∀ j, 0 ≤ j → zv_a h65 21 j = if j = a + 2 then 0 else if j = a + 1 then 3 else if j = a then k else zv_a h 21 j := fun j hj => by rw [s67 j hj, s60 j hj, s56 j hj]
            exact zr_ir (x := 0) (pc := 103) rfl rfl rfl ⟨ih65, (((w55.wd rfl : zb_W [(21, 0)] h _).tr (w59.wd rfl)).tr (w66.wd rfl)), _, rfl, by dsimp only; first | exact Or.inr ⟨zc_wd1 (by assumption) (by assumption) (by assumption), rfl, zc_st_e1 a21 (by assumption) (by assumption) (by first | exact Or.inl (by assumption) | exact Or.inr (by assumption)) (by first | exact Or.inl (by assumption) | exact Or.inr (by assumption))⟩ | exact Or.inr ⟨zc_wd1 (by assumption) (by assumption) (by assumption), rfl, zc_st_e2 a21 (by assumption) (by assumption) (by assumption) (by first | exact Or.inl (by assumption) | exact Or.inr (by assumption))⟩ | exact Or.inr ⟨zc_wd1 (by assumption) (by assumption) (by assumption), rfl, zc_st_e3 a21 (by assumption) (by assumption) (by first | exact Or.inl (by assumption) | exact Or.inr (by assumption)) (by assumption) (by assumption)⟩ | exact Or.inr ⟨zc_wd1 (by assumption) (by assumption) (by assumption), rfl, zc_st_e4 a21 (by assumption) (by assumption) (by assumption) (by assumption) (by assumption)⟩ | exact Or.inr ⟨zc_wd2 (by assumption) (by assumption) (by assumption), rfl, zc_st_e5 a21 (by assumption) (by assumption) (by first | exact Or.inl (by assumption) | exact Or.inr (by assumption)) (by first | exact Or.inl (by assumption) | exact Or.inr (by assumption))⟩ | exact Or.inr ⟨zc_wd2 (by assumption) (by assumption) (by assumption), rfl, zc_st_e6 a21 (by assumption) (by assumption) (by assumption) (by first | exact Or.inl (by assumption) | exact Or.inr (by assumption))⟩ | exact Or.inr ⟨zc_wd2 (by assumption) (by assumption) (by assumption), rfl, zc_st_e7 a21 (by assumption) (by assumption) (by first | exact Or.inl (by assumption) | exact Or.inr (by assumption)) (by assumption) (by assumption)⟩ | exact Or.inr ⟨zc_wd2 (by assumption) (by assumption) (by assumption), rfl, zc_st_e8 a21 (by assumption) (by assumption) (by assumption) (by assumption) (by assumption)⟩⟩
        · refine zx_T.l (i := .aload_n 0) (k := 1) (v := .ref 20) (pc := 29) rfl rfl rfl ?_
          refine zw_gr (k := 0) (b := 21) (pc := 30) rfl rfl rfl hI ?_
          refine zx_T.l (i := .iload_n 1) (k := 1) (v := .int (zI (a))) (pc := 33) rfl rfl rfl ?_
          refine zx_T.s (i := .iconst 1) (k := 1) (st' := [.int (zI (1)), .int (zI (a)), .ref 21]) (pc := 34) rfl rfl ?_
          refine zr_sub (x := a) (y := 1) (e := a - 1) (pc := 35) rfl (by omega) ?_
          refine zr_al (n := 14) (lo := (-2147483648)) (hi := 2147483647) (e := zv_a h 21 (a - 1)) (pc := 36) rfl rfl rfl hI (by omega) (by omega) rfl (fun g69a g69b => ?_)
          refine zx_T.s (i := .iconst 2) (k := 1) (st' := [.int (zI (2)), .int (zI (zv_a h 21 (a - 1)))]) (pc := 37) rfl rfl ?_
          refine zr_i2 (x := zv_a h 21 (a - 1)) (y := 2) (t := 50) (pc := 38) rfl rfl (by omega) (by omega) (by omega) (by omega) (fun (c70 : ¬ (zv_a h 21 (a - 1)) = 2) => ?_) (fun (c70 : ¬ (¬ (zv_a h 21 (a - 1)) = 2)) => ?_)
          · refine zx_T.l (i := .aload_n 0) (k := 1) (v := .ref 20) (pc := 50) rfl rfl rfl ?_
            refine zw_gr (k := 0) (b := 21) (pc := 51) rfl rfl rfl hI ?_
            refine zx_T.l (i := .iload_n 1) (k := 1) (v := .int (zI (a))) (pc := 54) rfl rfl rfl ?_
            refine zx_T.l (i := .iload_n 2) (k := 1) (v := .int (zI (k))) (pc := 55) rfl rfl rfl ?_
            refine zr_as (n := 14) (lo := (-2147483648)) (hi := 2147483647) (e := k) (pc := 56) rfl rfl rfl rfl hI (by omega) (by omega) (by omega) (by omega) (fun h71 ih71 w72 s73 => ?_)
            refine zx_T.l (i := .iload_n 3) (k := 1) (v := .int (zI (2))) (pc := 57) rfl rfl rfl ?_
            refine zx_T.s (i := .iconst 2) (k := 1) (st' := [.int (zI (2)), .int (zI (2))]) (pc := 58) rfl rfl ?_
            refine zr_i2 (x := 2) (y := 2) (t := 71) (pc := 59) rfl rfl (by omega) (by omega) (by omega) (by omega) (fun (c74 : ¬ 2 = 2) => absurd c74 (by decide)) (fun _ => ?_)
            refine zx_T.l (i := .aload_n 0) (k := 1) (v := .ref 20) (pc := 62) rfl rfl rfl ?_
            refine zw_gr (k := 0) (b := 21) (pc := 63) rfl rfl rfl ih71 ?_
            refine zx_T.l (i := .iload_n 1) (k := 1) (v := .int (zI (a))) (pc := 66) rfl rfl rfl ?_
            refine zx_T.s (i := .iconst 1) (k := 1) (st' := [.int (zI (1)), .int (zI (a)), .ref 21]) (pc := 67) rfl rfl ?_
            refine zr_add (x := a) (y := 1) (e := a + 1) (pc := 68) rfl (by omega) ?_
            refine zx_T.s (i := .iconst 3) (k := 1) (st' := [.int (zI (3)), .int (zI (a + 1)), .ref 21]) (pc := 69) rfl rfl ?_
            refine zr_as (n := 14) (lo := (-2147483648)) (hi := 2147483647) (e := 3) (pc := 70) rfl rfl rfl rfl ih71 (by omega) (by omega) (by omega) (by omega) (fun h75 ih75 w76 s77 => ?_)
            refine zx_T.l (i := .iload_n 1) (k := 1) (v := .int (zI (a))) (pc := 71) rfl rfl rfl ?_
            refine zx_T.l (i := .iload_n 3) (k := 1) (v := .int (zI (2))) (pc := 72) rfl rfl rfl ?_
            refine zr_add (x := a) (y := 2) (e := a + 2) (pc := 73) rfl (by omega) ?_
            refine zx_T.t (i := .istore 4) (k := 2) (ls' := [(4, .int (zI (a + 2))), (3, .int (zI (2))), (0, .ref 20), (1, .int (zI (a))), (2, .int (zI (k)))]) (st' := []) (pc := 74) rfl rfl rfl rfl ?_
            refine zx_T.l (i := .iload 4) (k := 2) (v := .int (zI (a + 2))) (pc := 76) rfl rfl rfl ?_
            refine zx_T.s (i := .bipush 8) (k := 2) (st' := [.int (zI (8)), .int (zI (a + 2))]) (pc := 78) rfl rfl ?_
            refine zr_i2 (x := a + 2) (y := 8) (t := 102) (pc := 80) rfl rfl (by omega) (by omega) (by omega) (by omega) (fun (c78 : 8 ≤ (a + 2)) => ?_) (fun (c78 : ¬ (8 ≤ (a + 2))) => ?_)
            · refine zx_T.s (i := .iconst 0) (k := 1) (st' := [.int (zI (0))]) (pc := 102) rfl rfl ?_
              have a21 : ∀ j, 0 ≤ j → zv_a h75 21 j = if j = a + 1 then 3 else if j = a then k else zv_a h 21 j := fun j hj => by rw [s77 j hj, s73 j hj]
              exact zr_ir (x := 0) (pc := 103) rfl rfl rfl ⟨ih75, ((w72.wd rfl : zb_W [(21, 0)] h _).tr (w76.wd rfl)), _, rfl, by dsimp only; first | exact Or.inr ⟨zc_wd1 (by assumption) (by assumption) (by assumption), rfl, zc_st_e1 a21 (by assumption) (by assumption) (by first | exact Or.inl (by assumption) | exact Or.inr (by assumption)) (by first | exact Or.inl (by assumption) | exact Or.inr (by assumption))⟩ | exact Or.inr ⟨zc_wd1 (by assumption) (by assumption) (by assumption), rfl, zc_st_e2 a21 (by assumption) (by assumption) (by assumption) (by first | exact Or.inl (by assumption) | exact Or.inr (by assumption))⟩ | exact Or.inr ⟨zc_wd1 (by assumption) (by assumption) (by assumption), rfl, zc_st_e3 a21 (by assumption) (by assumption) (by first | exact Or.inl (by assumption) | exact Or.inr (by assumption)) (by assumption) (by assumption)⟩ | exact Or.inr ⟨zc_wd1 (by assumption) (by assumption) (by assumption), rfl, zc_st_e4 a21 (by assumption) (by assumption) (by assumption) (by assumption) (by assumption)⟩ | exact Or.inr ⟨zc_wd2 (by assumption) (by assumption) (by assumption), rfl, zc_st_e5 a21 (by assumption) (by assumption) (by first | exact Or.inl (by assumption) | exact Or.inr (by assumption)) (by first | exact Or.inl (by assumption) | exact Or.inr (by assumption))⟩ | exact Or.inr ⟨zc_wd2 (by assumption) (by assumption) (by assumption), rfl, zc_st_e6 a21 (by assumption) (by assumption) (by assumption) (by first | exact Or.inl (by assumption) | exact Or.inr (by assumption))⟩ | exact Or.inr ⟨zc_wd2 (by assumption) (by assumption) (by assumption), rfl, zc_st_e7 a21 (by assumption) (by assumption) (by first | exact Or.inl (by assumption) | exact Or.inr (by assumption)) (by assumption) (by assumption)⟩ | exact Or.inr ⟨zc_wd2 (by assumption) (by assumption) (by assumption), rfl, zc_st_e8 a21 (by assumption) (by assumption) (by assumption) (by assumption) (by assumption)⟩⟩
            · refine zx_T.l (i := .aload_n 0) (k := 1) (v := .ref 20) (pc := 83) rfl rfl rfl ?_
              refine zw_gr (k := 0) (b := 21) (pc := 84) rfl rfl rfl ih75 ?_
              refine zx_T.l (i := .iload 4) (k := 2) (v := .int (zI (a + 2))) (pc := 87) rfl rfl rfl ?_
              refine zr_al (n := 14) (lo := (-2147483648)) (hi := 2147483647) (e := zv_a h 21 (a + 2)) (pc := 89) rfl rfl rfl ih75 (by omega) (by omega) (((s77 (a + 2) (by omega)).trans (if_neg (by omega))).trans ((s73 (a + 2) (by omega)).trans (if_neg (by omega)))) (fun g80a g80b => ?_)
              refine zx_T.s (i := .iconst 3) (k := 1) (st' := [.int (zI (3)), .int (zI (zv_a h 21 (a + 2)))]) (pc := 90) rfl rfl ?_
              refine zr_i2 (x := zv_a h 21 (a + 2)) (y := 3) (t := 102) (pc := 91) rfl rfl (by omega) (by omega) (by omega) (by omega) (fun (c81 : ¬ (zv_a h 21 (a + 2)) = 3) => ?_) (fun (c81 : ¬ (¬ (zv_a h 21 (a + 2)) = 3)) => ?_)
              · refine zx_T.s (i := .iconst 0) (k := 1) (st' := [.int (zI (0))]) (pc := 102) rfl rfl ?_
                have a21 : ∀ j, 0 ≤ j → zv_a h75 21 j = if j = a + 1 then 3 else if j = a then k else zv_a h 21 j := fun j hj => by rw [s77 j hj, s73 j hj]
                exact zr_ir (x := 0) (pc := 103) rfl rfl rfl ⟨ih75, ((w72.wd rfl : zb_W [(21, 0)] h _).tr (w76.wd rfl)), _, rfl, by dsimp only; first | exact Or.inr ⟨zc_wd1 (by assumption) (by assumption) (by assumption), rfl, zc_st_e1 a21 (by assumption) (by assumption) (by first | exact Or.inl (by assumption) | exact Or.inr (by assumption)) (by first | exact Or.inl (by assumption) | exact Or.inr (by assumption))⟩ | exact Or.inr ⟨zc_wd1 (by assumption) (by assumption) (by assumption), rfl, zc_st_e2 a21 (by assumption) (by assumption) (by assumption) (by first | exact Or.inl (by assumption) | exact Or.inr (by assumption))⟩ | exact Or.inr ⟨zc_wd1 (by assumption) (by assumption) (by assumption), rfl, zc_st_e3 a21 (by assumption) (by assumption) (by first | exact Or.inl (by assumption) | exact Or.inr (by assumption)) (by assumption) (by assumption)⟩ | exact Or.inr ⟨zc_wd1 (by assumption) (by assumption) (by assumption), rfl, zc_st_e4 a21 (by assumption) (by assumption) (by assumption) (by assumption) (by assumption)⟩ | exact Or.inr ⟨zc_wd2 (by assumption) (by assumption) (by assumption), rfl, zc_st_e5 a21 (by assumption) (by assumption) (by first | exact Or.inl (by assumption) | exact Or.inr (by assumption)) (by first | exact Or.inl (by assumption) | exact Or.inr (by assumption))⟩ | exact Or.inr ⟨zc_wd2 (by assumption) (by assumption) (by assumption), rfl, zc_st_e6 a21 (by assumption) (by assumption) (by assumption) (by first | exact Or.inl (by assumption) | exact Or.inr (by assumption))⟩ | exact Or.inr ⟨zc_wd2 (by assumption) (by assumption) (by assumption), rfl, zc_st_e7 a21 (by assumption) (by assumption) (by first | exact Or.inl (by assumption) | exact Or.inr (by assumption)) (by assumption) (by assumption)⟩ | exact Or.inr ⟨zc_wd2 (by assumption) (by assumption) (by assumption), rfl, zc_st_e8 a21 (by assumption) (by assumption) (by assumption) (by assumption) (by assumption)⟩⟩
              · refine zx_T.l (i := .aload_n 0) (k := 1) (v := .ref 20) (pc := 94) rfl rfl rfl ?_
                refine zw_gr (k := 0) (b := 21) (pc := 95) rfl rfl rfl ih75 ?_
                refine zx_T.l (i := .iload 4) (k := 2) (v := .int (zI (a + 2))) (pc := 98) rfl rfl rfl ?_
                refine zx_T.s (i := .iconst 0) (k := 1) (st' := [.int (zI (0)), .int (zI (a + 2)), .ref 21]) (pc := 100) rfl rfl ?_
                refine zr_as (n := 14) (lo := (-2147483648)) (hi := 2147483647) (e := 0) (pc := 101) rfl rfl rfl rfl ih75 (by omega) (by omega) (by omega) (by omega) (fun h83 ih83 w84 s85 => ?_)
                refine zx_T.s (i := .iconst 0) (k := 1) (st' := [.int (zI (0))]) (pc := 102) rfl rfl ?_
                have a21 : ∀ j, 0 ≤ j → zv_a h83 21 j = if j = a + 2 then 0 else if j = a + 1 then 3 else if j = a then k else zv_a h 21 j := fun j hj => by rw [s85 j hj, s77 j hj, s73 j hj]
                exact zr_ir (x := 0) (pc := 103) rfl rfl rfl ⟨ih83, (((w72.wd rfl : zb_W [(21, 0)] h _).tr (w76.wd rfl)).tr (w84.wd rfl)), _, rfl, by dsimp only; first | exact Or.inr ⟨zc_wd1 (by assumption) (by assumption) (by assumption), rfl, zc_st_e1 a21 (by assumption) (by assumption) (by first | exact Or.inl (by assumption) | exact Or.inr (by assumption)) (by first | exact Or.inl (by assumption) | exact Or.inr (by assumption))⟩ | exact Or.inr ⟨zc_wd1 (by assumption) (by assumption) (by assumption), rfl, zc_st_e2 a21 (by assumption) (by assumption) (by assumption) (by first | exact Or.inl (by assumption) | exact Or.inr (by assumption))⟩ | exact Or.inr ⟨zc_wd1 (by assumption) (by assumption) (by assumption), rfl, zc_st_e3 a21 (by assumption) (by assumption) (by first | exact Or.inl (by assumption) | exact Or.inr (by assumption)) (by assumption) (by assumption)⟩ | exact Or.inr ⟨zc_wd1 (by assumption) (by assumption) (by assumption), rfl, zc_st_e4 a21 (by assumption) (by assumption) (by assumption) (by assumption) (by assumption)⟩ | exact Or.inr ⟨zc_wd2 (by assumption) (by assumption) (by assumption), rfl, zc_st_e5 a21 (by assumption) (by assumption) (by first | exact Or.inl (by assumption) | exact Or.inr (by assumption)) (by first | exact Or.inl (by assumption) | exact Or.inr (by assumption))⟩ | exact Or.inr ⟨zc_wd2 (by assumption) (by assumption) (by assumption), rfl, zc_st_e6 a21 (by assumption) (by assumption) (by assumption) (by first | exact Or.inl (by assumption) | exact Or.inr (by assumption))⟩ | exact Or.inr ⟨zc_wd2 (by assumption) (by assumption) (by assumption), rfl, zc_st_e7 a21 (by assumption) (by assumption) (by first | exact Or.inl (by assumption) | exact Or.inr (by assumption)) (by assumption) (by assumption)⟩ | exact Or.inr ⟨zc_wd2 (by assumption) (by assumption) (by assumption), rfl, zc_st_e8 a21 (by assumption) (by assumption) (by assumption) (by assumption) (by assumption)⟩⟩
          · refine zx_T.l (i := .aload_n 0) (k := 1) (v := .ref 20) (pc := 41) rfl rfl rfl ?_
            refine zw_gr (k := 0) (b := 21) (pc := 42) rfl rfl rfl hI ?_
            refine zx_T.l (i := .iload_n 1) (k := 1) (v := .int (zI (a))) (pc := 45) rfl rfl rfl ?_
            refine zx_T.s (i := .iconst 1) (k := 1) (st' := [.int (zI (1)), .int (zI (a)), .ref 21]) (pc := 46) rfl rfl ?_
            refine zr_sub (x := a) (y := 1) (e := a - 1) (pc := 47) rfl (by omega) ?_
            refine zx_T.s (i := .iconst 0) (k := 1) (st' := [.int (zI (0)), .int (zI (a - 1)), .ref 21]) (pc := 48) rfl rfl ?_
            refine zr_as (n := 14) (lo := (-2147483648)) (hi := 2147483647) (e := 0) (pc := 49) rfl rfl rfl rfl hI (by omega) (by omega) (by omega) (by omega) (fun h87 ih87 w88 s89 => ?_)
            refine zx_T.l (i := .aload_n 0) (k := 1) (v := .ref 20) (pc := 50) rfl rfl rfl ?_
            refine zw_gr (k := 0) (b := 21) (pc := 51) rfl rfl rfl ih87 ?_
            refine zx_T.l (i := .iload_n 1) (k := 1) (v := .int (zI (a))) (pc := 54) rfl rfl rfl ?_
            refine zx_T.l (i := .iload_n 2) (k := 1) (v := .int (zI (k))) (pc := 55) rfl rfl rfl ?_
            refine zr_as (n := 14) (lo := (-2147483648)) (hi := 2147483647) (e := k) (pc := 56) rfl rfl rfl rfl ih87 (by omega) (by omega) (by omega) (by omega) (fun h90 ih90 w91 s92 => ?_)
            refine zx_T.l (i := .iload_n 3) (k := 1) (v := .int (zI (2))) (pc := 57) rfl rfl rfl ?_
            refine zx_T.s (i := .iconst 2) (k := 1) (st' := [.int (zI (2)), .int (zI (2))]) (pc := 58) rfl rfl ?_
            refine zr_i2 (x := 2) (y := 2) (t := 71) (pc := 59) rfl rfl (by omega) (by omega) (by omega) (by omega) (fun (c93 : ¬ 2 = 2) => absurd c93 (by decide)) (fun _ => ?_)
            refine zx_T.l (i := .aload_n 0) (k := 1) (v := .ref 20) (pc := 62) rfl rfl rfl ?_
            refine zw_gr (k := 0) (b := 21) (pc := 63) rfl rfl rfl ih90 ?_
            refine zx_T.l (i := .iload_n 1) (k := 1) (v := .int (zI (a))) (pc := 66) rfl rfl rfl ?_
            refine zx_T.s (i := .iconst 1) (k := 1) (st' := [.int (zI (1)), .int (zI (a)), .ref 21]) (pc := 67) rfl rfl ?_
            refine zr_add (x := a) (y := 1) (e := a + 1) (pc := 68) rfl (by omega) ?_
            refine zx_T.s (i := .iconst 3) (k := 1) (st' := [.int (zI (3)), .int (zI (a + 1)), .ref 21]) (pc := 69) rfl rfl ?_
            refine zr_as (n := 14) (lo := (-2147483648)) (hi := 2147483647) (e := 3) (pc := 70) rfl rfl rfl rfl ih90 (by omega) (by omega) (by omega) (by omega) (fun h94 ih94 w95 s96 => ?_)
            refine zx_T.l (i := .iload_n 1) (k := 1) (v := .int (zI (a))) (pc := 71) rfl rfl rfl ?_
            refine zx_T.l (i := .iload_n 3) (k := 1) (v := .int (zI (2))) (pc := 72) rfl rfl rfl ?_
            refine zr_add (x := a) (y := 2) (e := a + 2) (pc := 73) rfl (by omega) ?_
            refine zx_T.t (i := .istore 4) (k := 2) (ls' := [(4, .int (zI (a + 2))), (3, .int (zI (2))), (0, .ref 20), (1, .int (zI (a))), (2, .int (zI (k)))]) (st' := []) (pc := 74) rfl rfl rfl rfl ?_
            refine zx_T.l (i := .iload 4) (k := 2) (v := .int (zI (a + 2))) (pc := 76) rfl rfl rfl ?_
            refine zx_T.s (i := .bipush 8) (k := 2) (st' := [.int (zI (8)), .int (zI (a + 2))]) (pc := 78) rfl rfl ?_
            refine zr_i2 (x := a + 2) (y := 8) (t := 102) (pc := 80) rfl rfl (by omega) (by omega) (by omega) (by omega) (fun (c97 : 8 ≤ (a + 2)) => ?_) (fun (c97 : ¬ (8 ≤ (a + 2))) => ?_)
            · refine zx_T.s (i := .iconst 0) (k := 1) (st' := [.int (zI (0))]) (pc := 102) rfl rfl ?_
              have a21 : ∀ j, 0 ≤ j → zv_a h94 21 j = if j = a + 1 then 3 else if j = a then k else if j = a - 1 then 0 else zv_a h 21 j := fun j hj => by rw [s96 j hj, s92 j hj, s89 j hj]
              exact zr_ir (x := 0) (pc := 103) rfl rfl rfl ⟨ih94, (((w88.wd rfl : zb_W [(21, 0)] h _).tr (w91.wd rfl)).tr (w95.wd rfl)), _, rfl, by dsimp only; first | exact Or.inr ⟨zc_wd1 (by assumption) (by assumption) (by assumption), rfl, zc_st_e1 a21 (by assumption) (by assumption) (by first | exact Or.inl (by assumption) | exact Or.inr (by assumption)) (by first | exact Or.inl (by assumption) | exact Or.inr (by assumption))⟩ | exact Or.inr ⟨zc_wd1 (by assumption) (by assumption) (by assumption), rfl, zc_st_e2 a21 (by assumption) (by assumption) (by assumption) (by first | exact Or.inl (by assumption) | exact Or.inr (by assumption))⟩ | exact Or.inr ⟨zc_wd1 (by assumption) (by assumption) (by assumption), rfl, zc_st_e3 a21 (by assumption) (by assumption) (by first | exact Or.inl (by assumption) | exact Or.inr (by assumption)) (by assumption) (by assumption)⟩ | exact Or.inr ⟨zc_wd1 (by assumption) (by assumption) (by assumption), rfl, zc_st_e4 a21 (by assumption) (by assumption) (by assumption) (by assumption) (by assumption)⟩ | exact Or.inr ⟨zc_wd2 (by assumption) (by assumption) (by assumption), rfl, zc_st_e5 a21 (by assumption) (by assumption) (by first | exact Or.inl (by assumption) | exact Or.inr (by assumption)) (by first | exact Or.inl (by assumption) | exact Or.inr (by assumption))⟩ | exact Or.inr ⟨zc_wd2 (by assumption) (by assumption) (by assumption), rfl, zc_st_e6 a21 (by assumption) (by assumption) (by assumption) (by first | exact Or.inl (by assumption) | exact Or.inr (by assumption))⟩ | exact Or.inr ⟨zc_wd2 (by assumption) (by assumption) (by assumption), rfl, zc_st_e7 a21 (by assumption) (by assumption) (by first | exact Or.inl (by assumption) | exact Or.inr (by assumption)) (by assumption) (by assumption)⟩ | exact Or.inr ⟨zc_wd2 (by assumption) (by assumption) (by assumption), rfl, zc_st_e8 a21 (by assumption) (by assumption) (by assumption) (by assumption) (by assumption)⟩⟩
            · refine zx_T.l (i := .aload_n 0) (k := 1) (v := .ref 20) (pc := 83) rfl rfl rfl ?_
              refine zw_gr (k := 0) (b := 21) (pc := 84) rfl rfl rfl ih94 ?_
              refine zx_T.l (i := .iload 4) (k := 2) (v := .int (zI (a + 2))) (pc := 87) rfl rfl rfl ?_
              refine zr_al (n := 14) (lo := (-2147483648)) (hi := 2147483647) (e := zv_a h 21 (a + 2)) (pc := 89) rfl rfl rfl ih94 (by omega) (by omega) (((s96 (a + 2) (by omega)).trans (if_neg (by omega))).trans (((s92 (a + 2) (by omega)).trans (if_neg (by omega))).trans ((s89 (a + 2) (by omega)).trans (if_neg (by omega))))) (fun g99a g99b => ?_)
              refine zx_T.s (i := .iconst 3) (k := 1) (st' := [.int (zI (3)), .int (zI (zv_a h 21 (a + 2)))]) (pc := 90) rfl rfl ?_
              refine zr_i2 (x := zv_a h 21 (a + 2)) (y := 3) (t := 102) (pc := 91) rfl rfl (by omega) (by omega) (by omega) (by omega) (fun (c100 : ¬ (zv_a h 21 (a + 2)) = 3) => ?_) (fun (c100 : ¬ (¬ (zv_a h 21 (a + 2)) = 3)) => ?_)
              · refine zx_T.s (i := .iconst 0) (k := 1) (st' := [.int (zI (0))]) (pc := 102) rfl rfl ?_
                have a21 : ∀ j, 0 ≤ j → zv_a h94 21 j = if j = a + 1 then 3 else if j = a then k else if j = a - 1 then 0 else zv_a h 21 j := fun j hj => by rw [s96 j hj, s92 j hj, s89 j hj]
                exact zr_ir (x := 0) (pc := 103) rfl rfl rfl ⟨ih94, (((w88.wd rfl : zb_W [(21, 0)] h _).tr (w91.wd rfl)).tr (w95.wd rfl)), _, rfl, by dsimp only; first | exact Or.inr ⟨zc_wd1 (by assumption) (by assumption) (by assumption), rfl, zc_st_e1 a21 (by assumption) (by assumption) (by first | exact Or.inl (by assumption) | exact Or.inr (by assumption)) (by first | exact Or.inl (by assumption) | exact Or.inr (by assumption))⟩ | exact Or.inr ⟨zc_wd1 (by assumption) (by assumption) (by assumption), rfl, zc_st_e2 a21 (by assumption) (by assumption) (by assumption) (by first | exact Or.inl (by assumption) | exact Or.inr (by assumption))⟩ | exact Or.inr ⟨zc_wd1 (by assumption) (by assumption) (by assumption), rfl, zc_st_e3 a21 (by assumption) (by assumption) (by first | exact Or.inl (by assumption) | exact Or.inr (by assumption)) (by assumption) (by assumption)⟩ | exact Or.inr ⟨zc_wd1 (by assumption) (by assumption) (by assumption), rfl, zc_st_e4 a21 (by assumption) (by assumption) (by assumption) (by assumption) (by assumption)⟩ | exact Or.inr ⟨zc_wd2 (by assumption) (by assumption) (by assumption), rfl, zc_st_e5 a21 (by assumption) (by assumption) (by first | exact Or.inl (by assumption) | exact Or.inr (by assumption)) (by first | exact Or.inl (by assumption) | exact Or.inr (by assumption))⟩ | exact Or.inr ⟨zc_wd2 (by assumption) (by assumption) (by assumption), rfl, zc_st_e6 a21 (by assumption) (by assumption) (by assumption) (by first | exact Or.inl (by assumption) | exact Or.inr (by assumption))⟩ | exact Or.inr ⟨zc_wd2 (by assumption) (by assumption) (by assumption), rfl, zc_st_e7 a21 (by assumption) (by assumption) (by first | exact Or.inl (by assumption) | exact Or.inr (by assumption)) (by assumption) (by assumption)⟩ | exact Or.inr ⟨zc_wd2 (by assumption) (by assumption) (by assumption), rfl, zc_st_e8 a21 (by assumption) (by assumption) (by assumption) (by assumption) (by assumption)⟩⟩
              · refine zx_T.l (i := .aload_n 0) (k := 1) (v := .ref 20) (pc := 94) rfl rfl rfl ?_
                refine zw_gr (k := 0) (b := 21) (pc := 95) rfl rfl rfl ih94 ?_
                refine zx_T.l (i := .iload 4) (k := 2) (v := .int (zI (a + 2))) (pc := 98) rfl rfl rfl ?_
                refine zx_T.s (i := .iconst 0) (k := 1) (st' := [.int (zI (0)), .int (zI (a + 2)), .ref 21]) (pc := 100) rfl rfl ?_
                refine zr_as (n := 14) (lo := (-2147483648)) (hi := 2147483647) (e := 0) (pc := 101) rfl rfl rfl rfl ih94 (by omega) (by omega) (by omega) (by omega) (fun h102 ih102 w103 s104 => ?_)
                refine zx_T.s (i := .iconst 0) (k := 1) (st' := [.int (zI (0))]) (pc := 102) rfl rfl ?_
                have a21 : ∀ j, 0 ≤ j → zv_a h102 21 j = if j = a + 2 then 0 else if j = a + 1 then 3 else if j = a then k else if j = a - 1 then 0 else zv_a h 21 j := fun j hj => by rw [s104 j hj, s96 j hj, s92 j hj, s89 j hj]
                exact zr_ir (x := 0) (pc := 103) rfl rfl rfl ⟨ih102, ((((w88.wd rfl : zb_W [(21, 0)] h _).tr (w91.wd rfl)).tr (w95.wd rfl)).tr (w103.wd rfl)), _, rfl, by dsimp only; first | exact Or.inr ⟨zc_wd1 (by assumption) (by assumption) (by assumption), rfl, zc_st_e1 a21 (by assumption) (by assumption) (by first | exact Or.inl (by assumption) | exact Or.inr (by assumption)) (by first | exact Or.inl (by assumption) | exact Or.inr (by assumption))⟩ | exact Or.inr ⟨zc_wd1 (by assumption) (by assumption) (by assumption), rfl, zc_st_e2 a21 (by assumption) (by assumption) (by assumption) (by first | exact Or.inl (by assumption) | exact Or.inr (by assumption))⟩ | exact Or.inr ⟨zc_wd1 (by assumption) (by assumption) (by assumption), rfl, zc_st_e3 a21 (by assumption) (by assumption) (by first | exact Or.inl (by assumption) | exact Or.inr (by assumption)) (by assumption) (by assumption)⟩ | exact Or.inr ⟨zc_wd1 (by assumption) (by assumption) (by assumption), rfl, zc_st_e4 a21 (by assumption) (by assumption) (by assumption) (by assumption) (by assumption)⟩ | exact Or.inr ⟨zc_wd2 (by assumption) (by assumption) (by assumption), rfl, zc_st_e5 a21 (by assumption) (by assumption) (by first | exact Or.inl (by assumption) | exact Or.inr (by assumption)) (by first | exact Or.inl (by assumption) | exact Or.inr (by assumption))⟩ | exact Or.inr ⟨zc_wd2 (by assumption) (by assumption) (by assumption), rfl, zc_st_e6 a21 (by assumption) (by assumption) (by assumption) (by first | exact Or.inl (by assumption) | exact Or.inr (by assumption))⟩ | exact Or.inr ⟨zc_wd2 (by assumption) (by assumption) (by assumption), rfl, zc_st_e7 a21 (by assumption) (by assumption) (by first | exact Or.inl (by assumption) | exact Or.inr (by assumption)) (by assumption) (by assumption)⟩ | exact Or.inr ⟨zc_wd2 (by assumption) (by assumption) (by assumption), rfl, zc_st_e8 a21 (by assumption) (by assumption) (by assumption) (by assumption) (by assumption)⟩⟩
      · refine zx_T.s (i := .iconst 4) (k := 1) (st' := [.int (zI (4))]) (pc := 23) rfl rfl ?_
        have a21 : ∀ j, 0 ≤ j → zv_a h 21 j = zv_a h 21 j := fun j hj => rfl
        exact zr_ir (x := 4) (pc := 24) rfl rfl rfl ⟨hI, zb_W.rf, _, rfl, by dsimp only; exact Or.inl ⟨by unfold zs_wd; split <;> omega, rfl, a21⟩⟩

set_option maxRecDepth 100000 in
set_option maxHeartbeats 4000000 in
theorem zm_loadE_20 {h : zx_H} (hI : zb_I zc_H h) {a : Int} (a1 : -2147483648 ≤ a) (a2 : a ≤ 2147483647) (zk : zk_in (zv_f h 20 1) (zv_a h 21)) : zx_T zp_P 2 zp_m22 0 [(0, .ref 20), (1, .int (zI (a)))] [] h (zr_R [(20, 1), (21, 0)] h (fun e h' => zt_eq (e, zv_f h' 20 1, zv_a h' 21) (zs_load a (0, zv_f h 20 1, zv_a h 21)) ∧ 0 ≤ e ∧ e ≤ 4)) := by
  have hS := zw_ri hI (a := 20) (k := 1) rfl
  refine zx_T.l (i := .iload_n 1) (k := 1) (v := .int (zI (a))) (pc := 0) rfl rfl rfl ?_
  refine zr_i1 (x := a) (t := 10) (pc := 1) rfl rfl (by omega) (by omega) (fun (c1 : a < 0) => ?_) (fun (c1 : ¬ (a < 0)) => ?_)
  · refine zx_T.s (i := .iconst 4) (k := 1) (st' := [.int (zI (4))]) (pc := 10) rfl rfl ?_
    have a21 : ∀ j, 0 ≤ j → zv_a h 21 j = zv_a h 21 j := fun j hj => rfl
    exact zr_ir (x := 4) (pc := 11) rfl rfl rfl ⟨hI, zb_W.rf, _, rfl, by dsimp only; exact ⟨zt_load (by first | exact Or.inl ⟨by omega, by omega, by omega, fun j j0 => by rw [a21 j j0]⟩ | exact Or.inr (Or.inl ⟨by omega, by omega, by omega, by omega, fun j j0 => by rw [a21 j j0]⟩)), by omega, by omega⟩⟩
  · refine zx_T.l (i := .iload_n 1) (k := 1) (v := .int (zI (a))) (pc := 4) rfl rfl rfl ?_
    refine zx_T.s (i := .bipush 8) (k := 2) (st' := [.int (zI (8)), .int (zI (a))]) (pc := 5) rfl rfl ?_
    refine zr_i2 (x := a) (y := 8) (t := 12) (pc := 7) rfl rfl (by omega) (by omega) (by omega) (by omega) (fun (c4 : a < 8) => ?_) (fun (c4 : ¬ (a < 8)) => ?_)
    · refine zx_T.l (i := .aload_n 0) (k := 1) (v := .ref 20) (pc := 12) rfl rfl rfl ?_
      refine zx_T.l (i := .iload_n 1) (k := 1) (v := .int (zI (a))) (pc := 13) rfl rfl rfl ?_
      refine zw_iv (b := 20) (cj := 118) (q' := zp_m118) (As := [.int (zI (a))]) (rest := []) (pc := 14) rfl rfl rfl rfl rfl rfl rfl (Nat.le_of_ble_eq_true rfl) rfl (Nat.le_of_ble_eq_true rfl) hI ((zm_kindOf_20 (h := h) hI (i := a) (by omega) (by omega)).up (Nat.le_of_ble_eq_true rfl)) ?_
      rintro r5 h8 ⟨h8q, v6, r5q, x7⟩
      subst h8q r5q
      try dsimp only at x7
      have kO := x7.1
      show zx_T zp_P 2 zp_m22 17 [(0, .ref 20), (1, .int (zI (a)))] [.int (zI (v6))] h _
      refine zx_T.t (i := .istore_n 2) (k := 1) (ls' := [(2, .int (zI (v6))), (0, .ref 20), (1, .int (zI (a)))]) (st' := []) (pc := 17) rfl rfl rfl rfl ?_
      refine zx_T.l (i := .iload_n 2) (k := 1) (v := .int (zI (v6))) (pc := 18) rfl rfl rfl ?_
      refine zr_i1 (x := v6) (t := 27) (pc := 19) rfl rfl (by omega) (by omega) (fun (c9 : v6 = 0) => ?_) (fun (c9 : ¬ (v6 = 0)) => ?_)
      · refine zx_T.s (i := .iconst 1) (k := 1) (st' := [.int (zI (1))]) (pc := 27) rfl rfl ?_
        refine zx_T.j (i := .goto 8) (k := 3) (pc' := 36) (st' := [.int (zI (1))]) (pc := 28) rfl rfl rfl rfl rfl ?_
        have a21 : ∀ j, 0 ≤ j → zv_a h 21 j = zv_a h 21 j := fun j hj => rfl
        exact zr_ir (x := 1) (pc := 36) rfl rfl rfl ⟨hI, zb_W.rf, _, rfl, by dsimp only; exact ⟨zt_load (by first | exact Or.inl ⟨by omega, by omega, by omega, fun j j0 => by rw [a21 j j0]⟩ | exact Or.inr (Or.inl ⟨by omega, by omega, by omega, by omega, fun j j0 => by rw [a21 j j0]⟩)), by omega, by omega⟩⟩
      · refine zx_T.l (i := .iload_n 2) (k := 1) (v := .int (zI (v6))) (pc := 22) rfl rfl rfl ?_
        refine zx_T.s (i := .iconst 3) (k := 1) (st' := [.int (zI (3)), .int (zI (v6))]) (pc := 23) rfl rfl ?_
        refine zr_i2 (x := v6) (y := 3) (t := 31) (pc := 24) rfl rfl (by omega) (by omega) (by omega) (by omega) (fun (c12 : ¬ v6 = 3) => ?_) (fun (c12 : ¬ (¬ v6 = 3)) => ?_)
        · refine zx_T.l (i := .aload_n 0) (k := 1) (v := .ref 20) (pc := 31) rfl rfl rfl ?_
          refine zx_T.l (i := .iload_n 2) (k := 1) (v := .int (zI (v6))) (pc := 32) rfl rfl rfl ?_
          refine zw_iv (b := 20) (cj := 123) (q' := zp_m123) (As := [.int (zI (v6))]) (rest := []) (pc := 33) rfl rfl rfl rfl rfl rfl rfl (Nat.le_of_ble_eq_true rfl) rfl (Nat.le_of_ble_eq_true rfl) hI ((zm_push_20 (h := h) hI (k := v6) (by omega) (by omega)).up (Nat.le_of_ble_eq_true rfl)) ?_
          rintro r13 h16 ⟨ih16, w17, v14, r13q, x15⟩
          subst r13q
          try dsimp only at x15
          have pE := x15.1
          show zx_T zp_P 2 zp_m22 36 [(2, .int (zI (v6))), (0, .ref 20), (1, .int (zI (a)))] [.int (zI (v14))] h16 _
          have a21 : ∀ j, 0 ≤ j → zv_a h16 21 j = zv_a h16 21 j := fun j hj => rfl
          exact zr_ir (x := v14) (pc := 36) rfl rfl rfl ⟨ih16, (w17.wd rfl : zb_W [(20, 1), (21, 0)] h _), _, rfl, by dsimp only; exact ⟨zt_load (Or.inr (Or.inr ⟨by omega, by omega, by rcases kO with z | z; (rw [← z.2.2]; exact pE); (exfalso; omega)⟩)), by omega, by omega⟩⟩
        · refine zx_T.s (i := .iconst 1) (k := 1) (st' := [.int (zI (1))]) (pc := 27) rfl rfl ?_
          refine zx_T.j (i := .goto 8) (k := 3) (pc' := 36) (st' := [.int (zI (1))]) (pc := 28) rfl rfl rfl rfl rfl ?_
          have a21 : ∀ j, 0 ≤ j → zv_a h 21 j = zv_a h 21 j := fun j hj => rfl
          exact zr_ir (x := 1) (pc := 36) rfl rfl rfl ⟨hI, zb_W.rf, _, rfl, by dsimp only; exact ⟨zt_load (by first | exact Or.inl ⟨by omega, by omega, by omega, fun j j0 => by rw [a21 j j0]⟩ | exact Or.inr (Or.inl ⟨by omega, by omega, by omega, by omega, fun j j0 => by rw [a21 j j0]⟩)), by omega, by omega⟩⟩
    · refine zx_T.s (i := .iconst 4) (k := 1) (st' := [.int (zI (4))]) (pc := 10) rfl rfl ?_
      have a21 : ∀ j, 0 ≤ j → zv_a h 21 j = zv_a h 21 j := fun j hj => rfl
      exact zr_ir (x := 4) (pc := 11) rfl rfl rfl ⟨hI, zb_W.rf, _, rfl, by dsimp only; exact ⟨zt_load (by first | exact Or.inl ⟨by omega, by omega, by omega, fun j j0 => by rw [a21 j j0]⟩ | exact Or.inr (Or.inl ⟨by omega, by omega, by omega, by omega, fun j j0 => by rw [a21 j j0]⟩)), by omega, by omega⟩⟩

set_option maxRecDepth 100000 in
set_option maxHeartbeats 4000000 in
theorem zm_popE_20 {h : zx_H} (hI : zb_I zc_H h)  (zk : zk_in (zv_f h 20 1) (zv_a h 21)) : zx_T zp_P 1 zp_m24 0 [(0, .ref 20)] [] h (zr_R [(20, 1)] h (fun e h' => zt_eq (e, zv_f h' 20 1, zv_a h' 21) (zs_pop1 (0, zv_f h 20 1, zv_a h 21)) ∧ 0 ≤ e ∧ e ≤ 2)) := by
  have hS := zw_ri hI (a := 20) (k := 1) rfl
  refine zx_T.l (i := .aload_n 0) (k := 1) (v := .ref 20) (pc := 0) rfl rfl rfl ?_
  refine zx_T.s (i := .iconst 0) (k := 1) (st' := [.int (zI (0)), .ref 20]) (pc := 1) rfl rfl ?_
  refine zw_iv (b := 20) (cj := 120) (q' := zp_m120) (As := [.int (zI (0))]) (rest := []) (pc := 2) rfl rfl rfl rfl rfl rfl rfl (Nat.le_of_ble_eq_true rfl) rfl (Nat.le_of_ble_eq_true rfl) hI ((zm_kindDown_20 (h := h) hI (d := 0) (by omega) (by omega)).up (Nat.le_of_ble_eq_true rfl)) ?_
  rintro r1 h4 ⟨h4q, v2, r1q, x3⟩
  subst h4q r1q
  try dsimp only at x3
  have kD := x3.1
  show zx_T zp_P 1 zp_m24 5 [(0, .ref 20)] [.int (zI (v2))] h _
  refine zx_T.t (i := .istore_n 1) (k := 1) (ls' := [(1, .int (zI (v2))), (0, .ref 20)]) (st' := []) (pc := 5) rfl rfl rfl rfl ?_
  refine zx_T.l (i := .iload_n 1) (k := 1) (v := .int (zI (v2))) (pc := 6) rfl rfl rfl ?_
  refine zx_T.s (i := .iconst (-1)) (k := 1) (st' := [.int (zI ((-1))), .int (zI (v2))]) (pc := 7) rfl rfl ?_
  refine zr_i2 (x := v2) (y := (-1)) (t := 13) (pc := 8) rfl rfl (by omega) (by omega) (by omega) (by omega) (fun (c5 : ¬ v2 = (-1)) => ?_) (fun (c5 : ¬ (¬ v2 = (-1))) => ?_)
  · refine zx_T.l (i := .iload_n 1) (k := 1) (v := .int (zI (v2))) (pc := 13) rfl rfl rfl ?_
    refine zx_T.s (i := .iconst 3) (k := 1) (st' := [.int (zI (3)), .int (zI (v2))]) (pc := 14) rfl rfl ?_
    refine zr_i2 (x := v2) (y := 3) (t := 20) (pc := 15) rfl rfl (by omega) (by omega) (by omega) (by omega) (fun (c6 : ¬ v2 = 3) => ?_) (fun (c6 : ¬ (¬ v2 = 3)) => ?_)
    · refine zx_T.l (i := .aload_n 0) (k := 1) (v := .ref 20) (pc := 20) rfl rfl rfl ?_
      refine zx_T.s (i := .iconst 1) (k := 1) (st' := [.int (zI (1)), .ref 20]) (pc := 21) rfl rfl ?_
      refine zw_iv (b := 20) (cj := 122) (q' := zp_m122) (As := [.int (zI (1))]) (rest := []) (pc := 22) rfl rfl rfl rfl rfl rfl rfl (Nat.le_of_ble_eq_true rfl) rfl (Nat.le_of_ble_eq_true rfl) hI ((zm_drop_20 (h := h) hI (n := 1) (by omega) (by omega)).up (Nat.le_of_ble_eq_true rfl)) ?_
      rintro r7 h10 ⟨ih10, w11, r7q, x9⟩
      subst r7q
      try dsimp only at x9
      show zx_T zp_P 1 zp_m24 25 [(1, .int (zI (v2))), (0, .ref 20)] [] h10 _
      refine zx_T.s (i := .iconst 0) (k := 1) (st' := [.int (zI (0))]) (pc := 25) rfl rfl ?_
      have a21 : ∀ j, 0 ≤ j → zv_a h10 21 j = zv_a h 21 j := fun j hj => by rw [zv_wa w11 rfl j]
      exact zr_ir (x := 0) (pc := 26) rfl rfl rfl ⟨ih10, (w11.wd rfl : zb_W [(20, 1)] h _), _, rfl, by dsimp only; have tz := zk (zv_f h 20 1 + 7); rw [show zv_f h 20 1 + 7 - 0 = zv_f h 20 1 + 7 by omega] at kD; exact ⟨zt_pop1 (by first | exact Or.inl ⟨by omega, by omega, by omega⟩ | exact Or.inr (Or.inl ⟨by omega, by omega, by omega, by omega⟩) | exact Or.inr (Or.inr ⟨by omega, by omega, by omega, by omega⟩)) (fun j j0 => by rw [a21 j j0]), by omega, by omega⟩⟩
    · refine zx_T.s (i := .iconst 1) (k := 1) (st' := [.int (zI (1))]) (pc := 18) rfl rfl ?_
      have a21 : ∀ j, 0 ≤ j → zv_a h 21 j = zv_a h 21 j := fun j hj => rfl
      exact zr_ir (x := 1) (pc := 19) rfl rfl rfl ⟨hI, zb_W.rf, _, rfl, by dsimp only; have tz := zk (zv_f h 20 1 + 7); rw [show zv_f h 20 1 + 7 - 0 = zv_f h 20 1 + 7 by omega] at kD; exact ⟨zt_pop1 (by first | exact Or.inl ⟨by omega, by omega, by omega⟩ | exact Or.inr (Or.inl ⟨by omega, by omega, by omega, by omega⟩) | exact Or.inr (Or.inr ⟨by omega, by omega, by omega, by omega⟩)) (fun j j0 => by rw [a21 j j0]), by omega, by omega⟩⟩
  · refine zx_T.s (i := .iconst 2) (k := 1) (st' := [.int (zI (2))]) (pc := 11) rfl rfl ?_
    have a21 : ∀ j, 0 ≤ j → zv_a h 21 j = zv_a h 21 j := fun j hj => rfl
    exact zr_ir (x := 2) (pc := 12) rfl rfl rfl ⟨hI, zb_W.rf, _, rfl, by dsimp only; have tz := zk (zv_f h 20 1 + 7); rw [show zv_f h 20 1 + 7 - 0 = zv_f h 20 1 + 7 by omega] at kD; exact ⟨zt_pop1 (by first | exact Or.inl ⟨by omega, by omega, by omega⟩ | exact Or.inr (Or.inl ⟨by omega, by omega, by omega, by omega⟩) | exact Or.inr (Or.inr ⟨by omega, by omega, by omega, by omega⟩)) (fun j j0 => by rw [a21 j j0]), by omega, by omega⟩⟩

set_option maxRecDepth 100000 in
set_option maxHeartbeats 4000000 in
theorem zm_pop2E_20 {h : zx_H} (hI : zb_I zc_H h)  (zk : zk_in (zv_f h 20 1) (zv_a h 21)) : zx_T zp_P 1 zp_m25 0 [(0, .ref 20)] [] h (zr_R [(20, 1)] h (fun e h' => zt_eq (e, zv_f h' 20 1, zv_a h' 21) (zc_pop2 (0, zv_f h 20 1, zv_a h 21)) ∧ 0 ≤ e ∧ e ≤ 2)) := by
  have hS := zw_ri hI (a := 20) (k := 1) rfl
  refine zx_T.l (i := .aload_n 0) (k := 1) (v := .ref 20) (pc := 0) rfl rfl rfl ?_
  refine zx_T.s (i := .iconst 1) (k := 1) (st' := [.int (zI (1)), .ref 20]) (pc := 1) rfl rfl ?_
  refine zw_iv (b := 20) (cj := 120) (q' := zp_m120) (As := [.int (zI (1))]) (rest := []) (pc := 2) rfl rfl rfl rfl rfl rfl rfl (Nat.le_of_ble_eq_true rfl) rfl (Nat.le_of_ble_eq_true rfl) hI ((zm_kindDown_20 (h := h) hI (d := 1) (by omega) (by omega)).up (Nat.le_of_ble_eq_true rfl)) ?_
  rintro r1 h4 ⟨h4q, v2, r1q, x3⟩
  subst h4q r1q
  try dsimp only at x3
  have kD := x3.1
  show zx_T zp_P 1 zp_m25 5 [(0, .ref 20)] [.int (zI (v2))] h _
  refine zx_T.t (i := .istore_n 1) (k := 1) (ls' := [(1, .int (zI (v2))), (0, .ref 20)]) (st' := []) (pc := 5) rfl rfl rfl rfl ?_
  refine zx_T.l (i := .iload_n 1) (k := 1) (v := .int (zI (v2))) (pc := 6) rfl rfl rfl ?_
  refine zx_T.s (i := .iconst (-1)) (k := 1) (st' := [.int (zI ((-1))), .int (zI (v2))]) (pc := 7) rfl rfl ?_
  refine zr_i2 (x := v2) (y := (-1)) (t := 13) (pc := 8) rfl rfl (by omega) (by omega) (by omega) (by omega) (fun (c5 : ¬ v2 = (-1)) => ?_) (fun (c5 : ¬ (¬ v2 = (-1))) => ?_)
  · refine zx_T.l (i := .iload_n 1) (k := 1) (v := .int (zI (v2))) (pc := 13) rfl rfl rfl ?_
    refine zx_T.s (i := .iconst 3) (k := 1) (st' := [.int (zI (3)), .int (zI (v2))]) (pc := 14) rfl rfl ?_
    refine zr_i2 (x := v2) (y := 3) (t := 20) (pc := 15) rfl rfl (by omega) (by omega) (by omega) (by omega) (fun (c6 : ¬ v2 = 3) => ?_) (fun (c6 : ¬ (¬ v2 = 3)) => ?_)
    · refine zx_T.l (i := .aload_n 0) (k := 1) (v := .ref 20) (pc := 20) rfl rfl rfl ?_
      refine zx_T.s (i := .iconst 2) (k := 1) (st' := [.int (zI (2)), .ref 20]) (pc := 21) rfl rfl ?_
      refine zw_iv (b := 20) (cj := 122) (q' := zp_m122) (As := [.int (zI (2))]) (rest := []) (pc := 22) rfl rfl rfl rfl rfl rfl rfl (Nat.le_of_ble_eq_true rfl) rfl (Nat.le_of_ble_eq_true rfl) hI ((zm_drop_20 (h := h) hI (n := 2) (by omega) (by omega)).up (Nat.le_of_ble_eq_true rfl)) ?_
      rintro r7 h10 ⟨ih10, w11, r7q, x9⟩
      subst r7q
      try dsimp only at x9
      show zx_T zp_P 1 zp_m25 25 [(1, .int (zI (v2))), (0, .ref 20)] [] h10 _
      refine zx_T.s (i := .iconst 0) (k := 1) (st' := [.int (zI (0))]) (pc := 25) rfl rfl ?_
      have a21 : ∀ j, 0 ≤ j → zv_a h10 21 j = zv_a h 21 j := fun j hj => by rw [zv_wa w11 rfl j]
      exact zr_ir (x := 0) (pc := 26) rfl rfl rfl ⟨ih10, (w11.wd rfl : zb_W [(20, 1)] h _), _, rfl, by dsimp only; have tz := zk (zv_f h 20 1 + 6); rw [show zv_f h 20 1 + 7 - 1 = zv_f h 20 1 + 6 by omega] at kD; exact ⟨zc_pop2_c (by first | exact Or.inl ⟨by omega, by omega, by omega⟩ | exact Or.inr (Or.inl ⟨by omega, by omega, by omega, by omega⟩) | exact Or.inr (Or.inr ⟨by omega, by omega, by omega, by omega⟩)) (fun j j0 => by rw [a21 j j0]), by omega, by omega⟩⟩
    · refine zx_T.s (i := .iconst 1) (k := 1) (st' := [.int (zI (1))]) (pc := 18) rfl rfl ?_
      have a21 : ∀ j, 0 ≤ j → zv_a h 21 j = zv_a h 21 j := fun j hj => rfl
      exact zr_ir (x := 1) (pc := 19) rfl rfl rfl ⟨hI, zb_W.rf, _, rfl, by dsimp only; have tz := zk (zv_f h 20 1 + 6); rw [show zv_f h 20 1 + 7 - 1 = zv_f h 20 1 + 6 by omega] at kD; exact ⟨zc_pop2_c (by first | exact Or.inl ⟨by omega, by omega, by omega⟩ | exact Or.inr (Or.inl ⟨by omega, by omega, by omega, by omega⟩) | exact Or.inr (Or.inr ⟨by omega, by omega, by omega, by omega⟩)) (fun j j0 => by rw [a21 j j0]), by omega, by omega⟩⟩
  · refine zx_T.s (i := .iconst 2) (k := 1) (st' := [.int (zI (2))]) (pc := 11) rfl rfl ?_
    have a21 : ∀ j, 0 ≤ j → zv_a h 21 j = zv_a h 21 j := fun j hj => rfl
    exact zr_ir (x := 2) (pc := 12) rfl rfl rfl ⟨hI, zb_W.rf, _, rfl, by dsimp only; have tz := zk (zv_f h 20 1 + 6); rw [show zv_f h 20 1 + 7 - 1 = zv_f h 20 1 + 6 by omega] at kD; exact ⟨zc_pop2_c (by first | exact Or.inl ⟨by omega, by omega, by omega⟩ | exact Or.inr (Or.inl ⟨by omega, by omega, by omega, by omega⟩) | exact Or.inr (Or.inr ⟨by omega, by omega, by omega, by omega⟩)) (fun j j0 => by rw [a21 j j0]), by omega, by omega⟩⟩

set_option maxRecDepth 100000 in
set_option maxHeartbeats 4000000 in
theorem zm_incE_20 {h : zx_H} (hI : zb_I zc_H h) {a : Int} (a1 : -2147483648 ≤ a) (a2 : a ≤ 2147483647) (zk : zk_in (zv_f h 20 1) (zv_a h 21)) : zx_T zp_P 1 zp_m26 0 [(0, .ref 20), (1, .int (zI (a)))] [] h (zr_P h (fun e => zt_eq (e, zv_f h 20 1, zv_a h 21) (zs_inc a (0, zv_f h 20 1, zv_a h 21)) ∧ 0 ≤ e ∧ e ≤ 4)) := by
  have hS := zw_ri hI (a := 20) (k := 1) rfl
  refine zx_T.l (i := .iload_n 1) (k := 1) (v := .int (zI (a))) (pc := 0) rfl rfl rfl ?_
  refine zr_i1 (x := a) (t := 10) (pc := 1) rfl rfl (by omega) (by omega) (fun (c1 : a < 0) => ?_) (fun (c1 : ¬ (a < 0)) => ?_)
  · refine zx_T.s (i := .iconst 4) (k := 1) (st' := [.int (zI (4))]) (pc := 10) rfl rfl ?_
    exact zr_ir (x := 4) (pc := 11) rfl rfl rfl ⟨rfl, _, rfl, by dsimp only; exact ⟨zt_inc (by first | exact Or.inl ⟨by omega, by omega, by omega⟩ | exact Or.inr (Or.inl ⟨by omega, by omega, by omega, by omega⟩) | exact Or.inr (Or.inr ⟨by omega, by omega, by omega, by omega⟩)) (fun j j0 => rfl), by omega, by omega⟩⟩
  · refine zx_T.l (i := .iload_n 1) (k := 1) (v := .int (zI (a))) (pc := 4) rfl rfl rfl ?_
    refine zx_T.s (i := .bipush 8) (k := 2) (st' := [.int (zI (8)), .int (zI (a))]) (pc := 5) rfl rfl ?_
    refine zr_i2 (x := a) (y := 8) (t := 12) (pc := 7) rfl rfl (by omega) (by omega) (by omega) (by omega) (fun (c2 : a < 8) => ?_) (fun (c2 : ¬ (a < 8)) => ?_)
    · refine zx_T.l (i := .aload_n 0) (k := 1) (v := .ref 20) (pc := 12) rfl rfl rfl ?_
      refine zx_T.l (i := .iload_n 1) (k := 1) (v := .int (zI (a))) (pc := 13) rfl rfl rfl ?_
      refine zw_iv (b := 20) (cj := 118) (q' := zp_m118) (As := [.int (zI (a))]) (rest := []) (pc := 14) rfl rfl rfl rfl rfl rfl rfl (Nat.le_of_ble_eq_true rfl) rfl (Nat.le_of_ble_eq_true rfl) hI ((zm_kindOf_20 (h := h) hI (i := a) (by omega) (by omega)).up (Nat.le_of_ble_eq_true rfl)) ?_
      rintro r3 h6 ⟨h6q, v4, r3q, x5⟩
      subst h6q r3q
      try dsimp only at x5
      have kO := x5.1
      show zx_T zp_P 1 zp_m26 17 [(0, .ref 20), (1, .int (zI (a)))] [.int (zI (v4))] h _
      refine zx_T.s (i := .iconst 1) (k := 1) (st' := [.int (zI (1)), .int (zI (v4))]) (pc := 17) rfl rfl ?_
      refine zr_i2 (x := v4) (y := 1) (t := 25) (pc := 18) rfl rfl (by omega) (by omega) (by omega) (by omega) (fun (c7 : ¬ v4 = 1) => ?_) (fun (c7 : ¬ (¬ v4 = 1)) => ?_)
      · refine zx_T.s (i := .iconst 1) (k := 1) (st' := [.int (zI (1))]) (pc := 25) rfl rfl ?_
        exact zr_ir (x := 1) (pc := 26) rfl rfl rfl ⟨rfl, _, rfl, by dsimp only; exact ⟨zt_inc (by first | exact Or.inl ⟨by omega, by omega, by omega⟩ | exact Or.inr (Or.inl ⟨by omega, by omega, by omega, by omega⟩) | exact Or.inr (Or.inr ⟨by omega, by omega, by omega, by omega⟩)) (fun j j0 => rfl), by omega, by omega⟩⟩
      · refine zx_T.s (i := .iconst 0) (k := 1) (st' := [.int (zI (0))]) (pc := 21) rfl rfl ?_
        refine zx_T.j (i := .goto 4) (k := 3) (pc' := 26) (st' := [.int (zI (0))]) (pc := 22) rfl rfl rfl rfl rfl ?_
        exact zr_ir (x := 0) (pc := 26) rfl rfl rfl ⟨rfl, _, rfl, by dsimp only; exact ⟨zt_inc (by first | exact Or.inl ⟨by omega, by omega, by omega⟩ | exact Or.inr (Or.inl ⟨by omega, by omega, by omega, by omega⟩) | exact Or.inr (Or.inr ⟨by omega, by omega, by omega, by omega⟩)) (fun j j0 => rfl), by omega, by omega⟩⟩
    · refine zx_T.s (i := .iconst 4) (k := 1) (st' := [.int (zI (4))]) (pc := 10) rfl rfl ?_
      exact zr_ir (x := 4) (pc := 11) rfl rfl rfl ⟨rfl, _, rfl, by dsimp only; exact ⟨zt_inc (by first | exact Or.inl ⟨by omega, by omega, by omega⟩ | exact Or.inr (Or.inl ⟨by omega, by omega, by omega, by omega⟩) | exact Or.inr (Or.inr ⟨by omega, by omega, by omega, by omega⟩)) (fun j j0 => rfl), by omega, by omega⟩⟩
