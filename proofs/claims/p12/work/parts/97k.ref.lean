/-! ===== 97k: the reference, method by method (by program) ===== -/
set_option maxRecDepth 100000 in
set_option maxHeartbeats 4000000 in
theorem zm_kindX {h : zx_H} (hI : zb_I zc_H h) {p : Int} {i : Int} (p1 : -2147483648 ≤ p) (p2 : p ≤ 2147483647) (i1 : -2147483648 ≤ i) (i2 : i ≤ 2147483647) : zx_T zp_P 1 zp_m200 0 [(0, .ref 44), (1, .int (zI (p))), (2, .int (zI (i)))] [] h (zr_R [(44, 0)] h (fun e h' => (¬ (0 ≤ p ∧ p < zv_i h 1) ∧ e = -2) ∨ ((0 ≤ p ∧ p < zv_i h 1) ∧ zv_i h 13 = 0 ∧ e = -3) ∨ ((0 ≤ p ∧ p < zv_i h 1) ∧ ¬ zv_i h 13 = 0 ∧ (zv_a h 54 p = 1 ∧ 0 ≤ i ∧ i < 8 + zv_a h 56 p) ∧ e = zv_a h 55 (14 * p + i)) ∨ ((0 ≤ p ∧ p < zv_i h 1) ∧ ¬ zv_i h 13 = 0 ∧ ¬ (zv_a h 54 p = 1 ∧ 0 ≤ i ∧ i < 8 + zv_a h 56 p) ∧ e = -1))) := by
  have hC := zv_ri hI (k := 1) rfl
  have hD := zv_ri hI (k := 13) rfl
  refine zx_T.l (i := .aload_n 0) (k := 1) (v := .ref 44) (pc := 0) rfl rfl rfl ?_
  refine zx_T.s (i := .iconst 0) (k := 1) (st' := [.int (zI (0)), .ref 44]) (pc := 1) rfl rfl ?_
  refine zr_pi (k := 0) (lo := (-2147483648)) (hi := 2147483647) (e := 0) (pc := 2) rfl rfl rfl rfl rfl rfl hI (by omega) (by omega) (fun h1 ih1 w2 e3 => ?_)
  refine zx_T.l (i := .iload_n 1) (k := 1) (v := .int (zI (p))) (pc := 5) rfl rfl rfl ?_
  refine zx_T.s (i := .iconst 0) (k := 1) (st' := [.int (zI (0)), .int (zI (p))]) (pc := 6) rfl rfl ?_
  refine zx_T.l (i := .aload_n 0) (k := 1) (v := .ref 44) (pc := 7) rfl rfl rfl ?_
  refine zr_gi (k := 1) (lo := 0) (hi := 60) (e := zv_i h 1) (pc := 8) rfl rfl rfl ih1 (zv_wi w2 rfl) (fun g4a g4b => ?_)
  refine zx_T.s (i := .iconst 1) (k := 1) (st' := [.int (zI (1)), .int (zI (zv_i h 1)), .int (zI (0)), .int (zI (p))]) (pc := 11) rfl rfl ?_
  refine zr_sub (x := zv_i h 1) (y := 1) (e := zv_i h 1 - 1) (pc := 12) rfl (by omega) ?_
  refine zr_is (cj := 155) (q' := zp_m155) (As := [.int (zI (p)), .int (zI (0)), .int (zI (zv_i h 1 - 1))]) (rest := []) (pc := 13) rfl rfl rfl rfl rfl rfl (Nat.le_of_ble_eq_true rfl) rfl (Nat.le_of_ble_eq_true rfl) rfl ((zm_in (h := h1) ih1 (v := p) (l := 0) (u := zv_i h 1 - 1) (by omega) (by omega) (by omega) (by omega) (by omega) (by omega)).up (Nat.le_of_ble_eq_true rfl)) ?_
  rintro r5 h8 ⟨h8q, v6, r5q, x7⟩
  subst h8q r5q
  try dsimp only at x7
  show zx_T zp_P 1 zp_m200 16 [(0, .ref 44), (1, .int (zI (p))), (2, .int (zI (i)))] [.int (zI (v6))] h1 _
  refine zr_i1 (x := v6) (t := 22) (pc := 16) rfl rfl (by omega) (by omega) (fun (c9 : ¬ v6 = 0) => ?_) (fun (c9 : ¬ (¬ v6 = 0)) => ?_)
  · refine zx_T.l (i := .aload_n 0) (k := 1) (v := .ref 44) (pc := 22) rfl rfl rfl ?_
    refine zr_gi (k := 13) (lo := 0) (hi := 1) (e := zv_i h 13) (pc := 23) rfl rfl rfl ih1 (zv_wi w2 rfl) (fun g10a g10b => ?_)
    refine zr_i1 (x := zv_i h 13) (t := 32) (pc := 26) rfl rfl (by omega) (by omega) (fun (c11 : ¬ (zv_i h 13) = 0) => ?_) (fun (c11 : ¬ (¬ (zv_i h 13) = 0)) => ?_)
    · refine zx_T.l (i := .aload_n 0) (k := 1) (v := .ref 44) (pc := 32) rfl rfl rfl ?_
      refine zr_gr (k := 16) (b := 54) (pc := 33) rfl rfl rfl ih1 ?_
      refine zx_T.l (i := .iload_n 1) (k := 1) (v := .int (zI (p))) (pc := 36) rfl rfl rfl ?_
      refine zr_bl (n := 60) (lo := 0) (hi := 1) (e := zv_a h 54 p) (pc := 37) rfl rfl rfl ih1 (by omega) (by omega) (zv_wa w2 rfl p) (fun g12a g12b => ?_)
      refine zr_i1 (x := zv_a h 54 p) (t := 60) (pc := 38) rfl rfl (by omega) (by omega) (fun (c13 : (zv_a h 54 p) = 0) => ?_) (fun (c13 : ¬ ((zv_a h 54 p) = 0)) => ?_)
      · refine zx_T.s (i := .iconst (-1)) (k := 1) (st' := [.int (zI ((-1)))]) (pc := 60) rfl rfl ?_
        refine zx_T.j (i := .goto 14) (k := 3) (pc' := 75) (st' := [.int (zI ((-1)))]) (pc := 61) rfl rfl rfl rfl rfl ?_
        exact zr_ir (x := (-1)) (pc := 75) rfl rfl rfl ⟨ih1, (w2.wd rfl : zb_W [(44, 0)] h _), _, rfl, by dsimp only; first | exact Or.inl ⟨by omega, by omega⟩ | exact Or.inr (Or.inl ⟨by omega, by omega, by omega⟩) | exact Or.inr (Or.inr (Or.inl ⟨by omega, by omega, by omega, by omega⟩)) | exact Or.inr (Or.inr (Or.inr ⟨by omega, by omega, by omega, by omega⟩))⟩
      · refine zx_T.l (i := .iload_n 2) (k := 1) (v := .int (zI (i))) (pc := 41) rfl rfl rfl ?_
        refine zx_T.s (i := .iconst 0) (k := 1) (st' := [.int (zI (0)), .int (zI (i))]) (pc := 42) rfl rfl ?_
        refine zx_T.s (i := .bipush 8) (k := 2) (st' := [.int (zI (8)), .int (zI (0)), .int (zI (i))]) (pc := 43) rfl rfl ?_
        refine zx_T.l (i := .aload_n 0) (k := 1) (v := .ref 44) (pc := 45) rfl rfl rfl ?_
        refine zr_gr (k := 18) (b := 56) (pc := 46) rfl rfl rfl ih1 ?_
        refine zx_T.l (i := .iload_n 1) (k := 1) (v := .int (zI (p))) (pc := 49) rfl rfl rfl ?_
        refine zr_al (n := 60) (lo := 0) (hi := 6) (e := zv_a h 56 p) (pc := 50) rfl rfl rfl ih1 (by omega) (by omega) (zv_wa w2 rfl p) (fun g14a g14b => ?_)
        refine zr_add (x := 8) (y := zv_a h 56 p) (e := zv_a h 56 p + 8) (pc := 51) rfl (by omega) ?_
        refine zx_T.s (i := .iconst 1) (k := 1) (st' := [.int (zI (1)), .int (zI (zv_a h 56 p + 8)), .int (zI (0)), .int (zI (i))]) (pc := 52) rfl rfl ?_
        refine zr_sub (x := zv_a h 56 p + 8) (y := 1) (e := zv_a h 56 p + 7) (pc := 53) rfl (by omega) ?_
        refine zr_is (cj := 155) (q' := zp_m155) (As := [.int (zI (i)), .int (zI (0)), .int (zI (zv_a h 56 p + 7))]) (rest := []) (pc := 54) rfl rfl rfl rfl rfl rfl (Nat.le_of_ble_eq_true rfl) rfl (Nat.le_of_ble_eq_true rfl) rfl ((zm_in (h := h1) ih1 (v := i) (l := 0) (u := zv_a h 56 p + 7) (by omega) (by omega) (by omega) (by omega) (by omega) (by omega)).up (Nat.le_of_ble_eq_true rfl)) ?_
        rintro r15 h18 ⟨h18q, v16, r15q, x17⟩
        subst h18q r15q
        try dsimp only at x17
        show zx_T zp_P 1 zp_m200 57 [(0, .ref 44), (1, .int (zI (p))), (2, .int (zI (i)))] [.int (zI (v16))] h1 _
        refine zr_i1 (x := v16) (t := 64) (pc := 57) rfl rfl (by omega) (by omega) (fun (c19 : ¬ v16 = 0) => ?_) (fun (c19 : ¬ (¬ v16 = 0)) => ?_)
        · refine zx_T.l (i := .aload_n 0) (k := 1) (v := .ref 44) (pc := 64) rfl rfl rfl ?_
          refine zr_gr (k := 17) (b := 55) (pc := 65) rfl rfl rfl ih1 ?_
          refine zx_T.s (i := .bipush 14) (k := 2) (st' := [.int (zI (14)), .ref 55]) (pc := 68) rfl rfl ?_
          refine zx_T.l (i := .iload_n 1) (k := 1) (v := .int (zI (p))) (pc := 70) rfl rfl rfl ?_
          refine zr_mul (x := 14) (y := p) (e := 14 * p) (pc := 71) rfl (by omega) ?_
          refine zx_T.l (i := .iload_n 2) (k := 1) (v := .int (zI (i))) (pc := 72) rfl rfl rfl ?_
          refine zr_add (x := 14 * p) (y := i) (e := 14 * p + i) (pc := 73) rfl (by omega) ?_
          refine zr_al (n := 840) (lo := 0) (hi := 8) (e := zv_a h 55 (14 * p + i)) (pc := 74) rfl rfl rfl ih1 (by omega) (by omega) (zv_wa w2 rfl (14 * p + i)) (fun g20a g20b => ?_)
          exact zr_ir (x := zv_a h 55 (14 * p + i)) (pc := 75) rfl rfl rfl ⟨ih1, (w2.wd rfl : zb_W [(44, 0)] h _), _, rfl, by dsimp only; first | exact Or.inl ⟨by omega, by omega⟩ | exact Or.inr (Or.inl ⟨by omega, by omega, by omega⟩) | exact Or.inr (Or.inr (Or.inl ⟨by omega, by omega, by omega, by omega⟩)) | exact Or.inr (Or.inr (Or.inr ⟨by omega, by omega, by omega, by omega⟩))⟩
        · refine zx_T.s (i := .iconst (-1)) (k := 1) (st' := [.int (zI ((-1)))]) (pc := 60) rfl rfl ?_
          refine zx_T.j (i := .goto 14) (k := 3) (pc' := 75) (st' := [.int (zI ((-1)))]) (pc := 61) rfl rfl rfl rfl rfl ?_
          exact zr_ir (x := (-1)) (pc := 75) rfl rfl rfl ⟨ih1, (w2.wd rfl : zb_W [(44, 0)] h _), _, rfl, by dsimp only; first | exact Or.inl ⟨by omega, by omega⟩ | exact Or.inr (Or.inl ⟨by omega, by omega, by omega⟩) | exact Or.inr (Or.inr (Or.inl ⟨by omega, by omega, by omega, by omega⟩)) | exact Or.inr (Or.inr (Or.inr ⟨by omega, by omega, by omega, by omega⟩))⟩
    · refine zx_T.s (i := .bipush (-3)) (k := 2) (st' := [.int (zI ((-3)))]) (pc := 29) rfl rfl ?_
      exact zr_ir (x := (-3)) (pc := 31) rfl rfl rfl ⟨ih1, (w2.wd rfl : zb_W [(44, 0)] h _), _, rfl, by dsimp only; first | exact Or.inl ⟨by omega, by omega⟩ | exact Or.inr (Or.inl ⟨by omega, by omega, by omega⟩) | exact Or.inr (Or.inr (Or.inl ⟨by omega, by omega, by omega, by omega⟩)) | exact Or.inr (Or.inr (Or.inr ⟨by omega, by omega, by omega, by omega⟩))⟩
  · refine zx_T.s (i := .bipush (-2)) (k := 2) (st' := [.int (zI ((-2)))]) (pc := 19) rfl rfl ?_
    exact zr_ir (x := (-2)) (pc := 21) rfl rfl rfl ⟨ih1, (w2.wd rfl : zb_W [(44, 0)] h _), _, rfl, by dsimp only; first | exact Or.inl ⟨by omega, by omega⟩ | exact Or.inr (Or.inl ⟨by omega, by omega, by omega⟩) | exact Or.inr (Or.inr (Or.inl ⟨by omega, by omega, by omega, by omega⟩)) | exact Or.inr (Or.inr (Or.inr ⟨by omega, by omega, by omega, by omega⟩))⟩

set_option maxRecDepth 100000 in
set_option maxHeartbeats 4000000 in
theorem zm_sizeX {h : zx_H} (hI : zb_I zc_H h) {p : Int} (p1 : -2147483648 ≤ p) (p2 : p ≤ 2147483647) : zx_T zp_P 1 zp_m201 0 [(0, .ref 44), (1, .int (zI (p)))] [] h (zr_R [(44, 0)] h (fun e h' => (¬ (0 ≤ p ∧ p < zv_i h 1) ∧ e = -2) ∨ ((0 ≤ p ∧ p < zv_i h 1) ∧ zv_i h 13 = 0 ∧ e = -3) ∨ ((0 ≤ p ∧ p < zv_i h 1) ∧ ¬ zv_i h 13 = 0 ∧ zv_a h 54 p = 1 ∧ e = zv_a h 56 p) ∨ ((0 ≤ p ∧ p < zv_i h 1) ∧ ¬ zv_i h 13 = 0 ∧ ¬ (zv_a h 54 p = 1) ∧ e = -1))) := by
  have hC := zv_ri hI (k := 1) rfl
  have hD := zv_ri hI (k := 13) rfl
  refine zx_T.l (i := .aload_n 0) (k := 1) (v := .ref 44) (pc := 0) rfl rfl rfl ?_
  refine zx_T.s (i := .iconst 0) (k := 1) (st' := [.int (zI (0)), .ref 44]) (pc := 1) rfl rfl ?_
  refine zr_pi (k := 0) (lo := (-2147483648)) (hi := 2147483647) (e := 0) (pc := 2) rfl rfl rfl rfl rfl rfl hI (by omega) (by omega) (fun h1 ih1 w2 e3 => ?_)
  refine zx_T.l (i := .iload_n 1) (k := 1) (v := .int (zI (p))) (pc := 5) rfl rfl rfl ?_
  refine zx_T.s (i := .iconst 0) (k := 1) (st' := [.int (zI (0)), .int (zI (p))]) (pc := 6) rfl rfl ?_
  refine zx_T.l (i := .aload_n 0) (k := 1) (v := .ref 44) (pc := 7) rfl rfl rfl ?_
  refine zr_gi (k := 1) (lo := 0) (hi := 60) (e := zv_i h 1) (pc := 8) rfl rfl rfl ih1 (zv_wi w2 rfl) (fun g4a g4b => ?_)
  refine zx_T.s (i := .iconst 1) (k := 1) (st' := [.int (zI (1)), .int (zI (zv_i h 1)), .int (zI (0)), .int (zI (p))]) (pc := 11) rfl rfl ?_
  refine zr_sub (x := zv_i h 1) (y := 1) (e := zv_i h 1 - 1) (pc := 12) rfl (by omega) ?_
  refine zr_is (cj := 155) (q' := zp_m155) (As := [.int (zI (p)), .int (zI (0)), .int (zI (zv_i h 1 - 1))]) (rest := []) (pc := 13) rfl rfl rfl rfl rfl rfl (Nat.le_of_ble_eq_true rfl) rfl (Nat.le_of_ble_eq_true rfl) rfl ((zm_in (h := h1) ih1 (v := p) (l := 0) (u := zv_i h 1 - 1) (by omega) (by omega) (by omega) (by omega) (by omega) (by omega)).up (Nat.le_of_ble_eq_true rfl)) ?_
  rintro r5 h8 ⟨h8q, v6, r5q, x7⟩
  subst h8q r5q
  try dsimp only at x7
  show zx_T zp_P 1 zp_m201 16 [(0, .ref 44), (1, .int (zI (p)))] [.int (zI (v6))] h1 _
  refine zr_i1 (x := v6) (t := 22) (pc := 16) rfl rfl (by omega) (by omega) (fun (c9 : ¬ v6 = 0) => ?_) (fun (c9 : ¬ (¬ v6 = 0)) => ?_)
  · refine zx_T.l (i := .aload_n 0) (k := 1) (v := .ref 44) (pc := 22) rfl rfl rfl ?_
    refine zr_gi (k := 13) (lo := 0) (hi := 1) (e := zv_i h 13) (pc := 23) rfl rfl rfl ih1 (zv_wi w2 rfl) (fun g10a g10b => ?_)
    refine zr_i1 (x := zv_i h 13) (t := 34) (pc := 26) rfl rfl (by omega) (by omega) (fun (c11 : ¬ (zv_i h 13) = 0) => ?_) (fun (c11 : ¬ (¬ (zv_i h 13) = 0)) => ?_)
    · refine zx_T.l (i := .aload_n 0) (k := 1) (v := .ref 44) (pc := 34) rfl rfl rfl ?_
      refine zr_gr (k := 16) (b := 54) (pc := 35) rfl rfl rfl ih1 ?_
      refine zx_T.l (i := .iload_n 1) (k := 1) (v := .int (zI (p))) (pc := 38) rfl rfl rfl ?_
      refine zr_bl (n := 60) (lo := 0) (hi := 1) (e := zv_a h 54 p) (pc := 39) rfl rfl rfl ih1 (by omega) (by omega) (zv_wa w2 rfl p) (fun g12a g12b => ?_)
      refine zr_i1 (x := zv_a h 54 p) (t := 52) (pc := 40) rfl rfl (by omega) (by omega) (fun (c13 : (zv_a h 54 p) = 0) => ?_) (fun (c13 : ¬ ((zv_a h 54 p) = 0)) => ?_)
      · refine zx_T.s (i := .iconst (-1)) (k := 1) (st' := [.int (zI ((-1)))]) (pc := 52) rfl rfl ?_
        exact zr_ir (x := (-1)) (pc := 53) rfl rfl rfl ⟨ih1, (w2.wd rfl : zb_W [(44, 0)] h _), _, rfl, by dsimp only; first | exact Or.inl ⟨by omega, by omega⟩ | exact Or.inr (Or.inl ⟨by omega, by omega, by omega⟩) | exact Or.inr (Or.inr (Or.inl ⟨by omega, by omega, by omega, by omega⟩)) | exact Or.inr (Or.inr (Or.inr ⟨by omega, by omega, by omega, by omega⟩))⟩
      · refine zx_T.l (i := .aload_n 0) (k := 1) (v := .ref 44) (pc := 43) rfl rfl rfl ?_
        refine zr_gr (k := 18) (b := 56) (pc := 44) rfl rfl rfl ih1 ?_
        refine zx_T.l (i := .iload_n 1) (k := 1) (v := .int (zI (p))) (pc := 47) rfl rfl rfl ?_
        refine zr_al (n := 60) (lo := 0) (hi := 6) (e := zv_a h 56 p) (pc := 48) rfl rfl rfl ih1 (by omega) (by omega) (zv_wa w2 rfl p) (fun g14a g14b => ?_)
        refine zx_T.j (i := .goto 4) (k := 3) (pc' := 53) (st' := [.int (zI (zv_a h 56 p))]) (pc := 49) rfl rfl rfl rfl rfl ?_
        exact zr_ir (x := zv_a h 56 p) (pc := 53) rfl rfl rfl ⟨ih1, (w2.wd rfl : zb_W [(44, 0)] h _), _, rfl, by dsimp only; first | exact Or.inl ⟨by omega, by omega⟩ | exact Or.inr (Or.inl ⟨by omega, by omega, by omega⟩) | exact Or.inr (Or.inr (Or.inl ⟨by omega, by omega, by omega, by omega⟩)) | exact Or.inr (Or.inr (Or.inr ⟨by omega, by omega, by omega, by omega⟩))⟩
    · refine zx_T.s (i := .bipush (-3)) (k := 2) (st' := [.int (zI ((-3)))]) (pc := 29) rfl rfl ?_
      refine zx_T.j (i := .goto 22) (k := 3) (pc' := 53) (st' := [.int (zI ((-3)))]) (pc := 31) rfl rfl rfl rfl rfl ?_
      exact zr_ir (x := (-3)) (pc := 53) rfl rfl rfl ⟨ih1, (w2.wd rfl : zb_W [(44, 0)] h _), _, rfl, by dsimp only; first | exact Or.inl ⟨by omega, by omega⟩ | exact Or.inr (Or.inl ⟨by omega, by omega, by omega⟩) | exact Or.inr (Or.inr (Or.inl ⟨by omega, by omega, by omega, by omega⟩)) | exact Or.inr (Or.inr (Or.inr ⟨by omega, by omega, by omega, by omega⟩))⟩
  · refine zx_T.s (i := .bipush (-2)) (k := 2) (st' := [.int (zI ((-2)))]) (pc := 19) rfl rfl ?_
    exact zr_ir (x := (-2)) (pc := 21) rfl rfl rfl ⟨ih1, (w2.wd rfl : zb_W [(44, 0)] h _), _, rfl, by dsimp only; first | exact Or.inl ⟨by omega, by omega⟩ | exact Or.inr (Or.inl ⟨by omega, by omega, by omega⟩) | exact Or.inr (Or.inr (Or.inl ⟨by omega, by omega, by omega, by omega⟩)) | exact Or.inr (Or.inr (Or.inr ⟨by omega, by omega, by omega, by omega⟩))⟩

set_option maxRecDepth 100000 in
set_option maxHeartbeats 4000000 in
theorem zm_countX_L {h : zx_H} (hI : zb_I zc_H h) {w : Int} (w1 : -2147483648 ≤ w) (w2 : w ≤ 2147483647) (n : Nat) : (∀ {h2 : zx_H} {d : Int} {k : Int} (hI2 : zb_I zc_H h2) (k1 : 0 ≤ k) (k2 : k ≤ zv_i h 1) (d1 : 0 ≤ d) (d2 : d ≤ k) (hw : zb_W [(44, 0)] h h2) (dc : d = zs_cn (fun p => ¬ zv_a h 54 p = 1) k.toNat), (100 - k : Int).toNat < n → zx_T zp_P 0 zp_m219 9 [(0, .ref 44), (1, .int (zI (w))), (2, .int (zI (d))), (3, .int (zI (k)))] [] h2 (zr_R [(44, 0)] h (fun e h' => (w = 0 ∧ e = zv_i h 1) ∨ (w = 1 ∧ e = zv_i h 5) ∨ (w = 2 ∧ e = zv_i h 10) ∨ (w = 3 ∧ ((zv_i h 13 = 0 ∧ e = 0) ∨ (¬ zv_i h 13 = 0 ∧ e = zv_i h 19))) ∨ (w = 4 ∧ ((zv_i h 13 = 0 ∧ e = 0) ∨ (¬ zv_i h 13 = 0 ∧ e = zs_cn (fun p => ¬ zv_a h 54 p = 1) (zv_i h 1).toNat))) ∨ (w = 5 ∧ e = zv_i h 15) ∨ (¬ (0 ≤ w ∧ w ≤ 5) ∧ e = -2)))) := by
  induction n with
  | zero => exact fun _ _ _ _ _ _ _ hm => absurd hm (Nat.not_lt_zero _)
  | succ n ih =>
    intro h2 d k hI2 k1 k2 d1 d2 hw dc hm
    have hC := zv_ri hI (k := 1) rfl
    have hD := zv_ri hI (k := 13) rfl
    have e9 : zv_a h2 54 k = zv_a h 54 k := zv_wa hw rfl k
    refine zx_T.l (i := .iload_n 3) (k := 1) (v := .int (zI (k))) (pc := 9) rfl rfl rfl ?_
    refine zx_T.l (i := .aload_n 0) (k := 1) (v := .ref 44) (pc := 10) rfl rfl rfl ?_
    refine zr_gi (k := 1) (lo := 0) (hi := 60) (e := zv_i h 1) (pc := 11) rfl rfl rfl hI2 (zv_wi hw rfl) (fun g1a g1b => ?_)
    refine zr_i2 (x := k) (y := zv_i h 1) (t := 40) (pc := 14) rfl rfl (by omega) (by omega) (by omega) (by omega) (fun (c2 : (zv_i h 1) ≤ k) => ?_) (fun (c2 : ¬ ((zv_i h 1) ≤ k)) => ?_)
    · refine zx_T.l (i := .iload_n 1) (k := 1) (v := .int (zI (w))) (pc := 40) rfl rfl rfl ?_
      have c3 : w = 0 ∨ w = 1 ∨ w = 2 ∨ w = 3 ∨ w = 4 ∨ w = 5 ∨ (w < 0 ∨ 5 < w) := by omega
      rcases c3 with c3 | c3 | c3 | c3 | c3 | c3 | c3
      · refine zr_sw (i := .tableswitch 88 0 5 #[39, 44, 49, 54, 70, 83]) (len := 39) (t := 80) (x := w) (k := 0) (pc := 41) rfl c3 rfl rfl rfl rfl ?_
        refine zx_T.l (i := .aload_n 0) (k := 1) (v := .ref 44) (pc := 80) rfl rfl rfl ?_
        refine zr_gi (k := 1) (lo := 0) (hi := 60) (e := zv_i h 1) (pc := 81) rfl rfl rfl hI2 (zv_wi hw rfl) (fun g4a g4b => ?_)
        exact zr_ir (x := zv_i h 1) (pc := 84) rfl rfl rfl ⟨hI2, (hw.wd rfl : zb_W [(44, 0)] h _), _, rfl, by dsimp only; rw [show k = zv_i h 1 by omega] at dc; exact Or.inl ⟨by omega, by omega⟩⟩
      · refine zr_sw (i := .tableswitch 88 0 5 #[39, 44, 49, 54, 70, 83]) (len := 39) (t := 85) (x := w) (k := 1) (pc := 41) rfl c3 rfl rfl rfl rfl ?_
        refine zx_T.l (i := .aload_n 0) (k := 1) (v := .ref 44) (pc := 85) rfl rfl rfl ?_
        refine zr_gi (k := 5) (lo := 0) (hi := 6) (e := zv_i h 5) (pc := 86) rfl rfl rfl hI2 (zv_wi hw rfl) (fun g5a g5b => ?_)
        exact zr_ir (x := zv_i h 5) (pc := 89) rfl rfl rfl ⟨hI2, (hw.wd rfl : zb_W [(44, 0)] h _), _, rfl, by dsimp only; rw [show k = zv_i h 1 by omega] at dc; exact Or.inr (Or.inl ⟨by omega, by omega⟩)⟩
      · refine zr_sw (i := .tableswitch 88 0 5 #[39, 44, 49, 54, 70, 83]) (len := 39) (t := 90) (x := w) (k := 2) (pc := 41) rfl c3 rfl rfl rfl rfl ?_
        refine zx_T.l (i := .aload_n 0) (k := 1) (v := .ref 44) (pc := 90) rfl rfl rfl ?_
        refine zr_gi (k := 10) (lo := 0) (hi := 8) (e := zv_i h 10) (pc := 91) rfl rfl rfl hI2 (zv_wi hw rfl) (fun g6a g6b => ?_)
        exact zr_ir (x := zv_i h 10) (pc := 94) rfl rfl rfl ⟨hI2, (hw.wd rfl : zb_W [(44, 0)] h _), _, rfl, by dsimp only; rw [show k = zv_i h 1 by omega] at dc; exact Or.inr (Or.inr (Or.inl ⟨by omega, by omega⟩))⟩
      · refine zr_sw (i := .tableswitch 88 0 5 #[39, 44, 49, 54, 70, 83]) (len := 39) (t := 95) (x := w) (k := 3) (pc := 41) rfl c3 rfl rfl rfl rfl ?_
        refine zx_T.l (i := .aload_n 0) (k := 1) (v := .ref 44) (pc := 95) rfl rfl rfl ?_
        refine zr_gi (k := 13) (lo := 0) (hi := 1) (e := zv_i h 13) (pc := 96) rfl rfl rfl hI2 (zv_wi hw rfl) (fun g7a g7b => ?_)
        refine zr_i1 (x := zv_i h 13) (t := 109) (pc := 99) rfl rfl (by omega) (by omega) (fun (c8 : (zv_i h 13) = 0) => ?_) (fun (c8 : ¬ ((zv_i h 13) = 0)) => ?_)
        · refine zx_T.s (i := .iconst 0) (k := 1) (st' := [.int (zI (0))]) (pc := 109) rfl rfl ?_
          exact zr_ir (x := 0) (pc := 110) rfl rfl rfl ⟨hI2, (hw.wd rfl : zb_W [(44, 0)] h _), _, rfl, by dsimp only; rw [show k = zv_i h 1 by omega] at dc; exact Or.inr (Or.inr (Or.inr (Or.inl ⟨by omega, by first | exact Or.inl ⟨by omega, by omega⟩ | exact Or.inr ⟨by omega, by omega⟩⟩)))⟩
        · refine zx_T.l (i := .aload_n 0) (k := 1) (v := .ref 44) (pc := 102) rfl rfl rfl ?_
          refine zr_gi (k := 19) (lo := 0) (hi := 60) (e := zv_i h 19) (pc := 103) rfl rfl rfl hI2 (zv_wi hw rfl) (fun g9a g9b => ?_)
          refine zx_T.j (i := .goto 4) (k := 3) (pc' := 110) (st' := [.int (zI (zv_i h 19))]) (pc := 106) rfl rfl rfl rfl rfl ?_
          exact zr_ir (x := zv_i h 19) (pc := 110) rfl rfl rfl ⟨hI2, (hw.wd rfl : zb_W [(44, 0)] h _), _, rfl, by dsimp only; rw [show k = zv_i h 1 by omega] at dc; exact Or.inr (Or.inr (Or.inr (Or.inl ⟨by omega, by first | exact Or.inl ⟨by omega, by omega⟩ | exact Or.inr ⟨by omega, by omega⟩⟩)))⟩
      · refine zr_sw (i := .tableswitch 88 0 5 #[39, 44, 49, 54, 70, 83]) (len := 39) (t := 111) (x := w) (k := 4) (pc := 41) rfl c3 rfl rfl rfl rfl ?_
        refine zx_T.l (i := .aload_n 0) (k := 1) (v := .ref 44) (pc := 111) rfl rfl rfl ?_
        refine zr_gi (k := 13) (lo := 0) (hi := 1) (e := zv_i h 13) (pc := 112) rfl rfl rfl hI2 (zv_wi hw rfl) (fun g10a g10b => ?_)
        refine zr_i1 (x := zv_i h 13) (t := 122) (pc := 115) rfl rfl (by omega) (by omega) (fun (c11 : (zv_i h 13) = 0) => ?_) (fun (c11 : ¬ ((zv_i h 13) = 0)) => ?_)
        · refine zx_T.s (i := .iconst 0) (k := 1) (st' := [.int (zI (0))]) (pc := 122) rfl rfl ?_
          exact zr_ir (x := 0) (pc := 123) rfl rfl rfl ⟨hI2, (hw.wd rfl : zb_W [(44, 0)] h _), _, rfl, by dsimp only; rw [show k = zv_i h 1 by omega] at dc; exact Or.inr (Or.inr (Or.inr (Or.inr (Or.inl ⟨by omega, by first | exact Or.inl ⟨by omega, by omega⟩ | exact Or.inr ⟨by omega, by omega⟩⟩))))⟩
        · refine zx_T.l (i := .iload_n 2) (k := 1) (v := .int (zI (d))) (pc := 118) rfl rfl rfl ?_
          refine zx_T.j (i := .goto 4) (k := 3) (pc' := 123) (st' := [.int (zI (d))]) (pc := 119) rfl rfl rfl rfl rfl ?_
          exact zr_ir (x := d) (pc := 123) rfl rfl rfl ⟨hI2, (hw.wd rfl : zb_W [(44, 0)] h _), _, rfl, by dsimp only; rw [show k = zv_i h 1 by omega] at dc; exact Or.inr (Or.inr (Or.inr (Or.inr (Or.inl ⟨by omega, by first | exact Or.inl ⟨by omega, by omega⟩ | exact Or.inr ⟨by omega, by omega⟩⟩))))⟩
      · refine zr_sw (i := .tableswitch 88 0 5 #[39, 44, 49, 54, 70, 83]) (len := 39) (t := 124) (x := w) (k := 5) (pc := 41) rfl c3 rfl rfl rfl rfl ?_
        refine zx_T.l (i := .aload_n 0) (k := 1) (v := .ref 44) (pc := 124) rfl rfl rfl ?_
        refine zr_gi (k := 15) (lo := (-2147483648)) (hi := 2147483647) (e := zv_i h 15) (pc := 125) rfl rfl rfl hI2 (zv_wi hw rfl) (fun g12a g12b => ?_)
        exact zr_ir (x := zv_i h 15) (pc := 128) rfl rfl rfl ⟨hI2, (hw.wd rfl : zb_W [(44, 0)] h _), _, rfl, by dsimp only; rw [show k = zv_i h 1 by omega] at dc; exact Or.inr (Or.inr (Or.inr (Or.inr (Or.inr (Or.inl ⟨by omega, by omega⟩)))))⟩
      · refine zw_swd (t := 129) (x := w) (pc := 41) rfl c3 (by omega) (by omega) rfl ?_
        refine zx_T.s (i := .bipush (-2)) (k := 2) (st' := [.int (zI ((-2)))]) (pc := 129) rfl rfl ?_
        exact zr_ir (x := (-2)) (pc := 131) rfl rfl rfl ⟨hI2, (hw.wd rfl : zb_W [(44, 0)] h _), _, rfl, by dsimp only; rw [show k = zv_i h 1 by omega] at dc; exact Or.inr (Or.inr (Or.inr (Or.inr (Or.inr (Or.inr (⟨by omega, by omega⟩))))))⟩
    · refine zx_T.l (i := .iload_n 2) (k := 1) (v := .int (zI (d))) (pc := 17) rfl rfl rfl ?_
      refine zx_T.l (i := .aload_n 0) (k := 1) (v := .ref 44) (pc := 18) rfl rfl rfl ?_
      refine zr_gr (k := 16) (b := 54) (pc := 19) rfl rfl rfl hI2 ?_
      refine zx_T.l (i := .iload_n 3) (k := 1) (v := .int (zI (k))) (pc := 22) rfl rfl rfl ?_
      refine zr_bl (n := 60) (lo := 0) (hi := 1) (e := zv_a h 54 k) (pc := 23) rfl rfl rfl hI2 (by omega) (by omega) (zv_wa hw rfl k) (fun g13a g13b => ?_)
      refine zr_i1 (x := zv_a h 54 k) (t := 31) (pc := 24) rfl rfl (by omega) (by omega) (fun (c14 : (zv_a h 54 k) = 0) => ?_) (fun (c14 : ¬ ((zv_a h 54 k) = 0)) => ?_)
      · refine zx_T.s (i := .iconst 1) (k := 1) (st' := [.int (zI (1)), .int (zI (d))]) (pc := 31) rfl rfl ?_
        refine zr_add (x := d) (y := 1) (e := d + 1) (pc := 32) rfl (by omega) ?_
        refine zx_T.t (i := .istore_n 2) (k := 1) (ls' := [(2, .int (zI (d + 1))), (0, .ref 44), (1, .int (zI (w))), (3, .int (zI (k)))]) (st' := []) (pc := 33) rfl rfl rfl rfl ?_
        refine zr_inc (x := k) (n := 1) (y := k + 1) (ls' := [(3, .int (zI (k + 1))), (2, .int (zI (d + 1))), (0, .ref 44), (1, .int (zI (w)))]) (pc := 34) rfl rfl rfl (by omega) rfl ?_
        refine zx_T.j (i := .goto (-28)) (k := 3) (pc' := 9) (st' := []) (pc := 37) rfl rfl rfl rfl rfl ?_
        refine zx_T.lk (ls' := [(0, .ref 44), (1, .int (zI (w))), (2, .int (zI (d + 1))), (3, .int (zI (k + 1)))]) rfl ⟨rfl, rfl, rfl, rfl, trivial⟩ ?_
        exact ih (h2 := h2) (d := d + 1) (k := k + 1) hI2 (by omega) (by omega) (by omega) (by omega) (hw.wd rfl : zb_W [(44, 0)] h _) (by rw [zs_cn_s k1]; first | (rw [zi_t (show ¬ zv_a h 54 k = 1 by omega)]; omega) | (rw [zi_f (show ¬ ¬ zv_a h 54 k = 1 by omega)]; omega)) (by omega)
      · refine zx_T.s (i := .iconst 0) (k := 1) (st' := [.int (zI (0)), .int (zI (d))]) (pc := 27) rfl rfl ?_
        refine zx_T.j (i := .goto 4) (k := 3) (pc' := 32) (st' := [.int (zI (0)), .int (zI (d))]) (pc := 28) rfl rfl rfl rfl rfl ?_
        refine zr_add (x := d) (y := 0) (e := d) (pc := 32) rfl (by omega) ?_
        refine zx_T.t (i := .istore_n 2) (k := 1) (ls' := [(2, .int (zI (d))), (0, .ref 44), (1, .int (zI (w))), (3, .int (zI (k)))]) (st' := []) (pc := 33) rfl rfl rfl rfl ?_
        refine zr_inc (x := k) (n := 1) (y := k + 1) (ls' := [(3, .int (zI (k + 1))), (2, .int (zI (d))), (0, .ref 44), (1, .int (zI (w)))]) (pc := 34) rfl rfl rfl (by omega) rfl ?_
        refine zx_T.j (i := .goto (-28)) (k := 3) (pc' := 9) (st' := []) (pc := 37) rfl rfl rfl rfl rfl ?_
        refine zx_T.lk (ls' := [(0, .ref 44), (1, .int (zI (w))), (2, .int (zI (d))), (3, .int (zI (k + 1)))]) rfl ⟨rfl, rfl, rfl, rfl, trivial⟩ ?_
        exact ih (h2 := h2) (d := d) (k := k + 1) hI2 (by omega) (by omega) (by omega) (by omega) (hw.wd rfl : zb_W [(44, 0)] h _) (by rw [zs_cn_s k1]; first | (rw [zi_t (show ¬ zv_a h 54 k = 1 by omega)]; omega) | (rw [zi_f (show ¬ ¬ zv_a h 54 k = 1 by omega)]; omega)) (by omega)
set_option maxRecDepth 100000 in
set_option maxHeartbeats 4000000 in
theorem zm_countX {h : zx_H} (hI : zb_I zc_H h) {w : Int} (w1 : -2147483648 ≤ w) (w2 : w ≤ 2147483647) : zx_T zp_P 0 zp_m219 0 [(0, .ref 44), (1, .int (zI (w)))] [] h (zr_R [(44, 0)] h (fun e h' => (w = 0 ∧ e = zv_i h 1) ∨ (w = 1 ∧ e = zv_i h 5) ∨ (w = 2 ∧ e = zv_i h 10) ∨ (w = 3 ∧ ((zv_i h 13 = 0 ∧ e = 0) ∨ (¬ zv_i h 13 = 0 ∧ e = zv_i h 19))) ∨ (w = 4 ∧ ((zv_i h 13 = 0 ∧ e = 0) ∨ (¬ zv_i h 13 = 0 ∧ e = zs_cn (fun p => ¬ zv_a h 54 p = 1) (zv_i h 1).toNat))) ∨ (w = 5 ∧ e = zv_i h 15) ∨ (¬ (0 ≤ w ∧ w ≤ 5) ∧ e = -2))) := by
  have hC := zv_ri hI (k := 1) rfl
  have hD := zv_ri hI (k := 13) rfl
  refine zx_T.l (i := .aload_n 0) (k := 1) (v := .ref 44) (pc := 0) rfl rfl rfl ?_
  refine zx_T.s (i := .iconst 0) (k := 1) (st' := [.int (zI (0)), .ref 44]) (pc := 1) rfl rfl ?_
  refine zr_pi (k := 0) (lo := (-2147483648)) (hi := 2147483647) (e := 0) (pc := 2) rfl rfl rfl rfl rfl rfl hI (by omega) (by omega) (fun h15 ih15 w16 e17 => ?_)
  refine zx_T.s (i := .iconst 0) (k := 1) (st' := [.int (zI (0))]) (pc := 5) rfl rfl ?_
  refine zx_T.t (i := .istore_n 2) (k := 1) (ls' := [(2, .int (zI (0))), (0, .ref 44), (1, .int (zI (w)))]) (st' := []) (pc := 6) rfl rfl rfl rfl ?_
  refine zx_T.s (i := .iconst 0) (k := 1) (st' := [.int (zI (0))]) (pc := 7) rfl rfl ?_
  refine zx_T.t (i := .istore_n 3) (k := 1) (ls' := [(3, .int (zI (0))), (2, .int (zI (0))), (0, .ref 44), (1, .int (zI (w)))]) (st' := []) (pc := 8) rfl rfl rfl rfl ?_
  refine zx_T.lk (ls' := [(0, .ref 44), (1, .int (zI (w))), (2, .int (zI (0))), (3, .int (zI (0)))]) rfl ⟨rfl, rfl, rfl, rfl, trivial⟩ ?_
  exact zm_countX_L (h := h) hI (w := w) w1 w2 ((100 - 0 : Int).toNat + 1) (h2 := h15) (d := 0) (k := 0) ih15 (by omega) (by omega) (by omega) (by omega) (w16.wd rfl : zb_W [(44, 0)] h _) rfl (Nat.lt_succ_self _)

set_option maxRecDepth 100000 in
set_option maxHeartbeats 4000000 in
theorem zm_mIsMade {h : zx_H} (hI : zb_I zc_H h)   : zx_T zp_P 0 zp_m77 0 [(0, .ref 16)] [] h (zr_P h (fun e => e = zv_f h 16 4 ∧ 0 ≤ e ∧ e ≤ 1)) := by
  refine zx_T.l (i := .aload_n 0) (k := 1) (v := .ref 16) (pc := 0) rfl rfl rfl ?_
  refine zw_gi (k := 4) (lo := 0) (hi := 1) (e := zv_f h 16 4) (pc := 1) rfl rfl rfl hI rfl (fun g1a g1b => ?_)
  exact zr_ir (x := zv_f h 16 4) (pc := 4) rfl rfl (zr_nb (by omega) (by omega)) ⟨rfl, _, rfl, by dsimp only; exact ⟨rfl, by omega, by omega⟩⟩

set_option maxRecDepth 100000 in
set_option maxHeartbeats 4000000 in
theorem zm_mRounds {h : zx_H} (hI : zb_I zc_H h)   : zx_T zp_P 0 zp_m79 0 [(0, .ref 16)] [] h (zr_P h (fun e => e = zv_f h 16 6 ∧ 0 ≤ e ∧ e ≤ 3421)) := by
  refine zx_T.l (i := .aload_n 0) (k := 1) (v := .ref 16) (pc := 0) rfl rfl rfl ?_
  refine zw_gi (k := 6) (lo := 0) (hi := 3421) (e := zv_f h 16 6) (pc := 1) rfl rfl rfl hI rfl (fun g1a g1b => ?_)
  exact zr_ir (x := zv_f h 16 6) (pc := 4) rfl rfl rfl ⟨rfl, _, rfl, by dsimp only; exact ⟨rfl, by omega, by omega⟩⟩

set_option maxRecDepth 100000 in
set_option maxHeartbeats 4000000 in
theorem zm_mDepthAt {h : zx_H} (hI : zb_I zc_H h) {p : Int} (p1 : 0 ≤ p) (p2 : p ≤ 59) : zx_T zp_P 1 zp_m81 0 [(0, .ref 16), (1, .int (zI (p)))] [] h (zr_P h (fun e => e = zv_a h 19 p ∧ (-2147483648) ≤ e ∧ e ≤ 2147483647)) := by
  refine zx_T.l (i := .aload_n 0) (k := 1) (v := .ref 16) (pc := 0) rfl rfl rfl ?_
  refine zw_gr (k := 2) (b := 17) (pc := 1) rfl rfl rfl hI ?_
  refine zx_T.l (i := .iload_n 1) (k := 1) (v := .int (zI (p))) (pc := 4) rfl rfl rfl ?_
  refine zw_iv (b := 17) (cj := 130) (q' := zp_m130) (As := [.int (zI (p))]) (rest := []) (pc := 5) rfl rfl rfl rfl rfl rfl rfl (Nat.le_of_ble_eq_true rfl) rfl (Nat.le_of_ble_eq_true rfl) hI ((zm_tDepthOf_17 (h := h) hI (r := p) (by omega) (by omega)).up (Nat.le_of_ble_eq_true rfl)) ?_
  rintro r1 h4 ⟨h4q, v2, r1q, x3⟩
  subst h4q r1q
  try dsimp only at x3
  show zx_T zp_P 1 zp_m81 8 [(0, .ref 16), (1, .int (zI (p)))] [.int (zI (v2))] h _
  exact zr_ir (x := v2) (pc := 8) rfl rfl rfl ⟨rfl, _, rfl, by dsimp only; omega⟩

set_option maxRecDepth 100000 in
set_option maxHeartbeats 4000000 in
theorem zm_mKindAt {h : zx_H} (hI : zb_I zc_H h) {p : Int} {i : Int} (p1 : 0 ≤ p) (p2 : p ≤ 59) (i1 : 0 ≤ i) (i2 : i ≤ 13) : zx_T zp_P 2 zp_m82 0 [(0, .ref 16), (1, .int (zI (p))), (2, .int (zI (i)))] [] h (zr_P h (fun e => ((zv_a h 19 p = -1 ∧ e = -1) ∨ (¬ zv_a h 19 p = -1 ∧ e = zv_a h 18 (14 * p + i))) ∧ (-2147483648) ≤ e ∧ e ≤ 2147483647)) := by
  refine zx_T.l (i := .aload_n 0) (k := 1) (v := .ref 16) (pc := 0) rfl rfl rfl ?_
  refine zx_T.l (i := .iload_n 1) (k := 1) (v := .int (zI (p))) (pc := 1) rfl rfl rfl ?_
  refine zw_iv (b := 16) (cj := 83) (q' := zp_m83) (As := [.int (zI (p))]) (rest := []) (pc := 2) rfl rfl rfl rfl rfl rfl rfl (Nat.le_of_ble_eq_true rfl) rfl (Nat.le_of_ble_eq_true rfl) hI ((zm_mIsDead (h := h) hI (p := p) (by omega) (by omega)).up (Nat.le_of_ble_eq_true rfl)) ?_
  rintro r1 h4 ⟨h4q, v2, r1q, x3⟩
  subst h4q r1q
  try dsimp only at x3
  show zx_T zp_P 2 zp_m82 5 [(0, .ref 16), (1, .int (zI (p))), (2, .int (zI (i)))] [.int (zI (v2))] h _
  refine zr_i1 (x := v2) (t := 12) (pc := 5) rfl rfl (by omega) (by omega) (fun (c5 : v2 = 0) => ?_) (fun (c5 : ¬ (v2 = 0)) => ?_)
  · refine zx_T.l (i := .aload_n 0) (k := 1) (v := .ref 16) (pc := 12) rfl rfl rfl ?_
    refine zw_gr (k := 2) (b := 17) (pc := 13) rfl rfl rfl hI ?_
    refine zx_T.l (i := .iload_n 1) (k := 1) (v := .int (zI (p))) (pc := 16) rfl rfl rfl ?_
    refine zx_T.l (i := .iload_n 2) (k := 1) (v := .int (zI (i))) (pc := 17) rfl rfl rfl ?_
    refine zw_iv (b := 17) (cj := 131) (q' := zp_m131) (As := [.int (zI (p)), .int (zI (i))]) (rest := []) (pc := 18) rfl rfl rfl rfl rfl rfl rfl (Nat.le_of_ble_eq_true rfl) rfl (Nat.le_of_ble_eq_true rfl) hI ((zm_tKindOf_17 (h := h) hI (r := p) (i := i) (by omega) (by omega) (by omega) (by omega)).up (Nat.le_of_ble_eq_true rfl)) ?_
    rintro r6 h9 ⟨h9q, v7, r6q, x8⟩
    subst h9q r6q
    try dsimp only at x8
    show zx_T zp_P 2 zp_m82 21 [(0, .ref 16), (1, .int (zI (p))), (2, .int (zI (i)))] [.int (zI (v7))] h _
    exact zr_ir (x := v7) (pc := 21) rfl rfl rfl ⟨rfl, _, rfl, by dsimp only; omega⟩
  · refine zx_T.s (i := .iconst (-1)) (k := 1) (st' := [.int (zI ((-1)))]) (pc := 8) rfl rfl ?_
    refine zx_T.j (i := .goto 12) (k := 3) (pc' := 21) (st' := [.int (zI ((-1)))]) (pc := 9) rfl rfl rfl rfl rfl ?_
    exact zr_ir (x := (-1)) (pc := 21) rfl rfl rfl ⟨rfl, _, rfl, by dsimp only; omega⟩

set_option maxRecDepth 100000 in
set_option maxHeartbeats 4000000 in
theorem zm_mDead_L {h : zx_H} (hI : zb_I zc_H h)   (n : Nat) : (∀ {d : Int} {k : Int} (k1 : 0 ≤ k) (k2 : k ≤ zv_f h 1 3) (d1 : 0 ≤ d) (d2 : d ≤ k) (dc : d = zs_cn (fun p => zv_a h 19 p = -1) k.toNat), (100 - k : Int).toNat < n → zx_T zp_P 2 zp_m84 4 [(0, .ref 16), (1, .int (zI (d))), (2, .int (zI (k)))] [] h (zr_P h (fun e => e = zs_cn (fun p => zv_a h 19 p = -1) (zv_f h 1 3).toNat ∧ 0 ≤ e ∧ e ≤ 60))) := by
  induction n with
  | zero => exact fun _ _ _ _ _ hm => absurd hm (Nat.not_lt_zero _)
  | succ n ih =>
    intro d k k1 k2 d1 d2 dc hm
    have hC := zw_ri hI (a := 1) (k := 3) rfl
    have hH := zw_ri hI (a := 1) (k := 8) rfl
    refine zx_T.l (i := .iload_n 2) (k := 1) (v := .int (zI (k))) (pc := 4) rfl rfl rfl ?_
    refine zx_T.l (i := .aload_n 0) (k := 1) (v := .ref 16) (pc := 5) rfl rfl rfl ?_
    refine zw_gr (k := 0) (b := 1) (pc := 6) rfl rfl rfl hI ?_
    refine zw_iv (b := 1) (cj := 4) (q' := zp_m4) (As := []) (rest := [.int (zI (k))]) (pc := 9) rfl rfl rfl rfl rfl rfl rfl (Nat.le_of_ble_eq_true rfl) rfl (Nat.le_of_ble_eq_true rfl) hI ((zm_cPlaces (h := h) hI  ).up (Nat.le_of_ble_eq_true rfl)) ?_
    rintro r1 h4 ⟨h4q, v2, r1q, x3⟩
    subst h4q r1q
    try dsimp only at x3
    show zx_T zp_P 2 zp_m84 12 [(0, .ref 16), (1, .int (zI (d))), (2, .int (zI (k)))] [.int (zI (v2)), .int (zI (k))] h _
    refine zr_i2 (x := k) (y := v2) (t := 32) (pc := 12) rfl rfl (by omega) (by omega) (by omega) (by omega) (fun (c5 : v2 ≤ k) => ?_) (fun (c5 : ¬ (v2 ≤ k)) => ?_)
    · refine zx_T.l (i := .iload_n 1) (k := 1) (v := .int (zI (d))) (pc := 32) rfl rfl rfl ?_
      exact zr_ir (x := d) (pc := 33) rfl rfl rfl ⟨rfl, _, rfl, by dsimp only; rw [show k = zv_f h 1 3 by omega] at dc; omega⟩
    · refine zx_T.l (i := .aload_n 0) (k := 1) (v := .ref 16) (pc := 15) rfl rfl rfl ?_
      refine zx_T.l (i := .iload_n 2) (k := 1) (v := .int (zI (k))) (pc := 16) rfl rfl rfl ?_
      refine zw_iv (b := 16) (cj := 83) (q' := zp_m83) (As := [.int (zI (k))]) (rest := []) (pc := 17) rfl rfl rfl rfl rfl rfl rfl (Nat.le_of_ble_eq_true rfl) rfl (Nat.le_of_ble_eq_true rfl) hI ((zm_mIsDead (h := h) hI (p := k) (by omega) (by omega)).up (Nat.le_of_ble_eq_true rfl)) ?_
      rintro r6 h9 ⟨h9q, v7, r6q, x8⟩
      subst h9q r6q
      try dsimp only at x8
      show zx_T zp_P 2 zp_m84 20 [(0, .ref 16), (1, .int (zI (d))), (2, .int (zI (k)))] [.int (zI (v7))] h _
      refine zr_i1 (x := v7) (t := 26) (pc := 20) rfl rfl (by omega) (by omega) (fun (c10 : v7 = 0) => ?_) (fun (c10 : ¬ (v7 = 0)) => ?_)
      · refine zr_inc (x := k) (n := 1) (y := k + 1) (ls' := [(2, .int (zI (k + 1))), (0, .ref 16), (1, .int (zI (d)))]) (pc := 26) rfl rfl rfl (by omega) rfl ?_
        refine zx_T.j (i := .goto (-25)) (k := 3) (pc' := 4) (st' := []) (pc := 29) rfl rfl rfl rfl rfl ?_
        refine zx_T.lk (ls' := [(0, .ref 16), (1, .int (zI (d))), (2, .int (zI (k + 1)))]) rfl ⟨rfl, rfl, rfl, trivial⟩ ?_
        exact ih (d := d) (k := k + 1) (by omega) (by omega) (by omega) (by omega) (by rw [zs_cn_s k1]; first | (rw [zi_t (show zv_a h 19 k = -1 by omega)]; omega) | (rw [zi_f (show ¬ zv_a h 19 k = -1 by omega)]; omega)) (by omega)
      · refine zr_inc (x := d) (n := 1) (y := d + 1) (ls' := [(1, .int (zI (d + 1))), (0, .ref 16), (2, .int (zI (k)))]) (pc := 23) rfl rfl rfl (by omega) rfl ?_
        refine zr_inc (x := k) (n := 1) (y := k + 1) (ls' := [(2, .int (zI (k + 1))), (1, .int (zI (d + 1))), (0, .ref 16)]) (pc := 26) rfl rfl rfl (by omega) rfl ?_
        refine zx_T.j (i := .goto (-25)) (k := 3) (pc' := 4) (st' := []) (pc := 29) rfl rfl rfl rfl rfl ?_
        refine zx_T.lk (ls' := [(0, .ref 16), (1, .int (zI (d + 1))), (2, .int (zI (k + 1)))]) rfl ⟨rfl, rfl, rfl, trivial⟩ ?_
        exact ih (d := d + 1) (k := k + 1) (by omega) (by omega) (by omega) (by omega) (by rw [zs_cn_s k1]; first | (rw [zi_t (show zv_a h 19 k = -1 by omega)]; omega) | (rw [zi_f (show ¬ zv_a h 19 k = -1 by omega)]; omega)) (by omega)
set_option maxRecDepth 100000 in
set_option maxHeartbeats 4000000 in
theorem zm_mDead {h : zx_H} (hI : zb_I zc_H h)   : zx_T zp_P 2 zp_m84 0 [(0, .ref 16)] [] h (zr_P h (fun e => e = zs_cn (fun p => zv_a h 19 p = -1) (zv_f h 1 3).toNat ∧ 0 ≤ e ∧ e ≤ 60)) := by
  have hC := zw_ri hI (a := 1) (k := 3) rfl
  have hH := zw_ri hI (a := 1) (k := 8) rfl
  refine zx_T.s (i := .iconst 0) (k := 1) (st' := [.int (zI (0))]) (pc := 0) rfl rfl ?_
  refine zx_T.t (i := .istore_n 1) (k := 1) (ls' := [(1, .int (zI (0))), (0, .ref 16)]) (st' := []) (pc := 1) rfl rfl rfl rfl ?_
  refine zx_T.s (i := .iconst 0) (k := 1) (st' := [.int (zI (0))]) (pc := 2) rfl rfl ?_
  refine zx_T.t (i := .istore_n 2) (k := 1) (ls' := [(2, .int (zI (0))), (1, .int (zI (0))), (0, .ref 16)]) (st' := []) (pc := 3) rfl rfl rfl rfl ?_
  refine zx_T.lk (ls' := [(0, .ref 16), (1, .int (zI (0))), (2, .int (zI (0)))]) rfl ⟨rfl, rfl, rfl, trivial⟩ ?_
  exact zm_mDead_L (h := h) hI   ((100 - 0 : Int).toNat + 1) (d := 0) (k := 0) (by omega) (by omega) (by omega) (by omega) rfl (Nat.lt_succ_self _)

set_option maxRecDepth 100000 in
set_option maxHeartbeats 4000000 in
theorem zm_cKindX {h : zx_H} (hI : zb_I zc_H h) {p : Int} {i : Int} (p1 : -2147483648 ≤ p) (p2 : p ≤ 2147483647) (i1 : -2147483648 ≤ i) (i2 : i ≤ 2147483647) (dr : 0 ≤ p → p < zv_f h 1 3 → ¬ zv_f h 16 4 = 0 → (-1) ≤ zv_a h 19 p ∧ zv_a h 19 p ≤ 6) : zx_T zp_P 3 zp_m141 0 [(0, .ref 0), (1, .int (zI (p))), (2, .int (zI (i)))] [] h (zr_P h (fun e => (¬ (0 ≤ p ∧ p < zv_f h 1 3) ∧ e = -2) ∨ ((0 ≤ p ∧ p < zv_f h 1 3) ∧ zv_f h 16 4 = 0 ∧ e = -3) ∨ ((0 ≤ p ∧ p < zv_f h 1 3) ∧ ¬ zv_f h 16 4 = 0 ∧ (¬ zv_a h 19 p = -1 ∧ 0 ≤ i ∧ i < 8 + zv_a h 19 p) ∧ e = zv_a h 18 (14 * p + i)) ∨ ((0 ≤ p ∧ p < zv_f h 1 3) ∧ ¬ zv_f h 16 4 = 0 ∧ ¬ (¬ zv_a h 19 p = -1 ∧ 0 ≤ i ∧ i < 8 + zv_a h 19 p) ∧ e = -1))) := by
  have hC := zw_ri hI (a := 1) (k := 3) rfl
  have hH := zw_ri hI (a := 1) (k := 8) rfl
  have hD := zw_ri hI (a := 16) (k := 4) rfl
  refine zx_T.l (i := .aload_n 0) (k := 1) (v := .ref 0) (pc := 0) rfl rfl rfl ?_
  refine zw_gr (k := 0) (b := 1) (pc := 1) rfl rfl rfl hI ?_
  refine zx_T.l (i := .iload_n 1) (k := 1) (v := .int (zI (p))) (pc := 4) rfl rfl rfl ?_
  refine zw_iv (b := 1) (cj := 7) (q' := zp_m7) (As := [.int (zI (p))]) (rest := []) (pc := 5) rfl rfl rfl rfl rfl rfl rfl (Nat.le_of_ble_eq_true rfl) rfl (Nat.le_of_ble_eq_true rfl) hI ((zm_cHasPlace (h := h) hI (p := p) (by omega) (by omega)).up (Nat.le_of_ble_eq_true rfl)) ?_
  rintro r2 h5 ⟨h5q, v3, r2q, x4⟩
  subst h5q r2q
  try dsimp only at x4
  show zx_T zp_P 3 zp_m141 8 [(0, .ref 0), (1, .int (zI (p))), (2, .int (zI (i)))] [.int (zI (v3))] h _
  refine zr_i1 (x := v3) (t := 14) (pc := 8) rfl rfl (by omega) (by omega) (fun (c6 : ¬ v3 = 0) => ?_) (fun (c6 : ¬ (¬ v3 = 0)) => ?_)
  · refine zx_T.l (i := .aload_n 0) (k := 1) (v := .ref 0) (pc := 14) rfl rfl rfl ?_
    refine zw_gr (k := 2) (b := 16) (pc := 15) rfl rfl rfl hI ?_
    refine zw_iv (b := 16) (cj := 77) (q' := zp_m77) (As := []) (rest := []) (pc := 18) rfl rfl rfl rfl rfl rfl rfl (Nat.le_of_ble_eq_true rfl) rfl (Nat.le_of_ble_eq_true rfl) hI ((zm_mIsMade (h := h) hI  ).up (Nat.le_of_ble_eq_true rfl)) ?_
    rintro r7 h10 ⟨h10q, v8, r7q, x9⟩
    subst h10q r7q
    try dsimp only at x9
    show zx_T zp_P 3 zp_m141 21 [(0, .ref 0), (1, .int (zI (p))), (2, .int (zI (i)))] [.int (zI (v8))] h _
    refine zr_i1 (x := v8) (t := 27) (pc := 21) rfl rfl (by omega) (by omega) (fun (c11 : ¬ v8 = 0) => ?_) (fun (c11 : ¬ (¬ v8 = 0)) => ?_)
    · refine zx_T.l (i := .iload_n 2) (k := 1) (v := .int (zI (i))) (pc := 27) rfl rfl rfl ?_
      refine zr_i1 (x := i) (t := 58) (pc := 28) rfl rfl (by omega) (by omega) (fun (c12 : i < 0) => ?_) (fun (c12 : ¬ (i < 0)) => ?_)
      · refine zx_T.s (i := .iconst (-1)) (k := 1) (st' := [.int (zI ((-1)))]) (pc := 58) rfl rfl ?_
        exact zr_ir (x := (-1)) (pc := 59) rfl rfl rfl ⟨rfl, _, rfl, by dsimp only; omega⟩
      · refine zx_T.l (i := .iload_n 2) (k := 1) (v := .int (zI (i))) (pc := 31) rfl rfl rfl ?_
        refine zx_T.s (i := .bipush 8) (k := 2) (st' := [.int (zI (8)), .int (zI (i))]) (pc := 32) rfl rfl ?_
        refine zx_T.l (i := .aload_n 0) (k := 1) (v := .ref 0) (pc := 34) rfl rfl rfl ?_
        refine zw_gr (k := 2) (b := 16) (pc := 35) rfl rfl rfl hI ?_
        refine zx_T.l (i := .iload_n 1) (k := 1) (v := .int (zI (p))) (pc := 38) rfl rfl rfl ?_
        refine zw_iv (b := 16) (cj := 81) (q' := zp_m81) (As := [.int (zI (p))]) (rest := [.int (zI (8)), .int (zI (i))]) (pc := 39) rfl rfl rfl rfl rfl rfl rfl (Nat.le_of_ble_eq_true rfl) rfl (Nat.le_of_ble_eq_true rfl) hI ((zm_mDepthAt (h := h) hI (p := p) (by omega) (by omega)).up (Nat.le_of_ble_eq_true rfl)) ?_
        rintro r13 h16 ⟨h16q, v14, r13q, x15⟩
        subst h16q r13q
        try dsimp only at x15
        show zx_T zp_P 3 zp_m141 42 [(0, .ref 0), (1, .int (zI (p))), (2, .int (zI (i)))] [.int (zI (v14)), .int (zI (8)), .int (zI (i))] h _
        refine zr_add (x := 8) (y := v14) (e := v14 + 8) (pc := 42) rfl (by omega) ?_
        refine zr_i2 (x := i) (y := v14 + 8) (t := 58) (pc := 43) rfl rfl (by omega) (by omega) (by omega) (by omega) (fun (c17 : (v14 + 8) ≤ i) => ?_) (fun (c17 : ¬ ((v14 + 8) ≤ i)) => ?_)
        · refine zx_T.s (i := .iconst (-1)) (k := 1) (st' := [.int (zI ((-1)))]) (pc := 58) rfl rfl ?_
          exact zr_ir (x := (-1)) (pc := 59) rfl rfl rfl ⟨rfl, _, rfl, by dsimp only; omega⟩
        · refine zx_T.l (i := .aload_n 0) (k := 1) (v := .ref 0) (pc := 46) rfl rfl rfl ?_
          refine zw_gr (k := 2) (b := 16) (pc := 47) rfl rfl rfl hI ?_
          refine zx_T.l (i := .iload_n 1) (k := 1) (v := .int (zI (p))) (pc := 50) rfl rfl rfl ?_
          refine zx_T.l (i := .iload_n 2) (k := 1) (v := .int (zI (i))) (pc := 51) rfl rfl rfl ?_
          refine zw_iv (b := 16) (cj := 82) (q' := zp_m82) (As := [.int (zI (p)), .int (zI (i))]) (rest := []) (pc := 52) rfl rfl rfl rfl rfl rfl rfl (Nat.le_of_ble_eq_true rfl) rfl (Nat.le_of_ble_eq_true rfl) hI ((zm_mKindAt (h := h) hI (p := p) (i := i) (by omega) (by omega) (by omega) (by omega)).up (Nat.le_of_ble_eq_true rfl)) ?_
          rintro r18 h21 ⟨h21q, v19, r18q, x20⟩
          subst h21q r18q
          try dsimp only at x20
          show zx_T zp_P 3 zp_m141 55 [(0, .ref 0), (1, .int (zI (p))), (2, .int (zI (i)))] [.int (zI (v19))] h _
          refine zx_T.j (i := .goto 4) (k := 3) (pc' := 59) (st' := [.int (zI (v19))]) (pc := 55) rfl rfl rfl rfl rfl ?_
          exact zr_ir (x := v19) (pc := 59) rfl rfl rfl ⟨rfl, _, rfl, by dsimp only; omega⟩
    · refine zx_T.s (i := .bipush (-3)) (k := 2) (st' := [.int (zI ((-3)))]) (pc := 24) rfl rfl ?_
      exact zr_ir (x := (-3)) (pc := 26) rfl rfl rfl ⟨rfl, _, rfl, by dsimp only; omega⟩
  · refine zx_T.s (i := .bipush (-2)) (k := 2) (st' := [.int (zI ((-2)))]) (pc := 11) rfl rfl ?_
    exact zr_ir (x := (-2)) (pc := 13) rfl rfl rfl ⟨rfl, _, rfl, by dsimp only; omega⟩

set_option maxRecDepth 100000 in
set_option maxHeartbeats 4000000 in
theorem zm_cSizeX {h : zx_H} (hI : zb_I zc_H h) {p : Int} (p1 : -2147483648 ≤ p) (p2 : p ≤ 2147483647) : zx_T zp_P 3 zp_m142 0 [(0, .ref 0), (1, .int (zI (p)))] [] h (zr_P h (fun e => (¬ (0 ≤ p ∧ p < zv_f h 1 3) ∧ e = -2) ∨ ((0 ≤ p ∧ p < zv_f h 1 3) ∧ zv_f h 16 4 = 0 ∧ e = -3) ∨ ((0 ≤ p ∧ p < zv_f h 1 3) ∧ ¬ zv_f h 16 4 = 0 ∧ ¬ zv_a h 19 p = -1 ∧ e = zv_a h 19 p) ∨ ((0 ≤ p ∧ p < zv_f h 1 3) ∧ ¬ zv_f h 16 4 = 0 ∧ ¬ (¬ zv_a h 19 p = -1) ∧ e = -1))) := by
  have hC := zw_ri hI (a := 1) (k := 3) rfl
  have hH := zw_ri hI (a := 1) (k := 8) rfl
  have hD := zw_ri hI (a := 16) (k := 4) rfl
  refine zx_T.l (i := .aload_n 0) (k := 1) (v := .ref 0) (pc := 0) rfl rfl rfl ?_
  refine zw_gr (k := 0) (b := 1) (pc := 1) rfl rfl rfl hI ?_
  refine zx_T.l (i := .iload_n 1) (k := 1) (v := .int (zI (p))) (pc := 4) rfl rfl rfl ?_
  refine zw_iv (b := 1) (cj := 7) (q' := zp_m7) (As := [.int (zI (p))]) (rest := []) (pc := 5) rfl rfl rfl rfl rfl rfl rfl (Nat.le_of_ble_eq_true rfl) rfl (Nat.le_of_ble_eq_true rfl) hI ((zm_cHasPlace (h := h) hI (p := p) (by omega) (by omega)).up (Nat.le_of_ble_eq_true rfl)) ?_
  rintro r2 h5 ⟨h5q, v3, r2q, x4⟩
  subst h5q r2q
  try dsimp only at x4
  show zx_T zp_P 3 zp_m142 8 [(0, .ref 0), (1, .int (zI (p)))] [.int (zI (v3))] h _
  refine zr_i1 (x := v3) (t := 14) (pc := 8) rfl rfl (by omega) (by omega) (fun (c6 : ¬ v3 = 0) => ?_) (fun (c6 : ¬ (¬ v3 = 0)) => ?_)
  · refine zx_T.l (i := .aload_n 0) (k := 1) (v := .ref 0) (pc := 14) rfl rfl rfl ?_
    refine zw_gr (k := 2) (b := 16) (pc := 15) rfl rfl rfl hI ?_
    refine zw_iv (b := 16) (cj := 77) (q' := zp_m77) (As := []) (rest := []) (pc := 18) rfl rfl rfl rfl rfl rfl rfl (Nat.le_of_ble_eq_true rfl) rfl (Nat.le_of_ble_eq_true rfl) hI ((zm_mIsMade (h := h) hI  ).up (Nat.le_of_ble_eq_true rfl)) ?_
    rintro r7 h10 ⟨h10q, v8, r7q, x9⟩
    subst h10q r7q
    try dsimp only at x9
    show zx_T zp_P 3 zp_m142 21 [(0, .ref 0), (1, .int (zI (p)))] [.int (zI (v8))] h _
    refine zr_i1 (x := v8) (t := 35) (pc := 21) rfl rfl (by omega) (by omega) (fun (c11 : v8 = 0) => ?_) (fun (c11 : ¬ (v8 = 0)) => ?_)
    · refine zx_T.s (i := .bipush (-3)) (k := 2) (st' := [.int (zI ((-3)))]) (pc := 35) rfl rfl ?_
      exact zr_ir (x := (-3)) (pc := 37) rfl rfl rfl ⟨rfl, _, rfl, by dsimp only; omega⟩
    · refine zx_T.l (i := .aload_n 0) (k := 1) (v := .ref 0) (pc := 24) rfl rfl rfl ?_
      refine zw_gr (k := 2) (b := 16) (pc := 25) rfl rfl rfl hI ?_
      refine zx_T.l (i := .iload_n 1) (k := 1) (v := .int (zI (p))) (pc := 28) rfl rfl rfl ?_
      refine zw_iv (b := 16) (cj := 81) (q' := zp_m81) (As := [.int (zI (p))]) (rest := []) (pc := 29) rfl rfl rfl rfl rfl rfl rfl (Nat.le_of_ble_eq_true rfl) rfl (Nat.le_of_ble_eq_true rfl) hI ((zm_mDepthAt (h := h) hI (p := p) (by omega) (by omega)).up (Nat.le_of_ble_eq_true rfl)) ?_
      rintro r12 h15 ⟨h15q, v13, r12q, x14⟩
      subst h15q r12q
      try dsimp only at x14
      show zx_T zp_P 3 zp_m142 32 [(0, .ref 0), (1, .int (zI (p)))] [.int (zI (v13))] h _
      refine zx_T.j (i := .goto 5) (k := 3) (pc' := 37) (st' := [.int (zI (v13))]) (pc := 32) rfl rfl rfl rfl rfl ?_
      exact zr_ir (x := v13) (pc := 37) rfl rfl rfl ⟨rfl, _, rfl, by dsimp only; omega⟩
  · refine zx_T.s (i := .bipush (-2)) (k := 2) (st' := [.int (zI ((-2)))]) (pc := 11) rfl rfl ?_
    exact zr_ir (x := (-2)) (pc := 13) rfl rfl rfl ⟨rfl, _, rfl, by dsimp only; omega⟩

set_option maxRecDepth 100000 in
set_option maxHeartbeats 4000000 in
theorem zm_cCountX {h : zx_H} (hI : zb_I zc_H h) {w : Int} (w1 : -2147483648 ≤ w) (w2 : w ≤ 2147483647) : zx_T zp_P 3 zp_m151 0 [(0, .ref 0), (1, .int (zI (w)))] [] h (zr_P h (fun e => (w = 0 ∧ e = zv_f h 1 3) ∨ (w = 1 ∧ e = zv_f h 1 8) ∨ (w = 2 ∧ e = zv_f h 1 10) ∨ (w = 3 ∧ ((zv_f h 16 4 = 0 ∧ e = 0) ∨ (¬ zv_f h 16 4 = 0 ∧ e = zv_f h 10 3))) ∨ (w = 4 ∧ ((zv_f h 16 4 = 0 ∧ e = 0) ∨ (¬ zv_f h 16 4 = 0 ∧ e = zs_cn (fun p => zv_a h 19 p = -1) (zv_f h 1 3).toNat))) ∨ (w = 5 ∧ e = zv_f h 16 6) ∨ (¬ (0 ≤ w ∧ w ≤ 5) ∧ e = -2))) := by
  have hC := zw_ri hI (a := 1) (k := 3) rfl
  have hH := zw_ri hI (a := 1) (k := 8) rfl
  have hD := zw_ri hI (a := 16) (k := 4) rfl
  refine zx_T.l (i := .iload_n 1) (k := 1) (v := .int (zI (w))) (pc := 0) rfl rfl rfl ?_
  have c1 : w = 0 ∨ w = 1 ∨ w = 2 ∨ w = 3 ∨ w = 4 ∨ w = 5 ∨ (w < 0 ∨ 5 < w) := by omega
  rcases c1 with c1 | c1 | c1 | c1 | c1 | c1 | c1
  · refine zr_sw (i := .tableswitch 115 0 5 #[39, 47, 55, 63, 85, 107]) (len := 39) (t := 40) (x := w) (k := 0) (pc := 1) rfl c1 rfl rfl rfl rfl ?_
    refine zx_T.l (i := .aload_n 0) (k := 1) (v := .ref 0) (pc := 40) rfl rfl rfl ?_
    refine zw_gr (k := 0) (b := 1) (pc := 41) rfl rfl rfl hI ?_
    refine zw_iv (b := 1) (cj := 4) (q' := zp_m4) (As := []) (rest := []) (pc := 44) rfl rfl rfl rfl rfl rfl rfl (Nat.le_of_ble_eq_true rfl) rfl (Nat.le_of_ble_eq_true rfl) hI ((zm_cPlaces (h := h) hI  ).up (Nat.le_of_ble_eq_true rfl)) ?_
    rintro r2 h5 ⟨h5q, v3, r2q, x4⟩
    subst h5q r2q
    try dsimp only at x4
    show zx_T zp_P 3 zp_m151 47 [(0, .ref 0), (1, .int (zI (w)))] [.int (zI (v3))] h _
    exact zr_ir (x := v3) (pc := 47) rfl rfl rfl ⟨rfl, _, rfl, by dsimp only; exact Or.inl ⟨by omega, by omega⟩⟩
  · refine zr_sw (i := .tableswitch 115 0 5 #[39, 47, 55, 63, 85, 107]) (len := 39) (t := 48) (x := w) (k := 1) (pc := 1) rfl c1 rfl rfl rfl rfl ?_
    refine zx_T.l (i := .aload_n 0) (k := 1) (v := .ref 0) (pc := 48) rfl rfl rfl ?_
    refine zw_gr (k := 0) (b := 1) (pc := 49) rfl rfl rfl hI ?_
    refine zw_iv (b := 1) (cj := 5) (q' := zp_m5) (As := []) (rest := []) (pc := 52) rfl rfl rfl rfl rfl rfl rfl (Nat.le_of_ble_eq_true rfl) rfl (Nat.le_of_ble_eq_true rfl) hI ((zm_cHandlers (h := h) hI  ).up (Nat.le_of_ble_eq_true rfl)) ?_
    rintro r6 h9 ⟨h9q, v7, r6q, x8⟩
    subst h9q r6q
    try dsimp only at x8
    show zx_T zp_P 3 zp_m151 55 [(0, .ref 0), (1, .int (zI (w)))] [.int (zI (v7))] h _
    exact zr_ir (x := v7) (pc := 55) rfl rfl rfl ⟨rfl, _, rfl, by dsimp only; exact Or.inr (Or.inl ⟨by omega, by omega⟩)⟩
  · refine zr_sw (i := .tableswitch 115 0 5 #[39, 47, 55, 63, 85, 107]) (len := 39) (t := 56) (x := w) (k := 2) (pc := 1) rfl c1 rfl rfl rfl rfl ?_
    refine zx_T.l (i := .aload_n 0) (k := 1) (v := .ref 0) (pc := 56) rfl rfl rfl ?_
    refine zw_gr (k := 0) (b := 1) (pc := 57) rfl rfl rfl hI ?_
    refine zw_iv (b := 1) (cj := 6) (q' := zp_m6) (As := []) (rest := []) (pc := 60) rfl rfl rfl rfl rfl rfl rfl (Nat.le_of_ble_eq_true rfl) rfl (Nat.le_of_ble_eq_true rfl) hI ((zm_cFilled (h := h) hI  ).up (Nat.le_of_ble_eq_true rfl)) ?_
    rintro r10 h13 ⟨h13q, v11, r10q, x12⟩
    subst h13q r10q
    try dsimp only at x12
    show zx_T zp_P 3 zp_m151 63 [(0, .ref 0), (1, .int (zI (w)))] [.int (zI (v11))] h _
    exact zr_ir (x := v11) (pc := 63) rfl rfl rfl ⟨rfl, _, rfl, by dsimp only; exact Or.inr (Or.inr (Or.inl ⟨by omega, by omega⟩))⟩
  · refine zr_sw (i := .tableswitch 115 0 5 #[39, 47, 55, 63, 85, 107]) (len := 39) (t := 64) (x := w) (k := 3) (pc := 1) rfl c1 rfl rfl rfl rfl ?_
    refine zx_T.l (i := .aload_n 0) (k := 1) (v := .ref 0) (pc := 64) rfl rfl rfl ?_
    refine zw_gr (k := 2) (b := 16) (pc := 65) rfl rfl rfl hI ?_
    refine zw_iv (b := 16) (cj := 77) (q' := zp_m77) (As := []) (rest := []) (pc := 68) rfl rfl rfl rfl rfl rfl rfl (Nat.le_of_ble_eq_true rfl) rfl (Nat.le_of_ble_eq_true rfl) hI ((zm_mIsMade (h := h) hI  ).up (Nat.le_of_ble_eq_true rfl)) ?_
    rintro r14 h17 ⟨h17q, v15, r14q, x16⟩
    subst h17q r14q
    try dsimp only at x16
    show zx_T zp_P 3 zp_m151 71 [(0, .ref 0), (1, .int (zI (w)))] [.int (zI (v15))] h _
    refine zr_i1 (x := v15) (t := 84) (pc := 71) rfl rfl (by omega) (by omega) (fun (c18 : v15 = 0) => ?_) (fun (c18 : ¬ (v15 = 0)) => ?_)
    · refine zx_T.s (i := .iconst 0) (k := 1) (st' := [.int (zI (0))]) (pc := 84) rfl rfl ?_
      exact zr_ir (x := 0) (pc := 85) rfl rfl rfl ⟨rfl, _, rfl, by dsimp only; exact Or.inr (Or.inr (Or.inr (Or.inl ⟨by omega, by first | exact Or.inl ⟨by omega, by omega⟩ | exact Or.inr ⟨by omega, by omega⟩⟩)))⟩
    · refine zx_T.l (i := .aload_n 0) (k := 1) (v := .ref 0) (pc := 74) rfl rfl rfl ?_
      refine zw_gr (k := 1) (b := 10) (pc := 75) rfl rfl rfl hI ?_
      refine zw_iv (b := 10) (cj := 30) (q' := zp_m30) (As := []) (rest := []) (pc := 78) rfl rfl rfl rfl rfl rfl rfl (Nat.le_of_ble_eq_true rfl) rfl (Nat.le_of_ble_eq_true rfl) hI ((zm_fHowMany (h := h) hI  ).up (Nat.le_of_ble_eq_true rfl)) ?_
      rintro r19 h22 ⟨h22q, v20, r19q, x21⟩
      subst h22q r19q
      try dsimp only at x21
      show zx_T zp_P 3 zp_m151 81 [(0, .ref 0), (1, .int (zI (w)))] [.int (zI (v20))] h _
      refine zx_T.j (i := .goto 4) (k := 3) (pc' := 85) (st' := [.int (zI (v20))]) (pc := 81) rfl rfl rfl rfl rfl ?_
      exact zr_ir (x := v20) (pc := 85) rfl rfl rfl ⟨rfl, _, rfl, by dsimp only; exact Or.inr (Or.inr (Or.inr (Or.inl ⟨by omega, by first | exact Or.inl ⟨by omega, by omega⟩ | exact Or.inr ⟨by omega, by omega⟩⟩)))⟩
  · refine zr_sw (i := .tableswitch 115 0 5 #[39, 47, 55, 63, 85, 107]) (len := 39) (t := 86) (x := w) (k := 4) (pc := 1) rfl c1 rfl rfl rfl rfl ?_
    refine zx_T.l (i := .aload_n 0) (k := 1) (v := .ref 0) (pc := 86) rfl rfl rfl ?_
    refine zw_gr (k := 2) (b := 16) (pc := 87) rfl rfl rfl hI ?_
    refine zw_iv (b := 16) (cj := 77) (q' := zp_m77) (As := []) (rest := []) (pc := 90) rfl rfl rfl rfl rfl rfl rfl (Nat.le_of_ble_eq_true rfl) rfl (Nat.le_of_ble_eq_true rfl) hI ((zm_mIsMade (h := h) hI  ).up (Nat.le_of_ble_eq_true rfl)) ?_
    rintro r23 h26 ⟨h26q, v24, r23q, x25⟩
    subst h26q r23q
    try dsimp only at x25
    show zx_T zp_P 3 zp_m151 93 [(0, .ref 0), (1, .int (zI (w)))] [.int (zI (v24))] h _
    refine zr_i1 (x := v24) (t := 106) (pc := 93) rfl rfl (by omega) (by omega) (fun (c27 : v24 = 0) => ?_) (fun (c27 : ¬ (v24 = 0)) => ?_)
    · refine zx_T.s (i := .iconst 0) (k := 1) (st' := [.int (zI (0))]) (pc := 106) rfl rfl ?_
      exact zr_ir (x := 0) (pc := 107) rfl rfl rfl ⟨rfl, _, rfl, by dsimp only; exact Or.inr (Or.inr (Or.inr (Or.inr (Or.inl ⟨by omega, by first | exact Or.inl ⟨by omega, by omega⟩ | exact Or.inr ⟨by omega, by omega⟩⟩))))⟩
    · refine zx_T.l (i := .aload_n 0) (k := 1) (v := .ref 0) (pc := 96) rfl rfl rfl ?_
      refine zw_gr (k := 2) (b := 16) (pc := 97) rfl rfl rfl hI ?_
      refine zw_iv (b := 16) (cj := 84) (q' := zp_m84) (As := []) (rest := []) (pc := 100) rfl rfl rfl rfl rfl rfl rfl (Nat.le_of_ble_eq_true rfl) rfl (Nat.le_of_ble_eq_true rfl) hI ((zm_mDead (h := h) hI  ).up (Nat.le_of_ble_eq_true rfl)) ?_
      rintro r28 h31 ⟨h31q, v29, r28q, x30⟩
      subst h31q r28q
      try dsimp only at x30
      show zx_T zp_P 3 zp_m151 103 [(0, .ref 0), (1, .int (zI (w)))] [.int (zI (v29))] h _
      refine zx_T.j (i := .goto 4) (k := 3) (pc' := 107) (st' := [.int (zI (v29))]) (pc := 103) rfl rfl rfl rfl rfl ?_
      exact zr_ir (x := v29) (pc := 107) rfl rfl rfl ⟨rfl, _, rfl, by dsimp only; exact Or.inr (Or.inr (Or.inr (Or.inr (Or.inl ⟨by omega, by first | exact Or.inl ⟨by omega, by omega⟩ | exact Or.inr ⟨by omega, by omega⟩⟩))))⟩
  · refine zr_sw (i := .tableswitch 115 0 5 #[39, 47, 55, 63, 85, 107]) (len := 39) (t := 108) (x := w) (k := 5) (pc := 1) rfl c1 rfl rfl rfl rfl ?_
    refine zx_T.l (i := .aload_n 0) (k := 1) (v := .ref 0) (pc := 108) rfl rfl rfl ?_
    refine zw_gr (k := 2) (b := 16) (pc := 109) rfl rfl rfl hI ?_
    refine zw_iv (b := 16) (cj := 79) (q' := zp_m79) (As := []) (rest := []) (pc := 112) rfl rfl rfl rfl rfl rfl rfl (Nat.le_of_ble_eq_true rfl) rfl (Nat.le_of_ble_eq_true rfl) hI ((zm_mRounds (h := h) hI  ).up (Nat.le_of_ble_eq_true rfl)) ?_
    rintro r32 h35 ⟨h35q, v33, r32q, x34⟩
    subst h35q r32q
    try dsimp only at x34
    show zx_T zp_P 3 zp_m151 115 [(0, .ref 0), (1, .int (zI (w)))] [.int (zI (v33))] h _
    exact zr_ir (x := v33) (pc := 115) rfl rfl rfl ⟨rfl, _, rfl, by dsimp only; exact Or.inr (Or.inr (Or.inr (Or.inr (Or.inr (Or.inl ⟨by omega, by omega⟩)))))⟩
  · refine zw_swd (t := 116) (x := w) (pc := 1) rfl c1 (by omega) (by omega) rfl ?_
    refine zx_T.s (i := .bipush (-2)) (k := 2) (st' := [.int (zI ((-2)))]) (pc := 116) rfl rfl ?_
    exact zr_ir (x := (-2)) (pc := 118) rfl rfl rfl ⟨rfl, _, rfl, by dsimp only; exact Or.inr (Or.inr (Or.inr (Or.inr (Or.inr (Or.inr (⟨by omega, by omega⟩))))))⟩
