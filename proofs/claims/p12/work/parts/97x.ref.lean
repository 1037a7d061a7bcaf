/-! ===== 97x: the reference, method by method (by program) ===== -/
set_option maxRecDepth 100000 in
set_option maxHeartbeats 4000000 in
theorem zm_plantX {h : zx_H} (hI : zb_I zc_H h) {f : Int} {i : Int} {k : Int} (f1 : -2147483648 ≤ f) (f2 : f ≤ 2147483647) (i1 : -2147483648 ≤ i) (i2 : i ≤ 2147483647) (k1 : -2147483648 ≤ k) (k2 : k ≤ 2147483647) : zx_T zp_P 1 zp_m203 0 [(0, .ref 44), (1, .int (zI (f))), (2, .int (zI (i))), (3, .int (zI (k)))] [] h (zr_R [(44, 0), (60, 0)] h (fun e h' => (((0 ≤ k ∧ k ≤ 8) ∧ ¬ zv_i h 13 = 0 ∧ (0 ≤ f ∧ f < zv_i h 19) ∧ 0 ≤ i ∧ i < zv_a h 58 f + zv_a h 59 f) ∧ ∀ q, 0 ≤ q → zv_a h' 60 q = if q = 14 * f + i then k else zv_a h 60 q) ∨ (¬ ((0 ≤ k ∧ k ≤ 8) ∧ ¬ zv_i h 13 = 0 ∧ (0 ≤ f ∧ f < zv_i h 19) ∧ 0 ≤ i ∧ i < zv_a h 58 f + zv_a h 59 f) ∧ ∀ q, 0 ≤ q → zv_a h' 60 q = zv_a h 60 q))) := by
  have hM9 := zv_ri hI (k := 13) rfl
  have hF9 := zv_ri hI (k := 19) rfl
  refine zx_T.l (i := .aload_n 0) (k := 1) (v := .ref 44) (pc := 0) rfl rfl rfl ?_
  refine zx_T.s (i := .iconst 0) (k := 1) (st' := [.int (zI (0)), .ref 44]) (pc := 1) rfl rfl ?_
  refine zr_pi (k := 0) (lo := (-2147483648)) (hi := 2147483647) (e := 0) (pc := 2) rfl rfl rfl rfl rfl rfl hI (by omega) (by omega) (fun h1 ih1 w2 e3 => ?_)
  refine zx_T.l (i := .iload_n 3) (k := 1) (v := .int (zI (k))) (pc := 5) rfl rfl rfl ?_
  refine zx_T.s (i := .iconst 0) (k := 1) (st' := [.int (zI (0)), .int (zI (k))]) (pc := 6) rfl rfl ?_
  refine zx_T.s (i := .bipush 8) (k := 2) (st' := [.int (zI (8)), .int (zI (0)), .int (zI (k))]) (pc := 7) rfl rfl ?_
  refine zr_is (cj := 155) (q' := zp_m155) (As := [.int (zI (k)), .int (zI (0)), .int (zI (8))]) (rest := []) (pc := 9) rfl rfl rfl rfl rfl rfl (Nat.le_of_ble_eq_true rfl) rfl (Nat.le_of_ble_eq_true rfl) rfl ((zm_in (h := h1) ih1 (v := k) (l := 0) (u := 8) (by omega) (by omega) (by omega) (by omega) (by omega) (by omega)).up (Nat.le_of_ble_eq_true rfl)) ?_
  rintro r4 h7 ⟨h7q, v5, r4q, x6⟩
  subst h7q r4q
  try dsimp only at x6
  show zx_T zp_P 1 zp_m203 12 [(0, .ref 44), (1, .int (zI (f))), (2, .int (zI (i))), (3, .int (zI (k)))] [.int (zI (v5))] h1 _
  refine zr_i1 (x := v5) (t := 18) (pc := 12) rfl rfl (by omega) (by omega) (fun (c8 : ¬ v5 = 0) => ?_) (fun (c8 : ¬ (¬ v5 = 0)) => ?_)
  · refine zx_T.l (i := .aload_n 0) (k := 1) (v := .ref 44) (pc := 18) rfl rfl rfl ?_
    refine zr_gi (k := 13) (lo := 0) (hi := 1) (e := zv_i h 13) (pc := 19) rfl rfl rfl ih1 (zv_wi w2 rfl) (fun g9a g9b => ?_)
    refine zr_i1 (x := zv_i h 13) (t := 28) (pc := 22) rfl rfl (by omega) (by omega) (fun (c10 : ¬ (zv_i h 13) = 0) => ?_) (fun (c10 : ¬ (¬ (zv_i h 13) = 0)) => ?_)
    · refine zx_T.l (i := .iload_n 1) (k := 1) (v := .int (zI (f))) (pc := 28) rfl rfl rfl ?_
      refine zx_T.s (i := .iconst 0) (k := 1) (st' := [.int (zI (0)), .int (zI (f))]) (pc := 29) rfl rfl ?_
      refine zx_T.l (i := .aload_n 0) (k := 1) (v := .ref 44) (pc := 30) rfl rfl rfl ?_
      refine zr_gi (k := 19) (lo := 0) (hi := 60) (e := zv_i h 19) (pc := 31) rfl rfl rfl ih1 (zv_wi w2 rfl) (fun g11a g11b => ?_)
      refine zx_T.s (i := .iconst 1) (k := 1) (st' := [.int (zI (1)), .int (zI (zv_i h 19)), .int (zI (0)), .int (zI (f))]) (pc := 34) rfl rfl ?_
      refine zr_sub (x := zv_i h 19) (y := 1) (e := zv_i h 19 - 1) (pc := 35) rfl (by omega) ?_
      refine zr_is (cj := 155) (q' := zp_m155) (As := [.int (zI (f)), .int (zI (0)), .int (zI (zv_i h 19 - 1))]) (rest := []) (pc := 36) rfl rfl rfl rfl rfl rfl (Nat.le_of_ble_eq_true rfl) rfl (Nat.le_of_ble_eq_true rfl) rfl ((zm_in (h := h1) ih1 (v := f) (l := 0) (u := zv_i h 19 - 1) (by omega) (by omega) (by omega) (by omega) (by omega) (by omega)).up (Nat.le_of_ble_eq_true rfl)) ?_
      rintro r12 h15 ⟨h15q, v13, r12q, x14⟩
      subst h15q r12q
      try dsimp only at x14
      show zx_T zp_P 1 zp_m203 39 [(0, .ref 44), (1, .int (zI (f))), (2, .int (zI (i))), (3, .int (zI (k)))] [.int (zI (v13))] h1 _
      refine zr_i1 (x := v13) (t := 65) (pc := 39) rfl rfl (by omega) (by omega) (fun (c16 : v13 = 0) => ?_) (fun (c16 : ¬ (v13 = 0)) => ?_)
      · refine zx_T.s (i := .bipush (-2)) (k := 2) (st' := [.int (zI ((-2)))]) (pc := 65) rfl rfl ?_
        have a60 : ∀ j, 0 ≤ j → zv_a h1 60 j = zv_a h 60 j := fun j hj => by rw [zv_wa w2 rfl j]
        exact zr_ir (x := (-2)) (pc := 67) rfl rfl rfl ⟨ih1, (w2.wd rfl : zb_W [(44, 0), (60, 0)] h _), _, rfl, by dsimp only; exact Or.inr ⟨by omega, fun q q0 => by rw [a60 q q0]⟩⟩
      · refine zx_T.l (i := .iload_n 2) (k := 1) (v := .int (zI (i))) (pc := 42) rfl rfl rfl ?_
        refine zx_T.s (i := .iconst 0) (k := 1) (st' := [.int (zI (0)), .int (zI (i))]) (pc := 43) rfl rfl ?_
        refine zx_T.l (i := .aload_n 0) (k := 1) (v := .ref 44) (pc := 44) rfl rfl rfl ?_
        refine zr_gr (k := 21) (b := 58) (pc := 45) rfl rfl rfl ih1 ?_
        refine zx_T.l (i := .iload_n 1) (k := 1) (v := .int (zI (f))) (pc := 48) rfl rfl rfl ?_
        refine zr_al (n := 60) (lo := 0) (hi := 8) (e := zv_a h 58 f) (pc := 49) rfl rfl rfl ih1 (by omega) (by omega) (zv_wa w2 rfl f) (fun g18a g18b => ?_)
        refine zx_T.l (i := .aload_n 0) (k := 1) (v := .ref 44) (pc := 50) rfl rfl rfl ?_
        refine zr_gr (k := 22) (b := 59) (pc := 51) rfl rfl rfl ih1 ?_
        refine zx_T.l (i := .iload_n 1) (k := 1) (v := .int (zI (f))) (pc := 54) rfl rfl rfl ?_
        refine zr_al (n := 60) (lo := 0) (hi := 6) (e := zv_a h 59 f) (pc := 55) rfl rfl rfl ih1 (by omega) (by omega) (zv_wa w2 rfl f) (fun g19a g19b => ?_)
        refine zr_add (x := zv_a h 58 f) (y := zv_a h 59 f) (e := zv_a h 58 f + zv_a h 59 f) (pc := 56) rfl (by omega) ?_
        refine zx_T.s (i := .iconst 1) (k := 1) (st' := [.int (zI (1)), .int (zI (zv_a h 58 f + zv_a h 59 f)), .int (zI (0)), .int (zI (i))]) (pc := 57) rfl rfl ?_
        refine zr_sub (x := zv_a h 58 f + zv_a h 59 f) (y := 1) (e := zv_a h 58 f + zv_a h 59 f - 1) (pc := 58) rfl (by omega) ?_
        refine zr_is (cj := 155) (q' := zp_m155) (As := [.int (zI (i)), .int (zI (0)), .int (zI (zv_a h 58 f + zv_a h 59 f - 1))]) (rest := []) (pc := 59) rfl rfl rfl rfl rfl rfl (Nat.le_of_ble_eq_true rfl) rfl (Nat.le_of_ble_eq_true rfl) rfl ((zm_in (h := h1) ih1 (v := i) (l := 0) (u := zv_a h 58 f + zv_a h 59 f - 1) (by omega) (by omega) (by omega) (by omega) (by omega) (by omega)).up (Nat.le_of_ble_eq_true rfl)) ?_
        rintro r20 h23 ⟨h23q, v21, r20q, x22⟩
        subst h23q r20q
        try dsimp only at x22
        show zx_T zp_P 1 zp_m203 62 [(0, .ref 44), (1, .int (zI (f))), (2, .int (zI (i))), (3, .int (zI (k)))] [.int (zI (v21))] h1 _
        refine zr_i1 (x := v21) (t := 68) (pc := 62) rfl rfl (by omega) (by omega) (fun (c24 : ¬ v21 = 0) => ?_) (fun (c24 : ¬ (¬ v21 = 0)) => ?_)
        · refine zx_T.l (i := .aload_n 0) (k := 1) (v := .ref 44) (pc := 68) rfl rfl rfl ?_
          refine zr_gr (k := 23) (b := 60) (pc := 69) rfl rfl rfl ih1 ?_
          refine zx_T.s (i := .bipush 14) (k := 2) (st' := [.int (zI (14)), .ref 60]) (pc := 72) rfl rfl ?_
          refine zx_T.l (i := .iload_n 1) (k := 1) (v := .int (zI (f))) (pc := 74) rfl rfl rfl ?_
          refine zr_mul (x := 14) (y := f) (e := 14 * f) (pc := 75) rfl (by omega) ?_
          refine zx_T.l (i := .iload_n 2) (k := 1) (v := .int (zI (i))) (pc := 76) rfl rfl rfl ?_
          refine zr_add (x := 14 * f) (y := i) (e := 14 * f + i) (pc := 77) rfl (by omega) ?_
          refine zr_al (n := 840) (lo := 0) (hi := 8) (e := zv_a h 60 (14 * f + i)) (pc := 78) rfl rfl rfl ih1 (by omega) (by omega) (zv_wa w2 rfl (14 * f + i)) (fun g25a g25b => ?_)
          refine zx_T.t (i := .istore 4) (k := 2) (ls' := [(4, .int (zI (zv_a h 60 (14 * f + i)))), (0, .ref 44), (1, .int (zI (f))), (2, .int (zI (i))), (3, .int (zI (k)))]) (st' := []) (pc := 79) rfl rfl rfl rfl ?_
          refine zx_T.l (i := .aload_n 0) (k := 1) (v := .ref 44) (pc := 81) rfl rfl rfl ?_
          refine zr_gr (k := 23) (b := 60) (pc := 82) rfl rfl rfl ih1 ?_
          refine zx_T.s (i := .bipush 14) (k := 2) (st' := [.int (zI (14)), .ref 60]) (pc := 85) rfl rfl ?_
          refine zx_T.l (i := .iload_n 1) (k := 1) (v := .int (zI (f))) (pc := 87) rfl rfl rfl ?_
          refine zr_mul (x := 14) (y := f) (e := 14 * f) (pc := 88) rfl (by omega) ?_
          refine zx_T.l (i := .iload_n 2) (k := 1) (v := .int (zI (i))) (pc := 89) rfl rfl rfl ?_
          refine zr_add (x := 14 * f) (y := i) (e := 14 * f + i) (pc := 90) rfl (by omega) ?_
          refine zx_T.l (i := .iload_n 3) (k := 1) (v := .int (zI (k))) (pc := 91) rfl rfl rfl ?_
          refine zr_as (n := 840) (lo := 0) (hi := 8) (e := k) (pc := 92) rfl rfl rfl rfl ih1 (by omega) (by omega) (by omega) (by omega) (fun h26 ih26 w27 s28 => ?_)
          refine zx_T.l (i := .iload 4) (k := 2) (v := .int (zI (zv_a h 60 (14 * f + i)))) (pc := 93) rfl rfl rfl ?_
          have a60 : ∀ j, 0 ≤ j → zv_a h26 60 j = if j = 14 * f + i then k else zv_a h 60 j := fun j hj => by rw [s28 j hj, zv_wa w2 rfl j]
          exact zr_ir (x := zv_a h 60 (14 * f + i)) (pc := 95) rfl rfl rfl ⟨ih26, ((w2.wd rfl : zb_W [(44, 0), (60, 0)] h _).tr (w27.wd rfl)), _, rfl, by dsimp only; exact Or.inl ⟨by omega, fun q q0 => by rw [a60 q q0]⟩⟩
        · refine zx_T.s (i := .bipush (-2)) (k := 2) (st' := [.int (zI ((-2)))]) (pc := 65) rfl rfl ?_
          have a60 : ∀ j, 0 ≤ j → zv_a h1 60 j = zv_a h 60 j := fun j hj => by rw [zv_wa w2 rfl j]
          exact zr_ir (x := (-2)) (pc := 67) rfl rfl rfl ⟨ih1, (w2.wd rfl : zb_W [(44, 0), (60, 0)] h _), _, rfl, by dsimp only; exact Or.inr ⟨by omega, fun q q0 => by rw [a60 q q0]⟩⟩
    · refine zx_T.s (i := .bipush (-3)) (k := 2) (st' := [.int (zI ((-3)))]) (pc := 25) rfl rfl ?_
      have a60 : ∀ j, 0 ≤ j → zv_a h1 60 j = zv_a h 60 j := fun j hj => by rw [zv_wa w2 rfl j]
      exact zr_ir (x := (-3)) (pc := 27) rfl rfl rfl ⟨ih1, (w2.wd rfl : zb_W [(44, 0), (60, 0)] h _), _, rfl, by dsimp only; exact Or.inr ⟨by omega, fun q q0 => by rw [a60 q q0]⟩⟩
  · refine zx_T.s (i := .bipush (-2)) (k := 2) (st' := [.int (zI ((-2)))]) (pc := 15) rfl rfl ?_
    have a60 : ∀ j, 0 ≤ j → zv_a h1 60 j = zv_a h 60 j := fun j hj => by rw [zv_wa w2 rfl j]
    exact zr_ir (x := (-2)) (pc := 17) rfl rfl rfl ⟨ih1, (w2.wd rfl : zb_W [(44, 0), (60, 0)] h _), _, rfl, by dsimp only; exact Or.inr ⟨by omega, fun q q0 => by rw [a60 q q0]⟩⟩

set_option maxRecDepth 100000 in
set_option maxHeartbeats 4000000 in
theorem zm_fHasG {h : zx_H} (hI : zb_I zc_H h) {f : Int} (f1 : -2147483648 ≤ f) (f2 : f ≤ 2147483647) : zx_T zp_P 0 zp_m31 0 [(0, .ref 10), (1, .int (zI (f)))] [] h (zr_P h (fun e => (e = 1 ∧ 0 ≤ f ∧ f < zv_f h 10 3) ∨ (e = 0 ∧ ¬ (0 ≤ f ∧ f < zv_f h 10 3)))) := by
  have hM := zw_ri hI (a := 10) (k := 3) rfl
  refine zx_T.l (i := .iload_n 1) (k := 1) (v := .int (zI (f))) (pc := 0) rfl rfl rfl ?_
  refine zr_i1 (x := f) (t := 16) (pc := 1) rfl rfl (by omega) (by omega) (fun (c1 : f < 0) => ?_) (fun (c1 : ¬ (f < 0)) => ?_)
  · refine zx_T.s (i := .iconst 0) (k := 1) (st' := [.int (zI (0))]) (pc := 16) rfl rfl ?_
    exact zr_ir (x := 0) (pc := 17) rfl rfl (zr_nb (by omega) (by omega)) ⟨rfl, _, rfl, by dsimp only; omega⟩
  · refine zx_T.l (i := .iload_n 1) (k := 1) (v := .int (zI (f))) (pc := 4) rfl rfl rfl ?_
    refine zx_T.l (i := .aload_n 0) (k := 1) (v := .ref 10) (pc := 5) rfl rfl rfl ?_
    refine zw_gi (k := 3) (lo := 0) (hi := 60) (e := zv_f h 10 3) (pc := 6) rfl rfl rfl hI rfl (fun g2a g2b => ?_)
    refine zr_i2 (x := f) (y := zv_f h 10 3) (t := 16) (pc := 9) rfl rfl (by omega) (by omega) (by omega) (by omega) (fun (c3 : (zv_f h 10 3) ≤ f) => ?_) (fun (c3 : ¬ ((zv_f h 10 3) ≤ f)) => ?_)
    · refine zx_T.s (i := .iconst 0) (k := 1) (st' := [.int (zI (0))]) (pc := 16) rfl rfl ?_
      exact zr_ir (x := 0) (pc := 17) rfl rfl (zr_nb (by omega) (by omega)) ⟨rfl, _, rfl, by dsimp only; omega⟩
    · refine zx_T.s (i := .iconst 1) (k := 1) (st' := [.int (zI (1))]) (pc := 12) rfl rfl ?_
      refine zx_T.j (i := .goto 4) (k := 3) (pc' := 17) (st' := [.int (zI (1))]) (pc := 13) rfl rfl rfl rfl rfl ?_
      exact zr_ir (x := 1) (pc := 17) rfl rfl (zr_nb (by omega) (by omega)) ⟨rfl, _, rfl, by dsimp only; omega⟩

set_option maxRecDepth 100000 in
set_option maxHeartbeats 4000000 in
theorem zm_fLocalsOf {h : zx_H} (hI : zb_I zc_H h) {f : Int} (f1 : 0 ≤ f) (f2 : f < zv_f h 10 3) : zx_T zp_P 1 zp_m33 0 [(0, .ref 10), (1, .int (zI (f)))] [] h (zr_P h (fun e => e = zv_a h 15 f ∧ (-2147483648) ≤ e ∧ e ≤ 2147483647)) := by
  have hM := zw_ri hI (a := 10) (k := 3) rfl
  refine zx_T.l (i := .aload_n 0) (k := 1) (v := .ref 10) (pc := 0) rfl rfl rfl ?_
  refine zx_T.l (i := .iload_n 1) (k := 1) (v := .int (zI (f))) (pc := 1) rfl rfl rfl ?_
  refine zw_iv (b := 10) (cj := 31) (q' := zp_m31) (As := [.int (zI (f))]) (rest := []) (pc := 2) rfl rfl rfl rfl rfl rfl rfl (Nat.le_of_ble_eq_true rfl) rfl (Nat.le_of_ble_eq_true rfl) hI ((zm_fHasG (h := h) hI (f := f) (by omega) (by omega)).up (Nat.le_of_ble_eq_true rfl)) ?_
  rintro r1 h4 ⟨h4q, v2, r1q, x3⟩
  subst h4q r1q
  try dsimp only at x3
  show zx_T zp_P 1 zp_m33 5 [(0, .ref 10), (1, .int (zI (f)))] [.int (zI (v2))] h _
  refine zr_i1 (x := v2) (t := 17) (pc := 5) rfl rfl (by omega) (by omega) (fun (c5 : v2 = 0) => ?_) (fun (c5 : ¬ (v2 = 0)) => ?_)
  · refine zx_T.s (i := .iconst 0) (k := 1) (st' := [.int (zI (0))]) (pc := 17) rfl rfl ?_
    exact zr_ir (x := 0) (pc := 18) rfl rfl rfl ⟨rfl, _, rfl, by dsimp only; omega⟩
  · refine zx_T.l (i := .aload_n 0) (k := 1) (v := .ref 10) (pc := 8) rfl rfl rfl ?_
    refine zw_gr (k := 2) (b := 15) (pc := 9) rfl rfl rfl hI ?_
    refine zx_T.l (i := .iload_n 1) (k := 1) (v := .int (zI (f))) (pc := 12) rfl rfl rfl ?_
    refine zr_al (n := 60) (lo := (-2147483648)) (hi := 2147483647) (e := zv_a h 15 f) (pc := 13) rfl rfl rfl hI (by omega) (by omega) rfl (fun g6a g6b => ?_)
    refine zx_T.j (i := .goto 4) (k := 3) (pc' := 18) (st' := [.int (zI (zv_a h 15 f))]) (pc := 14) rfl rfl rfl rfl rfl ?_
    exact zr_ir (x := zv_a h 15 f) (pc := 18) rfl rfl rfl ⟨rfl, _, rfl, by dsimp only; omega⟩

set_option maxRecDepth 100000 in
set_option maxHeartbeats 4000000 in
theorem zm_fStackOf {h : zx_H} (hI : zb_I zc_H h) {f : Int} (f1 : 0 ≤ f) (f2 : f < zv_f h 10 3) : zx_T zp_P 2 zp_m34 0 [(0, .ref 10), (1, .int (zI (f)))] [] h (zr_P h (fun e => e = zv_a h 13 f ∧ (-2147483648) ≤ e ∧ e ≤ 2147483647)) := by
  have hM := zw_ri hI (a := 10) (k := 3) rfl
  refine zx_T.l (i := .aload_n 0) (k := 1) (v := .ref 10) (pc := 0) rfl rfl rfl ?_
  refine zx_T.l (i := .iload_n 1) (k := 1) (v := .int (zI (f))) (pc := 1) rfl rfl rfl ?_
  refine zw_iv (b := 10) (cj := 31) (q' := zp_m31) (As := [.int (zI (f))]) (rest := []) (pc := 2) rfl rfl rfl rfl rfl rfl rfl (Nat.le_of_ble_eq_true rfl) rfl (Nat.le_of_ble_eq_true rfl) hI ((zm_fHasG (h := h) hI (f := f) (by omega) (by omega)).up (Nat.le_of_ble_eq_true rfl)) ?_
  rintro r1 h4 ⟨h4q, v2, r1q, x3⟩
  subst h4q r1q
  try dsimp only at x3
  show zx_T zp_P 2 zp_m34 5 [(0, .ref 10), (1, .int (zI (f)))] [.int (zI (v2))] h _
  refine zr_i1 (x := v2) (t := 19) (pc := 5) rfl rfl (by omega) (by omega) (fun (c5 : v2 = 0) => ?_) (fun (c5 : ¬ (v2 = 0)) => ?_)
  · refine zx_T.s (i := .iconst 0) (k := 1) (st' := [.int (zI (0))]) (pc := 19) rfl rfl ?_
    exact zr_ir (x := 0) (pc := 20) rfl rfl rfl ⟨rfl, _, rfl, by dsimp only; omega⟩
  · refine zx_T.l (i := .aload_n 0) (k := 1) (v := .ref 10) (pc := 8) rfl rfl rfl ?_
    refine zw_gr (k := 0) (b := 11) (pc := 9) rfl rfl rfl hI ?_
    refine zx_T.l (i := .iload_n 1) (k := 1) (v := .int (zI (f))) (pc := 12) rfl rfl rfl ?_
    refine zw_iv (b := 11) (cj := 130) (q' := zp_m130) (As := [.int (zI (f))]) (rest := []) (pc := 13) rfl rfl rfl rfl rfl rfl rfl (Nat.le_of_ble_eq_true rfl) rfl (Nat.le_of_ble_eq_true rfl) hI ((zm_tDepthOf_11 (h := h) hI (r := f) (by omega) (by omega)).up (Nat.le_of_ble_eq_true rfl)) ?_
    rintro r6 h9 ⟨h9q, v7, r6q, x8⟩
    subst h9q r6q
    try dsimp only at x8
    show zx_T zp_P 2 zp_m34 16 [(0, .ref 10), (1, .int (zI (f)))] [.int (zI (v7))] h _
    refine zx_T.j (i := .goto 4) (k := 3) (pc' := 20) (st' := [.int (zI (v7))]) (pc := 16) rfl rfl rfl rfl rfl ?_
    exact zr_ir (x := v7) (pc := 20) rfl rfl rfl ⟨rfl, _, rfl, by dsimp only; omega⟩

set_option maxRecDepth 100000 in
set_option maxHeartbeats 4000000 in
theorem zm_fHasEntry {h : zx_H} (hI : zb_I zc_H h) {f : Int} {i : Int} (f1 : -2147483648 ≤ f) (f2 : f ≤ 2147483647) (i1 : -2147483648 ≤ i) (i2 : i ≤ 2147483647) (lr : 0 ≤ f → f < zv_f h 10 3 → (0 ≤ zv_a h 15 f ∧ zv_a h 15 f ≤ 8) ∧ 0 ≤ zv_a h 13 f ∧ zv_a h 13 f ≤ 6) : zx_T zp_P 3 zp_m40 0 [(0, .ref 10), (1, .int (zI (f))), (2, .int (zI (i)))] [] h (zr_P h (fun e => (e = 1 ∧ ((0 ≤ f ∧ f < zv_f h 10 3) ∧ 0 ≤ i ∧ i < zv_a h 15 f + zv_a h 13 f)) ∨ (e = 0 ∧ ¬ ((0 ≤ f ∧ f < zv_f h 10 3) ∧ 0 ≤ i ∧ i < zv_a h 15 f + zv_a h 13 f)))) := by
  have hM := zw_ri hI (a := 10) (k := 3) rfl
  refine zx_T.l (i := .aload_n 0) (k := 1) (v := .ref 10) (pc := 0) rfl rfl rfl ?_
  refine zx_T.l (i := .iload_n 1) (k := 1) (v := .int (zI (f))) (pc := 1) rfl rfl rfl ?_
  refine zw_iv (b := 10) (cj := 31) (q' := zp_m31) (As := [.int (zI (f))]) (rest := []) (pc := 2) rfl rfl rfl rfl rfl rfl rfl (Nat.le_of_ble_eq_true rfl) rfl (Nat.le_of_ble_eq_true rfl) hI ((zm_fHasG (h := h) hI (f := f) (by omega) (by omega)).up (Nat.le_of_ble_eq_true rfl)) ?_
  rintro r1 h4 ⟨h4q, v2, r1q, x3⟩
  subst h4q r1q
  try dsimp only at x3
  show zx_T zp_P 3 zp_m40 5 [(0, .ref 10), (1, .int (zI (f))), (2, .int (zI (i)))] [.int (zI (v2))] h _
  refine zr_i1 (x := v2) (t := 31) (pc := 5) rfl rfl (by omega) (by omega) (fun (c5 : v2 = 0) => ?_) (fun (c5 : ¬ (v2 = 0)) => ?_)
  · refine zx_T.s (i := .iconst 0) (k := 1) (st' := [.int (zI (0))]) (pc := 31) rfl rfl ?_
    exact zr_ir (x := 0) (pc := 32) rfl rfl (zr_nb (by omega) (by omega)) ⟨rfl, _, rfl, by dsimp only; omega⟩
  · have lr9 := lr (by omega) (by omega)
    refine zx_T.l (i := .iload_n 2) (k := 1) (v := .int (zI (i))) (pc := 8) rfl rfl rfl ?_
    refine zr_i1 (x := i) (t := 31) (pc := 9) rfl rfl (by omega) (by omega) (fun (c6 : i < 0) => ?_) (fun (c6 : ¬ (i < 0)) => ?_)
    · refine zx_T.s (i := .iconst 0) (k := 1) (st' := [.int (zI (0))]) (pc := 31) rfl rfl ?_
      exact zr_ir (x := 0) (pc := 32) rfl rfl (zr_nb (by omega) (by omega)) ⟨rfl, _, rfl, by dsimp only; omega⟩
    · refine zx_T.l (i := .iload_n 2) (k := 1) (v := .int (zI (i))) (pc := 12) rfl rfl rfl ?_
      refine zx_T.l (i := .aload_n 0) (k := 1) (v := .ref 10) (pc := 13) rfl rfl rfl ?_
      refine zx_T.l (i := .iload_n 1) (k := 1) (v := .int (zI (f))) (pc := 14) rfl rfl rfl ?_
      refine zw_iv (b := 10) (cj := 33) (q' := zp_m33) (As := [.int (zI (f))]) (rest := [.int (zI (i))]) (pc := 15) rfl rfl rfl rfl rfl rfl rfl (Nat.le_of_ble_eq_true rfl) rfl (Nat.le_of_ble_eq_true rfl) hI ((zm_fLocalsOf (h := h) hI (f := f) (by omega) (by omega)).up (Nat.le_of_ble_eq_true rfl)) ?_
      rintro r8 h11 ⟨h11q, v9, r8q, x10⟩
      subst h11q r8q
      try dsimp only at x10
      show zx_T zp_P 3 zp_m40 18 [(0, .ref 10), (1, .int (zI (f))), (2, .int (zI (i)))] [.int (zI (v9)), .int (zI (i))] h _
      refine zx_T.l (i := .aload_n 0) (k := 1) (v := .ref 10) (pc := 18) rfl rfl rfl ?_
      refine zx_T.l (i := .iload_n 1) (k := 1) (v := .int (zI (f))) (pc := 19) rfl rfl rfl ?_
      refine zw_iv (b := 10) (cj := 34) (q' := zp_m34) (As := [.int (zI (f))]) (rest := [.int (zI (v9)), .int (zI (i))]) (pc := 20) rfl rfl rfl rfl rfl rfl rfl (Nat.le_of_ble_eq_true rfl) rfl (Nat.le_of_ble_eq_true rfl) hI ((zm_fStackOf (h := h) hI (f := f) (by omega) (by omega)).up (Nat.le_of_ble_eq_true rfl)) ?_
      rintro r13 h16 ⟨h16q, v14, r13q, x15⟩
      subst h16q r13q
      try dsimp only at x15
      show zx_T zp_P 3 zp_m40 23 [(0, .ref 10), (1, .int (zI (f))), (2, .int (zI (i)))] [.int (zI (v14)), .int (zI (v9)), .int (zI (i))] h _
      refine zr_add (x := v9) (y := v14) (e := v14 + v9) (pc := 23) rfl (by omega) ?_
      refine zr_i2 (x := i) (y := v14 + v9) (t := 31) (pc := 24) rfl rfl (by omega) (by omega) (by omega) (by omega) (fun (c17 : (v14 + v9) ≤ i) => ?_) (fun (c17 : ¬ ((v14 + v9) ≤ i)) => ?_)
      · refine zx_T.s (i := .iconst 0) (k := 1) (st' := [.int (zI (0))]) (pc := 31) rfl rfl ?_
        exact zr_ir (x := 0) (pc := 32) rfl rfl (zr_nb (by omega) (by omega)) ⟨rfl, _, rfl, by dsimp only; omega⟩
      · refine zx_T.s (i := .iconst 1) (k := 1) (st' := [.int (zI (1))]) (pc := 27) rfl rfl ?_
        refine zx_T.j (i := .goto 4) (k := 3) (pc' := 32) (st' := [.int (zI (1))]) (pc := 28) rfl rfl rfl rfl rfl ?_
        exact zr_ir (x := 1) (pc := 32) rfl rfl (zr_nb (by omega) (by omega)) ⟨rfl, _, rfl, by dsimp only; omega⟩

set_option maxRecDepth 100000 in
set_option maxHeartbeats 4000000 in
theorem zm_fColumn {h : zx_H} (hI : zb_I zc_H h) {f : Int} {i : Int} (f1 : 0 ≤ f) (f2 : f < zv_f h 10 3) (i1 : 0 ≤ i) (i2 : i ≤ 13) (lr : 0 ≤ f → f < zv_f h 10 3 → (0 ≤ zv_a h 15 f ∧ zv_a h 15 f ≤ 8) ∧ 0 ≤ zv_a h 13 f ∧ zv_a h 13 f ≤ 6) : zx_T zp_P 2 zp_m41 0 [(0, .ref 10), (1, .int (zI (f))), (2, .int (zI (i)))] [] h (zr_P h (fun e => e = (if i < zv_a h 15 f then i else 8 + i - zv_a h 15 f) ∧ (-10) ≤ e ∧ e ≤ 30)) := by
  have hM := zw_ri hI (a := 10) (k := 3) rfl
  have lr9 := lr f1 f2
  refine zx_T.l (i := .iload_n 2) (k := 1) (v := .int (zI (i))) (pc := 0) rfl rfl rfl ?_
  refine zx_T.l (i := .aload_n 0) (k := 1) (v := .ref 10) (pc := 1) rfl rfl rfl ?_
  refine zx_T.l (i := .iload_n 1) (k := 1) (v := .int (zI (f))) (pc := 2) rfl rfl rfl ?_
  refine zw_iv (b := 10) (cj := 33) (q' := zp_m33) (As := [.int (zI (f))]) (rest := [.int (zI (i))]) (pc := 3) rfl rfl rfl rfl rfl rfl rfl (Nat.le_of_ble_eq_true rfl) rfl (Nat.le_of_ble_eq_true rfl) hI ((zm_fLocalsOf (h := h) hI (f := f) (by omega) (by omega)).up (Nat.le_of_ble_eq_true rfl)) ?_
  rintro r2 h5 ⟨h5q, v3, r2q, x4⟩
  subst h5q r2q
  try dsimp only at x4
  show zx_T zp_P 2 zp_m41 6 [(0, .ref 10), (1, .int (zI (f))), (2, .int (zI (i)))] [.int (zI (v3)), .int (zI (i))] h _
  refine zr_i2 (x := i) (y := v3) (t := 13) (pc := 6) rfl rfl (by omega) (by omega) (by omega) (by omega) (fun (c6 : v3 ≤ i) => ?_) (fun (c6 : ¬ (v3 ≤ i)) => ?_)
  · refine zx_T.s (i := .bipush 8) (k := 2) (st' := [.int (zI (8))]) (pc := 13) rfl rfl ?_
    refine zx_T.l (i := .iload_n 2) (k := 1) (v := .int (zI (i))) (pc := 15) rfl rfl rfl ?_
    refine zr_add (x := 8) (y := i) (e := i + 8) (pc := 16) rfl (by omega) ?_
    refine zx_T.l (i := .aload_n 0) (k := 1) (v := .ref 10) (pc := 17) rfl rfl rfl ?_
    refine zx_T.l (i := .iload_n 1) (k := 1) (v := .int (zI (f))) (pc := 18) rfl rfl rfl ?_
    refine zw_iv (b := 10) (cj := 33) (q' := zp_m33) (As := [.int (zI (f))]) (rest := [.int (zI (i + 8))]) (pc := 19) rfl rfl rfl rfl rfl rfl rfl (Nat.le_of_ble_eq_true rfl) rfl (Nat.le_of_ble_eq_true rfl) hI ((zm_fLocalsOf (h := h) hI (f := f) (by omega) (by omega)).up (Nat.le_of_ble_eq_true rfl)) ?_
    rintro r8 h11 ⟨h11q, v9, r8q, x10⟩
    subst h11q r8q
    try dsimp only at x10
    show zx_T zp_P 2 zp_m41 22 [(0, .ref 10), (1, .int (zI (f))), (2, .int (zI (i)))] [.int (zI (v9)), .int (zI (i + 8))] h _
    refine zr_sub (x := i + 8) (y := v9) (e := i - v9 + 8) (pc := 22) rfl (by omega) ?_
    exact zr_ir (x := i - v9 + 8) (pc := 23) rfl rfl rfl ⟨rfl, _, rfl, by dsimp only; exact ⟨by split <;> omega, by omega, by omega⟩⟩
  · refine zx_T.l (i := .iload_n 2) (k := 1) (v := .int (zI (i))) (pc := 9) rfl rfl rfl ?_
    refine zx_T.j (i := .goto 13) (k := 3) (pc' := 23) (st' := [.int (zI (i))]) (pc := 10) rfl rfl rfl rfl rfl ?_
    exact zr_ir (x := i) (pc := 23) rfl rfl rfl ⟨rfl, _, rfl, by dsimp only; exact ⟨by split <;> omega, by omega, by omega⟩⟩

set_option maxRecDepth 100000 in
set_option maxHeartbeats 4000000 in
theorem zm_fEntry {h : zx_H} (hI : zb_I zc_H h) {f : Int} {i : Int} (f1 : -2147483648 ≤ f) (f2 : f ≤ 2147483647) (i1 : -2147483648 ≤ i) (i2 : i ≤ 2147483647) (lr : 0 ≤ f → f < zv_f h 10 3 → (0 ≤ zv_a h 15 f ∧ zv_a h 15 f ≤ 8) ∧ 0 ≤ zv_a h 13 f ∧ zv_a h 13 f ≤ 6) : zx_T zp_P 4 zp_m38 0 [(0, .ref 10), (1, .int (zI (f))), (2, .int (zI (i)))] [] h (zr_P h (fun e => ((((0 ≤ f ∧ f < zv_f h 10 3) ∧ 0 ≤ i ∧ i < zv_a h 15 f + zv_a h 13 f) ∧ e = zv_a h 12 (14 * f + (if i < zv_a h 15 f then i else 8 + i - zv_a h 15 f))) ∨ (¬ ((0 ≤ f ∧ f < zv_f h 10 3) ∧ 0 ≤ i ∧ i < zv_a h 15 f + zv_a h 13 f) ∧ e = -1)) ∧ (-2147483648) ≤ e ∧ e ≤ 2147483647)) := by
  have hM := zw_ri hI (a := 10) (k := 3) rfl
  refine zx_T.l (i := .aload_n 0) (k := 1) (v := .ref 10) (pc := 0) rfl rfl rfl ?_
  refine zx_T.l (i := .iload_n 1) (k := 1) (v := .int (zI (f))) (pc := 1) rfl rfl rfl ?_
  refine zx_T.l (i := .iload_n 2) (k := 1) (v := .int (zI (i))) (pc := 2) rfl rfl rfl ?_
  refine zw_iv (b := 10) (cj := 40) (q' := zp_m40) (As := [.int (zI (f)), .int (zI (i))]) (rest := []) (pc := 3) rfl rfl rfl rfl rfl rfl rfl (Nat.le_of_ble_eq_true rfl) rfl (Nat.le_of_ble_eq_true rfl) hI ((zm_fHasEntry (h := h) hI (f := f) (i := i) (by omega) (by omega) (by omega) (by omega) lr).up (Nat.le_of_ble_eq_true rfl)) ?_
  rintro r1 h4 ⟨h4q, v2, r1q, x3⟩
  subst h4q r1q
  try dsimp only at x3
  show zx_T zp_P 4 zp_m38 6 [(0, .ref 10), (1, .int (zI (f))), (2, .int (zI (i)))] [.int (zI (v2))] h _
  refine zr_i1 (x := v2) (t := 26) (pc := 6) rfl rfl (by omega) (by omega) (fun (c5 : v2 = 0) => ?_) (fun (c5 : ¬ (v2 = 0)) => ?_)
  · refine zx_T.s (i := .iconst (-1)) (k := 1) (st' := [.int (zI ((-1)))]) (pc := 26) rfl rfl ?_
    exact zr_ir (x := (-1)) (pc := 27) rfl rfl rfl ⟨rfl, _, rfl, by dsimp only; exact ⟨Or.inr ⟨by omega, rfl⟩, by omega, by omega⟩⟩
  · have lr9 := lr (by omega) (by omega)
    refine zx_T.l (i := .aload_n 0) (k := 1) (v := .ref 10) (pc := 9) rfl rfl rfl ?_
    refine zw_gr (k := 0) (b := 11) (pc := 10) rfl rfl rfl hI ?_
    refine zx_T.l (i := .iload_n 1) (k := 1) (v := .int (zI (f))) (pc := 13) rfl rfl rfl ?_
    refine zx_T.l (i := .aload_n 0) (k := 1) (v := .ref 10) (pc := 14) rfl rfl rfl ?_
    refine zx_T.l (i := .iload_n 1) (k := 1) (v := .int (zI (f))) (pc := 15) rfl rfl rfl ?_
    refine zx_T.l (i := .iload_n 2) (k := 1) (v := .int (zI (i))) (pc := 16) rfl rfl rfl ?_
    refine zw_iv (b := 10) (cj := 41) (q' := zp_m41) (As := [.int (zI (f)), .int (zI (i))]) (rest := [.int (zI (f)), .ref 11]) (pc := 17) rfl rfl rfl rfl rfl rfl rfl (Nat.le_of_ble_eq_true rfl) rfl (Nat.le_of_ble_eq_true rfl) hI ((zm_fColumn (h := h) hI (f := f) (i := i) (by omega) (by omega) (by omega) (by omega) lr).up (Nat.le_of_ble_eq_true rfl)) ?_
    rintro r7 h10 ⟨h10q, v8, r7q, x9⟩
    subst h10q r7q
    try dsimp only at x9
    have cE := x9.1
    have cr9 : 0 ≤ v8 ∧ v8 ≤ 13 := (by rw [cE]; split <;> omega)
    show zx_T zp_P 4 zp_m38 20 [(0, .ref 10), (1, .int (zI (f))), (2, .int (zI (i)))] [.int (zI (v8)), .int (zI (f)), .ref 11] h _
    refine zw_iv (b := 11) (cj := 131) (q' := zp_m131) (As := [.int (zI (f)), .int (zI (v8))]) (rest := []) (pc := 20) rfl rfl rfl rfl rfl rfl rfl (Nat.le_of_ble_eq_true rfl) rfl (Nat.le_of_ble_eq_true rfl) hI ((zm_tKindOf_11 (h := h) hI (r := f) (i := v8) (by omega) (by omega) (by omega) (by omega)).up (Nat.le_of_ble_eq_true rfl)) ?_
    rintro r11 h14 ⟨h14q, v12, r11q, x13⟩
    subst h14q r11q
    try dsimp only at x13
    have kE := x13.1
    show zx_T zp_P 4 zp_m38 23 [(0, .ref 10), (1, .int (zI (f))), (2, .int (zI (i)))] [.int (zI (v12))] h _
    refine zx_T.j (i := .goto 4) (k := 3) (pc' := 27) (st' := [.int (zI (v12))]) (pc := 23) rfl rfl rfl rfl rfl ?_
    exact zr_ir (x := v12) (pc := 27) rfl rfl rfl ⟨rfl, _, rfl, by dsimp only; exact ⟨Or.inl ⟨by omega, by rw [kE, cE]⟩, by omega, by omega⟩⟩

set_option maxRecDepth 100000 in
set_option maxHeartbeats 4000000 in
theorem zm_fChange {h : zx_H} (hI : zb_I zc_H h) {f : Int} {i : Int} {k : Int} (f1 : -2147483648 ≤ f) (f2 : f ≤ 2147483647) (i1 : -2147483648 ≤ i) (i2 : i ≤ 2147483647) (k1 : -2147483648 ≤ k) (k2 : k ≤ 2147483647) (lr : 0 ≤ f → f < zv_f h 10 3 → (0 ≤ zv_a h 15 f ∧ zv_a h 15 f ≤ 8) ∧ 0 ≤ zv_a h 13 f ∧ zv_a h 13 f ≤ 6) (kn : ((0 ≤ f ∧ f < zv_f h 10 3) ∧ 0 ≤ i ∧ i < zv_a h 15 f + zv_a h 13 f) → ¬ zv_a h 12 (14 * f + (if i < zv_a h 15 f then i else 8 + i - zv_a h 15 f)) = -1) : zx_T zp_P 5 zp_m39 0 [(0, .ref 10), (1, .int (zI (f))), (2, .int (zI (i))), (3, .int (zI (k)))] [] h (zr_R [(12, 0)] h (fun e h' => ((((0 ≤ f ∧ f < zv_f h 10 3) ∧ 0 ≤ i ∧ i < zv_a h 15 f + zv_a h 13 f) ∧ ∀ q, 0 ≤ q → zv_a h' 12 q = if q = 14 * f + (if i < zv_a h 15 f then i else 8 + i - zv_a h 15 f) then k else zv_a h 12 q) ∨ (¬ ((0 ≤ f ∧ f < zv_f h 10 3) ∧ 0 ≤ i ∧ i < zv_a h 15 f + zv_a h 13 f) ∧ ∀ q, 0 ≤ q → zv_a h' 12 q = zv_a h 12 q)) ∧ (-2147483648) ≤ e ∧ e ≤ 2147483647)) := by
  have hM := zw_ri hI (a := 10) (k := 3) rfl
  refine zx_T.l (i := .aload_n 0) (k := 1) (v := .ref 10) (pc := 0) rfl rfl rfl ?_
  refine zx_T.l (i := .iload_n 1) (k := 1) (v := .int (zI (f))) (pc := 1) rfl rfl rfl ?_
  refine zx_T.l (i := .iload_n 2) (k := 1) (v := .int (zI (i))) (pc := 2) rfl rfl rfl ?_
  refine zw_iv (b := 10) (cj := 38) (q' := zp_m38) (As := [.int (zI (f)), .int (zI (i))]) (rest := []) (pc := 3) rfl rfl rfl rfl rfl rfl rfl (Nat.le_of_ble_eq_true rfl) rfl (Nat.le_of_ble_eq_true rfl) hI ((zm_fEntry (h := h) hI (f := f) (i := i) (by omega) (by omega) (by omega) (by omega) lr).up (Nat.le_of_ble_eq_true rfl)) ?_
  rintro r1 h4 ⟨h4q, v2, r1q, x3⟩
  subst h4q r1q
  try dsimp only at x3
  have eN := x3.1
  show zx_T zp_P 5 zp_m39 6 [(0, .ref 10), (1, .int (zI (f))), (2, .int (zI (i))), (3, .int (zI (k)))] [.int (zI (v2))] h _
  refine zx_T.t (i := .istore 4) (k := 2) (ls' := [(4, .int (zI (v2))), (0, .ref 10), (1, .int (zI (f))), (2, .int (zI (i))), (3, .int (zI (k)))]) (st' := []) (pc := 6) rfl rfl rfl rfl ?_
  refine zx_T.l (i := .iload 4) (k := 2) (v := .int (zI (v2))) (pc := 8) rfl rfl rfl ?_
  refine zx_T.s (i := .iconst (-1)) (k := 1) (st' := [.int (zI ((-1))), .int (zI (v2))]) (pc := 10) rfl rfl ?_
  refine zr_i2 (x := v2) (y := (-1)) (t := 29) (pc := 11) rfl rfl (by omega) (by omega) (by omega) (by omega) (fun (c5 : v2 = (-1)) => ?_) (fun (c5 : ¬ (v2 = (-1))) => ?_)
  · refine zx_T.l (i := .iload 4) (k := 2) (v := .int (zI (v2))) (pc := 29) rfl rfl rfl ?_
    exact zr_ir (x := v2) (pc := 31) rfl rfl rfl ⟨hI, zb_W.rf, _, rfl, by dsimp only; exact ⟨Or.inr ⟨fun z => by rcases eN with y | y; (exact kn z (y.2.symm.trans (by omega))); exact y.1 z, fun q q0 => rfl⟩, by omega, by omega⟩⟩
  · have eY := eN.resolve_right (fun z => absurd z.2 (by omega))
    have lr9 := lr eY.1.1.1 eY.1.1.2
    have eb := eY.1
    refine zx_T.l (i := .aload_n 0) (k := 1) (v := .ref 10) (pc := 14) rfl rfl rfl ?_
    refine zw_gr (k := 0) (b := 11) (pc := 15) rfl rfl rfl hI ?_
    refine zx_T.l (i := .iload_n 1) (k := 1) (v := .int (zI (f))) (pc := 18) rfl rfl rfl ?_
    refine zx_T.l (i := .aload_n 0) (k := 1) (v := .ref 10) (pc := 19) rfl rfl rfl ?_
    refine zx_T.l (i := .iload_n 1) (k := 1) (v := .int (zI (f))) (pc := 20) rfl rfl rfl ?_
    refine zx_T.l (i := .iload_n 2) (k := 1) (v := .int (zI (i))) (pc := 21) rfl rfl rfl ?_
    refine zw_iv (b := 10) (cj := 41) (q' := zp_m41) (As := [.int (zI (f)), .int (zI (i))]) (rest := [.int (zI (f)), .ref 11]) (pc := 22) rfl rfl rfl rfl rfl rfl rfl (Nat.le_of_ble_eq_true rfl) rfl (Nat.le_of_ble_eq_true rfl) hI ((zm_fColumn (h := h) hI (f := f) (i := i) (by omega) (by omega) (by omega) (by omega) lr).up (Nat.le_of_ble_eq_true rfl)) ?_
    rintro r7 h10 ⟨h10q, v8, r7q, x9⟩
    subst h10q r7q
    try dsimp only at x9
    have cE := x9.1
    have cr9 : 0 ≤ v8 ∧ v8 ≤ 13 := (by rw [cE]; split <;> omega)
    show zx_T zp_P 5 zp_m39 25 [(4, .int (zI (v2))), (0, .ref 10), (1, .int (zI (f))), (2, .int (zI (i))), (3, .int (zI (k)))] [.int (zI (v8)), .int (zI (f)), .ref 11] h _
    refine zx_T.l (i := .iload_n 3) (k := 1) (v := .int (zI (k))) (pc := 25) rfl rfl rfl ?_
    refine zw_iv (b := 11) (cj := 132) (q' := zp_m132) (As := [.int (zI (f)), .int (zI (v8)), .int (zI (k))]) (rest := []) (pc := 26) rfl rfl rfl rfl rfl rfl rfl (Nat.le_of_ble_eq_true rfl) rfl (Nat.le_of_ble_eq_true rfl) hI ((zm_tSetKind_11 (h := h) hI (r := f) (i := v8) (k := k) (by omega) (by omega) (by omega) (by omega) (by omega) (by omega)).up (Nat.le_of_ble_eq_true rfl)) ?_
    rintro r11 h14 ⟨ih14, w15, r11q, x13⟩
    subst r11q
    try dsimp only at x13
    have ts := x13
    show zx_T zp_P 5 zp_m39 29 [(4, .int (zI (v2))), (0, .ref 10), (1, .int (zI (f))), (2, .int (zI (i))), (3, .int (zI (k)))] [] h14 _
    refine zx_T.l (i := .iload 4) (k := 2) (v := .int (zI (v2))) (pc := 29) rfl rfl rfl ?_
    exact zr_ir (x := v2) (pc := 31) rfl rfl rfl ⟨ih14, (w15.wd rfl : zb_W [(12, 0)] h _), _, rfl, by dsimp only; exact ⟨Or.inl ⟨eb, fun q q0 => by rw [← cE]; exact ts q q0⟩, by omega, by omega⟩⟩

set_option maxRecDepth 100000 in
set_option maxHeartbeats 4000000 in
theorem zm_cPlantX {h : zx_H} (hI : zb_I zc_H h) {f : Int} {i : Int} {k : Int} (f1 : -2147483648 ≤ f) (f2 : f ≤ 2147483647) (i1 : -2147483648 ≤ i) (i2 : i ≤ 2147483647) (k1 : -2147483648 ≤ k) (k2 : k ≤ 2147483647) (lr : ¬ zv_f h 16 4 = 0 → 0 ≤ f → f < zv_f h 10 3 → (0 ≤ zv_a h 15 f ∧ zv_a h 15 f ≤ 8) ∧ 0 ≤ zv_a h 13 f ∧ zv_a h 13 f ≤ 6) (kn : ¬ zv_f h 16 4 = 0 → ((0 ≤ f ∧ f < zv_f h 10 3) ∧ 0 ≤ i ∧ i < zv_a h 15 f + zv_a h 13 f) → ¬ zv_a h 12 (14 * f + (if i < zv_a h 15 f then i else 8 + i - zv_a h 15 f)) = -1) : zx_T zp_P 6 zp_m144 0 [(0, .ref 0), (1, .int (zI (f))), (2, .int (zI (i))), (3, .int (zI (k)))] [] h (zr_R [(12, 0)] h (fun e h' => (((0 ≤ k ∧ k ≤ 8) ∧ ¬ zv_f h 16 4 = 0 ∧ ((0 ≤ f ∧ f < zv_f h 10 3) ∧ 0 ≤ i ∧ i < zv_a h 15 f + zv_a h 13 f)) ∧ ∀ q, 0 ≤ q → zv_a h' 12 q = if q = 14 * f + (if i < zv_a h 15 f then i else 8 + i - zv_a h 15 f) then k else zv_a h 12 q) ∨ (¬ ((0 ≤ k ∧ k ≤ 8) ∧ ¬ zv_f h 16 4 = 0 ∧ ((0 ≤ f ∧ f < zv_f h 10 3) ∧ 0 ≤ i ∧ i < zv_a h 15 f + zv_a h 13 f)) ∧ ∀ q, 0 ≤ q → zv_a h' 12 q = zv_a h 12 q))) := by
  have hM := zw_ri hI (a := 10) (k := 3) rfl
  refine zx_T.l (i := .iload_n 1) (k := 1) (v := .int (zI (f))) (pc := 0) rfl rfl rfl ?_
  refine zr_i1 (x := f) (t := 18) (pc := 1) rfl rfl (by omega) (by omega) (fun (c1 : f < 0) => ?_) (fun (c1 : ¬ (f < 0)) => ?_)
  · refine zx_T.s (i := .bipush (-2)) (k := 2) (st' := [.int (zI ((-2)))]) (pc := 18) rfl rfl ?_
    exact zr_ir (x := (-2)) (pc := 20) rfl rfl rfl ⟨hI, zb_W.rf, _, rfl, by dsimp only; exact Or.inr ⟨by omega, fun q q0 => rfl⟩⟩
  · refine zx_T.l (i := .iload_n 2) (k := 1) (v := .int (zI (i))) (pc := 4) rfl rfl rfl ?_
    refine zr_i1 (x := i) (t := 18) (pc := 5) rfl rfl (by omega) (by omega) (fun (c2 : i < 0) => ?_) (fun (c2 : ¬ (i < 0)) => ?_)
    · refine zx_T.s (i := .bipush (-2)) (k := 2) (st' := [.int (zI ((-2)))]) (pc := 18) rfl rfl ?_
      exact zr_ir (x := (-2)) (pc := 20) rfl rfl rfl ⟨hI, zb_W.rf, _, rfl, by dsimp only; exact Or.inr ⟨by omega, fun q q0 => rfl⟩⟩
    · refine zx_T.l (i := .iload_n 3) (k := 1) (v := .int (zI (k))) (pc := 8) rfl rfl rfl ?_
      refine zr_i1 (x := k) (t := 18) (pc := 9) rfl rfl (by omega) (by omega) (fun (c3 : k < 0) => ?_) (fun (c3 : ¬ (k < 0)) => ?_)
      · refine zx_T.s (i := .bipush (-2)) (k := 2) (st' := [.int (zI ((-2)))]) (pc := 18) rfl rfl ?_
        exact zr_ir (x := (-2)) (pc := 20) rfl rfl rfl ⟨hI, zb_W.rf, _, rfl, by dsimp only; exact Or.inr ⟨by omega, fun q q0 => rfl⟩⟩
      · refine zx_T.l (i := .iload_n 3) (k := 1) (v := .int (zI (k))) (pc := 12) rfl rfl rfl ?_
        refine zx_T.s (i := .bipush 8) (k := 2) (st' := [.int (zI (8)), .int (zI (k))]) (pc := 13) rfl rfl ?_
        refine zr_i2 (x := k) (y := 8) (t := 21) (pc := 15) rfl rfl (by omega) (by omega) (by omega) (by omega) (fun (c4 : k ≤ 8) => ?_) (fun (c4 : ¬ (k ≤ 8)) => ?_)
        · refine zx_T.l (i := .aload_n 0) (k := 1) (v := .ref 0) (pc := 21) rfl rfl rfl ?_
          refine zw_gr (k := 2) (b := 16) (pc := 22) rfl rfl rfl hI ?_
          refine zw_iv (b := 16) (cj := 77) (q' := zp_m77) (As := []) (rest := []) (pc := 25) rfl rfl rfl rfl rfl rfl rfl (Nat.le_of_ble_eq_true rfl) rfl (Nat.le_of_ble_eq_true rfl) hI ((zm_mIsMade (h := h) hI  ).up (Nat.le_of_ble_eq_true rfl)) ?_
          rintro r5 h8 ⟨h8q, v6, r5q, x7⟩
          subst h8q r5q
          try dsimp only at x7
          show zx_T zp_P 6 zp_m144 28 [(0, .ref 0), (1, .int (zI (f))), (2, .int (zI (i))), (3, .int (zI (k)))] [.int (zI (v6))] h _
          refine zr_i1 (x := v6) (t := 34) (pc := 28) rfl rfl (by omega) (by omega) (fun (c9 : ¬ v6 = 0) => ?_) (fun (c9 : ¬ (¬ v6 = 0)) => ?_)
          · refine zx_T.l (i := .aload_n 0) (k := 1) (v := .ref 0) (pc := 34) rfl rfl rfl ?_
            refine zw_gr (k := 1) (b := 10) (pc := 35) rfl rfl rfl hI ?_
            refine zx_T.l (i := .iload_n 1) (k := 1) (v := .int (zI (f))) (pc := 38) rfl rfl rfl ?_
            refine zx_T.l (i := .iload_n 2) (k := 1) (v := .int (zI (i))) (pc := 39) rfl rfl rfl ?_
            refine zx_T.l (i := .iload_n 3) (k := 1) (v := .int (zI (k))) (pc := 40) rfl rfl rfl ?_
            refine zw_iv (b := 10) (cj := 39) (q' := zp_m39) (As := [.int (zI (f)), .int (zI (i)), .int (zI (k))]) (rest := []) (pc := 41) rfl rfl rfl rfl rfl rfl rfl (Nat.le_of_ble_eq_true rfl) rfl (Nat.le_of_ble_eq_true rfl) hI ((zm_fChange (h := h) hI (f := f) (i := i) (k := k) (by omega) (by omega) (by omega) (by omega) (by omega) (by omega) (lr (by omega)) (kn (by omega))).up (Nat.le_of_ble_eq_true rfl)) ?_
            rintro r10 h13 ⟨ih13, w14, v11, r10q, x12⟩
            subst r10q
            try dsimp only at x12
            have cH := x12.1
            show zx_T zp_P 6 zp_m144 44 [(0, .ref 0), (1, .int (zI (f))), (2, .int (zI (i))), (3, .int (zI (k)))] [.int (zI (v11))] h13 _
            exact zr_ir (x := v11) (pc := 44) rfl rfl rfl ⟨ih13, (w14.wd rfl : zb_W [(12, 0)] h _), _, rfl, by dsimp only; rcases cH with y | y; exact Or.inl ⟨⟨by omega, by omega, y.1⟩, y.2⟩; exact Or.inr ⟨fun z => y.1 z.2.2, y.2⟩⟩
          · refine zx_T.s (i := .bipush (-3)) (k := 2) (st' := [.int (zI ((-3)))]) (pc := 31) rfl rfl ?_
            exact zr_ir (x := (-3)) (pc := 33) rfl rfl rfl ⟨hI, zb_W.rf, _, rfl, by dsimp only; exact Or.inr ⟨by omega, fun q q0 => rfl⟩⟩
        · refine zx_T.s (i := .bipush (-2)) (k := 2) (st' := [.int (zI ((-2)))]) (pc := 18) rfl rfl ?_
          exact zr_ir (x := (-2)) (pc := 20) rfl rfl rfl ⟨hI, zb_W.rf, _, rfl, by dsimp only; exact Or.inr ⟨by omega, fun q q0 => rfl⟩⟩
