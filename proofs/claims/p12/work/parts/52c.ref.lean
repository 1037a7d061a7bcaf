/-! ===== 52c: the reference, method by method (by program) ===== -/
set_option maxRecDepth 100000 in
set_option maxHeartbeats 20000000 in
theorem zm_does_c18 {h : zx_H} (hI : zb_I zc_H h) {p : Int} (p1 : 0 ≤ p) (p2 : p ≤ 59) (n8 : ¬ zv_a h 61 8 = 3) (ic : zv_a h 45 p = 21 → 5 ≤ zv_a h 46 p ∧ zv_a h 46 p ≤ 8) (ov : zv_a h 45 p = 18) : zx_T zp_P 3 zp_m167 0 [(0, .ref 44), (1, .int (zI (p)))] [] h (zr_R [(44, 25), (44, 26), (61, 0)] h (fun e h' => e = zv_i h' 26 ∧ 0 ≤ e ∧ e ≤ 7 ∧ ¬ zv_a h' 61 8 = 3 ∧ (e = 0 → zg_does (zv_a h 45 p) (zv_a h 46 p) h h'))) := by
  have hS := zv_ri hI (k := 25) rfl
  refine zx_T.l (i := .aload_n 0) (k := 1) (v := .ref 44) (pc := 0) rfl rfl rfl ?_
  refine zx_T.s (i := .iconst 0) (k := 1) (st' := [.int (zI (0)), .ref 44]) (pc := 1) rfl rfl ?_
  refine zr_pi (k := 26) (lo := 0) (hi := 7) (e := 0) (pc := 2) rfl rfl rfl rfl rfl rfl hI (by omega) (by omega) (fun h1 ih1 w2 e3 => ?_)
  refine zx_T.l (i := .aload_n 0) (k := 1) (v := .ref 44) (pc := 5) rfl rfl rfl ?_
  refine zr_gr (k := 3) (b := 46) (pc := 6) rfl rfl rfl ih1 ?_
  refine zx_T.l (i := .iload_n 1) (k := 1) (v := .int (zI (p))) (pc := 9) rfl rfl rfl ?_
  refine zr_al (n := 60) (lo := (-2147483648)) (hi := 2147483647) (e := zv_a h 46 p) (pc := 10) rfl rfl rfl ih1 (by omega) (by omega) (zv_wa w2 rfl p) (fun g4a g4b => ?_)
  refine zx_T.t (i := .istore_n 2) (k := 1) (ls' := [(2, .int (zI (zv_a h 46 p))), (0, .ref 44), (1, .int (zI (p)))]) (st' := []) (pc := 11) rfl rfl rfl rfl ?_
  refine zx_T.l (i := .aload_n 0) (k := 1) (v := .ref 44) (pc := 12) rfl rfl rfl ?_
  refine zr_gr (k := 2) (b := 45) (pc := 13) rfl rfl rfl ih1 ?_
  refine zx_T.l (i := .iload_n 1) (k := 1) (v := .int (zI (p))) (pc := 16) rfl rfl rfl ?_
  refine zr_al (n := 60) (lo := 0) (hi := 28) (e := zv_a h 45 p) (pc := 17) rfl rfl rfl ih1 (by omega) (by omega) (zv_wa w2 rfl p) (fun g5a g5b => ?_)
  have c6 : zv_a h 45 p = 18 := by omega
  rcases c6 with c6
  · refine zr_sw (i := .tableswitch 424 1 28 #[126, 134, 142, 150, 158, 167, 176, 190, 198, 206, 214, 222, 222, 240, 258, 271, 284, 303, 322, 336, 350, 363, 424, 424, 372, 380, 372, 388]) (len := 126) (t := 321) (x := zv_a h 45 p) (k := 18) (pc := 18) rfl c6 rfl rfl rfl rfl ?_
    refine zx_T.l (i := .aload_n 0) (k := 1) (v := .ref 44) (pc := 321) rfl rfl rfl ?_
    refine zx_T.s (i := .iconst 1) (k := 1) (st' := [.int (zI (1)), .ref 44]) (pc := 322) rfl rfl ?_
    have y7 : zv_a h1 61 8 = zv_a h 61 8 := (zv_wa w2 rfl 8)
    have y8 : zv_i h1 25 = zv_i h 25 := (zv_wi w2 rfl)
    have y9 : zv_i h1 26 = 0 := e3
    have an0 : ∀ j, 0 ≤ j → zv_a h1 61 j = zv_a h 61 j := fun j hj => by rw [zv_wa w2 rfl j]
    refine zr_iv (cj := 162) (q' := zp_m162) (As := [.int (zI (1))]) (rest := []) (pc := 323) rfl rfl rfl rfl rfl rfl (Nat.le_of_ble_eq_true rfl) rfl (Nat.le_of_ble_eq_true rfl) ih1 ((zm_need (h := h1) ih1 (w := 1) (by omega) (by omega) (by omega)).up (Nat.le_of_ble_eq_true rfl)) ?_
    rintro r11 h14 ⟨ih14, w15, r11q, x13⟩
    subst r11q
    try dsimp only at x13
    have nj1 := x13.2.2
    rcases zg_n1 x13 (by omega) with q16 | q16 | q16
    · exact False.elim (by omega)
    · clear x13
      show zx_T zp_P 3 zp_m167 326 [(2, .int (zI (zv_a h 46 p))), (0, .ref 44), (1, .int (zI (p)))] [] h14 _
      refine zx_T.l (i := .aload_n 0) (k := 1) (v := .ref 44) (pc := 326) rfl rfl rfl ?_
      refine zx_T.s (i := .iconst 1) (k := 1) (st' := [.int (zI (1)), .ref 44]) (pc := 327) rfl rfl ?_
      have y17 : zv_a h14 61 8 = zv_a h 61 8 := ((zv_wa w15 rfl 8).trans (zv_wa w2 rfl 8))
      have an1 : ∀ j, 0 ≤ j → zv_a h14 61 j = zv_a h 61 j := fun j hj => by rw [zv_wa w15 rfl j, zv_wa w2 rfl j]
      refine zr_iv (cj := 162) (q' := zp_m162) (As := [.int (zI (1))]) (rest := []) (pc := 328) rfl rfl rfl rfl rfl rfl (Nat.le_of_ble_eq_true rfl) rfl (Nat.le_of_ble_eq_true rfl) ih14 ((zm_need (h := h14) ih14 (w := 1) (by omega) (by omega) (by omega)).up (Nat.le_of_ble_eq_true rfl)) ?_
      rintro r21 h24 ⟨ih24, w25, r21q, x23⟩
      subst r21q
      try dsimp only at x23
      have nj2 := x23.2.2
      rcases zg_n1 x23 (by omega) with q26 | q26 | q26
      · clear x23
        show zx_T zp_P 3 zp_m167 331 [(2, .int (zI (zv_a h 46 p))), (0, .ref 44), (1, .int (zI (p)))] [] h24 _
        refine zx_T.l (i := .aload_n 0) (k := 1) (v := .ref 44) (pc := 331) rfl rfl rfl ?_
        refine zx_T.s (i := .bipush 6) (k := 2) (st' := [.int (zI (6)), .ref 44]) (pc := 332) rfl rfl ?_
        have y27 : zv_a h24 61 8 = zv_a h 61 8 := ((zv_wa w25 rfl 8).trans ((zv_wa w15 rfl 8).trans (zv_wa w2 rfl 8)))
        have an2 : ∀ j, 0 ≤ j → zv_a h24 61 j = zv_a h 61 j := fun j hj => by rw [zv_wa w25 rfl j, zv_wa w15 rfl j, zv_wa w2 rfl j]
        refine zr_iv (cj := 162) (q' := zp_m162) (As := [.int (zI (6))]) (rest := []) (pc := 334) rfl rfl rfl rfl rfl rfl (Nat.le_of_ble_eq_true rfl) rfl (Nat.le_of_ble_eq_true rfl) ih24 ((zm_need (h := h24) ih24 (w := 6) (by omega) (by omega) (by omega)).up (Nat.le_of_ble_eq_true rfl)) ?_
        rintro r31 h34 ⟨ih34, w35, r31q, x33⟩
        subst r31q
        try dsimp only at x33
        have nj3 := x33.2.2
        rcases zg_n1 x33 (by omega) with q36 | q36 | q36
        · clear x33
          show zx_T zp_P 3 zp_m167 337 [(2, .int (zI (zv_a h 46 p))), (0, .ref 44), (1, .int (zI (p)))] [] h34 _
          refine zx_T.j (i := .goto 105) (k := 3) (pc' := 442) (st' := []) (pc := 337) rfl rfl rfl rfl rfl ?_
          refine zx_T.l (i := .aload_n 0) (k := 1) (v := .ref 44) (pc := 442) rfl rfl rfl ?_
          refine zr_gi (k := 26) (lo := 0) (hi := 7) (e := zv_i h34 26) (pc := 443) rfl rfl rfl ih34 rfl (fun g37a g37b => ?_)
          have y40 : zv_a h34 61 8 = zv_a h 61 8 := ((zv_wa w35 rfl 8).trans ((zv_wa w25 rfl 8).trans ((zv_wa w15 rfl 8).trans (zv_wa w2 rfl 8))))
          have ae : ∀ j, 0 ≤ j → zv_a h34 61 j = zv_a h 61 j := fun j hj => by rw [zv_wa w35 rfl j, zv_wa w25 rfl j, zv_wa w15 rfl j, zv_wa w2 rfl j]
          have y42 := zv_ri ih34 (k := 25) rfl
          exact zr_ir (x := zv_i h34 26) (pc := 446) rfl rfl rfl ⟨ih34, ((((w2.wd rfl : zb_W [(44, 25), (44, 26), (61, 0)] h _).tr (w15.wd rfl)).tr (w25.wd rfl)).tr (w35.wd rfl)), _, rfl, by dsimp only; exact ⟨by omega, by omega, by omega, by omega, fun h0 => absurd h0 (by omega)⟩⟩
        · exact False.elim (by omega)
        · exact False.elim (by omega)
      · exact False.elim (by omega)
      · exact False.elim (by omega)
    · clear x13
      show zx_T zp_P 3 zp_m167 326 [(2, .int (zI (zv_a h 46 p))), (0, .ref 44), (1, .int (zI (p)))] [] h14 _
      refine zx_T.l (i := .aload_n 0) (k := 1) (v := .ref 44) (pc := 326) rfl rfl rfl ?_
      refine zx_T.s (i := .iconst 1) (k := 1) (st' := [.int (zI (1)), .ref 44]) (pc := 327) rfl rfl ?_
      have y43 : zv_a h14 61 8 = zv_a h 61 8 := ((zv_wa w15 rfl 8).trans (zv_wa w2 rfl 8))
      have an1 : ∀ j, 0 ≤ j → zv_a h14 61 j = zv_a h 61 j := fun j hj => by rw [zv_wa w15 rfl j, zv_wa w2 rfl j]
      refine zr_iv (cj := 162) (q' := zp_m162) (As := [.int (zI (1))]) (rest := []) (pc := 328) rfl rfl rfl rfl rfl rfl (Nat.le_of_ble_eq_true rfl) rfl (Nat.le_of_ble_eq_true rfl) ih14 ((zm_need (h := h14) ih14 (w := 1) (by omega) (by omega) (by omega)).up (Nat.le_of_ble_eq_true rfl)) ?_
      rintro r47 h50 ⟨ih50, w51, r47q, x49⟩
      subst r47q
      try dsimp only at x49
      have nj2 := x49.2.2
      rcases zg_n1 x49 (by omega) with q52 | q52 | q52
      · exact False.elim (by omega)
      · clear x49
        show zx_T zp_P 3 zp_m167 331 [(2, .int (zI (zv_a h 46 p))), (0, .ref 44), (1, .int (zI (p)))] [] h50 _
        refine zx_T.l (i := .aload_n 0) (k := 1) (v := .ref 44) (pc := 331) rfl rfl rfl ?_
        refine zx_T.s (i := .bipush 6) (k := 2) (st' := [.int (zI (6)), .ref 44]) (pc := 332) rfl rfl ?_
        have y53 : zv_a h50 61 8 = zv_a h 61 8 := ((zv_wa w51 rfl 8).trans ((zv_wa w15 rfl 8).trans (zv_wa w2 rfl 8)))
        have an2 : ∀ j, 0 ≤ j → zv_a h50 61 j = zv_a h 61 j := fun j hj => by rw [zv_wa w51 rfl j, zv_wa w15 rfl j, zv_wa w2 rfl j]
        refine zr_iv (cj := 162) (q' := zp_m162) (As := [.int (zI (6))]) (rest := []) (pc := 334) rfl rfl rfl rfl rfl rfl (Nat.le_of_ble_eq_true rfl) rfl (Nat.le_of_ble_eq_true rfl) ih50 ((zm_need (h := h50) ih50 (w := 6) (by omega) (by omega) (by omega)).up (Nat.le_of_ble_eq_true rfl)) ?_
        rintro r57 h60 ⟨ih60, w61, r57q, x59⟩
        subst r57q
        try dsimp only at x59
        have nj3 := x59.2.2
        rcases zg_n1 x59 (by omega) with q62 | q62 | q62
        · clear x59
          show zx_T zp_P 3 zp_m167 337 [(2, .int (zI (zv_a h 46 p))), (0, .ref 44), (1, .int (zI (p)))] [] h60 _
          refine zx_T.j (i := .goto 105) (k := 3) (pc' := 442) (st' := []) (pc := 337) rfl rfl rfl rfl rfl ?_
          refine zx_T.l (i := .aload_n 0) (k := 1) (v := .ref 44) (pc := 442) rfl rfl rfl ?_
          refine zr_gi (k := 26) (lo := 0) (hi := 7) (e := zv_i h60 26) (pc := 443) rfl rfl rfl ih60 rfl (fun g63a g63b => ?_)
          have y66 : zv_a h60 61 8 = zv_a h 61 8 := ((zv_wa w61 rfl 8).trans ((zv_wa w51 rfl 8).trans ((zv_wa w15 rfl 8).trans (zv_wa w2 rfl 8))))
          have ae : ∀ j, 0 ≤ j → zv_a h60 61 j = zv_a h 61 j := fun j hj => by rw [zv_wa w61 rfl j, zv_wa w51 rfl j, zv_wa w15 rfl j, zv_wa w2 rfl j]
          have y68 := zv_ri ih60 (k := 25) rfl
          exact zr_ir (x := zv_i h60 26) (pc := 446) rfl rfl rfl ⟨ih60, ((((w2.wd rfl : zb_W [(44, 25), (44, 26), (61, 0)] h _).tr (w15.wd rfl)).tr (w51.wd rfl)).tr (w61.wd rfl)), _, rfl, by dsimp only; exact ⟨by omega, by omega, by omega, by omega, fun h0 => absurd h0 (by omega)⟩⟩
        · exact False.elim (by omega)
        · exact False.elim (by omega)
      · clear x49
        show zx_T zp_P 3 zp_m167 331 [(2, .int (zI (zv_a h 46 p))), (0, .ref 44), (1, .int (zI (p)))] [] h50 _
        refine zx_T.l (i := .aload_n 0) (k := 1) (v := .ref 44) (pc := 331) rfl rfl rfl ?_
        refine zx_T.s (i := .bipush 6) (k := 2) (st' := [.int (zI (6)), .ref 44]) (pc := 332) rfl rfl ?_
        have y69 : zv_a h50 61 8 = zv_a h 61 8 := ((zv_wa w51 rfl 8).trans ((zv_wa w15 rfl 8).trans (zv_wa w2 rfl 8)))
        have an2 : ∀ j, 0 ≤ j → zv_a h50 61 j = zv_a h 61 j := fun j hj => by rw [zv_wa w51 rfl j, zv_wa w15 rfl j, zv_wa w2 rfl j]
        refine zr_iv (cj := 162) (q' := zp_m162) (As := [.int (zI (6))]) (rest := []) (pc := 334) rfl rfl rfl rfl rfl rfl (Nat.le_of_ble_eq_true rfl) rfl (Nat.le_of_ble_eq_true rfl) ih50 ((zm_need (h := h50) ih50 (w := 6) (by omega) (by omega) (by omega)).up (Nat.le_of_ble_eq_true rfl)) ?_
        rintro r73 h76 ⟨ih76, w77, r73q, x75⟩
        subst r73q
        try dsimp only at x75
        have nj3 := x75.2.2
        rcases zg_n1 x75 (by omega) with q78 | q78 | q78
        · exact False.elim (by omega)
        · clear x75
          show zx_T zp_P 3 zp_m167 337 [(2, .int (zI (zv_a h 46 p))), (0, .ref 44), (1, .int (zI (p)))] [] h76 _
          refine zx_T.j (i := .goto 105) (k := 3) (pc' := 442) (st' := []) (pc := 337) rfl rfl rfl rfl rfl ?_
          refine zx_T.l (i := .aload_n 0) (k := 1) (v := .ref 44) (pc := 442) rfl rfl rfl ?_
          refine zr_gi (k := 26) (lo := 0) (hi := 7) (e := zv_i h76 26) (pc := 443) rfl rfl rfl ih76 rfl (fun g79a g79b => ?_)
          have y82 : zv_a h76 61 8 = zv_a h 61 8 := ((zv_wa w77 rfl 8).trans ((zv_wa w51 rfl 8).trans ((zv_wa w15 rfl 8).trans (zv_wa w2 rfl 8))))
          have ae : ∀ j, 0 ≤ j → zv_a h76 61 j = zv_a h 61 j := fun j hj => by rw [zv_wa w77 rfl j, zv_wa w51 rfl j, zv_wa w15 rfl j, zv_wa w2 rfl j]
          have y84 := zv_ri ih76 (k := 25) rfl
          exact zr_ir (x := zv_i h76 26) (pc := 446) rfl rfl rfl ⟨ih76, ((((w2.wd rfl : zb_W [(44, 25), (44, 26), (61, 0)] h _).tr (w15.wd rfl)).tr (w51.wd rfl)).tr (w77.wd rfl)), _, rfl, by dsimp only; exact ⟨by omega, by omega, by omega, by omega, fun h0 => absurd h0 (by omega)⟩⟩
        · clear x75
          show zx_T zp_P 3 zp_m167 337 [(2, .int (zI (zv_a h 46 p))), (0, .ref 44), (1, .int (zI (p)))] [] h76 _
          refine zx_T.j (i := .goto 105) (k := 3) (pc' := 442) (st' := []) (pc := 337) rfl rfl rfl rfl rfl ?_
          refine zx_T.l (i := .aload_n 0) (k := 1) (v := .ref 44) (pc := 442) rfl rfl rfl ?_
          refine zr_gi (k := 26) (lo := 0) (hi := 7) (e := zv_i h76 26) (pc := 443) rfl rfl rfl ih76 rfl (fun g85a g85b => ?_)
          have y88 : zv_a h76 61 8 = zv_a h 61 8 := ((zv_wa w77 rfl 8).trans ((zv_wa w51 rfl 8).trans ((zv_wa w15 rfl 8).trans (zv_wa w2 rfl 8))))
          have ae : ∀ j, 0 ≤ j → zv_a h76 61 j = zv_a h 61 j := fun j hj => by rw [zv_wa w77 rfl j, zv_wa w51 rfl j, zv_wa w15 rfl j, zv_wa w2 rfl j]
          have y90 := zv_ri ih76 (k := 25) rfl
          exact zr_ir (x := zv_i h76 26) (pc := 446) rfl rfl rfl ⟨ih76, ((((w2.wd rfl : zb_W [(44, 25), (44, 26), (61, 0)] h _).tr (w15.wd rfl)).tr (w51.wd rfl)).tr (w77.wd rfl)), _, rfl, by dsimp only; exact ⟨by omega, by omega, by omega, by omega, fun h0 => ⟨by omega, fun j hj => ⟨fun ho => absurd ho (by omega), fun ho hk => by have b1 := nj3 j; have d1 := an2 j hj; omega, fun ho => absurd ho (by omega), fun ho => absurd ho (by omega), fun ho => absurd ho (by omega)⟩, fun ho j hj j2 j3 => by have d4 := ae j hj; omega, fun ho => absurd ho (by omega)⟩⟩⟩

set_option maxRecDepth 100000 in
set_option maxHeartbeats 20000000 in
theorem zm_does_c19 {h : zx_H} (hI : zb_I zc_H h) {p : Int} (p1 : 0 ≤ p) (p2 : p ≤ 59) (n8 : ¬ zv_a h 61 8 = 3) (ic : zv_a h 45 p = 21 → 5 ≤ zv_a h 46 p ∧ zv_a h 46 p ≤ 8) (ov : zv_a h 45 p = 19) : zx_T zp_P 3 zp_m167 0 [(0, .ref 44), (1, .int (zI (p)))] [] h (zr_R [(44, 25), (44, 26), (61, 0)] h (fun e h' => e = zv_i h' 26 ∧ 0 ≤ e ∧ e ≤ 7 ∧ ¬ zv_a h' 61 8 = 3 ∧ (e = 0 → zg_does (zv_a h 45 p) (zv_a h 46 p) h h'))) := by
  have hS := zv_ri hI (k := 25) rfl
  refine zx_T.l (i := .aload_n 0) (k := 1) (v := .ref 44) (pc := 0) rfl rfl rfl ?_
  refine zx_T.s (i := .iconst 0) (k := 1) (st' := [.int (zI (0)), .ref 44]) (pc := 1) rfl rfl ?_
  refine zr_pi (k := 26) (lo := 0) (hi := 7) (e := 0) (pc := 2) rfl rfl rfl rfl rfl rfl hI (by omega) (by omega) (fun h1 ih1 w2 e3 => ?_)
  refine zx_T.l (i := .aload_n 0) (k := 1) (v := .ref 44) (pc := 5) rfl rfl rfl ?_
  refine zr_gr (k := 3) (b := 46) (pc := 6) rfl rfl rfl ih1 ?_
  refine zx_T.l (i := .iload_n 1) (k := 1) (v := .int (zI (p))) (pc := 9) rfl rfl rfl ?_
  refine zr_al (n := 60) (lo := (-2147483648)) (hi := 2147483647) (e := zv_a h 46 p) (pc := 10) rfl rfl rfl ih1 (by omega) (by omega) (zv_wa w2 rfl p) (fun g4a g4b => ?_)
  refine zx_T.t (i := .istore_n 2) (k := 1) (ls' := [(2, .int (zI (zv_a h 46 p))), (0, .ref 44), (1, .int (zI (p)))]) (st' := []) (pc := 11) rfl rfl rfl rfl ?_
  refine zx_T.l (i := .aload_n 0) (k := 1) (v := .ref 44) (pc := 12) rfl rfl rfl ?_
  refine zr_gr (k := 2) (b := 45) (pc := 13) rfl rfl rfl ih1 ?_
  refine zx_T.l (i := .iload_n 1) (k := 1) (v := .int (zI (p))) (pc := 16) rfl rfl rfl ?_
  refine zr_al (n := 60) (lo := 0) (hi := 28) (e := zv_a h 45 p) (pc := 17) rfl rfl rfl ih1 (by omega) (by omega) (zv_wa w2 rfl p) (fun g5a g5b => ?_)
  have c6 : zv_a h 45 p = 19 := by omega
  rcases c6 with c6
  · refine zr_sw (i := .tableswitch 424 1 28 #[126, 134, 142, 150, 158, 167, 176, 190, 198, 206, 214, 222, 222, 240, 258, 271, 284, 303, 322, 336, 350, 363, 424, 424, 372, 380, 372, 388]) (len := 126) (t := 340) (x := zv_a h 45 p) (k := 19) (pc := 18) rfl c6 rfl rfl rfl rfl ?_
    refine zx_T.l (i := .aload_n 0) (k := 1) (v := .ref 44) (pc := 340) rfl rfl rfl ?_
    refine zx_T.s (i := .bipush 6) (k := 2) (st' := [.int (zI (6)), .ref 44]) (pc := 341) rfl rfl ?_
    have y7 : zv_a h1 61 8 = zv_a h 61 8 := (zv_wa w2 rfl 8)
    have y8 : zv_i h1 25 = zv_i h 25 := (zv_wi w2 rfl)
    have y9 : zv_i h1 26 = 0 := e3
    have an0 : ∀ j, 0 ≤ j → zv_a h1 61 j = zv_a h 61 j := fun j hj => by rw [zv_wa w2 rfl j]
    refine zr_iv (cj := 162) (q' := zp_m162) (As := [.int (zI (6))]) (rest := []) (pc := 343) rfl rfl rfl rfl rfl rfl (Nat.le_of_ble_eq_true rfl) rfl (Nat.le_of_ble_eq_true rfl) ih1 ((zm_need (h := h1) ih1 (w := 6) (by omega) (by omega) (by omega)).up (Nat.le_of_ble_eq_true rfl)) ?_
    rintro r11 h14 ⟨ih14, w15, r11q, x13⟩
    subst r11q
    try dsimp only at x13
    have nj1 := x13.2.2
    rcases zg_n1 x13 (by omega) with q16 | q16 | q16
    · exact False.elim (by omega)
    · clear x13
      show zx_T zp_P 3 zp_m167 346 [(2, .int (zI (zv_a h 46 p))), (0, .ref 44), (1, .int (zI (p)))] [] h14 _
      refine zx_T.l (i := .aload_n 0) (k := 1) (v := .ref 44) (pc := 346) rfl rfl rfl ?_
      refine zx_T.s (i := .iconst 1) (k := 1) (st' := [.int (zI (1)), .ref 44]) (pc := 347) rfl rfl ?_
      have ap : ∀ j, 0 ≤ j → zv_a h14 61 j = zv_a h 61 j := fun j hj => by rw [zv_wa w15 rfl j, zv_wa w2 rfl j]
      have y18 : zv_a h14 61 8 = zv_a h 61 8 := ((zv_wa w15 rfl 8).trans (zv_wa w2 rfl 8))
      refine zr_iv (cj := 163) (q' := zp_m163) (As := [.int (zI (1))]) (rest := []) (pc := 348) rfl rfl rfl rfl rfl rfl (Nat.le_of_ble_eq_true rfl) rfl (Nat.le_of_ble_eq_true rfl) ih14 ((zm_push (h := h14) ih14 (k := 1) (by omega) (by omega) (by omega)).up (Nat.le_of_ble_eq_true rfl)) ?_
      rintro r21 h24 ⟨ih24, w25, r21q, x23⟩
      subst r21q
      try dsimp only at x23
      have pj := x23.2.2.1
      have p8 := x23.2.2.2 (by omega)
      rcases zg_p1 x23 (by omega) with q26 | q26 | q26
      · clear x23
        show zx_T zp_P 3 zp_m167 351 [(2, .int (zI (zv_a h 46 p))), (0, .ref 44), (1, .int (zI (p)))] [] h24 _
        refine zx_T.j (i := .goto 91) (k := 3) (pc' := 442) (st' := []) (pc := 351) rfl rfl rfl rfl rfl ?_
        refine zx_T.l (i := .aload_n 0) (k := 1) (v := .ref 44) (pc := 442) rfl rfl rfl ?_
        refine zr_gi (k := 26) (lo := 0) (hi := 7) (e := zv_i h24 26) (pc := 443) rfl rfl rfl ih24 rfl (fun g27a g27b => ?_)
        have ae : ∀ j, 0 ≤ j → zv_a h24 61 j = zv_a h24 61 j := fun j hj => rfl
        have y32 := zv_ri ih24 (k := 25) rfl
        exact zr_ir (x := zv_i h24 26) (pc := 446) rfl rfl rfl ⟨ih24, (((w2.wd rfl : zb_W [(44, 25), (44, 26), (61, 0)] h _).tr (w15.wd rfl)).tr (w25.wd rfl)), _, rfl, by dsimp only; exact ⟨by omega, by omega, by omega, by omega, fun h0 => absurd h0 (by omega)⟩⟩
      · exact False.elim (by omega)
      · exact False.elim (by omega)
    · clear x13
      show zx_T zp_P 3 zp_m167 346 [(2, .int (zI (zv_a h 46 p))), (0, .ref 44), (1, .int (zI (p)))] [] h14 _
      refine zx_T.l (i := .aload_n 0) (k := 1) (v := .ref 44) (pc := 346) rfl rfl rfl ?_
      refine zx_T.s (i := .iconst 1) (k := 1) (st' := [.int (zI (1)), .ref 44]) (pc := 347) rfl rfl ?_
      have ap : ∀ j, 0 ≤ j → zv_a h14 61 j = zv_a h 61 j := fun j hj => by rw [zv_wa w15 rfl j, zv_wa w2 rfl j]
      have y34 : zv_a h14 61 8 = zv_a h 61 8 := ((zv_wa w15 rfl 8).trans (zv_wa w2 rfl 8))
      refine zr_iv (cj := 163) (q' := zp_m163) (As := [.int (zI (1))]) (rest := []) (pc := 348) rfl rfl rfl rfl rfl rfl (Nat.le_of_ble_eq_true rfl) rfl (Nat.le_of_ble_eq_true rfl) ih14 ((zm_push (h := h14) ih14 (k := 1) (by omega) (by omega) (by omega)).up (Nat.le_of_ble_eq_true rfl)) ?_
      rintro r37 h40 ⟨ih40, w41, r37q, x39⟩
      subst r37q
      try dsimp only at x39
      have pj := x39.2.2.1
      have p8 := x39.2.2.2 (by omega)
      rcases zg_p1 x39 (by omega) with q42 | q42 | q42
      · exact False.elim (by omega)
      · clear x39
        show zx_T zp_P 3 zp_m167 351 [(2, .int (zI (zv_a h 46 p))), (0, .ref 44), (1, .int (zI (p)))] [] h40 _
        refine zx_T.j (i := .goto 91) (k := 3) (pc' := 442) (st' := []) (pc := 351) rfl rfl rfl rfl rfl ?_
        refine zx_T.l (i := .aload_n 0) (k := 1) (v := .ref 44) (pc := 442) rfl rfl rfl ?_
        refine zr_gi (k := 26) (lo := 0) (hi := 7) (e := zv_i h40 26) (pc := 443) rfl rfl rfl ih40 rfl (fun g43a g43b => ?_)
        have ae : ∀ j, 0 ≤ j → zv_a h40 61 j = zv_a h40 61 j := fun j hj => rfl
        have y48 := zv_ri ih40 (k := 25) rfl
        exact zr_ir (x := zv_i h40 26) (pc := 446) rfl rfl rfl ⟨ih40, (((w2.wd rfl : zb_W [(44, 25), (44, 26), (61, 0)] h _).tr (w15.wd rfl)).tr (w41.wd rfl)), _, rfl, by dsimp only; exact ⟨by omega, by omega, by omega, by omega, fun h0 => absurd h0 (by omega)⟩⟩
      · clear x39
        show zx_T zp_P 3 zp_m167 351 [(2, .int (zI (zv_a h 46 p))), (0, .ref 44), (1, .int (zI (p)))] [] h40 _
        refine zx_T.j (i := .goto 91) (k := 3) (pc' := 442) (st' := []) (pc := 351) rfl rfl rfl rfl rfl ?_
        refine zx_T.l (i := .aload_n 0) (k := 1) (v := .ref 44) (pc := 442) rfl rfl rfl ?_
        refine zr_gi (k := 26) (lo := 0) (hi := 7) (e := zv_i h40 26) (pc := 443) rfl rfl rfl ih40 rfl (fun g49a g49b => ?_)
        have ae : ∀ j, 0 ≤ j → zv_a h40 61 j = zv_a h40 61 j := fun j hj => rfl
        have y54 := zv_ri ih40 (k := 25) rfl
        exact zr_ir (x := zv_i h40 26) (pc := 446) rfl rfl rfl ⟨ih40, (((w2.wd rfl : zb_W [(44, 25), (44, 26), (61, 0)] h _).tr (w15.wd rfl)).tr (w41.wd rfl)), _, rfl, by dsimp only; exact ⟨by omega, by omega, by omega, by omega, fun h0 => ⟨by omega, fun j hj => ⟨fun ho => absurd ho (by omega), fun ho => absurd ho (by omega), fun ho hk => by have b1 := nj1 j; have d1 := an0 j hj; omega, fun ho => absurd ho (by omega), fun ho => absurd ho (by omega)⟩, fun ho j hj j2 j3 => by have d5 := ap j hj; have b4 := pj j hj; have r1 : zv_i h14 26 = 0 := (by clear b4; omega); have b5 := b4.1 r1 h0; have b6 := b4.2.1 r1 h0; clear ic; exact if z : j = zv_i h14 25 + 8 then (by have b8 := b5 z; clear b4 b5 b6; exfalso; omega) else (by have b8 := b4.2.2 (fun y => by rcases y.2.2 with y | y; exact z y; exact absurd y.1 (by decide)); clear b4 b5 b6; exact Or.inl ⟨by omega, by omega, fun _ => by omega, fun _ => by omega, fun _ => by omega, fun _ => by omega⟩), fun ho => absurd ho (by omega)⟩⟩⟩

set_option maxRecDepth 100000 in
set_option maxHeartbeats 20000000 in
theorem zm_does_c20 {h : zx_H} (hI : zb_I zc_H h) {p : Int} (p1 : 0 ≤ p) (p2 : p ≤ 59) (n8 : ¬ zv_a h 61 8 = 3) (ic : zv_a h 45 p = 21 → 5 ≤ zv_a h 46 p ∧ zv_a h 46 p ≤ 8) (ov : zv_a h 45 p = 20) : zx_T zp_P 3 zp_m167 0 [(0, .ref 44), (1, .int (zI (p)))] [] h (zr_R [(44, 25), (44, 26), (61, 0)] h (fun e h' => e = zv_i h' 26 ∧ 0 ≤ e ∧ e ≤ 7 ∧ ¬ zv_a h' 61 8 = 3 ∧ (e = 0 → zg_does (zv_a h 45 p) (zv_a h 46 p) h h'))) := by
  have hS := zv_ri hI (k := 25) rfl
  refine zx_T.l (i := .aload_n 0) (k := 1) (v := .ref 44) (pc := 0) rfl rfl rfl ?_
  refine zx_T.s (i := .iconst 0) (k := 1) (st' := [.int (zI (0)), .ref 44]) (pc := 1) rfl rfl ?_
  refine zr_pi (k := 26) (lo := 0) (hi := 7) (e := 0) (pc := 2) rfl rfl rfl rfl rfl rfl hI (by omega) (by omega) (fun h1 ih1 w2 e3 => ?_)
  refine zx_T.l (i := .aload_n 0) (k := 1) (v := .ref 44) (pc := 5) rfl rfl rfl ?_
  refine zr_gr (k := 3) (b := 46) (pc := 6) rfl rfl rfl ih1 ?_
  refine zx_T.l (i := .iload_n 1) (k := 1) (v := .int (zI (p))) (pc := 9) rfl rfl rfl ?_
  refine zr_al (n := 60) (lo := (-2147483648)) (hi := 2147483647) (e := zv_a h 46 p) (pc := 10) rfl rfl rfl ih1 (by omega) (by omega) (zv_wa w2 rfl p) (fun g4a g4b => ?_)
  refine zx_T.t (i := .istore_n 2) (k := 1) (ls' := [(2, .int (zI (zv_a h 46 p))), (0, .ref 44), (1, .int (zI (p)))]) (st' := []) (pc := 11) rfl rfl rfl rfl ?_
  refine zx_T.l (i := .aload_n 0) (k := 1) (v := .ref 44) (pc := 12) rfl rfl rfl ?_
  refine zr_gr (k := 2) (b := 45) (pc := 13) rfl rfl rfl ih1 ?_
  refine zx_T.l (i := .iload_n 1) (k := 1) (v := .int (zI (p))) (pc := 16) rfl rfl rfl ?_
  refine zr_al (n := 60) (lo := 0) (hi := 28) (e := zv_a h 45 p) (pc := 17) rfl rfl rfl ih1 (by omega) (by omega) (zv_wa w2 rfl p) (fun g5a g5b => ?_)
  have c6 : zv_a h 45 p = 20 := by omega
  rcases c6 with c6
  · refine zr_sw (i := .tableswitch 424 1 28 #[126, 134, 142, 150, 158, 167, 176, 190, 198, 206, 214, 222, 222, 240, 258, 271, 284, 303, 322, 336, 350, 363, 424, 424, 372, 380, 372, 388]) (len := 126) (t := 354) (x := zv_a h 45 p) (k := 20) (pc := 18) rfl c6 rfl rfl rfl rfl ?_
    refine zx_T.l (i := .aload_n 0) (k := 1) (v := .ref 44) (pc := 354) rfl rfl rfl ?_
    refine zx_T.s (i := .bipush 7) (k := 2) (st' := [.int (zI (7)), .ref 44]) (pc := 355) rfl rfl ?_
    have y7 : zv_a h1 61 8 = zv_a h 61 8 := (zv_wa w2 rfl 8)
    have y8 : zv_i h1 25 = zv_i h 25 := (zv_wi w2 rfl)
    have y9 : zv_i h1 26 = 0 := e3
    have an0 : ∀ j, 0 ≤ j → zv_a h1 61 j = zv_a h 61 j := fun j hj => by rw [zv_wa w2 rfl j]
    refine zr_iv (cj := 162) (q' := zp_m162) (As := [.int (zI (7))]) (rest := []) (pc := 357) rfl rfl rfl rfl rfl rfl (Nat.le_of_ble_eq_true rfl) rfl (Nat.le_of_ble_eq_true rfl) ih1 ((zm_need (h := h1) ih1 (w := 7) (by omega) (by omega) (by omega)).up (Nat.le_of_ble_eq_true rfl)) ?_
    rintro r11 h14 ⟨ih14, w15, r11q, x13⟩
    subst r11q
    try dsimp only at x13
    have nj1 := x13.2.2
    rcases zg_n1 x13 (by omega) with q16 | q16 | q16
    · exact False.elim (by omega)
    · clear x13
      show zx_T zp_P 3 zp_m167 360 [(2, .int (zI (zv_a h 46 p))), (0, .ref 44), (1, .int (zI (p)))] [] h14 _
      refine zx_T.l (i := .aload_n 0) (k := 1) (v := .ref 44) (pc := 360) rfl rfl rfl ?_
      refine zx_T.s (i := .iconst 1) (k := 1) (st' := [.int (zI (1)), .ref 44]) (pc := 361) rfl rfl ?_
      have ap : ∀ j, 0 ≤ j → zv_a h14 61 j = zv_a h 61 j := fun j hj => by rw [zv_wa w15 rfl j, zv_wa w2 rfl j]
      have y18 : zv_a h14 61 8 = zv_a h 61 8 := ((zv_wa w15 rfl 8).trans (zv_wa w2 rfl 8))
      refine zr_iv (cj := 163) (q' := zp_m163) (As := [.int (zI (1))]) (rest := []) (pc := 362) rfl rfl rfl rfl rfl rfl (Nat.le_of_ble_eq_true rfl) rfl (Nat.le_of_ble_eq_true rfl) ih14 ((zm_push (h := h14) ih14 (k := 1) (by omega) (by omega) (by omega)).up (Nat.le_of_ble_eq_true rfl)) ?_
      rintro r21 h24 ⟨ih24, w25, r21q, x23⟩
      subst r21q
      try dsimp only at x23
      have pj := x23.2.2.1
      have p8 := x23.2.2.2 (by omega)
      rcases zg_p1 x23 (by omega) with q26 | q26 | q26
      · clear x23
        show zx_T zp_P 3 zp_m167 365 [(2, .int (zI (zv_a h 46 p))), (0, .ref 44), (1, .int (zI (p)))] [] h24 _
        refine zx_T.j (i := .goto 77) (k := 3) (pc' := 442) (st' := []) (pc := 365) rfl rfl rfl rfl rfl ?_
        refine zx_T.l (i := .aload_n 0) (k := 1) (v := .ref 44) (pc := 442) rfl rfl rfl ?_
        refine zr_gi (k := 26) (lo := 0) (hi := 7) (e := zv_i h24 26) (pc := 443) rfl rfl rfl ih24 rfl (fun g27a g27b => ?_)
        have ae : ∀ j, 0 ≤ j → zv_a h24 61 j = zv_a h24 61 j := fun j hj => rfl
        have y32 := zv_ri ih24 (k := 25) rfl
        exact zr_ir (x := zv_i h24 26) (pc := 446) rfl rfl rfl ⟨ih24, (((w2.wd rfl : zb_W [(44, 25), (44, 26), (61, 0)] h _).tr (w15.wd rfl)).tr (w25.wd rfl)), _, rfl, by dsimp only; exact ⟨by omega, by omega, by omega, by omega, fun h0 => absurd h0 (by omega)⟩⟩
      · exact False.elim (by omega)
      · exact False.elim (by omega)
    · clear x13
      show zx_T zp_P 3 zp_m167 360 [(2, .int (zI (zv_a h 46 p))), (0, .ref 44), (1, .int (zI (p)))] [] h14 _
      refine zx_T.l (i := .aload_n 0) (k := 1) (v := .ref 44) (pc := 360) rfl rfl rfl ?_
      refine zx_T.s (i := .iconst 1) (k := 1) (st' := [.int (zI (1)), .ref 44]) (pc := 361) rfl rfl ?_
      have ap : ∀ j, 0 ≤ j → zv_a h14 61 j = zv_a h 61 j := fun j hj => by rw [zv_wa w15 rfl j, zv_wa w2 rfl j]
      have y34 : zv_a h14 61 8 = zv_a h 61 8 := ((zv_wa w15 rfl 8).trans (zv_wa w2 rfl 8))
      refine zr_iv (cj := 163) (q' := zp_m163) (As := [.int (zI (1))]) (rest := []) (pc := 362) rfl rfl rfl rfl rfl rfl (Nat.le_of_ble_eq_true rfl) rfl (Nat.le_of_ble_eq_true rfl) ih14 ((zm_push (h := h14) ih14 (k := 1) (by omega) (by omega) (by omega)).up (Nat.le_of_ble_eq_true rfl)) ?_
      rintro r37 h40 ⟨ih40, w41, r37q, x39⟩
      subst r37q
      try dsimp only at x39
      have pj := x39.2.2.1
      have p8 := x39.2.2.2 (by omega)
      rcases zg_p1 x39 (by omega) with q42 | q42 | q42
      · exact False.elim (by omega)
      · clear x39
        show zx_T zp_P 3 zp_m167 365 [(2, .int (zI (zv_a h 46 p))), (0, .ref 44), (1, .int (zI (p)))] [] h40 _
        refine zx_T.j (i := .goto 77) (k := 3) (pc' := 442) (st' := []) (pc := 365) rfl rfl rfl rfl rfl ?_
        refine zx_T.l (i := .aload_n 0) (k := 1) (v := .ref 44) (pc := 442) rfl rfl rfl ?_
        refine zr_gi (k := 26) (lo := 0) (hi := 7) (e := zv_i h40 26) (pc := 443) rfl rfl rfl ih40 rfl (fun g43a g43b => ?_)
        have ae : ∀ j, 0 ≤ j → zv_a h40 61 j = zv_a h40 61 j := fun j hj => rfl
        have y48 := zv_ri ih40 (k := 25) rfl
        exact zr_ir (x := zv_i h40 26) (pc := 446) rfl rfl rfl ⟨ih40, (((w2.wd rfl : zb_W [(44, 25), (44, 26), (61, 0)] h _).tr (w15.wd rfl)).tr (w41.wd rfl)), _, rfl, by dsimp only; exact ⟨by omega, by omega, by omega, by omega, fun h0 => absurd h0 (by omega)⟩⟩
      · clear x39
        show zx_T zp_P 3 zp_m167 365 [(2, .int (zI (zv_a h 46 p))), (0, .ref 44), (1, .int (zI (p)))] [] h40 _
        refine zx_T.j (i := .goto 77) (k := 3) (pc' := 442) (st' := []) (pc := 365) rfl rfl rfl rfl rfl ?_
        refine zx_T.l (i := .aload_n 0) (k := 1) (v := .ref 44) (pc := 442) rfl rfl rfl ?_
        refine zr_gi (k := 26) (lo := 0) (hi := 7) (e := zv_i h40 26) (pc := 443) rfl rfl rfl ih40 rfl (fun g49a g49b => ?_)
        have ae : ∀ j, 0 ≤ j → zv_a h40 61 j = zv_a h40 61 j := fun j hj => rfl
        have y54 := zv_ri ih40 (k := 25) rfl
        exact zr_ir (x := zv_i h40 26) (pc := 446) rfl rfl rfl ⟨ih40, (((w2.wd rfl : zb_W [(44, 25), (44, 26), (61, 0)] h _).tr (w15.wd rfl)).tr (w41.wd rfl)), _, rfl, by dsimp only; exact ⟨by omega, by omega, by omega, by omega, fun h0 => ⟨by omega, fun j hj => ⟨fun ho => absurd ho (by omega), fun ho => absurd ho (by omega), fun ho => absurd ho (by omega), fun ho hk => by have b1 := nj1 j; have d1 := an0 j hj; omega, fun ho => absurd ho (by omega)⟩, fun ho j hj j2 j3 => by have d5 := ap j hj; have b4 := pj j hj; have r1 : zv_i h14 26 = 0 := (by clear b4; omega); have b5 := b4.1 r1 h0; have b6 := b4.2.1 r1 h0; clear ic; exact if z : j = zv_i h14 25 + 8 then (by have b8 := b5 z; clear b4 b5 b6; exfalso; omega) else (by have b8 := b4.2.2 (fun y => by rcases y.2.2 with y | y; exact z y; exact absurd y.1 (by decide)); clear b4 b5 b6; exact Or.inl ⟨by omega, by omega, fun _ => by omega, fun _ => by omega, fun _ => by omega, fun _ => by omega⟩), fun ho => absurd ho (by omega)⟩⟩⟩

set_option maxRecDepth 100000 in
set_option maxHeartbeats 20000000 in
theorem zm_does_c21 {h : zx_H} (hI : zb_I zc_H h) {p : Int} (p1 : 0 ≤ p) (p2 : p ≤ 59) (n8 : ¬ zv_a h 61 8 = 3) (ic : zv_a h 45 p = 21 → 5 ≤ zv_a h 46 p ∧ zv_a h 46 p ≤ 8) (ov : zv_a h 45 p = 21) : zx_T zp_P 3 zp_m167 0 [(0, .ref 44), (1, .int (zI (p)))] [] h (zr_R [(44, 25), (44, 26), (61, 0)] h (fun e h' => e = zv_i h' 26 ∧ 0 ≤ e ∧ e ≤ 7 ∧ ¬ zv_a h' 61 8 = 3 ∧ (e = 0 → zg_does (zv_a h 45 p) (zv_a h 46 p) h h'))) := by
  have hS := zv_ri hI (k := 25) rfl
  refine zx_T.l (i := .aload_n 0) (k := 1) (v := .ref 44) (pc := 0) rfl rfl rfl ?_
  refine zx_T.s (i := .iconst 0) (k := 1) (st' := [.int (zI (0)), .ref 44]) (pc := 1) rfl rfl ?_
  refine zr_pi (k := 26) (lo := 0) (hi := 7) (e := 0) (pc := 2) rfl rfl rfl rfl rfl rfl hI (by omega) (by omega) (fun h1 ih1 w2 e3 => ?_)
  refine zx_T.l (i := .aload_n 0) (k := 1) (v := .ref 44) (pc := 5) rfl rfl rfl ?_
  refine zr_gr (k := 3) (b := 46) (pc := 6) rfl rfl rfl ih1 ?_
  refine zx_T.l (i := .iload_n 1) (k := 1) (v := .int (zI (p))) (pc := 9) rfl rfl rfl ?_
  refine zr_al (n := 60) (lo := (-2147483648)) (hi := 2147483647) (e := zv_a h 46 p) (pc := 10) rfl rfl rfl ih1 (by omega) (by omega) (zv_wa w2 rfl p) (fun g4a g4b => ?_)
  refine zx_T.t (i := .istore_n 2) (k := 1) (ls' := [(2, .int (zI (zv_a h 46 p))), (0, .ref 44), (1, .int (zI (p)))]) (st' := []) (pc := 11) rfl rfl rfl rfl ?_
  refine zx_T.l (i := .aload_n 0) (k := 1) (v := .ref 44) (pc := 12) rfl rfl rfl ?_
  refine zr_gr (k := 2) (b := 45) (pc := 13) rfl rfl rfl ih1 ?_
  refine zx_T.l (i := .iload_n 1) (k := 1) (v := .int (zI (p))) (pc := 16) rfl rfl rfl ?_
  refine zr_al (n := 60) (lo := 0) (hi := 28) (e := zv_a h 45 p) (pc := 17) rfl rfl rfl ih1 (by omega) (by omega) (zv_wa w2 rfl p) (fun g5a g5b => ?_)
  have c6 : zv_a h 45 p = 21 := by omega
  rcases c6 with c6
  · refine zr_sw (i := .tableswitch 424 1 28 #[126, 134, 142, 150, 158, 167, 176, 190, 198, 206, 214, 222, 222, 240, 258, 271, 284, 303, 322, 336, 350, 363, 424, 424, 372, 380, 372, 388]) (len := 126) (t := 368) (x := zv_a h 45 p) (k := 21) (pc := 18) rfl c6 rfl rfl rfl rfl ?_
    refine zx_T.l (i := .aload_n 0) (k := 1) (v := .ref 44) (pc := 368) rfl rfl rfl ?_
    refine zx_T.s (i := .iconst 5) (k := 1) (st' := [.int (zI (5)), .ref 44]) (pc := 369) rfl rfl ?_
    have y7 : zv_a h1 61 8 = zv_a h 61 8 := (zv_wa w2 rfl 8)
    have y8 : zv_i h1 25 = zv_i h 25 := (zv_wi w2 rfl)
    have y9 : zv_i h1 26 = 0 := e3
    have an0 : ∀ j, 0 ≤ j → zv_a h1 61 j = zv_a h 61 j := fun j hj => by rw [zv_wa w2 rfl j]
    refine zr_iv (cj := 162) (q' := zp_m162) (As := [.int (zI (5))]) (rest := []) (pc := 370) rfl rfl rfl rfl rfl rfl (Nat.le_of_ble_eq_true rfl) rfl (Nat.le_of_ble_eq_true rfl) ih1 ((zm_need (h := h1) ih1 (w := 5) (by omega) (by omega) (by omega)).up (Nat.le_of_ble_eq_true rfl)) ?_
    rintro r11 h14 ⟨ih14, w15, r11q, x13⟩
    subst r11q
    try dsimp only at x13
    have nj1 := x13.2.2
    rcases zg_n1 x13 (by omega) with q16 | q16 | q16
    · exact False.elim (by omega)
    · clear x13
      show zx_T zp_P 3 zp_m167 373 [(2, .int (zI (zv_a h 46 p))), (0, .ref 44), (1, .int (zI (p)))] [] h14 _
      refine zx_T.l (i := .aload_n 0) (k := 1) (v := .ref 44) (pc := 373) rfl rfl rfl ?_
      refine zx_T.l (i := .iload_n 2) (k := 1) (v := .int (zI (zv_a h 46 p))) (pc := 374) rfl rfl rfl ?_
      have ap : ∀ j, 0 ≤ j → zv_a h14 61 j = zv_a h 61 j := fun j hj => by rw [zv_wa w15 rfl j, zv_wa w2 rfl j]
      have y18 : zv_a h14 61 8 = zv_a h 61 8 := ((zv_wa w15 rfl 8).trans (zv_wa w2 rfl 8))
      refine zr_iv (cj := 163) (q' := zp_m163) (As := [.int (zI (zv_a h 46 p))]) (rest := []) (pc := 375) rfl rfl rfl rfl rfl rfl (Nat.le_of_ble_eq_true rfl) rfl (Nat.le_of_ble_eq_true rfl) ih14 ((zm_push (h := h14) ih14 (k := zv_a h 46 p) (by omega) (by omega) (by omega)).up (Nat.le_of_ble_eq_true rfl)) ?_
      rintro r21 h24 ⟨ih24, w25, r21q, x23⟩
      subst r21q
      try dsimp only at x23
      have pj := x23.2.2.1
      have p8 := x23.2.2.2 (by omega)
      rcases zg_p1 x23 (by omega) with q26 | q26 | q26
      · clear x23
        show zx_T zp_P 3 zp_m167 378 [(2, .int (zI (zv_a h 46 p))), (0, .ref 44), (1, .int (zI (p)))] [] h24 _
        refine zx_T.j (i := .goto 64) (k := 3) (pc' := 442) (st' := []) (pc := 378) rfl rfl rfl rfl rfl ?_
        refine zx_T.l (i := .aload_n 0) (k := 1) (v := .ref 44) (pc := 442) rfl rfl rfl ?_
        refine zr_gi (k := 26) (lo := 0) (hi := 7) (e := zv_i h24 26) (pc := 443) rfl rfl rfl ih24 rfl (fun g27a g27b => ?_)
        have ae : ∀ j, 0 ≤ j → zv_a h24 61 j = zv_a h24 61 j := fun j hj => rfl
        have y32 := zv_ri ih24 (k := 25) rfl
        exact zr_ir (x := zv_i h24 26) (pc := 446) rfl rfl rfl ⟨ih24, (((w2.wd rfl : zb_W [(44, 25), (44, 26), (61, 0)] h _).tr (w15.wd rfl)).tr (w25.wd rfl)), _, rfl, by dsimp only; exact ⟨by omega, by omega, by omega, by omega, fun h0 => absurd h0 (by omega)⟩⟩
      · exact False.elim (by omega)
      · exact False.elim (by omega)
    · clear x13
      show zx_T zp_P 3 zp_m167 373 [(2, .int (zI (zv_a h 46 p))), (0, .ref 44), (1, .int (zI (p)))] [] h14 _
      refine zx_T.l (i := .aload_n 0) (k := 1) (v := .ref 44) (pc := 373) rfl rfl rfl ?_
      refine zx_T.l (i := .iload_n 2) (k := 1) (v := .int (zI (zv_a h 46 p))) (pc := 374) rfl rfl rfl ?_
      have ap : ∀ j, 0 ≤ j → zv_a h14 61 j = zv_a h 61 j := fun j hj => by rw [zv_wa w15 rfl j, zv_wa w2 rfl j]
      have y34 : zv_a h14 61 8 = zv_a h 61 8 := ((zv_wa w15 rfl 8).trans (zv_wa w2 rfl 8))
      refine zr_iv (cj := 163) (q' := zp_m163) (As := [.int (zI (zv_a h 46 p))]) (rest := []) (pc := 375) rfl rfl rfl rfl rfl rfl (Nat.le_of_ble_eq_true rfl) rfl (Nat.le_of_ble_eq_true rfl) ih14 ((zm_push (h := h14) ih14 (k := zv_a h 46 p) (by omega) (by omega) (by omega)).up (Nat.le_of_ble_eq_true rfl)) ?_
      rintro r37 h40 ⟨ih40, w41, r37q, x39⟩
      subst r37q
      try dsimp only at x39
      have pj := x39.2.2.1
      have p8 := x39.2.2.2 (by omega)
      rcases zg_p1 x39 (by omega) with q42 | q42 | q42
      · exact False.elim (by omega)
      · clear x39
        show zx_T zp_P 3 zp_m167 378 [(2, .int (zI (zv_a h 46 p))), (0, .ref 44), (1, .int (zI (p)))] [] h40 _
        refine zx_T.j (i := .goto 64) (k := 3) (pc' := 442) (st' := []) (pc := 378) rfl rfl rfl rfl rfl ?_
        refine zx_T.l (i := .aload_n 0) (k := 1) (v := .ref 44) (pc := 442) rfl rfl rfl ?_
        refine zr_gi (k := 26) (lo := 0) (hi := 7) (e := zv_i h40 26) (pc := 443) rfl rfl rfl ih40 rfl (fun g43a g43b => ?_)
        have ae : ∀ j, 0 ≤ j → zv_a h40 61 j = zv_a h40 61 j := fun j hj => rfl
        have y48 := zv_ri ih40 (k := 25) rfl
        exact zr_ir (x := zv_i h40 26) (pc := 446) rfl rfl rfl ⟨ih40, (((w2.wd rfl : zb_W [(44, 25), (44, 26), (61, 0)] h _).tr (w15.wd rfl)).tr (w41.wd rfl)), _, rfl, by dsimp only; exact ⟨by omega, by omega, by omega, by omega, fun h0 => absurd h0 (by omega)⟩⟩
      · clear x39
        show zx_T zp_P 3 zp_m167 378 [(2, .int (zI (zv_a h 46 p))), (0, .ref 44), (1, .int (zI (p)))] [] h40 _
        refine zx_T.j (i := .goto 64) (k := 3) (pc' := 442) (st' := []) (pc := 378) rfl rfl rfl rfl rfl ?_
        refine zx_T.l (i := .aload_n 0) (k := 1) (v := .ref 44) (pc := 442) rfl rfl rfl ?_
        refine zr_gi (k := 26) (lo := 0) (hi := 7) (e := zv_i h40 26) (pc := 443) rfl rfl rfl ih40 rfl (fun g49a g49b => ?_)
        have ae : ∀ j, 0 ≤ j → zv_a h40 61 j = zv_a h40 61 j := fun j hj => rfl
        have y54 := zv_ri ih40 (k := 25) rfl
        exact zr_ir (x := zv_i h40 26) (pc := 446) rfl rfl rfl ⟨ih40, (((w2.wd rfl : zb_W [(44, 25), (44, 26), (61, 0)] h _).tr (w15.wd rfl)).tr (w41.wd rfl)), _, rfl, by dsimp only; exact ⟨by omega, by omega, by omega, by omega, fun h0 => ⟨by omega, fun j hj => ⟨fun ho => absurd ho (by omega), fun ho => absurd ho (by omega), fun ho => absurd ho (by omega), fun ho => absurd ho (by omega), fun ho hk => by have b1 := nj1 j; have d1 := an0 j hj; omega⟩, fun ho j hj j2 j3 => by have d5 := ap j hj; have b4 := pj j hj; have r1 : zv_i h14 26 = 0 := (by clear b4; omega); have b5 := b4.1 r1 h0; have b6 := b4.2.1 r1 h0; exact if z : j = zv_i h14 25 + 8 then (by have b8 := b5 z; clear b4 b5 b6; exact Or.inr (Or.inr (Or.inr (Or.inr ⟨by omega, by omega⟩)))) else (by have b8 := b4.2.2 (fun y => by rcases y.2.2 with y | y; exact z y; exact absurd y.1 (by omega)); clear b4 b5 b6; exact Or.inl ⟨by omega, by omega, fun _ => by omega, fun _ => by omega, fun _ => by omega, fun _ => by omega⟩), fun ho => absurd ho (by omega)⟩⟩⟩

set_option maxRecDepth 100000 in
set_option maxHeartbeats 20000000 in
theorem zm_does_c22 {h : zx_H} (hI : zb_I zc_H h) {p : Int} (p1 : 0 ≤ p) (p2 : p ≤ 59) (n8 : ¬ zv_a h 61 8 = 3) (ic : zv_a h 45 p = 21 → 5 ≤ zv_a h 46 p ∧ zv_a h 46 p ≤ 8) (ov : zv_a h 45 p = 22) : zx_T zp_P 3 zp_m167 0 [(0, .ref 44), (1, .int (zI (p)))] [] h (zr_R [(44, 25), (44, 26), (61, 0)] h (fun e h' => e = zv_i h' 26 ∧ 0 ≤ e ∧ e ≤ 7 ∧ ¬ zv_a h' 61 8 = 3 ∧ (e = 0 → zg_does (zv_a h 45 p) (zv_a h 46 p) h h'))) := by
  have hS := zv_ri hI (k := 25) rfl
  refine zx_T.l (i := .aload_n 0) (k := 1) (v := .ref 44) (pc := 0) rfl rfl rfl ?_
  refine zx_T.s (i := .iconst 0) (k := 1) (st' := [.int (zI (0)), .ref 44]) (pc := 1) rfl rfl ?_
  refine zr_pi (k := 26) (lo := 0) (hi := 7) (e := 0) (pc := 2) rfl rfl rfl rfl rfl rfl hI (by omega) (by omega) (fun h1 ih1 w2 e3 => ?_)
  refine zx_T.l (i := .aload_n 0) (k := 1) (v := .ref 44) (pc := 5) rfl rfl rfl ?_
  refine zr_gr (k := 3) (b := 46) (pc := 6) rfl rfl rfl ih1 ?_
  refine zx_T.l (i := .iload_n 1) (k := 1) (v := .int (zI (p))) (pc := 9) rfl rfl rfl ?_
  refine zr_al (n := 60) (lo := (-2147483648)) (hi := 2147483647) (e := zv_a h 46 p) (pc := 10) rfl rfl rfl ih1 (by omega) (by omega) (zv_wa w2 rfl p) (fun g4a g4b => ?_)
  refine zx_T.t (i := .istore_n 2) (k := 1) (ls' := [(2, .int (zI (zv_a h 46 p))), (0, .ref 44), (1, .int (zI (p)))]) (st' := []) (pc := 11) rfl rfl rfl rfl ?_
  refine zx_T.l (i := .aload_n 0) (k := 1) (v := .ref 44) (pc := 12) rfl rfl rfl ?_
  refine zr_gr (k := 2) (b := 45) (pc := 13) rfl rfl rfl ih1 ?_
  refine zx_T.l (i := .iload_n 1) (k := 1) (v := .int (zI (p))) (pc := 16) rfl rfl rfl ?_
  refine zr_al (n := 60) (lo := 0) (hi := 28) (e := zv_a h 45 p) (pc := 17) rfl rfl rfl ih1 (by omega) (by omega) (zv_wa w2 rfl p) (fun g5a g5b => ?_)
  have c6 : zv_a h 45 p = 22 := by omega
  rcases c6 with c6
  · refine zr_sw (i := .tableswitch 424 1 28 #[126, 134, 142, 150, 158, 167, 176, 190, 198, 206, 214, 222, 222, 240, 258, 271, 284, 303, 322, 336, 350, 363, 424, 424, 372, 380, 372, 388]) (len := 126) (t := 381) (x := zv_a h 45 p) (k := 22) (pc := 18) rfl c6 rfl rfl rfl rfl ?_
    refine zx_T.l (i := .aload_n 0) (k := 1) (v := .ref 44) (pc := 381) rfl rfl rfl ?_
    refine zx_T.s (i := .bipush 7) (k := 2) (st' := [.int (zI (7)), .ref 44]) (pc := 382) rfl rfl ?_
    have y7 : zv_a h1 61 8 = zv_a h 61 8 := (zv_wa w2 rfl 8)
    have y8 : zv_i h1 25 = zv_i h 25 := (zv_wi w2 rfl)
    have y9 : zv_i h1 26 = 0 := e3
    have an0 : ∀ j, 0 ≤ j → zv_a h1 61 j = zv_a h 61 j := fun j hj => by rw [zv_wa w2 rfl j]
    refine zr_iv (cj := 162) (q' := zp_m162) (As := [.int (zI (7))]) (rest := []) (pc := 384) rfl rfl rfl rfl rfl rfl (Nat.le_of_ble_eq_true rfl) rfl (Nat.le_of_ble_eq_true rfl) ih1 ((zm_need (h := h1) ih1 (w := 7) (by omega) (by omega) (by omega)).up (Nat.le_of_ble_eq_true rfl)) ?_
    rintro r11 h14 ⟨ih14, w15, r11q, x13⟩
    subst r11q
    try dsimp only at x13
    have nj1 := x13.2.2
    rcases zg_n1 x13 (by omega) with q16 | q16 | q16
    · exact False.elim (by omega)
    · clear x13
      show zx_T zp_P 3 zp_m167 387 [(2, .int (zI (zv_a h 46 p))), (0, .ref 44), (1, .int (zI (p)))] [] h14 _
      refine zx_T.j (i := .goto 55) (k := 3) (pc' := 442) (st' := []) (pc := 387) rfl rfl rfl rfl rfl ?_
      refine zx_T.l (i := .aload_n 0) (k := 1) (v := .ref 44) (pc := 442) rfl rfl rfl ?_
      refine zr_gi (k := 26) (lo := 0) (hi := 7) (e := zv_i h14 26) (pc := 443) rfl rfl rfl ih14 rfl (fun g17a g17b => ?_)
      have y20 : zv_a h14 61 8 = zv_a h 61 8 := ((zv_wa w15 rfl 8).trans (zv_wa w2 rfl 8))
      have ae : ∀ j, 0 ≤ j → zv_a h14 61 j = zv_a h 61 j := fun j hj => by rw [zv_wa w15 rfl j, zv_wa w2 rfl j]
      have y22 := zv_ri ih14 (k := 25) rfl
      exact zr_ir (x := zv_i h14 26) (pc := 446) rfl rfl rfl ⟨ih14, ((w2.wd rfl : zb_W [(44, 25), (44, 26), (61, 0)] h _).tr (w15.wd rfl)), _, rfl, by dsimp only; exact ⟨by omega, by omega, by omega, by omega, fun h0 => absurd h0 (by omega)⟩⟩
    · clear x13
      show zx_T zp_P 3 zp_m167 387 [(2, .int (zI (zv_a h 46 p))), (0, .ref 44), (1, .int (zI (p)))] [] h14 _
      refine zx_T.j (i := .goto 55) (k := 3) (pc' := 442) (st' := []) (pc := 387) rfl rfl rfl rfl rfl ?_
      refine zx_T.l (i := .aload_n 0) (k := 1) (v := .ref 44) (pc := 442) rfl rfl rfl ?_
      refine zr_gi (k := 26) (lo := 0) (hi := 7) (e := zv_i h14 26) (pc := 443) rfl rfl rfl ih14 rfl (fun g23a g23b => ?_)
      have y26 : zv_a h14 61 8 = zv_a h 61 8 := ((zv_wa w15 rfl 8).trans (zv_wa w2 rfl 8))
      have ae : ∀ j, 0 ≤ j → zv_a h14 61 j = zv_a h 61 j := fun j hj => by rw [zv_wa w15 rfl j, zv_wa w2 rfl j]
      have y28 := zv_ri ih14 (k := 25) rfl
      exact zr_ir (x := zv_i h14 26) (pc := 446) rfl rfl rfl ⟨ih14, ((w2.wd rfl : zb_W [(44, 25), (44, 26), (61, 0)] h _).tr (w15.wd rfl)), _, rfl, by dsimp only; exact ⟨by omega, by omega, by omega, by omega, fun h0 => ⟨by omega, fun j hj => ⟨fun ho => absurd ho (by omega), fun ho => absurd ho (by omega), fun ho => absurd ho (by omega), fun ho hk => by have b1 := nj1 j; have d1 := an0 j hj; omega, fun ho => absurd ho (by omega)⟩, fun ho j hj j2 j3 => by have d4 := ae j hj; omega, fun ho => absurd ho (by omega)⟩⟩⟩

set_option maxRecDepth 100000 in
set_option maxHeartbeats 20000000 in
theorem zm_does_c23 {h : zx_H} (hI : zb_I zc_H h) {p : Int} (p1 : 0 ≤ p) (p2 : p ≤ 59) (n8 : ¬ zv_a h 61 8 = 3) (ic : zv_a h 45 p = 21 → 5 ≤ zv_a h 46 p ∧ zv_a h 46 p ≤ 8) (ov : zv_a h 45 p = 23) : zx_T zp_P 3 zp_m167 0 [(0, .ref 44), (1, .int (zI (p)))] [] h (zr_R [(44, 25), (44, 26), (61, 0)] h (fun e h' => e = zv_i h' 26 ∧ 0 ≤ e ∧ e ≤ 7 ∧ ¬ zv_a h' 61 8 = 3 ∧ (e = 0 → zg_does (zv_a h 45 p) (zv_a h 46 p) h h'))) := by
  have hS := zv_ri hI (k := 25) rfl
  refine zx_T.l (i := .aload_n 0) (k := 1) (v := .ref 44) (pc := 0) rfl rfl rfl ?_
  refine zx_T.s (i := .iconst 0) (k := 1) (st' := [.int (zI (0)), .ref 44]) (pc := 1) rfl rfl ?_
  refine zr_pi (k := 26) (lo := 0) (hi := 7) (e := 0) (pc := 2) rfl rfl rfl rfl rfl rfl hI (by omega) (by omega) (fun h1 ih1 w2 e3 => ?_)
  refine zx_T.l (i := .aload_n 0) (k := 1) (v := .ref 44) (pc := 5) rfl rfl rfl ?_
  refine zr_gr (k := 3) (b := 46) (pc := 6) rfl rfl rfl ih1 ?_
  refine zx_T.l (i := .iload_n 1) (k := 1) (v := .int (zI (p))) (pc := 9) rfl rfl rfl ?_
  refine zr_al (n := 60) (lo := (-2147483648)) (hi := 2147483647) (e := zv_a h 46 p) (pc := 10) rfl rfl rfl ih1 (by omega) (by omega) (zv_wa w2 rfl p) (fun g4a g4b => ?_)
  refine zx_T.t (i := .istore_n 2) (k := 1) (ls' := [(2, .int (zI (zv_a h 46 p))), (0, .ref 44), (1, .int (zI (p)))]) (st' := []) (pc := 11) rfl rfl rfl rfl ?_
  refine zx_T.l (i := .aload_n 0) (k := 1) (v := .ref 44) (pc := 12) rfl rfl rfl ?_
  refine zr_gr (k := 2) (b := 45) (pc := 13) rfl rfl rfl ih1 ?_
  refine zx_T.l (i := .iload_n 1) (k := 1) (v := .int (zI (p))) (pc := 16) rfl rfl rfl ?_
  refine zr_al (n := 60) (lo := 0) (hi := 28) (e := zv_a h 45 p) (pc := 17) rfl rfl rfl ih1 (by omega) (by omega) (zv_wa w2 rfl p) (fun g5a g5b => ?_)
  have c6 : zv_a h 45 p = 23 := by omega
  rcases c6 with c6
  · refine zr_sw (i := .tableswitch 424 1 28 #[126, 134, 142, 150, 158, 167, 176, 190, 198, 206, 214, 222, 222, 240, 258, 271, 284, 303, 322, 336, 350, 363, 424, 424, 372, 380, 372, 388]) (len := 126) (t := 442) (x := zv_a h 45 p) (k := 23) (pc := 18) rfl c6 rfl rfl rfl rfl ?_
    refine zx_T.l (i := .aload_n 0) (k := 1) (v := .ref 44) (pc := 442) rfl rfl rfl ?_
    refine zr_gi (k := 26) (lo := 0) (hi := 7) (e := 0) (pc := 443) rfl rfl rfl ih1 e3 (fun g7a g7b => ?_)
    have y8 : zv_i h1 25 = zv_i h 25 := (zv_wi w2 rfl)
    have y9 : zv_i h1 26 = 0 := e3
    have y10 : zv_a h1 61 8 = zv_a h 61 8 := (zv_wa w2 rfl 8)
    have ae : ∀ j, 0 ≤ j → zv_a h1 61 j = zv_a h 61 j := fun j hj => by rw [zv_wa w2 rfl j]
    have y12 := zv_ri ih1 (k := 25) rfl
    exact zr_ir (x := 0) (pc := 446) rfl rfl rfl ⟨ih1, (w2.wd rfl : zb_W [(44, 25), (44, 26), (61, 0)] h _), _, rfl, by dsimp only; exact ⟨by omega, by omega, by omega, by omega, fun h0 => ⟨by omega, fun j hj => ⟨fun ho => absurd ho (by omega), fun ho => absurd ho (by omega), fun ho => absurd ho (by omega), fun ho => absurd ho (by omega), fun ho => absurd ho (by omega)⟩, fun ho j hj j2 j3 => by have d4 := ae j hj; omega, fun ho => absurd ho (by omega)⟩⟩⟩

set_option maxRecDepth 100000 in
set_option maxHeartbeats 20000000 in
theorem zm_does_c24 {h : zx_H} (hI : zb_I zc_H h) {p : Int} (p1 : 0 ≤ p) (p2 : p ≤ 59) (n8 : ¬ zv_a h 61 8 = 3) (ic : zv_a h 45 p = 21 → 5 ≤ zv_a h 46 p ∧ zv_a h 46 p ≤ 8) (ov : zv_a h 45 p = 24) : zx_T zp_P 3 zp_m167 0 [(0, .ref 44), (1, .int (zI (p)))] [] h (zr_R [(44, 25), (44, 26), (61, 0)] h (fun e h' => e = zv_i h' 26 ∧ 0 ≤ e ∧ e ≤ 7 ∧ ¬ zv_a h' 61 8 = 3 ∧ (e = 0 → zg_does (zv_a h 45 p) (zv_a h 46 p) h h'))) := by
  have hS := zv_ri hI (k := 25) rfl
  refine zx_T.l (i := .aload_n 0) (k := 1) (v := .ref 44) (pc := 0) rfl rfl rfl ?_
  refine zx_T.s (i := .iconst 0) (k := 1) (st' := [.int (zI (0)), .ref 44]) (pc := 1) rfl rfl ?_
  refine zr_pi (k := 26) (lo := 0) (hi := 7) (e := 0) (pc := 2) rfl rfl rfl rfl rfl rfl hI (by omega) (by omega) (fun h1 ih1 w2 e3 => ?_)
  refine zx_T.l (i := .aload_n 0) (k := 1) (v := .ref 44) (pc := 5) rfl rfl rfl ?_
  refine zr_gr (k := 3) (b := 46) (pc := 6) rfl rfl rfl ih1 ?_
  refine zx_T.l (i := .iload_n 1) (k := 1) (v := .int (zI (p))) (pc := 9) rfl rfl rfl ?_
  refine zr_al (n := 60) (lo := (-2147483648)) (hi := 2147483647) (e := zv_a h 46 p) (pc := 10) rfl rfl rfl ih1 (by omega) (by omega) (zv_wa w2 rfl p) (fun g4a g4b => ?_)
  refine zx_T.t (i := .istore_n 2) (k := 1) (ls' := [(2, .int (zI (zv_a h 46 p))), (0, .ref 44), (1, .int (zI (p)))]) (st' := []) (pc := 11) rfl rfl rfl rfl ?_
  refine zx_T.l (i := .aload_n 0) (k := 1) (v := .ref 44) (pc := 12) rfl rfl rfl ?_
  refine zr_gr (k := 2) (b := 45) (pc := 13) rfl rfl rfl ih1 ?_
  refine zx_T.l (i := .iload_n 1) (k := 1) (v := .int (zI (p))) (pc := 16) rfl rfl rfl ?_
  refine zr_al (n := 60) (lo := 0) (hi := 28) (e := zv_a h 45 p) (pc := 17) rfl rfl rfl ih1 (by omega) (by omega) (zv_wa w2 rfl p) (fun g5a g5b => ?_)
  have c6 : zv_a h 45 p = 24 := by omega
  rcases c6 with c6
  · refine zr_sw (i := .tableswitch 424 1 28 #[126, 134, 142, 150, 158, 167, 176, 190, 198, 206, 214, 222, 222, 240, 258, 271, 284, 303, 322, 336, 350, 363, 424, 424, 372, 380, 372, 388]) (len := 126) (t := 442) (x := zv_a h 45 p) (k := 24) (pc := 18) rfl c6 rfl rfl rfl rfl ?_
    refine zx_T.l (i := .aload_n 0) (k := 1) (v := .ref 44) (pc := 442) rfl rfl rfl ?_
    refine zr_gi (k := 26) (lo := 0) (hi := 7) (e := 0) (pc := 443) rfl rfl rfl ih1 e3 (fun g7a g7b => ?_)
    have y8 : zv_i h1 25 = zv_i h 25 := (zv_wi w2 rfl)
    have y9 : zv_i h1 26 = 0 := e3
    have y10 : zv_a h1 61 8 = zv_a h 61 8 := (zv_wa w2 rfl 8)
    have ae : ∀ j, 0 ≤ j → zv_a h1 61 j = zv_a h 61 j := fun j hj => by rw [zv_wa w2 rfl j]
    have y12 := zv_ri ih1 (k := 25) rfl
    exact zr_ir (x := 0) (pc := 446) rfl rfl rfl ⟨ih1, (w2.wd rfl : zb_W [(44, 25), (44, 26), (61, 0)] h _), _, rfl, by dsimp only; exact ⟨by omega, by omega, by omega, by omega, fun h0 => ⟨by omega, fun j hj => ⟨fun ho => absurd ho (by omega), fun ho => absurd ho (by omega), fun ho => absurd ho (by omega), fun ho => absurd ho (by omega), fun ho => absurd ho (by omega)⟩, fun ho j hj j2 j3 => by have d4 := ae j hj; omega, fun ho => absurd ho (by omega)⟩⟩⟩

set_option maxRecDepth 100000 in
set_option maxHeartbeats 20000000 in
theorem zm_does_c25 {h : zx_H} (hI : zb_I zc_H h) {p : Int} (p1 : 0 ≤ p) (p2 : p ≤ 59) (n8 : ¬ zv_a h 61 8 = 3) (ic : zv_a h 45 p = 21 → 5 ≤ zv_a h 46 p ∧ zv_a h 46 p ≤ 8) (ov : zv_a h 45 p = 25) : zx_T zp_P 3 zp_m167 0 [(0, .ref 44), (1, .int (zI (p)))] [] h (zr_R [(44, 25), (44, 26), (61, 0)] h (fun e h' => e = zv_i h' 26 ∧ 0 ≤ e ∧ e ≤ 7 ∧ ¬ zv_a h' 61 8 = 3 ∧ (e = 0 → zg_does (zv_a h 45 p) (zv_a h 46 p) h h'))) := by
  have hS := zv_ri hI (k := 25) rfl
  refine zx_T.l (i := .aload_n 0) (k := 1) (v := .ref 44) (pc := 0) rfl rfl rfl ?_
  refine zx_T.s (i := .iconst 0) (k := 1) (st' := [.int (zI (0)), .ref 44]) (pc := 1) rfl rfl ?_
  refine zr_pi (k := 26) (lo := 0) (hi := 7) (e := 0) (pc := 2) rfl rfl rfl rfl rfl rfl hI (by omega) (by omega) (fun h1 ih1 w2 e3 => ?_)
  refine zx_T.l (i := .aload_n 0) (k := 1) (v := .ref 44) (pc := 5) rfl rfl rfl ?_
  refine zr_gr (k := 3) (b := 46) (pc := 6) rfl rfl rfl ih1 ?_
  refine zx_T.l (i := .iload_n 1) (k := 1) (v := .int (zI (p))) (pc := 9) rfl rfl rfl ?_
  refine zr_al (n := 60) (lo := (-2147483648)) (hi := 2147483647) (e := zv_a h 46 p) (pc := 10) rfl rfl rfl ih1 (by omega) (by omega) (zv_wa w2 rfl p) (fun g4a g4b => ?_)
  refine zx_T.t (i := .istore_n 2) (k := 1) (ls' := [(2, .int (zI (zv_a h 46 p))), (0, .ref 44), (1, .int (zI (p)))]) (st' := []) (pc := 11) rfl rfl rfl rfl ?_
  refine zx_T.l (i := .aload_n 0) (k := 1) (v := .ref 44) (pc := 12) rfl rfl rfl ?_
  refine zr_gr (k := 2) (b := 45) (pc := 13) rfl rfl rfl ih1 ?_
  refine zx_T.l (i := .iload_n 1) (k := 1) (v := .int (zI (p))) (pc := 16) rfl rfl rfl ?_
  refine zr_al (n := 60) (lo := 0) (hi := 28) (e := zv_a h 45 p) (pc := 17) rfl rfl rfl ih1 (by omega) (by omega) (zv_wa w2 rfl p) (fun g5a g5b => ?_)
  have c6 : zv_a h 45 p = 25 := by omega
  rcases c6 with c6
  · refine zr_sw (i := .tableswitch 424 1 28 #[126, 134, 142, 150, 158, 167, 176, 190, 198, 206, 214, 222, 222, 240, 258, 271, 284, 303, 322, 336, 350, 363, 424, 424, 372, 380, 372, 388]) (len := 126) (t := 390) (x := zv_a h 45 p) (k := 25) (pc := 18) rfl c6 rfl rfl rfl rfl ?_
    refine zx_T.l (i := .aload_n 0) (k := 1) (v := .ref 44) (pc := 390) rfl rfl rfl ?_
    refine zx_T.s (i := .iconst 1) (k := 1) (st' := [.int (zI (1)), .ref 44]) (pc := 391) rfl rfl ?_
    have y7 : zv_a h1 61 8 = zv_a h 61 8 := (zv_wa w2 rfl 8)
    have y8 : zv_i h1 25 = zv_i h 25 := (zv_wi w2 rfl)
    have y9 : zv_i h1 26 = 0 := e3
    have an0 : ∀ j, 0 ≤ j → zv_a h1 61 j = zv_a h 61 j := fun j hj => by rw [zv_wa w2 rfl j]
    refine zr_iv (cj := 162) (q' := zp_m162) (As := [.int (zI (1))]) (rest := []) (pc := 392) rfl rfl rfl rfl rfl rfl (Nat.le_of_ble_eq_true rfl) rfl (Nat.le_of_ble_eq_true rfl) ih1 ((zm_need (h := h1) ih1 (w := 1) (by omega) (by omega) (by omega)).up (Nat.le_of_ble_eq_true rfl)) ?_
    rintro r11 h14 ⟨ih14, w15, r11q, x13⟩
    subst r11q
    try dsimp only at x13
    have nj1 := x13.2.2
    rcases zg_n1 x13 (by omega) with q16 | q16 | q16
    · exact False.elim (by omega)
    · clear x13
      show zx_T zp_P 3 zp_m167 395 [(2, .int (zI (zv_a h 46 p))), (0, .ref 44), (1, .int (zI (p)))] [] h14 _
      refine zx_T.j (i := .goto 47) (k := 3) (pc' := 442) (st' := []) (pc := 395) rfl rfl rfl rfl rfl ?_
      refine zx_T.l (i := .aload_n 0) (k := 1) (v := .ref 44) (pc := 442) rfl rfl rfl ?_
      refine zr_gi (k := 26) (lo := 0) (hi := 7) (e := zv_i h14 26) (pc := 443) rfl rfl rfl ih14 rfl (fun g17a g17b => ?_)
      have y20 : zv_a h14 61 8 = zv_a h 61 8 := ((zv_wa w15 rfl 8).trans (zv_wa w2 rfl 8))
      have ae : ∀ j, 0 ≤ j → zv_a h14 61 j = zv_a h 61 j := fun j hj => by rw [zv_wa w15 rfl j, zv_wa w2 rfl j]
      have y22 := zv_ri ih14 (k := 25) rfl
      exact zr_ir (x := zv_i h14 26) (pc := 446) rfl rfl rfl ⟨ih14, ((w2.wd rfl : zb_W [(44, 25), (44, 26), (61, 0)] h _).tr (w15.wd rfl)), _, rfl, by dsimp only; exact ⟨by omega, by omega, by omega, by omega, fun h0 => absurd h0 (by omega)⟩⟩
    · clear x13
      show zx_T zp_P 3 zp_m167 395 [(2, .int (zI (zv_a h 46 p))), (0, .ref 44), (1, .int (zI (p)))] [] h14 _
      refine zx_T.j (i := .goto 47) (k := 3) (pc' := 442) (st' := []) (pc := 395) rfl rfl rfl rfl rfl ?_
      refine zx_T.l (i := .aload_n 0) (k := 1) (v := .ref 44) (pc := 442) rfl rfl rfl ?_
      refine zr_gi (k := 26) (lo := 0) (hi := 7) (e := zv_i h14 26) (pc := 443) rfl rfl rfl ih14 rfl (fun g23a g23b => ?_)
      have y26 : zv_a h14 61 8 = zv_a h 61 8 := ((zv_wa w15 rfl 8).trans (zv_wa w2 rfl 8))
      have ae : ∀ j, 0 ≤ j → zv_a h14 61 j = zv_a h 61 j := fun j hj => by rw [zv_wa w15 rfl j, zv_wa w2 rfl j]
      have y28 := zv_ri ih14 (k := 25) rfl
      exact zr_ir (x := zv_i h14 26) (pc := 446) rfl rfl rfl ⟨ih14, ((w2.wd rfl : zb_W [(44, 25), (44, 26), (61, 0)] h _).tr (w15.wd rfl)), _, rfl, by dsimp only; exact ⟨by omega, by omega, by omega, by omega, fun h0 => ⟨by omega, fun j hj => ⟨fun ho => absurd ho (by omega), fun ho => absurd ho (by omega), fun ho => absurd ho (by omega), fun ho => absurd ho (by omega), fun ho => absurd ho (by omega)⟩, fun ho j hj j2 j3 => by have d4 := ae j hj; omega, fun ho => absurd ho (by omega)⟩⟩⟩

set_option maxRecDepth 100000 in
set_option maxHeartbeats 20000000 in
theorem zm_does_c26 {h : zx_H} (hI : zb_I zc_H h) {p : Int} (p1 : 0 ≤ p) (p2 : p ≤ 59) (n8 : ¬ zv_a h 61 8 = 3) (ic : zv_a h 45 p = 21 → 5 ≤ zv_a h 46 p ∧ zv_a h 46 p ≤ 8) (ov : zv_a h 45 p = 26) : zx_T zp_P 3 zp_m167 0 [(0, .ref 44), (1, .int (zI (p)))] [] h (zr_R [(44, 25), (44, 26), (61, 0)] h (fun e h' => e = zv_i h' 26 ∧ 0 ≤ e ∧ e ≤ 7 ∧ ¬ zv_a h' 61 8 = 3 ∧ (e = 0 → zg_does (zv_a h 45 p) (zv_a h 46 p) h h'))) := by
  have hS := zv_ri hI (k := 25) rfl
  refine zx_T.l (i := .aload_n 0) (k := 1) (v := .ref 44) (pc := 0) rfl rfl rfl ?_
  refine zx_T.s (i := .iconst 0) (k := 1) (st' := [.int (zI (0)), .ref 44]) (pc := 1) rfl rfl ?_
  refine zr_pi (k := 26) (lo := 0) (hi := 7) (e := 0) (pc := 2) rfl rfl rfl rfl rfl rfl hI (by omega) (by omega) (fun h1 ih1 w2 e3 => ?_)
  refine zx_T.l (i := .aload_n 0) (k := 1) (v := .ref 44) (pc := 5) rfl rfl rfl ?_
  refine zr_gr (k := 3) (b := 46) (pc := 6) rfl rfl rfl ih1 ?_
  refine zx_T.l (i := .iload_n 1) (k := 1) (v := .int (zI (p))) (pc := 9) rfl rfl rfl ?_
  refine zr_al (n := 60) (lo := (-2147483648)) (hi := 2147483647) (e := zv_a h 46 p) (pc := 10) rfl rfl rfl ih1 (by omega) (by omega) (zv_wa w2 rfl p) (fun g4a g4b => ?_)
  refine zx_T.t (i := .istore_n 2) (k := 1) (ls' := [(2, .int (zI (zv_a h 46 p))), (0, .ref 44), (1, .int (zI (p)))]) (st' := []) (pc := 11) rfl rfl rfl rfl ?_
  refine zx_T.l (i := .aload_n 0) (k := 1) (v := .ref 44) (pc := 12) rfl rfl rfl ?_
  refine zr_gr (k := 2) (b := 45) (pc := 13) rfl rfl rfl ih1 ?_
  refine zx_T.l (i := .iload_n 1) (k := 1) (v := .int (zI (p))) (pc := 16) rfl rfl rfl ?_
  refine zr_al (n := 60) (lo := 0) (hi := 28) (e := zv_a h 45 p) (pc := 17) rfl rfl rfl ih1 (by omega) (by omega) (zv_wa w2 rfl p) (fun g5a g5b => ?_)
  have c6 : zv_a h 45 p = 26 := by omega
  rcases c6 with c6
  · refine zr_sw (i := .tableswitch 424 1 28 #[126, 134, 142, 150, 158, 167, 176, 190, 198, 206, 214, 222, 222, 240, 258, 271, 284, 303, 322, 336, 350, 363, 424, 424, 372, 380, 372, 388]) (len := 126) (t := 398) (x := zv_a h 45 p) (k := 26) (pc := 18) rfl c6 rfl rfl rfl rfl ?_
    refine zx_T.l (i := .aload_n 0) (k := 1) (v := .ref 44) (pc := 398) rfl rfl rfl ?_
    refine zx_T.s (i := .iconst 5) (k := 1) (st' := [.int (zI (5)), .ref 44]) (pc := 399) rfl rfl ?_
    have y7 : zv_a h1 61 8 = zv_a h 61 8 := (zv_wa w2 rfl 8)
    have y8 : zv_i h1 25 = zv_i h 25 := (zv_wi w2 rfl)
    have y9 : zv_i h1 26 = 0 := e3
    have an0 : ∀ j, 0 ≤ j → zv_a h1 61 j = zv_a h 61 j := fun j hj => by rw [zv_wa w2 rfl j]
    refine zr_iv (cj := 162) (q' := zp_m162) (As := [.int (zI (5))]) (rest := []) (pc := 400) rfl rfl rfl rfl rfl rfl (Nat.le_of_ble_eq_true rfl) rfl (Nat.le_of_ble_eq_true rfl) ih1 ((zm_need (h := h1) ih1 (w := 5) (by omega) (by omega) (by omega)).up (Nat.le_of_ble_eq_true rfl)) ?_
    rintro r11 h14 ⟨ih14, w15, r11q, x13⟩
    subst r11q
    try dsimp only at x13
    have nj1 := x13.2.2
    rcases zg_n1 x13 (by omega) with q16 | q16 | q16
    · exact False.elim (by omega)
    · clear x13
      show zx_T zp_P 3 zp_m167 403 [(2, .int (zI (zv_a h 46 p))), (0, .ref 44), (1, .int (zI (p)))] [] h14 _
      refine zx_T.j (i := .goto 39) (k := 3) (pc' := 442) (st' := []) (pc := 403) rfl rfl rfl rfl rfl ?_
      refine zx_T.l (i := .aload_n 0) (k := 1) (v := .ref 44) (pc := 442) rfl rfl rfl ?_
      refine zr_gi (k := 26) (lo := 0) (hi := 7) (e := zv_i h14 26) (pc := 443) rfl rfl rfl ih14 rfl (fun g17a g17b => ?_)
      have y20 : zv_a h14 61 8 = zv_a h 61 8 := ((zv_wa w15 rfl 8).trans (zv_wa w2 rfl 8))
      have ae : ∀ j, 0 ≤ j → zv_a h14 61 j = zv_a h 61 j := fun j hj => by rw [zv_wa w15 rfl j, zv_wa w2 rfl j]
      have y22 := zv_ri ih14 (k := 25) rfl
      exact zr_ir (x := zv_i h14 26) (pc := 446) rfl rfl rfl ⟨ih14, ((w2.wd rfl : zb_W [(44, 25), (44, 26), (61, 0)] h _).tr (w15.wd rfl)), _, rfl, by dsimp only; exact ⟨by omega, by omega, by omega, by omega, fun h0 => absurd h0 (by omega)⟩⟩
    · clear x13
      show zx_T zp_P 3 zp_m167 403 [(2, .int (zI (zv_a h 46 p))), (0, .ref 44), (1, .int (zI (p)))] [] h14 _
      refine zx_T.j (i := .goto 39) (k := 3) (pc' := 442) (st' := []) (pc := 403) rfl rfl rfl rfl rfl ?_
      refine zx_T.l (i := .aload_n 0) (k := 1) (v := .ref 44) (pc := 442) rfl rfl rfl ?_
      refine zr_gi (k := 26) (lo := 0) (hi := 7) (e := zv_i h14 26) (pc := 443) rfl rfl rfl ih14 rfl (fun g23a g23b => ?_)
      have y26 : zv_a h14 61 8 = zv_a h 61 8 := ((zv_wa w15 rfl 8).trans (zv_wa w2 rfl 8))
      have ae : ∀ j, 0 ≤ j → zv_a h14 61 j = zv_a h 61 j := fun j hj => by rw [zv_wa w15 rfl j, zv_wa w2 rfl j]
      have y28 := zv_ri ih14 (k := 25) rfl
      exact zr_ir (x := zv_i h14 26) (pc := 446) rfl rfl rfl ⟨ih14, ((w2.wd rfl : zb_W [(44, 25), (44, 26), (61, 0)] h _).tr (w15.wd rfl)), _, rfl, by dsimp only; exact ⟨by omega, by omega, by omega, by omega, fun h0 => ⟨by omega, fun j hj => ⟨fun ho => absurd ho (by omega), fun ho => absurd ho (by omega), fun ho => absurd ho (by omega), fun ho => absurd ho (by omega), fun ho => absurd ho (by omega)⟩, fun ho j hj j2 j3 => by have d4 := ae j hj; omega, fun ho => absurd ho (by omega)⟩⟩⟩

set_option maxRecDepth 100000 in
set_option maxHeartbeats 20000000 in
theorem zm_does_c27 {h : zx_H} (hI : zb_I zc_H h) {p : Int} (p1 : 0 ≤ p) (p2 : p ≤ 59) (n8 : ¬ zv_a h 61 8 = 3) (ic : zv_a h 45 p = 21 → 5 ≤ zv_a h 46 p ∧ zv_a h 46 p ≤ 8) (ov : zv_a h 45 p = 27) : zx_T zp_P 3 zp_m167 0 [(0, .ref 44), (1, .int (zI (p)))] [] h (zr_R [(44, 25), (44, 26), (61, 0)] h (fun e h' => e = zv_i h' 26 ∧ 0 ≤ e ∧ e ≤ 7 ∧ ¬ zv_a h' 61 8 = 3 ∧ (e = 0 → zg_does (zv_a h 45 p) (zv_a h 46 p) h h'))) := by
  have hS := zv_ri hI (k := 25) rfl
  refine zx_T.l (i := .aload_n 0) (k := 1) (v := .ref 44) (pc := 0) rfl rfl rfl ?_
  refine zx_T.s (i := .iconst 0) (k := 1) (st' := [.int (zI (0)), .ref 44]) (pc := 1) rfl rfl ?_
  refine zr_pi (k := 26) (lo := 0) (hi := 7) (e := 0) (pc := 2) rfl rfl rfl rfl rfl rfl hI (by omega) (by omega) (fun h1 ih1 w2 e3 => ?_)
  refine zx_T.l (i := .aload_n 0) (k := 1) (v := .ref 44) (pc := 5) rfl rfl rfl ?_
  refine zr_gr (k := 3) (b := 46) (pc := 6) rfl rfl rfl ih1 ?_
  refine zx_T.l (i := .iload_n 1) (k := 1) (v := .int (zI (p))) (pc := 9) rfl rfl rfl ?_
  refine zr_al (n := 60) (lo := (-2147483648)) (hi := 2147483647) (e := zv_a h 46 p) (pc := 10) rfl rfl rfl ih1 (by omega) (by omega) (zv_wa w2 rfl p) (fun g4a g4b => ?_)
  refine zx_T.t (i := .istore_n 2) (k := 1) (ls' := [(2, .int (zI (zv_a h 46 p))), (0, .ref 44), (1, .int (zI (p)))]) (st' := []) (pc := 11) rfl rfl rfl rfl ?_
  refine zx_T.l (i := .aload_n 0) (k := 1) (v := .ref 44) (pc := 12) rfl rfl rfl ?_
  refine zr_gr (k := 2) (b := 45) (pc := 13) rfl rfl rfl ih1 ?_
  refine zx_T.l (i := .iload_n 1) (k := 1) (v := .int (zI (p))) (pc := 16) rfl rfl rfl ?_
  refine zr_al (n := 60) (lo := 0) (hi := 28) (e := zv_a h 45 p) (pc := 17) rfl rfl rfl ih1 (by omega) (by omega) (zv_wa w2 rfl p) (fun g5a g5b => ?_)
  have c6 : zv_a h 45 p = 27 := by omega
  rcases c6 with c6
  · refine zr_sw (i := .tableswitch 424 1 28 #[126, 134, 142, 150, 158, 167, 176, 190, 198, 206, 214, 222, 222, 240, 258, 271, 284, 303, 322, 336, 350, 363, 424, 424, 372, 380, 372, 388]) (len := 126) (t := 390) (x := zv_a h 45 p) (k := 27) (pc := 18) rfl c6 rfl rfl rfl rfl ?_
    refine zx_T.l (i := .aload_n 0) (k := 1) (v := .ref 44) (pc := 390) rfl rfl rfl ?_
    refine zx_T.s (i := .iconst 1) (k := 1) (st' := [.int (zI (1)), .ref 44]) (pc := 391) rfl rfl ?_
    have y7 : zv_a h1 61 8 = zv_a h 61 8 := (zv_wa w2 rfl 8)
    have y8 : zv_i h1 25 = zv_i h 25 := (zv_wi w2 rfl)
    have y9 : zv_i h1 26 = 0 := e3
    have an0 : ∀ j, 0 ≤ j → zv_a h1 61 j = zv_a h 61 j := fun j hj => by rw [zv_wa w2 rfl j]
    refine zr_iv (cj := 162) (q' := zp_m162) (As := [.int (zI (1))]) (rest := []) (pc := 392) rfl rfl rfl rfl rfl rfl (Nat.le_of_ble_eq_true rfl) rfl (Nat.le_of_ble_eq_true rfl) ih1 ((zm_need (h := h1) ih1 (w := 1) (by omega) (by omega) (by omega)).up (Nat.le_of_ble_eq_true rfl)) ?_
    rintro r11 h14 ⟨ih14, w15, r11q, x13⟩
    subst r11q
    try dsimp only at x13
    have nj1 := x13.2.2
    rcases zg_n1 x13 (by omega) with q16 | q16 | q16
    · exact False.elim (by omega)
    · clear x13
      show zx_T zp_P 3 zp_m167 395 [(2, .int (zI (zv_a h 46 p))), (0, .ref 44), (1, .int (zI (p)))] [] h14 _
      refine zx_T.j (i := .goto 47) (k := 3) (pc' := 442) (st' := []) (pc := 395) rfl rfl rfl rfl rfl ?_
      refine zx_T.l (i := .aload_n 0) (k := 1) (v := .ref 44) (pc := 442) rfl rfl rfl ?_
      refine zr_gi (k := 26) (lo := 0) (hi := 7) (e := zv_i h14 26) (pc := 443) rfl rfl rfl ih14 rfl (fun g17a g17b => ?_)
      have y20 : zv_a h14 61 8 = zv_a h 61 8 := ((zv_wa w15 rfl 8).trans (zv_wa w2 rfl 8))
      have ae : ∀ j, 0 ≤ j → zv_a h14 61 j = zv_a h 61 j := fun j hj => by rw [zv_wa w15 rfl j, zv_wa w2 rfl j]
      have y22 := zv_ri ih14 (k := 25) rfl
      exact zr_ir (x := zv_i h14 26) (pc := 446) rfl rfl rfl ⟨ih14, ((w2.wd rfl : zb_W [(44, 25), (44, 26), (61, 0)] h _).tr (w15.wd rfl)), _, rfl, by dsimp only; exact ⟨by omega, by omega, by omega, by omega, fun h0 => absurd h0 (by omega)⟩⟩
    · clear x13
      show zx_T zp_P 3 zp_m167 395 [(2, .int (zI (zv_a h 46 p))), (0, .ref 44), (1, .int (zI (p)))] [] h14 _
      refine zx_T.j (i := .goto 47) (k := 3) (pc' := 442) (st' := []) (pc := 395) rfl rfl rfl rfl rfl ?_
      refine zx_T.l (i := .aload_n 0) (k := 1) (v := .ref 44) (pc := 442) rfl rfl rfl ?_
      refine zr_gi (k := 26) (lo := 0) (hi := 7) (e := zv_i h14 26) (pc := 443) rfl rfl rfl ih14 rfl (fun g23a g23b => ?_)
      have y26 : zv_a h14 61 8 = zv_a h 61 8 := ((zv_wa w15 rfl 8).trans (zv_wa w2 rfl 8))
      have ae : ∀ j, 0 ≤ j → zv_a h14 61 j = zv_a h 61 j := fun j hj => by rw [zv_wa w15 rfl j, zv_wa w2 rfl j]
      have y28 := zv_ri ih14 (k := 25) rfl
      exact zr_ir (x := zv_i h14 26) (pc := 446) rfl rfl rfl ⟨ih14, ((w2.wd rfl : zb_W [(44, 25), (44, 26), (61, 0)] h _).tr (w15.wd rfl)), _, rfl, by dsimp only; exact ⟨by omega, by omega, by omega, by omega, fun h0 => ⟨by omega, fun j hj => ⟨fun ho => absurd ho (by omega), fun ho => absurd ho (by omega), fun ho => absurd ho (by omega), fun ho => absurd ho (by omega), fun ho => absurd ho (by omega)⟩, fun ho j hj j2 j3 => by have d4 := ae j hj; omega, fun ho => absurd ho (by omega)⟩⟩⟩

set_option maxRecDepth 100000 in
set_option maxHeartbeats 20000000 in
theorem zm_does_c28 {h : zx_H} (hI : zb_I zc_H h) {p : Int} (p1 : 0 ≤ p) (p2 : p ≤ 59) (n8 : ¬ zv_a h 61 8 = 3) (ic : zv_a h 45 p = 21 → 5 ≤ zv_a h 46 p ∧ zv_a h 46 p ≤ 8) (ov : zv_a h 45 p = 28) : zx_T zp_P 3 zp_m167 0 [(0, .ref 44), (1, .int (zI (p)))] [] h (zr_R [(44, 25), (44, 26), (61, 0)] h (fun e h' => e = zv_i h' 26 ∧ 0 ≤ e ∧ e ≤ 7 ∧ ¬ zv_a h' 61 8 = 3 ∧ (e = 0 → zg_does (zv_a h 45 p) (zv_a h 46 p) h h'))) := by
  have hS := zv_ri hI (k := 25) rfl
  refine zx_T.l (i := .aload_n 0) (k := 1) (v := .ref 44) (pc := 0) rfl rfl rfl ?_
  refine zx_T.s (i := .iconst 0) (k := 1) (st' := [.int (zI (0)), .ref 44]) (pc := 1) rfl rfl ?_
  refine zr_pi (k := 26) (lo := 0) (hi := 7) (e := 0) (pc := 2) rfl rfl rfl rfl rfl rfl hI (by omega) (by omega) (fun h1 ih1 w2 e3 => ?_)
  refine zx_T.l (i := .aload_n 0) (k := 1) (v := .ref 44) (pc := 5) rfl rfl rfl ?_
  refine zr_gr (k := 3) (b := 46) (pc := 6) rfl rfl rfl ih1 ?_
  refine zx_T.l (i := .iload_n 1) (k := 1) (v := .int (zI (p))) (pc := 9) rfl rfl rfl ?_
  refine zr_al (n := 60) (lo := (-2147483648)) (hi := 2147483647) (e := zv_a h 46 p) (pc := 10) rfl rfl rfl ih1 (by omega) (by omega) (zv_wa w2 rfl p) (fun g4a g4b => ?_)
  refine zx_T.t (i := .istore_n 2) (k := 1) (ls' := [(2, .int (zI (zv_a h 46 p))), (0, .ref 44), (1, .int (zI (p)))]) (st' := []) (pc := 11) rfl rfl rfl rfl ?_
  refine zx_T.l (i := .aload_n 0) (k := 1) (v := .ref 44) (pc := 12) rfl rfl rfl ?_
  refine zr_gr (k := 2) (b := 45) (pc := 13) rfl rfl rfl ih1 ?_
  refine zx_T.l (i := .iload_n 1) (k := 1) (v := .int (zI (p))) (pc := 16) rfl rfl rfl ?_
  refine zr_al (n := 60) (lo := 0) (hi := 28) (e := zv_a h 45 p) (pc := 17) rfl rfl rfl ih1 (by omega) (by omega) (zv_wa w2 rfl p) (fun g5a g5b => ?_)
  have c6 : zv_a h 45 p = 28 := by omega
  rcases c6 with c6
  · refine zr_sw (i := .tableswitch 424 1 28 #[126, 134, 142, 150, 158, 167, 176, 190, 198, 206, 214, 222, 222, 240, 258, 271, 284, 303, 322, 336, 350, 363, 424, 424, 372, 380, 372, 388]) (len := 126) (t := 406) (x := zv_a h 45 p) (k := 28) (pc := 18) rfl c6 rfl rfl rfl rfl ?_
    refine zx_T.l (i := .iload_n 2) (k := 1) (v := .int (zI (zv_a h 46 p))) (pc := 406) rfl rfl rfl ?_
    refine zx_T.s (i := .iconst 0) (k := 1) (st' := [.int (zI (0)), .int (zI (zv_a h 46 p))]) (pc := 407) rfl rfl ?_
    refine zx_T.s (i := .bipush 7) (k := 2) (st' := [.int (zI (7)), .int (zI (0)), .int (zI (zv_a h 46 p))]) (pc := 408) rfl rfl ?_
    refine zr_is (cj := 155) (q' := zp_m155) (As := [.int (zI (zv_a h 46 p)), .int (zI (0)), .int (zI (7))]) (rest := []) (pc := 410) rfl rfl rfl rfl rfl rfl (Nat.le_of_ble_eq_true rfl) rfl (Nat.le_of_ble_eq_true rfl) rfl ((zm_in (h := h1) ih1 (v := zv_a h 46 p) (l := 0) (u := 7) (by omega) (by omega) (by omega) (by omega) (by omega) (by omega)).up (Nat.le_of_ble_eq_true rfl)) ?_
    rintro r7 h10 ⟨h10q, v8, r7q, x9⟩
    subst h10q r7q
    try dsimp only at x9
    show zx_T zp_P 3 zp_m167 413 [(2, .int (zI (zv_a h 46 p))), (0, .ref 44), (1, .int (zI (p)))] [.int (zI (v8))] h1 _
    refine zr_i1 (x := v8) (t := 424) (pc := 413) rfl rfl (by omega) (by omega) (fun (c11 : ¬ v8 = 0) => ?_) (fun (c11 : ¬ (¬ v8 = 0)) => ?_)
    · refine zx_T.l (i := .aload_n 0) (k := 1) (v := .ref 44) (pc := 424) rfl rfl rfl ?_
      refine zr_gr (k := 24) (b := 61) (pc := 425) rfl rfl rfl ih1 ?_
      refine zx_T.l (i := .iload_n 2) (k := 1) (v := .int (zI (zv_a h 46 p))) (pc := 428) rfl rfl rfl ?_
      refine zr_al (n := 14) (lo := 0) (hi := 8) (e := zv_a h 61 (zv_a h 46 p)) (pc := 429) rfl rfl rfl ih1 (by omega) (by omega) (zv_wa w2 rfl (zv_a h 46 p)) (fun g12a g12b => ?_)
      refine zx_T.s (i := .iconst 1) (k := 1) (st' := [.int (zI (1)), .int (zI (zv_a h 61 (zv_a h 46 p)))]) (pc := 430) rfl rfl ?_
      refine zr_i2 (x := zv_a h 61 (zv_a h 46 p)) (y := 1) (t := 442) (pc := 431) rfl rfl (by omega) (by omega) (by omega) (by omega) (fun (c13 : (zv_a h 61 (zv_a h 46 p)) = 1) => ?_) (fun (c13 : ¬ ((zv_a h 61 (zv_a h 46 p)) = 1)) => ?_)
      · refine zx_T.l (i := .aload_n 0) (k := 1) (v := .ref 44) (pc := 442) rfl rfl rfl ?_
        refine zr_gi (k := 26) (lo := 0) (hi := 7) (e := 0) (pc := 443) rfl rfl rfl ih1 e3 (fun g14a g14b => ?_)
        have y15 : zv_i h1 25 = zv_i h 25 := (zv_wi w2 rfl)
        have y16 : zv_i h1 26 = 0 := e3
        have y17 : zv_a h1 61 8 = zv_a h 61 8 := (zv_wa w2 rfl 8)
        have ae : ∀ j, 0 ≤ j → zv_a h1 61 j = zv_a h 61 j := fun j hj => by rw [zv_wa w2 rfl j]
        have y19 := zv_ri ih1 (k := 25) rfl
        exact zr_ir (x := 0) (pc := 446) rfl rfl rfl ⟨ih1, (w2.wd rfl : zb_W [(44, 25), (44, 26), (61, 0)] h _), _, rfl, by dsimp only; exact ⟨by omega, by omega, by omega, by omega, fun h0 => ⟨by omega, fun j hj => ⟨fun ho => absurd ho (by omega), fun ho => absurd ho (by omega), fun ho => absurd ho (by omega), fun ho => absurd ho (by omega), fun ho => absurd ho (by omega)⟩, fun ho j hj j2 j3 => by have d4 := ae j hj; have d7 : ¬ j = zv_a h 46 p := (fun z => by rw [z] at d4 j3; omega); omega, fun ho => absurd ho (by omega)⟩⟩⟩
      · refine zx_T.l (i := .aload_n 0) (k := 1) (v := .ref 44) (pc := 434) rfl rfl rfl ?_
        refine zx_T.s (i := .iconst 1) (k := 1) (st' := [.int (zI (1)), .ref 44]) (pc := 435) rfl rfl ?_
        refine zr_iv (cj := 159) (q' := zp_m159) (As := [.int (zI (1))]) (rest := []) (pc := 436) rfl rfl rfl rfl rfl rfl (Nat.le_of_ble_eq_true rfl) rfl (Nat.le_of_ble_eq_true rfl) ih1 ((zm_fails (h := h1) ih1 (w := 1) (by omega) (by omega)).up (Nat.le_of_ble_eq_true rfl)) ?_
        rintro r20 h23 ⟨ih23, w24, r20q, x22⟩
        subst r20q
        try dsimp only at x22
        show zx_T zp_P 3 zp_m167 439 [(2, .int (zI (zv_a h 46 p))), (0, .ref 44), (1, .int (zI (p)))] [] h23 _
        refine zx_T.j (i := .goto 3) (k := 3) (pc' := 442) (st' := []) (pc := 439) rfl rfl rfl rfl rfl ?_
        refine zx_T.l (i := .aload_n 0) (k := 1) (v := .ref 44) (pc := 442) rfl rfl rfl ?_
        refine zr_gi (k := 26) (lo := 0) (hi := 7) (e := zv_i h23 26) (pc := 443) rfl rfl rfl ih23 rfl (fun g25a g25b => ?_)
        have y26 : zv_i h23 25 = zv_i h 25 := ((zv_wi w24 rfl).trans (zv_wi w2 rfl))
        have y28 : zv_a h23 61 8 = zv_a h 61 8 := ((zv_wa w24 rfl 8).trans (zv_wa w2 rfl 8))
        have ae : ∀ j, 0 ≤ j → zv_a h23 61 j = zv_a h 61 j := fun j hj => by rw [zv_wa w24 rfl j, zv_wa w2 rfl j]
        have y30 := zv_ri ih23 (k := 25) rfl
        exact zr_ir (x := zv_i h23 26) (pc := 446) rfl rfl rfl ⟨ih23, ((w2.wd rfl : zb_W [(44, 25), (44, 26), (61, 0)] h _).tr (w24.wd rfl)), _, rfl, by dsimp only; exact ⟨by omega, by omega, by omega, by omega, fun h0 => ⟨by omega, fun j hj => ⟨fun ho => absurd ho (by omega), fun ho => absurd ho (by omega), fun ho => absurd ho (by omega), fun ho => absurd ho (by omega), fun ho => absurd ho (by omega)⟩, fun ho j hj j2 j3 => by have d4 := ae j hj; have d7 : ¬ j = zv_a h 46 p := (fun z => by rw [z] at d4 j3; omega); omega, fun ho => absurd ho (by omega)⟩⟩⟩
    · refine zx_T.l (i := .aload_n 0) (k := 1) (v := .ref 44) (pc := 416) rfl rfl rfl ?_
      refine zx_T.s (i := .iconst 4) (k := 1) (st' := [.int (zI (4)), .ref 44]) (pc := 417) rfl rfl ?_
      refine zr_iv (cj := 159) (q' := zp_m159) (As := [.int (zI (4))]) (rest := []) (pc := 418) rfl rfl rfl rfl rfl rfl (Nat.le_of_ble_eq_true rfl) rfl (Nat.le_of_ble_eq_true rfl) ih1 ((zm_fails (h := h1) ih1 (w := 4) (by omega) (by omega)).up (Nat.le_of_ble_eq_true rfl)) ?_
      rintro r31 h34 ⟨ih34, w35, r31q, x33⟩
      subst r31q
      try dsimp only at x33
      show zx_T zp_P 3 zp_m167 421 [(2, .int (zI (zv_a h 46 p))), (0, .ref 44), (1, .int (zI (p)))] [] h34 _
      refine zx_T.j (i := .goto 21) (k := 3) (pc' := 442) (st' := []) (pc := 421) rfl rfl rfl rfl rfl ?_
      refine zx_T.l (i := .aload_n 0) (k := 1) (v := .ref 44) (pc := 442) rfl rfl rfl ?_
      refine zr_gi (k := 26) (lo := 0) (hi := 7) (e := zv_i h34 26) (pc := 443) rfl rfl rfl ih34 rfl (fun g36a g36b => ?_)
      have y37 : zv_i h34 25 = zv_i h 25 := ((zv_wi w35 rfl).trans (zv_wi w2 rfl))
      have y39 : zv_a h34 61 8 = zv_a h 61 8 := ((zv_wa w35 rfl 8).trans (zv_wa w2 rfl 8))
      have ae : ∀ j, 0 ≤ j → zv_a h34 61 j = zv_a h 61 j := fun j hj => by rw [zv_wa w35 rfl j, zv_wa w2 rfl j]
      have y41 := zv_ri ih34 (k := 25) rfl
      exact zr_ir (x := zv_i h34 26) (pc := 446) rfl rfl rfl ⟨ih34, ((w2.wd rfl : zb_W [(44, 25), (44, 26), (61, 0)] h _).tr (w35.wd rfl)), _, rfl, by dsimp only; exact ⟨by omega, by omega, by omega, by omega, fun h0 => ⟨by omega, fun j hj => ⟨fun ho => absurd ho (by omega), fun ho => absurd ho (by omega), fun ho => absurd ho (by omega), fun ho => absurd ho (by omega), fun ho => absurd ho (by omega)⟩, fun ho j hj j2 j3 => by have d4 := ae j hj; have d7 : ¬ j = zv_a h 46 p := (fun z => by rw [z] at d4 j3; omega); omega, fun ho => absurd ho (by omega)⟩⟩⟩

theorem zm_does {h : zx_H} (hI : zb_I zc_H h) {p : Int} (p1 : 0 ≤ p) (p2 : p ≤ 59) (n8 : ¬ zv_a h 61 8 = 3) (ic : zv_a h 45 p = 21 → 5 ≤ zv_a h 46 p ∧ zv_a h 46 p ≤ 8) : zx_T zp_P 3 zp_m167 0 [(0, .ref 44), (1, .int (zI (p)))] [] h (zr_R [(44, 25), (44, 26), (61, 0)] h (fun e h' => e = zv_i h' 26 ∧ 0 ≤ e ∧ e ≤ 7 ∧ ¬ zv_a h' 61 8 = 3 ∧ (e = 0 → zg_does (zv_a h 45 p) (zv_a h 46 p) h h'))) := by
  have ho := zv_ra hI (a := 45) rfl rfl p
  have cv : zv_a h 45 p = 0 ∨ zv_a h 45 p = 1 ∨ zv_a h 45 p = 2 ∨ zv_a h 45 p = 3 ∨ zv_a h 45 p = 4 ∨ zv_a h 45 p = 5 ∨ zv_a h 45 p = 6 ∨ zv_a h 45 p = 7 ∨ zv_a h 45 p = 8 ∨ zv_a h 45 p = 9 ∨ zv_a h 45 p = 10 ∨ zv_a h 45 p = 11 ∨ zv_a h 45 p = 12 ∨ zv_a h 45 p = 13 ∨ zv_a h 45 p = 14 ∨ zv_a h 45 p = 15 ∨ zv_a h 45 p = 16 ∨ zv_a h 45 p = 17 ∨ zv_a h 45 p = 18 ∨ zv_a h 45 p = 19 ∨ zv_a h 45 p = 20 ∨ zv_a h 45 p = 21 ∨ zv_a h 45 p = 22 ∨ zv_a h 45 p = 23 ∨ zv_a h 45 p = 24 ∨ zv_a h 45 p = 25 ∨ zv_a h 45 p = 26 ∨ zv_a h 45 p = 27 ∨ zv_a h 45 p = 28 := by omega
  rcases cv with cv | cv | cv | cv | cv | cv | cv | cv | cv | cv | cv | cv | cv | cv | cv | cv | cv | cv | cv | cv | cv | cv | cv | cv | cv | cv | cv | cv | cv
  · exact zm_does_c0 hI p1 p2 n8 ic cv
  · exact zm_does_c1 hI p1 p2 n8 ic cv
  · exact zm_does_c2 hI p1 p2 n8 ic cv
  · exact zm_does_c3 hI p1 p2 n8 ic cv
  · exact zm_does_c4 hI p1 p2 n8 ic cv
  · exact zm_does_c5 hI p1 p2 n8 ic cv
  · exact zm_does_c6 hI p1 p2 n8 ic cv
  · exact zm_does_c7 hI p1 p2 n8 ic cv
  · exact zm_does_c8 hI p1 p2 n8 ic cv
  · exact zm_does_c9 hI p1 p2 n8 ic cv
  · exact zm_does_c10 hI p1 p2 n8 ic cv
  · exact zm_does_c11 hI p1 p2 n8 ic cv
  · exact zm_does_c12 hI p1 p2 n8 ic cv
  · exact zm_does_c13 hI p1 p2 n8 ic cv
  · exact zm_does_c14 hI p1 p2 n8 ic cv
  · exact zm_does_c15 hI p1 p2 n8 ic cv
  · exact zm_does_c16 hI p1 p2 n8 ic cv
  · exact zm_does_c17 hI p1 p2 n8 ic cv
  · exact zm_does_c18 hI p1 p2 n8 ic cv
  · exact zm_does_c19 hI p1 p2 n8 ic cv
  · exact zm_does_c20 hI p1 p2 n8 ic cv
  · exact zm_does_c21 hI p1 p2 n8 ic cv
  · exact zm_does_c22 hI p1 p2 n8 ic cv
  · exact zm_does_c23 hI p1 p2 n8 ic cv
  · exact zm_does_c24 hI p1 p2 n8 ic cv
  · exact zm_does_c25 hI p1 p2 n8 ic cv
  · exact zm_does_c26 hI p1 p2 n8 ic cv
  · exact zm_does_c27 hI p1 p2 n8 ic cv
  · exact zm_does_c28 hI p1 p2 n8 ic cv
