/-! ===== 52b: the reference, method by method (by program) ===== -/
set_option maxRecDepth 100000 in
set_option maxHeartbeats 20000000 in
theorem zm_does_c12 {h : zx_H} (hI : zb_I zc_H h) {p : Int} (p1 : 0 ≤ p) (p2 : p ≤ 59) (n8 : ¬ zv_a h 61 8 = 3) (ic : zv_a h 45 p = 21 → 5 ≤ zv_a h 46 p ∧ zv_a h 46 p ≤ 8) (ov : zv_a h 45 p = 12) : zx_T zp_P 3 zp_m167 0 [(0, .ref 44), (1, .int (zI (p)))] [] h (zr_R [(44, 25), (44, 26), (61, 0)] h (fun e h' => e = zv_i h' 26 ∧ 0 ≤ e ∧ e ≤ 7 ∧ ¬ zv_a h' 61 8 = 3 ∧ (e = 0 → zg_does (zv_a h 45 p) (zv_a h 46 p) h h'))) := by
  have hS := zv_ri hI (k := 25) rfl
  refine zx_T.l (i := .aload_n 0) (k := 1) (v := .ref 44) (pc := 0) rfl rfl rfl ?_
  refine zx_T.s (i := .iconst 0) (k := 1) (st' := [.int (zI (0)), .ref 44]) (pc := 1) rfl rfl ?_
  refine zr_pi (k := 26) (lo := 0) (hi := 7) (e := 0) (pc := 2) rfl rfl rfl rfl rfl rfl hI (by omega) (by omega) (fun h1 ih1 w2 e3 => ?_)
  refine zx_T.l (i := .aload_n 0) (k := 1) (v := .ref 44) (pc := 5) rfl rfl rfl ?_
  refine zr_gr (k := 3) (b := 46) (pc := 6) rfl rfl rfl ih1 ?_
  refine zx_T.l (i := .iload_n 1) (k := 1) (v := .int (zI (p))) (pc := 9) rfl rfl rfl ?_
  refine zr_al (n := 60) (lo := (-2147483648)) (hi := 2147483647) (e := zv_a h 46 p) (pc := 10) rfl rfl rfl ih1 (by omega) (by omega) (zv_wa w2 rfl p) (fun g4a g4b => ?_)
  refine zx_T.t (i := .istore_n 2) (k := 1) (ls' := [(2, .int (zI (zv_a h 46 p))), (0, .ref 44), (1, .int (zI (p)))]) (st' := []) (pc := 11) rfl rfl rfl rfl ?_
  refine zx_T.l (i := .aload_n 0) (k := 1) (v := .ref 44) (pc := 12) rfl rfl rfl ?_
  refine zr_gr (k := 2) (b := 45) (pc := 13) rfl rfl rfl ih1 ?_
  refine zx_T.l (i := .iload_n 1) (k := 1) (v := .int (zI (p))) (pc := 16) rfl rfl rfl ?_
  refine zr_al (n := 60) (lo := 0) (hi := 28) (e := zv_a h 45 p) (pc := 17) rfl rfl rfl ih1 (by omega) (by omega) (zv_wa w2 rfl p) (fun g5a g5b => ?_)
  have c6 : zv_a h 45 p = 12 := by omega
  rcases c6 with c6
  · refine zr_sw (i := .tableswitch 424 1 28 #[126, 134, 142, 150, 158, 167, 176, 190, 198, 206, 214, 222, 222, 240, 258, 271, 284, 303, 322, 336, 350, 363, 424, 424, 372, 380, 372, 388]) (len := 126) (t := 240) (x := zv_a h 45 p) (k := 12) (pc := 18) rfl c6 rfl rfl rfl rfl ?_
    refine zx_T.l (i := .aload_n 0) (k := 1) (v := .ref 44) (pc := 240) rfl rfl rfl ?_
    refine zx_T.s (i := .iconst 1) (k := 1) (st' := [.int (zI (1)), .ref 44]) (pc := 241) rfl rfl ?_
    have y7 : zv_a h1 61 8 = zv_a h 61 8 := (zv_wa w2 rfl 8)
    have y8 : zv_i h1 25 = zv_i h 25 := (zv_wi w2 rfl)
    have y9 : zv_i h1 26 = 0 := e3
    have an0 : ∀ j, 0 ≤ j → zv_a h1 61 j = zv_a h 61 j := fun j hj => by rw [zv_wa w2 rfl j]
    refine zr_iv (cj := 162) (q' := zp_m162) (As := [.int (zI (1))]) (rest := []) (pc := 242) rfl rfl rfl rfl rfl rfl (Nat.le_of_ble_eq_true rfl) rfl (Nat.le_of_ble_eq_true rfl) ih1 ((zm_need (h := h1) ih1 (w := 1) (by omega) (by omega) (by omega)).up (Nat.le_of_ble_eq_true rfl)) ?_
    rintro r11 h14 ⟨ih14, w15, r11q, x13⟩
    subst r11q
    try dsimp only at x13
    have nj1 := x13.2.2
    rcases zg_n1 x13 (by omega) with q16 | q16 | q16
    · exact False.elim (by omega)
    · clear x13
      show zx_T zp_P 3 zp_m167 245 [(2, .int (zI (zv_a h 46 p))), (0, .ref 44), (1, .int (zI (p)))] [] h14 _
      refine zx_T.l (i := .aload_n 0) (k := 1) (v := .ref 44) (pc := 245) rfl rfl rfl ?_
      refine zx_T.s (i := .iconst 1) (k := 1) (st' := [.int (zI (1)), .ref 44]) (pc := 246) rfl rfl ?_
      have y17 : zv_a h14 61 8 = zv_a h 61 8 := ((zv_wa w15 rfl 8).trans (zv_wa w2 rfl 8))
      have an1 : ∀ j, 0 ≤ j → zv_a h14 61 j = zv_a h 61 j := fun j hj => by rw [zv_wa w15 rfl j, zv_wa w2 rfl j]
      refine zr_iv (cj := 162) (q' := zp_m162) (As := [.int (zI (1))]) (rest := []) (pc := 247) rfl rfl rfl rfl rfl rfl (Nat.le_of_ble_eq_true rfl) rfl (Nat.le_of_ble_eq_true rfl) ih14 ((zm_need (h := h14) ih14 (w := 1) (by omega) (by omega) (by omega)).up (Nat.le_of_ble_eq_true rfl)) ?_
      rintro r21 h24 ⟨ih24, w25, r21q, x23⟩
      subst r21q
      try dsimp only at x23
      have nj2 := x23.2.2
      rcases zg_n1 x23 (by omega) with q26 | q26 | q26
      · clear x23
        show zx_T zp_P 3 zp_m167 250 [(2, .int (zI (zv_a h 46 p))), (0, .ref 44), (1, .int (zI (p)))] [] h24 _
        refine zx_T.l (i := .aload_n 0) (k := 1) (v := .ref 44) (pc := 250) rfl rfl rfl ?_
        refine zx_T.s (i := .iconst 1) (k := 1) (st' := [.int (zI (1)), .ref 44]) (pc := 251) rfl rfl ?_
        have ap : ∀ j, 0 ≤ j → zv_a h24 61 j = zv_a h 61 j := fun j hj => by rw [zv_wa w25 rfl j, zv_wa w15 rfl j, zv_wa w2 rfl j]
        have y28 : zv_a h24 61 8 = zv_a h 61 8 := ((zv_wa w25 rfl 8).trans ((zv_wa w15 rfl 8).trans (zv_wa w2 rfl 8)))
        refine zr_iv (cj := 163) (q' := zp_m163) (As := [.int (zI (1))]) (rest := []) (pc := 252) rfl rfl rfl rfl rfl rfl (Nat.le_of_ble_eq_true rfl) rfl (Nat.le_of_ble_eq_true rfl) ih24 ((zm_push (h := h24) ih24 (k := 1) (by omega) (by omega) (by omega)).up (Nat.le_of_ble_eq_true rfl)) ?_
        rintro r31 h34 ⟨ih34, w35, r31q, x33⟩
        subst r31q
        try dsimp only at x33
        have pj := x33.2.2.1
        have p8 := x33.2.2.2 (by omega)
        rcases zg_p1 x33 (by omega) with q36 | q36 | q36
        · clear x33
          show zx_T zp_P 3 zp_m167 255 [(2, .int (zI (zv_a h 46 p))), (0, .ref 44), (1, .int (zI (p)))] [] h34 _
          refine zx_T.j (i := .goto 187) (k := 3) (pc' := 442) (st' := []) (pc := 255) rfl rfl rfl rfl rfl ?_
          refine zx_T.l (i := .aload_n 0) (k := 1) (v := .ref 44) (pc := 442) rfl rfl rfl ?_
          refine zr_gi (k := 26) (lo := 0) (hi := 7) (e := zv_i h34 26) (pc := 443) rfl rfl rfl ih34 rfl (fun g37a g37b => ?_)
          have ae : ∀ j, 0 ≤ j → zv_a h34 61 j = zv_a h34 61 j := fun j hj => rfl
          have y42 := zv_ri ih34 (k := 25) rfl
          exact zr_ir (x := zv_i h34 26) (pc := 446) rfl rfl rfl ⟨ih34, ((((w2.wd rfl : zb_W [(44, 25), (44, 26), (61, 0)] h _).tr (w15.wd rfl)).tr (w25.wd rfl)).tr (w35.wd rfl)), _, rfl, by dsimp only; exact ⟨by omega, by omega, by omega, by omega, fun h0 => absurd h0 (by omega)⟩⟩
        · exact False.elim (by omega)
        · exact False.elim (by omega)
      · exact False.elim (by omega)
      · exact False.elim (by omega)
    · clear x13
      show zx_T zp_P 3 zp_m167 245 [(2, .int (zI (zv_a h 46 p))), (0, .ref 44), (1, .int (zI (p)))] [] h14 _
      refine zx_T.l (i := .aload_n 0) (k := 1) (v := .ref 44) (pc := 245) rfl rfl rfl ?_
      refine zx_T.s (i := .iconst 1) (k := 1) (st' := [.int (zI (1)), .ref 44]) (pc := 246) rfl rfl ?_
      have y43 : zv_a h14 61 8 = zv_a h 61 8 := ((zv_wa w15 rfl 8).trans (zv_wa w2 rfl 8))
      have an1 : ∀ j, 0 ≤ j → zv_a h14 61 j = zv_a h 61 j := fun j hj => by rw [zv_wa w15 rfl j, zv_wa w2 rfl j]
      refine zr_iv (cj := 162) (q' := zp_m162) (As := [.int (zI (1))]) (rest := []) (pc := 247) rfl rfl rfl rfl rfl rfl (Nat.le_of_ble_eq_true rfl) rfl (Nat.le_of_ble_eq_true rfl) ih14 ((zm_need (h := h14) ih14 (w := 1) (by omega) (by omega) (by omega)).up (Nat.le_of_ble_eq_true rfl)) ?_
      rintro r47 h50 ⟨ih50, w51, r47q, x49⟩
      subst r47q
      try dsimp only at x49
      have nj2 := x49.2.2
      rcases zg_n1 x49 (by omega) with q52 | q52 | q52
      · exact False.elim (by omega)
      · clear x49
        show zx_T zp_P 3 zp_m167 250 [(2, .int (zI (zv_a h 46 p))), (0, .ref 44), (1, .int (zI (p)))] [] h50 _
        refine zx_T.l (i := .aload_n 0) (k := 1) (v := .ref 44) (pc := 250) rfl rfl rfl ?_
        refine zx_T.s (i := .iconst 1) (k := 1) (st' := [.int (zI (1)), .ref 44]) (pc := 251) rfl rfl ?_
        have ap : ∀ j, 0 ≤ j → zv_a h50 61 j = zv_a h 61 j := fun j hj => by rw [zv_wa w51 rfl j, zv_wa w15 rfl j, zv_wa w2 rfl j]
        have y54 : zv_a h50 61 8 = zv_a h 61 8 := ((zv_wa w51 rfl 8).trans ((zv_wa w15 rfl 8).trans (zv_wa w2 rfl 8)))
        refine zr_iv (cj := 163) (q' := zp_m163) (As := [.int (zI (1))]) (rest := []) (pc := 252) rfl rfl rfl rfl rfl rfl (Nat.le_of_ble_eq_true rfl) rfl (Nat.le_of_ble_eq_true rfl) ih50 ((zm_push (h := h50) ih50 (k := 1) (by omega) (by omega) (by omega)).up (Nat.le_of_ble_eq_true rfl)) ?_
        rintro r57 h60 ⟨ih60, w61, r57q, x59⟩
        subst r57q
        try dsimp only at x59
        have pj := x59.2.2.1
        have p8 := x59.2.2.2 (by omega)
        rcases zg_p1 x59 (by omega) with q62 | q62 | q62
        · clear x59
          show zx_T zp_P 3 zp_m167 255 [(2, .int (zI (zv_a h 46 p))), (0, .ref 44), (1, .int (zI (p)))] [] h60 _
          refine zx_T.j (i := .goto 187) (k := 3) (pc' := 442) (st' := []) (pc := 255) rfl rfl rfl rfl rfl ?_
          refine zx_T.l (i := .aload_n 0) (k := 1) (v := .ref 44) (pc := 442) rfl rfl rfl ?_
          refine zr_gi (k := 26) (lo := 0) (hi := 7) (e := zv_i h60 26) (pc := 443) rfl rfl rfl ih60 rfl (fun g63a g63b => ?_)
          have ae : ∀ j, 0 ≤ j → zv_a h60 61 j = zv_a h60 61 j := fun j hj => rfl
          have y68 := zv_ri ih60 (k := 25) rfl
          exact zr_ir (x := zv_i h60 26) (pc := 446) rfl rfl rfl ⟨ih60, ((((w2.wd rfl : zb_W [(44, 25), (44, 26), (61, 0)] h _).tr (w15.wd rfl)).tr (w51.wd rfl)).tr (w61.wd rfl)), _, rfl, by dsimp only; exact ⟨by omega, by omega, by omega, by omega, fun h0 => absurd h0 (by omega)⟩⟩
        · exact False.elim (by omega)
        · exact False.elim (by omega)
      · clear x49
        show zx_T zp_P 3 zp_m167 250 [(2, .int (zI (zv_a h 46 p))), (0, .ref 44), (1, .int (zI (p)))] [] h50 _
        refine zx_T.l (i := .aload_n 0) (k := 1) (v := .ref 44) (pc := 250) rfl rfl rfl ?_
        refine zx_T.s (i := .iconst 1) (k := 1) (st' := [.int (zI (1)), .ref 44]) (pc := 251) rfl rfl ?_
        have ap : ∀ j, 0 ≤ j → zv_a h50 61 j = zv_a h 61 j := fun j hj => by rw [zv_wa w51 rfl j, zv_wa w15 rfl j, zv_wa w2 rfl j]
        have y70 : zv_a h50 61 8 = zv_a h 61 8 := ((zv_wa w51 rfl 8).trans ((zv_wa w15 rfl 8).trans (zv_wa w2 rfl 8)))
        refine zr_iv (cj := 163) (q' := zp_m163) (As := [.int (zI (1))]) (rest := []) (pc := 252) rfl rfl rfl rfl rfl rfl (Nat.le_of_ble_eq_true rfl) rfl (Nat.le_of_ble_eq_true rfl) ih50 ((zm_push (h := h50) ih50 (k := 1) (by omega) (by omega) (by omega)).up (Nat.le_of_ble_eq_true rfl)) ?_
        rintro r73 h76 ⟨ih76, w77, r73q, x75⟩
        subst r73q
        try dsimp only at x75
        have pj := x75.2.2.1
        have p8 := x75.2.2.2 (by omega)
        rcases zg_p1 x75 (by omega) with q78 | q78 | q78
        · exact False.elim (by omega)
        · clear x75
          show zx_T zp_P 3 zp_m167 255 [(2, .int (zI (zv_a h 46 p))), (0, .ref 44), (1, .int (zI (p)))] [] h76 _
          refine zx_T.j (i := .goto 187) (k := 3) (pc' := 442) (st' := []) (pc := 255) rfl rfl rfl rfl rfl ?_
          refine zx_T.l (i := .aload_n 0) (k := 1) (v := .ref 44) (pc := 442) rfl rfl rfl ?_
          refine zr_gi (k := 26) (lo := 0) (hi := 7) (e := zv_i h76 26) (pc := 443) rfl rfl rfl ih76 rfl (fun g79a g79b => ?_)
          have ae : ∀ j, 0 ≤ j → zv_a h76 61 j = zv_a h76 61 j := fun j hj => rfl
          have y84 := zv_ri ih76 (k := 25) rfl
          exact zr_ir (x := zv_i h76 26) (pc := 446) rfl rfl rfl ⟨ih76, ((((w2.wd rfl : zb_W [(44, 25), (44, 26), (61, 0)] h _).tr (w15.wd rfl)).tr (w51.wd rfl)).tr (w77.wd rfl)), _, rfl, by dsimp only; exact ⟨by omega, by omega, by omega, by omega, fun h0 => absurd h0 (by omega)⟩⟩
        · clear x75
          show zx_T zp_P 3 zp_m167 255 [(2, .int (zI (zv_a h 46 p))), (0, .ref 44), (1, .int (zI (p)))] [] h76 _
          refine zx_T.j (i := .goto 187) (k := 3) (pc' := 442) (st' := []) (pc := 255) rfl rfl rfl rfl rfl ?_
          refine zx_T.l (i := .aload_n 0) (k := 1) (v := .ref 44) (pc := 442) rfl rfl rfl ?_
          refine zr_gi (k := 26) (lo := 0) (hi := 7) (e := zv_i h76 26) (pc := 443) rfl rfl rfl ih76 rfl (fun g85a g85b => ?_)
          have ae : ∀ j, 0 ≤ j → zv_a h76 61 j = zv_a h76 61 j := fun j hj => rfl
          have y90 := zv_ri ih76 (k := 25) rfl
          exact zr_ir (x := zv_i h76 26) (pc := 446) rfl rfl rfl ⟨ih76, ((((w2.wd rfl : zb_W [(44, 25), (44, 26), (61, 0)] h _).tr (w15.wd rfl)).tr (w51.wd rfl)).tr (w77.wd rfl)), _, rfl, by dsimp only; exact ⟨by omega, by omega, by omega, by omega, fun h0 => ⟨by omega, fun j hj => ⟨fun ho => absurd ho (by omega), fun ho => absurd ho (by omega), fun ho => absurd ho (by omega), fun ho => absurd ho (by omega), fun ho => absurd ho (by omega)⟩, fun ho j hj j2 j3 => by have d5 := ap j hj; have b4 := pj j hj; have r1 : zv_i h50 26 = 0 := (by clear b4; omega); have b5 := b4.1 r1 h0; have b6 := b4.2.1 r1 h0; clear ic; exact if z : j = zv_i h50 25 + 8 then (by have b8 := b5 z; clear b4 b5 b6; exfalso; omega) else (by have b8 := b4.2.2 (fun y => by rcases y.2.2 with y | y; exact z y; exact absurd y.1 (by decide)); clear b4 b5 b6; exact Or.inl ⟨by omega, by omega, fun _ => by omega, fun _ => by omega, fun _ => by omega, fun _ => by omega⟩), fun ho => absurd ho (by omega)⟩⟩⟩

set_option maxRecDepth 100000 in
set_option maxHeartbeats 20000000 in
theorem zm_does_c13 {h : zx_H} (hI : zb_I zc_H h) {p : Int} (p1 : 0 ≤ p) (p2 : p ≤ 59) (n8 : ¬ zv_a h 61 8 = 3) (ic : zv_a h 45 p = 21 → 5 ≤ zv_a h 46 p ∧ zv_a h 46 p ≤ 8) (ov : zv_a h 45 p = 13) : zx_T zp_P 3 zp_m167 0 [(0, .ref 44), (1, .int (zI (p)))] [] h (zr_R [(44, 25), (44, 26), (61, 0)] h (fun e h' => e = zv_i h' 26 ∧ 0 ≤ e ∧ e ≤ 7 ∧ ¬ zv_a h' 61 8 = 3 ∧ (e = 0 → zg_does (zv_a h 45 p) (zv_a h 46 p) h h'))) := by
  have hS := zv_ri hI (k := 25) rfl
  refine zx_T.l (i := .aload_n 0) (k := 1) (v := .ref 44) (pc := 0) rfl rfl rfl ?_
  refine zx_T.s (i := .iconst 0) (k := 1) (st' := [.int (zI (0)), .ref 44]) (pc := 1) rfl rfl ?_
  refine zr_pi (k := 26) (lo := 0) (hi := 7) (e := 0) (pc := 2) rfl rfl rfl rfl rfl rfl hI (by omega) (by omega) (fun h1 ih1 w2 e3 => ?_)
  refine zx_T.l (i := .aload_n 0) (k := 1) (v := .ref 44) (pc := 5) rfl rfl rfl ?_
  refine zr_gr (k := 3) (b := 46) (pc := 6) rfl rfl rfl ih1 ?_
  refine zx_T.l (i := .iload_n 1) (k := 1) (v := .int (zI (p))) (pc := 9) rfl rfl rfl ?_
  refine zr_al (n := 60) (lo := (-2147483648)) (hi := 2147483647) (e := zv_a h 46 p) (pc := 10) rfl rfl rfl ih1 (by omega) (by omega) (zv_wa w2 rfl p) (fun g4a g4b => ?_)
  refine zx_T.t (i := .istore_n 2) (k := 1) (ls' := [(2, .int (zI (zv_a h 46 p))), (0, .ref 44), (1, .int (zI (p)))]) (st' := []) (pc := 11) rfl rfl rfl rfl ?_
  refine zx_T.l (i := .aload_n 0) (k := 1) (v := .ref 44) (pc := 12) rfl rfl rfl ?_
  refine zr_gr (k := 2) (b := 45) (pc := 13) rfl rfl rfl ih1 ?_
  refine zx_T.l (i := .iload_n 1) (k := 1) (v := .int (zI (p))) (pc := 16) rfl rfl rfl ?_
  refine zr_al (n := 60) (lo := 0) (hi := 28) (e := zv_a h 45 p) (pc := 17) rfl rfl rfl ih1 (by omega) (by omega) (zv_wa w2 rfl p) (fun g5a g5b => ?_)
  have c6 : zv_a h 45 p = 13 := by omega
  rcases c6 with c6
  · refine zr_sw (i := .tableswitch 424 1 28 #[126, 134, 142, 150, 158, 167, 176, 190, 198, 206, 214, 222, 222, 240, 258, 271, 284, 303, 322, 336, 350, 363, 424, 424, 372, 380, 372, 388]) (len := 126) (t := 240) (x := zv_a h 45 p) (k := 13) (pc := 18) rfl c6 rfl rfl rfl rfl ?_
    refine zx_T.l (i := .aload_n 0) (k := 1) (v := .ref 44) (pc := 240) rfl rfl rfl ?_
    refine zx_T.s (i := .iconst 1) (k := 1) (st' := [.int (zI (1)), .ref 44]) (pc := 241) rfl rfl ?_
    have y7 : zv_a h1 61 8 = zv_a h 61 8 := (zv_wa w2 rfl 8)
    have y8 : zv_i h1 25 = zv_i h 25 := (zv_wi w2 rfl)
    have y9 : zv_i h1 26 = 0 := e3
    have an0 : ∀ j, 0 ≤ j → zv_a h1 61 j = zv_a h 61 j := fun j hj => by rw [zv_wa w2 rfl j]
    refine zr_iv (cj := 162) (q' := zp_m162) (As := [.int (zI (1))]) (rest := []) (pc := 242) rfl rfl rfl rfl rfl rfl (Nat.le_of_ble_eq_true rfl) rfl (Nat.le_of_ble_eq_true rfl) ih1 ((zm_need (h := h1) ih1 (w := 1) (by omega) (by omega) (by omega)).up (Nat.le_of_ble_eq_true rfl)) ?_
    rintro r11 h14 ⟨ih14, w15, r11q, x13⟩
    subst r11q
    try dsimp only at x13
    have nj1 := x13.2.2
    rcases zg_n1 x13 (by omega) with q16 | q16 | q16
    · exact False.elim (by omega)
    · clear x13
      show zx_T zp_P 3 zp_m167 245 [(2, .int (zI (zv_a h 46 p))), (0, .ref 44), (1, .int (zI (p)))] [] h14 _
      refine zx_T.l (i := .aload_n 0) (k := 1) (v := .ref 44) (pc := 245) rfl rfl rfl ?_
      refine zx_T.s (i := .iconst 1) (k := 1) (st' := [.int (zI (1)), .ref 44]) (pc := 246) rfl rfl ?_
      have y17 : zv_a h14 61 8 = zv_a h 61 8 := ((zv_wa w15 rfl 8).trans (zv_wa w2 rfl 8))
      have an1 : ∀ j, 0 ≤ j → zv_a h14 61 j = zv_a h 61 j := fun j hj => by rw [zv_wa w15 rfl j, zv_wa w2 rfl j]
      refine zr_iv (cj := 162) (q' := zp_m162) (As := [.int (zI (1))]) (rest := []) (pc := 247) rfl rfl rfl rfl rfl rfl (Nat.le_of_ble_eq_true rfl) rfl (Nat.le_of_ble_eq_true rfl) ih14 ((zm_need (h := h14) ih14 (w := 1) (by omega) (by omega) (by omega)).up (Nat.le_of_ble_eq_true rfl)) ?_
      rintro r21 h24 ⟨ih24, w25, r21q, x23⟩
      subst r21q
      try dsimp only at x23
      have nj2 := x23.2.2
      rcases zg_n1 x23 (by omega) with q26 | q26 | q26
      · clear x23
        show zx_T zp_P 3 zp_m167 250 [(2, .int (zI (zv_a h 46 p))), (0, .ref 44), (1, .int (zI (p)))] [] h24 _
        refine zx_T.l (i := .aload_n 0) (k := 1) (v := .ref 44) (pc := 250) rfl rfl rfl ?_
        refine zx_T.s (i := .iconst 1) (k := 1) (st' := [.int (zI (1)), .ref 44]) (pc := 251) rfl rfl ?_
        have ap : ∀ j, 0 ≤ j → zv_a h24 61 j = zv_a h 61 j := fun j hj => by rw [zv_wa w25 rfl j, zv_wa w15 rfl j, zv_wa w2 rfl j]
        have y28 : zv_a h24 61 8 = zv_a h 61 8 := ((zv_wa w25 rfl 8).trans ((zv_wa w15 rfl 8).trans (zv_wa w2 rfl 8)))
        refine zr_iv (cj := 163) (q' := zp_m163) (As := [.int (zI (1))]) (rest := []) (pc := 252) rfl rfl rfl rfl rfl rfl (Nat.le_of_ble_eq_true rfl) rfl (Nat.le_of_ble_eq_true rfl) ih24 ((zm_push (h := h24) ih24 (k := 1) (by omega) (by omega) (by omega)).up (Nat.le_of_ble_eq_true rfl)) ?_
        rintro r31 h34 ⟨ih34, w35, r31q, x33⟩
        subst r31q
        try dsimp only at x33
        have pj := x33.2.2.1
        have p8 := x33.2.2.2 (by omega)
        rcases zg_p1 x33 (by omega) with q36 | q36 | q36
        · clear x33
          show zx_T zp_P 3 zp_m167 255 [(2, .int (zI (zv_a h 46 p))), (0, .ref 44), (1, .int (zI (p)))] [] h34 _
          refine zx_T.j (i := .goto 187) (k := 3) (pc' := 442) (st' := []) (pc := 255) rfl rfl rfl rfl rfl ?_
          refine zx_T.l (i := .aload_n 0) (k := 1) (v := .ref 44) (pc := 442) rfl rfl rfl ?_
          refine zr_gi (k := 26) (lo := 0) (hi := 7) (e := zv_i h34 26) (pc := 443) rfl rfl rfl ih34 rfl (fun g37a g37b => ?_)
          have ae : ∀ j, 0 ≤ j → zv_a h34 61 j = zv_a h34 61 j := fun j hj => rfl
          have y42 := zv_ri ih34 (k := 25) rfl
          exact zr_ir (x := zv_i h34 26) (pc := 446) rfl rfl rfl ⟨ih34, ((((w2.wd rfl : zb_W [(44, 25), (44, 26), (61, 0)] h _).tr (w15.wd rfl)).tr (w25.wd rfl)).tr (w35.wd rfl)), _, rfl, by dsimp only; exact ⟨by omega, by omega, by omega, by omega, fun h0 => absurd h0 (by omega)⟩⟩
        · exact False.elim (by omega)
        · exact False.elim (by omega)
      · exact False.elim (by omega)
      · exact False.elim (by omega)
    · clear x13
      show zx_T zp_P 3 zp_m167 245 [(2, .int (zI (zv_a h 46 p))), (0, .ref 44), (1, .int (zI (p)))] [] h14 _
      refine zx_T.l (i := .aload_n 0) (k := 1) (v := .ref 44) (pc := 245) rfl rfl rfl ?_
      refine zx_T.s (i := .iconst 1) (k := 1) (st' := [.int (zI (1)), .ref 44]) (pc := 246) rfl rfl ?_
      have y43 : zv_a h14 61 8 = zv_a h 61 8 := ((zv_wa w15 rfl 8).trans (zv_wa w2 rfl 8))
      have an1 : ∀ j, 0 ≤ j → zv_a h14 61 j = zv_a h 61 j := fun j hj => by rw [zv_wa w15 rfl j, zv_wa w2 rfl j]
      refine zr_iv (cj := 162) (q' := zp_m162) (As := [.int (zI (1))]) (rest := []) (pc := 247) rfl rfl rfl rfl rfl rfl (Nat.le_of_ble_eq_true rfl) rfl (Nat.le_of_ble_eq_true rfl) ih14 ((zm_need (h := h14) ih14 (w := 1) (by omega) (by omega) (by omega)).up (Nat.le_of_ble_eq_true rfl)) ?_
      rintro r47 h50 ⟨ih50, w51, r47q, x49⟩
      subst r47q
      try dsimp only at x49
      have nj2 := x49.2.2
      rcases zg_n1 x49 (by omega) with q52 | q52 | q52
      · exact False.elim (by omega)
      · clear x49
        show zx_T zp_P 3 zp_m167 250 [(2, .int (zI (zv_a h 46 p))), (0, .ref 44), (1, .int (zI (p)))] [] h50 _
        refine zx_T.l (i := .aload_n 0) (k := 1) (v := .ref 44) (pc := 250) rfl rfl rfl ?_
        refine zx_T.s (i := .iconst 1) (k := 1) (st' := [.int (zI (1)), .ref 44]) (pc := 251) rfl rfl ?_
        have ap : ∀ j, 0 ≤ j → zv_a h50 61 j = zv_a h 61 j := fun j hj => by rw [zv_wa w51 rfl j, zv_wa w15 rfl j, zv_wa w2 rfl j]
        have y54 : zv_a h50 61 8 = zv_a h 61 8 := ((zv_wa w51 rfl 8).trans ((zv_wa w15 rfl 8).trans (zv_wa w2 rfl 8)))
        refine zr_iv (cj := 163) (q' := zp_m163) (As := [.int (zI (1))]) (rest := []) (pc := 252) rfl rfl rfl rfl rfl rfl (Nat.le_of_ble_eq_true rfl) rfl (Nat.le_of_ble_eq_true rfl) ih50 ((zm_push (h := h50) ih50 (k := 1) (by omega) (by omega) (by omega)).up (Nat.le_of_ble_eq_true rfl)) ?_
        rintro r57 h60 ⟨ih60, w61, r57q, x59⟩
        subst r57q
        try dsimp only at x59
        have pj := x59.2.2.1
        have p8 := x59.2.2.2 (by omega)
        rcases zg_p1 x59 (by omega) with q62 | q62 | q62
        · clear x59
          show zx_T zp_P 3 zp_m167 255 [(2, .int (zI (zv_a h 46 p))), (0, .ref 44), (1, .int (zI (p)))] [] h60 _
          refine zx_T.j (i := .goto 187) (k := 3) (pc' := 442) (st' := []) (pc := 255) rfl rfl rfl rfl rfl ?_
          refine zx_T.l (i := .aload_n 0) (k := 1) (v := .ref 44) (pc := 442) rfl rfl rfl ?_
          refine zr_gi (k := 26) (lo := 0) (hi := 7) (e := zv_i h60 26) (pc := 443) rfl rfl rfl ih60 rfl (fun g63a g63b => ?_)
          have ae : ∀ j, 0 ≤ j → zv_a h60 61 j = zv_a h60 61 j := fun j hj => rfl
          have y68 := zv_ri ih60 (k := 25) rfl
          exact zr_ir (x := zv_i h60 26) (pc := 446) rfl rfl rfl ⟨ih60, ((((w2.wd rfl : zb_W [(44, 25), (44, 26), (61, 0)] h _).tr (w15.wd rfl)).tr (w51.wd rfl)).tr (w61.wd rfl)), _, rfl, by dsimp only; exact ⟨by omega, by omega, by omega, by omega, fun h0 => absurd h0 (by omega)⟩⟩
        · exact False.elim (by omega)
        · exact False.elim (by omega)
      · clear x49
        show zx_T zp_P 3 zp_m167 250 [(2, .int (zI (zv_a h 46 p))), (0, .ref 44), (1, .int (zI (p)))] [] h50 _
        refine zx_T.l (i := .aload_n 0) (k := 1) (v := .ref 44) (pc := 250) rfl rfl rfl ?_
        refine zx_T.s (i := .iconst 1) (k := 1) (st' := [.int (zI (1)), .ref 44]) (pc := 251) rfl rfl ?_
        have ap : ∀ j, 0 ≤ j → zv_a h50 61 j = zv_a h 61 j := fun j hj => by rw [zv_wa w51 rfl j, zv_wa w15 rfl j, zv_wa w2 rfl j]
        have y70 : zv_a h50 61 8 = zv_a h 61 8 := ((zv_wa w51 rfl 8).trans ((zv_wa w15 rfl 8).trans (zv_wa w2 rfl 8)))
        refine zr_iv (cj := 163) (q' := zp_m163) (As := [.int (zI (1))]) (rest := []) (pc := 252) rfl rfl rfl rfl rfl rfl (Nat.le_of_ble_eq_true rfl) rfl (Nat.le_of_ble_eq_true rfl) ih50 ((zm_push (h := h50) ih50 (k := 1) (by omega) (by omega) (by omega)).up (Nat.le_of_ble_eq_true rfl)) ?_
        rintro r73 h76 ⟨ih76, w77, r73q, x75⟩
        subst r73q
        try dsimp only at x75
        have pj := x75.2.2.1
        have p8 := x75.2.2.2 (by omega)
        rcases zg_p1 x75 (by omega) with q78 | q78 | q78
        · exact False.elim (by omega)
        · clear x75
          show zx_T zp_P 3 zp_m167 255 [(2, .int (zI (zv_a h 46 p))), (0, .ref 44), (1, .int (zI (p)))] [] h76 _
          refine zx_T.j (i := .goto 187) (k := 3) (pc' := 442) (st' := []) (pc := 255) rfl rfl rfl rfl rfl ?_
          refine zx_T.l (i := .aload_n 0) (k := 1) (v := .ref 44) (pc := 442) rfl rfl rfl ?_
          refine zr_gi (k := 26) (lo := 0) (hi := 7) (e := zv_i h76 26) (pc := 443) rfl rfl rfl ih76 rfl (fun g79a g79b => ?_)
          have ae : ∀ j, 0 ≤ j → zv_a h76 61 j = zv_a h76 61 j := fun j hj => rfl
          have y84 := zv_ri ih76 (k := 25) rfl
          exact zr_ir (x := zv_i h76 26) (pc := 446) rfl rfl rfl ⟨ih76, ((((w2.wd rfl : zb_W [(44, 25), (44, 26), (61, 0)] h _).tr (w15.wd rfl)).tr (w51.wd rfl)).tr (w77.wd rfl)), _, rfl, by dsimp only; exact ⟨by omega, by omega, by omega, by omega, fun h0 => absurd h0 (by omega)⟩⟩
        · clear x75
          show zx_T zp_P 3 zp_m167 255 [(2, .int (zI (zv_a h 46 p))), (0, .ref 44), (1, .int (zI (p)))] [] h76 _
          refine zx_T.j (i := .goto 187) (k := 3) (pc' := 442) (st' := []) (pc := 255) rfl rfl rfl rfl rfl ?_
          refine zx_T.l (i := .aload_n 0) (k := 1) (v := .ref 44) (pc := 442) rfl rfl rfl ?_
          refine zr_gi (k := 26) (lo := 0) (hi := 7) (e := zv_i h76 26) (pc := 443) rfl rfl rfl ih76 rfl (fun g85a g85b => ?_)
          have ae : ∀ j, 0 ≤ j → zv_a h76 61 j = zv_a h76 61 j := fun j hj => rfl
          have y90 := zv_ri ih76 (k := 25) rfl
          exact zr_ir (x := zv_i h76 26) (pc := 446) rfl rfl rfl ⟨ih76, ((((w2.wd rfl : zb_W [(44, 25), (44, 26), (61, 0)] h _).tr (w15.wd rfl)).tr (w51.wd rfl)).tr (w77.wd rfl)), _, rfl, by dsimp only; exact ⟨by omega, by omega, by omega, by omega, fun h0 => ⟨by omega, fun j hj => ⟨fun ho => absurd ho (by omega), fun ho => absurd ho (by omega), fun ho => absurd ho (by omega), fun ho => absurd ho (by omega), fun ho => absurd ho (by omega)⟩, fun ho j hj j2 j3 => by have d5 := ap j hj; have b4 := pj j hj; have r1 : zv_i h50 26 = 0 := (by clear b4; omega); have b5 := b4.1 r1 h0; have b6 := b4.2.1 r1 h0; clear ic; exact if z : j = zv_i h50 25 + 8 then (by have b8 := b5 z; clear b4 b5 b6; exfalso; omega) else (by have b8 := b4.2.2 (fun y => by rcases y.2.2 with y | y; exact z y; exact absurd y.1 (by decide)); clear b4 b5 b6; exact Or.inl ⟨by omega, by omega, fun _ => by omega, fun _ => by omega, fun _ => by omega, fun _ => by omega⟩), fun ho => absurd ho (by omega)⟩⟩⟩

set_option maxRecDepth 100000 in
set_option maxHeartbeats 20000000 in
theorem zm_does_c14 {h : zx_H} (hI : zb_I zc_H h) {p : Int} (p1 : 0 ≤ p) (p2 : p ≤ 59) (n8 : ¬ zv_a h 61 8 = 3) (ic : zv_a h 45 p = 21 → 5 ≤ zv_a h 46 p ∧ zv_a h 46 p ≤ 8) (ov : zv_a h 45 p = 14) : zx_T zp_P 3 zp_m167 0 [(0, .ref 44), (1, .int (zI (p)))] [] h (zr_R [(44, 25), (44, 26), (61, 0)] h (fun e h' => e = zv_i h' 26 ∧ 0 ≤ e ∧ e ≤ 7 ∧ ¬ zv_a h' 61 8 = 3 ∧ (e = 0 → zg_does (zv_a h 45 p) (zv_a h 46 p) h h'))) := by
  have hS := zv_ri hI (k := 25) rfl
  refine zx_T.l (i := .aload_n 0) (k := 1) (v := .ref 44) (pc := 0) rfl rfl rfl ?_
  refine zx_T.s (i := .iconst 0) (k := 1) (st' := [.int (zI (0)), .ref 44]) (pc := 1) rfl rfl ?_
  refine zr_pi (k := 26) (lo := 0) (hi := 7) (e := 0) (pc := 2) rfl rfl rfl rfl rfl rfl hI (by omega) (by omega) (fun h1 ih1 w2 e3 => ?_)
  refine zx_T.l (i := .aload_n 0) (k := 1) (v := .ref 44) (pc := 5) rfl rfl rfl ?_
  refine zr_gr (k := 3) (b := 46) (pc := 6) rfl rfl rfl ih1 ?_
  refine zx_T.l (i := .iload_n 1) (k := 1) (v := .int (zI (p))) (pc := 9) rfl rfl rfl ?_
  refine zr_al (n := 60) (lo := (-2147483648)) (hi := 2147483647) (e := zv_a h 46 p) (pc := 10) rfl rfl rfl ih1 (by omega) (by omega) (zv_wa w2 rfl p) (fun g4a g4b => ?_)
  refine zx_T.t (i := .istore_n 2) (k := 1) (ls' := [(2, .int (zI (zv_a h 46 p))), (0, .ref 44), (1, .int (zI (p)))]) (st' := []) (pc := 11) rfl rfl rfl rfl ?_
  refine zx_T.l (i := .aload_n 0) (k := 1) (v := .ref 44) (pc := 12) rfl rfl rfl ?_
  refine zr_gr (k := 2) (b := 45) (pc := 13) rfl rfl rfl ih1 ?_
  refine zx_T.l (i := .iload_n 1) (k := 1) (v := .int (zI (p))) (pc := 16) rfl rfl rfl ?_
  refine zr_al (n := 60) (lo := 0) (hi := 28) (e := zv_a h 45 p) (pc := 17) rfl rfl rfl ih1 (by omega) (by omega) (zv_wa w2 rfl p) (fun g5a g5b => ?_)
  have c6 : zv_a h 45 p = 14 := by omega
  rcases c6 with c6
  · refine zr_sw (i := .tableswitch 424 1 28 #[126, 134, 142, 150, 158, 167, 176, 190, 198, 206, 214, 222, 222, 240, 258, 271, 284, 303, 322, 336, 350, 363, 424, 424, 372, 380, 372, 388]) (len := 126) (t := 258) (x := zv_a h 45 p) (k := 14) (pc := 18) rfl c6 rfl rfl rfl rfl ?_
    refine zx_T.l (i := .aload_n 0) (k := 1) (v := .ref 44) (pc := 258) rfl rfl rfl ?_
    refine zx_T.s (i := .iconst 2) (k := 1) (st' := [.int (zI (2)), .ref 44]) (pc := 259) rfl rfl ?_
    have y7 : zv_a h1 61 8 = zv_a h 61 8 := (zv_wa w2 rfl 8)
    have y8 : zv_i h1 25 = zv_i h 25 := (zv_wi w2 rfl)
    have y9 : zv_i h1 26 = 0 := e3
    have an0 : ∀ j, 0 ≤ j → zv_a h1 61 j = zv_a h 61 j := fun j hj => by rw [zv_wa w2 rfl j]
    refine zr_iv (cj := 162) (q' := zp_m162) (As := [.int (zI (2))]) (rest := []) (pc := 260) rfl rfl rfl rfl rfl rfl (Nat.le_of_ble_eq_true rfl) rfl (Nat.le_of_ble_eq_true rfl) ih1 ((zm_need (h := h1) ih1 (w := 2) (by omega) (by omega) (by omega)).up (Nat.le_of_ble_eq_true rfl)) ?_
    rintro r11 h14 ⟨ih14, w15, r11q, x13⟩
    subst r11q
    try dsimp only at x13
    have nj1 := x13.2.2
    rcases zg_n2 x13 (by omega) with q16 | q16 | q16
    · exact False.elim (by omega)
    · clear x13
      show zx_T zp_P 3 zp_m167 263 [(2, .int (zI (zv_a h 46 p))), (0, .ref 44), (1, .int (zI (p)))] [] h14 _
      refine zx_T.l (i := .aload_n 0) (k := 1) (v := .ref 44) (pc := 263) rfl rfl rfl ?_
      refine zx_T.s (i := .iconst 2) (k := 1) (st' := [.int (zI (2)), .ref 44]) (pc := 264) rfl rfl ?_
      have y17 : zv_a h14 61 8 = zv_a h 61 8 := ((zv_wa w15 rfl 8).trans (zv_wa w2 rfl 8))
      have an1 : ∀ j, 0 ≤ j → zv_a h14 61 j = zv_a h 61 j := fun j hj => by rw [zv_wa w15 rfl j, zv_wa w2 rfl j]
      refine zr_iv (cj := 162) (q' := zp_m162) (As := [.int (zI (2))]) (rest := []) (pc := 265) rfl rfl rfl rfl rfl rfl (Nat.le_of_ble_eq_true rfl) rfl (Nat.le_of_ble_eq_true rfl) ih14 ((zm_need (h := h14) ih14 (w := 2) (by omega) (by omega) (by omega)).up (Nat.le_of_ble_eq_true rfl)) ?_
      rintro r21 h24 ⟨ih24, w25, r21q, x23⟩
      subst r21q
      try dsimp only at x23
      have nj2 := x23.2.2
      rcases zg_n2 x23 (by omega) with q26 | q26 | q26
      · clear x23
        show zx_T zp_P 3 zp_m167 268 [(2, .int (zI (zv_a h 46 p))), (0, .ref 44), (1, .int (zI (p)))] [] h24 _
        refine zx_T.l (i := .aload_n 0) (k := 1) (v := .ref 44) (pc := 268) rfl rfl rfl ?_
        refine zx_T.s (i := .iconst 2) (k := 1) (st' := [.int (zI (2)), .ref 44]) (pc := 269) rfl rfl ?_
        have ap : ∀ j, 0 ≤ j → zv_a h24 61 j = zv_a h 61 j := fun j hj => by rw [zv_wa w25 rfl j, zv_wa w15 rfl j, zv_wa w2 rfl j]
        have y28 : zv_a h24 61 8 = zv_a h 61 8 := ((zv_wa w25 rfl 8).trans ((zv_wa w15 rfl 8).trans (zv_wa w2 rfl 8)))
        refine zr_iv (cj := 163) (q' := zp_m163) (As := [.int (zI (2))]) (rest := []) (pc := 270) rfl rfl rfl rfl rfl rfl (Nat.le_of_ble_eq_true rfl) rfl (Nat.le_of_ble_eq_true rfl) ih24 ((zm_push (h := h24) ih24 (k := 2) (by omega) (by omega) (by omega)).up (Nat.le_of_ble_eq_true rfl)) ?_
        rintro r31 h34 ⟨ih34, w35, r31q, x33⟩
        subst r31q
        try dsimp only at x33
        have pj := x33.2.2.1
        have p8 := x33.2.2.2 (by omega)
        rcases zg_p2 x33 (by omega) with q36 | q36 | q36
        · clear x33
          show zx_T zp_P 3 zp_m167 273 [(2, .int (zI (zv_a h 46 p))), (0, .ref 44), (1, .int (zI (p)))] [] h34 _
          refine zx_T.j (i := .goto 169) (k := 3) (pc' := 442) (st' := []) (pc := 273) rfl rfl rfl rfl rfl ?_
          refine zx_T.l (i := .aload_n 0) (k := 1) (v := .ref 44) (pc := 442) rfl rfl rfl ?_
          refine zr_gi (k := 26) (lo := 0) (hi := 7) (e := zv_i h34 26) (pc := 443) rfl rfl rfl ih34 rfl (fun g37a g37b => ?_)
          have ae : ∀ j, 0 ≤ j → zv_a h34 61 j = zv_a h34 61 j := fun j hj => rfl
          have y42 := zv_ri ih34 (k := 25) rfl
          exact zr_ir (x := zv_i h34 26) (pc := 446) rfl rfl rfl ⟨ih34, ((((w2.wd rfl : zb_W [(44, 25), (44, 26), (61, 0)] h _).tr (w15.wd rfl)).tr (w25.wd rfl)).tr (w35.wd rfl)), _, rfl, by dsimp only; exact ⟨by omega, by omega, by omega, by omega, fun h0 => absurd h0 (by omega)⟩⟩
        · exact False.elim (by omega)
        · exact False.elim (by omega)
      · exact False.elim (by omega)
      · exact False.elim (by omega)
    · clear x13
      show zx_T zp_P 3 zp_m167 263 [(2, .int (zI (zv_a h 46 p))), (0, .ref 44), (1, .int (zI (p)))] [] h14 _
      refine zx_T.l (i := .aload_n 0) (k := 1) (v := .ref 44) (pc := 263) rfl rfl rfl ?_
      refine zx_T.s (i := .iconst 2) (k := 1) (st' := [.int (zI (2)), .ref 44]) (pc := 264) rfl rfl ?_
      have y43 : zv_a h14 61 8 = zv_a h 61 8 := ((zv_wa w15 rfl 8).trans (zv_wa w2 rfl 8))
      have an1 : ∀ j, 0 ≤ j → zv_a h14 61 j = zv_a h 61 j := fun j hj => by rw [zv_wa w15 rfl j, zv_wa w2 rfl j]
      refine zr_iv (cj := 162) (q' := zp_m162) (As := [.int (zI (2))]) (rest := []) (pc := 265) rfl rfl rfl rfl rfl rfl (Nat.le_of_ble_eq_true rfl) rfl (Nat.le_of_ble_eq_true rfl) ih14 ((zm_need (h := h14) ih14 (w := 2) (by omega) (by omega) (by omega)).up (Nat.le_of_ble_eq_true rfl)) ?_
      rintro r47 h50 ⟨ih50, w51, r47q, x49⟩
      subst r47q
      try dsimp only at x49
      have nj2 := x49.2.2
      rcases zg_n2 x49 (by omega) with q52 | q52 | q52
      · exact False.elim (by omega)
      · clear x49
        show zx_T zp_P 3 zp_m167 268 [(2, .int (zI (zv_a h 46 p))), (0, .ref 44), (1, .int (zI (p)))] [] h50 _
        refine zx_T.l (i := .aload_n 0) (k := 1) (v := .ref 44) (pc := 268) rfl rfl rfl ?_
        refine zx_T.s (i := .iconst 2) (k := 1) (st' := [.int (zI (2)), .ref 44]) (pc := 269) rfl rfl ?_
        have ap : ∀ j, 0 ≤ j → zv_a h50 61 j = zv_a h 61 j := fun j hj => by rw [zv_wa w51 rfl j, zv_wa w15 rfl j, zv_wa w2 rfl j]
        have y54 : zv_a h50 61 8 = zv_a h 61 8 := ((zv_wa w51 rfl 8).trans ((zv_wa w15 rfl 8).trans (zv_wa w2 rfl 8)))
        refine zr_iv (cj := 163) (q' := zp_m163) (As := [.int (zI (2))]) (rest := []) (pc := 270) rfl rfl rfl rfl rfl rfl (Nat.le_of_ble_eq_true rfl) rfl (Nat.le_of_ble_eq_true rfl) ih50 ((zm_push (h := h50) ih50 (k := 2) (by omega) (by omega) (by omega)).up (Nat.le_of_ble_eq_true rfl)) ?_
        rintro r57 h60 ⟨ih60, w61, r57q, x59⟩
        subst r57q
        try dsimp only at x59
        have pj := x59.2.2.1
        have p8 := x59.2.2.2 (by omega)
        rcases zg_p2 x59 (by omega) with q62 | q62 | q62
        · clear x59
          show zx_T zp_P 3 zp_m167 273 [(2, .int (zI (zv_a h 46 p))), (0, .ref 44), (1, .int (zI (p)))] [] h60 _
          refine zx_T.j (i := .goto 169) (k := 3) (pc' := 442) (st' := []) (pc := 273) rfl rfl rfl rfl rfl ?_
          refine zx_T.l (i := .aload_n 0) (k := 1) (v := .ref 44) (pc := 442) rfl rfl rfl ?_
          refine zr_gi (k := 26) (lo := 0) (hi := 7) (e := zv_i h60 26) (pc := 443) rfl rfl rfl ih60 rfl (fun g63a g63b => ?_)
          have ae : ∀ j, 0 ≤ j → zv_a h60 61 j = zv_a h60 61 j := fun j hj => rfl
          have y68 := zv_ri ih60 (k := 25) rfl
          exact zr_ir (x := zv_i h60 26) (pc := 446) rfl rfl rfl ⟨ih60, ((((w2.wd rfl : zb_W [(44, 25), (44, 26), (61, 0)] h _).tr (w15.wd rfl)).tr (w51.wd rfl)).tr (w61.wd rfl)), _, rfl, by dsimp only; exact ⟨by omega, by omega, by omega, by omega, fun h0 => absurd h0 (by omega)⟩⟩
        · exact False.elim (by omega)
        · exact False.elim (by omega)
      · clear x49
        show zx_T zp_P 3 zp_m167 268 [(2, .int (zI (zv_a h 46 p))), (0, .ref 44), (1, .int (zI (p)))] [] h50 _
        refine zx_T.l (i := .aload_n 0) (k := 1) (v := .ref 44) (pc := 268) rfl rfl rfl ?_
        refine zx_T.s (i := .iconst 2) (k := 1) (st' := [.int (zI (2)), .ref 44]) (pc := 269) rfl rfl ?_
        have ap : ∀ j, 0 ≤ j → zv_a h50 61 j = zv_a h 61 j := fun j hj => by rw [zv_wa w51 rfl j, zv_wa w15 rfl j, zv_wa w2 rfl j]
        have y70 : zv_a h50 61 8 = zv_a h 61 8 := ((zv_wa w51 rfl 8).trans ((zv_wa w15 rfl 8).trans (zv_wa w2 rfl 8)))
        refine zr_iv (cj := 163) (q' := zp_m163) (As := [.int (zI (2))]) (rest := []) (pc := 270) rfl rfl rfl rfl rfl rfl (Nat.le_of_ble_eq_true rfl) rfl (Nat.le_of_ble_eq_true rfl) ih50 ((zm_push (h := h50) ih50 (k := 2) (by omega) (by omega) (by omega)).up (Nat.le_of_ble_eq_true rfl)) ?_
        rintro r73 h76 ⟨ih76, w77, r73q, x75⟩
        subst r73q
        try dsimp only at x75
        have pj := x75.2.2.1
        have p8 := x75.2.2.2 (by omega)
        rcases zg_p2 x75 (by omega) with q78 | q78 | q78
        · exact False.elim (by omega)
        · clear x75
          show zx_T zp_P 3 zp_m167 273 [(2, .int (zI (zv_a h 46 p))), (0, .ref 44), (1, .int (zI (p)))] [] h76 _
          refine zx_T.j (i := .goto 169) (k := 3) (pc' := 442) (st' := []) (pc := 273) rfl rfl rfl rfl rfl ?_
          refine zx_T.l (i := .aload_n 0) (k := 1) (v := .ref 44) (pc := 442) rfl rfl rfl ?_
          refine zr_gi (k := 26) (lo := 0) (hi := 7) (e := zv_i h76 26) (pc := 443) rfl rfl rfl ih76 rfl (fun g79a g79b => ?_)
          have ae : ∀ j, 0 ≤ j → zv_a h76 61 j = zv_a h76 61 j := fun j hj => rfl
          have y84 := zv_ri ih76 (k := 25) rfl
          exact zr_ir (x := zv_i h76 26) (pc := 446) rfl rfl rfl ⟨ih76, ((((w2.wd rfl : zb_W [(44, 25), (44, 26), (61, 0)] h _).tr (w15.wd rfl)).tr (w51.wd rfl)).tr (w77.wd rfl)), _, rfl, by dsimp only; exact ⟨by omega, by omega, by omega, by omega, fun h0 => absurd h0 (by omega)⟩⟩
        · clear x75
          show zx_T zp_P 3 zp_m167 273 [(2, .int (zI (zv_a h 46 p))), (0, .ref 44), (1, .int (zI (p)))] [] h76 _
          refine zx_T.j (i := .goto 169) (k := 3) (pc' := 442) (st' := []) (pc := 273) rfl rfl rfl rfl rfl ?_
          refine zx_T.l (i := .aload_n 0) (k := 1) (v := .ref 44) (pc := 442) rfl rfl rfl ?_
          refine zr_gi (k := 26) (lo := 0) (hi := 7) (e := zv_i h76 26) (pc := 443) rfl rfl rfl ih76 rfl (fun g85a g85b => ?_)
          have ae : ∀ j, 0 ≤ j → zv_a h76 61 j = zv_a h76 61 j := fun j hj => rfl
          have y90 := zv_ri ih76 (k := 25) rfl
          exact zr_ir (x := zv_i h76 26) (pc := 446) rfl rfl rfl ⟨ih76, ((((w2.wd rfl : zb_W [(44, 25), (44, 26), (61, 0)] h _).tr (w15.wd rfl)).tr (w51.wd rfl)).tr (w77.wd rfl)), _, rfl, by dsimp only; exact ⟨by omega, by omega, by omega, by omega, fun h0 => ⟨by omega, fun j hj => ⟨fun ho => absurd ho (by omega), fun ho => absurd ho (by omega), fun ho => absurd ho (by omega), fun ho => absurd ho (by omega), fun ho => absurd ho (by omega)⟩, fun ho j hj j2 j3 => by have d5 := ap j hj; have b4 := pj j hj; have r1 : zv_i h50 26 = 0 := (by clear b4; omega); have b5 := b4.1 r1 h0; have b6 := b4.2.1 r1 h0; clear ic; exact if z : j = zv_i h50 25 + 8 then (by have b8 := b5 z; clear b4 b5 b6; exfalso; omega) else if z2 : j = zv_i h50 25 + 9 then (by have b8 := b6 rfl z2; clear b4 b5 b6; exfalso; omega) else (by have b8 := b4.2.2 (fun y => by rcases y.2.2 with y | y; exact z y; exact z2 y.2); clear b4 b5 b6; exact Or.inl ⟨by omega, by omega, fun _ => by omega, fun _ => by omega, fun _ => by omega, fun _ => by omega⟩), fun ho => absurd ho (by omega)⟩⟩⟩

set_option maxRecDepth 100000 in
set_option maxHeartbeats 20000000 in
theorem zm_does_c15 {h : zx_H} (hI : zb_I zc_H h) {p : Int} (p1 : 0 ≤ p) (p2 : p ≤ 59) (n8 : ¬ zv_a h 61 8 = 3) (ic : zv_a h 45 p = 21 → 5 ≤ zv_a h 46 p ∧ zv_a h 46 p ≤ 8) (ov : zv_a h 45 p = 15) : zx_T zp_P 3 zp_m167 0 [(0, .ref 44), (1, .int (zI (p)))] [] h (zr_R [(44, 25), (44, 26), (61, 0)] h (fun e h' => e = zv_i h' 26 ∧ 0 ≤ e ∧ e ≤ 7 ∧ ¬ zv_a h' 61 8 = 3 ∧ (e = 0 → zg_does (zv_a h 45 p) (zv_a h 46 p) h h'))) := by
  have hS := zv_ri hI (k := 25) rfl
  refine zx_T.l (i := .aload_n 0) (k := 1) (v := .ref 44) (pc := 0) rfl rfl rfl ?_
  refine zx_T.s (i := .iconst 0) (k := 1) (st' := [.int (zI (0)), .ref 44]) (pc := 1) rfl rfl ?_
  refine zr_pi (k := 26) (lo := 0) (hi := 7) (e := 0) (pc := 2) rfl rfl rfl rfl rfl rfl hI (by omega) (by omega) (fun h1 ih1 w2 e3 => ?_)
  refine zx_T.l (i := .aload_n 0) (k := 1) (v := .ref 44) (pc := 5) rfl rfl rfl ?_
  refine zr_gr (k := 3) (b := 46) (pc := 6) rfl rfl rfl ih1 ?_
  refine zx_T.l (i := .iload_n 1) (k := 1) (v := .int (zI (p))) (pc := 9) rfl rfl rfl ?_
  refine zr_al (n := 60) (lo := (-2147483648)) (hi := 2147483647) (e := zv_a h 46 p) (pc := 10) rfl rfl rfl ih1 (by omega) (by omega) (zv_wa w2 rfl p) (fun g4a g4b => ?_)
  refine zx_T.t (i := .istore_n 2) (k := 1) (ls' := [(2, .int (zI (zv_a h 46 p))), (0, .ref 44), (1, .int (zI (p)))]) (st' := []) (pc := 11) rfl rfl rfl rfl ?_
  refine zx_T.l (i := .aload_n 0) (k := 1) (v := .ref 44) (pc := 12) rfl rfl rfl ?_
  refine zr_gr (k := 2) (b := 45) (pc := 13) rfl rfl rfl ih1 ?_
  refine zx_T.l (i := .iload_n 1) (k := 1) (v := .int (zI (p))) (pc := 16) rfl rfl rfl ?_
  refine zr_al (n := 60) (lo := 0) (hi := 28) (e := zv_a h 45 p) (pc := 17) rfl rfl rfl ih1 (by omega) (by omega) (zv_wa w2 rfl p) (fun g5a g5b => ?_)
  have c6 : zv_a h 45 p = 15 := by omega
  rcases c6 with c6
  · refine zr_sw (i := .tableswitch 424 1 28 #[126, 134, 142, 150, 158, 167, 176, 190, 198, 206, 214, 222, 222, 240, 258, 271, 284, 303, 322, 336, 350, 363, 424, 424, 372, 380, 372, 388]) (len := 126) (t := 276) (x := zv_a h 45 p) (k := 15) (pc := 18) rfl c6 rfl rfl rfl rfl ?_
    refine zx_T.l (i := .aload_n 0) (k := 1) (v := .ref 44) (pc := 276) rfl rfl rfl ?_
    refine zx_T.s (i := .iconst 2) (k := 1) (st' := [.int (zI (2)), .ref 44]) (pc := 277) rfl rfl ?_
    have y7 : zv_a h1 61 8 = zv_a h 61 8 := (zv_wa w2 rfl 8)
    have y8 : zv_i h1 25 = zv_i h 25 := (zv_wi w2 rfl)
    have y9 : zv_i h1 26 = 0 := e3
    have an0 : ∀ j, 0 ≤ j → zv_a h1 61 j = zv_a h 61 j := fun j hj => by rw [zv_wa w2 rfl j]
    refine zr_iv (cj := 162) (q' := zp_m162) (As := [.int (zI (2))]) (rest := []) (pc := 278) rfl rfl rfl rfl rfl rfl (Nat.le_of_ble_eq_true rfl) rfl (Nat.le_of_ble_eq_true rfl) ih1 ((zm_need (h := h1) ih1 (w := 2) (by omega) (by omega) (by omega)).up (Nat.le_of_ble_eq_true rfl)) ?_
    rintro r11 h14 ⟨ih14, w15, r11q, x13⟩
    subst r11q
    try dsimp only at x13
    have nj1 := x13.2.2
    rcases zg_n2 x13 (by omega) with q16 | q16 | q16
    · exact False.elim (by omega)
    · clear x13
      show zx_T zp_P 3 zp_m167 281 [(2, .int (zI (zv_a h 46 p))), (0, .ref 44), (1, .int (zI (p)))] [] h14 _
      refine zx_T.l (i := .aload_n 0) (k := 1) (v := .ref 44) (pc := 281) rfl rfl rfl ?_
      refine zx_T.s (i := .iconst 1) (k := 1) (st' := [.int (zI (1)), .ref 44]) (pc := 282) rfl rfl ?_
      have ap : ∀ j, 0 ≤ j → zv_a h14 61 j = zv_a h 61 j := fun j hj => by rw [zv_wa w15 rfl j, zv_wa w2 rfl j]
      have y18 : zv_a h14 61 8 = zv_a h 61 8 := ((zv_wa w15 rfl 8).trans (zv_wa w2 rfl 8))
      refine zr_iv (cj := 163) (q' := zp_m163) (As := [.int (zI (1))]) (rest := []) (pc := 283) rfl rfl rfl rfl rfl rfl (Nat.le_of_ble_eq_true rfl) rfl (Nat.le_of_ble_eq_true rfl) ih14 ((zm_push (h := h14) ih14 (k := 1) (by omega) (by omega) (by omega)).up (Nat.le_of_ble_eq_true rfl)) ?_
      rintro r21 h24 ⟨ih24, w25, r21q, x23⟩
      subst r21q
      try dsimp only at x23
      have pj := x23.2.2.1
      have p8 := x23.2.2.2 (by omega)
      rcases zg_p1 x23 (by omega) with q26 | q26 | q26
      · clear x23
        show zx_T zp_P 3 zp_m167 286 [(2, .int (zI (zv_a h 46 p))), (0, .ref 44), (1, .int (zI (p)))] [] h24 _
        refine zx_T.j (i := .goto 156) (k := 3) (pc' := 442) (st' := []) (pc := 286) rfl rfl rfl rfl rfl ?_
        refine zx_T.l (i := .aload_n 0) (k := 1) (v := .ref 44) (pc := 442) rfl rfl rfl ?_
        refine zr_gi (k := 26) (lo := 0) (hi := 7) (e := zv_i h24 26) (pc := 443) rfl rfl rfl ih24 rfl (fun g27a g27b => ?_)
        have ae : ∀ j, 0 ≤ j → zv_a h24 61 j = zv_a h24 61 j := fun j hj => rfl
        have y32 := zv_ri ih24 (k := 25) rfl
        exact zr_ir (x := zv_i h24 26) (pc := 446) rfl rfl rfl ⟨ih24, (((w2.wd rfl : zb_W [(44, 25), (44, 26), (61, 0)] h _).tr (w15.wd rfl)).tr (w25.wd rfl)), _, rfl, by dsimp only; exact ⟨by omega, by omega, by omega, by omega, fun h0 => absurd h0 (by omega)⟩⟩
      · exact False.elim (by omega)
      · exact False.elim (by omega)
    · clear x13
      show zx_T zp_P 3 zp_m167 281 [(2, .int (zI (zv_a h 46 p))), (0, .ref 44), (1, .int (zI (p)))] [] h14 _
      refine zx_T.l (i := .aload_n 0) (k := 1) (v := .ref 44) (pc := 281) rfl rfl rfl ?_
      refine zx_T.s (i := .iconst 1) (k := 1) (st' := [.int (zI (1)), .ref 44]) (pc := 282) rfl rfl ?_
      have ap : ∀ j, 0 ≤ j → zv_a h14 61 j = zv_a h 61 j := fun j hj => by rw [zv_wa w15 rfl j, zv_wa w2 rfl j]
      have y34 : zv_a h14 61 8 = zv_a h 61 8 := ((zv_wa w15 rfl 8).trans (zv_wa w2 rfl 8))
      refine zr_iv (cj := 163) (q' := zp_m163) (As := [.int (zI (1))]) (rest := []) (pc := 283) rfl rfl rfl rfl rfl rfl (Nat.le_of_ble_eq_true rfl) rfl (Nat.le_of_ble_eq_true rfl) ih14 ((zm_push (h := h14) ih14 (k := 1) (by omega) (by omega) (by omega)).up (Nat.le_of_ble_eq_true rfl)) ?_
      rintro r37 h40 ⟨ih40, w41, r37q, x39⟩
      subst r37q
      try dsimp only at x39
      have pj := x39.2.2.1
      have p8 := x39.2.2.2 (by omega)
      rcases zg_p1 x39 (by omega) with q42 | q42 | q42
      · exact False.elim (by omega)
      · clear x39
        show zx_T zp_P 3 zp_m167 286 [(2, .int (zI (zv_a h 46 p))), (0, .ref 44), (1, .int (zI (p)))] [] h40 _
        refine zx_T.j (i := .goto 156) (k := 3) (pc' := 442) (st' := []) (pc := 286) rfl rfl rfl rfl rfl ?_
        refine zx_T.l (i := .aload_n 0) (k := 1) (v := .ref 44) (pc := 442) rfl rfl rfl ?_
        refine zr_gi (k := 26) (lo := 0) (hi := 7) (e := zv_i h40 26) (pc := 443) rfl rfl rfl ih40 rfl (fun g43a g43b => ?_)
        have ae : ∀ j, 0 ≤ j → zv_a h40 61 j = zv_a h40 61 j := fun j hj => rfl
        have y48 := zv_ri ih40 (k := 25) rfl
        exact zr_ir (x := zv_i h40 26) (pc := 446) rfl rfl rfl ⟨ih40, (((w2.wd rfl : zb_W [(44, 25), (44, 26), (61, 0)] h _).tr (w15.wd rfl)).tr (w41.wd rfl)), _, rfl, by dsimp only; exact ⟨by omega, by omega, by omega, by omega, fun h0 => absurd h0 (by omega)⟩⟩
      · clear x39
        show zx_T zp_P 3 zp_m167 286 [(2, .int (zI (zv_a h 46 p))), (0, .ref 44), (1, .int (zI (p)))] [] h40 _
        refine zx_T.j (i := .goto 156) (k := 3) (pc' := 442) (st' := []) (pc := 286) rfl rfl rfl rfl rfl ?_
        refine zx_T.l (i := .aload_n 0) (k := 1) (v := .ref 44) (pc := 442) rfl rfl rfl ?_
        refine zr_gi (k := 26) (lo := 0) (hi := 7) (e := zv_i h40 26) (pc := 443) rfl rfl rfl ih40 rfl (fun g49a g49b => ?_)
        have ae : ∀ j, 0 ≤ j → zv_a h40 61 j = zv_a h40 61 j := fun j hj => rfl
        have y54 := zv_ri ih40 (k := 25) rfl
        exact zr_ir (x := zv_i h40 26) (pc := 446) rfl rfl rfl ⟨ih40, (((w2.wd rfl : zb_W [(44, 25), (44, 26), (61, 0)] h _).tr (w15.wd rfl)).tr (w41.wd rfl)), _, rfl, by dsimp only; exact ⟨by omega, by omega, by omega, by omega, fun h0 => ⟨by omega, fun j hj => ⟨fun ho => absurd ho (by omega), fun ho => absurd ho (by omega), fun ho => absurd ho (by omega), fun ho => absurd ho (by omega), fun ho => absurd ho (by omega)⟩, fun ho j hj j2 j3 => by have d5 := ap j hj; have b4 := pj j hj; have r1 : zv_i h14 26 = 0 := (by clear b4; omega); have b5 := b4.1 r1 h0; have b6 := b4.2.1 r1 h0; clear ic; exact if z : j = zv_i h14 25 + 8 then (by have b8 := b5 z; clear b4 b5 b6; exfalso; omega) else (by have b8 := b4.2.2 (fun y => by rcases y.2.2 with y | y; exact z y; exact absurd y.1 (by decide)); clear b4 b5 b6; exact Or.inl ⟨by omega, by omega, fun _ => by omega, fun _ => by omega, fun _ => by omega, fun _ => by omega⟩), fun ho => absurd ho (by omega)⟩⟩⟩

set_option maxRecDepth 100000 in
set_option maxHeartbeats 20000000 in
theorem zm_does_c16 {h : zx_H} (hI : zb_I zc_H h) {p : Int} (p1 : 0 ≤ p) (p2 : p ≤ 59) (n8 : ¬ zv_a h 61 8 = 3) (ic : zv_a h 45 p = 21 → 5 ≤ zv_a h 46 p ∧ zv_a h 46 p ≤ 8) (ov : zv_a h 45 p = 16) : zx_T zp_P 3 zp_m167 0 [(0, .ref 44), (1, .int (zI (p)))] [] h (zr_R [(44, 25), (44, 26), (61, 0)] h (fun e h' => e = zv_i h' 26 ∧ 0 ≤ e ∧ e ≤ 7 ∧ ¬ zv_a h' 61 8 = 3 ∧ (e = 0 → zg_does (zv_a h 45 p) (zv_a h 46 p) h h'))) := by
  have hS := zv_ri hI (k := 25) rfl
  refine zx_T.l (i := .aload_n 0) (k := 1) (v := .ref 44) (pc := 0) rfl rfl rfl ?_
  refine zx_T.s (i := .iconst 0) (k := 1) (st' := [.int (zI (0)), .ref 44]) (pc := 1) rfl rfl ?_
  refine zr_pi (k := 26) (lo := 0) (hi := 7) (e := 0) (pc := 2) rfl rfl rfl rfl rfl rfl hI (by omega) (by omega) (fun h1 ih1 w2 e3 => ?_)
  refine zx_T.l (i := .aload_n 0) (k := 1) (v := .ref 44) (pc := 5) rfl rfl rfl ?_
  refine zr_gr (k := 3) (b := 46) (pc := 6) rfl rfl rfl ih1 ?_
  refine zx_T.l (i := .iload_n 1) (k := 1) (v := .int (zI (p))) (pc := 9) rfl rfl rfl ?_
  refine zr_al (n := 60) (lo := (-2147483648)) (hi := 2147483647) (e := zv_a h 46 p) (pc := 10) rfl rfl rfl ih1 (by omega) (by omega) (zv_wa w2 rfl p) (fun g4a g4b => ?_)
  refine zx_T.t (i := .istore_n 2) (k := 1) (ls' := [(2, .int (zI (zv_a h 46 p))), (0, .ref 44), (1, .int (zI (p)))]) (st' := []) (pc := 11) rfl rfl rfl rfl ?_
  refine zx_T.l (i := .aload_n 0) (k := 1) (v := .ref 44) (pc := 12) rfl rfl rfl ?_
  refine zr_gr (k := 2) (b := 45) (pc := 13) rfl rfl rfl ih1 ?_
  refine zx_T.l (i := .iload_n 1) (k := 1) (v := .int (zI (p))) (pc := 16) rfl rfl rfl ?_
  refine zr_al (n := 60) (lo := 0) (hi := 28) (e := zv_a h 45 p) (pc := 17) rfl rfl rfl ih1 (by omega) (by omega) (zv_wa w2 rfl p) (fun g5a g5b => ?_)
  have c6 : zv_a h 45 p = 16 := by omega
  rcases c6 with c6
  · refine zr_sw (i := .tableswitch 424 1 28 #[126, 134, 142, 150, 158, 167, 176, 190, 198, 206, 214, 222, 222, 240, 258, 271, 284, 303, 322, 336, 350, 363, 424, 424, 372, 380, 372, 388]) (len := 126) (t := 289) (x := zv_a h 45 p) (k := 16) (pc := 18) rfl c6 rfl rfl rfl rfl ?_
    refine zx_T.l (i := .aload_n 0) (k := 1) (v := .ref 44) (pc := 289) rfl rfl rfl ?_
    refine zx_T.s (i := .iconst 1) (k := 1) (st' := [.int (zI (1)), .ref 44]) (pc := 290) rfl rfl ?_
    have y7 : zv_a h1 61 8 = zv_a h 61 8 := (zv_wa w2 rfl 8)
    have y8 : zv_i h1 25 = zv_i h 25 := (zv_wi w2 rfl)
    have y9 : zv_i h1 26 = 0 := e3
    have an0 : ∀ j, 0 ≤ j → zv_a h1 61 j = zv_a h 61 j := fun j hj => by rw [zv_wa w2 rfl j]
    refine zr_iv (cj := 162) (q' := zp_m162) (As := [.int (zI (1))]) (rest := []) (pc := 291) rfl rfl rfl rfl rfl rfl (Nat.le_of_ble_eq_true rfl) rfl (Nat.le_of_ble_eq_true rfl) ih1 ((zm_need (h := h1) ih1 (w := 1) (by omega) (by omega) (by omega)).up (Nat.le_of_ble_eq_true rfl)) ?_
    rintro r11 h14 ⟨ih14, w15, r11q, x13⟩
    subst r11q
    try dsimp only at x13
    have nj1 := x13.2.2
    rcases zg_n1 x13 (by omega) with q16 | q16 | q16
    · exact False.elim (by omega)
    · clear x13
      show zx_T zp_P 3 zp_m167 294 [(2, .int (zI (zv_a h 46 p))), (0, .ref 44), (1, .int (zI (p)))] [] h14 _
      refine zx_T.l (i := .aload_n 0) (k := 1) (v := .ref 44) (pc := 294) rfl rfl rfl ?_
      refine zx_T.s (i := .iconst 2) (k := 1) (st' := [.int (zI (2)), .ref 44]) (pc := 295) rfl rfl ?_
      have ap : ∀ j, 0 ≤ j → zv_a h14 61 j = zv_a h 61 j := fun j hj => by rw [zv_wa w15 rfl j, zv_wa w2 rfl j]
      have y18 : zv_a h14 61 8 = zv_a h 61 8 := ((zv_wa w15 rfl 8).trans (zv_wa w2 rfl 8))
      refine zr_iv (cj := 163) (q' := zp_m163) (As := [.int (zI (2))]) (rest := []) (pc := 296) rfl rfl rfl rfl rfl rfl (Nat.le_of_ble_eq_true rfl) rfl (Nat.le_of_ble_eq_true rfl) ih14 ((zm_push (h := h14) ih14 (k := 2) (by omega) (by omega) (by omega)).up (Nat.le_of_ble_eq_true rfl)) ?_
      rintro r21 h24 ⟨ih24, w25, r21q, x23⟩
      subst r21q
      try dsimp only at x23
      have pj := x23.2.2.1
      have p8 := x23.2.2.2 (by omega)
      rcases zg_p2 x23 (by omega) with q26 | q26 | q26
      · clear x23
        show zx_T zp_P 3 zp_m167 299 [(2, .int (zI (zv_a h 46 p))), (0, .ref 44), (1, .int (zI (p)))] [] h24 _
        refine zx_T.j (i := .goto 143) (k := 3) (pc' := 442) (st' := []) (pc := 299) rfl rfl rfl rfl rfl ?_
        refine zx_T.l (i := .aload_n 0) (k := 1) (v := .ref 44) (pc := 442) rfl rfl rfl ?_
        refine zr_gi (k := 26) (lo := 0) (hi := 7) (e := zv_i h24 26) (pc := 443) rfl rfl rfl ih24 rfl (fun g27a g27b => ?_)
        have ae : ∀ j, 0 ≤ j → zv_a h24 61 j = zv_a h24 61 j := fun j hj => rfl
        have y32 := zv_ri ih24 (k := 25) rfl
        exact zr_ir (x := zv_i h24 26) (pc := 446) rfl rfl rfl ⟨ih24, (((w2.wd rfl : zb_W [(44, 25), (44, 26), (61, 0)] h _).tr (w15.wd rfl)).tr (w25.wd rfl)), _, rfl, by dsimp only; exact ⟨by omega, by omega, by omega, by omega, fun h0 => absurd h0 (by omega)⟩⟩
      · exact False.elim (by omega)
      · exact False.elim (by omega)
    · clear x13
      show zx_T zp_P 3 zp_m167 294 [(2, .int (zI (zv_a h 46 p))), (0, .ref 44), (1, .int (zI (p)))] [] h14 _
      refine zx_T.l (i := .aload_n 0) (k := 1) (v := .ref 44) (pc := 294) rfl rfl rfl ?_
      refine zx_T.s (i := .iconst 2) (k := 1) (st' := [.int (zI (2)), .ref 44]) (pc := 295) rfl rfl ?_
      have ap : ∀ j, 0 ≤ j → zv_a h14 61 j = zv_a h 61 j := fun j hj => by rw [zv_wa w15 rfl j, zv_wa w2 rfl j]
      have y34 : zv_a h14 61 8 = zv_a h 61 8 := ((zv_wa w15 rfl 8).trans (zv_wa w2 rfl 8))
      refine zr_iv (cj := 163) (q' := zp_m163) (As := [.int (zI (2))]) (rest := []) (pc := 296) rfl rfl rfl rfl rfl rfl (Nat.le_of_ble_eq_true rfl) rfl (Nat.le_of_ble_eq_true rfl) ih14 ((zm_push (h := h14) ih14 (k := 2) (by omega) (by omega) (by omega)).up (Nat.le_of_ble_eq_true rfl)) ?_
      rintro r37 h40 ⟨ih40, w41, r37q, x39⟩
      subst r37q
      try dsimp only at x39
      have pj := x39.2.2.1
      have p8 := x39.2.2.2 (by omega)
      rcases zg_p2 x39 (by omega) with q42 | q42 | q42
      · exact False.elim (by omega)
      · clear x39
        show zx_T zp_P 3 zp_m167 299 [(2, .int (zI (zv_a h 46 p))), (0, .ref 44), (1, .int (zI (p)))] [] h40 _
        refine zx_T.j (i := .goto 143) (k := 3) (pc' := 442) (st' := []) (pc := 299) rfl rfl rfl rfl rfl ?_
        refine zx_T.l (i := .aload_n 0) (k := 1) (v := .ref 44) (pc := 442) rfl rfl rfl ?_
        refine zr_gi (k := 26) (lo := 0) (hi := 7) (e := zv_i h40 26) (pc := 443) rfl rfl rfl ih40 rfl (fun g43a g43b => ?_)
        have ae : ∀ j, 0 ≤ j → zv_a h40 61 j = zv_a h40 61 j := fun j hj => rfl
        have y48 := zv_ri ih40 (k := 25) rfl
        exact zr_ir (x := zv_i h40 26) (pc := 446) rfl rfl rfl ⟨ih40, (((w2.wd rfl : zb_W [(44, 25), (44, 26), (61, 0)] h _).tr (w15.wd rfl)).tr (w41.wd rfl)), _, rfl, by dsimp only; exact ⟨by omega, by omega, by omega, by omega, fun h0 => absurd h0 (by omega)⟩⟩
      · clear x39
        show zx_T zp_P 3 zp_m167 299 [(2, .int (zI (zv_a h 46 p))), (0, .ref 44), (1, .int (zI (p)))] [] h40 _
        refine zx_T.j (i := .goto 143) (k := 3) (pc' := 442) (st' := []) (pc := 299) rfl rfl rfl rfl rfl ?_
        refine zx_T.l (i := .aload_n 0) (k := 1) (v := .ref 44) (pc := 442) rfl rfl rfl ?_
        refine zr_gi (k := 26) (lo := 0) (hi := 7) (e := zv_i h40 26) (pc := 443) rfl rfl rfl ih40 rfl (fun g49a g49b => ?_)
        have ae : ∀ j, 0 ≤ j → zv_a h40 61 j = zv_a h40 61 j := fun j hj => rfl
        have y54 := zv_ri ih40 (k := 25) rfl
        exact zr_ir (x := zv_i h40 26) (pc := 446) rfl rfl rfl ⟨ih40, (((w2.wd rfl : zb_W [(44, 25), (44, 26), (61, 0)] h _).tr (w15.wd rfl)).tr (w41.wd rfl)), _, rfl, by dsimp only; exact ⟨by omega, by omega, by omega, by omega, fun h0 => ⟨by omega, fun j hj => ⟨fun ho => absurd ho (by omega), fun ho => absurd ho (by omega), fun ho => absurd ho (by omega), fun ho => absurd ho (by omega), fun ho => absurd ho (by omega)⟩, fun ho j hj j2 j3 => by have d5 := ap j hj; have b4 := pj j hj; have r1 : zv_i h14 26 = 0 := (by clear b4; omega); have b5 := b4.1 r1 h0; have b6 := b4.2.1 r1 h0; clear ic; exact if z : j = zv_i h14 25 + 8 then (by have b8 := b5 z; clear b4 b5 b6; exfalso; omega) else if z2 : j = zv_i h14 25 + 9 then (by have b8 := b6 rfl z2; clear b4 b5 b6; exfalso; omega) else (by have b8 := b4.2.2 (fun y => by rcases y.2.2 with y | y; exact z y; exact z2 y.2); clear b4 b5 b6; exact Or.inl ⟨by omega, by omega, fun _ => by omega, fun _ => by omega, fun _ => by omega, fun _ => by omega⟩), fun ho => absurd ho (by omega)⟩⟩⟩

set_option maxRecDepth 100000 in
set_option maxHeartbeats 20000000 in
theorem zm_does_c17 {h : zx_H} (hI : zb_I zc_H h) {p : Int} (p1 : 0 ≤ p) (p2 : p ≤ 59) (n8 : ¬ zv_a h 61 8 = 3) (ic : zv_a h 45 p = 21 → 5 ≤ zv_a h 46 p ∧ zv_a h 46 p ≤ 8) (ov : zv_a h 45 p = 17) : zx_T zp_P 3 zp_m167 0 [(0, .ref 44), (1, .int (zI (p)))] [] h (zr_R [(44, 25), (44, 26), (61, 0)] h (fun e h' => e = zv_i h' 26 ∧ 0 ≤ e ∧ e ≤ 7 ∧ ¬ zv_a h' 61 8 = 3 ∧ (e = 0 → zg_does (zv_a h 45 p) (zv_a h 46 p) h h'))) := by
  have hS := zv_ri hI (k := 25) rfl
  refine zx_T.l (i := .aload_n 0) (k := 1) (v := .ref 44) (pc := 0) rfl rfl rfl ?_
  refine zx_T.s (i := .iconst 0) (k := 1) (st' := [.int (zI (0)), .ref 44]) (pc := 1) rfl rfl ?_
  refine zr_pi (k := 26) (lo := 0) (hi := 7) (e := 0) (pc := 2) rfl rfl rfl rfl rfl rfl hI (by omega) (by omega) (fun h1 ih1 w2 e3 => ?_)
  refine zx_T.l (i := .aload_n 0) (k := 1) (v := .ref 44) (pc := 5) rfl rfl rfl ?_
  refine zr_gr (k := 3) (b := 46) (pc := 6) rfl rfl rfl ih1 ?_
  refine zx_T.l (i := .iload_n 1) (k := 1) (v := .int (zI (p))) (pc := 9) rfl rfl rfl ?_
  refine zr_al (n := 60) (lo := (-2147483648)) (hi := 2147483647) (e := zv_a h 46 p) (pc := 10) rfl rfl rfl ih1 (by omega) (by omega) (zv_wa w2 rfl p) (fun g4a g4b => ?_)
  refine zx_T.t (i := .istore_n 2) (k := 1) (ls' := [(2, .int (zI (zv_a h 46 p))), (0, .ref 44), (1, .int (zI (p)))]) (st' := []) (pc := 11) rfl rfl rfl rfl ?_
  refine zx_T.l (i := .aload_n 0) (k := 1) (v := .ref 44) (pc := 12) rfl rfl rfl ?_
  refine zr_gr (k := 2) (b := 45) (pc := 13) rfl rfl rfl ih1 ?_
  refine zx_T.l (i := .iload_n 1) (k := 1) (v := .int (zI (p))) (pc := 16) rfl rfl rfl ?_
  refine zr_al (n := 60) (lo := 0) (hi := 28) (e := zv_a h 45 p) (pc := 17) rfl rfl rfl ih1 (by omega) (by omega) (zv_wa w2 rfl p) (fun g5a g5b => ?_)
  have c6 : zv_a h 45 p = 17 := by omega
  rcases c6 with c6
  · refine zr_sw (i := .tableswitch 424 1 28 #[126, 134, 142, 150, 158, 167, 176, 190, 198, 206, 214, 222, 222, 240, 258, 271, 284, 303, 322, 336, 350, 363, 424, 424, 372, 380, 372, 388]) (len := 126) (t := 302) (x := zv_a h 45 p) (k := 17) (pc := 18) rfl c6 rfl rfl rfl rfl ?_
    refine zx_T.l (i := .aload_n 0) (k := 1) (v := .ref 44) (pc := 302) rfl rfl rfl ?_
    refine zx_T.s (i := .iconst 1) (k := 1) (st' := [.int (zI (1)), .ref 44]) (pc := 303) rfl rfl ?_
    have y7 : zv_a h1 61 8 = zv_a h 61 8 := (zv_wa w2 rfl 8)
    have y8 : zv_i h1 25 = zv_i h 25 := (zv_wi w2 rfl)
    have y9 : zv_i h1 26 = 0 := e3
    have an0 : ∀ j, 0 ≤ j → zv_a h1 61 j = zv_a h 61 j := fun j hj => by rw [zv_wa w2 rfl j]
    refine zr_iv (cj := 162) (q' := zp_m162) (As := [.int (zI (1))]) (rest := []) (pc := 304) rfl rfl rfl rfl rfl rfl (Nat.le_of_ble_eq_true rfl) rfl (Nat.le_of_ble_eq_true rfl) ih1 ((zm_need (h := h1) ih1 (w := 1) (by omega) (by omega) (by omega)).up (Nat.le_of_ble_eq_true rfl)) ?_
    rintro r11 h14 ⟨ih14, w15, r11q, x13⟩
    subst r11q
    try dsimp only at x13
    have nj1 := x13.2.2
    rcases zg_n1 x13 (by omega) with q16 | q16 | q16
    · exact False.elim (by omega)
    · clear x13
      show zx_T zp_P 3 zp_m167 307 [(2, .int (zI (zv_a h 46 p))), (0, .ref 44), (1, .int (zI (p)))] [] h14 _
      refine zx_T.l (i := .aload_n 0) (k := 1) (v := .ref 44) (pc := 307) rfl rfl rfl ?_
      refine zx_T.s (i := .bipush 6) (k := 2) (st' := [.int (zI (6)), .ref 44]) (pc := 308) rfl rfl ?_
      have y17 : zv_a h14 61 8 = zv_a h 61 8 := ((zv_wa w15 rfl 8).trans (zv_wa w2 rfl 8))
      have an1 : ∀ j, 0 ≤ j → zv_a h14 61 j = zv_a h 61 j := fun j hj => by rw [zv_wa w15 rfl j, zv_wa w2 rfl j]
      refine zr_iv (cj := 162) (q' := zp_m162) (As := [.int (zI (6))]) (rest := []) (pc := 310) rfl rfl rfl rfl rfl rfl (Nat.le_of_ble_eq_true rfl) rfl (Nat.le_of_ble_eq_true rfl) ih14 ((zm_need (h := h14) ih14 (w := 6) (by omega) (by omega) (by omega)).up (Nat.le_of_ble_eq_true rfl)) ?_
      rintro r21 h24 ⟨ih24, w25, r21q, x23⟩
      subst r21q
      try dsimp only at x23
      have nj2 := x23.2.2
      rcases zg_n1 x23 (by omega) with q26 | q26 | q26
      · clear x23
        show zx_T zp_P 3 zp_m167 313 [(2, .int (zI (zv_a h 46 p))), (0, .ref 44), (1, .int (zI (p)))] [] h24 _
        refine zx_T.l (i := .aload_n 0) (k := 1) (v := .ref 44) (pc := 313) rfl rfl rfl ?_
        refine zx_T.s (i := .iconst 1) (k := 1) (st' := [.int (zI (1)), .ref 44]) (pc := 314) rfl rfl ?_
        have ap : ∀ j, 0 ≤ j → zv_a h24 61 j = zv_a h 61 j := fun j hj => by rw [zv_wa w25 rfl j, zv_wa w15 rfl j, zv_wa w2 rfl j]
        have y28 : zv_a h24 61 8 = zv_a h 61 8 := ((zv_wa w25 rfl 8).trans ((zv_wa w15 rfl 8).trans (zv_wa w2 rfl 8)))
        refine zr_iv (cj := 163) (q' := zp_m163) (As := [.int (zI (1))]) (rest := []) (pc := 315) rfl rfl rfl rfl rfl rfl (Nat.le_of_ble_eq_true rfl) rfl (Nat.le_of_ble_eq_true rfl) ih24 ((zm_push (h := h24) ih24 (k := 1) (by omega) (by omega) (by omega)).up (Nat.le_of_ble_eq_true rfl)) ?_
        rintro r31 h34 ⟨ih34, w35, r31q, x33⟩
        subst r31q
        try dsimp only at x33
        have pj := x33.2.2.1
        have p8 := x33.2.2.2 (by omega)
        rcases zg_p1 x33 (by omega) with q36 | q36 | q36
        · clear x33
          show zx_T zp_P 3 zp_m167 318 [(2, .int (zI (zv_a h 46 p))), (0, .ref 44), (1, .int (zI (p)))] [] h34 _
          refine zx_T.j (i := .goto 124) (k := 3) (pc' := 442) (st' := []) (pc := 318) rfl rfl rfl rfl rfl ?_
          refine zx_T.l (i := .aload_n 0) (k := 1) (v := .ref 44) (pc := 442) rfl rfl rfl ?_
          refine zr_gi (k := 26) (lo := 0) (hi := 7) (e := zv_i h34 26) (pc := 443) rfl rfl rfl ih34 rfl (fun g37a g37b => ?_)
          have ae : ∀ j, 0 ≤ j → zv_a h34 61 j = zv_a h34 61 j := fun j hj => rfl
          have y42 := zv_ri ih34 (k := 25) rfl
          exact zr_ir (x := zv_i h34 26) (pc := 446) rfl rfl rfl ⟨ih34, ((((w2.wd rfl : zb_W [(44, 25), (44, 26), (61, 0)] h _).tr (w15.wd rfl)).tr (w25.wd rfl)).tr (w35.wd rfl)), _, rfl, by dsimp only; exact ⟨by omega, by omega, by omega, by omega, fun h0 => absurd h0 (by omega)⟩⟩
        · exact False.elim (by omega)
        · exact False.elim (by omega)
      · exact False.elim (by omega)
      · exact False.elim (by omega)
    · clear x13
      show zx_T zp_P 3 zp_m167 307 [(2, .int (zI (zv_a h 46 p))), (0, .ref 44), (1, .int (zI (p)))] [] h14 _
      refine zx_T.l (i := .aload_n 0) (k := 1) (v := .ref 44) (pc := 307) rfl rfl rfl ?_
      refine zx_T.s (i := .bipush 6) (k := 2) (st' := [.int (zI (6)), .ref 44]) (pc := 308) rfl rfl ?_
      have y43 : zv_a h14 61 8 = zv_a h 61 8 := ((zv_wa w15 rfl 8).trans (zv_wa w2 rfl 8))
      have an1 : ∀ j, 0 ≤ j → zv_a h14 61 j = zv_a h 61 j := fun j hj => by rw [zv_wa w15 rfl j, zv_wa w2 rfl j]
      refine zr_iv (cj := 162) (q' := zp_m162) (As := [.int (zI (6))]) (rest := []) (pc := 310) rfl rfl rfl rfl rfl rfl (Nat.le_of_ble_eq_true rfl) rfl (Nat.le_of_ble_eq_true rfl) ih14 ((zm_need (h := h14) ih14 (w := 6) (by omega) (by omega) (by omega)).up (Nat.le_of_ble_eq_true rfl)) ?_
      rintro r47 h50 ⟨ih50, w51, r47q, x49⟩
      subst r47q
      try dsimp only at x49
      have nj2 := x49.2.2
      rcases zg_n1 x49 (by omega) with q52 | q52 | q52
      · exact False.elim (by omega)
      · clear x49
        show zx_T zp_P 3 zp_m167 313 [(2, .int (zI (zv_a h 46 p))), (0, .ref 44), (1, .int (zI (p)))] [] h50 _
        refine zx_T.l (i := .aload_n 0) (k := 1) (v := .ref 44) (pc := 313) rfl rfl rfl ?_
        refine zx_T.s (i := .iconst 1) (k := 1) (st' := [.int (zI (1)), .ref 44]) (pc := 314) rfl rfl ?_
        have ap : ∀ j, 0 ≤ j → zv_a h50 61 j = zv_a h 61 j := fun j hj => by rw [zv_wa w51 rfl j, zv_wa w15 rfl j, zv_wa w2 rfl j]
        have y54 : zv_a h50 61 8 = zv_a h 61 8 := ((zv_wa w51 rfl 8).trans ((zv_wa w15 rfl 8).trans (zv_wa w2 rfl 8)))
        refine zr_iv (cj := 163) (q' := zp_m163) (As := [.int (zI (1))]) (rest := []) (pc := 315) rfl rfl rfl rfl rfl rfl (Nat.le_of_ble_eq_true rfl) rfl (Nat.le_of_ble_eq_true rfl) ih50 ((zm_push (h := h50) ih50 (k := 1) (by omega) (by omega) (by omega)).up (Nat.le_of_ble_eq_true rfl)) ?_
        rintro r57 h60 ⟨ih60, w61, r57q, x59⟩
        subst r57q
        try dsimp only at x59
        have pj := x59.2.2.1
        have p8 := x59.2.2.2 (by omega)
        rcases zg_p1 x59 (by omega) with q62 | q62 | q62
        · clear x59
          show zx_T zp_P 3 zp_m167 318 [(2, .int (zI (zv_a h 46 p))), (0, .ref 44), (1, .int (zI (p)))] [] h60 _
          refine zx_T.j (i := .goto 124) (k := 3) (pc' := 442) (st' := []) (pc := 318) rfl rfl rfl rfl rfl ?_
          refine zx_T.l (i := .aload_n 0) (k := 1) (v := .ref 44) (pc := 442) rfl rfl rfl ?_
          refine zr_gi (k := 26) (lo := 0) (hi := 7) (e := zv_i h60 26) (pc := 443) rfl rfl rfl ih60 rfl (fun g63a g63b => ?_)
          have ae : ∀ j, 0 ≤ j → zv_a h60 61 j = zv_a h60 61 j := fun j hj => rfl
          have y68 := zv_ri ih60 (k := 25) rfl
          exact zr_ir (x := zv_i h60 26) (pc := 446) rfl rfl rfl ⟨ih60, ((((w2.wd rfl : zb_W [(44, 25), (44, 26), (61, 0)] h _).tr (w15.wd rfl)).tr (w51.wd rfl)).tr (w61.wd rfl)), _, rfl, by dsimp only; exact ⟨by omega, by omega, by omega, by omega, fun h0 => absurd h0 (by omega)⟩⟩
        · exact False.elim (by omega)
        · exact False.elim (by omega)
      · clear x49
        show zx_T zp_P 3 zp_m167 313 [(2, .int (zI (zv_a h 46 p))), (0, .ref 44), (1, .int (zI (p)))] [] h50 _
        refine zx_T.l (i := .aload_n 0) (k := 1) (v := .ref 44) (pc := 313) rfl rfl rfl ?_
        refine zx_T.s (i := .iconst 1) (k := 1) (st' := [.int (zI (1)), .ref 44]) (pc := 314) rfl rfl ?_
        have ap : ∀ j, 0 ≤ j → zv_a h50 61 j = zv_a h 61 j := fun j hj => by rw [zv_wa w51 rfl j, zv_wa w15 rfl j, zv_wa w2 rfl j]
        have y70 : zv_a h50 61 8 = zv_a h 61 8 := ((zv_wa w51 rfl 8).trans ((zv_wa w15 rfl 8).trans (zv_wa w2 rfl 8)))
        refine zr_iv (cj := 163) (q' := zp_m163) (As := [.int (zI (1))]) (rest := []) (pc := 315) rfl rfl rfl rfl rfl rfl (Nat.le_of_ble_eq_true rfl) rfl (Nat.le_of_ble_eq_true rfl) ih50 ((zm_push (h := h50) ih50 (k := 1) (by omega) (by omega) (by omega)).up (Nat.le_of_ble_eq_true rfl)) ?_
        rintro r73 h76 ⟨ih76, w77, r73q, x75⟩
        subst r73q
        try dsimp only at x75
        have pj := x75.2.2.1
        have p8 := x75.2.2.2 (by omega)
        rcases zg_p1 x75 (by omega) with q78 | q78 | q78
        · exact False.elim (by omega)
        · clear x75
          show zx_T zp_P 3 zp_m167 318 [(2, .int (zI (zv_a h 46 p))), (0, .ref 44), (1, .int (zI (p)))] [] h76 _
          refine zx_T.j (i := .goto 124) (k := 3) (pc' := 442) (st' := []) (pc := 318) rfl rfl rfl rfl rfl ?_
          refine zx_T.l (i := .aload_n 0) (k := 1) (v := .ref 44) (pc := 442) rfl rfl rfl ?_
          refine zr_gi (k := 26) (lo := 0) (hi := 7) (e := zv_i h76 26) (pc := 443) rfl rfl rfl ih76 rfl (fun g79a g79b => ?_)
          have ae : ∀ j, 0 ≤ j → zv_a h76 61 j = zv_a h76 61 j := fun j hj => rfl
          have y84 := zv_ri ih76 (k := 25) rfl
          exact zr_ir (x := zv_i h76 26) (pc := 446) rfl rfl rfl ⟨ih76, ((((w2.wd rfl : zb_W [(44, 25), (44, 26), (61, 0)] h _).tr (w15.wd rfl)).tr (w51.wd rfl)).tr (w77.wd rfl)), _, rfl, by dsimp only; exact ⟨by omega, by omega, by omega, by omega, fun h0 => absurd h0 (by omega)⟩⟩
        · clear x75
          show zx_T zp_P 3 zp_m167 318 [(2, .int (zI (zv_a h 46 p))), (0, .ref 44), (1, .int (zI (p)))] [] h76 _
          refine zx_T.j (i := .goto 124) (k := 3) (pc' := 442) (st' := []) (pc := 318) rfl rfl rfl rfl rfl ?_
          refine zx_T.l (i := .aload_n 0) (k := 1) (v := .ref 44) (pc := 442) rfl rfl rfl ?_
          refine zr_gi (k := 26) (lo := 0) (hi := 7) (e := zv_i h76 26) (pc := 443) rfl rfl rfl ih76 rfl (fun g85a g85b => ?_)
          have ae : ∀ j, 0 ≤ j → zv_a h76 61 j = zv_a h76 61 j := fun j hj => rfl
          have y90 := zv_ri ih76 (k := 25) rfl
          exact zr_ir (x := zv_i h76 26) (pc := 446) rfl rfl rfl ⟨ih76, ((((w2.wd rfl : zb_W [(44, 25), (44, 26), (61, 0)] h _).tr (w15.wd rfl)).tr (w51.wd rfl)).tr (w77.wd rfl)), _, rfl, by dsimp only; exact ⟨by omega, by omega, by omega, by omega, fun h0 => ⟨by omega, fun j hj => ⟨fun ho hk => by have b1 := nj2 j; have d1 := an1 j hj; omega, fun ho => absurd ho (by omega), fun ho => absurd ho (by omega), fun ho => absurd ho (by omega), fun ho => absurd ho (by omega)⟩, fun ho j hj j2 j3 => by have d5 := ap j hj; have b4 := pj j hj; have r1 : zv_i h50 26 = 0 := (by clear b4; omega); have b5 := b4.1 r1 h0; have b6 := b4.2.1 r1 h0; clear ic; exact if z : j = zv_i h50 25 + 8 then (by have b8 := b5 z; clear b4 b5 b6; exfalso; omega) else (by have b8 := b4.2.2 (fun y => by rcases y.2.2 with y | y; exact z y; exact absurd y.1 (by decide)); clear b4 b5 b6; exact Or.inl ⟨by omega, by omega, fun _ => by omega, fun _ => by omega, fun _ => by omega, fun _ => by omega⟩), fun ho => absurd ho (by omega)⟩⟩⟩
