/-! ===== 52: the reference, method by method (by program) ===== -/
/-- what an INSTRUCTION that does not fail leaves of the kinds -/
def zg_does (o a : Int) (h h' : zx_H) : Prop :=
  ((1 ≤ o → o ≤ 6 → zv_i h 25 ≤ 5) ∧ (o = 7 → 1 ≤ zv_i h 25) ∧ (o = 8 → zv_i h 25 ≤ 5 ∧ 0 ≤ a ∧ a ≤ 7) ∧ (o = 9 → 1 ≤ zv_i h 25 ∧ 0 ≤ a ∧ a ≤ 7) ∧ (o = 17 → 2 ≤ zv_i h 25) ∧ (o = 18 → 3 ≤ zv_i h 25) ∧ (19 ≤ o → o ≤ 22 → 1 ≤ zv_i h 25) ∧ (25 ≤ o → o ≤ 27 → 1 ≤ zv_i h 25) ∧ (o = 28 → 0 ≤ a ∧ a ≤ 7)) ∧
  (∀ j, 0 ≤ j → (o = 17 → j = zv_i h 25 + 6 → zv_a h 61 j = 6 ∨ zv_a h 61 j = 4) ∧ (o = 18 → j = zv_i h 25 + 5 → zv_a h 61 j = 6 ∨ zv_a h 61 j = 4) ∧ (o = 19 → j = zv_i h 25 + 7 → zv_a h 61 j = 6 ∨ zv_a h 61 j = 4) ∧ (o = 20 ∨ o = 22 → j = zv_i h 25 + 7 → zv_a h 61 j = 7 ∨ zv_a h 61 j = 8 ∨ zv_a h 61 j = 4) ∧ (o = 21 → j = zv_i h 25 + 7 → 4 ≤ zv_a h 61 j)) ∧
  (¬ o = 9 → ∀ j, 0 ≤ j → j < zv_i h' 25 + 8 → 5 ≤ zv_a h' 61 j → (zv_a h' 61 j = zv_a h 61 j ∧ j < zv_i h 25 + 8 ∧ (o = 12 ∨ o = 13 ∨ o = 15 ∨ o = 17 → ¬ j = zv_i h 25 + 6) ∧ (o = 14 → ¬ j = zv_i h 25 + 4) ∧ (o = 7 ∨ o = 19 ∨ o = 20 → ¬ j = zv_i h 25 + 7) ∧ (o = 28 → ¬ j = a)) ∨ ((o = 4 ∨ o = 5 ∨ o = 6) ∧ j = zv_i h 25 + 8) ∨ (o = 7 ∧ j = zv_i h 25 + 7 ∧ zv_a h' 61 j = 6) ∨ (o = 8 ∧ j = zv_i h 25 + 8 ∧ zv_a h' 61 j = zv_a h 61 a) ∨ (o = 21 ∧ j = zv_i h 25 + 7)) ∧
  (o = 9 → ∀ i, i = zv_i h 25 + 7 → ∀ j, 0 ≤ j → j < zv_i h' 25 + 8 → 5 ≤ zv_a h' 61 j → (¬ j = a ∧ zv_a h' 61 j = zv_a h 61 j ∧ j < zv_i h 25 + 8) ∨ (j = a ∧ zv_a h' 61 j = zv_a h 61 i))

set_option maxRecDepth 100000 in
set_option maxHeartbeats 20000000 in
theorem zm_does {h : zx_H} (hI : zb_I zc_H h) {p : Int} (p1 : 0 ≤ p) (p2 : p ≤ 59) (n8 : ¬ zv_a h 61 8 = 3) (ic : zv_a h 45 p = 21 → 5 ≤ zv_a h 46 p ∧ zv_a h 46 p ≤ 8) : zx_T zp_P 3 zp_m167 0 [(0, .ref 44), (1, .int (zI (p)))] [] h (zr_R [(44, 25), (44, 26), (61, 0)] h (fun e h' => e = zv_i h' 26 ∧ 0 ≤ e ∧ e ≤ 7 ∧ ¬ zv_a h' 61 8 = 3 ∧ (e = 0 → zg_does (zv_a h 45 p) (zv_a h 46 p) h h'))) := by
  have hS := zv_ri hI (k := 25) rfl
  refine zx_T.l (i := .aload_n 0) (k := 1) (v := .ref 44) (pc := 0) rfl rfl rfl ?_
  refine zx_T.s (i := .iconst 0) (k := 1) (st' := [.int (zI (0)), .ref 44]) (pc := 1) rfl rfl ?_
  refine zr_pi (k := 26) (lo := 0) (hi := 7) (e := 0) (pc := 2) rfl rfl rfl rfl rfl rfl hI (by omega) (by omega) (fun h1 ih1 w2 e3 => ?_)
  refine zx_T.l (i := .aload_n 0) (k := 1) (v := .ref 44) (pc := 5) rfl rfl rfl ?_
  refine zr_gr (k := 3) (b := 46) (pc := 6) rfl rfl rfl ih1 ?_
  refine zx_T.l (i := .iload_n 1) (k := 1) (v := .int (zI (p))) (pc := 9) rfl rfl rfl ?_
  refine zr_al (n := 60) (lo := (-2147483648)) (hi := 2147483647) (e := zv_a h 46 p) (pc := 10) rfl rfl rfl ih1 (by omega) (by omega) (zv_wa w2 rfl p) (fun g4a g4b => ?_)
  refine zx_T.t (i := .istore_n 2) (k := 1) (ls' := [(2, .int (zI (zv_a h 46 p))), (0, .ref 44), (1, .int (zI (p)))]) (st' := []) (pc := 11) rfl rfl rfl rfl ?_
  refine zx_T.l (i := .aload_n 0) (k := 1) (v := .ref 44) (pc := 12) rfl rfl rfl ?_
  refine zr_gr (k := 2) (b := 45) (pc := 13) rfl rfl rfl ih1 ?_
  refine zx_T.l (i := .iload_n 1) (k := 1) (v := .int (zI (p))) (pc := 16) rfl rfl rfl ?_
  refine zr_al (n := 60) (lo := 0) (hi := 28) (e := zv_a h 45 p) (pc := 17) rfl rfl rfl ih1 (by omega) (by omega) (zv_wa w2 rfl p) (fun g5a g5b => ?_)
  have c6 : zv_a h 45 p = 0 ∨ zv_a h 45 p = 1 ∨ zv_a h 45 p = 2 ∨ zv_a h 45 p = 3 ∨ zv_a h 45 p = 4 ∨ zv_a h 45 p = 5 ∨ zv_a h 45 p = 6 ∨ zv_a h 45 p = 7 ∨ zv_a h 45 p = 8 ∨ zv_a h 45 p = 9 ∨ zv_a h 45 p = 10 ∨ zv_a h 45 p = 11 ∨ zv_a h 45 p = 12 ∨ zv_a h 45 p = 13 ∨ zv_a h 45 p = 14 ∨ zv_a h 45 p = 15 ∨ zv_a h 45 p = 16 ∨ zv_a h 45 p = 17 ∨ zv_a h 45 p = 18 ∨ zv_a h 45 p = 19 ∨ zv_a h 45 p = 20 ∨ zv_a h 45 p = 21 ∨ zv_a h 45 p = 22 ∨ zv_a h 45 p = 23 ∨ zv_a h 45 p = 24 ∨ zv_a h 45 p = 25 ∨ zv_a h 45 p = 26 ∨ zv_a h 45 p = 27 ∨ zv_a h 45 p = 28 := by omega
  rcases c6 with c6 | c6 | c6 | c6 | c6 | c6 | c6 | c6 | c6 | c6 | c6 | c6 | c6 | c6 | c6 | c6 | c6 | c6 | c6 | c6 | c6 | c6 | c6 | c6 | c6 | c6 | c6 | c6 | c6
  · refine zr_sw (i := .tableswitch 424 1 28 #[126, 134, 142, 150, 158, 167, 176, 190, 198, 206, 214, 222, 222, 240, 258, 271, 284, 303, 322, 336, 350, 363, 424, 424, 372, 380, 372, 388]) (len := 126) (t := 442) (x := zv_a h 45 p) (k := 0) (pc := 18) rfl c6 rfl rfl rfl rfl ?_
    refine zx_T.l (i := .aload_n 0) (k := 1) (v := .ref 44) (pc := 442) rfl rfl rfl ?_
    refine zr_gi (k := 26) (lo := 0) (hi := 7) (e := 0) (pc := 443) rfl rfl rfl ih1 e3 (fun g7a g7b => ?_)
    have y8 : zv_i h1 25 = zv_i h 25 := (zv_wi w2 rfl)
    have y9 : zv_i h1 26 = 0 := e3
    have y10 : zv_a h1 61 8 = zv_a h 61 8 := (zv_wa w2 rfl 8)
    have ae : ∀ j, 0 ≤ j → zv_a h1 61 j = zv_a h 61 j := fun j hj => by rw [zv_wa w2 rfl j]
    have y12 := zv_ri ih1 (k := 25) rfl
    exact zr_ir (x := 0) (pc := 446) rfl rfl rfl ⟨ih1, (w2.wd rfl : zb_W [(44, 25), (44, 26), (61, 0)] h _), _, rfl, by dsimp only; exact ⟨by omega, by omega, by omega, by omega, fun h0 => ⟨by omega, fun j hj => ⟨fun ho => absurd ho (by omega), fun ho => absurd ho (by omega), fun ho => absurd ho (by omega), fun ho => absurd ho (by omega), fun ho => absurd ho (by omega)⟩, fun ho j hj j2 j3 => by have d4 := ae j hj; omega, fun ho => absurd ho (by omega)⟩⟩⟩
  · refine zr_sw (i := .tableswitch 424 1 28 #[126, 134, 142, 150, 158, 167, 176, 190, 198, 206, 214, 222, 222, 240, 258, 271, 284, 303, 322, 336, 350, 363, 424, 424, 372, 380, 372, 388]) (len := 126) (t := 144) (x := zv_a h 45 p) (k := 1) (pc := 18) rfl c6 rfl rfl rfl rfl ?_
    refine zx_T.l (i := .aload_n 0) (k := 1) (v := .ref 44) (pc := 144) rfl rfl rfl ?_
    refine zx_T.s (i := .iconst 1) (k := 1) (st' := [.int (zI (1)), .ref 44]) (pc := 145) rfl rfl ?_
    have ap : ∀ j, 0 ≤ j → zv_a h1 61 j = zv_a h 61 j := fun j hj => by rw [zv_wa w2 rfl j]
    have y14 : zv_a h1 61 8 = zv_a h 61 8 := (zv_wa w2 rfl 8)
    have y15 : zv_i h1 25 = zv_i h 25 := (zv_wi w2 rfl)
    have y16 : zv_i h1 26 = 0 := e3
    refine zr_iv (cj := 163) (q' := zp_m163) (As := [.int (zI (1))]) (rest := []) (pc := 146) rfl rfl rfl rfl rfl rfl (Nat.le_of_ble_eq_true rfl) rfl (Nat.le_of_ble_eq_true rfl) ih1 ((zm_push (h := h1) ih1 (k := 1) (by omega) (by omega) (by omega)).up (Nat.le_of_ble_eq_true rfl)) ?_
    rintro r17 h20 ⟨ih20, w21, r17q, x19⟩
    subst r17q
    try dsimp only at x19
    have pj := x19.2.2.1
    have p8 := x19.2.2.2 (by omega)
    rcases zg_p1 x19 (by omega) with q22 | q22 | q22
    · exact False.elim (by omega)
    · clear x19
      show zx_T zp_P 3 zp_m167 149 [(2, .int (zI (zv_a h 46 p))), (0, .ref 44), (1, .int (zI (p)))] [] h20 _
      refine zx_T.j (i := .goto 293) (k := 3) (pc' := 442) (st' := []) (pc := 149) rfl rfl rfl rfl rfl ?_
      refine zx_T.l (i := .aload_n 0) (k := 1) (v := .ref 44) (pc := 442) rfl rfl rfl ?_
      refine zr_gi (k := 26) (lo := 0) (hi := 7) (e := zv_i h20 26) (pc := 443) rfl rfl rfl ih20 rfl (fun g23a g23b => ?_)
      have ae : ∀ j, 0 ≤ j → zv_a h20 61 j = zv_a h20 61 j := fun j hj => rfl
      have y28 := zv_ri ih20 (k := 25) rfl
      exact zr_ir (x := zv_i h20 26) (pc := 446) rfl rfl rfl ⟨ih20, ((w2.wd rfl : zb_W [(44, 25), (44, 26), (61, 0)] h _).tr (w21.wd rfl)), _, rfl, by dsimp only; exact ⟨by omega, by omega, by omega, by omega, fun h0 => absurd h0 (by omega)⟩⟩
    · clear x19
      show zx_T zp_P 3 zp_m167 149 [(2, .int (zI (zv_a h 46 p))), (0, .ref 44), (1, .int (zI (p)))] [] h20 _
      refine zx_T.j (i := .goto 293) (k := 3) (pc' := 442) (st' := []) (pc := 149) rfl rfl rfl rfl rfl ?_
      refine zx_T.l (i := .aload_n 0) (k := 1) (v := .ref 44) (pc := 442) rfl rfl rfl ?_
      refine zr_gi (k := 26) (lo := 0) (hi := 7) (e := zv_i h20 26) (pc := 443) rfl rfl rfl ih20 rfl (fun g29a g29b => ?_)
      have ae : ∀ j, 0 ≤ j → zv_a h20 61 j = zv_a h20 61 j := fun j hj => rfl
      have y34 := zv_ri ih20 (k := 25) rfl
      exact zr_ir (x := zv_i h20 26) (pc := 446) rfl rfl rfl ⟨ih20, ((w2.wd rfl : zb_W [(44, 25), (44, 26), (61, 0)] h _).tr (w21.wd rfl)), _, rfl, by dsimp only; exact ⟨by omega, by omega, by omega, by omega, fun h0 => ⟨by omega, fun j hj => ⟨fun ho => absurd ho (by omega), fun ho => absurd ho (by omega), fun ho => absurd ho (by omega), fun ho => absurd ho (by omega), fun ho => absurd ho (by omega)⟩, fun ho j hj j2 j3 => by have d5 := ap j hj; have b4 := pj j hj; omega, fun ho => absurd ho (by omega)⟩⟩⟩
  · refine zr_sw (i := .tableswitch 424 1 28 #[126, 134, 142, 150, 158, 167, 176, 190, 198, 206, 214, 222, 222, 240, 258, 271, 284, 303, 322, 336, 350, 363, 424, 424, 372, 380, 372, 388]) (len := 126) (t := 152) (x := zv_a h 45 p) (k := 2) (pc := 18) rfl c6 rfl rfl rfl rfl ?_
    refine zx_T.l (i := .aload_n 0) (k := 1) (v := .ref 44) (pc := 152) rfl rfl rfl ?_
    refine zx_T.s (i := .iconst 2) (k := 1) (st' := [.int (zI (2)), .ref 44]) (pc := 153) rfl rfl ?_
    have ap : ∀ j, 0 ≤ j → zv_a h1 61 j = zv_a h 61 j := fun j hj => by rw [zv_wa w2 rfl j]
    have y36 : zv_a h1 61 8 = zv_a h 61 8 := (zv_wa w2 rfl 8)
    have y37 : zv_i h1 25 = zv_i h 25 := (zv_wi w2 rfl)
    have y38 : zv_i h1 26 = 0 := e3
    refine zr_iv (cj := 163) (q' := zp_m163) (As := [.int (zI (2))]) (rest := []) (pc := 154) rfl rfl rfl rfl rfl rfl (Nat.le_of_ble_eq_true rfl) rfl (Nat.le_of_ble_eq_true rfl) ih1 ((zm_push (h := h1) ih1 (k := 2) (by omega) (by omega) (by omega)).up (Nat.le_of_ble_eq_true rfl)) ?_
    rintro r39 h42 ⟨ih42, w43, r39q, x41⟩
    subst r39q
    try dsimp only at x41
    have pj := x41.2.2.1
    have p8 := x41.2.2.2 (by omega)
    rcases zg_p2 x41 (by omega) with q44 | q44 | q44
    · exact False.elim (by omega)
    · clear x41
      show zx_T zp_P 3 zp_m167 157 [(2, .int (zI (zv_a h 46 p))), (0, .ref 44), (1, .int (zI (p)))] [] h42 _
      refine zx_T.j (i := .goto 285) (k := 3) (pc' := 442) (st' := []) (pc := 157) rfl rfl rfl rfl rfl ?_
      refine zx_T.l (i := .aload_n 0) (k := 1) (v := .ref 44) (pc := 442) rfl rfl rfl ?_
      refine zr_gi (k := 26) (lo := 0) (hi := 7) (e := zv_i h42 26) (pc := 443) rfl rfl rfl ih42 rfl (fun g45a g45b => ?_)
      have ae : ∀ j, 0 ≤ j → zv_a h42 61 j = zv_a h42 61 j := fun j hj => rfl
      have y50 := zv_ri ih42 (k := 25) rfl
      exact zr_ir (x := zv_i h42 26) (pc := 446) rfl rfl rfl ⟨ih42, ((w2.wd rfl : zb_W [(44, 25), (44, 26), (61, 0)] h _).tr (w43.wd rfl)), _, rfl, by dsimp only; exact ⟨by omega, by omega, by omega, by omega, fun h0 => absurd h0 (by omega)⟩⟩
    · clear x41
      show zx_T zp_P 3 zp_m167 157 [(2, .int (zI (zv_a h 46 p))), (0, .ref 44), (1, .int (zI (p)))] [] h42 _
      refine zx_T.j (i := .goto 285) (k := 3) (pc' := 442) (st' := []) (pc := 157) rfl rfl rfl rfl rfl ?_
      refine zx_T.l (i := .aload_n 0) (k := 1) (v := .ref 44) (pc := 442) rfl rfl rfl ?_
      refine zr_gi (k := 26) (lo := 0) (hi := 7) (e := zv_i h42 26) (pc := 443) rfl rfl rfl ih42 rfl (fun g51a g51b => ?_)
      have ae : ∀ j, 0 ≤ j → zv_a h42 61 j = zv_a h42 61 j := fun j hj => rfl
      have y56 := zv_ri ih42 (k := 25) rfl
      exact zr_ir (x := zv_i h42 26) (pc := 446) rfl rfl rfl ⟨ih42, ((w2.wd rfl : zb_W [(44, 25), (44, 26), (61, 0)] h _).tr (w43.wd rfl)), _, rfl, by dsimp only; exact ⟨by omega, by omega, by omega, by omega, fun h0 => ⟨by omega, fun j hj => ⟨fun ho => absurd ho (by omega), fun ho => absurd ho (by omega), fun ho => absurd ho (by omega), fun ho => absurd ho (by omega), fun ho => absurd ho (by omega)⟩, fun ho j hj j2 j3 => by have d5 := ap j hj; have b4 := pj j hj; omega, fun ho => absurd ho (by omega)⟩⟩⟩
  · refine zr_sw (i := .tableswitch 424 1 28 #[126, 134, 142, 150, 158, 167, 176, 190, 198, 206, 214, 222, 222, 240, 258, 271, 284, 303, 322, 336, 350, 363, 424, 424, 372, 380, 372, 388]) (len := 126) (t := 160) (x := zv_a h 45 p) (k := 3) (pc := 18) rfl c6 rfl rfl rfl rfl ?_
    refine zx_T.l (i := .aload_n 0) (k := 1) (v := .ref 44) (pc := 160) rfl rfl rfl ?_
    refine zx_T.s (i := .iconst 4) (k := 1) (st' := [.int (zI (4)), .ref 44]) (pc := 161) rfl rfl ?_
    have ap : ∀ j, 0 ≤ j → zv_a h1 61 j = zv_a h 61 j := fun j hj => by rw [zv_wa w2 rfl j]
    have y58 : zv_a h1 61 8 = zv_a h 61 8 := (zv_wa w2 rfl 8)
    have y59 : zv_i h1 25 = zv_i h 25 := (zv_wi w2 rfl)
    have y60 : zv_i h1 26 = 0 := e3
    refine zr_iv (cj := 163) (q' := zp_m163) (As := [.int (zI (4))]) (rest := []) (pc := 162) rfl rfl rfl rfl rfl rfl (Nat.le_of_ble_eq_true rfl) rfl (Nat.le_of_ble_eq_true rfl) ih1 ((zm_push (h := h1) ih1 (k := 4) (by omega) (by omega) (by omega)).up (Nat.le_of_ble_eq_true rfl)) ?_
    rintro r61 h64 ⟨ih64, w65, r61q, x63⟩
    subst r61q
    try dsimp only at x63
    have pj := x63.2.2.1
    have p8 := x63.2.2.2 (by omega)
    rcases zg_p1 x63 (by omega) with q66 | q66 | q66
    · exact False.elim (by omega)
    · clear x63
      show zx_T zp_P 3 zp_m167 165 [(2, .int (zI (zv_a h 46 p))), (0, .ref 44), (1, .int (zI (p)))] [] h64 _
      refine zx_T.j (i := .goto 277) (k := 3) (pc' := 442) (st' := []) (pc := 165) rfl rfl rfl rfl rfl ?_
      refine zx_T.l (i := .aload_n 0) (k := 1) (v := .ref 44) (pc := 442) rfl rfl rfl ?_
      refine zr_gi (k := 26) (lo := 0) (hi := 7) (e := zv_i h64 26) (pc := 443) rfl rfl rfl ih64 rfl (fun g67a g67b => ?_)
      have ae : ∀ j, 0 ≤ j → zv_a h64 61 j = zv_a h64 61 j := fun j hj => rfl
      have y72 := zv_ri ih64 (k := 25) rfl
      exact zr_ir (x := zv_i h64 26) (pc := 446) rfl rfl rfl ⟨ih64, ((w2.wd rfl : zb_W [(44, 25), (44, 26), (61, 0)] h _).tr (w65.wd rfl)), _, rfl, by dsimp only; exact ⟨by omega, by omega, by omega, by omega, fun h0 => absurd h0 (by omega)⟩⟩
    · clear x63
      show zx_T zp_P 3 zp_m167 165 [(2, .int (zI (zv_a h 46 p))), (0, .ref 44), (1, .int (zI (p)))] [] h64 _
      refine zx_T.j (i := .goto 277) (k := 3) (pc' := 442) (st' := []) (pc := 165) rfl rfl rfl rfl rfl ?_
      refine zx_T.l (i := .aload_n 0) (k := 1) (v := .ref 44) (pc := 442) rfl rfl rfl ?_
      refine zr_gi (k := 26) (lo := 0) (hi := 7) (e := zv_i h64 26) (pc := 443) rfl rfl rfl ih64 rfl (fun g73a g73b => ?_)
      have ae : ∀ j, 0 ≤ j → zv_a h64 61 j = zv_a h64 61 j := fun j hj => rfl
      have y78 := zv_ri ih64 (k := 25) rfl
      exact zr_ir (x := zv_i h64 26) (pc := 446) rfl rfl rfl ⟨ih64, ((w2.wd rfl : zb_W [(44, 25), (44, 26), (61, 0)] h _).tr (w65.wd rfl)), _, rfl, by dsimp only; exact ⟨by omega, by omega, by omega, by omega, fun h0 => ⟨by omega, fun j hj => ⟨fun ho => absurd ho (by omega), fun ho => absurd ho (by omega), fun ho => absurd ho (by omega), fun ho => absurd ho (by omega), fun ho => absurd ho (by omega)⟩, fun ho j hj j2 j3 => by have d5 := ap j hj; have b4 := pj j hj; omega, fun ho => absurd ho (by omega)⟩⟩⟩
  · refine zr_sw (i := .tableswitch 424 1 28 #[126, 134, 142, 150, 158, 167, 176, 190, 198, 206, 214, 222, 222, 240, 258, 271, 284, 303, 322, 336, 350, 363, 424, 424, 372, 380, 372, 388]) (len := 126) (t := 168) (x := zv_a h 45 p) (k := 4) (pc := 18) rfl c6 rfl rfl rfl rfl ?_
    refine zx_T.l (i := .aload_n 0) (k := 1) (v := .ref 44) (pc := 168) rfl rfl rfl ?_
    refine zx_T.s (i := .iconst 5) (k := 1) (st' := [.int (zI (5)), .ref 44]) (pc := 169) rfl rfl ?_
    have ap : ∀ j, 0 ≤ j → zv_a h1 61 j = zv_a h 61 j := fun j hj => by rw [zv_wa w2 rfl j]
    have y80 : zv_a h1 61 8 = zv_a h 61 8 := (zv_wa w2 rfl 8)
    have y81 : zv_i h1 25 = zv_i h 25 := (zv_wi w2 rfl)
    have y82 : zv_i h1 26 = 0 := e3
    refine zr_iv (cj := 163) (q' := zp_m163) (As := [.int (zI (5))]) (rest := []) (pc := 170) rfl rfl rfl rfl rfl rfl (Nat.le_of_ble_eq_true rfl) rfl (Nat.le_of_ble_eq_true rfl) ih1 ((zm_push (h := h1) ih1 (k := 5) (by omega) (by omega) (by omega)).up (Nat.le_of_ble_eq_true rfl)) ?_
    rintro r83 h86 ⟨ih86, w87, r83q, x85⟩
    subst r83q
    try dsimp only at x85
    have pj := x85.2.2.1
    have p8 := x85.2.2.2 (by omega)
    rcases zg_p1 x85 (by omega) with q88 | q88 | q88
    · exact False.elim (by omega)
    · clear x85
      show zx_T zp_P 3 zp_m167 173 [(2, .int (zI (zv_a h 46 p))), (0, .ref 44), (1, .int (zI (p)))] [] h86 _
      refine zx_T.j (i := .goto 269) (k := 3) (pc' := 442) (st' := []) (pc := 173) rfl rfl rfl rfl rfl ?_
      refine zx_T.l (i := .aload_n 0) (k := 1) (v := .ref 44) (pc := 442) rfl rfl rfl ?_
      refine zr_gi (k := 26) (lo := 0) (hi := 7) (e := zv_i h86 26) (pc := 443) rfl rfl rfl ih86 rfl (fun g89a g89b => ?_)
      have ae : ∀ j, 0 ≤ j → zv_a h86 61 j = zv_a h86 61 j := fun j hj => rfl
      have y94 := zv_ri ih86 (k := 25) rfl
      exact zr_ir (x := zv_i h86 26) (pc := 446) rfl rfl rfl ⟨ih86, ((w2.wd rfl : zb_W [(44, 25), (44, 26), (61, 0)] h _).tr (w87.wd rfl)), _, rfl, by dsimp only; exact ⟨by omega, by omega, by omega, by omega, fun h0 => absurd h0 (by omega)⟩⟩
    · clear x85
      show zx_T zp_P 3 zp_m167 173 [(2, .int (zI (zv_a h 46 p))), (0, .ref 44), (1, .int (zI (p)))] [] h86 _
      refine zx_T.j (i := .goto 269) (k := 3) (pc' := 442) (st' := []) (pc := 173) rfl rfl rfl rfl rfl ?_
      refine zx_T.l (i := .aload_n 0) (k := 1) (v := .ref 44) (pc := 442) rfl rfl rfl ?_
      refine zr_gi (k := 26) (lo := 0) (hi := 7) (e := zv_i h86 26) (pc := 443) rfl rfl rfl ih86 rfl (fun g95a g95b => ?_)
      have ae : ∀ j, 0 ≤ j → zv_a h86 61 j = zv_a h86 61 j := fun j hj => rfl
      have y100 := zv_ri ih86 (k := 25) rfl
      exact zr_ir (x := zv_i h86 26) (pc := 446) rfl rfl rfl ⟨ih86, ((w2.wd rfl : zb_W [(44, 25), (44, 26), (61, 0)] h _).tr (w87.wd rfl)), _, rfl, by dsimp only; exact ⟨by omega, by omega, by omega, by omega, fun h0 => ⟨by omega, fun j hj => ⟨fun ho => absurd ho (by omega), fun ho => absurd ho (by omega), fun ho => absurd ho (by omega), fun ho => absurd ho (by omega), fun ho => absurd ho (by omega)⟩, fun ho j hj j2 j3 => by have d5 := ap j hj; have b4 := pj j hj; omega, fun ho => absurd ho (by omega)⟩⟩⟩
  · refine zr_sw (i := .tableswitch 424 1 28 #[126, 134, 142, 150, 158, 167, 176, 190, 198, 206, 214, 222, 222, 240, 258, 271, 284, 303, 322, 336, 350, 363, 424, 424, 372, 380, 372, 388]) (len := 126) (t := 176) (x := zv_a h 45 p) (k := 5) (pc := 18) rfl c6 rfl rfl rfl rfl ?_
    refine zx_T.l (i := .aload_n 0) (k := 1) (v := .ref 44) (pc := 176) rfl rfl rfl ?_
    refine zx_T.s (i := .bipush 7) (k := 2) (st' := [.int (zI (7)), .ref 44]) (pc := 177) rfl rfl ?_
    have ap : ∀ j, 0 ≤ j → zv_a h1 61 j = zv_a h 61 j := fun j hj => by rw [zv_wa w2 rfl j]
    have y102 : zv_a h1 61 8 = zv_a h 61 8 := (zv_wa w2 rfl 8)
    have y103 : zv_i h1 25 = zv_i h 25 := (zv_wi w2 rfl)
    have y104 : zv_i h1 26 = 0 := e3
    refine zr_iv (cj := 163) (q' := zp_m163) (As := [.int (zI (7))]) (rest := []) (pc := 179) rfl rfl rfl rfl rfl rfl (Nat.le_of_ble_eq_true rfl) rfl (Nat.le_of_ble_eq_true rfl) ih1 ((zm_push (h := h1) ih1 (k := 7) (by omega) (by omega) (by omega)).up (Nat.le_of_ble_eq_true rfl)) ?_
    rintro r105 h108 ⟨ih108, w109, r105q, x107⟩
    subst r105q
    try dsimp only at x107
    have pj := x107.2.2.1
    have p8 := x107.2.2.2 (by omega)
    rcases zg_p1 x107 (by omega) with q110 | q110 | q110
    · exact False.elim (by omega)
    · clear x107
      show zx_T zp_P 3 zp_m167 182 [(2, .int (zI (zv_a h 46 p))), (0, .ref 44), (1, .int (zI (p)))] [] h108 _
      refine zx_T.j (i := .goto 260) (k := 3) (pc' := 442) (st' := []) (pc := 182) rfl rfl rfl rfl rfl ?_
      refine zx_T.l (i := .aload_n 0) (k := 1) (v := .ref 44) (pc := 442) rfl rfl rfl ?_
      refine zr_gi (k := 26) (lo := 0) (hi := 7) (e := zv_i h108 26) (pc := 443) rfl rfl rfl ih108 rfl (fun g111a g111b => ?_)
      have ae : ∀ j, 0 ≤ j → zv_a h108 61 j = zv_a h108 61 j := fun j hj => rfl
      have y116 := zv_ri ih108 (k := 25) rfl
      exact zr_ir (x := zv_i h108 26) (pc := 446) rfl rfl rfl ⟨ih108, ((w2.wd rfl : zb_W [(44, 25), (44, 26), (61, 0)] h _).tr (w109.wd rfl)), _, rfl, by dsimp only; exact ⟨by omega, by omega, by omega, by omega, fun h0 => absurd h0 (by omega)⟩⟩
    · clear x107
      show zx_T zp_P 3 zp_m167 182 [(2, .int (zI (zv_a h 46 p))), (0, .ref 44), (1, .int (zI (p)))] [] h108 _
      refine zx_T.j (i := .goto 260) (k := 3) (pc' := 442) (st' := []) (pc := 182) rfl rfl rfl rfl rfl ?_
      refine zx_T.l (i := .aload_n 0) (k := 1) (v := .ref 44) (pc := 442) rfl rfl rfl ?_
      refine zr_gi (k := 26) (lo := 0) (hi := 7) (e := zv_i h108 26) (pc := 443) rfl rfl rfl ih108 rfl (fun g117a g117b => ?_)
      have ae : ∀ j, 0 ≤ j → zv_a h108 61 j = zv_a h108 61 j := fun j hj => rfl
      have y122 := zv_ri ih108 (k := 25) rfl
      exact zr_ir (x := zv_i h108 26) (pc := 446) rfl rfl rfl ⟨ih108, ((w2.wd rfl : zb_W [(44, 25), (44, 26), (61, 0)] h _).tr (w109.wd rfl)), _, rfl, by dsimp only; exact ⟨by omega, by omega, by omega, by omega, fun h0 => ⟨by omega, fun j hj => ⟨fun ho => absurd ho (by omega), fun ho => absurd ho (by omega), fun ho => absurd ho (by omega), fun ho => absurd ho (by omega), fun ho => absurd ho (by omega)⟩, fun ho j hj j2 j3 => by have d5 := ap j hj; have b4 := pj j hj; omega, fun ho => absurd ho (by omega)⟩⟩⟩
  · refine zr_sw (i := .tableswitch 424 1 28 #[126, 134, 142, 150, 158, 167, 176, 190, 198, 206, 214, 222, 222, 240, 258, 271, 284, 303, 322, 336, 350, 363, 424, 424, 372, 380, 372, 388]) (len := 126) (t := 185) (x := zv_a h 45 p) (k := 6) (pc := 18) rfl c6 rfl rfl rfl rfl ?_
    refine zx_T.l (i := .aload_n 0) (k := 1) (v := .ref 44) (pc := 185) rfl rfl rfl ?_
    refine zx_T.s (i := .bipush 8) (k := 2) (st' := [.int (zI (8)), .ref 44]) (pc := 186) rfl rfl ?_
    have ap : ∀ j, 0 ≤ j → zv_a h1 61 j = zv_a h 61 j := fun j hj => by rw [zv_wa w2 rfl j]
    have y124 : zv_a h1 61 8 = zv_a h 61 8 := (zv_wa w2 rfl 8)
    have y125 : zv_i h1 25 = zv_i h 25 := (zv_wi w2 rfl)
    have y126 : zv_i h1 26 = 0 := e3
    refine zr_iv (cj := 163) (q' := zp_m163) (As := [.int (zI (8))]) (rest := []) (pc := 188) rfl rfl rfl rfl rfl rfl (Nat.le_of_ble_eq_true rfl) rfl (Nat.le_of_ble_eq_true rfl) ih1 ((zm_push (h := h1) ih1 (k := 8) (by omega) (by omega) (by omega)).up (Nat.le_of_ble_eq_true rfl)) ?_
    rintro r127 h130 ⟨ih130, w131, r127q, x129⟩
    subst r127q
    try dsimp only at x129
    have pj := x129.2.2.1
    have p8 := x129.2.2.2 (by omega)
    rcases zg_p1 x129 (by omega) with q132 | q132 | q132
    · exact False.elim (by omega)
    · clear x129
      show zx_T zp_P 3 zp_m167 191 [(2, .int (zI (zv_a h 46 p))), (0, .ref 44), (1, .int (zI (p)))] [] h130 _
      refine zx_T.j (i := .goto 251) (k := 3) (pc' := 442) (st' := []) (pc := 191) rfl rfl rfl rfl rfl ?_
      refine zx_T.l (i := .aload_n 0) (k := 1) (v := .ref 44) (pc := 442) rfl rfl rfl ?_
      refine zr_gi (k := 26) (lo := 0) (hi := 7) (e := zv_i h130 26) (pc := 443) rfl rfl rfl ih130 rfl (fun g133a g133b => ?_)
      have ae : ∀ j, 0 ≤ j → zv_a h130 61 j = zv_a h130 61 j := fun j hj => rfl
      have y138 := zv_ri ih130 (k := 25) rfl
      exact zr_ir (x := zv_i h130 26) (pc := 446) rfl rfl rfl ⟨ih130, ((w2.wd rfl : zb_W [(44, 25), (44, 26), (61, 0)] h _).tr (w131.wd rfl)), _, rfl, by dsimp only; exact ⟨by omega, by omega, by omega, by omega, fun h0 => absurd h0 (by omega)⟩⟩
    · clear x129
      show zx_T zp_P 3 zp_m167 191 [(2, .int (zI (zv_a h 46 p))), (0, .ref 44), (1, .int (zI (p)))] [] h130 _
      refine zx_T.j (i := .goto 251) (k := 3) (pc' := 442) (st' := []) (pc := 191) rfl rfl rfl rfl rfl ?_
      refine zx_T.l (i := .aload_n 0) (k := 1) (v := .ref 44) (pc := 442) rfl rfl rfl ?_
      refine zr_gi (k := 26) (lo := 0) (hi := 7) (e := zv_i h130 26) (pc := 443) rfl rfl rfl ih130 rfl (fun g139a g139b => ?_)
      have ae : ∀ j, 0 ≤ j → zv_a h130 61 j = zv_a h130 61 j := fun j hj => rfl
      have y144 := zv_ri ih130 (k := 25) rfl
      exact zr_ir (x := zv_i h130 26) (pc := 446) rfl rfl rfl ⟨ih130, ((w2.wd rfl : zb_W [(44, 25), (44, 26), (61, 0)] h _).tr (w131.wd rfl)), _, rfl, by dsimp only; exact ⟨by omega, by omega, by omega, by omega, fun h0 => ⟨by omega, fun j hj => ⟨fun ho => absurd ho (by omega), fun ho => absurd ho (by omega), fun ho => absurd ho (by omega), fun ho => absurd ho (by omega), fun ho => absurd ho (by omega)⟩, fun ho j hj j2 j3 => by have d5 := ap j hj; have b4 := pj j hj; omega, fun ho => absurd ho (by omega)⟩⟩⟩
  · refine zr_sw (i := .tableswitch 424 1 28 #[126, 134, 142, 150, 158, 167, 176, 190, 198, 206, 214, 222, 222, 240, 258, 271, 284, 303, 322, 336, 350, 363, 424, 424, 372, 380, 372, 388]) (len := 126) (t := 194) (x := zv_a h 45 p) (k := 7) (pc := 18) rfl c6 rfl rfl rfl rfl ?_
    refine zx_T.l (i := .aload_n 0) (k := 1) (v := .ref 44) (pc := 194) rfl rfl rfl ?_
    refine zx_T.s (i := .iconst 1) (k := 1) (st' := [.int (zI (1)), .ref 44]) (pc := 195) rfl rfl ?_
    have y145 : zv_a h1 61 8 = zv_a h 61 8 := (zv_wa w2 rfl 8)
    have y146 : zv_i h1 25 = zv_i h 25 := (zv_wi w2 rfl)
    have y147 : zv_i h1 26 = 0 := e3
    have an0 : ∀ j, 0 ≤ j → zv_a h1 61 j = zv_a h 61 j := fun j hj => by rw [zv_wa w2 rfl j]
    refine zr_iv (cj := 162) (q' := zp_m162) (As := [.int (zI (1))]) (rest := []) (pc := 196) rfl rfl rfl rfl rfl rfl (Nat.le_of_ble_eq_true rfl) rfl (Nat.le_of_ble_eq_true rfl) ih1 ((zm_need (h := h1) ih1 (w := 1) (by omega) (by omega) (by omega)).up (Nat.le_of_ble_eq_true rfl)) ?_
    rintro r149 h152 ⟨ih152, w153, r149q, x151⟩
    subst r149q
    try dsimp only at x151
    have nj1 := x151.2.2
    rcases zg_n1 x151 (by omega) with q154 | q154 | q154
    · exact False.elim (by omega)
    · clear x151
      show zx_T zp_P 3 zp_m167 199 [(2, .int (zI (zv_a h 46 p))), (0, .ref 44), (1, .int (zI (p)))] [] h152 _
      refine zx_T.l (i := .aload_n 0) (k := 1) (v := .ref 44) (pc := 199) rfl rfl rfl ?_
      refine zx_T.s (i := .bipush 6) (k := 2) (st' := [.int (zI (6)), .ref 44]) (pc := 200) rfl rfl ?_
      have ap : ∀ j, 0 ≤ j → zv_a h152 61 j = zv_a h 61 j := fun j hj => by rw [zv_wa w153 rfl j, zv_wa w2 rfl j]
      have y156 : zv_a h152 61 8 = zv_a h 61 8 := ((zv_wa w153 rfl 8).trans (zv_wa w2 rfl 8))
      refine zr_iv (cj := 163) (q' := zp_m163) (As := [.int (zI (6))]) (rest := []) (pc := 202) rfl rfl rfl rfl rfl rfl (Nat.le_of_ble_eq_true rfl) rfl (Nat.le_of_ble_eq_true rfl) ih152 ((zm_push (h := h152) ih152 (k := 6) (by omega) (by omega) (by omega)).up (Nat.le_of_ble_eq_true rfl)) ?_
      rintro r159 h162 ⟨ih162, w163, r159q, x161⟩
      subst r159q
      try dsimp only at x161
      have pj := x161.2.2.1
      have p8 := x161.2.2.2 (by omega)
      rcases zg_p1 x161 (by omega) with q164 | q164 | q164
      · clear x161
        show zx_T zp_P 3 zp_m167 205 [(2, .int (zI (zv_a h 46 p))), (0, .ref 44), (1, .int (zI (p)))] [] h162 _
        refine zx_T.j (i := .goto 237) (k := 3) (pc' := 442) (st' := []) (pc := 205) rfl rfl rfl rfl rfl ?_
        refine zx_T.l (i := .aload_n 0) (k := 1) (v := .ref 44) (pc := 442) rfl rfl rfl ?_
        refine zr_gi (k := 26) (lo := 0) (hi := 7) (e := zv_i h162 26) (pc := 443) rfl rfl rfl ih162 rfl (fun g165a g165b => ?_)
        have ae : ∀ j, 0 ≤ j → zv_a h162 61 j = zv_a h162 61 j := fun j hj => rfl
        have y170 := zv_ri ih162 (k := 25) rfl
        exact zr_ir (x := zv_i h162 26) (pc := 446) rfl rfl rfl ⟨ih162, (((w2.wd rfl : zb_W [(44, 25), (44, 26), (61, 0)] h _).tr (w153.wd rfl)).tr (w163.wd rfl)), _, rfl, by dsimp only; exact ⟨by omega, by omega, by omega, by omega, fun h0 => absurd h0 (by omega)⟩⟩
      · exact False.elim (by omega)
      · exact False.elim (by omega)
    · clear x151
      show zx_T zp_P 3 zp_m167 199 [(2, .int (zI (zv_a h 46 p))), (0, .ref 44), (1, .int (zI (p)))] [] h152 _
      refine zx_T.l (i := .aload_n 0) (k := 1) (v := .ref 44) (pc := 199) rfl rfl rfl ?_
      refine zx_T.s (i := .bipush 6) (k := 2) (st' := [.int (zI (6)), .ref 44]) (pc := 200) rfl rfl ?_
      have ap : ∀ j, 0 ≤ j → zv_a h152 61 j = zv_a h 61 j := fun j hj => by rw [zv_wa w153 rfl j, zv_wa w2 rfl j]
      have y172 : zv_a h152 61 8 = zv_a h 61 8 := ((zv_wa w153 rfl 8).trans (zv_wa w2 rfl 8))
      refine zr_iv (cj := 163) (q' := zp_m163) (As := [.int (zI (6))]) (rest := []) (pc := 202) rfl rfl rfl rfl rfl rfl (Nat.le_of_ble_eq_true rfl) rfl (Nat.le_of_ble_eq_true rfl) ih152 ((zm_push (h := h152) ih152 (k := 6) (by omega) (by omega) (by omega)).up (Nat.le_of_ble_eq_true rfl)) ?_
      rintro r175 h178 ⟨ih178, w179, r175q, x177⟩
      subst r175q
      try dsimp only at x177
      have pj := x177.2.2.1
      have p8 := x177.2.2.2 (by omega)
      rcases zg_p1 x177 (by omega) with q180 | q180 | q180
      · exact False.elim (by omega)
      · clear x177
        show zx_T zp_P 3 zp_m167 205 [(2, .int (zI (zv_a h 46 p))), (0, .ref 44), (1, .int (zI (p)))] [] h178 _
        refine zx_T.j (i := .goto 237) (k := 3) (pc' := 442) (st' := []) (pc := 205) rfl rfl rfl rfl rfl ?_
        refine zx_T.l (i := .aload_n 0) (k := 1) (v := .ref 44) (pc := 442) rfl rfl rfl ?_
        refine zr_gi (k := 26) (lo := 0) (hi := 7) (e := zv_i h178 26) (pc := 443) rfl rfl rfl ih178 rfl (fun g181a g181b => ?_)
        have ae : ∀ j, 0 ≤ j → zv_a h178 61 j = zv_a h178 61 j := fun j hj => rfl
        have y186 := zv_ri ih178 (k := 25) rfl
        exact zr_ir (x := zv_i h178 26) (pc := 446) rfl rfl rfl ⟨ih178, (((w2.wd rfl : zb_W [(44, 25), (44, 26), (61, 0)] h _).tr (w153.wd rfl)).tr (w179.wd rfl)), _, rfl, by dsimp only; exact ⟨by omega, by omega, by omega, by omega, fun h0 => absurd h0 (by omega)⟩⟩
      · clear x177
        show zx_T zp_P 3 zp_m167 205 [(2, .int (zI (zv_a h 46 p))), (0, .ref 44), (1, .int (zI (p)))] [] h178 _
        refine zx_T.j (i := .goto 237) (k := 3) (pc' := 442) (st' := []) (pc := 205) rfl rfl rfl rfl rfl ?_
        refine zx_T.l (i := .aload_n 0) (k := 1) (v := .ref 44) (pc := 442) rfl rfl rfl ?_
        refine zr_gi (k := 26) (lo := 0) (hi := 7) (e := zv_i h178 26) (pc := 443) rfl rfl rfl ih178 rfl (fun g187a g187b => ?_)
        have ae : ∀ j, 0 ≤ j → zv_a h178 61 j = zv_a h178 61 j := fun j hj => rfl
        have y192 := zv_ri ih178 (k := 25) rfl
        exact zr_ir (x := zv_i h178 26) (pc := 446) rfl rfl rfl ⟨ih178, (((w2.wd rfl : zb_W [(44, 25), (44, 26), (61, 0)] h _).tr (w153.wd rfl)).tr (w179.wd rfl)), _, rfl, by dsimp only; exact ⟨by omega, by omega, by omega, by omega, fun h0 => ⟨by omega, fun j hj => ⟨fun ho => absurd ho (by omega), fun ho => absurd ho (by omega), fun ho => absurd ho (by omega), fun ho => absurd ho (by omega), fun ho => absurd ho (by omega)⟩, fun ho j hj j2 j3 => by have d5 := ap j hj; have b4 := pj j hj; omega, fun ho => absurd ho (by omega)⟩⟩⟩
  · refine zr_sw (i := .tableswitch 424 1 28 #[126, 134, 142, 150, 158, 167, 176, 190, 198, 206, 214, 222, 222, 240, 258, 271, 284, 303, 322, 336, 350, 363, 424, 424, 372, 380, 372, 388]) (len := 126) (t := 208) (x := zv_a h 45 p) (k := 8) (pc := 18) rfl c6 rfl rfl rfl rfl ?_
    refine zx_T.l (i := .aload_n 0) (k := 1) (v := .ref 44) (pc := 208) rfl rfl rfl ?_
    refine zx_T.l (i := .iload_n 2) (k := 1) (v := .int (zI (zv_a h 46 p))) (pc := 209) rfl rfl rfl ?_
    have y193 : zv_a h1 61 8 = zv_a h 61 8 := (zv_wa w2 rfl 8)
    have y194 : zv_i h1 25 = zv_i h 25 := (zv_wi w2 rfl)
    have y195 : zv_i h1 26 = 0 := e3
    have ap : ∀ j, 0 ≤ j → zv_a h1 61 j = zv_a h 61 j := fun j hj => by rw [zv_wa w2 rfl j]
    refine zr_iv (cj := 165) (q' := zp_m165) (As := [.int (zI (zv_a h 46 p))]) (rest := []) (pc := 210) rfl rfl rfl rfl rfl rfl (Nat.le_of_ble_eq_true rfl) rfl (Nat.le_of_ble_eq_true rfl) ih1 ((zm_load (h := h1) ih1 (a := zv_a h 46 p) (by omega) (by omega) (by omega) (by omega)).up (Nat.le_of_ble_eq_true rfl)) ?_
    rintro r197 h200 ⟨ih200, w201, r197q, x199⟩
    subst r197q
    try dsimp only at x199
    have lj := x199
    show zx_T zp_P 3 zp_m167 213 [(2, .int (zI (zv_a h 46 p))), (0, .ref 44), (1, .int (zI (p)))] [] h200 _
    refine zx_T.j (i := .goto 229) (k := 3) (pc' := 442) (st' := []) (pc := 213) rfl rfl rfl rfl rfl ?_
    refine zx_T.l (i := .aload_n 0) (k := 1) (v := .ref 44) (pc := 442) rfl rfl rfl ?_
    refine zr_gi (k := 26) (lo := 0) (hi := 7) (e := zv_i h200 26) (pc := 443) rfl rfl rfl ih200 rfl (fun g202a g202b => ?_)
    have ae : ∀ j, 0 ≤ j → zv_a h200 61 j = zv_a h200 61 j := fun j hj => rfl
    have y207 := zv_ri ih200 (k := 25) rfl
    exact zr_ir (x := zv_i h200 26) (pc := 446) rfl rfl rfl ⟨ih200, ((w2.wd rfl : zb_W [(44, 25), (44, 26), (61, 0)] h _).tr (w201.wd rfl)), _, rfl, by dsimp only; exact ⟨by omega, by omega, by omega, by omega, fun h0 => ⟨by omega, fun j hj => ⟨fun ho => absurd ho (by omega), fun ho => absurd ho (by omega), fun ho => absurd ho (by omega), fun ho => absurd ho (by omega), fun ho => absurd ho (by omega)⟩, fun ho j hj j2 j3 => by have b5 := lj.2 h0; have b6 := b5.2.2.2.2.2.2 j hj; have d5 := ap j hj; have d6 := ap (zv_a h 46 p) (by omega); clear lj; omega, fun ho => absurd ho (by omega)⟩⟩⟩
  · refine zr_sw (i := .tableswitch 424 1 28 #[126, 134, 142, 150, 158, 167, 176, 190, 198, 206, 214, 222, 222, 240, 258, 271, 284, 303, 322, 336, 350, 363, 424, 424, 372, 380, 372, 388]) (len := 126) (t := 216) (x := zv_a h 45 p) (k := 9) (pc := 18) rfl c6 rfl rfl rfl rfl ?_
    refine zx_T.l (i := .aload_n 0) (k := 1) (v := .ref 44) (pc := 216) rfl rfl rfl ?_
    refine zx_T.l (i := .iload_n 2) (k := 1) (v := .int (zI (zv_a h 46 p))) (pc := 217) rfl rfl rfl ?_
    have y208 : zv_a h1 61 8 = zv_a h 61 8 := (zv_wa w2 rfl 8)
    have y209 : zv_i h1 25 = zv_i h 25 := (zv_wi w2 rfl)
    have y210 : zv_i h1 26 = 0 := e3
    have ap : ∀ j, 0 ≤ j → zv_a h1 61 j = zv_a h 61 j := fun j hj => by rw [zv_wa w2 rfl j]
    refine zr_iv (cj := 166) (q' := zp_m166) (As := [.int (zI (zv_a h 46 p))]) (rest := []) (pc := 218) rfl rfl rfl rfl rfl rfl (Nat.le_of_ble_eq_true rfl) rfl (Nat.le_of_ble_eq_true rfl) ih1 ((zm_store (h := h1) ih1 (a := zv_a h 46 p) (by omega) (by omega) (by omega) (by omega)).up (Nat.le_of_ble_eq_true rfl)) ?_
    rintro r212 h215 ⟨ih215, w216, r212q, x214⟩
    subst r212q
    try dsimp only at x214
    have sj := x214
    show zx_T zp_P 3 zp_m167 221 [(2, .int (zI (zv_a h 46 p))), (0, .ref 44), (1, .int (zI (p)))] [] h215 _
    refine zx_T.j (i := .goto 221) (k := 3) (pc' := 442) (st' := []) (pc := 221) rfl rfl rfl rfl rfl ?_
    refine zx_T.l (i := .aload_n 0) (k := 1) (v := .ref 44) (pc := 442) rfl rfl rfl ?_
    refine zr_gi (k := 26) (lo := 0) (hi := 7) (e := zv_i h215 26) (pc := 443) rfl rfl rfl ih215 rfl (fun g217a g217b => ?_)
    have ae : ∀ j, 0 ≤ j → zv_a h215 61 j = zv_a h215 61 j := fun j hj => rfl
    have y222 := zv_ri ih215 (k := 25) rfl
    exact zr_ir (x := zv_i h215 26) (pc := 446) rfl rfl rfl ⟨ih215, ((w2.wd rfl : zb_W [(44, 25), (44, 26), (61, 0)] h _).tr (w216.wd rfl)), _, rfl, by dsimp only; exact ⟨by omega, by omega, by omega, by omega, fun h0 => ⟨by omega, fun j hj => ⟨fun ho => absurd ho (by omega), fun ho => absurd ho (by omega), fun ho => absurd ho (by omega), fun ho => absurd ho (by omega), fun ho => absurd ho (by omega)⟩, fun ho => absurd (by omega) ho, fun ho i hi j hj j2 j3 => by have b5 := sj.2 h0; have b6 := b5.2.2.2.2 i (by omega) j hj; have d4 := ap i (by omega); have d5 := ap j hj; clear sj; omega⟩⟩⟩
  · refine zr_sw (i := .tableswitch 424 1 28 #[126, 134, 142, 150, 158, 167, 176, 190, 198, 206, 214, 222, 222, 240, 258, 271, 284, 303, 322, 336, 350, 363, 424, 424, 372, 380, 372, 388]) (len := 126) (t := 224) (x := zv_a h 45 p) (k := 10) (pc := 18) rfl c6 rfl rfl rfl rfl ?_
    refine zx_T.l (i := .aload_n 0) (k := 1) (v := .ref 44) (pc := 224) rfl rfl rfl ?_
    refine zx_T.s (i := .iconst 0) (k := 1) (st' := [.int (zI (0)), .ref 44]) (pc := 225) rfl rfl ?_
    have y223 : zv_a h1 61 8 = zv_a h 61 8 := (zv_wa w2 rfl 8)
    have y224 : zv_i h1 25 = zv_i h 25 := (zv_wi w2 rfl)
    have y225 : zv_i h1 26 = 0 := e3
    refine zr_iv (cj := 164) (q' := zp_m164) (As := [.int (zI (0))]) (rest := []) (pc := 226) rfl rfl rfl rfl rfl rfl (Nat.le_of_ble_eq_true rfl) rfl (Nat.le_of_ble_eq_true rfl) ih1 ((zm_pop0 (h := h1) ih1  (by omega)).up (Nat.le_of_ble_eq_true rfl)) ?_
    rintro r226 h229 ⟨ih229, w230, r226q, x228⟩
    subst r226q
    try dsimp only at x228
    show zx_T zp_P 3 zp_m167 229 [(2, .int (zI (zv_a h 46 p))), (0, .ref 44), (1, .int (zI (p)))] [] h229 _
    refine zx_T.j (i := .goto 213) (k := 3) (pc' := 442) (st' := []) (pc := 229) rfl rfl rfl rfl rfl ?_
    refine zx_T.l (i := .aload_n 0) (k := 1) (v := .ref 44) (pc := 442) rfl rfl rfl ?_
    refine zr_gi (k := 26) (lo := 0) (hi := 7) (e := zv_i h229 26) (pc := 443) rfl rfl rfl ih229 rfl (fun g231a g231b => ?_)
    have y234 : zv_a h229 61 8 = zv_a h 61 8 := ((zv_wa w230 rfl 8).trans (zv_wa w2 rfl 8))
    have ae : ∀ j, 0 ≤ j → zv_a h229 61 j = zv_a h 61 j := fun j hj => by rw [zv_wa w230 rfl j, zv_wa w2 rfl j]
    have y236 := zv_ri ih229 (k := 25) rfl
    exact zr_ir (x := zv_i h229 26) (pc := 446) rfl rfl rfl ⟨ih229, ((w2.wd rfl : zb_W [(44, 25), (44, 26), (61, 0)] h _).tr (w230.wd rfl)), _, rfl, by dsimp only; exact ⟨by omega, by omega, by omega, by omega, fun h0 => ⟨by omega, fun j hj => ⟨fun ho => absurd ho (by omega), fun ho => absurd ho (by omega), fun ho => absurd ho (by omega), fun ho => absurd ho (by omega), fun ho => absurd ho (by omega)⟩, fun ho j hj j2 j3 => by have d4 := ae j hj; omega, fun ho => absurd ho (by omega)⟩⟩⟩
  · refine zr_sw (i := .tableswitch 424 1 28 #[126, 134, 142, 150, 158, 167, 176, 190, 198, 206, 214, 222, 222, 240, 258, 271, 284, 303, 322, 336, 350, 363, 424, 424, 372, 380, 372, 388]) (len := 126) (t := 232) (x := zv_a h 45 p) (k := 11) (pc := 18) rfl c6 rfl rfl rfl rfl ?_
    refine zx_T.l (i := .aload_n 0) (k := 1) (v := .ref 44) (pc := 232) rfl rfl rfl ?_
    refine zx_T.s (i := .iconst 1) (k := 1) (st' := [.int (zI (1)), .ref 44]) (pc := 233) rfl rfl ?_
    have y237 : zv_a h1 61 8 = zv_a h 61 8 := (zv_wa w2 rfl 8)
    have y238 : zv_i h1 25 = zv_i h 25 := (zv_wi w2 rfl)
    have y239 : zv_i h1 26 = 0 := e3
    refine zr_iv (cj := 164) (q' := zp_m164) (As := [.int (zI (1))]) (rest := []) (pc := 234) rfl rfl rfl rfl rfl rfl (Nat.le_of_ble_eq_true rfl) rfl (Nat.le_of_ble_eq_true rfl) ih1 ((zm_pop1 (h := h1) ih1  (by omega)).up (Nat.le_of_ble_eq_true rfl)) ?_
    rintro r240 h243 ⟨ih243, w244, r240q, x242⟩
    subst r240q
    try dsimp only at x242
    show zx_T zp_P 3 zp_m167 237 [(2, .int (zI (zv_a h 46 p))), (0, .ref 44), (1, .int (zI (p)))] [] h243 _
    refine zx_T.j (i := .goto 205) (k := 3) (pc' := 442) (st' := []) (pc := 237) rfl rfl rfl rfl rfl ?_
    refine zx_T.l (i := .aload_n 0) (k := 1) (v := .ref 44) (pc := 442) rfl rfl rfl ?_
    refine zr_gi (k := 26) (lo := 0) (hi := 7) (e := zv_i h243 26) (pc := 443) rfl rfl rfl ih243 rfl (fun g245a g245b => ?_)
    have y248 : zv_a h243 61 8 = zv_a h 61 8 := ((zv_wa w244 rfl 8).trans (zv_wa w2 rfl 8))
    have ae : ∀ j, 0 ≤ j → zv_a h243 61 j = zv_a h 61 j := fun j hj => by rw [zv_wa w244 rfl j, zv_wa w2 rfl j]
    have y250 := zv_ri ih243 (k := 25) rfl
    exact zr_ir (x := zv_i h243 26) (pc := 446) rfl rfl rfl ⟨ih243, ((w2.wd rfl : zb_W [(44, 25), (44, 26), (61, 0)] h _).tr (w244.wd rfl)), _, rfl, by dsimp only; exact ⟨by omega, by omega, by omega, by omega, fun h0 => ⟨by omega, fun j hj => ⟨fun ho => absurd ho (by omega), fun ho => absurd ho (by omega), fun ho => absurd ho (by omega), fun ho => absurd ho (by omega), fun ho => absurd ho (by omega)⟩, fun ho j hj j2 j3 => by have d4 := ae j hj; omega, fun ho => absurd ho (by omega)⟩⟩⟩
  · refine zr_sw (i := .tableswitch 424 1 28 #[126, 134, 142, 150, 158, 167, 176, 190, 198, 206, 214, 222, 222, 240, 258, 271, 284, 303, 322, 336, 350, 363, 424, 424, 372, 380, 372, 388]) (len := 126) (t := 240) (x := zv_a h 45 p) (k := 12) (pc := 18) rfl c6 rfl rfl rfl rfl ?_
    refine zx_T.l (i := .aload_n 0) (k := 1) (v := .ref 44) (pc := 240) rfl rfl rfl ?_
    refine zx_T.s (i := .iconst 1) (k := 1) (st' := [.int (zI (1)), .ref 44]) (pc := 241) rfl rfl ?_
    have y251 : zv_a h1 61 8 = zv_a h 61 8 := (zv_wa w2 rfl 8)
    have y252 : zv_i h1 25 = zv_i h 25 := (zv_wi w2 rfl)
    have y253 : zv_i h1 26 = 0 := e3
    have an0 : ∀ j, 0 ≤ j → zv_a h1 61 j = zv_a h 61 j := fun j hj => by rw [zv_wa w2 rfl j]
    refine zr_iv (cj := 162) (q' := zp_m162) (As := [.int (zI (1))]) (rest := []) (pc := 242) rfl rfl rfl rfl rfl rfl (Nat.le_of_ble_eq_true rfl) rfl (Nat.le_of_ble_eq_true rfl) ih1 ((zm_need (h := h1) ih1 (w := 1) (by omega) (by omega) (by omega)).up (Nat.le_of_ble_eq_true rfl)) ?_
    rintro r255 h258 ⟨ih258, w259, r255q, x257⟩
    subst r255q
    try dsimp only at x257
    have nj1 := x257.2.2
    rcases zg_n1 x257 (by omega) with q260 | q260 | q260
    · exact False.elim (by omega)
    · clear x257
      show zx_T zp_P 3 zp_m167 245 [(2, .int (zI (zv_a h 46 p))), (0, .ref 44), (1, .int (zI (p)))] [] h258 _
      refine zx_T.l (i := .aload_n 0) (k := 1) (v := .ref 44) (pc := 245) rfl rfl rfl ?_
      refine zx_T.s (i := .iconst 1) (k := 1) (st' := [.int (zI (1)), .ref 44]) (pc := 246) rfl rfl ?_
      have y261 : zv_a h258 61 8 = zv_a h 61 8 := ((zv_wa w259 rfl 8).trans (zv_wa w2 rfl 8))
      have an1 : ∀ j, 0 ≤ j → zv_a h258 61 j = zv_a h 61 j := fun j hj => by rw [zv_wa w259 rfl j, zv_wa w2 rfl j]
      refine zr_iv (cj := 162) (q' := zp_m162) (As := [.int (zI (1))]) (rest := []) (pc := 247) rfl rfl rfl rfl rfl rfl (Nat.le_of_ble_eq_true rfl) rfl (Nat.le_of_ble_eq_true rfl) ih258 ((zm_need (h := h258) ih258 (w := 1) (by omega) (by omega) (by omega)).up (Nat.le_of_ble_eq_true rfl)) ?_
      rintro r265 h268 ⟨ih268, w269, r265q, x267⟩
      subst r265q
      try dsimp only at x267
      have nj2 := x267.2.2
      rcases zg_n1 x267 (by omega) with q270 | q270 | q270
      · clear x267
        show zx_T zp_P 3 zp_m167 250 [(2, .int (zI (zv_a h 46 p))), (0, .ref 44), (1, .int (zI (p)))] [] h268 _
        refine zx_T.l (i := .aload_n 0) (k := 1) (v := .ref 44) (pc := 250) rfl rfl rfl ?_
        refine zx_T.s (i := .iconst 1) (k := 1) (st' := [.int (zI (1)), .ref 44]) (pc := 251) rfl rfl ?_
        have ap : ∀ j, 0 ≤ j → zv_a h268 61 j = zv_a h 61 j := fun j hj => by rw [zv_wa w269 rfl j, zv_wa w259 rfl j, zv_wa w2 rfl j]
        have y272 : zv_a h268 61 8 = zv_a h 61 8 := ((zv_wa w269 rfl 8).trans ((zv_wa w259 rfl 8).trans (zv_wa w2 rfl 8)))
        refine zr_iv (cj := 163) (q' := zp_m163) (As := [.int (zI (1))]) (rest := []) (pc := 252) rfl rfl rfl rfl rfl rfl (Nat.le_of_ble_eq_true rfl) rfl (Nat.le_of_ble_eq_true rfl) ih268 ((zm_push (h := h268) ih268 (k := 1) (by omega) (by omega) (by omega)).up (Nat.le_of_ble_eq_true rfl)) ?_
        rintro r275 h278 ⟨ih278, w279, r275q, x277⟩
        subst r275q
        try dsimp only at x277
        have pj := x277.2.2.1
        have p8 := x277.2.2.2 (by omega)
        rcases zg_p1 x277 (by omega) with q280 | q280 | q280
        · clear x277
          show zx_T zp_P 3 zp_m167 255 [(2, .int (zI (zv_a h 46 p))), (0, .ref 44), (1, .int (zI (p)))] [] h278 _
          refine zx_T.j (i := .goto 187) (k := 3) (pc' := 442) (st' := []) (pc := 255) rfl rfl rfl rfl rfl ?_
          refine zx_T.l (i := .aload_n 0) (k := 1) (v := .ref 44) (pc := 442) rfl rfl rfl ?_
          refine zr_gi (k := 26) (lo := 0) (hi := 7) (e := zv_i h278 26) (pc := 443) rfl rfl rfl ih278 rfl (fun g281a g281b => ?_)
          have ae : ∀ j, 0 ≤ j → zv_a h278 61 j = zv_a h278 61 j := fun j hj => rfl
          have y286 := zv_ri ih278 (k := 25) rfl
          exact zr_ir (x := zv_i h278 26) (pc := 446) rfl rfl rfl ⟨ih278, ((((w2.wd rfl : zb_W [(44, 25), (44, 26), (61, 0)] h _).tr (w259.wd rfl)).tr (w269.wd rfl)).tr (w279.wd rfl)), _, rfl, by dsimp only; exact ⟨by omega, by omega, by omega, by omega, fun h0 => absurd h0 (by omega)⟩⟩
        · exact False.elim (by omega)
        · exact False.elim (by omega)
      · exact False.elim (by omega)
      · exact False.elim (by omega)
    · clear x257
      show zx_T zp_P 3 zp_m167 245 [(2, .int (zI (zv_a h 46 p))), (0, .ref 44), (1, .int (zI (p)))] [] h258 _
      refine zx_T.l (i := .aload_n 0) (k := 1) (v := .ref 44) (pc := 245) rfl rfl rfl ?_
      refine zx_T.s (i := .iconst 1) (k := 1) (st' := [.int (zI (1)), .ref 44]) (pc := 246) rfl rfl ?_
      have y287 : zv_a h258 61 8 = zv_a h 61 8 := ((zv_wa w259 rfl 8).trans (zv_wa w2 rfl 8))
      have an1 : ∀ j, 0 ≤ j → zv_a h258 61 j = zv_a h 61 j := fun j hj => by rw [zv_wa w259 rfl j, zv_wa w2 rfl j]
      refine zr_iv (cj := 162) (q' := zp_m162) (As := [.int (zI (1))]) (rest := []) (pc := 247) rfl rfl rfl rfl rfl rfl (Nat.le_of_ble_eq_true rfl) rfl (Nat.le_of_ble_eq_true rfl) ih258 ((zm_need (h := h258) ih258 (w := 1) (by omega) (by omega) (by omega)).up (Nat.le_of_ble_eq_true rfl)) ?_
      rintro r291 h294 ⟨ih294, w295, r291q, x293⟩
      subst r291q
      try dsimp only at x293
      have nj2 := x293.2.2
      rcases zg_n1 x293 (by omega) with q296 | q296 | q296
      · exact False.elim (by omega)
      · clear x293
        show zx_T zp_P 3 zp_m167 250 [(2, .int (zI (zv_a h 46 p))), (0, .ref 44), (1, .int (zI (p)))] [] h294 _
        refine zx_T.l (i := .aload_n 0) (k := 1) (v := .ref 44) (pc := 250) rfl rfl rfl ?_
        refine zx_T.s (i := .iconst 1) (k := 1) (st' := [.int (zI (1)), .ref 44]) (pc := 251) rfl rfl ?_
        have ap : ∀ j, 0 ≤ j → zv_a h294 61 j = zv_a h 61 j := fun j hj => by rw [zv_wa w295 rfl j, zv_wa w259 rfl j, zv_wa w2 rfl j]
        have y298 : zv_a h294 61 8 = zv_a h 61 8 := ((zv_wa w295 rfl 8).trans ((zv_wa w259 rfl 8).trans (zv_wa w2 rfl 8)))
        refine zr_iv (cj := 163) (q' := zp_m163) (As := [.int (zI (1))]) (rest := []) (pc := 252) rfl rfl rfl rfl rfl rfl (Nat.le_of_ble_eq_true rfl) rfl (Nat.le_of_ble_eq_true rfl) ih294 ((zm_push (h := h294) ih294 (k := 1) (by omega) (by omega) (by omega)).up (Nat.le_of_ble_eq_true rfl)) ?_
        rintro r301 h304 ⟨ih304, w305, r301q, x303⟩
        subst r301q
        try dsimp only at x303
        have pj := x303.2.2.1
        have p8 := x303.2.2.2 (by omega)
        rcases zg_p1 x303 (by omega) with q306 | q306 | q306
        · clear x303
          show zx_T zp_P 3 zp_m167 255 [(2, .int (zI (zv_a h 46 p))), (0, .ref 44), (1, .int (zI (p)))] [] h304 _
          refine zx_T.j (i := .goto 187) (k := 3) (pc' := 442) (st' := []) (pc := 255) rfl rfl rfl rfl rfl ?_
          refine zx_T.l (i := .aload_n 0) (k := 1) (v := .ref 44) (pc := 442) rfl rfl rfl ?_
          refine zr_gi (k := 26) (lo := 0) (hi := 7) (e := zv_i h304 26) (pc := 443) rfl rfl rfl ih304 rfl (fun g307a g307b => ?_)
          have ae : ∀ j, 0 ≤ j → zv_a h304 61 j = zv_a h304 61 j := fun j hj => rfl
          have y312 := zv_ri ih304 (k := 25) rfl
          exact zr_ir (x := zv_i h304 26) (pc := 446) rfl rfl rfl ⟨ih304, ((((w2.wd rfl : zb_W [(44, 25), (44, 26), (61, 0)] h _).tr (w259.wd rfl)).tr (w295.wd rfl)).tr (w305.wd rfl)), _, rfl, by dsimp only; exact ⟨by omega, by omega, by omega, by omega, fun h0 => absurd h0 (by omega)⟩⟩
        · exact False.elim (by omega)
        · exact False.elim (by omega)
      · clear x293
        show zx_T zp_P 3 zp_m167 250 [(2, .int (zI (zv_a h 46 p))), (0, .ref 44), (1, .int (zI (p)))] [] h294 _
        refine zx_T.l (i := .aload_n 0) (k := 1) (v := .ref 44) (pc := 250) rfl rfl rfl ?_
        refine zx_T.s (i := .iconst 1) (k := 1) (st' := [.int (zI (1)), .ref 44]) (pc := 251) rfl rfl ?_
        have ap : ∀ j, 0 ≤ j → zv_a h294 61 j = zv_a h 61 j := fun j hj => by rw [zv_wa w295 rfl j, zv_wa w259 rfl j, zv_wa w2 rfl j]
        have y314 : zv_a h294 61 8 = zv_a h 61 8 := ((zv_wa w295 rfl 8).trans ((zv_wa w259 rfl 8).trans (zv_wa w2 rfl 8)))
        refine zr_iv (cj := 163) (q' := zp_m163) (As := [.int (zI (1))]) (rest := []) (pc := 252) rfl rfl rfl rfl rfl rfl (Nat.le_of_ble_eq_true rfl) rfl (Nat.le_of_ble_eq_true rfl) ih294 ((zm_push (h := h294) ih294 (k := 1) (by omega) (by omega) (by omega)).up (Nat.le_of_ble_eq_true rfl)) ?_
        rintro r317 h320 ⟨ih320, w321, r317q, x319⟩
        subst r317q
        try dsimp only at x319
        have pj := x319.2.2.1
        have p8 := x319.2.2.2 (by omega)
        rcases zg_p1 x319 (by omega) with q322 | q322 | q322
        · exact False.elim (by omega)
        · clear x319
          show zx_T zp_P 3 zp_m167 255 [(2, .int (zI (zv_a h 46 p))), (0, .ref 44), (1, .int (zI (p)))] [] h320 _
          refine zx_T.j (i := .goto 187) (k := 3) (pc' := 442) (st' := []) (pc := 255) rfl rfl rfl rfl rfl ?_
          refine zx_T.l (i := .aload_n 0) (k := 1) (v := .ref 44) (pc := 442) rfl rfl rfl ?_
          refine zr_gi (k := 26) (lo := 0) (hi := 7) (e := zv_i h320 26) (pc := 443) rfl rfl rfl ih320 rfl (fun g323a g323b => ?_)
          have ae : ∀ j, 0 ≤ j → zv_a h320 61 j = zv_a h320 61 j := fun j hj => rfl
          have y328 := zv_ri ih320 (k := 25) rfl
          exact zr_ir (x := zv_i h320 26) (pc := 446) rfl rfl rfl ⟨ih320, ((((w2.wd rfl : zb_W [(44, 25), (44, 26), (61, 0)] h _).tr (w259.wd rfl)).tr (w295.wd rfl)).tr (w321.wd rfl)), _, rfl, by dsimp only; exact ⟨by omega, by omega, by omega, by omega, fun h0 => absurd h0 (by omega)⟩⟩
        · clear x319
          show zx_T zp_P 3 zp_m167 255 [(2, .int (zI (zv_a h 46 p))), (0, .ref 44), (1, .int (zI (p)))] [] h320 _
          refine zx_T.j (i := .goto 187) (k := 3) (pc' := 442) (st' := []) (pc := 255) rfl rfl rfl rfl rfl ?_
          refine zx_T.l (i := .aload_n 0) (k := 1) (v := .ref 44) (pc := 442) rfl rfl rfl ?_
          refine zr_gi (k := 26) (lo := 0) (hi := 7) (e := zv_i h320 26) (pc := 443) rfl rfl rfl ih320 rfl (fun g329a g329b => ?_)
          have ae : ∀ j, 0 ≤ j → zv_a h320 61 j = zv_a h320 61 j := fun j hj => rfl
          have y334 := zv_ri ih320 (k := 25) rfl
          exact zr_ir (x := zv_i h320 26) (pc := 446) rfl rfl rfl ⟨ih320, ((((w2.wd rfl : zb_W [(44, 25), (44, 26), (61, 0)] h _).tr (w259.wd rfl)).tr (w295.wd rfl)).tr (w321.wd rfl)), _, rfl, by dsimp only; exact ⟨by omega, by omega, by omega, by omega, fun h0 => ⟨by omega, fun j hj => ⟨fun ho => absurd ho (by omega), fun ho => absurd ho (by omega), fun ho => absurd ho (by omega), fun ho => absurd ho (by omega), fun ho => absurd ho (by omega)⟩, fun ho j hj j2 j3 => by have d5 := ap j hj; have b4 := pj j hj; omega, fun ho => absurd ho (by omega)⟩⟩⟩
  · refine zr_sw (i := .tableswitch 424 1 28 #[126, 134, 142, 150, 158, 167, 176, 190, 198, 206, 214, 222, 222, 240, 258, 271, 284, 303, 322, 336, 350, 363, 424, 424, 372, 380, 372, 388]) (len := 126) (t := 240) (x := zv_a h 45 p) (k := 13) (pc := 18) rfl c6 rfl rfl rfl rfl ?_
    refine zx_T.l (i := .aload_n 0) (k := 1) (v := .ref 44) (pc := 240) rfl rfl rfl ?_
    refine zx_T.s (i := .iconst 1) (k := 1) (st' := [.int (zI (1)), .ref 44]) (pc := 241) rfl rfl ?_
    have y335 : zv_a h1 61 8 = zv_a h 61 8 := (zv_wa w2 rfl 8)
    have y336 : zv_i h1 25 = zv_i h 25 := (zv_wi w2 rfl)
    have y337 : zv_i h1 26 = 0 := e3
    have an0 : ∀ j, 0 ≤ j → zv_a h1 61 j = zv_a h 61 j := fun j hj => by rw [zv_wa w2 rfl j]
    refine zr_iv (cj := 162) (q' := zp_m162) (As := [.int (zI (1))]) (rest := []) (pc := 242) rfl rfl rfl rfl rfl rfl (Nat.le_of_ble_eq_true rfl) rfl (Nat.le_of_ble_eq_true rfl) ih1 ((zm_need (h := h1) ih1 (w := 1) (by omega) (by omega) (by omega)).up (Nat.le_of_ble_eq_true rfl)) ?_
    rintro r339 h342 ⟨ih342, w343, r339q, x341⟩
    subst r339q
    try dsimp only at x341
    have nj1 := x341.2.2
    rcases zg_n1 x341 (by omega) with q344 | q344 | q344
    · exact False.elim (by omega)
    · clear x341
      show zx_T zp_P 3 zp_m167 245 [(2, .int (zI (zv_a h 46 p))), (0, .ref 44), (1, .int (zI (p)))] [] h342 _
      refine zx_T.l (i := .aload_n 0) (k := 1) (v := .ref 44) (pc := 245) rfl rfl rfl ?_
      refine zx_T.s (i := .iconst 1) (k := 1) (st' := [.int (zI (1)), .ref 44]) (pc := 246) rfl rfl ?_
      have y345 : zv_a h342 61 8 = zv_a h 61 8 := ((zv_wa w343 rfl 8).trans (zv_wa w2 rfl 8))
      have an1 : ∀ j, 0 ≤ j → zv_a h342 61 j = zv_a h 61 j := fun j hj => by rw [zv_wa w343 rfl j, zv_wa w2 rfl j]
      refine zr_iv (cj := 162) (q' := zp_m162) (As := [.int (zI (1))]) (rest := []) (pc := 247) rfl rfl rfl rfl rfl rfl (Nat.le_of_ble_eq_true rfl) rfl (Nat.le_of_ble_eq_true rfl) ih342 ((zm_need (h := h342) ih342 (w := 1) (by omega) (by omega) (by omega)).up (Nat.le_of_ble_eq_true rfl)) ?_
      rintro r349 h352 ⟨ih352, w353, r349q, x351⟩
      subst r349q
      try dsimp only at x351
      have nj2 := x351.2.2
      rcases zg_n1 x351 (by omega) with q354 | q354 | q354
      · clear x351
        show zx_T zp_P 3 zp_m167 250 [(2, .int (zI (zv_a h 46 p))), (0, .ref 44), (1, .int (zI (p)))] [] h352 _
        refine zx_T.l (i := .aload_n 0) (k := 1) (v := .ref 44) (pc := 250) rfl rfl rfl ?_
        refine zx_T.s (i := .iconst 1) (k := 1) (st' := [.int (zI (1)), .ref 44]) (pc := 251) rfl rfl ?_
        have ap : ∀ j, 0 ≤ j → zv_a h352 61 j = zv_a h 61 j := fun j hj => by rw [zv_wa w353 rfl j, zv_wa w343 rfl j, zv_wa w2 rfl j]
        have y356 : zv_a h352 61 8 = zv_a h 61 8 := ((zv_wa w353 rfl 8).trans ((zv_wa w343 rfl 8).trans (zv_wa w2 rfl 8)))
        refine zr_iv (cj := 163) (q' := zp_m163) (As := [.int (zI (1))]) (rest := []) (pc := 252) rfl rfl rfl rfl rfl rfl (Nat.le_of_ble_eq_true rfl) rfl (Nat.le_of_ble_eq_true rfl) ih352 ((zm_push (h := h352) ih352 (k := 1) (by omega) (by omega) (by omega)).up (Nat.le_of_ble_eq_true rfl)) ?_
        rintro r359 h362 ⟨ih362, w363, r359q, x361⟩
        subst r359q
        try dsimp only at x361
        have pj := x361.2.2.1
        have p8 := x361.2.2.2 (by omega)
        rcases zg_p1 x361 (by omega) with q364 | q364 | q364
        · clear x361
          show zx_T zp_P 3 zp_m167 255 [(2, .int (zI (zv_a h 46 p))), (0, .ref 44), (1, .int (zI (p)))] [] h362 _
          refine zx_T.j (i := .goto 187) (k := 3) (pc' := 442) (st' := []) (pc := 255) rfl rfl rfl rfl rfl ?_
          refine zx_T.l (i := .aload_n 0) (k := 1) (v := .ref 44) (pc := 442) rfl rfl rfl ?_
          refine zr_gi (k := 26) (lo := 0) (hi := 7) (e := zv_i h362 26) (pc := 443) rfl rfl rfl ih362 rfl (fun g365a g365b => ?_)
          have ae : ∀ j, 0 ≤ j → zv_a h362 61 j = zv_a h362 61 j := fun j hj => rfl
          have y370 := zv_ri ih362 (k := 25) rfl
          exact zr_ir (x := zv_i h362 26) (pc := 446) rfl rfl rfl ⟨ih362, ((((w2.wd rfl : zb_W [(44, 25), (44, 26), (61, 0)] h _).tr (w343.wd rfl)).tr (w353.wd rfl)).tr (w363.wd rfl)), _, rfl, by dsimp only; exact ⟨by omega, by omega, by omega, by omega, fun h0 => absurd h0 (by omega)⟩⟩
        · exact False.elim (by omega)
        · exact False.elim (by omega)
      · exact False.elim (by omega)
      · exact False.elim (by omega)
    · clear x341
      show zx_T zp_P 3 zp_m167 245 [(2, .int (zI (zv_a h 46 p))), (0, .ref 44), (1, .int (zI (p)))] [] h342 _
      refine zx_T.l (i := .aload_n 0) (k := 1) (v := .ref 44) (pc := 245) rfl rfl rfl ?_
      refine zx_T.s (i := .iconst 1) (k := 1) (st' := [.int (zI (1)), .ref 44]) (pc := 246) rfl rfl ?_
      have y371 : zv_a h342 61 8 = zv_a h 61 8 := ((zv_wa w343 rfl 8).trans (zv_wa w2 rfl 8))
      have an1 : ∀ j, 0 ≤ j → zv_a h342 61 j = zv_a h 61 j := fun j hj => by rw [zv_wa w343 rfl j, zv_wa w2 rfl j]
      refine zr_iv (cj := 162) (q' := zp_m162) (As := [.int (zI (1))]) (rest := []) (pc := 247) rfl rfl rfl rfl rfl rfl (Nat.le_of_ble_eq_true rfl) rfl (Nat.le_of_ble_eq_true rfl) ih342 ((zm_need (h := h342) ih342 (w := 1) (by omega) (by omega) (by omega)).up (Nat.le_of_ble_eq_true rfl)) ?_
      rintro r375 h378 ⟨ih378, w379, r375q, x377⟩
      subst r375q
      try dsimp only at x377
      have nj2 := x377.2.2
      rcases zg_n1 x377 (by omega) with q380 | q380 | q380
      · exact False.elim (by omega)
      · clear x377
        show zx_T zp_P 3 zp_m167 250 [(2, .int (zI (zv_a h 46 p))), (0, .ref 44), (1, .int (zI (p)))] [] h378 _
        refine zx_T.l (i := .aload_n 0) (k := 1) (v := .ref 44) (pc := 250) rfl rfl rfl ?_
        refine zx_T.s (i := .iconst 1) (k := 1) (st' := [.int (zI (1)), .ref 44]) (pc := 251) rfl rfl ?_
        have ap : ∀ j, 0 ≤ j → zv_a h378 61 j = zv_a h 61 j := fun j hj => by rw [zv_wa w379 rfl j, zv_wa w343 rfl j, zv_wa w2 rfl j]
        have y382 : zv_a h378 61 8 = zv_a h 61 8 := ((zv_wa w379 rfl 8).trans ((zv_wa w343 rfl 8).trans (zv_wa w2 rfl 8)))
        refine zr_iv (cj := 163) (q' := zp_m163) (As := [.int (zI (1))]) (rest := []) (pc := 252) rfl rfl rfl rfl rfl rfl (Nat.le_of_ble_eq_true rfl) rfl (Nat.le_of_ble_eq_true rfl) ih378 ((zm_push (h := h378) ih378 (k := 1) (by omega) (by omega) (by omega)).up (Nat.le_of_ble_eq_true rfl)) ?_
        rintro r385 h388 ⟨ih388, w389, r385q, x387⟩
        subst r385q
        try dsimp only at x387
        have pj := x387.2.2.1
        have p8 := x387.2.2.2 (by omega)
        rcases zg_p1 x387 (by omega) with q390 | q390 | q390
        · clear x387
          show zx_T zp_P 3 zp_m167 255 [(2, .int (zI (zv_a h 46 p))), (0, .ref 44), (1, .int (zI (p)))] [] h388 _
          refine zx_T.j (i := .goto 187) (k := 3) (pc' := 442) (st' := []) (pc := 255) rfl rfl rfl rfl rfl ?_
          refine zx_T.l (i := .aload_n 0) (k := 1) (v := .ref 44) (pc := 442) rfl rfl rfl ?_
          refine zr_gi (k := 26) (lo := 0) (hi := 7) (e := zv_i h388 26) (pc := 443) rfl rfl rfl ih388 rfl (fun g391a g391b => ?_)
          have ae : ∀ j, 0 ≤ j → zv_a h388 61 j = zv_a h388 61 j := fun j hj => rfl
          have y396 := zv_ri ih388 (k := 25) rfl
          exact zr_ir (x := zv_i h388 26) (pc := 446) rfl rfl rfl ⟨ih388, ((((w2.wd rfl : zb_W [(44, 25), (44, 26), (61, 0)] h _).tr (w343.wd rfl)).tr (w379.wd rfl)).tr (w389.wd rfl)), _, rfl, by dsimp only; exact ⟨by omega, by omega, by omega, by omega, fun h0 => absurd h0 (by omega)⟩⟩
        · exact False.elim (by omega)
        · exact False.elim (by omega)
      · clear x377
        show zx_T zp_P 3 zp_m167 250 [(2, .int (zI (zv_a h 46 p))), (0, .ref 44), (1, .int (zI (p)))] [] h378 _
        refine zx_T.l (i := .aload_n 0) (k := 1) (v := .ref 44) (pc := 250) rfl rfl rfl ?_
        refine zx_T.s (i := .iconst 1) (k := 1) (st' := [.int (zI (1)), .ref 44]) (pc := 251) rfl rfl ?_
        have ap : ∀ j, 0 ≤ j → zv_a h378 61 j = zv_a h 61 j := fun j hj => by rw [zv_wa w379 rfl j, zv_wa w343 rfl j, zv_wa w2 rfl j]
        have y398 : zv_a h378 61 8 = zv_a h 61 8 := ((zv_wa w379 rfl 8).trans ((zv_wa w343 rfl 8).trans (zv_wa w2 rfl 8)))
        refine zr_iv (cj := 163) (q' := zp_m163) (As := [.int (zI (1))]) (rest := []) (pc := 252) rfl rfl rfl rfl rfl rfl (Nat.le_of_ble_eq_true rfl) rfl (Nat.le_of_ble_eq_true rfl) ih378 ((zm_push (h := h378) ih378 (k := 1) (by omega) (by omega) (by omega)).up (Nat.le_of_ble_eq_true rfl)) ?_
        rintro r401 h404 ⟨ih404, w405, r401q, x403⟩
        subst r401q
        try dsimp only at x403
        have pj := x403.2.2.1
        have p8 := x403.2.2.2 (by omega)
        rcases zg_p1 x403 (by omega) with q406 | q406 | q406
        · exact False.elim (by omega)
        · clear x403
          show zx_T zp_P 3 zp_m167 255 [(2, .int (zI (zv_a h 46 p))), (0, .ref 44), (1, .int (zI (p)))] [] h404 _
          refine zx_T.j (i := .goto 187) (k := 3) (pc' := 442) (st' := []) (pc := 255) rfl rfl rfl rfl rfl ?_
          refine zx_T.l (i := .aload_n 0) (k := 1) (v := .ref 44) (pc := 442) rfl rfl rfl ?_
          refine zr_gi (k := 26) (lo := 0) (hi := 7) (e := zv_i h404 26) (pc := 443) rfl rfl rfl ih404 rfl (fun g407a g407b => ?_)
          have ae : ∀ j, 0 ≤ j → zv_a h404 61 j = zv_a h404 61 j := fun j hj => rfl
          have y412 := zv_ri ih404 (k := 25) rfl
          exact zr_ir (x := zv_i h404 26) (pc := 446) rfl rfl rfl ⟨ih404, ((((w2.wd rfl : zb_W [(44, 25), (44, 26), (61, 0)] h _).tr (w343.wd rfl)).tr (w379.wd rfl)).tr (w405.wd rfl)), _, rfl, by dsimp only; exact ⟨by omega, by omega, by omega, by omega, fun h0 => absurd h0 (by omega)⟩⟩
        · clear x403
          show zx_T zp_P 3 zp_m167 255 [(2, .int (zI (zv_a h 46 p))), (0, .ref 44), (1, .int (zI (p)))] [] h404 _
          refine zx_T.j (i := .goto 187) (k := 3) (pc' := 442) (st' := []) (pc := 255) rfl rfl rfl rfl rfl ?_
          refine zx_T.l (i := .aload_n 0) (k := 1) (v := .ref 44) (pc := 442) rfl rfl rfl ?_
          refine zr_gi (k := 26) (lo := 0) (hi := 7) (e := zv_i h404 26) (pc := 443) rfl rfl rfl ih404 rfl (fun g413a g413b => ?_)
          have ae : ∀ j, 0 ≤ j → zv_a h404 61 j = zv_a h404 61 j := fun j hj => rfl
          have y418 := zv_ri ih404 (k := 25) rfl
          exact zr_ir (x := zv_i h404 26) (pc := 446) rfl rfl rfl ⟨ih404, ((((w2.wd rfl : zb_W [(44, 25), (44, 26), (61, 0)] h _).tr (w343.wd rfl)).tr (w379.wd rfl)).tr (w405.wd rfl)), _, rfl, by dsimp only; exact ⟨by omega, by omega, by omega, by omega, fun h0 => ⟨by omega, fun j hj => ⟨fun ho => absurd ho (by omega), fun ho => absurd ho (by omega), fun ho => absurd ho (by omega), fun ho => absurd ho (by omega), fun ho => absurd ho (by omega)⟩, fun ho j hj j2 j3 => by have d5 := ap j hj; have b4 := pj j hj; omega, fun ho => absurd ho (by omega)⟩⟩⟩
  · refine zr_sw (i := .tableswitch 424 1 28 #[126, 134, 142, 150, 158, 167, 176, 190, 198, 206, 214, 222, 222, 240, 258, 271, 284, 303, 322, 336, 350, 363, 424, 424, 372, 380, 372, 388]) (len := 126) (t := 258) (x := zv_a h 45 p) (k := 14) (pc := 18) rfl c6 rfl rfl rfl rfl ?_
    refine zx_T.l (i := .aload_n 0) (k := 1) (v := .ref 44) (pc := 258) rfl rfl rfl ?_
    refine zx_T.s (i := .iconst 2) (k := 1) (st' := [.int (zI (2)), .ref 44]) (pc := 259) rfl rfl ?_
    have y419 : zv_a h1 61 8 = zv_a h 61 8 := (zv_wa w2 rfl 8)
    have y420 : zv_i h1 25 = zv_i h 25 := (zv_wi w2 rfl)
    have y421 : zv_i h1 26 = 0 := e3
    have an0 : ∀ j, 0 ≤ j → zv_a h1 61 j = zv_a h 61 j := fun j hj => by rw [zv_wa w2 rfl j]
    refine zr_iv (cj := 162) (q' := zp_m162) (As := [.int (zI (2))]) (rest := []) (pc := 260) rfl rfl rfl rfl rfl rfl (Nat.le_of_ble_eq_true rfl) rfl (Nat.le_of_ble_eq_true rfl) ih1 ((zm_need (h := h1) ih1 (w := 2) (by omega) (by omega) (by omega)).up (Nat.le_of_ble_eq_true rfl)) ?_
    rintro r423 h426 ⟨ih426, w427, r423q, x425⟩
    subst r423q
    try dsimp only at x425
    have nj1 := x425.2.2
    rcases zg_n2 x425 (by omega) with q428 | q428 | q428
    · exact False.elim (by omega)
    · clear x425
      show zx_T zp_P 3 zp_m167 263 [(2, .int (zI (zv_a h 46 p))), (0, .ref 44), (1, .int (zI (p)))] [] h426 _
      refine zx_T.l (i := .aload_n 0) (k := 1) (v := .ref 44) (pc := 263) rfl rfl rfl ?_
      refine zx_T.s (i := .iconst 2) (k := 1) (st' := [.int (zI (2)), .ref 44]) (pc := 264) rfl rfl ?_
      have y429 : zv_a h426 61 8 = zv_a h 61 8 := ((zv_wa w427 rfl 8).trans (zv_wa w2 rfl 8))
      have an1 : ∀ j, 0 ≤ j → zv_a h426 61 j = zv_a h 61 j := fun j hj => by rw [zv_wa w427 rfl j, zv_wa w2 rfl j]
      refine zr_iv (cj := 162) (q' := zp_m162) (As := [.int (zI (2))]) (rest := []) (pc := 265) rfl rfl rfl rfl rfl rfl (Nat.le_of_ble_eq_true rfl) rfl (Nat.le_of_ble_eq_true rfl) ih426 ((zm_need (h := h426) ih426 (w := 2) (by omega) (by omega) (by omega)).up (Nat.le_of_ble_eq_true rfl)) ?_
      rintro r433 h436 ⟨ih436, w437, r433q, x435⟩
      subst r433q
      try dsimp only at x435
      have nj2 := x435.2.2
      rcases zg_n2 x435 (by omega) with q438 | q438 | q438
      · clear x435
        show zx_T zp_P 3 zp_m167 268 [(2, .int (zI (zv_a h 46 p))), (0, .ref 44), (1, .int (zI (p)))] [] h436 _
        refine zx_T.l (i := .aload_n 0) (k := 1) (v := .ref 44) (pc := 268) rfl rfl rfl ?_
        refine zx_T.s (i := .iconst 2) (k := 1) (st' := [.int (zI (2)), .ref 44]) (pc := 269) rfl rfl ?_
        have ap : ∀ j, 0 ≤ j → zv_a h436 61 j = zv_a h 61 j := fun j hj => by rw [zv_wa w437 rfl j, zv_wa w427 rfl j, zv_wa w2 rfl j]
        have y440 : zv_a h436 61 8 = zv_a h 61 8 := ((zv_wa w437 rfl 8).trans ((zv_wa w427 rfl 8).trans (zv_wa w2 rfl 8)))
        refine zr_iv (cj := 163) (q' := zp_m163) (As := [.int (zI (2))]) (rest := []) (pc := 270) rfl rfl rfl rfl rfl rfl (Nat.le_of_ble_eq_true rfl) rfl (Nat.le_of_ble_eq_true rfl) ih436 ((zm_push (h := h436) ih436 (k := 2) (by omega) (by omega) (by omega)).up (Nat.le_of_ble_eq_true rfl)) ?_
        rintro r443 h446 ⟨ih446, w447, r443q, x445⟩
        subst r443q
        try dsimp only at x445
        have pj := x445.2.2.1
        have p8 := x445.2.2.2 (by omega)
        rcases zg_p2 x445 (by omega) with q448 | q448 | q448
        · clear x445
          show zx_T zp_P 3 zp_m167 273 [(2, .int (zI (zv_a h 46 p))), (0, .ref 44), (1, .int (zI (p)))] [] h446 _
          refine zx_T.j (i := .goto 169) (k := 3) (pc' := 442) (st' := []) (pc := 273) rfl rfl rfl rfl rfl ?_
          refine zx_T.l (i := .aload_n 0) (k := 1) (v := .ref 44) (pc := 442) rfl rfl rfl ?_
          refine zr_gi (k := 26) (lo := 0) (hi := 7) (e := zv_i h446 26) (pc := 443) rfl rfl rfl ih446 rfl (fun g449a g449b => ?_)
          have ae : ∀ j, 0 ≤ j → zv_a h446 61 j = zv_a h446 61 j := fun j hj => rfl
          have y454 := zv_ri ih446 (k := 25) rfl
          exact zr_ir (x := zv_i h446 26) (pc := 446) rfl rfl rfl ⟨ih446, ((((w2.wd rfl : zb_W [(44, 25), (44, 26), (61, 0)] h _).tr (w427.wd rfl)).tr (w437.wd rfl)).tr (w447.wd rfl)), _, rfl, by dsimp only; exact ⟨by omega, by omega, by omega, by omega, fun h0 => absurd h0 (by omega)⟩⟩
        · exact False.elim (by omega)
        · exact False.elim (by omega)
      · exact False.elim (by omega)
      · exact False.elim (by omega)
    · clear x425
      show zx_T zp_P 3 zp_m167 263 [(2, .int (zI (zv_a h 46 p))), (0, .ref 44), (1, .int (zI (p)))] [] h426 _
      refine zx_T.l (i := .aload_n 0) (k := 1) (v := .ref 44) (pc := 263) rfl rfl rfl ?_
      refine zx_T.s (i := .iconst 2) (k := 1) (st' := [.int (zI (2)), .ref 44]) (pc := 264) rfl rfl ?_
      have y455 : zv_a h426 61 8 = zv_a h 61 8 := ((zv_wa w427 rfl 8).trans (zv_wa w2 rfl 8))
      have an1 : ∀ j, 0 ≤ j → zv_a h426 61 j = zv_a h 61 j := fun j hj => by rw [zv_wa w427 rfl j, zv_wa w2 rfl j]
      refine zr_iv (cj := 162) (q' := zp_m162) (As := [.int (zI (2))]) (rest := []) (pc := 265) rfl rfl rfl rfl rfl rfl (Nat.le_of_ble_eq_true rfl) rfl (Nat.le_of_ble_eq_true rfl) ih426 ((zm_need (h := h426) ih426 (w := 2) (by omega) (by omega) (by omega)).up (Nat.le_of_ble_eq_true rfl)) ?_
      rintro r459 h462 ⟨ih462, w463, r459q, x461⟩
      subst r459q
      try dsimp only at x461
      have nj2 := x461.2.2
      rcases zg_n2 x461 (by omega) with q464 | q464 | q464
      · exact False.elim (by omega)
      · clear x461
        show zx_T zp_P 3 zp_m167 268 [(2, .int (zI (zv_a h 46 p))), (0, .ref 44), (1, .int (zI (p)))] [] h462 _
        refine zx_T.l (i := .aload_n 0) (k := 1) (v := .ref 44) (pc := 268) rfl rfl rfl ?_
        refine zx_T.s (i := .iconst 2) (k := 1) (st' := [.int (zI (2)), .ref 44]) (pc := 269) rfl rfl ?_
        have ap : ∀ j, 0 ≤ j → zv_a h462 61 j = zv_a h 61 j := fun j hj => by rw [zv_wa w463 rfl j, zv_wa w427 rfl j, zv_wa w2 rfl j]
        have y466 : zv_a h462 61 8 = zv_a h 61 8 := ((zv_wa w463 rfl 8).trans ((zv_wa w427 rfl 8).trans (zv_wa w2 rfl 8)))
        refine zr_iv (cj := 163) (q' := zp_m163) (As := [.int (zI (2))]) (rest := []) (pc := 270) rfl rfl rfl rfl rfl rfl (Nat.le_of_ble_eq_true rfl) rfl (Nat.le_of_ble_eq_true rfl) ih462 ((zm_push (h := h462) ih462 (k := 2) (by omega) (by omega) (by omega)).up (Nat.le_of_ble_eq_true rfl)) ?_
        rintro r469 h472 ⟨ih472, w473, r469q, x471⟩
        subst r469q
        try dsimp only at x471
        have pj := x471.2.2.1
        have p8 := x471.2.2.2 (by omega)
        rcases zg_p2 x471 (by omega) with q474 | q474 | q474
        · clear x471
          show zx_T zp_P 3 zp_m167 273 [(2, .int (zI (zv_a h 46 p))), (0, .ref 44), (1, .int (zI (p)))] [] h472 _
          refine zx_T.j (i := .goto 169) (k := 3) (pc' := 442) (st' := []) (pc := 273) rfl rfl rfl rfl rfl ?_
          refine zx_T.l (i := .aload_n 0) (k := 1) (v := .ref 44) (pc := 442) rfl rfl rfl ?_
          refine zr_gi (k := 26) (lo := 0) (hi := 7) (e := zv_i h472 26) (pc := 443) rfl rfl rfl ih472 rfl (fun g475a g475b => ?_)
          have ae : ∀ j, 0 ≤ j → zv_a h472 61 j = zv_a h472 61 j := fun j hj => rfl
          have y480 := zv_ri ih472 (k := 25) rfl
          exact zr_ir (x := zv_i h472 26) (pc := 446) rfl rfl rfl ⟨ih472, ((((w2.wd rfl : zb_W [(44, 25), (44, 26), (61, 0)] h _).tr (w427.wd rfl)).tr (w463.wd rfl)).tr (w473.wd rfl)), _, rfl, by dsimp only; exact ⟨by omega, by omega, by omega, by omega, fun h0 => absurd h0 (by omega)⟩⟩
        · exact False.elim (by omega)
        · exact False.elim (by omega)
      · clear x461
        show zx_T zp_P 3 zp_m167 268 [(2, .int (zI (zv_a h 46 p))), (0, .ref 44), (1, .int (zI (p)))] [] h462 _
        refine zx_T.l (i := .aload_n 0) (k := 1) (v := .ref 44) (pc := 268) rfl rfl rfl ?_
        refine zx_T.s (i := .iconst 2) (k := 1) (st' := [.int (zI (2)), .ref 44]) (pc := 269) rfl rfl ?_
        have ap : ∀ j, 0 ≤ j → zv_a h462 61 j = zv_a h 61 j := fun j hj => by rw [zv_wa w463 rfl j, zv_wa w427 rfl j, zv_wa w2 rfl j]
        have y482 : zv_a h462 61 8 = zv_a h 61 8 := ((zv_wa w463 rfl 8).trans ((zv_wa w427 rfl 8).trans (zv_wa w2 rfl 8)))
        refine zr_iv (cj := 163) (q' := zp_m163) (As := [.int (zI (2))]) (rest := []) (pc := 270) rfl rfl rfl rfl rfl rfl (Nat.le_of_ble_eq_true rfl) rfl (Nat.le_of_ble_eq_true rfl) ih462 ((zm_push (h := h462) ih462 (k := 2) (by omega) (by omega) (by omega)).up (Nat.le_of_ble_eq_true rfl)) ?_
        rintro r485 h488 ⟨ih488, w489, r485q, x487⟩
        subst r485q
        try dsimp only at x487
        have pj := x487.2.2.1
        have p8 := x487.2.2.2 (by omega)
        rcases zg_p2 x487 (by omega) with q490 | q490 | q490
        · exact False.elim (by omega)
        · clear x487
          show zx_T zp_P 3 zp_m167 273 [(2, .int (zI (zv_a h 46 p))), (0, .ref 44), (1, .int (zI (p)))] [] h488 _
          refine zx_T.j (i := .goto 169) (k := 3) (pc' := 442) (st' := []) (pc := 273) rfl rfl rfl rfl rfl ?_
          refine zx_T.l (i := .aload_n 0) (k := 1) (v := .ref 44) (pc := 442) rfl rfl rfl ?_
          refine zr_gi (k := 26) (lo := 0) (hi := 7) (e := zv_i h488 26) (pc := 443) rfl rfl rfl ih488 rfl (fun g491a g491b => ?_)
          have ae : ∀ j, 0 ≤ j → zv_a h488 61 j = zv_a h488 61 j := fun j hj => rfl
          have y496 := zv_ri ih488 (k := 25) rfl
          exact zr_ir (x := zv_i h488 26) (pc := 446) rfl rfl rfl ⟨ih488, ((((w2.wd rfl : zb_W [(44, 25), (44, 26), (61, 0)] h _).tr (w427.wd rfl)).tr (w463.wd rfl)).tr (w489.wd rfl)), _, rfl, by dsimp only; exact ⟨by omega, by omega, by omega, by omega, fun h0 => absurd h0 (by omega)⟩⟩
        · clear x487
          show zx_T zp_P 3 zp_m167 273 [(2, .int (zI (zv_a h 46 p))), (0, .ref 44), (1, .int (zI (p)))] [] h488 _
          refine zx_T.j (i := .goto 169) (k := 3) (pc' := 442) (st' := []) (pc := 273) rfl rfl rfl rfl rfl ?_
          refine zx_T.l (i := .aload_n 0) (k := 1) (v := .ref 44) (pc := 442) rfl rfl rfl ?_
          refine zr_gi (k := 26) (lo := 0) (hi := 7) (e := zv_i h488 26) (pc := 443) rfl rfl rfl ih488 rfl (fun g497a g497b => ?_)
          have ae : ∀ j, 0 ≤ j → zv_a h488 61 j = zv_a h488 61 j := fun j hj => rfl
          have y502 := zv_ri ih488 (k := 25) rfl
          exact zr_ir (x := zv_i h488 26) (pc := 446) rfl rfl rfl ⟨ih488, ((((w2.wd rfl : zb_W [(44, 25), (44, 26), (61, 0)] h _).tr (w427.wd rfl)).tr (w463.wd rfl)).tr (w489.wd rfl)), _, rfl, by dsimp only; exact ⟨by omega, by omega, by omega, by omega, fun h0 => ⟨by omega, fun j hj => ⟨fun ho => absurd ho (by omega), fun ho => absurd ho (by omega), fun ho => absurd ho (by omega), fun ho => absurd ho (by omega), fun ho => absurd ho (by omega)⟩, fun ho j hj j2 j3 => by have d5 := ap j hj; have b4 := pj j hj; omega, fun ho => absurd ho (by omega)⟩⟩⟩
  · refine zr_sw (i := .tableswitch 424 1 28 #[126, 134, 142, 150, 158, 167, 176, 190, 198, 206, 214, 222, 222, 240, 258, 271, 284, 303, 322, 336, 350, 363, 424, 424, 372, 380, 372, 388]) (len := 126) (t := 276) (x := zv_a h 45 p) (k := 15) (pc := 18) rfl c6 rfl rfl rfl rfl ?_
    refine zx_T.l (i := .aload_n 0) (k := 1) (v := .ref 44) (pc := 276) rfl rfl rfl ?_
    refine zx_T.s (i := .iconst 2) (k := 1) (st' := [.int (zI (2)), .ref 44]) (pc := 277) rfl rfl ?_
    have y503 : zv_a h1 61 8 = zv_a h 61 8 := (zv_wa w2 rfl 8)
    have y504 : zv_i h1 25 = zv_i h 25 := (zv_wi w2 rfl)
    have y505 : zv_i h1 26 = 0 := e3
    have an0 : ∀ j, 0 ≤ j → zv_a h1 61 j = zv_a h 61 j := fun j hj => by rw [zv_wa w2 rfl j]
    refine zr_iv (cj := 162) (q' := zp_m162) (As := [.int (zI (2))]) (rest := []) (pc := 278) rfl rfl rfl rfl rfl rfl (Nat.le_of_ble_eq_true rfl) rfl (Nat.le_of_ble_eq_true rfl) ih1 ((zm_need (h := h1) ih1 (w := 2) (by omega) (by omega) (by omega)).up (Nat.le_of_ble_eq_true rfl)) ?_
    rintro r507 h510 ⟨ih510, w511, r507q, x509⟩
    subst r507q
    try dsimp only at x509
    have nj1 := x509.2.2
    rcases zg_n2 x509 (by omega) with q512 | q512 | q512
    · exact False.elim (by omega)
    · clear x509
      show zx_T zp_P 3 zp_m167 281 [(2, .int (zI (zv_a h 46 p))), (0, .ref 44), (1, .int (zI (p)))] [] h510 _
      refine zx_T.l (i := .aload_n 0) (k := 1) (v := .ref 44) (pc := 281) rfl rfl rfl ?_
      refine zx_T.s (i := .iconst 1) (k := 1) (st' := [.int (zI (1)), .ref 44]) (pc := 282) rfl rfl ?_
      have ap : ∀ j, 0 ≤ j → zv_a h510 61 j = zv_a h 61 j := fun j hj => by rw [zv_wa w511 rfl j, zv_wa w2 rfl j]
      have y514 : zv_a h510 61 8 = zv_a h 61 8 := ((zv_wa w511 rfl 8).trans (zv_wa w2 rfl 8))
      refine zr_iv (cj := 163) (q' := zp_m163) (As := [.int (zI (1))]) (rest := []) (pc := 283) rfl rfl rfl rfl rfl rfl (Nat.le_of_ble_eq_true rfl) rfl (Nat.le_of_ble_eq_true rfl) ih510 ((zm_push (h := h510) ih510 (k := 1) (by omega) (by omega) (by omega)).up (Nat.le_of_ble_eq_true rfl)) ?_
      rintro r517 h520 ⟨ih520, w521, r517q, x519⟩
      subst r517q
      try dsimp only at x519
      have pj := x519.2.2.1
      have p8 := x519.2.2.2 (by omega)
      rcases zg_p1 x519 (by omega) with q522 | q522 | q522
      · clear x519
        show zx_T zp_P 3 zp_m167 286 [(2, .int (zI (zv_a h 46 p))), (0, .ref 44), (1, .int (zI (p)))] [] h520 _
        refine zx_T.j (i := .goto 156) (k := 3) (pc' := 442) (st' := []) (pc := 286) rfl rfl rfl rfl rfl ?_
        refine zx_T.l (i := .aload_n 0) (k := 1) (v := .ref 44) (pc := 442) rfl rfl rfl ?_
        refine zr_gi (k := 26) (lo := 0) (hi := 7) (e := zv_i h520 26) (pc := 443) rfl rfl rfl ih520 rfl (fun g523a g523b => ?_)
        have ae : ∀ j, 0 ≤ j → zv_a h520 61 j = zv_a h520 61 j := fun j hj => rfl
        have y528 := zv_ri ih520 (k := 25) rfl
        exact zr_ir (x := zv_i h520 26) (pc := 446) rfl rfl rfl ⟨ih520, (((w2.wd rfl : zb_W [(44, 25), (44, 26), (61, 0)] h _).tr (w511.wd rfl)).tr (w521.wd rfl)), _, rfl, by dsimp only; exact ⟨by omega, by omega, by omega, by omega, fun h0 => absurd h0 (by omega)⟩⟩
      · exact False.elim (by omega)
      · exact False.elim (by omega)
    · clear x509
      show zx_T zp_P 3 zp_m167 281 [(2, .int (zI (zv_a h 46 p))), (0, .ref 44), (1, .int (zI (p)))] [] h510 _
      refine zx_T.l (i := .aload_n 0) (k := 1) (v := .ref 44) (pc := 281) rfl rfl rfl ?_
      refine zx_T.s (i := .iconst 1) (k := 1) (st' := [.int (zI (1)), .ref 44]) (pc := 282) rfl rfl ?_
      have ap : ∀ j, 0 ≤ j → zv_a h510 61 j = zv_a h 61 j := fun j hj => by rw [zv_wa w511 rfl j, zv_wa w2 rfl j]
      have y530 : zv_a h510 61 8 = zv_a h 61 8 := ((zv_wa w511 rfl 8).trans (zv_wa w2 rfl 8))
      refine zr_iv (cj := 163) (q' := zp_m163) (As := [.int (zI (1))]) (rest := []) (pc := 283) rfl rfl rfl rfl rfl rfl (Nat.le_of_ble_eq_true rfl) rfl (Nat.le_of_ble_eq_true rfl) ih510 ((zm_push (h := h510) ih510 (k := 1) (by omega) (by omega) (by omega)).up (Nat.le_of_ble_eq_true rfl)) ?_
      rintro r533 h536 ⟨ih536, w537, r533q, x535⟩
      subst r533q
      try dsimp only at x535
      have pj := x535.2.2.1
      have p8 := x535.2.2.2 (by omega)
      rcases zg_p1 x535 (by omega) with q538 | q538 | q538
      · exact False.elim (by omega)
      · clear x535
        show zx_T zp_P 3 zp_m167 286 [(2, .int (zI (zv_a h 46 p))), (0, .ref 44), (1, .int (zI (p)))] [] h536 _
        refine zx_T.j (i := .goto 156) (k := 3) (pc' := 442) (st' := []) (pc := 286) rfl rfl rfl rfl rfl ?_
        refine zx_T.l (i := .aload_n 0) (k := 1) (v := .ref 44) (pc := 442) rfl rfl rfl ?_
        refine zr_gi (k := 26) (lo := 0) (hi := 7) (e := zv_i h536 26) (pc := 443) rfl rfl rfl ih536 rfl (fun g539a g539b => ?_)
        have ae : ∀ j, 0 ≤ j → zv_a h536 61 j = zv_a h536 61 j := fun j hj => rfl
        have y544 := zv_ri ih536 (k := 25) rfl
        exact zr_ir (x := zv_i h536 26) (pc := 446) rfl rfl rfl ⟨ih536, (((w2.wd rfl : zb_W [(44, 25), (44, 26), (61, 0)] h _).tr (w511.wd rfl)).tr (w537.wd rfl)), _, rfl, by dsimp only; exact ⟨by omega, by omega, by omega, by omega, fun h0 => absurd h0 (by omega)⟩⟩
      · clear x535
        show zx_T zp_P 3 zp_m167 286 [(2, .int (zI (zv_a h 46 p))), (0, .ref 44), (1, .int (zI (p)))] [] h536 _
        refine zx_T.j (i := .goto 156) (k := 3) (pc' := 442) (st' := []) (pc := 286) rfl rfl rfl rfl rfl ?_
        refine zx_T.l (i := .aload_n 0) (k := 1) (v := .ref 44) (pc := 442) rfl rfl rfl ?_
        refine zr_gi (k := 26) (lo := 0) (hi := 7) (e := zv_i h536 26) (pc := 443) rfl rfl rfl ih536 rfl (fun g545a g545b => ?_)
        have ae : ∀ j, 0 ≤ j → zv_a h536 61 j = zv_a h536 61 j := fun j hj => rfl
        have y550 := zv_ri ih536 (k := 25) rfl
        exact zr_ir (x := zv_i h536 26) (pc := 446) rfl rfl rfl ⟨ih536, (((w2.wd rfl : zb_W [(44, 25), (44, 26), (61, 0)] h _).tr (w511.wd rfl)).tr (w537.wd rfl)), _, rfl, by dsimp only; exact ⟨by omega, by omega, by omega, by omega, fun h0 => ⟨by omega, fun j hj => ⟨fun ho => absurd ho (by omega), fun ho => absurd ho (by omega), fun ho => absurd ho (by omega), fun ho => absurd ho (by omega), fun ho => absurd ho (by omega)⟩, fun ho j hj j2 j3 => by have d5 := ap j hj; have b4 := pj j hj; omega, fun ho => absurd ho (by omega)⟩⟩⟩
  · refine zr_sw (i := .tableswitch 424 1 28 #[126, 134, 142, 150, 158, 167, 176, 190, 198, 206, 214, 222, 222, 240, 258, 271, 284, 303, 322, 336, 350, 363, 424, 424, 372, 380, 372, 388]) (len := 126) (t := 289) (x := zv_a h 45 p) (k := 16) (pc := 18) rfl c6 rfl rfl rfl rfl ?_
    refine zx_T.l (i := .aload_n 0) (k := 1) (v := .ref 44) (pc := 289) rfl rfl rfl ?_
    refine zx_T.s (i := .iconst 1) (k := 1) (st' := [.int (zI (1)), .ref 44]) (pc := 290) rfl rfl ?_
    have y551 : zv_a h1 61 8 = zv_a h 61 8 := (zv_wa w2 rfl 8)
    have y552 : zv_i h1 25 = zv_i h 25 := (zv_wi w2 rfl)
    have y553 : zv_i h1 26 = 0 := e3
    have an0 : ∀ j, 0 ≤ j → zv_a h1 61 j = zv_a h 61 j := fun j hj => by rw [zv_wa w2 rfl j]
    refine zr_iv (cj := 162) (q' := zp_m162) (As := [.int (zI (1))]) (rest := []) (pc := 291) rfl rfl rfl rfl rfl rfl (Nat.le_of_ble_eq_true rfl) rfl (Nat.le_of_ble_eq_true rfl) ih1 ((zm_need (h := h1) ih1 (w := 1) (by omega) (by omega) (by omega)).up (Nat.le_of_ble_eq_true rfl)) ?_
    rintro r555 h558 ⟨ih558, w559, r555q, x557⟩
    subst r555q
    try dsimp only at x557
    have nj1 := x557.2.2
    rcases zg_n1 x557 (by omega) with q560 | q560 | q560
    · exact False.elim (by omega)
    · clear x557
      show zx_T zp_P 3 zp_m167 294 [(2, .int (zI (zv_a h 46 p))), (0, .ref 44), (1, .int (zI (p)))] [] h558 _
      refine zx_T.l (i := .aload_n 0) (k := 1) (v := .ref 44) (pc := 294) rfl rfl rfl ?_
      refine zx_T.s (i := .iconst 2) (k := 1) (st' := [.int (zI (2)), .ref 44]) (pc := 295) rfl rfl ?_
      have ap : ∀ j, 0 ≤ j → zv_a h558 61 j = zv_a h 61 j := fun j hj => by rw [zv_wa w559 rfl j, zv_wa w2 rfl j]
      have y562 : zv_a h558 61 8 = zv_a h 61 8 := ((zv_wa w559 rfl 8).trans (zv_wa w2 rfl 8))
      refine zr_iv (cj := 163) (q' := zp_m163) (As := [.int (zI (2))]) (rest := []) (pc := 296) rfl rfl rfl rfl rfl rfl (Nat.le_of_ble_eq_true rfl) rfl (Nat.le_of_ble_eq_true rfl) ih558 ((zm_push (h := h558) ih558 (k := 2) (by omega) (by omega) (by omega)).up (Nat.le_of_ble_eq_true rfl)) ?_
      rintro r565 h568 ⟨ih568, w569, r565q, x567⟩
      subst r565q
      try dsimp only at x567
      have pj := x567.2.2.1
      have p8 := x567.2.2.2 (by omega)
      rcases zg_p2 x567 (by omega) with q570 | q570 | q570
      · clear x567
        show zx_T zp_P 3 zp_m167 299 [(2, .int (zI (zv_a h 46 p))), (0, .ref 44), (1, .int (zI (p)))] [] h568 _
        refine zx_T.j (i := .goto 143) (k := 3) (pc' := 442) (st' := []) (pc := 299) rfl rfl rfl rfl rfl ?_
        refine zx_T.l (i := .aload_n 0) (k := 1) (v := .ref 44) (pc := 442) rfl rfl rfl ?_
        refine zr_gi (k := 26) (lo := 0) (hi := 7) (e := zv_i h568 26) (pc := 443) rfl rfl rfl ih568 rfl (fun g571a g571b => ?_)
        have ae : ∀ j, 0 ≤ j → zv_a h568 61 j = zv_a h568 61 j := fun j hj => rfl
        have y576 := zv_ri ih568 (k := 25) rfl
        exact zr_ir (x := zv_i h568 26) (pc := 446) rfl rfl rfl ⟨ih568, (((w2.wd rfl : zb_W [(44, 25), (44, 26), (61, 0)] h _).tr (w559.wd rfl)).tr (w569.wd rfl)), _, rfl, by dsimp only; exact ⟨by omega, by omega, by omega, by omega, fun h0 => absurd h0 (by omega)⟩⟩
      · exact False.elim (by omega)
      · exact False.elim (by omega)
    · clear x557
      show zx_T zp_P 3 zp_m167 294 [(2, .int (zI (zv_a h 46 p))), (0, .ref 44), (1, .int (zI (p)))] [] h558 _
      refine zx_T.l (i := .aload_n 0) (k := 1) (v := .ref 44) (pc := 294) rfl rfl rfl ?_
      refine zx_T.s (i := .iconst 2) (k := 1) (st' := [.int (zI (2)), .ref 44]) (pc := 295) rfl rfl ?_
      have ap : ∀ j, 0 ≤ j → zv_a h558 61 j = zv_a h 61 j := fun j hj => by rw [zv_wa w559 rfl j, zv_wa w2 rfl j]
      have y578 : zv_a h558 61 8 = zv_a h 61 8 := ((zv_wa w559 rfl 8).trans (zv_wa w2 rfl 8))
      refine zr_iv (cj := 163) (q' := zp_m163) (As := [.int (zI (2))]) (rest := []) (pc := 296) rfl rfl rfl rfl rfl rfl (Nat.le_of_ble_eq_true rfl) rfl (Nat.le_of_ble_eq_true rfl) ih558 ((zm_push (h := h558) ih558 (k := 2) (by omega) (by omega) (by omega)).up (Nat.le_of_ble_eq_true rfl)) ?_
      rintro r581 h584 ⟨ih584, w585, r581q, x583⟩
      subst r581q
      try dsimp only at x583
      have pj := x583.2.2.1
      have p8 := x583.2.2.2 (by omega)
      rcases zg_p2 x583 (by omega) with q586 | q586 | q586
      · exact False.elim (by omega)
      · clear x583
        show zx_T zp_P 3 zp_m167 299 [(2, .int (zI (zv_a h 46 p))), (0, .ref 44), (1, .int (zI (p)))] [] h584 _
        refine zx_T.j (i := .goto 143) (k := 3) (pc' := 442) (st' := []) (pc := 299) rfl rfl rfl rfl rfl ?_
        refine zx_T.l (i := .aload_n 0) (k := 1) (v := .ref 44) (pc := 442) rfl rfl rfl ?_
        refine zr_gi (k := 26) (lo := 0) (hi := 7) (e := zv_i h584 26) (pc := 443) rfl rfl rfl ih584 rfl (fun g587a g587b => ?_)
        have ae : ∀ j, 0 ≤ j → zv_a h584 61 j = zv_a h584 61 j := fun j hj => rfl
        have y592 := zv_ri ih584 (k := 25) rfl
        exact zr_ir (x := zv_i h584 26) (pc := 446) rfl rfl rfl ⟨ih584, (((w2.wd rfl : zb_W [(44, 25), (44, 26), (61, 0)] h _).tr (w559.wd rfl)).tr (w585.wd rfl)), _, rfl, by dsimp only; exact ⟨by omega, by omega, by omega, by omega, fun h0 => absurd h0 (by omega)⟩⟩
      · clear x583
        show zx_T zp_P 3 zp_m167 299 [(2, .int (zI (zv_a h 46 p))), (0, .ref 44), (1, .int (zI (p)))] [] h584 _
        refine zx_T.j (i := .goto 143) (k := 3) (pc' := 442) (st' := []) (pc := 299) rfl rfl rfl rfl rfl ?_
        refine zx_T.l (i := .aload_n 0) (k := 1) (v := .ref 44) (pc := 442) rfl rfl rfl ?_
        refine zr_gi (k := 26) (lo := 0) (hi := 7) (e := zv_i h584 26) (pc := 443) rfl rfl rfl ih584 rfl (fun g593a g593b => ?_)
        have ae : ∀ j, 0 ≤ j → zv_a h584 61 j = zv_a h584 61 j := fun j hj => rfl
        have y598 := zv_ri ih584 (k := 25) rfl
        exact zr_ir (x := zv_i h584 26) (pc := 446) rfl rfl rfl ⟨ih584, (((w2.wd rfl : zb_W [(44, 25), (44, 26), (61, 0)] h _).tr (w559.wd rfl)).tr (w585.wd rfl)), _, rfl, by dsimp only; exact ⟨by omega, by omega, by omega, by omega, fun h0 => ⟨by omega, fun j hj => ⟨fun ho => absurd ho (by omega), fun ho => absurd ho (by omega), fun ho => absurd ho (by omega), fun ho => absurd ho (by omega), fun ho => absurd ho (by omega)⟩, fun ho j hj j2 j3 => by have d5 := ap j hj; have b4 := pj j hj; omega, fun ho => absurd ho (by omega)⟩⟩⟩
  · refine zr_sw (i := .tableswitch 424 1 28 #[126, 134, 142, 150, 158, 167, 176, 190, 198, 206, 214, 222, 222, 240, 258, 271, 284, 303, 322, 336, 350, 363, 424, 424, 372, 380, 372, 388]) (len := 126) (t := 302) (x := zv_a h 45 p) (k := 17) (pc := 18) rfl c6 rfl rfl rfl rfl ?_
    refine zx_T.l (i := .aload_n 0) (k := 1) (v := .ref 44) (pc := 302) rfl rfl rfl ?_
    refine zx_T.s (i := .iconst 1) (k := 1) (st' := [.int (zI (1)), .ref 44]) (pc := 303) rfl rfl ?_
    have y599 : zv_a h1 61 8 = zv_a h 61 8 := (zv_wa w2 rfl 8)
    have y600 : zv_i h1 25 = zv_i h 25 := (zv_wi w2 rfl)
    have y601 : zv_i h1 26 = 0 := e3
    have an0 : ∀ j, 0 ≤ j → zv_a h1 61 j = zv_a h 61 j := fun j hj => by rw [zv_wa w2 rfl j]
    refine zr_iv (cj := 162) (q' := zp_m162) (As := [.int (zI (1))]) (rest := []) (pc := 304) rfl rfl rfl rfl rfl rfl (Nat.le_of_ble_eq_true rfl) rfl (Nat.le_of_ble_eq_true rfl) ih1 ((zm_need (h := h1) ih1 (w := 1) (by omega) (by omega) (by omega)).up (Nat.le_of_ble_eq_true rfl)) ?_
    rintro r603 h606 ⟨ih606, w607, r603q, x605⟩
    subst r603q
    try dsimp only at x605
    have nj1 := x605.2.2
    rcases zg_n1 x605 (by omega) with q608 | q608 | q608
    · exact False.elim (by omega)
    · clear x605
      show zx_T zp_P 3 zp_m167 307 [(2, .int (zI (zv_a h 46 p))), (0, .ref 44), (1, .int (zI (p)))] [] h606 _
      refine zx_T.l (i := .aload_n 0) (k := 1) (v := .ref 44) (pc := 307) rfl rfl rfl ?_
      refine zx_T.s (i := .bipush 6) (k := 2) (st' := [.int (zI (6)), .ref 44]) (pc := 308) rfl rfl ?_
      have y609 : zv_a h606 61 8 = zv_a h 61 8 := ((zv_wa w607 rfl 8).trans (zv_wa w2 rfl 8))
      have an1 : ∀ j, 0 ≤ j → zv_a h606 61 j = zv_a h 61 j := fun j hj => by rw [zv_wa w607 rfl j, zv_wa w2 rfl j]
      refine zr_iv (cj := 162) (q' := zp_m162) (As := [.int (zI (6))]) (rest := []) (pc := 310) rfl rfl rfl rfl rfl rfl (Nat.le_of_ble_eq_true rfl) rfl (Nat.le_of_ble_eq_true rfl) ih606 ((zm_need (h := h606) ih606 (w := 6) (by omega) (by omega) (by omega)).up (Nat.le_of_ble_eq_true rfl)) ?_
      rintro r613 h616 ⟨ih616, w617, r613q, x615⟩
      subst r613q
      try dsimp only at x615
      have nj2 := x615.2.2
      rcases zg_n1 x615 (by omega) with q618 | q618 | q618
      · clear x615
        show zx_T zp_P 3 zp_m167 313 [(2, .int (zI (zv_a h 46 p))), (0, .ref 44), (1, .int (zI (p)))] [] h616 _
        refine zx_T.l (i := .aload_n 0) (k := 1) (v := .ref 44) (pc := 313) rfl rfl rfl ?_
        refine zx_T.s (i := .iconst 1) (k := 1) (st' := [.int (zI (1)), .ref 44]) (pc := 314) rfl rfl ?_
        have ap : ∀ j, 0 ≤ j → zv_a h616 61 j = zv_a h 61 j := fun j hj => by rw [zv_wa w617 rfl j, zv_wa w607 rfl j, zv_wa w2 rfl j]
        have y620 : zv_a h616 61 8 = zv_a h 61 8 := ((zv_wa w617 rfl 8).trans ((zv_wa w607 rfl 8).trans (zv_wa w2 rfl 8)))
        refine zr_iv (cj := 163) (q' := zp_m163) (As := [.int (zI (1))]) (rest := []) (pc := 315) rfl rfl rfl rfl rfl rfl (Nat.le_of_ble_eq_true rfl) rfl (Nat.le_of_ble_eq_true rfl) ih616 ((zm_push (h := h616) ih616 (k := 1) (by omega) (by omega) (by omega)).up (Nat.le_of_ble_eq_true rfl)) ?_
        rintro r623 h626 ⟨ih626, w627, r623q, x625⟩
        subst r623q
        try dsimp only at x625
        have pj := x625.2.2.1
        have p8 := x625.2.2.2 (by omega)
        rcases zg_p1 x625 (by omega) with q628 | q628 | q628
        · clear x625
          show zx_T zp_P 3 zp_m167 318 [(2, .int (zI (zv_a h 46 p))), (0, .ref 44), (1, .int (zI (p)))] [] h626 _
          refine zx_T.j (i := .goto 124) (k := 3) (pc' := 442) (st' := []) (pc := 318) rfl rfl rfl rfl rfl ?_
          refine zx_T.l (i := .aload_n 0) (k := 1) (v := .ref 44) (pc := 442) rfl rfl rfl ?_
          refine zr_gi (k := 26) (lo := 0) (hi := 7) (e := zv_i h626 26) (pc := 443) rfl rfl rfl ih626 rfl (fun g629a g629b => ?_)
          have ae : ∀ j, 0 ≤ j → zv_a h626 61 j = zv_a h626 61 j := fun j hj => rfl
          have y634 := zv_ri ih626 (k := 25) rfl
          exact zr_ir (x := zv_i h626 26) (pc := 446) rfl rfl rfl ⟨ih626, ((((w2.wd rfl : zb_W [(44, 25), (44, 26), (61, 0)] h _).tr (w607.wd rfl)).tr (w617.wd rfl)).tr (w627.wd rfl)), _, rfl, by dsimp only; exact ⟨by omega, by omega, by omega, by omega, fun h0 => absurd h0 (by omega)⟩⟩
        · exact False.elim (by omega)
        · exact False.elim (by omega)
      · exact False.elim (by omega)
      · exact False.elim (by omega)
    · clear x605
      show zx_T zp_P 3 zp_m167 307 [(2, .int (zI (zv_a h 46 p))), (0, .ref 44), (1, .int (zI (p)))] [] h606 _
      refine zx_T.l (i := .aload_n 0) (k := 1) (v := .ref 44) (pc := 307) rfl rfl rfl ?_
      refine zx_T.s (i := .bipush 6) (k := 2) (st' := [.int (zI (6)), .ref 44]) (pc := 308) rfl rfl ?_
      have y635 : zv_a h606 61 8 = zv_a h 61 8 := ((zv_wa w607 rfl 8).trans (zv_wa w2 rfl 8))
      have an1 : ∀ j, 0 ≤ j → zv_a h606 61 j = zv_a h 61 j := fun j hj => by rw [zv_wa w607 rfl j, zv_wa w2 rfl j]
      refine zr_iv (cj := 162) (q' := zp_m162) (As := [.int (zI (6))]) (rest := []) (pc := 310) rfl rfl rfl rfl rfl rfl (Nat.le_of_ble_eq_true rfl) rfl (Nat.le_of_ble_eq_true rfl) ih606 ((zm_need (h := h606) ih606 (w := 6) (by omega) (by omega) (by omega)).up (Nat.le_of_ble_eq_true rfl)) ?_
      rintro r639 h642 ⟨ih642, w643, r639q, x641⟩
      subst r639q
      try dsimp only at x641
      have nj2 := x641.2.2
      rcases zg_n1 x641 (by omega) with q644 | q644 | q644
      · exact False.elim (by omega)
      · clear x641
        show zx_T zp_P 3 zp_m167 313 [(2, .int (zI (zv_a h 46 p))), (0, .ref 44), (1, .int (zI (p)))] [] h642 _
        refine zx_T.l (i := .aload_n 0) (k := 1) (v := .ref 44) (pc := 313) rfl rfl rfl ?_
        refine zx_T.s (i := .iconst 1) (k := 1) (st' := [.int (zI (1)), .ref 44]) (pc := 314) rfl rfl ?_
        have ap : ∀ j, 0 ≤ j → zv_a h642 61 j = zv_a h 61 j := fun j hj => by rw [zv_wa w643 rfl j, zv_wa w607 rfl j, zv_wa w2 rfl j]
        have y646 : zv_a h642 61 8 = zv_a h 61 8 := ((zv_wa w643 rfl 8).trans ((zv_wa w607 rfl 8).trans (zv_wa w2 rfl 8)))
        refine zr_iv (cj := 163) (q' := zp_m163) (As := [.int (zI (1))]) (rest := []) (pc := 315) rfl rfl rfl rfl rfl rfl (Nat.le_of_ble_eq_true rfl) rfl (Nat.le_of_ble_eq_true rfl) ih642 ((zm_push (h := h642) ih642 (k := 1) (by omega) (by omega) (by omega)).up (Nat.le_of_ble_eq_true rfl)) ?_
        rintro r649 h652 ⟨ih652, w653, r649q, x651⟩
        subst r649q
        try dsimp only at x651
        have pj := x651.2.2.1
        have p8 := x651.2.2.2 (by omega)
        rcases zg_p1 x651 (by omega) with q654 | q654 | q654
        · clear x651
          show zx_T zp_P 3 zp_m167 318 [(2, .int (zI (zv_a h 46 p))), (0, .ref 44), (1, .int (zI (p)))] [] h652 _
          refine zx_T.j (i := .goto 124) (k := 3) (pc' := 442) (st' := []) (pc := 318) rfl rfl rfl rfl rfl ?_
          refine zx_T.l (i := .aload_n 0) (k := 1) (v := .ref 44) (pc := 442) rfl rfl rfl ?_
          refine zr_gi (k := 26) (lo := 0) (hi := 7) (e := zv_i h652 26) (pc := 443) rfl rfl rfl ih652 rfl (fun g655a g655b => ?_)
          have ae : ∀ j, 0 ≤ j → zv_a h652 61 j = zv_a h652 61 j := fun j hj => rfl
          have y660 := zv_ri ih652 (k := 25) rfl
          exact zr_ir (x := zv_i h652 26) (pc := 446) rfl rfl rfl ⟨ih652, ((((w2.wd rfl : zb_W [(44, 25), (44, 26), (61, 0)] h _).tr (w607.wd rfl)).tr (w643.wd rfl)).tr (w653.wd rfl)), _, rfl, by dsimp only; exact ⟨by omega, by omega, by omega, by omega, fun h0 => absurd h0 (by omega)⟩⟩
        · exact False.elim (by omega)
        · exact False.elim (by omega)
      · clear x641
        show zx_T zp_P 3 zp_m167 313 [(2, .int (zI (zv_a h 46 p))), (0, .ref 44), (1, .int (zI (p)))] [] h642 _
        refine zx_T.l (i := .aload_n 0) (k := 1) (v := .ref 44) (pc := 313) rfl rfl rfl ?_
        refine zx_T.s (i := .iconst 1) (k := 1) (st' := [.int (zI (1)), .ref 44]) (pc := 314) rfl rfl ?_
        have ap : ∀ j, 0 ≤ j → zv_a h642 61 j = zv_a h 61 j := fun j hj => by rw [zv_wa w643 rfl j, zv_wa w607 rfl j, zv_wa w2 rfl j]
        have y662 : zv_a h642 61 8 = zv_a h 61 8 := ((zv_wa w643 rfl 8).trans ((zv_wa w607 rfl 8).trans (zv_wa w2 rfl 8)))
        refine zr_iv (cj := 163) (q' := zp_m163) (As := [.int (zI (1))]) (rest := []) (pc := 315) rfl rfl rfl rfl rfl rfl (Nat.le_of_ble_eq_true rfl) rfl (Nat.le_of_ble_eq_true rfl) ih642 ((zm_push (h := h642) ih642 (k := 1) (by omega) (by omega) (by omega)).up (Nat.le_of_ble_eq_true rfl)) ?_
        rintro r665 h668 ⟨ih668, w669, r665q, x667⟩
        subst r665q
        try dsimp only at x667
        have pj := x667.2.2.1
        have p8 := x667.2.2.2 (by omega)
        rcases zg_p1 x667 (by omega) with q670 | q670 | q670
        · exact False.elim (by omega)
        · clear x667
          show zx_T zp_P 3 zp_m167 318 [(2, .int (zI (zv_a h 46 p))), (0, .ref 44), (1, .int (zI (p)))] [] h668 _
          refine zx_T.j (i := .goto 124) (k := 3) (pc' := 442) (st' := []) (pc := 318) rfl rfl rfl rfl rfl ?_
          refine zx_T.l (i := .aload_n 0) (k := 1) (v := .ref 44) (pc := 442) rfl rfl rfl ?_
          refine zr_gi (k := 26) (lo := 0) (hi := 7) (e := zv_i h668 26) (pc := 443) rfl rfl rfl ih668 rfl (fun g671a g671b => ?_)
          have ae : ∀ j, 0 ≤ j → zv_a h668 61 j = zv_a h668 61 j := fun j hj => rfl
          have y676 := zv_ri ih668 (k := 25) rfl
          exact zr_ir (x := zv_i h668 26) (pc := 446) rfl rfl rfl ⟨ih668, ((((w2.wd rfl : zb_W [(44, 25), (44, 26), (61, 0)] h _).tr (w607.wd rfl)).tr (w643.wd rfl)).tr (w669.wd rfl)), _, rfl, by dsimp only; exact ⟨by omega, by omega, by omega, by omega, fun h0 => absurd h0 (by omega)⟩⟩
        · clear x667
          show zx_T zp_P 3 zp_m167 318 [(2, .int (zI (zv_a h 46 p))), (0, .ref 44), (1, .int (zI (p)))] [] h668 _
          refine zx_T.j (i := .goto 124) (k := 3) (pc' := 442) (st' := []) (pc := 318) rfl rfl rfl rfl rfl ?_
          refine zx_T.l (i := .aload_n 0) (k := 1) (v := .ref 44) (pc := 442) rfl rfl rfl ?_
          refine zr_gi (k := 26) (lo := 0) (hi := 7) (e := zv_i h668 26) (pc := 443) rfl rfl rfl ih668 rfl (fun g677a g677b => ?_)
          have ae : ∀ j, 0 ≤ j → zv_a h668 61 j = zv_a h668 61 j := fun j hj => rfl
          have y682 := zv_ri ih668 (k := 25) rfl
          exact zr_ir (x := zv_i h668 26) (pc := 446) rfl rfl rfl ⟨ih668, ((((w2.wd rfl : zb_W [(44, 25), (44, 26), (61, 0)] h _).tr (w607.wd rfl)).tr (w643.wd rfl)).tr (w669.wd rfl)), _, rfl, by dsimp only; exact ⟨by omega, by omega, by omega, by omega, fun h0 => ⟨by omega, fun j hj => ⟨fun ho hk => by have b1 := nj2 j; have d1 := an1 j hj; omega, fun ho => absurd ho (by omega), fun ho => absurd ho (by omega), fun ho => absurd ho (by omega), fun ho => absurd ho (by omega)⟩, fun ho j hj j2 j3 => by have d5 := ap j hj; have b4 := pj j hj; omega, fun ho => absurd ho (by omega)⟩⟩⟩
  · refine zr_sw (i := .tableswitch 424 1 28 #[126, 134, 142, 150, 158, 167, 176, 190, 198, 206, 214, 222, 222, 240, 258, 271, 284, 303, 322, 336, 350, 363, 424, 424, 372, 380, 372, 388]) (len := 126) (t := 321) (x := zv_a h 45 p) (k := 18) (pc := 18) rfl c6 rfl rfl rfl rfl ?_
    refine zx_T.l (i := .aload_n 0) (k := 1) (v := .ref 44) (pc := 321) rfl rfl rfl ?_
    refine zx_T.s (i := .iconst 1) (k := 1) (st' := [.int (zI (1)), .ref 44]) (pc := 322) rfl rfl ?_
    have y683 : zv_a h1 61 8 = zv_a h 61 8 := (zv_wa w2 rfl 8)
    have y684 : zv_i h1 25 = zv_i h 25 := (zv_wi w2 rfl)
    have y685 : zv_i h1 26 = 0 := e3
    have an0 : ∀ j, 0 ≤ j → zv_a h1 61 j = zv_a h 61 j := fun j hj => by rw [zv_wa w2 rfl j]
    refine zr_iv (cj := 162) (q' := zp_m162) (As := [.int (zI (1))]) (rest := []) (pc := 323) rfl rfl rfl rfl rfl rfl (Nat.le_of_ble_eq_true rfl) rfl (Nat.le_of_ble_eq_true rfl) ih1 ((zm_need (h := h1) ih1 (w := 1) (by omega) (by omega) (by omega)).up (Nat.le_of_ble_eq_true rfl)) ?_
    rintro r687 h690 ⟨ih690, w691, r687q, x689⟩
    subst r687q
    try dsimp only at x689
    have nj1 := x689.2.2
    rcases zg_n1 x689 (by omega) with q692 | q692 | q692
    · exact False.elim (by omega)
    · clear x689
      show zx_T zp_P 3 zp_m167 326 [(2, .int (zI (zv_a h 46 p))), (0, .ref 44), (1, .int (zI (p)))] [] h690 _
      refine zx_T.l (i := .aload_n 0) (k := 1) (v := .ref 44) (pc := 326) rfl rfl rfl ?_
      refine zx_T.s (i := .iconst 1) (k := 1) (st' := [.int (zI (1)), .ref 44]) (pc := 327) rfl rfl ?_
      have y693 : zv_a h690 61 8 = zv_a h 61 8 := ((zv_wa w691 rfl 8).trans (zv_wa w2 rfl 8))
      have an1 : ∀ j, 0 ≤ j → zv_a h690 61 j = zv_a h 61 j := fun j hj => by rw [zv_wa w691 rfl j, zv_wa w2 rfl j]
      refine zr_iv (cj := 162) (q' := zp_m162) (As := [.int (zI (1))]) (rest := []) (pc := 328) rfl rfl rfl rfl rfl rfl (Nat.le_of_ble_eq_true rfl) rfl (Nat.le_of_ble_eq_true rfl) ih690 ((zm_need (h := h690) ih690 (w := 1) (by omega) (by omega) (by omega)).up (Nat.le_of_ble_eq_true rfl)) ?_
      rintro r697 h700 ⟨ih700, w701, r697q, x699⟩
      subst r697q
      try dsimp only at x699
      have nj2 := x699.2.2
      rcases zg_n1 x699 (by omega) with q702 | q702 | q702
      · clear x699
        show zx_T zp_P 3 zp_m167 331 [(2, .int (zI (zv_a h 46 p))), (0, .ref 44), (1, .int (zI (p)))] [] h700 _
        refine zx_T.l (i := .aload_n 0) (k := 1) (v := .ref 44) (pc := 331) rfl rfl rfl ?_
        refine zx_T.s (i := .bipush 6) (k := 2) (st' := [.int (zI (6)), .ref 44]) (pc := 332) rfl rfl ?_
        have y703 : zv_a h700 61 8 = zv_a h 61 8 := ((zv_wa w701 rfl 8).trans ((zv_wa w691 rfl 8).trans (zv_wa w2 rfl 8)))
        have an2 : ∀ j, 0 ≤ j → zv_a h700 61 j = zv_a h 61 j := fun j hj => by rw [zv_wa w701 rfl j, zv_wa w691 rfl j, zv_wa w2 rfl j]
        refine zr_iv (cj := 162) (q' := zp_m162) (As := [.int (zI (6))]) (rest := []) (pc := 334) rfl rfl rfl rfl rfl rfl (Nat.le_of_ble_eq_true rfl) rfl (Nat.le_of_ble_eq_true rfl) ih700 ((zm_need (h := h700) ih700 (w := 6) (by omega) (by omega) (by omega)).up (Nat.le_of_ble_eq_true rfl)) ?_
        rintro r707 h710 ⟨ih710, w711, r707q, x709⟩
        subst r707q
        try dsimp only at x709
        have nj3 := x709.2.2
        rcases zg_n1 x709 (by omega) with q712 | q712 | q712
        · clear x709
          show zx_T zp_P 3 zp_m167 337 [(2, .int (zI (zv_a h 46 p))), (0, .ref 44), (1, .int (zI (p)))] [] h710 _
          refine zx_T.j (i := .goto 105) (k := 3) (pc' := 442) (st' := []) (pc := 337) rfl rfl rfl rfl rfl ?_
          refine zx_T.l (i := .aload_n 0) (k := 1) (v := .ref 44) (pc := 442) rfl rfl rfl ?_
          refine zr_gi (k := 26) (lo := 0) (hi := 7) (e := zv_i h710 26) (pc := 443) rfl rfl rfl ih710 rfl (fun g713a g713b => ?_)
          have y716 : zv_a h710 61 8 = zv_a h 61 8 := ((zv_wa w711 rfl 8).trans ((zv_wa w701 rfl 8).trans ((zv_wa w691 rfl 8).trans (zv_wa w2 rfl 8))))
          have ae : ∀ j, 0 ≤ j → zv_a h710 61 j = zv_a h 61 j := fun j hj => by rw [zv_wa w711 rfl j, zv_wa w701 rfl j, zv_wa w691 rfl j, zv_wa w2 rfl j]
          have y718 := zv_ri ih710 (k := 25) rfl
          exact zr_ir (x := zv_i h710 26) (pc := 446) rfl rfl rfl ⟨ih710, ((((w2.wd rfl : zb_W [(44, 25), (44, 26), (61, 0)] h _).tr (w691.wd rfl)).tr (w701.wd rfl)).tr (w711.wd rfl)), _, rfl, by dsimp only; exact ⟨by omega, by omega, by omega, by omega, fun h0 => absurd h0 (by omega)⟩⟩
        · exact False.elim (by omega)
        · exact False.elim (by omega)
      · exact False.elim (by omega)
      · exact False.elim (by omega)
    · clear x689
      show zx_T zp_P 3 zp_m167 326 [(2, .int (zI (zv_a h 46 p))), (0, .ref 44), (1, .int (zI (p)))] [] h690 _
      refine zx_T.l (i := .aload_n 0) (k := 1) (v := .ref 44) (pc := 326) rfl rfl rfl ?_
      refine zx_T.s (i := .iconst 1) (k := 1) (st' := [.int (zI (1)), .ref 44]) (pc := 327) rfl rfl ?_
      have y719 : zv_a h690 61 8 = zv_a h 61 8 := ((zv_wa w691 rfl 8).trans (zv_wa w2 rfl 8))
      have an1 : ∀ j, 0 ≤ j → zv_a h690 61 j = zv_a h 61 j := fun j hj => by rw [zv_wa w691 rfl j, zv_wa w2 rfl j]
      refine zr_iv (cj := 162) (q' := zp_m162) (As := [.int (zI (1))]) (rest := []) (pc := 328) rfl rfl rfl rfl rfl rfl (Nat.le_of_ble_eq_true rfl) rfl (Nat.le_of_ble_eq_true rfl) ih690 ((zm_need (h := h690) ih690 (w := 1) (by omega) (by omega) (by omega)).up (Nat.le_of_ble_eq_true rfl)) ?_
      rintro r723 h726 ⟨ih726, w727, r723q, x725⟩
      subst r723q
      try dsimp only at x725
      have nj2 := x725.2.2
      rcases zg_n1 x725 (by omega) with q728 | q728 | q728
      · exact False.elim (by omega)
      · clear x725
        show zx_T zp_P 3 zp_m167 331 [(2, .int (zI (zv_a h 46 p))), (0, .ref 44), (1, .int (zI (p)))] [] h726 _
        refine zx_T.l (i := .aload_n 0) (k := 1) (v := .ref 44) (pc := 331) rfl rfl rfl ?_
        refine zx_T.s (i := .bipush 6) (k := 2) (st' := [.int (zI (6)), .ref 44]) (pc := 332) rfl rfl ?_
        have y729 : zv_a h726 61 8 = zv_a h 61 8 := ((zv_wa w727 rfl 8).trans ((zv_wa w691 rfl 8).trans (zv_wa w2 rfl 8)))
        have an2 : ∀ j, 0 ≤ j → zv_a h726 61 j = zv_a h 61 j := fun j hj => by rw [zv_wa w727 rfl j, zv_wa w691 rfl j, zv_wa w2 rfl j]
        refine zr_iv (cj := 162) (q' := zp_m162) (As := [.int (zI (6))]) (rest := []) (pc := 334) rfl rfl rfl rfl rfl rfl (Nat.le_of_ble_eq_true rfl) rfl (Nat.le_of_ble_eq_true rfl) ih726 ((zm_need (h := h726) ih726 (w := 6) (by omega) (by omega) (by omega)).up (Nat.le_of_ble_eq_true rfl)) ?_
        rintro r733 h736 ⟨ih736, w737, r733q, x735⟩
        subst r733q
        try dsimp only at x735
        have nj3 := x735.2.2
        rcases zg_n1 x735 (by omega) with q738 | q738 | q738
        · clear x735
          show zx_T zp_P 3 zp_m167 337 [(2, .int (zI (zv_a h 46 p))), (0, .ref 44), (1, .int (zI (p)))] [] h736 _
          refine zx_T.j (i := .goto 105) (k := 3) (pc' := 442) (st' := []) (pc := 337) rfl rfl rfl rfl rfl ?_
          refine zx_T.l (i := .aload_n 0) (k := 1) (v := .ref 44) (pc := 442) rfl rfl rfl ?_
          refine zr_gi (k := 26) (lo := 0) (hi := 7) (e := zv_i h736 26) (pc := 443) rfl rfl rfl ih736 rfl (fun g739a g739b => ?_)
          have y742 : zv_a h736 61 8 = zv_a h 61 8 := ((zv_wa w737 rfl 8).trans ((zv_wa w727 rfl 8).trans ((zv_wa w691 rfl 8).trans (zv_wa w2 rfl 8))))
          have ae : ∀ j, 0 ≤ j → zv_a h736 61 j = zv_a h 61 j := fun j hj => by rw [zv_wa w737 rfl j, zv_wa w727 rfl j, zv_wa w691 rfl j, zv_wa w2 rfl j]
          have y744 := zv_ri ih736 (k := 25) rfl
          exact zr_ir (x := zv_i h736 26) (pc := 446) rfl rfl rfl ⟨ih736, ((((w2.wd rfl : zb_W [(44, 25), (44, 26), (61, 0)] h _).tr (w691.wd rfl)).tr (w727.wd rfl)).tr (w737.wd rfl)), _, rfl, by dsimp only; exact ⟨by omega, by omega, by omega, by omega, fun h0 => absurd h0 (by omega)⟩⟩
        · exact False.elim (by omega)
        · exact False.elim (by omega)
      · clear x725
        show zx_T zp_P 3 zp_m167 331 [(2, .int (zI (zv_a h 46 p))), (0, .ref 44), (1, .int (zI (p)))] [] h726 _
        refine zx_T.l (i := .aload_n 0) (k := 1) (v := .ref 44) (pc := 331) rfl rfl rfl ?_
        refine zx_T.s (i := .bipush 6) (k := 2) (st' := [.int (zI (6)), .ref 44]) (pc := 332) rfl rfl ?_
        have y745 : zv_a h726 61 8 = zv_a h 61 8 := ((zv_wa w727 rfl 8).trans ((zv_wa w691 rfl 8).trans (zv_wa w2 rfl 8)))
        have an2 : ∀ j, 0 ≤ j → zv_a h726 61 j = zv_a h 61 j := fun j hj => by rw [zv_wa w727 rfl j, zv_wa w691 rfl j, zv_wa w2 rfl j]
        refine zr_iv (cj := 162) (q' := zp_m162) (As := [.int (zI (6))]) (rest := []) (pc := 334) rfl rfl rfl rfl rfl rfl (Nat.le_of_ble_eq_true rfl) rfl (Nat.le_of_ble_eq_true rfl) ih726 ((zm_need (h := h726) ih726 (w := 6) (by omega) (by omega) (by omega)).up (Nat.le_of_ble_eq_true rfl)) ?_
        rintro r749 h752 ⟨ih752, w753, r749q, x751⟩
        subst r749q
        try dsimp only at x751
        have nj3 := x751.2.2
        rcases zg_n1 x751 (by omega) with q754 | q754 | q754
        · exact False.elim (by omega)
        · clear x751
          show zx_T zp_P 3 zp_m167 337 [(2, .int (zI (zv_a h 46 p))), (0, .ref 44), (1, .int (zI (p)))] [] h752 _
          refine zx_T.j (i := .goto 105) (k := 3) (pc' := 442) (st' := []) (pc := 337) rfl rfl rfl rfl rfl ?_
          refine zx_T.l (i := .aload_n 0) (k := 1) (v := .ref 44) (pc := 442) rfl rfl rfl ?_
          refine zr_gi (k := 26) (lo := 0) (hi := 7) (e := zv_i h752 26) (pc := 443) rfl rfl rfl ih752 rfl (fun g755a g755b => ?_)
          have y758 : zv_a h752 61 8 = zv_a h 61 8 := ((zv_wa w753 rfl 8).trans ((zv_wa w727 rfl 8).trans ((zv_wa w691 rfl 8).trans (zv_wa w2 rfl 8))))
          have ae : ∀ j, 0 ≤ j → zv_a h752 61 j = zv_a h 61 j := fun j hj => by rw [zv_wa w753 rfl j, zv_wa w727 rfl j, zv_wa w691 rfl j, zv_wa w2 rfl j]
          have y760 := zv_ri ih752 (k := 25) rfl
          exact zr_ir (x := zv_i h752 26) (pc := 446) rfl rfl rfl ⟨ih752, ((((w2.wd rfl : zb_W [(44, 25), (44, 26), (61, 0)] h _).tr (w691.wd rfl)).tr (w727.wd rfl)).tr (w753.wd rfl)), _, rfl, by dsimp only; exact ⟨by omega, by omega, by omega, by omega, fun h0 => absurd h0 (by omega)⟩⟩
        · clear x751
          show zx_T zp_P 3 zp_m167 337 [(2, .int (zI (zv_a h 46 p))), (0, .ref 44), (1, .int (zI (p)))] [] h752 _
          refine zx_T.j (i := .goto 105) (k := 3) (pc' := 442) (st' := []) (pc := 337) rfl rfl rfl rfl rfl ?_
          refine zx_T.l (i := .aload_n 0) (k := 1) (v := .ref 44) (pc := 442) rfl rfl rfl ?_
          refine zr_gi (k := 26) (lo := 0) (hi := 7) (e := zv_i h752 26) (pc := 443) rfl rfl rfl ih752 rfl (fun g761a g761b => ?_)
          have y764 : zv_a h752 61 8 = zv_a h 61 8 := ((zv_wa w753 rfl 8).trans ((zv_wa w727 rfl 8).trans ((zv_wa w691 rfl 8).trans (zv_wa w2 rfl 8))))
          have ae : ∀ j, 0 ≤ j → zv_a h752 61 j = zv_a h 61 j := fun j hj => by rw [zv_wa w753 rfl j, zv_wa w727 rfl j, zv_wa w691 rfl j, zv_wa w2 rfl j]
          have y766 := zv_ri ih752 (k := 25) rfl
          exact zr_ir (x := zv_i h752 26) (pc := 446) rfl rfl rfl ⟨ih752, ((((w2.wd rfl : zb_W [(44, 25), (44, 26), (61, 0)] h _).tr (w691.wd rfl)).tr (w727.wd rfl)).tr (w753.wd rfl)), _, rfl, by dsimp only; exact ⟨by omega, by omega, by omega, by omega, fun h0 => ⟨by omega, fun j hj => ⟨fun ho => absurd ho (by omega), fun ho hk => by have b1 := nj3 j; have d1 := an2 j hj; omega, fun ho => absurd ho (by omega), fun ho => absurd ho (by omega), fun ho => absurd ho (by omega)⟩, fun ho j hj j2 j3 => by have d4 := ae j hj; omega, fun ho => absurd ho (by omega)⟩⟩⟩
  · refine zr_sw (i := .tableswitch 424 1 28 #[126, 134, 142, 150, 158, 167, 176, 190, 198, 206, 214, 222, 222, 240, 258, 271, 284, 303, 322, 336, 350, 363, 424, 424, 372, 380, 372, 388]) (len := 126) (t := 340) (x := zv_a h 45 p) (k := 19) (pc := 18) rfl c6 rfl rfl rfl rfl ?_
    refine zx_T.l (i := .aload_n 0) (k := 1) (v := .ref 44) (pc := 340) rfl rfl rfl ?_
    refine zx_T.s (i := .bipush 6) (k := 2) (st' := [.int (zI (6)), .ref 44]) (pc := 341) rfl rfl ?_
    have y767 : zv_a h1 61 8 = zv_a h 61 8 := (zv_wa w2 rfl 8)
    have y768 : zv_i h1 25 = zv_i h 25 := (zv_wi w2 rfl)
    have y769 : zv_i h1 26 = 0 := e3
    have an0 : ∀ j, 0 ≤ j → zv_a h1 61 j = zv_a h 61 j := fun j hj => by rw [zv_wa w2 rfl j]
    refine zr_iv (cj := 162) (q' := zp_m162) (As := [.int (zI (6))]) (rest := []) (pc := 343) rfl rfl rfl rfl rfl rfl (Nat.le_of_ble_eq_true rfl) rfl (Nat.le_of_ble_eq_true rfl) ih1 ((zm_need (h := h1) ih1 (w := 6) (by omega) (by omega) (by omega)).up (Nat.le_of_ble_eq_true rfl)) ?_
    rintro r771 h774 ⟨ih774, w775, r771q, x773⟩
    subst r771q
    try dsimp only at x773
    have nj1 := x773.2.2
    rcases zg_n1 x773 (by omega) with q776 | q776 | q776
    · exact False.elim (by omega)
    · clear x773
      show zx_T zp_P 3 zp_m167 346 [(2, .int (zI (zv_a h 46 p))), (0, .ref 44), (1, .int (zI (p)))] [] h774 _
      refine zx_T.l (i := .aload_n 0) (k := 1) (v := .ref 44) (pc := 346) rfl rfl rfl ?_
      refine zx_T.s (i := .iconst 1) (k := 1) (st' := [.int (zI (1)), .ref 44]) (pc := 347) rfl rfl ?_
      have ap : ∀ j, 0 ≤ j → zv_a h774 61 j = zv_a h 61 j := fun j hj => by rw [zv_wa w775 rfl j, zv_wa w2 rfl j]
      have y778 : zv_a h774 61 8 = zv_a h 61 8 := ((zv_wa w775 rfl 8).trans (zv_wa w2 rfl 8))
      refine zr_iv (cj := 163) (q' := zp_m163) (As := [.int (zI (1))]) (rest := []) (pc := 348) rfl rfl rfl rfl rfl rfl (Nat.le_of_ble_eq_true rfl) rfl (Nat.le_of_ble_eq_true rfl) ih774 ((zm_push (h := h774) ih774 (k := 1) (by omega) (by omega) (by omega)).up (Nat.le_of_ble_eq_true rfl)) ?_
      rintro r781 h784 ⟨ih784, w785, r781q, x783⟩
      subst r781q
      try dsimp only at x783
      have pj := x783.2.2.1
      have p8 := x783.2.2.2 (by omega)
      rcases zg_p1 x783 (by omega) with q786 | q786 | q786
      · clear x783
        show zx_T zp_P 3 zp_m167 351 [(2, .int (zI (zv_a h 46 p))), (0, .ref 44), (1, .int (zI (p)))] [] h784 _
        refine zx_T.j (i := .goto 91) (k := 3) (pc' := 442) (st' := []) (pc := 351) rfl rfl rfl rfl rfl ?_
        refine zx_T.l (i := .aload_n 0) (k := 1) (v := .ref 44) (pc := 442) rfl rfl rfl ?_
        refine zr_gi (k := 26) (lo := 0) (hi := 7) (e := zv_i h784 26) (pc := 443) rfl rfl rfl ih784 rfl (fun g787a g787b => ?_)
        have ae : ∀ j, 0 ≤ j → zv_a h784 61 j = zv_a h784 61 j := fun j hj => rfl
        have y792 := zv_ri ih784 (k := 25) rfl
        exact zr_ir (x := zv_i h784 26) (pc := 446) rfl rfl rfl ⟨ih784, (((w2.wd rfl : zb_W [(44, 25), (44, 26), (61, 0)] h _).tr (w775.wd rfl)).tr (w785.wd rfl)), _, rfl, by dsimp only; exact ⟨by omega, by omega, by omega, by omega, fun h0 => absurd h0 (by omega)⟩⟩
      · exact False.elim (by omega)
      · exact False.elim (by omega)
    · clear x773
      show zx_T zp_P 3 zp_m167 346 [(2, .int (zI (zv_a h 46 p))), (0, .ref 44), (1, .int (zI (p)))] [] h774 _
      refine zx_T.l (i := .aload_n 0) (k := 1) (v := .ref 44) (pc := 346) rfl rfl rfl ?_
      refine zx_T.s (i := .iconst 1) (k := 1) (st' := [.int (zI (1)), .ref 44]) (pc := 347) rfl rfl ?_
      have ap : ∀ j, 0 ≤ j → zv_a h774 61 j = zv_a h 61 j := fun j hj => by rw [zv_wa w775 rfl j, zv_wa w2 rfl j]
      have y794 : zv_a h774 61 8 = zv_a h 61 8 := ((zv_wa w775 rfl 8).trans (zv_wa w2 rfl 8))
      refine zr_iv (cj := 163) (q' := zp_m163) (As := [.int (zI (1))]) (rest := []) (pc := 348) rfl rfl rfl rfl rfl rfl (Nat.le_of_ble_eq_true rfl) rfl (Nat.le_of_ble_eq_true rfl) ih774 ((zm_push (h := h774) ih774 (k := 1) (by omega) (by omega) (by omega)).up (Nat.le_of_ble_eq_true rfl)) ?_
      rintro r797 h800 ⟨ih800, w801, r797q, x799⟩
      subst r797q
      try dsimp only at x799
      have pj := x799.2.2.1
      have p8 := x799.2.2.2 (by omega)
      rcases zg_p1 x799 (by omega) with q802 | q802 | q802
      · exact False.elim (by omega)
      · clear x799
        show zx_T zp_P 3 zp_m167 351 [(2, .int (zI (zv_a h 46 p))), (0, .ref 44), (1, .int (zI (p)))] [] h800 _
        refine zx_T.j (i := .goto 91) (k := 3) (pc' := 442) (st' := []) (pc := 351) rfl rfl rfl rfl rfl ?_
        refine zx_T.l (i := .aload_n 0) (k := 1) (v := .ref 44) (pc := 442) rfl rfl rfl ?_
        refine zr_gi (k := 26) (lo := 0) (hi := 7) (e := zv_i h800 26) (pc := 443) rfl rfl rfl ih800 rfl (fun g803a g803b => ?_)
        have ae : ∀ j, 0 ≤ j → zv_a h800 61 j = zv_a h800 61 j := fun j hj => rfl
        have y808 := zv_ri ih800 (k := 25) rfl
        exact zr_ir (x := zv_i h800 26) (pc := 446) rfl rfl rfl ⟨ih800, (((w2.wd rfl : zb_W [(44, 25), (44, 26), (61, 0)] h _).tr (w775.wd rfl)).tr (w801.wd rfl)), _, rfl, by dsimp only; exact ⟨by omega, by omega, by omega, by omega, fun h0 => absurd h0 (by omega)⟩⟩
      · clear x799
        show zx_T zp_P 3 zp_m167 351 [(2, .int (zI (zv_a h 46 p))), (0, .ref 44), (1, .int (zI (p)))] [] h800 _
        refine zx_T.j (i := .goto 91) (k := 3) (pc' := 442) (st' := []) (pc := 351) rfl rfl rfl rfl rfl ?_
        refine zx_T.l (i := .aload_n 0) (k := 1) (v := .ref 44) (pc := 442) rfl rfl rfl ?_
        refine zr_gi (k := 26) (lo := 0) (hi := 7) (e := zv_i h800 26) (pc := 443) rfl rfl rfl ih800 rfl (fun g809a g809b => ?_)
        have ae : ∀ j, 0 ≤ j → zv_a h800 61 j = zv_a h800 61 j := fun j hj => rfl
        have y814 := zv_ri ih800 (k := 25) rfl
        exact zr_ir (x := zv_i h800 26) (pc := 446) rfl rfl rfl ⟨ih800, (((w2.wd rfl : zb_W [(44, 25), (44, 26), (61, 0)] h _).tr (w775.wd rfl)).tr (w801.wd rfl)), _, rfl, by dsimp only; exact ⟨by omega, by omega, by omega, by omega, fun h0 => ⟨by omega, fun j hj => ⟨fun ho => absurd ho (by omega), fun ho => absurd ho (by omega), fun ho hk => by have b1 := nj1 j; have d1 := an0 j hj; omega, fun ho => absurd ho (by omega), fun ho => absurd ho (by omega)⟩, fun ho j hj j2 j3 => by have d5 := ap j hj; have b4 := pj j hj; omega, fun ho => absurd ho (by omega)⟩⟩⟩
  · refine zr_sw (i := .tableswitch 424 1 28 #[126, 134, 142, 150, 158, 167, 176, 190, 198, 206, 214, 222, 222, 240, 258, 271, 284, 303, 322, 336, 350, 363, 424, 424, 372, 380, 372, 388]) (len := 126) (t := 354) (x := zv_a h 45 p) (k := 20) (pc := 18) rfl c6 rfl rfl rfl rfl ?_
    refine zx_T.l (i := .aload_n 0) (k := 1) (v := .ref 44) (pc := 354) rfl rfl rfl ?_
    refine zx_T.s (i := .bipush 7) (k := 2) (st' := [.int (zI (7)), .ref 44]) (pc := 355) rfl rfl ?_
    have y815 : zv_a h1 61 8 = zv_a h 61 8 := (zv_wa w2 rfl 8)
    have y816 : zv_i h1 25 = zv_i h 25 := (zv_wi w2 rfl)
    have y817 : zv_i h1 26 = 0 := e3
    have an0 : ∀ j, 0 ≤ j → zv_a h1 61 j = zv_a h 61 j := fun j hj => by rw [zv_wa w2 rfl j]
    refine zr_iv (cj := 162) (q' := zp_m162) (As := [.int (zI (7))]) (rest := []) (pc := 357) rfl rfl rfl rfl rfl rfl (Nat.le_of_ble_eq_true rfl) rfl (Nat.le_of_ble_eq_true rfl) ih1 ((zm_need (h := h1) ih1 (w := 7) (by omega) (by omega) (by omega)).up (Nat.le_of_ble_eq_true rfl)) ?_
    rintro r819 h822 ⟨ih822, w823, r819q, x821⟩
    subst r819q
    try dsimp only at x821
    have nj1 := x821.2.2
    rcases zg_n1 x821 (by omega) with q824 | q824 | q824
    · exact False.elim (by omega)
    · clear x821
      show zx_T zp_P 3 zp_m167 360 [(2, .int (zI (zv_a h 46 p))), (0, .ref 44), (1, .int (zI (p)))] [] h822 _
      refine zx_T.l (i := .aload_n 0) (k := 1) (v := .ref 44) (pc := 360) rfl rfl rfl ?_
      refine zx_T.s (i := .iconst 1) (k := 1) (st' := [.int (zI (1)), .ref 44]) (pc := 361) rfl rfl ?_
      have ap : ∀ j, 0 ≤ j → zv_a h822 61 j = zv_a h 61 j := fun j hj => by rw [zv_wa w823 rfl j, zv_wa w2 rfl j]
      have y826 : zv_a h822 61 8 = zv_a h 61 8 := ((zv_wa w823 rfl 8).trans (zv_wa w2 rfl 8))
      refine zr_iv (cj := 163) (q' := zp_m163) (As := [.int (zI (1))]) (rest := []) (pc := 362) rfl rfl rfl rfl rfl rfl (Nat.le_of_ble_eq_true rfl) rfl (Nat.le_of_ble_eq_true rfl) ih822 ((zm_push (h := h822) ih822 (k := 1) (by omega) (by omega) (by omega)).up (Nat.le_of_ble_eq_true rfl)) ?_
      rintro r829 h832 ⟨ih832, w833, r829q, x831⟩
      subst r829q
      try dsimp only at x831
      have pj := x831.2.2.1
      have p8 := x831.2.2.2 (by omega)
      rcases zg_p1 x831 (by omega) with q834 | q834 | q834
      · clear x831
        show zx_T zp_P 3 zp_m167 365 [(2, .int (zI (zv_a h 46 p))), (0, .ref 44), (1, .int (zI (p)))] [] h832 _
        refine zx_T.j (i := .goto 77) (k := 3) (pc' := 442) (st' := []) (pc := 365) rfl rfl rfl rfl rfl ?_
        refine zx_T.l (i := .aload_n 0) (k := 1) (v := .ref 44) (pc := 442) rfl rfl rfl ?_
        refine zr_gi (k := 26) (lo := 0) (hi := 7) (e := zv_i h832 26) (pc := 443) rfl rfl rfl ih832 rfl (fun g835a g835b => ?_)
        have ae : ∀ j, 0 ≤ j → zv_a h832 61 j = zv_a h832 61 j := fun j hj => rfl
        have y840 := zv_ri ih832 (k := 25) rfl
        exact zr_ir (x := zv_i h832 26) (pc := 446) rfl rfl rfl ⟨ih832, (((w2.wd rfl : zb_W [(44, 25), (44, 26), (61, 0)] h _).tr (w823.wd rfl)).tr (w833.wd rfl)), _, rfl, by dsimp only; exact ⟨by omega, by omega, by omega, by omega, fun h0 => absurd h0 (by omega)⟩⟩
      · exact False.elim (by omega)
      · exact False.elim (by omega)
    · clear x821
      show zx_T zp_P 3 zp_m167 360 [(2, .int (zI (zv_a h 46 p))), (0, .ref 44), (1, .int (zI (p)))] [] h822 _
      refine zx_T.l (i := .aload_n 0) (k := 1) (v := .ref 44) (pc := 360) rfl rfl rfl ?_
      refine zx_T.s (i := .iconst 1) (k := 1) (st' := [.int (zI (1)), .ref 44]) (pc := 361) rfl rfl ?_
      have ap : ∀ j, 0 ≤ j → zv_a h822 61 j = zv_a h 61 j := fun j hj => by rw [zv_wa w823 rfl j, zv_wa w2 rfl j]
      have y842 : zv_a h822 61 8 = zv_a h 61 8 := ((zv_wa w823 rfl 8).trans (zv_wa w2 rfl 8))
      refine zr_iv (cj := 163) (q' := zp_m163) (As := [.int (zI (1))]) (rest := []) (pc := 362) rfl rfl rfl rfl rfl rfl (Nat.le_of_ble_eq_true rfl) rfl (Nat.le_of_ble_eq_true rfl) ih822 ((zm_push (h := h822) ih822 (k := 1) (by omega) (by omega) (by omega)).up (Nat.le_of_ble_eq_true rfl)) ?_
      rintro r845 h848 ⟨ih848, w849, r845q, x847⟩
      subst r845q
      try dsimp only at x847
      have pj := x847.2.2.1
      have p8 := x847.2.2.2 (by omega)
      rcases zg_p1 x847 (by omega) with q850 | q850 | q850
      · exact False.elim (by omega)
      · clear x847
        show zx_T zp_P 3 zp_m167 365 [(2, .int (zI (zv_a h 46 p))), (0, .ref 44), (1, .int (zI (p)))] [] h848 _
        refine zx_T.j (i := .goto 77) (k := 3) (pc' := 442) (st' := []) (pc := 365) rfl rfl rfl rfl rfl ?_
        refine zx_T.l (i := .aload_n 0) (k := 1) (v := .ref 44) (pc := 442) rfl rfl rfl ?_
        refine zr_gi (k := 26) (lo := 0) (hi := 7) (e := zv_i h848 26) (pc := 443) rfl rfl rfl ih848 rfl (fun g851a g851b => ?_)
        have ae : ∀ j, 0 ≤ j → zv_a h848 61 j = zv_a h848 61 j := fun j hj => rfl
        have y856 := zv_ri ih848 (k := 25) rfl
        exact zr_ir (x := zv_i h848 26) (pc := 446) rfl rfl rfl ⟨ih848, (((w2.wd rfl : zb_W [(44, 25), (44, 26), (61, 0)] h _).tr (w823.wd rfl)).tr (w849.wd rfl)), _, rfl, by dsimp only; exact ⟨by omega, by omega, by omega, by omega, fun h0 => absurd h0 (by omega)⟩⟩
      · clear x847
        show zx_T zp_P 3 zp_m167 365 [(2, .int (zI (zv_a h 46 p))), (0, .ref 44), (1, .int (zI (p)))] [] h848 _
        refine zx_T.j (i := .goto 77) (k := 3) (pc' := 442) (st' := []) (pc := 365) rfl rfl rfl rfl rfl ?_
        refine zx_T.l (i := .aload_n 0) (k := 1) (v := .ref 44) (pc := 442) rfl rfl rfl ?_
        refine zr_gi (k := 26) (lo := 0) (hi := 7) (e := zv_i h848 26) (pc := 443) rfl rfl rfl ih848 rfl (fun g857a g857b => ?_)
        have ae : ∀ j, 0 ≤ j → zv_a h848 61 j = zv_a h848 61 j := fun j hj => rfl
        have y862 := zv_ri ih848 (k := 25) rfl
        exact zr_ir (x := zv_i h848 26) (pc := 446) rfl rfl rfl ⟨ih848, (((w2.wd rfl : zb_W [(44, 25), (44, 26), (61, 0)] h _).tr (w823.wd rfl)).tr (w849.wd rfl)), _, rfl, by dsimp only; exact ⟨by omega, by omega, by omega, by omega, fun h0 => ⟨by omega, fun j hj => ⟨fun ho => absurd ho (by omega), fun ho => absurd ho (by omega), fun ho => absurd ho (by omega), fun ho hk => by have b1 := nj1 j; have d1 := an0 j hj; omega, fun ho => absurd ho (by omega)⟩, fun ho j hj j2 j3 => by have d5 := ap j hj; have b4 := pj j hj; omega, fun ho => absurd ho (by omega)⟩⟩⟩
  · refine zr_sw (i := .tableswitch 424 1 28 #[126, 134, 142, 150, 158, 167, 176, 190, 198, 206, 214, 222, 222, 240, 258, 271, 284, 303, 322, 336, 350, 363, 424, 424, 372, 380, 372, 388]) (len := 126) (t := 368) (x := zv_a h 45 p) (k := 21) (pc := 18) rfl c6 rfl rfl rfl rfl ?_
    refine zx_T.l (i := .aload_n 0) (k := 1) (v := .ref 44) (pc := 368) rfl rfl rfl ?_
    refine zx_T.s (i := .iconst 5) (k := 1) (st' := [.int (zI (5)), .ref 44]) (pc := 369) rfl rfl ?_
    have y863 : zv_a h1 61 8 = zv_a h 61 8 := (zv_wa w2 rfl 8)
    have y864 : zv_i h1 25 = zv_i h 25 := (zv_wi w2 rfl)
    have y865 : zv_i h1 26 = 0 := e3
    have an0 : ∀ j, 0 ≤ j → zv_a h1 61 j = zv_a h 61 j := fun j hj => by rw [zv_wa w2 rfl j]
    refine zr_iv (cj := 162) (q' := zp_m162) (As := [.int (zI (5))]) (rest := []) (pc := 370) rfl rfl rfl rfl rfl rfl (Nat.le_of_ble_eq_true rfl) rfl (Nat.le_of_ble_eq_true rfl) ih1 ((zm_need (h := h1) ih1 (w := 5) (by omega) (by omega) (by omega)).up (Nat.le_of_ble_eq_true rfl)) ?_
    rintro r867 h870 ⟨ih870, w871, r867q, x869⟩
    subst r867q
    try dsimp only at x869
    have nj1 := x869.2.2
    rcases zg_n1 x869 (by omega) with q872 | q872 | q872
    · exact False.elim (by omega)
    · clear x869
      show zx_T zp_P 3 zp_m167 373 [(2, .int (zI (zv_a h 46 p))), (0, .ref 44), (1, .int (zI (p)))] [] h870 _
      refine zx_T.l (i := .aload_n 0) (k := 1) (v := .ref 44) (pc := 373) rfl rfl rfl ?_
      refine zx_T.l (i := .iload_n 2) (k := 1) (v := .int (zI (zv_a h 46 p))) (pc := 374) rfl rfl rfl ?_
      have ap : ∀ j, 0 ≤ j → zv_a h870 61 j = zv_a h 61 j := fun j hj => by rw [zv_wa w871 rfl j, zv_wa w2 rfl j]
      have y874 : zv_a h870 61 8 = zv_a h 61 8 := ((zv_wa w871 rfl 8).trans (zv_wa w2 rfl 8))
      refine zr_iv (cj := 163) (q' := zp_m163) (As := [.int (zI (zv_a h 46 p))]) (rest := []) (pc := 375) rfl rfl rfl rfl rfl rfl (Nat.le_of_ble_eq_true rfl) rfl (Nat.le_of_ble_eq_true rfl) ih870 ((zm_push (h := h870) ih870 (k := zv_a h 46 p) (by omega) (by omega) (by omega)).up (Nat.le_of_ble_eq_true rfl)) ?_
      rintro r877 h880 ⟨ih880, w881, r877q, x879⟩
      subst r877q
      try dsimp only at x879
      have pj := x879.2.2.1
      have p8 := x879.2.2.2 (by omega)
      rcases zg_p1 x879 (by omega) with q882 | q882 | q882
      · clear x879
        show zx_T zp_P 3 zp_m167 378 [(2, .int (zI (zv_a h 46 p))), (0, .ref 44), (1, .int (zI (p)))] [] h880 _
        refine zx_T.j (i := .goto 64) (k := 3) (pc' := 442) (st' := []) (pc := 378) rfl rfl rfl rfl rfl ?_
        refine zx_T.l (i := .aload_n 0) (k := 1) (v := .ref 44) (pc := 442) rfl rfl rfl ?_
        refine zr_gi (k := 26) (lo := 0) (hi := 7) (e := zv_i h880 26) (pc := 443) rfl rfl rfl ih880 rfl (fun g883a g883b => ?_)
        have ae : ∀ j, 0 ≤ j → zv_a h880 61 j = zv_a h880 61 j := fun j hj => rfl
        have y888 := zv_ri ih880 (k := 25) rfl
        exact zr_ir (x := zv_i h880 26) (pc := 446) rfl rfl rfl ⟨ih880, (((w2.wd rfl : zb_W [(44, 25), (44, 26), (61, 0)] h _).tr (w871.wd rfl)).tr (w881.wd rfl)), _, rfl, by dsimp only; exact ⟨by omega, by omega, by omega, by omega, fun h0 => absurd h0 (by omega)⟩⟩
      · exact False.elim (by omega)
      · exact False.elim (by omega)
    · clear x869
      show zx_T zp_P 3 zp_m167 373 [(2, .int (zI (zv_a h 46 p))), (0, .ref 44), (1, .int (zI (p)))] [] h870 _
      refine zx_T.l (i := .aload_n 0) (k := 1) (v := .ref 44) (pc := 373) rfl rfl rfl ?_
      refine zx_T.l (i := .iload_n 2) (k := 1) (v := .int (zI (zv_a h 46 p))) (pc := 374) rfl rfl rfl ?_
      have ap : ∀ j, 0 ≤ j → zv_a h870 61 j = zv_a h 61 j := fun j hj => by rw [zv_wa w871 rfl j, zv_wa w2 rfl j]
      have y890 : zv_a h870 61 8 = zv_a h 61 8 := ((zv_wa w871 rfl 8).trans (zv_wa w2 rfl 8))
      refine zr_iv (cj := 163) (q' := zp_m163) (As := [.int (zI (zv_a h 46 p))]) (rest := []) (pc := 375) rfl rfl rfl rfl rfl rfl (Nat.le_of_ble_eq_true rfl) rfl (Nat.le_of_ble_eq_true rfl) ih870 ((zm_push (h := h870) ih870 (k := zv_a h 46 p) (by omega) (by omega) (by omega)).up (Nat.le_of_ble_eq_true rfl)) ?_
      rintro r893 h896 ⟨ih896, w897, r893q, x895⟩
      subst r893q
      try dsimp only at x895
      have pj := x895.2.2.1
      have p8 := x895.2.2.2 (by omega)
      rcases zg_p1 x895 (by omega) with q898 | q898 | q898
      · exact False.elim (by omega)
      · clear x895
        show zx_T zp_P 3 zp_m167 378 [(2, .int (zI (zv_a h 46 p))), (0, .ref 44), (1, .int (zI (p)))] [] h896 _
        refine zx_T.j (i := .goto 64) (k := 3) (pc' := 442) (st' := []) (pc := 378) rfl rfl rfl rfl rfl ?_
        refine zx_T.l (i := .aload_n 0) (k := 1) (v := .ref 44) (pc := 442) rfl rfl rfl ?_
        refine zr_gi (k := 26) (lo := 0) (hi := 7) (e := zv_i h896 26) (pc := 443) rfl rfl rfl ih896 rfl (fun g899a g899b => ?_)
        have ae : ∀ j, 0 ≤ j → zv_a h896 61 j = zv_a h896 61 j := fun j hj => rfl
        have y904 := zv_ri ih896 (k := 25) rfl
        exact zr_ir (x := zv_i h896 26) (pc := 446) rfl rfl rfl ⟨ih896, (((w2.wd rfl : zb_W [(44, 25), (44, 26), (61, 0)] h _).tr (w871.wd rfl)).tr (w897.wd rfl)), _, rfl, by dsimp only; exact ⟨by omega, by omega, by omega, by omega, fun h0 => absurd h0 (by omega)⟩⟩
      · clear x895
        show zx_T zp_P 3 zp_m167 378 [(2, .int (zI (zv_a h 46 p))), (0, .ref 44), (1, .int (zI (p)))] [] h896 _
        refine zx_T.j (i := .goto 64) (k := 3) (pc' := 442) (st' := []) (pc := 378) rfl rfl rfl rfl rfl ?_
        refine zx_T.l (i := .aload_n 0) (k := 1) (v := .ref 44) (pc := 442) rfl rfl rfl ?_
        refine zr_gi (k := 26) (lo := 0) (hi := 7) (e := zv_i h896 26) (pc := 443) rfl rfl rfl ih896 rfl (fun g905a g905b => ?_)
        have ae : ∀ j, 0 ≤ j → zv_a h896 61 j = zv_a h896 61 j := fun j hj => rfl
        have y910 := zv_ri ih896 (k := 25) rfl
        exact zr_ir (x := zv_i h896 26) (pc := 446) rfl rfl rfl ⟨ih896, (((w2.wd rfl : zb_W [(44, 25), (44, 26), (61, 0)] h _).tr (w871.wd rfl)).tr (w897.wd rfl)), _, rfl, by dsimp only; exact ⟨by omega, by omega, by omega, by omega, fun h0 => ⟨by omega, fun j hj => ⟨fun ho => absurd ho (by omega), fun ho => absurd ho (by omega), fun ho => absurd ho (by omega), fun ho => absurd ho (by omega), fun ho hk => by have b1 := nj1 j; have d1 := an0 j hj; omega⟩, fun ho j hj j2 j3 => by have d5 := ap j hj; have b4 := pj j hj; omega, fun ho => absurd ho (by omega)⟩⟩⟩
  · refine zr_sw (i := .tableswitch 424 1 28 #[126, 134, 142, 150, 158, 167, 176, 190, 198, 206, 214, 222, 222, 240, 258, 271, 284, 303, 322, 336, 350, 363, 424, 424, 372, 380, 372, 388]) (len := 126) (t := 381) (x := zv_a h 45 p) (k := 22) (pc := 18) rfl c6 rfl rfl rfl rfl ?_
    refine zx_T.l (i := .aload_n 0) (k := 1) (v := .ref 44) (pc := 381) rfl rfl rfl ?_
    refine zx_T.s (i := .bipush 7) (k := 2) (st' := [.int (zI (7)), .ref 44]) (pc := 382) rfl rfl ?_
    have y911 : zv_a h1 61 8 = zv_a h 61 8 := (zv_wa w2 rfl 8)
    have y912 : zv_i h1 25 = zv_i h 25 := (zv_wi w2 rfl)
    have y913 : zv_i h1 26 = 0 := e3
    have an0 : ∀ j, 0 ≤ j → zv_a h1 61 j = zv_a h 61 j := fun j hj => by rw [zv_wa w2 rfl j]
    refine zr_iv (cj := 162) (q' := zp_m162) (As := [.int (zI (7))]) (rest := []) (pc := 384) rfl rfl rfl rfl rfl rfl (Nat.le_of_ble_eq_true rfl) rfl (Nat.le_of_ble_eq_true rfl) ih1 ((zm_need (h := h1) ih1 (w := 7) (by omega) (by omega) (by omega)).up (Nat.le_of_ble_eq_true rfl)) ?_
    rintro r915 h918 ⟨ih918, w919, r915q, x917⟩
    subst r915q
    try dsimp only at x917
    have nj1 := x917.2.2
    rcases zg_n1 x917 (by omega) with q920 | q920 | q920
    · exact False.elim (by omega)
    · clear x917
      show zx_T zp_P 3 zp_m167 387 [(2, .int (zI (zv_a h 46 p))), (0, .ref 44), (1, .int (zI (p)))] [] h918 _
      refine zx_T.j (i := .goto 55) (k := 3) (pc' := 442) (st' := []) (pc := 387) rfl rfl rfl rfl rfl ?_
      refine zx_T.l (i := .aload_n 0) (k := 1) (v := .ref 44) (pc := 442) rfl rfl rfl ?_
      refine zr_gi (k := 26) (lo := 0) (hi := 7) (e := zv_i h918 26) (pc := 443) rfl rfl rfl ih918 rfl (fun g921a g921b => ?_)
      have y924 : zv_a h918 61 8 = zv_a h 61 8 := ((zv_wa w919 rfl 8).trans (zv_wa w2 rfl 8))
      have ae : ∀ j, 0 ≤ j → zv_a h918 61 j = zv_a h 61 j := fun j hj => by rw [zv_wa w919 rfl j, zv_wa w2 rfl j]
      have y926 := zv_ri ih918 (k := 25) rfl
      exact zr_ir (x := zv_i h918 26) (pc := 446) rfl rfl rfl ⟨ih918, ((w2.wd rfl : zb_W [(44, 25), (44, 26), (61, 0)] h _).tr (w919.wd rfl)), _, rfl, by dsimp only; exact ⟨by omega, by omega, by omega, by omega, fun h0 => absurd h0 (by omega)⟩⟩
    · clear x917
      show zx_T zp_P 3 zp_m167 387 [(2, .int (zI (zv_a h 46 p))), (0, .ref 44), (1, .int (zI (p)))] [] h918 _
      refine zx_T.j (i := .goto 55) (k := 3) (pc' := 442) (st' := []) (pc := 387) rfl rfl rfl rfl rfl ?_
      refine zx_T.l (i := .aload_n 0) (k := 1) (v := .ref 44) (pc := 442) rfl rfl rfl ?_
      refine zr_gi (k := 26) (lo := 0) (hi := 7) (e := zv_i h918 26) (pc := 443) rfl rfl rfl ih918 rfl (fun g927a g927b => ?_)
      have y930 : zv_a h918 61 8 = zv_a h 61 8 := ((zv_wa w919 rfl 8).trans (zv_wa w2 rfl 8))
      have ae : ∀ j, 0 ≤ j → zv_a h918 61 j = zv_a h 61 j := fun j hj => by rw [zv_wa w919 rfl j, zv_wa w2 rfl j]
      have y932 := zv_ri ih918 (k := 25) rfl
      exact zr_ir (x := zv_i h918 26) (pc := 446) rfl rfl rfl ⟨ih918, ((w2.wd rfl : zb_W [(44, 25), (44, 26), (61, 0)] h _).tr (w919.wd rfl)), _, rfl, by dsimp only; exact ⟨by omega, by omega, by omega, by omega, fun h0 => ⟨by omega, fun j hj => ⟨fun ho => absurd ho (by omega), fun ho => absurd ho (by omega), fun ho => absurd ho (by omega), fun ho hk => by have b1 := nj1 j; have d1 := an0 j hj; omega, fun ho => absurd ho (by omega)⟩, fun ho j hj j2 j3 => by have d4 := ae j hj; omega, fun ho => absurd ho (by omega)⟩⟩⟩
  · refine zr_sw (i := .tableswitch 424 1 28 #[126, 134, 142, 150, 158, 167, 176, 190, 198, 206, 214, 222, 222, 240, 258, 271, 284, 303, 322, 336, 350, 363, 424, 424, 372, 380, 372, 388]) (len := 126) (t := 442) (x := zv_a h 45 p) (k := 23) (pc := 18) rfl c6 rfl rfl rfl rfl ?_
    refine zx_T.l (i := .aload_n 0) (k := 1) (v := .ref 44) (pc := 442) rfl rfl rfl ?_
    refine zr_gi (k := 26) (lo := 0) (hi := 7) (e := 0) (pc := 443) rfl rfl rfl ih1 e3 (fun g933a g933b => ?_)
    have y934 : zv_i h1 25 = zv_i h 25 := (zv_wi w2 rfl)
    have y935 : zv_i h1 26 = 0 := e3
    have y936 : zv_a h1 61 8 = zv_a h 61 8 := (zv_wa w2 rfl 8)
    have ae : ∀ j, 0 ≤ j → zv_a h1 61 j = zv_a h 61 j := fun j hj => by rw [zv_wa w2 rfl j]
    have y938 := zv_ri ih1 (k := 25) rfl
    exact zr_ir (x := 0) (pc := 446) rfl rfl rfl ⟨ih1, (w2.wd rfl : zb_W [(44, 25), (44, 26), (61, 0)] h _), _, rfl, by dsimp only; exact ⟨by omega, by omega, by omega, by omega, fun h0 => ⟨by omega, fun j hj => ⟨fun ho => absurd ho (by omega), fun ho => absurd ho (by omega), fun ho => absurd ho (by omega), fun ho => absurd ho (by omega), fun ho => absurd ho (by omega)⟩, fun ho j hj j2 j3 => by have d4 := ae j hj; omega, fun ho => absurd ho (by omega)⟩⟩⟩
  · refine zr_sw (i := .tableswitch 424 1 28 #[126, 134, 142, 150, 158, 167, 176, 190, 198, 206, 214, 222, 222, 240, 258, 271, 284, 303, 322, 336, 350, 363, 424, 424, 372, 380, 372, 388]) (len := 126) (t := 442) (x := zv_a h 45 p) (k := 24) (pc := 18) rfl c6 rfl rfl rfl rfl ?_
    refine zx_T.l (i := .aload_n 0) (k := 1) (v := .ref 44) (pc := 442) rfl rfl rfl ?_
    refine zr_gi (k := 26) (lo := 0) (hi := 7) (e := 0) (pc := 443) rfl rfl rfl ih1 e3 (fun g939a g939b => ?_)
    have y940 : zv_i h1 25 = zv_i h 25 := (zv_wi w2 rfl)
    have y941 : zv_i h1 26 = 0 := e3
    have y942 : zv_a h1 61 8 = zv_a h 61 8 := (zv_wa w2 rfl 8)
    have ae : ∀ j, 0 ≤ j → zv_a h1 61 j = zv_a h 61 j := fun j hj => by rw [zv_wa w2 rfl j]
    have y944 := zv_ri ih1 (k := 25) rfl
    exact zr_ir (x := 0) (pc := 446) rfl rfl rfl ⟨ih1, (w2.wd rfl : zb_W [(44, 25), (44, 26), (61, 0)] h _), _, rfl, by dsimp only; exact ⟨by omega, by omega, by omega, by omega, fun h0 => ⟨by omega, fun j hj => ⟨fun ho => absurd ho (by omega), fun ho => absurd ho (by omega), fun ho => absurd ho (by omega), fun ho => absurd ho (by omega), fun ho => absurd ho (by omega)⟩, fun ho j hj j2 j3 => by have d4 := ae j hj; omega, fun ho => absurd ho (by omega)⟩⟩⟩
  · refine zr_sw (i := .tableswitch 424 1 28 #[126, 134, 142, 150, 158, 167, 176, 190, 198, 206, 214, 222, 222, 240, 258, 271, 284, 303, 322, 336, 350, 363, 424, 424, 372, 380, 372, 388]) (len := 126) (t := 390) (x := zv_a h 45 p) (k := 25) (pc := 18) rfl c6 rfl rfl rfl rfl ?_
    refine zx_T.l (i := .aload_n 0) (k := 1) (v := .ref 44) (pc := 390) rfl rfl rfl ?_
    refine zx_T.s (i := .iconst 1) (k := 1) (st' := [.int (zI (1)), .ref 44]) (pc := 391) rfl rfl ?_
    have y945 : zv_a h1 61 8 = zv_a h 61 8 := (zv_wa w2 rfl 8)
    have y946 : zv_i h1 25 = zv_i h 25 := (zv_wi w2 rfl)
    have y947 : zv_i h1 26 = 0 := e3
    have an0 : ∀ j, 0 ≤ j → zv_a h1 61 j = zv_a h 61 j := fun j hj => by rw [zv_wa w2 rfl j]
    refine zr_iv (cj := 162) (q' := zp_m162) (As := [.int (zI (1))]) (rest := []) (pc := 392) rfl rfl rfl rfl rfl rfl (Nat.le_of_ble_eq_true rfl) rfl (Nat.le_of_ble_eq_true rfl) ih1 ((zm_need (h := h1) ih1 (w := 1) (by omega) (by omega) (by omega)).up (Nat.le_of_ble_eq_true rfl)) ?_
    rintro r949 h952 ⟨ih952, w953, r949q, x951⟩
    subst r949q
    try dsimp only at x951
    have nj1 := x951.2.2
    rcases zg_n1 x951 (by omega) with q954 | q954 | q954
    · exact False.elim (by omega)
    · clear x951
      show zx_T zp_P 3 zp_m167 395 [(2, .int (zI (zv_a h 46 p))), (0, .ref 44), (1, .int (zI (p)))] [] h952 _
      refine zx_T.j (i := .goto 47) (k := 3) (pc' := 442) (st' := []) (pc := 395) rfl rfl rfl rfl rfl ?_
      refine zx_T.l (i := .aload_n 0) (k := 1) (v := .ref 44) (pc := 442) rfl rfl rfl ?_
      refine zr_gi (k := 26) (lo := 0) (hi := 7) (e := zv_i h952 26) (pc := 443) rfl rfl rfl ih952 rfl (fun g955a g955b => ?_)
      have y958 : zv_a h952 61 8 = zv_a h 61 8 := ((zv_wa w953 rfl 8).trans (zv_wa w2 rfl 8))
      have ae : ∀ j, 0 ≤ j → zv_a h952 61 j = zv_a h 61 j := fun j hj => by rw [zv_wa w953 rfl j, zv_wa w2 rfl j]
      have y960 := zv_ri ih952 (k := 25) rfl
      exact zr_ir (x := zv_i h952 26) (pc := 446) rfl rfl rfl ⟨ih952, ((w2.wd rfl : zb_W [(44, 25), (44, 26), (61, 0)] h _).tr (w953.wd rfl)), _, rfl, by dsimp only; exact ⟨by omega, by omega, by omega, by omega, fun h0 => absurd h0 (by omega)⟩⟩
    · clear x951
      show zx_T zp_P 3 zp_m167 395 [(2, .int (zI (zv_a h 46 p))), (0, .ref 44), (1, .int (zI (p)))] [] h952 _
      refine zx_T.j (i := .goto 47) (k := 3) (pc' := 442) (st' := []) (pc := 395) rfl rfl rfl rfl rfl ?_
      refine zx_T.l (i := .aload_n 0) (k := 1) (v := .ref 44) (pc := 442) rfl rfl rfl ?_
      refine zr_gi (k := 26) (lo := 0) (hi := 7) (e := zv_i h952 26) (pc := 443) rfl rfl rfl ih952 rfl (fun g961a g961b => ?_)
      have y964 : zv_a h952 61 8 = zv_a h 61 8 := ((zv_wa w953 rfl 8).trans (zv_wa w2 rfl 8))
      have ae : ∀ j, 0 ≤ j → zv_a h952 61 j = zv_a h 61 j := fun j hj => by rw [zv_wa w953 rfl j, zv_wa w2 rfl j]
      have y966 := zv_ri ih952 (k := 25) rfl
      exact zr_ir (x := zv_i h952 26) (pc := 446) rfl rfl rfl ⟨ih952, ((w2.wd rfl : zb_W [(44, 25), (44, 26), (61, 0)] h _).tr (w953.wd rfl)), _, rfl, by dsimp only; exact ⟨by omega, by omega, by omega, by omega, fun h0 => ⟨by omega, fun j hj => ⟨fun ho => absurd ho (by omega), fun ho => absurd ho (by omega), fun ho => absurd ho (by omega), fun ho => absurd ho (by omega), fun ho => absurd ho (by omega)⟩, fun ho j hj j2 j3 => by have d4 := ae j hj; omega, fun ho => absurd ho (by omega)⟩⟩⟩
  · refine zr_sw (i := .tableswitch 424 1 28 #[126, 134, 142, 150, 158, 167, 176, 190, 198, 206, 214, 222, 222, 240, 258, 271, 284, 303, 322, 336, 350, 363, 424, 424, 372, 380, 372, 388]) (len := 126) (t := 398) (x := zv_a h 45 p) (k := 26) (pc := 18) rfl c6 rfl rfl rfl rfl ?_
    refine zx_T.l (i := .aload_n 0) (k := 1) (v := .ref 44) (pc := 398) rfl rfl rfl ?_
    refine zx_T.s (i := .iconst 5) (k := 1) (st' := [.int (zI (5)), .ref 44]) (pc := 399) rfl rfl ?_
    have y967 : zv_a h1 61 8 = zv_a h 61 8 := (zv_wa w2 rfl 8)
    have y968 : zv_i h1 25 = zv_i h 25 := (zv_wi w2 rfl)
    have y969 : zv_i h1 26 = 0 := e3
    have an0 : ∀ j, 0 ≤ j → zv_a h1 61 j = zv_a h 61 j := fun j hj => by rw [zv_wa w2 rfl j]
    refine zr_iv (cj := 162) (q' := zp_m162) (As := [.int (zI (5))]) (rest := []) (pc := 400) rfl rfl rfl rfl rfl rfl (Nat.le_of_ble_eq_true rfl) rfl (Nat.le_of_ble_eq_true rfl) ih1 ((zm_need (h := h1) ih1 (w := 5) (by omega) (by omega) (by omega)).up (Nat.le_of_ble_eq_true rfl)) ?_
    rintro r971 h974 ⟨ih974, w975, r971q, x973⟩
    subst r971q
    try dsimp only at x973
    have nj1 := x973.2.2
    rcases zg_n1 x973 (by omega) with q976 | q976 | q976
    · exact False.elim (by omega)
    · clear x973
      show zx_T zp_P 3 zp_m167 403 [(2, .int (zI (zv_a h 46 p))), (0, .ref 44), (1, .int (zI (p)))] [] h974 _
      refine zx_T.j (i := .goto 39) (k := 3) (pc' := 442) (st' := []) (pc := 403) rfl rfl rfl rfl rfl ?_
      refine zx_T.l (i := .aload_n 0) (k := 1) (v := .ref 44) (pc := 442) rfl rfl rfl ?_
      refine zr_gi (k := 26) (lo := 0) (hi := 7) (e := zv_i h974 26) (pc := 443) rfl rfl rfl ih974 rfl (fun g977a g977b => ?_)
      have y980 : zv_a h974 61 8 = zv_a h 61 8 := ((zv_wa w975 rfl 8).trans (zv_wa w2 rfl 8))
      have ae : ∀ j, 0 ≤ j → zv_a h974 61 j = zv_a h 61 j := fun j hj => by rw [zv_wa w975 rfl j, zv_wa w2 rfl j]
      have y982 := zv_ri ih974 (k := 25) rfl
      exact zr_ir (x := zv_i h974 26) (pc := 446) rfl rfl rfl ⟨ih974, ((w2.wd rfl : zb_W [(44, 25), (44, 26), (61, 0)] h _).tr (w975.wd rfl)), _, rfl, by dsimp only; exact ⟨by omega, by omega, by omega, by omega, fun h0 => absurd h0 (by omega)⟩⟩
    · clear x973
      show zx_T zp_P 3 zp_m167 403 [(2, .int (zI (zv_a h 46 p))), (0, .ref 44), (1, .int (zI (p)))] [] h974 _
      refine zx_T.j (i := .goto 39) (k := 3) (pc' := 442) (st' := []) (pc := 403) rfl rfl rfl rfl rfl ?_
      refine zx_T.l (i := .aload_n 0) (k := 1) (v := .ref 44) (pc := 442) rfl rfl rfl ?_
      refine zr_gi (k := 26) (lo := 0) (hi := 7) (e := zv_i h974 26) (pc := 443) rfl rfl rfl ih974 rfl (fun g983a g983b => ?_)
      have y986 : zv_a h974 61 8 = zv_a h 61 8 := ((zv_wa w975 rfl 8).trans (zv_wa w2 rfl 8))
      have ae : ∀ j, 0 ≤ j → zv_a h974 61 j = zv_a h 61 j := fun j hj => by rw [zv_wa w975 rfl j, zv_wa w2 rfl j]
      have y988 := zv_ri ih974 (k := 25) rfl
      exact zr_ir (x := zv_i h974 26) (pc := 446) rfl rfl rfl ⟨ih974, ((w2.wd rfl : zb_W [(44, 25), (44, 26), (61, 0)] h _).tr (w975.wd rfl)), _, rfl, by dsimp only; exact ⟨by omega, by omega, by omega, by omega, fun h0 => ⟨by omega, fun j hj => ⟨fun ho => absurd ho (by omega), fun ho => absurd ho (by omega), fun ho => absurd ho (by omega), fun ho => absurd ho (by omega), fun ho => absurd ho (by omega)⟩, fun ho j hj j2 j3 => by have d4 := ae j hj; omega, fun ho => absurd ho (by omega)⟩⟩⟩
  · refine zr_sw (i := .tableswitch 424 1 28 #[126, 134, 142, 150, 158, 167, 176, 190, 198, 206, 214, 222, 222, 240, 258, 271, 284, 303, 322, 336, 350, 363, 424, 424, 372, 380, 372, 388]) (len := 126) (t := 390) (x := zv_a h 45 p) (k := 27) (pc := 18) rfl c6 rfl rfl rfl rfl ?_
    refine zx_T.l (i := .aload_n 0) (k := 1) (v := .ref 44) (pc := 390) rfl rfl rfl ?_
    refine zx_T.s (i := .iconst 1) (k := 1) (st' := [.int (zI (1)), .ref 44]) (pc := 391) rfl rfl ?_
    have y989 : zv_a h1 61 8 = zv_a h 61 8 := (zv_wa w2 rfl 8)
    have y990 : zv_i h1 25 = zv_i h 25 := (zv_wi w2 rfl)
    have y991 : zv_i h1 26 = 0 := e3
    have an0 : ∀ j, 0 ≤ j → zv_a h1 61 j = zv_a h 61 j := fun j hj => by rw [zv_wa w2 rfl j]
    refine zr_iv (cj := 162) (q' := zp_m162) (As := [.int (zI (1))]) (rest := []) (pc := 392) rfl rfl rfl rfl rfl rfl (Nat.le_of_ble_eq_true rfl) rfl (Nat.le_of_ble_eq_true rfl) ih1 ((zm_need (h := h1) ih1 (w := 1) (by omega) (by omega) (by omega)).up (Nat.le_of_ble_eq_true rfl)) ?_
    rintro r993 h996 ⟨ih996, w997, r993q, x995⟩
    subst r993q
    try dsimp only at x995
    have nj1 := x995.2.2
    rcases zg_n1 x995 (by omega) with q998 | q998 | q998
    · exact False.elim (by omega)
    · clear x995
      show zx_T zp_P 3 zp_m167 395 [(2, .int (zI (zv_a h 46 p))), (0, .ref 44), (1, .int (zI (p)))] [] h996 _
      refine zx_T.j (i := .goto 47) (k := 3) (pc' := 442) (st' := []) (pc := 395) rfl rfl rfl rfl rfl ?_
      refine zx_T.l (i := .aload_n 0) (k := 1) (v := .ref 44) (pc := 442) rfl rfl rfl ?_
      refine zr_gi (k := 26) (lo := 0) (hi := 7) (e := zv_i h996 26) (pc := 443) rfl rfl rfl ih996 rfl (fun g999a g999b => ?_)
      have y1002 : zv_a h996 61 8 = zv_a h 61 8 := ((zv_wa w997 rfl 8).trans (zv_wa w2 rfl 8))
      have ae : ∀ j, 0 ≤ j → zv_a h996 61 j = zv_a h 61 j := fun j hj => by rw [zv_wa w997 rfl j, zv_wa w2 rfl j]
      have y1004 := zv_ri ih996 (k := 25) rfl
      exact zr_ir (x := zv_i h996 26) (pc := 446) rfl rfl rfl ⟨ih996, ((w2.wd rfl : zb_W [(44, 25), (44, 26), (61, 0)] h _).tr (w997.wd rfl)), _, rfl, by dsimp only; exact ⟨by omega, by omega, by omega, by omega, fun h0 => absurd h0 (by omega)⟩⟩
    · clear x995
      show zx_T zp_P 3 zp_m167 395 [(2, .int (zI (zv_a h 46 p))), (0, .ref 44), (1, .int (zI (p)))] [] h996 _
      refine zx_T.j (i := .goto 47) (k := 3) (pc' := 442) (st' := []) (pc := 395) rfl rfl rfl rfl rfl ?_
      refine zx_T.l (i := .aload_n 0) (k := 1) (v := .ref 44) (pc := 442) rfl rfl rfl ?_
      refine zr_gi (k := 26) (lo := 0) (hi := 7) (e := zv_i h996 26) (pc := 443) rfl rfl rfl ih996 rfl (fun g1005a g1005b => ?_)
      have y1008 : zv_a h996 61 8 = zv_a h 61 8 := ((zv_wa w997 rfl 8).trans (zv_wa w2 rfl 8))
      have ae : ∀ j, 0 ≤ j → zv_a h996 61 j = zv_a h 61 j := fun j hj => by rw [zv_wa w997 rfl j, zv_wa w2 rfl j]
      have y1010 := zv_ri ih996 (k := 25) rfl
      exact zr_ir (x := zv_i h996 26) (pc := 446) rfl rfl rfl ⟨ih996, ((w2.wd rfl : zb_W [(44, 25), (44, 26), (61, 0)] h _).tr (w997.wd rfl)), _, rfl, by dsimp only; exact ⟨by omega, by omega, by omega, by omega, fun h0 => ⟨by omega, fun j hj => ⟨fun ho => absurd ho (by omega), fun ho => absurd ho (by omega), fun ho => absurd ho (by omega), fun ho => absurd ho (by omega), fun ho => absurd ho (by omega)⟩, fun ho j hj j2 j3 => by have d4 := ae j hj; omega, fun ho => absurd ho (by omega)⟩⟩⟩
  · refine zr_sw (i := .tableswitch 424 1 28 #[126, 134, 142, 150, 158, 167, 176, 190, 198, 206, 214, 222, 222, 240, 258, 271, 284, 303, 322, 336, 350, 363, 424, 424, 372, 380, 372, 388]) (len := 126) (t := 406) (x := zv_a h 45 p) (k := 28) (pc := 18) rfl c6 rfl rfl rfl rfl ?_
    refine zx_T.l (i := .iload_n 2) (k := 1) (v := .int (zI (zv_a h 46 p))) (pc := 406) rfl rfl rfl ?_
    refine zx_T.s (i := .iconst 0) (k := 1) (st' := [.int (zI (0)), .int (zI (zv_a h 46 p))]) (pc := 407) rfl rfl ?_
    refine zx_T.s (i := .bipush 7) (k := 2) (st' := [.int (zI (7)), .int (zI (0)), .int (zI (zv_a h 46 p))]) (pc := 408) rfl rfl ?_
    refine zr_is (cj := 155) (q' := zp_m155) (As := [.int (zI (zv_a h 46 p)), .int (zI (0)), .int (zI (7))]) (rest := []) (pc := 410) rfl rfl rfl rfl rfl rfl (Nat.le_of_ble_eq_true rfl) rfl (Nat.le_of_ble_eq_true rfl) rfl ((zm_in (h := h1) ih1 (v := zv_a h 46 p) (l := 0) (u := 7) (by omega) (by omega) (by omega) (by omega) (by omega) (by omega)).up (Nat.le_of_ble_eq_true rfl)) ?_
    rintro r1011 h1014 ⟨h1014q, v1012, r1011q, x1013⟩
    subst h1014q r1011q
    try dsimp only at x1013
    show zx_T zp_P 3 zp_m167 413 [(2, .int (zI (zv_a h 46 p))), (0, .ref 44), (1, .int (zI (p)))] [.int (zI (v1012))] h1 _
    refine zr_i1 (x := v1012) (t := 424) (pc := 413) rfl rfl (by omega) (by omega) (fun (c1015 : ¬ v1012 = 0) => ?_) (fun (c1015 : ¬ (¬ v1012 = 0)) => ?_)
    · refine zx_T.l (i := .aload_n 0) (k := 1) (v := .ref 44) (pc := 424) rfl rfl rfl ?_
      refine zr_gr (k := 24) (b := 61) (pc := 425) rfl rfl rfl ih1 ?_
      refine zx_T.l (i := .iload_n 2) (k := 1) (v := .int (zI (zv_a h 46 p))) (pc := 428) rfl rfl rfl ?_
      refine zr_al (n := 14) (lo := 0) (hi := 8) (e := zv_a h 61 (zv_a h 46 p)) (pc := 429) rfl rfl rfl ih1 (by omega) (by omega) (zv_wa w2 rfl (zv_a h 46 p)) (fun g1016a g1016b => ?_)
      refine zx_T.s (i := .iconst 1) (k := 1) (st' := [.int (zI (1)), .int (zI (zv_a h 61 (zv_a h 46 p)))]) (pc := 430) rfl rfl ?_
      refine zr_i2 (x := zv_a h 61 (zv_a h 46 p)) (y := 1) (t := 442) (pc := 431) rfl rfl (by omega) (by omega) (by omega) (by omega) (fun (c1017 : (zv_a h 61 (zv_a h 46 p)) = 1) => ?_) (fun (c1017 : ¬ ((zv_a h 61 (zv_a h 46 p)) = 1)) => ?_)
      · refine zx_T.l (i := .aload_n 0) (k := 1) (v := .ref 44) (pc := 442) rfl rfl rfl ?_
        refine zr_gi (k := 26) (lo := 0) (hi := 7) (e := 0) (pc := 443) rfl rfl rfl ih1 e3 (fun g1018a g1018b => ?_)
        have y1019 : zv_i h1 25 = zv_i h 25 := (zv_wi w2 rfl)
        have y1020 : zv_i h1 26 = 0 := e3
        have y1021 : zv_a h1 61 8 = zv_a h 61 8 := (zv_wa w2 rfl 8)
        have ae : ∀ j, 0 ≤ j → zv_a h1 61 j = zv_a h 61 j := fun j hj => by rw [zv_wa w2 rfl j]
        have y1023 := zv_ri ih1 (k := 25) rfl
        exact zr_ir (x := 0) (pc := 446) rfl rfl rfl ⟨ih1, (w2.wd rfl : zb_W [(44, 25), (44, 26), (61, 0)] h _), _, rfl, by dsimp only; exact ⟨by omega, by omega, by omega, by omega, fun h0 => ⟨by omega, fun j hj => ⟨fun ho => absurd ho (by omega), fun ho => absurd ho (by omega), fun ho => absurd ho (by omega), fun ho => absurd ho (by omega), fun ho => absurd ho (by omega)⟩, fun ho j hj j2 j3 => by have d4 := ae j hj; have d7 : ¬ j = zv_a h 46 p := (fun z => by rw [z] at d4 j3; omega); omega, fun ho => absurd ho (by omega)⟩⟩⟩
      · refine zx_T.l (i := .aload_n 0) (k := 1) (v := .ref 44) (pc := 434) rfl rfl rfl ?_
        refine zx_T.s (i := .iconst 1) (k := 1) (st' := [.int (zI (1)), .ref 44]) (pc := 435) rfl rfl ?_
        refine zr_iv (cj := 159) (q' := zp_m159) (As := [.int (zI (1))]) (rest := []) (pc := 436) rfl rfl rfl rfl rfl rfl (Nat.le_of_ble_eq_true rfl) rfl (Nat.le_of_ble_eq_true rfl) ih1 ((zm_fails (h := h1) ih1 (w := 1) (by omega) (by omega)).up (Nat.le_of_ble_eq_true rfl)) ?_
        rintro r1024 h1027 ⟨ih1027, w1028, r1024q, x1026⟩
        subst r1024q
        try dsimp only at x1026
        show zx_T zp_P 3 zp_m167 439 [(2, .int (zI (zv_a h 46 p))), (0, .ref 44), (1, .int (zI (p)))] [] h1027 _
        refine zx_T.j (i := .goto 3) (k := 3) (pc' := 442) (st' := []) (pc := 439) rfl rfl rfl rfl rfl ?_
        refine zx_T.l (i := .aload_n 0) (k := 1) (v := .ref 44) (pc := 442) rfl rfl rfl ?_
        refine zr_gi (k := 26) (lo := 0) (hi := 7) (e := zv_i h1027 26) (pc := 443) rfl rfl rfl ih1027 rfl (fun g1029a g1029b => ?_)
        have y1030 : zv_i h1027 25 = zv_i h 25 := ((zv_wi w1028 rfl).trans (zv_wi w2 rfl))
        have y1032 : zv_a h1027 61 8 = zv_a h 61 8 := ((zv_wa w1028 rfl 8).trans (zv_wa w2 rfl 8))
        have ae : ∀ j, 0 ≤ j → zv_a h1027 61 j = zv_a h 61 j := fun j hj => by rw [zv_wa w1028 rfl j, zv_wa w2 rfl j]
        have y1034 := zv_ri ih1027 (k := 25) rfl
        exact zr_ir (x := zv_i h1027 26) (pc := 446) rfl rfl rfl ⟨ih1027, ((w2.wd rfl : zb_W [(44, 25), (44, 26), (61, 0)] h _).tr (w1028.wd rfl)), _, rfl, by dsimp only; exact ⟨by omega, by omega, by omega, by omega, fun h0 => ⟨by omega, fun j hj => ⟨fun ho => absurd ho (by omega), fun ho => absurd ho (by omega), fun ho => absurd ho (by omega), fun ho => absurd ho (by omega), fun ho => absurd ho (by omega)⟩, fun ho j hj j2 j3 => by have d4 := ae j hj; have d7 : ¬ j = zv_a h 46 p := (fun z => by rw [z] at d4 j3; omega); omega, fun ho => absurd ho (by omega)⟩⟩⟩
    · refine zx_T.l (i := .aload_n 0) (k := 1) (v := .ref 44) (pc := 416) rfl rfl rfl ?_
      refine zx_T.s (i := .iconst 4) (k := 1) (st' := [.int (zI (4)), .ref 44]) (pc := 417) rfl rfl ?_
      refine zr_iv (cj := 159) (q' := zp_m159) (As := [.int (zI (4))]) (rest := []) (pc := 418) rfl rfl rfl rfl rfl rfl (Nat.le_of_ble_eq_true rfl) rfl (Nat.le_of_ble_eq_true rfl) ih1 ((zm_fails (h := h1) ih1 (w := 4) (by omega) (by omega)).up (Nat.le_of_ble_eq_true rfl)) ?_
      rintro r1035 h1038 ⟨ih1038, w1039, r1035q, x1037⟩
      subst r1035q
      try dsimp only at x1037
      show zx_T zp_P 3 zp_m167 421 [(2, .int (zI (zv_a h 46 p))), (0, .ref 44), (1, .int (zI (p)))] [] h1038 _
      refine zx_T.j (i := .goto 21) (k := 3) (pc' := 442) (st' := []) (pc := 421) rfl rfl rfl rfl rfl ?_
      refine zx_T.l (i := .aload_n 0) (k := 1) (v := .ref 44) (pc := 442) rfl rfl rfl ?_
      refine zr_gi (k := 26) (lo := 0) (hi := 7) (e := zv_i h1038 26) (pc := 443) rfl rfl rfl ih1038 rfl (fun g1040a g1040b => ?_)
      have y1041 : zv_i h1038 25 = zv_i h 25 := ((zv_wi w1039 rfl).trans (zv_wi w2 rfl))
      have y1043 : zv_a h1038 61 8 = zv_a h 61 8 := ((zv_wa w1039 rfl 8).trans (zv_wa w2 rfl 8))
      have ae : ∀ j, 0 ≤ j → zv_a h1038 61 j = zv_a h 61 j := fun j hj => by rw [zv_wa w1039 rfl j, zv_wa w2 rfl j]
      have y1045 := zv_ri ih1038 (k := 25) rfl
      exact zr_ir (x := zv_i h1038 26) (pc := 446) rfl rfl rfl ⟨ih1038, ((w2.wd rfl : zb_W [(44, 25), (44, 26), (61, 0)] h _).tr (w1039.wd rfl)), _, rfl, by dsimp only; exact ⟨by omega, by omega, by omega, by omega, fun h0 => ⟨by omega, fun j hj => ⟨fun ho => absurd ho (by omega), fun ho => absurd ho (by omega), fun ho => absurd ho (by omega), fun ho => absurd ho (by omega), fun ho => absurd ho (by omega)⟩, fun ho j hj j2 j3 => by have d4 := ae j hj; have d7 : ¬ j = zv_a h 46 p := (fun z => by rw [z] at d4 j3; omega); omega, fun ho => absurd ho (by omega)⟩⟩⟩
