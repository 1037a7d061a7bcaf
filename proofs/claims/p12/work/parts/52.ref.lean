/-! ===== 52: the reference, method by method (by program) ===== -/
/-- what an INSTRUCTION that does not fail leaves of the kinds -/
def zg_does (o a : Int) (h h' : zx_H) : Prop :=
  ((1 ≤ o → o ≤ 6 → zv_i h 25 ≤ 5) ∧ (o = 7 → 1 ≤ zv_i h 25) ∧ (o = 8 → zv_i h 25 ≤ 5 ∧ 0 ≤ a ∧ a ≤ 7) ∧ (o = 9 → 1 ≤ zv_i h 25 ∧ 0 ≤ a ∧ a ≤ 7) ∧ (o = 17 → 2 ≤ zv_i h 25) ∧ (o = 18 → 3 ≤ zv_i h 25) ∧ (19 ≤ o → o ≤ 22 → 1 ≤ zv_i h 25) ∧ (25 ≤ o → o ≤ 27 → 1 ≤ zv_i h 25) ∧ (o = 28 → 0 ≤ a ∧ a ≤ 7)) ∧
  (∀ j, 0 ≤ j → (o = 17 → j = zv_i h 25 + 6 → zv_a h 61 j = 6 ∨ zv_a h 61 j = 4) ∧ (o = 18 → j = zv_i h 25 + 5 → zv_a h 61 j = 6 ∨ zv_a h 61 j = 4) ∧ (o = 19 → j = zv_i h 25 + 7 → zv_a h 61 j = 6 ∨ zv_a h 61 j = 4) ∧ (o = 20 ∨ o = 22 → j = zv_i h 25 + 7 → zv_a h 61 j = 7 ∨ zv_a h 61 j = 8 ∨ zv_a h 61 j = 4) ∧ (o = 21 → j = zv_i h 25 + 7 → 4 ≤ zv_a h 61 j)) ∧
  (¬ o = 9 → ∀ j, 0 ≤ j → j < zv_i h' 25 + 8 → 5 ≤ zv_a h' 61 j → (zv_a h' 61 j = zv_a h 61 j ∧ j < zv_i h 25 + 8 ∧ (o = 12 ∨ o = 13 ∨ o = 15 ∨ o = 17 → ¬ j = zv_i h 25 + 6) ∧ (o = 14 → ¬ j = zv_i h 25 + 4) ∧ (o = 7 ∨ o = 19 ∨ o = 20 → ¬ j = zv_i h 25 + 7) ∧ (o = 28 → ¬ j = a)) ∨ ((o = 4 ∨ o = 5 ∨ o = 6) ∧ j = zv_i h 25 + 8 ∧ ¬ zv_a h' 61 j = 6) ∨ (o = 7 ∧ j = zv_i h 25 + 7 ∧ zv_a h' 61 j = 6) ∨ (o = 8 ∧ j = zv_i h 25 + 8 ∧ zv_a h' 61 j = zv_a h 61 a) ∨ (o = 21 ∧ j = zv_i h 25 + 7)) ∧
  (o = 9 → ∀ i, i = zv_i h 25 + 7 → ∀ j, 0 ≤ j → j < zv_i h' 25 + 8 → 5 ≤ zv_a h' 61 j → (¬ j = a ∧ zv_a h' 61 j = zv_a h 61 j ∧ j < zv_i h 25 + 8) ∨ (j = a ∧ zv_a h' 61 j = zv_a h 61 i))

set_option maxRecDepth 100000 in
set_option maxHeartbeats 20000000 in
theorem zm_does_c0 {h : zx_H} (hI : zb_I zc_H h) {p : Int} (p1 : 0 ≤ p) (p2 : p ≤ 59) (n8 : ¬ zv_a h 61 8 = 3) (ic : zv_a h 45 p = 21 → 5 ≤ zv_a h 46 p ∧ zv_a h 46 p ≤ 8) (ov : zv_a h 45 p = 0) : zx_T zp_P 3 zp_m167 0 [(0, .ref 44), (1, .int (zI (p)))] [] h (zr_R [(44, 25), (44, 26), (61, 0)] h (fun e h' => e = zv_i h' 26 ∧ 0 ≤ e ∧ e ≤ 7 ∧ ¬ zv_a h' 61 8 = 3 ∧ (e = 0 → zg_does (zv_a h 45 p) (zv_a h 46 p) h h'))) := by
  have hS := zv_ri hI (k := 25) rfl
  refine zx_T.l (i := .aload_n 0) (k := 1) (v := .ref 44) (pc := 0) rfl rfl rfl ?_
  refine zx_T.s (i := .iconst 0) (k := 1) (st' := [.int (zI (0)), .ref 44]) (pc := 1) rfl rfl ?_
  refine zr_pi (k := 26) (lo := 0) (hi := 7) (e := 0) (pc := 2) rfl rfl rfl rfl rfl rfl hI (by omega) (by omega) (fun h1 ih1 w2 e3 => ?_)
  refine zx_T.l (i := .aload_n 0) (k := 1) (v := .ref 44) (pc := 5) rfl rfl rfl ?_
  refine zr_gr (k := 3) (b := 46) (pc := 6) rfl rfl rfl ih1 ?_
  refine zx_T.l (i := .iload_n 1) (k := 1) (v := .int (zI (p))) (pc := 9) rfl rfl rfl ?_
  refine zr_al (n := 60) (lo := (-2147483648)) (hi := 2147483647) (e := zv_a h 46 p) (pc := 10) rfl rfl rfl ih1 (by omega) (by omega) (zv_wa w2 rfl p) (fun g4a g4b => ?_)
  refine zx_T.t (i := .istore_n 2) (k := 1) (ls' := [(2, .int (zI (zv_a h 46 p))), (0, .ref 44), (1, .int (zI (p)))]) (st' := []) (pc := 11) rfl rfl rfl rfl ?_
  refine zx_T.l (i := .aload_n 0) (k := 1) (v := .ref 44) (pc := 12) rfl rfl rfl ?_
  refine zr_gr (k := 2) (b := 45) (pc := 13) rfl rfl rfl ih1 ?_
  refine zx_T.l (i := .iload_n 1) (k := 1) (v := .int (zI (p))) (pc := 16) rfl rfl rfl ?_
  refine zr_al (n := 60) (lo := 0) (hi := 28) (e := zv_a h 45 p) (pc := 17) rfl rfl rfl ih1 (by omega) (by omega) (zv_wa w2 rfl p) (fun g5a g5b => ?_)
  have c6 : zv_a h 45 p = 0 := by omega
  rcases c6 with c6
  · refine zr_sw (i := .tableswitch 424 1 28 #[126, 134, 142, 150, 158, 167, 176, 190, 198, 206, 214, 222, 222, 240, 258, 271, 284, 303, 322, 336, 350, 363, 424, 424, 372, 380, 372, 388]) (len := 126) (t := 442) (x := zv_a h 45 p) (k := 0) (pc := 18) rfl c6 rfl rfl rfl rfl ?_
    refine zx_T.l (i := .aload_n 0) (k := 1) (v := .ref 44) (pc := 442) rfl rfl rfl ?_
    refine zr_gi (k := 26) (lo := 0) (hi := 7) (e := 0) (pc := 443) rfl rfl rfl ih1 e3 (fun g7a g7b => ?_)
    have y8 : zv_i h1 25 = zv_i h 25 := (zv_wi w2 rfl)
    have y9 : zv_i h1 26 = 0 := e3
    have y10 : zv_a h1 61 8 = zv_a h 61 8 := (zv_wa w2 rfl 8)
    have ae : ∀ j, 0 ≤ j → zv_a h1 61 j = zv_a h 61 j := fun j hj => by rw [zv_wa w2 rfl j]
    have y12 := zv_ri ih1 (k := 25) rfl
    exact zr_ir (x := 0) (pc := 446) rfl rfl rfl ⟨ih1, (w2.wd rfl : zb_W [(44, 25), (44, 26), (61, 0)] h _), _, rfl, by dsimp only; exact ⟨by omega, by omega, by omega, by omega, fun h0 => ⟨by omega, fun j hj => ⟨fun ho => absurd ho (by omega), fun ho => absurd ho (by omega), fun ho => absurd ho (by omega), fun ho => absurd ho (by omega), fun ho => absurd ho (by omega)⟩, fun ho j hj j2 j3 => by have d4 := ae j hj; omega, fun ho => absurd ho (by omega)⟩⟩⟩

set_option maxRecDepth 100000 in
set_option maxHeartbeats 20000000 in
theorem zm_does_c1 {h : zx_H} (hI : zb_I zc_H h) {p : Int} (p1 : 0 ≤ p) (p2 : p ≤ 59) (n8 : ¬ zv_a h 61 8 = 3) (ic : zv_a h 45 p = 21 → 5 ≤ zv_a h 46 p ∧ zv_a h 46 p ≤ 8) (ov : zv_a h 45 p = 1) : zx_T zp_P 3 zp_m167 0 [(0, .ref 44), (1, .int (zI (p)))] [] h (zr_R [(44, 25), (44, 26), (61, 0)] h (fun e h' => e = zv_i h' 26 ∧ 0 ≤ e ∧ e ≤ 7 ∧ ¬ zv_a h' 61 8 = 3 ∧ (e = 0 → zg_does (zv_a h 45 p) (zv_a h 46 p) h h'))) := by
  have hS := zv_ri hI (k := 25) rfl
  refine zx_T.l (i := .aload_n 0) (k := 1) (v := .ref 44) (pc := 0) rfl rfl rfl ?_
  refine zx_T.s (i := .iconst 0) (k := 1) (st' := [.int (zI (0)), .ref 44]) (pc := 1) rfl rfl ?_
  refine zr_pi (k := 26) (lo := 0) (hi := 7) (e := 0) (pc := 2) rfl rfl rfl rfl rfl rfl hI (by omega) (by omega) (fun h1 ih1 w2 e3 => ?_)
  refine zx_T.l (i := .aload_n 0) (k := 1) (v := .ref 44) (pc := 5) rfl rfl rfl ?_
  refine zr_gr (k := 3) (b := 46) (pc := 6) rfl rfl rfl ih1 ?_
  refine zx_T.l (i := .iload_n 1) (k := 1) (v := .int (zI (p))) (pc := 9) rfl rfl rfl ?_
  refine zr_al (n := 60) (lo := (-2147483648)) (hi := 2147483647) (e := zv_a h 46 p) (pc := 10) rfl rfl rfl ih1 (by omega) (by omega) (zv_wa w2 rfl p) (fun g4a g4b => ?_)
  refine zx_T.t (i := .istore_n 2) (k := 1) (ls' := [(2, .int (zI (zv_a h 46 p))), (0, .ref 44), (1, .int (zI (p)))]) (st' := []) (pc := 11) rfl rfl rfl rfl ?_
  refine zx_T.l (i := .aload_n 0) (k := 1) (v := .ref 44) (pc := 12) rfl rfl rfl ?_
  refine zr_gr (k := 2) (b := 45) (pc := 13) rfl rfl rfl ih1 ?_
  refine zx_T.l (i := .iload_n 1) (k := 1) (v := .int (zI (p))) (pc := 16) rfl rfl rfl ?_
  refine zr_al (n := 60) (lo := 0) (hi := 28) (e := zv_a h 45 p) (pc := 17) rfl rfl rfl ih1 (by omega) (by omega) (zv_wa w2 rfl p) (fun g5a g5b => ?_)
  have c6 : zv_a h 45 p = 1 := by omega
  rcases c6 with c6
  · refine zr_sw (i := .tableswitch 424 1 28 #[126, 134, 142, 150, 158, 167, 176, 190, 198, 206, 214, 222, 222, 240, 258, 271, 284, 303, 322, 336, 350, 363, 424, 424, 372, 380, 372, 388]) (len := 126) (t := 144) (x := zv_a h 45 p) (k := 1) (pc := 18) rfl c6 rfl rfl rfl rfl ?_
    refine zx_T.l (i := .aload_n 0) (k := 1) (v := .ref 44) (pc := 144) rfl rfl rfl ?_
    refine zx_T.s (i := .iconst 1) (k := 1) (st' := [.int (zI (1)), .ref 44]) (pc := 145) rfl rfl ?_
    have ap : ∀ j, 0 ≤ j → zv_a h1 61 j = zv_a h 61 j := fun j hj => by rw [zv_wa w2 rfl j]
    have y8 : zv_a h1 61 8 = zv_a h 61 8 := (zv_wa w2 rfl 8)
    have y9 : zv_i h1 25 = zv_i h 25 := (zv_wi w2 rfl)
    have y10 : zv_i h1 26 = 0 := e3
    refine zr_iv (cj := 163) (q' := zp_m163) (As := [.int (zI (1))]) (rest := []) (pc := 146) rfl rfl rfl rfl rfl rfl (Nat.le_of_ble_eq_true rfl) rfl (Nat.le_of_ble_eq_true rfl) ih1 ((zm_push (h := h1) ih1 (k := 1) (by omega) (by omega) (by omega)).up (Nat.le_of_ble_eq_true rfl)) ?_
    rintro r11 h14 ⟨ih14, w15, r11q, x13⟩
    subst r11q
    try dsimp only at x13
    have pj := x13.2.2.1
    have p8 := x13.2.2.2 (by omega)
    rcases zg_p1 x13 (by omega) with q16 | q16 | q16
    · exact False.elim (by omega)
    · clear x13
      show zx_T zp_P 3 zp_m167 149 [(2, .int (zI (zv_a h 46 p))), (0, .ref 44), (1, .int (zI (p)))] [] h14 _
      refine zx_T.j (i := .goto 293) (k := 3) (pc' := 442) (st' := []) (pc := 149) rfl rfl rfl rfl rfl ?_
      refine zx_T.l (i := .aload_n 0) (k := 1) (v := .ref 44) (pc := 442) rfl rfl rfl ?_
      refine zr_gi (k := 26) (lo := 0) (hi := 7) (e := zv_i h14 26) (pc := 443) rfl rfl rfl ih14 rfl (fun g17a g17b => ?_)
      have ae : ∀ j, 0 ≤ j → zv_a h14 61 j = zv_a h14 61 j := fun j hj => rfl
      have y22 := zv_ri ih14 (k := 25) rfl
      exact zr_ir (x := zv_i h14 26) (pc := 446) rfl rfl rfl ⟨ih14, ((w2.wd rfl : zb_W [(44, 25), (44, 26), (61, 0)] h _).tr (w15.wd rfl)), _, rfl, by dsimp only; exact ⟨by omega, by omega, by omega, by omega, fun h0 => absurd h0 (by omega)⟩⟩
    · clear x13
      show zx_T zp_P 3 zp_m167 149 [(2, .int (zI (zv_a h 46 p))), (0, .ref 44), (1, .int (zI (p)))] [] h14 _
      refine zx_T.j (i := .goto 293) (k := 3) (pc' := 442) (st' := []) (pc := 149) rfl rfl rfl rfl rfl ?_
      refine zx_T.l (i := .aload_n 0) (k := 1) (v := .ref 44) (pc := 442) rfl rfl rfl ?_
      refine zr_gi (k := 26) (lo := 0) (hi := 7) (e := zv_i h14 26) (pc := 443) rfl rfl rfl ih14 rfl (fun g23a g23b => ?_)
      have ae : ∀ j, 0 ≤ j → zv_a h14 61 j = zv_a h14 61 j := fun j hj => rfl
      have y28 := zv_ri ih14 (k := 25) rfl
      exact zr_ir (x := zv_i h14 26) (pc := 446) rfl rfl rfl ⟨ih14, ((w2.wd rfl : zb_W [(44, 25), (44, 26), (61, 0)] h _).tr (w15.wd rfl)), _, rfl, by dsimp only; exact ⟨by omega, by omega, by omega, by omega, fun h0 => ⟨by omega, fun j hj => ⟨fun ho => absurd ho (by omega), fun ho => absurd ho (by omega), fun ho => absurd ho (by omega), fun ho => absurd ho (by omega), fun ho => absurd ho (by omega)⟩, fun ho j hj j2 j3 => by have d5 := ap j hj; have b4 := pj j hj; have r1 : zv_i h1 26 = 0 := (by clear b4; omega); have b5 := b4.1 r1 h0; have b6 := b4.2.1 r1 h0; clear ic; exact if z : j = zv_i h1 25 + 8 then (by have b8 := b5 z; clear b4 b5 b6; exfalso; omega) else (by have b8 := b4.2.2 (fun y => by rcases y.2.2 with y | y; exact z y; exact absurd y.1 (by decide)); clear b4 b5 b6; exact Or.inl ⟨by omega, by omega, fun _ => by omega, fun _ => by omega, fun _ => by omega, fun _ => by omega⟩), fun ho => absurd ho (by omega)⟩⟩⟩

set_option maxRecDepth 100000 in
set_option maxHeartbeats 20000000 in
theorem zm_does_c2 {h : zx_H} (hI : zb_I zc_H h) {p : Int} (p1 : 0 ≤ p) (p2 : p ≤ 59) (n8 : ¬ zv_a h 61 8 = 3) (ic : zv_a h 45 p = 21 → 5 ≤ zv_a h 46 p ∧ zv_a h 46 p ≤ 8) (ov : zv_a h 45 p = 2) : zx_T zp_P 3 zp_m167 0 [(0, .ref 44), (1, .int (zI (p)))] [] h (zr_R [(44, 25), (44, 26), (61, 0)] h (fun e h' => e = zv_i h' 26 ∧ 0 ≤ e ∧ e ≤ 7 ∧ ¬ zv_a h' 61 8 = 3 ∧ (e = 0 → zg_does (zv_a h 45 p) (zv_a h 46 p) h h'))) := by
  have hS := zv_ri hI (k := 25) rfl
  refine zx_T.l (i := .aload_n 0) (k := 1) (v := .ref 44) (pc := 0) rfl rfl rfl ?_
  refine zx_T.s (i := .iconst 0) (k := 1) (st' := [.int (zI (0)), .ref 44]) (pc := 1) rfl rfl ?_
  refine zr_pi (k := 26) (lo := 0) (hi := 7) (e := 0) (pc := 2) rfl rfl rfl rfl rfl rfl hI (by omega) (by omega) (fun h1 ih1 w2 e3 => ?_)
  refine zx_T.l (i := .aload_n 0) (k := 1) (v := .ref 44) (pc := 5) rfl rfl rfl ?_
  refine zr_gr (k := 3) (b := 46) (pc := 6) rfl rfl rfl ih1 ?_
  refine zx_T.l (i := .iload_n 1) (k := 1) (v := .int (zI (p))) (pc := 9) rfl rfl rfl ?_
  refine zr_al (n := 60) (lo := (-2147483648)) (hi := 2147483647) (e := zv_a h 46 p) (pc := 10) rfl rfl rfl ih1 (by omega) (by omega) (zv_wa w2 rfl p) (fun g4a g4b => ?_)
  refine zx_T.t (i := .istore_n 2) (k := 1) (ls' := [(2, .int (zI (zv_a h 46 p))), (0, .ref 44), (1, .int (zI (p)))]) (st' := []) (pc := 11) rfl rfl rfl rfl ?_
  refine zx_T.l (i := .aload_n 0) (k := 1) (v := .ref 44) (pc := 12) rfl rfl rfl ?_
  refine zr_gr (k := 2) (b := 45) (pc := 13) rfl rfl rfl ih1 ?_
  refine zx_T.l (i := .iload_n 1) (k := 1) (v := .int (zI (p))) (pc := 16) rfl rfl rfl ?_
  refine zr_al (n := 60) (lo := 0) (hi := 28) (e := zv_a h 45 p) (pc := 17) rfl rfl rfl ih1 (by omega) (by omega) (zv_wa w2 rfl p) (fun g5a g5b => ?_)
  have c6 : zv_a h 45 p = 2 := by omega
  rcases c6 with c6
  · refine zr_sw (i := .tableswitch 424 1 28 #[126, 134, 142, 150, 158, 167, 176, 190, 198, 206, 214, 222, 222, 240, 258, 271, 284, 303, 322, 336, 350, 363, 424, 424, 372, 380, 372, 388]) (len := 126) (t := 152) (x := zv_a h 45 p) (k := 2) (pc := 18) rfl c6 rfl rfl rfl rfl ?_
    refine zx_T.l (i := .aload_n 0) (k := 1) (v := .ref 44) (pc := 152) rfl rfl rfl ?_
    refine zx_T.s (i := .iconst 2) (k := 1) (st' := [.int (zI (2)), .ref 44]) (pc := 153) rfl rfl ?_
    have ap : ∀ j, 0 ≤ j → zv_a h1 61 j = zv_a h 61 j := fun j hj => by rw [zv_wa w2 rfl j]
    have y8 : zv_a h1 61 8 = zv_a h 61 8 := (zv_wa w2 rfl 8)
    have y9 : zv_i h1 25 = zv_i h 25 := (zv_wi w2 rfl)
    have y10 : zv_i h1 26 = 0 := e3
    refine zr_iv (cj := 163) (q' := zp_m163) (As := [.int (zI (2))]) (rest := []) (pc := 154) rfl rfl rfl rfl rfl rfl (Nat.le_of_ble_eq_true rfl) rfl (Nat.le_of_ble_eq_true rfl) ih1 ((zm_push (h := h1) ih1 (k := 2) (by omega) (by omega) (by omega)).up (Nat.le_of_ble_eq_true rfl)) ?_
    rintro r11 h14 ⟨ih14, w15, r11q, x13⟩
    subst r11q
    try dsimp only at x13
    have pj := x13.2.2.1
    have p8 := x13.2.2.2 (by omega)
    rcases zg_p2 x13 (by omega) with q16 | q16 | q16
    · exact False.elim (by omega)
    · clear x13
      show zx_T zp_P 3 zp_m167 157 [(2, .int (zI (zv_a h 46 p))), (0, .ref 44), (1, .int (zI (p)))] [] h14 _
      refine zx_T.j (i := .goto 285) (k := 3) (pc' := 442) (st' := []) (pc := 157) rfl rfl rfl rfl rfl ?_
      refine zx_T.l (i := .aload_n 0) (k := 1) (v := .ref 44) (pc := 442) rfl rfl rfl ?_
      refine zr_gi (k := 26) (lo := 0) (hi := 7) (e := zv_i h14 26) (pc := 443) rfl rfl rfl ih14 rfl (fun g17a g17b => ?_)
      have ae : ∀ j, 0 ≤ j → zv_a h14 61 j = zv_a h14 61 j := fun j hj => rfl
      have y22 := zv_ri ih14 (k := 25) rfl
      exact zr_ir (x := zv_i h14 26) (pc := 446) rfl rfl rfl ⟨ih14, ((w2.wd rfl : zb_W [(44, 25), (44, 26), (61, 0)] h _).tr (w15.wd rfl)), _, rfl, by dsimp only; exact ⟨by omega, by omega, by omega, by omega, fun h0 => absurd h0 (by omega)⟩⟩
    · clear x13
      show zx_T zp_P 3 zp_m167 157 [(2, .int (zI (zv_a h 46 p))), (0, .ref 44), (1, .int (zI (p)))] [] h14 _
      refine zx_T.j (i := .goto 285) (k := 3) (pc' := 442) (st' := []) (pc := 157) rfl rfl rfl rfl rfl ?_
      refine zx_T.l (i := .aload_n 0) (k := 1) (v := .ref 44) (pc := 442) rfl rfl rfl ?_
      refine zr_gi (k := 26) (lo := 0) (hi := 7) (e := zv_i h14 26) (pc := 443) rfl rfl rfl ih14 rfl (fun g23a g23b => ?_)
      have ae : ∀ j, 0 ≤ j → zv_a h14 61 j = zv_a h14 61 j := fun j hj => rfl
      have y28 := zv_ri ih14 (k := 25) rfl
      exact zr_ir (x := zv_i h14 26) (pc := 446) rfl rfl rfl ⟨ih14, ((w2.wd rfl : zb_W [(44, 25), (44, 26), (61, 0)] h _).tr (w15.wd rfl)), _, rfl, by dsimp only; exact ⟨by omega, by omega, by omega, by omega, fun h0 => ⟨by omega, fun j hj => ⟨fun ho => absurd ho (by omega), fun ho => absurd ho (by omega), fun ho => absurd ho (by omega), fun ho => absurd ho (by omega), fun ho => absurd ho (by omega)⟩, fun ho j hj j2 j3 => by have d5 := ap j hj; have b4 := pj j hj; have r1 : zv_i h1 26 = 0 := (by clear b4; omega); have b5 := b4.1 r1 h0; have b6 := b4.2.1 r1 h0; clear ic; exact if z : j = zv_i h1 25 + 8 then (by have b8 := b5 z; clear b4 b5 b6; exfalso; omega) else if z2 : j = zv_i h1 25 + 9 then (by have b8 := b6 rfl z2; clear b4 b5 b6; exfalso; omega) else (by have b8 := b4.2.2 (fun y => by rcases y.2.2 with y | y; exact z y; exact z2 y.2); clear b4 b5 b6; exact Or.inl ⟨by omega, by omega, fun _ => by omega, fun _ => by omega, fun _ => by omega, fun _ => by omega⟩), fun ho => absurd ho (by omega)⟩⟩⟩

set_option maxRecDepth 100000 in
set_option maxHeartbeats 20000000 in
theorem zm_does_c3 {h : zx_H} (hI : zb_I zc_H h) {p : Int} (p1 : 0 ≤ p) (p2 : p ≤ 59) (n8 : ¬ zv_a h 61 8 = 3) (ic : zv_a h 45 p = 21 → 5 ≤ zv_a h 46 p ∧ zv_a h 46 p ≤ 8) (ov : zv_a h 45 p = 3) : zx_T zp_P 3 zp_m167 0 [(0, .ref 44), (1, .int (zI (p)))] [] h (zr_R [(44, 25), (44, 26), (61, 0)] h (fun e h' => e = zv_i h' 26 ∧ 0 ≤ e ∧ e ≤ 7 ∧ ¬ zv_a h' 61 8 = 3 ∧ (e = 0 → zg_does (zv_a h 45 p) (zv_a h 46 p) h h'))) := by
  have hS := zv_ri hI (k := 25) rfl
  refine zx_T.l (i := .aload_n 0) (k := 1) (v := .ref 44) (pc := 0) rfl rfl rfl ?_
  refine zx_T.s (i := .iconst 0) (k := 1) (st' := [.int (zI (0)), .ref 44]) (pc := 1) rfl rfl ?_
  refine zr_pi (k := 26) (lo := 0) (hi := 7) (e := 0) (pc := 2) rfl rfl rfl rfl rfl rfl hI (by omega) (by omega) (fun h1 ih1 w2 e3 => ?_)
  refine zx_T.l (i := .aload_n 0) (k := 1) (v := .ref 44) (pc := 5) rfl rfl rfl ?_
  refine zr_gr (k := 3) (b := 46) (pc := 6) rfl rfl rfl ih1 ?_
  refine zx_T.l (i := .iload_n 1) (k := 1) (v := .int (zI (p))) (pc := 9) rfl rfl rfl ?_
  refine zr_al (n := 60) (lo := (-2147483648)) (hi := 2147483647) (e := zv_a h 46 p) (pc := 10) rfl rfl rfl ih1 (by omega) (by omega) (zv_wa w2 rfl p) (fun g4a g4b => ?_)
  refine zx_T.t (i := .istore_n 2) (k := 1) (ls' := [(2, .int (zI (zv_a h 46 p))), (0, .ref 44), (1, .int (zI (p)))]) (st' := []) (pc := 11) rfl rfl rfl rfl ?_
  refine zx_T.l (i := .aload_n 0) (k := 1) (v := .ref 44) (pc := 12) rfl rfl rfl ?_
  refine zr_gr (k := 2) (b := 45) (pc := 13) rfl rfl rfl ih1 ?_
  refine zx_T.l (i := .iload_n 1) (k := 1) (v := .int (zI (p))) (pc := 16) rfl rfl rfl ?_
  refine zr_al (n := 60) (lo := 0) (hi := 28) (e := zv_a h 45 p) (pc := 17) rfl rfl rfl ih1 (by omega) (by omega) (zv_wa w2 rfl p) (fun g5a g5b => ?_)
  have c6 : zv_a h 45 p = 3 := by omega
  rcases c6 with c6
  · refine zr_sw (i := .tableswitch 424 1 28 #[126, 134, 142, 150, 158, 167, 176, 190, 198, 206, 214, 222, 222, 240, 258, 271, 284, 303, 322, 336, 350, 363, 424, 424, 372, 380, 372, 388]) (len := 126) (t := 160) (x := zv_a h 45 p) (k := 3) (pc := 18) rfl c6 rfl rfl rfl rfl ?_
    refine zx_T.l (i := .aload_n 0) (k := 1) (v := .ref 44) (pc := 160) rfl rfl rfl ?_
    refine zx_T.s (i := .iconst 4) (k := 1) (st' := [.int (zI (4)), .ref 44]) (pc := 161) rfl rfl ?_
    have ap : ∀ j, 0 ≤ j → zv_a h1 61 j = zv_a h 61 j := fun j hj => by rw [zv_wa w2 rfl j]
    have y8 : zv_a h1 61 8 = zv_a h 61 8 := (zv_wa w2 rfl 8)
    have y9 : zv_i h1 25 = zv_i h 25 := (zv_wi w2 rfl)
    have y10 : zv_i h1 26 = 0 := e3
    refine zr_iv (cj := 163) (q' := zp_m163) (As := [.int (zI (4))]) (rest := []) (pc := 162) rfl rfl rfl rfl rfl rfl (Nat.le_of_ble_eq_true rfl) rfl (Nat.le_of_ble_eq_true rfl) ih1 ((zm_push (h := h1) ih1 (k := 4) (by omega) (by omega) (by omega)).up (Nat.le_of_ble_eq_true rfl)) ?_
    rintro r11 h14 ⟨ih14, w15, r11q, x13⟩
    subst r11q
    try dsimp only at x13
    have pj := x13.2.2.1
    have p8 := x13.2.2.2 (by omega)
    rcases zg_p1 x13 (by omega) with q16 | q16 | q16
    · exact False.elim (by omega)
    · clear x13
      show zx_T zp_P 3 zp_m167 165 [(2, .int (zI (zv_a h 46 p))), (0, .ref 44), (1, .int (zI (p)))] [] h14 _
      refine zx_T.j (i := .goto 277) (k := 3) (pc' := 442) (st' := []) (pc := 165) rfl rfl rfl rfl rfl ?_
      refine zx_T.l (i := .aload_n 0) (k := 1) (v := .ref 44) (pc := 442) rfl rfl rfl ?_
      refine zr_gi (k := 26) (lo := 0) (hi := 7) (e := zv_i h14 26) (pc := 443) rfl rfl rfl ih14 rfl (fun g17a g17b => ?_)
      have ae : ∀ j, 0 ≤ j → zv_a h14 61 j = zv_a h14 61 j := fun j hj => rfl
      have y22 := zv_ri ih14 (k := 25) rfl
      exact zr_ir (x := zv_i h14 26) (pc := 446) rfl rfl rfl ⟨ih14, ((w2.wd rfl : zb_W [(44, 25), (44, 26), (61, 0)] h _).tr (w15.wd rfl)), _, rfl, by dsimp only; exact ⟨by omega, by omega, by omega, by omega, fun h0 => absurd h0 (by omega)⟩⟩
    · clear x13
      show zx_T zp_P 3 zp_m167 165 [(2, .int (zI (zv_a h 46 p))), (0, .ref 44), (1, .int (zI (p)))] [] h14 _
      refine zx_T.j (i := .goto 277) (k := 3) (pc' := 442) (st' := []) (pc := 165) rfl rfl rfl rfl rfl ?_
      refine zx_T.l (i := .aload_n 0) (k := 1) (v := .ref 44) (pc := 442) rfl rfl rfl ?_
      refine zr_gi (k := 26) (lo := 0) (hi := 7) (e := zv_i h14 26) (pc := 443) rfl rfl rfl ih14 rfl (fun g23a g23b => ?_)
      have ae : ∀ j, 0 ≤ j → zv_a h14 61 j = zv_a h14 61 j := fun j hj => rfl
      have y28 := zv_ri ih14 (k := 25) rfl
      exact zr_ir (x := zv_i h14 26) (pc := 446) rfl rfl rfl ⟨ih14, ((w2.wd rfl : zb_W [(44, 25), (44, 26), (61, 0)] h _).tr (w15.wd rfl)), _, rfl, by dsimp only; exact ⟨by omega, by omega, by omega, by omega, fun h0 => ⟨by omega, fun j hj => ⟨fun ho => absurd ho (by omega), fun ho => absurd ho (by omega), fun ho => absurd ho (by omega), fun ho => absurd ho (by omega), fun ho => absurd ho (by omega)⟩, fun ho j hj j2 j3 => by have d5 := ap j hj; have b4 := pj j hj; have r1 : zv_i h1 26 = 0 := (by clear b4; omega); have b5 := b4.1 r1 h0; have b6 := b4.2.1 r1 h0; clear ic; exact if z : j = zv_i h1 25 + 8 then (by have b8 := b5 z; clear b4 b5 b6; exfalso; omega) else (by have b8 := b4.2.2 (fun y => by rcases y.2.2 with y | y; exact z y; exact absurd y.1 (by decide)); clear b4 b5 b6; exact Or.inl ⟨by omega, by omega, fun _ => by omega, fun _ => by omega, fun _ => by omega, fun _ => by omega⟩), fun ho => absurd ho (by omega)⟩⟩⟩

set_option maxRecDepth 100000 in
set_option maxHeartbeats 20000000 in
theorem zm_does_c4 {h : zx_H} (hI : zb_I zc_H h) {p : Int} (p1 : 0 ≤ p) (p2 : p ≤ 59) (n8 : ¬ zv_a h 61 8 = 3) (ic : zv_a h 45 p = 21 → 5 ≤ zv_a h 46 p ∧ zv_a h 46 p ≤ 8) (ov : zv_a h 45 p = 4) : zx_T zp_P 3 zp_m167 0 [(0, .ref 44), (1, .int (zI (p)))] [] h (zr_R [(44, 25), (44, 26), (61, 0)] h (fun e h' => e = zv_i h' 26 ∧ 0 ≤ e ∧ e ≤ 7 ∧ ¬ zv_a h' 61 8 = 3 ∧ (e = 0 → zg_does (zv_a h 45 p) (zv_a h 46 p) h h'))) := by
  have hS := zv_ri hI (k := 25) rfl
  refine zx_T.l (i := .aload_n 0) (k := 1) (v := .ref 44) (pc := 0) rfl rfl rfl ?_
  refine zx_T.s (i := .iconst 0) (k := 1) (st' := [.int (zI (0)), .ref 44]) (pc := 1) rfl rfl ?_
  refine zr_pi (k := 26) (lo := 0) (hi := 7) (e := 0) (pc := 2) rfl rfl rfl rfl rfl rfl hI (by omega) (by omega) (fun h1 ih1 w2 e3 => ?_)
  refine zx_T.l (i := .aload_n 0) (k := 1) (v := .ref 44) (pc := 5) rfl rfl rfl ?_
  refine zr_gr (k := 3) (b := 46) (pc := 6) rfl rfl rfl ih1 ?_
  refine zx_T.l (i := .iload_n 1) (k := 1) (v := .int (zI (p))) (pc := 9) rfl rfl rfl ?_
  refine zr_al (n := 60) (lo := (-2147483648)) (hi := 2147483647) (e := zv_a h 46 p) (pc := 10) rfl rfl rfl ih1 (by omega) (by omega) (zv_wa w2 rfl p) (fun g4a g4b => ?_)
  refine zx_T.t (i := .istore_n 2) (k := 1) (ls' := [(2, .int (zI (zv_a h 46 p))), (0, .ref 44), (1, .int (zI (p)))]) (st' := []) (pc := 11) rfl rfl rfl rfl ?_
  refine zx_T.l (i := .aload_n 0) (k := 1) (v := .ref 44) (pc := 12) rfl rfl rfl ?_
  refine zr_gr (k := 2) (b := 45) (pc := 13) rfl rfl rfl ih1 ?_
  refine zx_T.l (i := .iload_n 1) (k := 1) (v := .int (zI (p))) (pc := 16) rfl rfl rfl ?_
  refine zr_al (n := 60) (lo := 0) (hi := 28) (e := zv_a h 45 p) (pc := 17) rfl rfl rfl ih1 (by omega) (by omega) (zv_wa w2 rfl p) (fun g5a g5b => ?_)
  have c6 : zv_a h 45 p = 4 := by omega
  rcases c6 with c6
  · refine zr_sw (i := .tableswitch 424 1 28 #[126, 134, 142, 150, 158, 167, 176, 190, 198, 206, 214, 222, 222, 240, 258, 271, 284, 303, 322, 336, 350, 363, 424, 424, 372, 380, 372, 388]) (len := 126) (t := 168) (x := zv_a h 45 p) (k := 4) (pc := 18) rfl c6 rfl rfl rfl rfl ?_
    refine zx_T.l (i := .aload_n 0) (k := 1) (v := .ref 44) (pc := 168) rfl rfl rfl ?_
    refine zx_T.s (i := .iconst 5) (k := 1) (st' := [.int (zI (5)), .ref 44]) (pc := 169) rfl rfl ?_
    have ap : ∀ j, 0 ≤ j → zv_a h1 61 j = zv_a h 61 j := fun j hj => by rw [zv_wa w2 rfl j]
    have y8 : zv_a h1 61 8 = zv_a h 61 8 := (zv_wa w2 rfl 8)
    have y9 : zv_i h1 25 = zv_i h 25 := (zv_wi w2 rfl)
    have y10 : zv_i h1 26 = 0 := e3
    refine zr_iv (cj := 163) (q' := zp_m163) (As := [.int (zI (5))]) (rest := []) (pc := 170) rfl rfl rfl rfl rfl rfl (Nat.le_of_ble_eq_true rfl) rfl (Nat.le_of_ble_eq_true rfl) ih1 ((zm_push (h := h1) ih1 (k := 5) (by omega) (by omega) (by omega)).up (Nat.le_of_ble_eq_true rfl)) ?_
    rintro r11 h14 ⟨ih14, w15, r11q, x13⟩
    subst r11q
    try dsimp only at x13
    have pj := x13.2.2.1
    have p8 := x13.2.2.2 (by omega)
    rcases zg_p1 x13 (by omega) with q16 | q16 | q16
    · exact False.elim (by omega)
    · clear x13
      show zx_T zp_P 3 zp_m167 173 [(2, .int (zI (zv_a h 46 p))), (0, .ref 44), (1, .int (zI (p)))] [] h14 _
      refine zx_T.j (i := .goto 269) (k := 3) (pc' := 442) (st' := []) (pc := 173) rfl rfl rfl rfl rfl ?_
      refine zx_T.l (i := .aload_n 0) (k := 1) (v := .ref 44) (pc := 442) rfl rfl rfl ?_
      refine zr_gi (k := 26) (lo := 0) (hi := 7) (e := zv_i h14 26) (pc := 443) rfl rfl rfl ih14 rfl (fun g17a g17b => ?_)
      have ae : ∀ j, 0 ≤ j → zv_a h14 61 j = zv_a h14 61 j := fun j hj => rfl
      have y22 := zv_ri ih14 (k := 25) rfl
      exact zr_ir (x := zv_i h14 26) (pc := 446) rfl rfl rfl ⟨ih14, ((w2.wd rfl : zb_W [(44, 25), (44, 26), (61, 0)] h _).tr (w15.wd rfl)), _, rfl, by dsimp only; exact ⟨by omega, by omega, by omega, by omega, fun h0 => absurd h0 (by omega)⟩⟩
    · clear x13
      show zx_T zp_P 3 zp_m167 173 [(2, .int (zI (zv_a h 46 p))), (0, .ref 44), (1, .int (zI (p)))] [] h14 _
      refine zx_T.j (i := .goto 269) (k := 3) (pc' := 442) (st' := []) (pc := 173) rfl rfl rfl rfl rfl ?_
      refine zx_T.l (i := .aload_n 0) (k := 1) (v := .ref 44) (pc := 442) rfl rfl rfl ?_
      refine zr_gi (k := 26) (lo := 0) (hi := 7) (e := zv_i h14 26) (pc := 443) rfl rfl rfl ih14 rfl (fun g23a g23b => ?_)
      have ae : ∀ j, 0 ≤ j → zv_a h14 61 j = zv_a h14 61 j := fun j hj => rfl
      have y28 := zv_ri ih14 (k := 25) rfl
      exact zr_ir (x := zv_i h14 26) (pc := 446) rfl rfl rfl ⟨ih14, ((w2.wd rfl : zb_W [(44, 25), (44, 26), (61, 0)] h _).tr (w15.wd rfl)), _, rfl, by dsimp only; exact ⟨by omega, by omega, by omega, by omega, fun h0 => ⟨by omega, fun j hj => ⟨fun ho => absurd ho (by omega), fun ho => absurd ho (by omega), fun ho => absurd ho (by omega), fun ho => absurd ho (by omega), fun ho => absurd ho (by omega)⟩, fun ho j hj j2 j3 => by have d5 := ap j hj; have b4 := pj j hj; have r1 : zv_i h1 26 = 0 := (by clear b4; omega); have b5 := b4.1 r1 h0; have b6 := b4.2.1 r1 h0; clear ic; exact if z : j = zv_i h1 25 + 8 then (by have b8 := b5 z; clear b4 b5 b6; exact Or.inr (Or.inl ⟨by omega, by omega, by omega⟩)) else (by have b8 := b4.2.2 (fun y => by rcases y.2.2 with y | y; exact z y; exact absurd y.1 (by decide)); clear b4 b5 b6; exact Or.inl ⟨by omega, by omega, fun _ => by omega, fun _ => by omega, fun _ => by omega, fun _ => by omega⟩), fun ho => absurd ho (by omega)⟩⟩⟩

set_option maxRecDepth 100000 in
set_option maxHeartbeats 20000000 in
theorem zm_does_c5 {h : zx_H} (hI : zb_I zc_H h) {p : Int} (p1 : 0 ≤ p) (p2 : p ≤ 59) (n8 : ¬ zv_a h 61 8 = 3) (ic : zv_a h 45 p = 21 → 5 ≤ zv_a h 46 p ∧ zv_a h 46 p ≤ 8) (ov : zv_a h 45 p = 5) : zx_T zp_P 3 zp_m167 0 [(0, .ref 44), (1, .int (zI (p)))] [] h (zr_R [(44, 25), (44, 26), (61, 0)] h (fun e h' => e = zv_i h' 26 ∧ 0 ≤ e ∧ e ≤ 7 ∧ ¬ zv_a h' 61 8 = 3 ∧ (e = 0 → zg_does (zv_a h 45 p) (zv_a h 46 p) h h'))) := by
  have hS := zv_ri hI (k := 25) rfl
  refine zx_T.l (i := .aload_n 0) (k := 1) (v := .ref 44) (pc := 0) rfl rfl rfl ?_
  refine zx_T.s (i := .iconst 0) (k := 1) (st' := [.int (zI (0)), .ref 44]) (pc := 1) rfl rfl ?_
  refine zr_pi (k := 26) (lo := 0) (hi := 7) (e := 0) (pc := 2) rfl rfl rfl rfl rfl rfl hI (by omega) (by omega) (fun h1 ih1 w2 e3 => ?_)
  refine zx_T.l (i := .aload_n 0) (k := 1) (v := .ref 44) (pc := 5) rfl rfl rfl ?_
  refine zr_gr (k := 3) (b := 46) (pc := 6) rfl rfl rfl ih1 ?_
  refine zx_T.l (i := .iload_n 1) (k := 1) (v := .int (zI (p))) (pc := 9) rfl rfl rfl ?_
  refine zr_al (n := 60) (lo := (-2147483648)) (hi := 2147483647) (e := zv_a h 46 p) (pc := 10) rfl rfl rfl ih1 (by omega) (by omega) (zv_wa w2 rfl p) (fun g4a g4b => ?_)
  refine zx_T.t (i := .istore_n 2) (k := 1) (ls' := [(2, .int (zI (zv_a h 46 p))), (0, .ref 44), (1, .int (zI (p)))]) (st' := []) (pc := 11) rfl rfl rfl rfl ?_
  refine zx_T.l (i := .aload_n 0) (k := 1) (v := .ref 44) (pc := 12) rfl rfl rfl ?_
  refine zr_gr (k := 2) (b := 45) (pc := 13) rfl rfl rfl ih1 ?_
  refine zx_T.l (i := .iload_n 1) (k := 1) (v := .int (zI (p))) (pc := 16) rfl rfl rfl ?_
  refine zr_al (n := 60) (lo := 0) (hi := 28) (e := zv_a h 45 p) (pc := 17) rfl rfl rfl ih1 (by omega) (by omega) (zv_wa w2 rfl p) (fun g5a g5b => ?_)
  have c6 : zv_a h 45 p = 5 := by omega
  rcases c6 with c6
  · refine zr_sw (i := .tableswitch 424 1 28 #[126, 134, 142, 150, 158, 167, 176, 190, 198, 206, 214, 222, 222, 240, 258, 271, 284, 303, 322, 336, 350, 363, 424, 424, 372, 380, 372, 388]) (len := 126) (t := 176) (x := zv_a h 45 p) (k := 5) (pc := 18) rfl c6 rfl rfl rfl rfl ?_
    refine zx_T.l (i := .aload_n 0) (k := 1) (v := .ref 44) (pc := 176) rfl rfl rfl ?_
    refine zx_T.s (i := .bipush 7) (k := 2) (st' := [.int (zI (7)), .ref 44]) (pc := 177) rfl rfl ?_
    have ap : ∀ j, 0 ≤ j → zv_a h1 61 j = zv_a h 61 j := fun j hj => by rw [zv_wa w2 rfl j]
    have y8 : zv_a h1 61 8 = zv_a h 61 8 := (zv_wa w2 rfl 8)
    have y9 : zv_i h1 25 = zv_i h 25 := (zv_wi w2 rfl)
    have y10 : zv_i h1 26 = 0 := e3
    refine zr_iv (cj := 163) (q' := zp_m163) (As := [.int (zI (7))]) (rest := []) (pc := 179) rfl rfl rfl rfl rfl rfl (Nat.le_of_ble_eq_true rfl) rfl (Nat.le_of_ble_eq_true rfl) ih1 ((zm_push (h := h1) ih1 (k := 7) (by omega) (by omega) (by omega)).up (Nat.le_of_ble_eq_true rfl)) ?_
    rintro r11 h14 ⟨ih14, w15, r11q, x13⟩
    subst r11q
    try dsimp only at x13
    have pj := x13.2.2.1
    have p8 := x13.2.2.2 (by omega)
    rcases zg_p1 x13 (by omega) with q16 | q16 | q16
    · exact False.elim (by omega)
    · clear x13
      show zx_T zp_P 3 zp_m167 182 [(2, .int (zI (zv_a h 46 p))), (0, .ref 44), (1, .int (zI (p)))] [] h14 _
      refine zx_T.j (i := .goto 260) (k := 3) (pc' := 442) (st' := []) (pc := 182) rfl rfl rfl rfl rfl ?_
      refine zx_T.l (i := .aload_n 0) (k := 1) (v := .ref 44) (pc := 442) rfl rfl rfl ?_
      refine zr_gi (k := 26) (lo := 0) (hi := 7) (e := zv_i h14 26) (pc := 443) rfl rfl rfl ih14 rfl (fun g17a g17b => ?_)
      have ae : ∀ j, 0 ≤ j → zv_a h14 61 j = zv_a h14 61 j := fun j hj => rfl
      have y22 := zv_ri ih14 (k := 25) rfl
      exact zr_ir (x := zv_i h14 26) (pc := 446) rfl rfl rfl ⟨ih14, ((w2.wd rfl : zb_W [(44, 25), (44, 26), (61, 0)] h _).tr (w15.wd rfl)), _, rfl, by dsimp only; exact ⟨by omega, by omega, by omega, by omega, fun h0 => absurd h0 (by omega)⟩⟩
    · clear x13
      show zx_T zp_P 3 zp_m167 182 [(2, .int (zI (zv_a h 46 p))), (0, .ref 44), (1, .int (zI (p)))] [] h14 _
      refine zx_T.j (i := .goto 260) (k := 3) (pc' := 442) (st' := []) (pc := 182) rfl rfl rfl rfl rfl ?_
      refine zx_T.l (i := .aload_n 0) (k := 1) (v := .ref 44) (pc := 442) rfl rfl rfl ?_
      refine zr_gi (k := 26) (lo := 0) (hi := 7) (e := zv_i h14 26) (pc := 443) rfl rfl rfl ih14 rfl (fun g23a g23b => ?_)
      have ae : ∀ j, 0 ≤ j → zv_a h14 61 j = zv_a h14 61 j := fun j hj => rfl
      have y28 := zv_ri ih14 (k := 25) rfl
      exact zr_ir (x := zv_i h14 26) (pc := 446) rfl rfl rfl ⟨ih14, ((w2.wd rfl : zb_W [(44, 25), (44, 26), (61, 0)] h _).tr (w15.wd rfl)), _, rfl, by dsimp only; exact ⟨by omega, by omega, by omega, by omega, fun h0 => ⟨by omega, fun j hj => ⟨fun ho => absurd ho (by omega), fun ho => absurd ho (by omega), fun ho => absurd ho (by omega), fun ho => absurd ho (by omega), fun ho => absurd ho (by omega)⟩, fun ho j hj j2 j3 => by have d5 := ap j hj; have b4 := pj j hj; have r1 : zv_i h1 26 = 0 := (by clear b4; omega); have b5 := b4.1 r1 h0; have b6 := b4.2.1 r1 h0; clear ic; exact if z : j = zv_i h1 25 + 8 then (by have b8 := b5 z; clear b4 b5 b6; exact Or.inr (Or.inl ⟨by omega, by omega, by omega⟩)) else (by have b8 := b4.2.2 (fun y => by rcases y.2.2 with y | y; exact z y; exact absurd y.1 (by decide)); clear b4 b5 b6; exact Or.inl ⟨by omega, by omega, fun _ => by omega, fun _ => by omega, fun _ => by omega, fun _ => by omega⟩), fun ho => absurd ho (by omega)⟩⟩⟩

set_option maxRecDepth 100000 in
set_option maxHeartbeats 20000000 in
theorem zm_does_c6 {h : zx_H} (hI : zb_I zc_H h) {p : Int} (p1 : 0 ≤ p) (p2 : p ≤ 59) (n8 : ¬ zv_a h 61 8 = 3) (ic : zv_a h 45 p = 21 → 5 ≤ zv_a h 46 p ∧ zv_a h 46 p ≤ 8) (ov : zv_a h 45 p = 6) : zx_T zp_P 3 zp_m167 0 [(0, .ref 44), (1, .int (zI (p)))] [] h (zr_R [(44, 25), (44, 26), (61, 0)] h (fun e h' => e = zv_i h' 26 ∧ 0 ≤ e ∧ e ≤ 7 ∧ ¬ zv_a h' 61 8 = 3 ∧ (e = 0 → zg_does (zv_a h 45 p) (zv_a h 46 p) h h'))) := by
  have hS := zv_ri hI (k := 25) rfl
  refine zx_T.l (i := .aload_n 0) (k := 1) (v := .ref 44) (pc := 0) rfl rfl rfl ?_
  refine zx_T.s (i := .iconst 0) (k := 1) (st' := [.int (zI (0)), .ref 44]) (pc := 1) rfl rfl ?_
  refine zr_pi (k := 26) (lo := 0) (hi := 7) (e := 0) (pc := 2) rfl rfl rfl rfl rfl rfl hI (by omega) (by omega) (fun h1 ih1 w2 e3 => ?_)
  refine zx_T.l (i := .aload_n 0) (k := 1) (v := .ref 44) (pc := 5) rfl rfl rfl ?_
  refine zr_gr (k := 3) (b := 46) (pc := 6) rfl rfl rfl ih1 ?_
  refine zx_T.l (i := .iload_n 1) (k := 1) (v := .int (zI (p))) (pc := 9) rfl rfl rfl ?_
  refine zr_al (n := 60) (lo := (-2147483648)) (hi := 2147483647) (e := zv_a h 46 p) (pc := 10) rfl rfl rfl ih1 (by omega) (by omega) (zv_wa w2 rfl p) (fun g4a g4b => ?_)
  refine zx_T.t (i := .istore_n 2) (k := 1) (ls' := [(2, .int (zI (zv_a h 46 p))), (0, .ref 44), (1, .int (zI (p)))]) (st' := []) (pc := 11) rfl rfl rfl rfl ?_
  refine zx_T.l (i := .aload_n 0) (k := 1) (v := .ref 44) (pc := 12) rfl rfl rfl ?_
  refine zr_gr (k := 2) (b := 45) (pc := 13) rfl rfl rfl ih1 ?_
  refine zx_T.l (i := .iload_n 1) (k := 1) (v := .int (zI (p))) (pc := 16) rfl rfl rfl ?_
  refine zr_al (n := 60) (lo := 0) (hi := 28) (e := zv_a h 45 p) (pc := 17) rfl rfl rfl ih1 (by omega) (by omega) (zv_wa w2 rfl p) (fun g5a g5b => ?_)
  have c6 : zv_a h 45 p = 6 := by omega
  rcases c6 with c6
  · refine zr_sw (i := .tableswitch 424 1 28 #[126, 134, 142, 150, 158, 167, 176, 190, 198, 206, 214, 222, 222, 240, 258, 271, 284, 303, 322, 336, 350, 363, 424, 424, 372, 380, 372, 388]) (len := 126) (t := 185) (x := zv_a h 45 p) (k := 6) (pc := 18) rfl c6 rfl rfl rfl rfl ?_
    refine zx_T.l (i := .aload_n 0) (k := 1) (v := .ref 44) (pc := 185) rfl rfl rfl ?_
    refine zx_T.s (i := .bipush 8) (k := 2) (st' := [.int (zI (8)), .ref 44]) (pc := 186) rfl rfl ?_
    have ap : ∀ j, 0 ≤ j → zv_a h1 61 j = zv_a h 61 j := fun j hj => by rw [zv_wa w2 rfl j]
    have y8 : zv_a h1 61 8 = zv_a h 61 8 := (zv_wa w2 rfl 8)
    have y9 : zv_i h1 25 = zv_i h 25 := (zv_wi w2 rfl)
    have y10 : zv_i h1 26 = 0 := e3
    refine zr_iv (cj := 163) (q' := zp_m163) (As := [.int (zI (8))]) (rest := []) (pc := 188) rfl rfl rfl rfl rfl rfl (Nat.le_of_ble_eq_true rfl) rfl (Nat.le_of_ble_eq_true rfl) ih1 ((zm_push (h := h1) ih1 (k := 8) (by omega) (by omega) (by omega)).up (Nat.le_of_ble_eq_true rfl)) ?_
    rintro r11 h14 ⟨ih14, w15, r11q, x13⟩
    subst r11q
    try dsimp only at x13
    have pj := x13.2.2.1
    have p8 := x13.2.2.2 (by omega)
    rcases zg_p1 x13 (by omega) with q16 | q16 | q16
    · exact False.elim (by omega)
    · clear x13
      show zx_T zp_P 3 zp_m167 191 [(2, .int (zI (zv_a h 46 p))), (0, .ref 44), (1, .int (zI (p)))] [] h14 _
      refine zx_T.j (i := .goto 251) (k := 3) (pc' := 442) (st' := []) (pc := 191) rfl rfl rfl rfl rfl ?_
      refine zx_T.l (i := .aload_n 0) (k := 1) (v := .ref 44) (pc := 442) rfl rfl rfl ?_
      refine zr_gi (k := 26) (lo := 0) (hi := 7) (e := zv_i h14 26) (pc := 443) rfl rfl rfl ih14 rfl (fun g17a g17b => ?_)
      have ae : ∀ j, 0 ≤ j → zv_a h14 61 j = zv_a h14 61 j := fun j hj => rfl
      have y22 := zv_ri ih14 (k := 25) rfl
      exact zr_ir (x := zv_i h14 26) (pc := 446) rfl rfl rfl ⟨ih14, ((w2.wd rfl : zb_W [(44, 25), (44, 26), (61, 0)] h _).tr (w15.wd rfl)), _, rfl, by dsimp only; exact ⟨by omega, by omega, by omega, by omega, fun h0 => absurd h0 (by omega)⟩⟩
    · clear x13
      show zx_T zp_P 3 zp_m167 191 [(2, .int (zI (zv_a h 46 p))), (0, .ref 44), (1, .int (zI (p)))] [] h14 _
      refine zx_T.j (i := .goto 251) (k := 3) (pc' := 442) (st' := []) (pc := 191) rfl rfl rfl rfl rfl ?_
      refine zx_T.l (i := .aload_n 0) (k := 1) (v := .ref 44) (pc := 442) rfl rfl rfl ?_
      refine zr_gi (k := 26) (lo := 0) (hi := 7) (e := zv_i h14 26) (pc := 443) rfl rfl rfl ih14 rfl (fun g23a g23b => ?_)
      have ae : ∀ j, 0 ≤ j → zv_a h14 61 j = zv_a h14 61 j := fun j hj => rfl
      have y28 := zv_ri ih14 (k := 25) rfl
      exact zr_ir (x := zv_i h14 26) (pc := 446) rfl rfl rfl ⟨ih14, ((w2.wd rfl : zb_W [(44, 25), (44, 26), (61, 0)] h _).tr (w15.wd rfl)), _, rfl, by dsimp only; exact ⟨by omega, by omega, by omega, by omega, fun h0 => ⟨by omega, fun j hj => ⟨fun ho => absurd ho (by omega), fun ho => absurd ho (by omega), fun ho => absurd ho (by omega), fun ho => absurd ho (by omega), fun ho => absurd ho (by omega)⟩, fun ho j hj j2 j3 => by have d5 := ap j hj; have b4 := pj j hj; have r1 : zv_i h1 26 = 0 := (by clear b4; omega); have b5 := b4.1 r1 h0; have b6 := b4.2.1 r1 h0; clear ic; exact if z : j = zv_i h1 25 + 8 then (by have b8 := b5 z; clear b4 b5 b6; exact Or.inr (Or.inl ⟨by omega, by omega, by omega⟩)) else (by have b8 := b4.2.2 (fun y => by rcases y.2.2 with y | y; exact z y; exact absurd y.1 (by decide)); clear b4 b5 b6; exact Or.inl ⟨by omega, by omega, fun _ => by omega, fun _ => by omega, fun _ => by omega, fun _ => by omega⟩), fun ho => absurd ho (by omega)⟩⟩⟩

set_option maxRecDepth 100000 in
set_option maxHeartbeats 20000000 in
theorem zm_does_c7 {h : zx_H} (hI : zb_I zc_H h) {p : Int} (p1 : 0 ≤ p) (p2 : p ≤ 59) (n8 : ¬ zv_a h 61 8 = 3) (ic : zv_a h 45 p = 21 → 5 ≤ zv_a h 46 p ∧ zv_a h 46 p ≤ 8) (ov : zv_a h 45 p = 7) : zx_T zp_P 3 zp_m167 0 [(0, .ref 44), (1, .int (zI (p)))] [] h (zr_R [(44, 25), (44, 26), (61, 0)] h (fun e h' => e = zv_i h' 26 ∧ 0 ≤ e ∧ e ≤ 7 ∧ ¬ zv_a h' 61 8 = 3 ∧ (e = 0 → zg_does (zv_a h 45 p) (zv_a h 46 p) h h'))) := by
  have hS := zv_ri hI (k := 25) rfl
  refine zx_T.l (i := .aload_n 0) (k := 1) (v := .ref 44) (pc := 0) rfl rfl rfl ?_
  refine zx_T.s (i := .iconst 0) (k := 1) (st' := [.int (zI (0)), .ref 44]) (pc := 1) rfl rfl ?_
  refine zr_pi (k := 26) (lo := 0) (hi := 7) (e := 0) (pc := 2) rfl rfl rfl rfl rfl rfl hI (by omega) (by omega) (fun h1 ih1 w2 e3 => ?_)
  refine zx_T.l (i := .aload_n 0) (k := 1) (v := .ref 44) (pc := 5) rfl rfl rfl ?_
  refine zr_gr (k := 3) (b := 46) (pc := 6) rfl rfl rfl ih1 ?_
  refine zx_T.l (i := .iload_n 1) (k := 1) (v := .int (zI (p))) (pc := 9) rfl rfl rfl ?_
  refine zr_al (n := 60) (lo := (-2147483648)) (hi := 2147483647) (e := zv_a h 46 p) (pc := 10) rfl rfl rfl ih1 (by omega) (by omega) (zv_wa w2 rfl p) (fun g4a g4b => ?_)
  refine zx_T.t (i := .istore_n 2) (k := 1) (ls' := [(2, .int (zI (zv_a h 46 p))), (0, .ref 44), (1, .int (zI (p)))]) (st' := []) (pc := 11) rfl rfl rfl rfl ?_
  refine zx_T.l (i := .aload_n 0) (k := 1) (v := .ref 44) (pc := 12) rfl rfl rfl ?_
  refine zr_gr (k := 2) (b := 45) (pc := 13) rfl rfl rfl ih1 ?_
  refine zx_T.l (i := .iload_n 1) (k := 1) (v := .int (zI (p))) (pc := 16) rfl rfl rfl ?_
  refine zr_al (n := 60) (lo := 0) (hi := 28) (e := zv_a h 45 p) (pc := 17) rfl rfl rfl ih1 (by omega) (by omega) (zv_wa w2 rfl p) (fun g5a g5b => ?_)
  have c6 : zv_a h 45 p = 7 := by omega
  rcases c6 with c6
  · refine zr_sw (i := .tableswitch 424 1 28 #[126, 134, 142, 150, 158, 167, 176, 190, 198, 206, 214, 222, 222, 240, 258, 271, 284, 303, 322, 336, 350, 363, 424, 424, 372, 380, 372, 388]) (len := 126) (t := 194) (x := zv_a h 45 p) (k := 7) (pc := 18) rfl c6 rfl rfl rfl rfl ?_
    refine zx_T.l (i := .aload_n 0) (k := 1) (v := .ref 44) (pc := 194) rfl rfl rfl ?_
    refine zx_T.s (i := .iconst 1) (k := 1) (st' := [.int (zI (1)), .ref 44]) (pc := 195) rfl rfl ?_
    have y7 : zv_a h1 61 8 = zv_a h 61 8 := (zv_wa w2 rfl 8)
    have y8 : zv_i h1 25 = zv_i h 25 := (zv_wi w2 rfl)
    have y9 : zv_i h1 26 = 0 := e3
    have an0 : ∀ j, 0 ≤ j → zv_a h1 61 j = zv_a h 61 j := fun j hj => by rw [zv_wa w2 rfl j]
    refine zr_iv (cj := 162) (q' := zp_m162) (As := [.int (zI (1))]) (rest := []) (pc := 196) rfl rfl rfl rfl rfl rfl (Nat.le_of_ble_eq_true rfl) rfl (Nat.le_of_ble_eq_true rfl) ih1 ((zm_need (h := h1) ih1 (w := 1) (by omega) (by omega) (by omega)).up (Nat.le_of_ble_eq_true rfl)) ?_
    rintro r11 h14 ⟨ih14, w15, r11q, x13⟩
    subst r11q
    try dsimp only at x13
    have nj1 := x13.2.2
    rcases zg_n1 x13 (by omega) with q16 | q16 | q16
    · exact False.elim (by omega)
    · clear x13
      show zx_T zp_P 3 zp_m167 199 [(2, .int (zI (zv_a h 46 p))), (0, .ref 44), (1, .int (zI (p)))] [] h14 _
      refine zx_T.l (i := .aload_n 0) (k := 1) (v := .ref 44) (pc := 199) rfl rfl rfl ?_
      refine zx_T.s (i := .bipush 6) (k := 2) (st' := [.int (zI (6)), .ref 44]) (pc := 200) rfl rfl ?_
      have ap : ∀ j, 0 ≤ j → zv_a h14 61 j = zv_a h 61 j := fun j hj => by rw [zv_wa w15 rfl j, zv_wa w2 rfl j]
      have y18 : zv_a h14 61 8 = zv_a h 61 8 := ((zv_wa w15 rfl 8).trans (zv_wa w2 rfl 8))
      refine zr_iv (cj := 163) (q' := zp_m163) (As := [.int (zI (6))]) (rest := []) (pc := 202) rfl rfl rfl rfl rfl rfl (Nat.le_of_ble_eq_true rfl) rfl (Nat.le_of_ble_eq_true rfl) ih14 ((zm_push (h := h14) ih14 (k := 6) (by omega) (by omega) (by omega)).up (Nat.le_of_ble_eq_true rfl)) ?_
      rintro r21 h24 ⟨ih24, w25, r21q, x23⟩
      subst r21q
      try dsimp only at x23
      have pj := x23.2.2.1
      have p8 := x23.2.2.2 (by omega)
      rcases zg_p1 x23 (by omega) with q26 | q26 | q26
      · clear x23
        show zx_T zp_P 3 zp_m167 205 [(2, .int (zI (zv_a h 46 p))), (0, .ref 44), (1, .int (zI (p)))] [] h24 _
        refine zx_T.j (i := .goto 237) (k := 3) (pc' := 442) (st' := []) (pc := 205) rfl rfl rfl rfl rfl ?_
        refine zx_T.l (i := .aload_n 0) (k := 1) (v := .ref 44) (pc := 442) rfl rfl rfl ?_
        refine zr_gi (k := 26) (lo := 0) (hi := 7) (e := zv_i h24 26) (pc := 443) rfl rfl rfl ih24 rfl (fun g27a g27b => ?_)
        have ae : ∀ j, 0 ≤ j → zv_a h24 61 j = zv_a h24 61 j := fun j hj => rfl
        have y32 := zv_ri ih24 (k := 25) rfl
        exact zr_ir (x := zv_i h24 26) (pc := 446) rfl rfl rfl ⟨ih24, (((w2.wd rfl : zb_W [(44, 25), (44, 26), (61, 0)] h _).tr (w15.wd rfl)).tr (w25.wd rfl)), _, rfl, by dsimp only; exact ⟨by omega, by omega, by omega, by omega, fun h0 => absurd h0 (by omega)⟩⟩
      · exact False.elim (by omega)
      · exact False.elim (by omega)
    · clear x13
      show zx_T zp_P 3 zp_m167 199 [(2, .int (zI (zv_a h 46 p))), (0, .ref 44), (1, .int (zI (p)))] [] h14 _
      refine zx_T.l (i := .aload_n 0) (k := 1) (v := .ref 44) (pc := 199) rfl rfl rfl ?_
      refine zx_T.s (i := .bipush 6) (k := 2) (st' := [.int (zI (6)), .ref 44]) (pc := 200) rfl rfl ?_
      have ap : ∀ j, 0 ≤ j → zv_a h14 61 j = zv_a h 61 j := fun j hj => by rw [zv_wa w15 rfl j, zv_wa w2 rfl j]
      have y34 : zv_a h14 61 8 = zv_a h 61 8 := ((zv_wa w15 rfl 8).trans (zv_wa w2 rfl 8))
      refine zr_iv (cj := 163) (q' := zp_m163) (As := [.int (zI (6))]) (rest := []) (pc := 202) rfl rfl rfl rfl rfl rfl (Nat.le_of_ble_eq_true rfl) rfl (Nat.le_of_ble_eq_true rfl) ih14 ((zm_push (h := h14) ih14 (k := 6) (by omega) (by omega) (by omega)).up (Nat.le_of_ble_eq_true rfl)) ?_
      rintro r37 h40 ⟨ih40, w41, r37q, x39⟩
      subst r37q
      try dsimp only at x39
      have pj := x39.2.2.1
      have p8 := x39.2.2.2 (by omega)
      rcases zg_p1 x39 (by omega) with q42 | q42 | q42
      · exact False.elim (by omega)
      · clear x39
        show zx_T zp_P 3 zp_m167 205 [(2, .int (zI (zv_a h 46 p))), (0, .ref 44), (1, .int (zI (p)))] [] h40 _
        refine zx_T.j (i := .goto 237) (k := 3) (pc' := 442) (st' := []) (pc := 205) rfl rfl rfl rfl rfl ?_
        refine zx_T.l (i := .aload_n 0) (k := 1) (v := .ref 44) (pc := 442) rfl rfl rfl ?_
        refine zr_gi (k := 26) (lo := 0) (hi := 7) (e := zv_i h40 26) (pc := 443) rfl rfl rfl ih40 rfl (fun g43a g43b => ?_)
        have ae : ∀ j, 0 ≤ j → zv_a h40 61 j = zv_a h40 61 j := fun j hj => rfl
        have y48 := zv_ri ih40 (k := 25) rfl
        exact zr_ir (x := zv_i h40 26) (pc := 446) rfl rfl rfl ⟨ih40, (((w2.wd rfl : zb_W [(44, 25), (44, 26), (61, 0)] h _).tr (w15.wd rfl)).tr (w41.wd rfl)), _, rfl, by dsimp only; exact ⟨by omega, by omega, by omega, by omega, fun h0 => absurd h0 (by omega)⟩⟩
      · clear x39
        show zx_T zp_P 3 zp_m167 205 [(2, .int (zI (zv_a h 46 p))), (0, .ref 44), (1, .int (zI (p)))] [] h40 _
        refine zx_T.j (i := .goto 237) (k := 3) (pc' := 442) (st' := []) (pc := 205) rfl rfl rfl rfl rfl ?_
        refine zx_T.l (i := .aload_n 0) (k := 1) (v := .ref 44) (pc := 442) rfl rfl rfl ?_
        refine zr_gi (k := 26) (lo := 0) (hi := 7) (e := zv_i h40 26) (pc := 443) rfl rfl rfl ih40 rfl (fun g49a g49b => ?_)
        have ae : ∀ j, 0 ≤ j → zv_a h40 61 j = zv_a h40 61 j := fun j hj => rfl
        have y54 := zv_ri ih40 (k := 25) rfl
        exact zr_ir (x := zv_i h40 26) (pc := 446) rfl rfl rfl ⟨ih40, (((w2.wd rfl : zb_W [(44, 25), (44, 26), (61, 0)] h _).tr (w15.wd rfl)).tr (w41.wd rfl)), _, rfl, by dsimp only; exact ⟨by omega, by omega, by omega, by omega, fun h0 => ⟨by omega, fun j hj => ⟨fun ho => absurd ho (by omega), fun ho => absurd ho (by omega), fun ho => absurd ho (by omega), fun ho => absurd ho (by omega), fun ho => absurd ho (by omega)⟩, fun ho j hj j2 j3 => by have d5 := ap j hj; have b4 := pj j hj; have r1 : zv_i h14 26 = 0 := (by clear b4; omega); have b5 := b4.1 r1 h0; have b6 := b4.2.1 r1 h0; clear ic; exact if z : j = zv_i h14 25 + 8 then (by have b8 := b5 z; clear b4 b5 b6; exact Or.inr (Or.inr (Or.inl ⟨by omega, by omega, by omega⟩))) else (by have b8 := b4.2.2 (fun y => by rcases y.2.2 with y | y; exact z y; exact absurd y.1 (by decide)); clear b4 b5 b6; exact Or.inl ⟨by omega, by omega, fun _ => by omega, fun _ => by omega, fun _ => by omega, fun _ => by omega⟩), fun ho => absurd ho (by omega)⟩⟩⟩

set_option maxRecDepth 100000 in
set_option maxHeartbeats 20000000 in
theorem zm_does_c8 {h : zx_H} (hI : zb_I zc_H h) {p : Int} (p1 : 0 ≤ p) (p2 : p ≤ 59) (n8 : ¬ zv_a h 61 8 = 3) (ic : zv_a h 45 p = 21 → 5 ≤ zv_a h 46 p ∧ zv_a h 46 p ≤ 8) (ov : zv_a h 45 p = 8) : zx_T zp_P 3 zp_m167 0 [(0, .ref 44), (1, .int (zI (p)))] [] h (zr_R [(44, 25), (44, 26), (61, 0)] h (fun e h' => e = zv_i h' 26 ∧ 0 ≤ e ∧ e ≤ 7 ∧ ¬ zv_a h' 61 8 = 3 ∧ (e = 0 → zg_does (zv_a h 45 p) (zv_a h 46 p) h h'))) := by
  have hS := zv_ri hI (k := 25) rfl
  refine zx_T.l (i := .aload_n 0) (k := 1) (v := .ref 44) (pc := 0) rfl rfl rfl ?_
  refine zx_T.s (i := .iconst 0) (k := 1) (st' := [.int (zI (0)), .ref 44]) (pc := 1) rfl rfl ?_
  refine zr_pi (k := 26) (lo := 0) (hi := 7) (e := 0) (pc := 2) rfl rfl rfl rfl rfl rfl hI (by omega) (by omega) (fun h1 ih1 w2 e3 => ?_)
  refine zx_T.l (i := .aload_n 0) (k := 1) (v := .ref 44) (pc := 5) rfl rfl rfl ?_
  refine zr_gr (k := 3) (b := 46) (pc := 6) rfl rfl rfl ih1 ?_
  refine zx_T.l (i := .iload_n 1) (k := 1) (v := .int (zI (p))) (pc := 9) rfl rfl rfl ?_
  refine zr_al (n := 60) (lo := (-2147483648)) (hi := 2147483647) (e := zv_a h 46 p) (pc := 10) rfl rfl rfl ih1 (by omega) (by omega) (zv_wa w2 rfl p) (fun g4a g4b => ?_)
  refine zx_T.t (i := .istore_n 2) (k := 1) (ls' := [(2, .int (zI (zv_a h 46 p))), (0, .ref 44), (1, .int (zI (p)))]) (st' := []) (pc := 11) rfl rfl rfl rfl ?_
  refine zx_T.l (i := .aload_n 0) (k := 1) (v := .ref 44) (pc := 12) rfl rfl rfl ?_
  refine zr_gr (k := 2) (b := 45) (pc := 13) rfl rfl rfl ih1 ?_
  refine zx_T.l (i := .iload_n 1) (k := 1) (v := .int (zI (p))) (pc := 16) rfl rfl rfl ?_
  refine zr_al (n := 60) (lo := 0) (hi := 28) (e := zv_a h 45 p) (pc := 17) rfl rfl rfl ih1 (by omega) (by omega) (zv_wa w2 rfl p) (fun g5a g5b => ?_)
  have c6 : zv_a h 45 p = 8 := by omega
  rcases c6 with c6
  · refine zr_sw (i := .tableswitch 424 1 28 #[126, 134, 142, 150, 158, 167, 176, 190, 198, 206, 214, 222, 222, 240, 258, 271, 284, 303, 322, 336, 350, 363, 424, 424, 372, 380, 372, 388]) (len := 126) (t := 208) (x := zv_a h 45 p) (k := 8) (pc := 18) rfl c6 rfl rfl rfl rfl ?_
    refine zx_T.l (i := .aload_n 0) (k := 1) (v := .ref 44) (pc := 208) rfl rfl rfl ?_
    refine zx_T.l (i := .iload_n 2) (k := 1) (v := .int (zI (zv_a h 46 p))) (pc := 209) rfl rfl rfl ?_
    have y7 : zv_a h1 61 8 = zv_a h 61 8 := (zv_wa w2 rfl 8)
    have y8 : zv_i h1 25 = zv_i h 25 := (zv_wi w2 rfl)
    have y9 : zv_i h1 26 = 0 := e3
    have ap : ∀ j, 0 ≤ j → zv_a h1 61 j = zv_a h 61 j := fun j hj => by rw [zv_wa w2 rfl j]
    refine zr_iv (cj := 165) (q' := zp_m165) (As := [.int (zI (zv_a h 46 p))]) (rest := []) (pc := 210) rfl rfl rfl rfl rfl rfl (Nat.le_of_ble_eq_true rfl) rfl (Nat.le_of_ble_eq_true rfl) ih1 ((zm_load (h := h1) ih1 (a := zv_a h 46 p) (by omega) (by omega) (by omega) (by omega)).up (Nat.le_of_ble_eq_true rfl)) ?_
    rintro r11 h14 ⟨ih14, w15, r11q, x13⟩
    subst r11q
    try dsimp only at x13
    have lj := x13
    show zx_T zp_P 3 zp_m167 213 [(2, .int (zI (zv_a h 46 p))), (0, .ref 44), (1, .int (zI (p)))] [] h14 _
    refine zx_T.j (i := .goto 229) (k := 3) (pc' := 442) (st' := []) (pc := 213) rfl rfl rfl rfl rfl ?_
    refine zx_T.l (i := .aload_n 0) (k := 1) (v := .ref 44) (pc := 442) rfl rfl rfl ?_
    refine zr_gi (k := 26) (lo := 0) (hi := 7) (e := zv_i h14 26) (pc := 443) rfl rfl rfl ih14 rfl (fun g16a g16b => ?_)
    have ae : ∀ j, 0 ≤ j → zv_a h14 61 j = zv_a h14 61 j := fun j hj => rfl
    have y21 := zv_ri ih14 (k := 25) rfl
    exact zr_ir (x := zv_i h14 26) (pc := 446) rfl rfl rfl ⟨ih14, ((w2.wd rfl : zb_W [(44, 25), (44, 26), (61, 0)] h _).tr (w15.wd rfl)), _, rfl, by dsimp only; exact ⟨by omega, by omega, by omega, by omega, fun h0 => ⟨by omega, fun j hj => ⟨fun ho => absurd ho (by omega), fun ho => absurd ho (by omega), fun ho => absurd ho (by omega), fun ho => absurd ho (by omega), fun ho => absurd ho (by omega)⟩, fun ho j hj j2 j3 => by have b5 := lj.2 h0; have b6 := b5.2.2.2.2.2.2 j hj; have d5 := ap j hj; have d6 := ap (zv_a h 46 p) (by omega); clear lj; omega, fun ho => absurd ho (by omega)⟩⟩⟩

set_option maxRecDepth 100000 in
set_option maxHeartbeats 20000000 in
theorem zm_does_c9 {h : zx_H} (hI : zb_I zc_H h) {p : Int} (p1 : 0 ≤ p) (p2 : p ≤ 59) (n8 : ¬ zv_a h 61 8 = 3) (ic : zv_a h 45 p = 21 → 5 ≤ zv_a h 46 p ∧ zv_a h 46 p ≤ 8) (ov : zv_a h 45 p = 9) : zx_T zp_P 3 zp_m167 0 [(0, .ref 44), (1, .int (zI (p)))] [] h (zr_R [(44, 25), (44, 26), (61, 0)] h (fun e h' => e = zv_i h' 26 ∧ 0 ≤ e ∧ e ≤ 7 ∧ ¬ zv_a h' 61 8 = 3 ∧ (e = 0 → zg_does (zv_a h 45 p) (zv_a h 46 p) h h'))) := by
  have hS := zv_ri hI (k := 25) rfl
  refine zx_T.l (i := .aload_n 0) (k := 1) (v := .ref 44) (pc := 0) rfl rfl rfl ?_
  refine zx_T.s (i := .iconst 0) (k := 1) (st' := [.int (zI (0)), .ref 44]) (pc := 1) rfl rfl ?_
  refine zr_pi (k := 26) (lo := 0) (hi := 7) (e := 0) (pc := 2) rfl rfl rfl rfl rfl rfl hI (by omega) (by omega) (fun h1 ih1 w2 e3 => ?_)
  refine zx_T.l (i := .aload_n 0) (k := 1) (v := .ref 44) (pc := 5) rfl rfl rfl ?_
  refine zr_gr (k := 3) (b := 46) (pc := 6) rfl rfl rfl ih1 ?_
  refine zx_T.l (i := .iload_n 1) (k := 1) (v := .int (zI (p))) (pc := 9) rfl rfl rfl ?_
  refine zr_al (n := 60) (lo := (-2147483648)) (hi := 2147483647) (e := zv_a h 46 p) (pc := 10) rfl rfl rfl ih1 (by omega) (by omega) (zv_wa w2 rfl p) (fun g4a g4b => ?_)
  refine zx_T.t (i := .istore_n 2) (k := 1) (ls' := [(2, .int (zI (zv_a h 46 p))), (0, .ref 44), (1, .int (zI (p)))]) (st' := []) (pc := 11) rfl rfl rfl rfl ?_
  refine zx_T.l (i := .aload_n 0) (k := 1) (v := .ref 44) (pc := 12) rfl rfl rfl ?_
  refine zr_gr (k := 2) (b := 45) (pc := 13) rfl rfl rfl ih1 ?_
  refine zx_T.l (i := .iload_n 1) (k := 1) (v := .int (zI (p))) (pc := 16) rfl rfl rfl ?_
  refine zr_al (n := 60) (lo := 0) (hi := 28) (e := zv_a h 45 p) (pc := 17) rfl rfl rfl ih1 (by omega) (by omega) (zv_wa w2 rfl p) (fun g5a g5b => ?_)
  have c6 : zv_a h 45 p = 9 := by omega
  rcases c6 with c6
  · refine zr_sw (i := .tableswitch 424 1 28 #[126, 134, 142, 150, 158, 167, 176, 190, 198, 206, 214, 222, 222, 240, 258, 271, 284, 303, 322, 336, 350, 363, 424, 424, 372, 380, 372, 388]) (len := 126) (t := 216) (x := zv_a h 45 p) (k := 9) (pc := 18) rfl c6 rfl rfl rfl rfl ?_
    refine zx_T.l (i := .aload_n 0) (k := 1) (v := .ref 44) (pc := 216) rfl rfl rfl ?_
    refine zx_T.l (i := .iload_n 2) (k := 1) (v := .int (zI (zv_a h 46 p))) (pc := 217) rfl rfl rfl ?_
    have y7 : zv_a h1 61 8 = zv_a h 61 8 := (zv_wa w2 rfl 8)
    have y8 : zv_i h1 25 = zv_i h 25 := (zv_wi w2 rfl)
    have y9 : zv_i h1 26 = 0 := e3
    have ap : ∀ j, 0 ≤ j → zv_a h1 61 j = zv_a h 61 j := fun j hj => by rw [zv_wa w2 rfl j]
    refine zr_iv (cj := 166) (q' := zp_m166) (As := [.int (zI (zv_a h 46 p))]) (rest := []) (pc := 218) rfl rfl rfl rfl rfl rfl (Nat.le_of_ble_eq_true rfl) rfl (Nat.le_of_ble_eq_true rfl) ih1 ((zm_store (h := h1) ih1 (a := zv_a h 46 p) (by omega) (by omega) (by omega) (by omega)).up (Nat.le_of_ble_eq_true rfl)) ?_
    rintro r11 h14 ⟨ih14, w15, r11q, x13⟩
    subst r11q
    try dsimp only at x13
    have sj := x13
    show zx_T zp_P 3 zp_m167 221 [(2, .int (zI (zv_a h 46 p))), (0, .ref 44), (1, .int (zI (p)))] [] h14 _
    refine zx_T.j (i := .goto 221) (k := 3) (pc' := 442) (st' := []) (pc := 221) rfl rfl rfl rfl rfl ?_
    refine zx_T.l (i := .aload_n 0) (k := 1) (v := .ref 44) (pc := 442) rfl rfl rfl ?_
    refine zr_gi (k := 26) (lo := 0) (hi := 7) (e := zv_i h14 26) (pc := 443) rfl rfl rfl ih14 rfl (fun g16a g16b => ?_)
    have ae : ∀ j, 0 ≤ j → zv_a h14 61 j = zv_a h14 61 j := fun j hj => rfl
    have y21 := zv_ri ih14 (k := 25) rfl
    exact zr_ir (x := zv_i h14 26) (pc := 446) rfl rfl rfl ⟨ih14, ((w2.wd rfl : zb_W [(44, 25), (44, 26), (61, 0)] h _).tr (w15.wd rfl)), _, rfl, by dsimp only; exact ⟨by omega, by omega, by omega, by omega, fun h0 => ⟨by omega, fun j hj => ⟨fun ho => absurd ho (by omega), fun ho => absurd ho (by omega), fun ho => absurd ho (by omega), fun ho => absurd ho (by omega), fun ho => absurd ho (by omega)⟩, fun ho => absurd (by omega) ho, fun ho i hi j hj j2 j3 => by have b5 := sj.2 h0; have b6 := b5.2.2.2.2 i (by omega) j hj; have d4 := ap i (by omega); have d5 := ap j hj; clear sj; omega⟩⟩⟩

set_option maxRecDepth 100000 in
set_option maxHeartbeats 20000000 in
theorem zm_does_c10 {h : zx_H} (hI : zb_I zc_H h) {p : Int} (p1 : 0 ≤ p) (p2 : p ≤ 59) (n8 : ¬ zv_a h 61 8 = 3) (ic : zv_a h 45 p = 21 → 5 ≤ zv_a h 46 p ∧ zv_a h 46 p ≤ 8) (ov : zv_a h 45 p = 10) : zx_T zp_P 3 zp_m167 0 [(0, .ref 44), (1, .int (zI (p)))] [] h (zr_R [(44, 25), (44, 26), (61, 0)] h (fun e h' => e = zv_i h' 26 ∧ 0 ≤ e ∧ e ≤ 7 ∧ ¬ zv_a h' 61 8 = 3 ∧ (e = 0 → zg_does (zv_a h 45 p) (zv_a h 46 p) h h'))) := by
  have hS := zv_ri hI (k := 25) rfl
  refine zx_T.l (i := .aload_n 0) (k := 1) (v := .ref 44) (pc := 0) rfl rfl rfl ?_
  refine zx_T.s (i := .iconst 0) (k := 1) (st' := [.int (zI (0)), .ref 44]) (pc := 1) rfl rfl ?_
  refine zr_pi (k := 26) (lo := 0) (hi := 7) (e := 0) (pc := 2) rfl rfl rfl rfl rfl rfl hI (by omega) (by omega) (fun h1 ih1 w2 e3 => ?_)
  refine zx_T.l (i := .aload_n 0) (k := 1) (v := .ref 44) (pc := 5) rfl rfl rfl ?_
  refine zr_gr (k := 3) (b := 46) (pc := 6) rfl rfl rfl ih1 ?_
  refine zx_T.l (i := .iload_n 1) (k := 1) (v := .int (zI (p))) (pc := 9) rfl rfl rfl ?_
  refine zr_al (n := 60) (lo := (-2147483648)) (hi := 2147483647) (e := zv_a h 46 p) (pc := 10) rfl rfl rfl ih1 (by omega) (by omega) (zv_wa w2 rfl p) (fun g4a g4b => ?_)
  refine zx_T.t (i := .istore_n 2) (k := 1) (ls' := [(2, .int (zI (zv_a h 46 p))), (0, .ref 44), (1, .int (zI (p)))]) (st' := []) (pc := 11) rfl rfl rfl rfl ?_
  refine zx_T.l (i := .aload_n 0) (k := 1) (v := .ref 44) (pc := 12) rfl rfl rfl ?_
  refine zr_gr (k := 2) (b := 45) (pc := 13) rfl rfl rfl ih1 ?_
  refine zx_T.l (i := .iload_n 1) (k := 1) (v := .int (zI (p))) (pc := 16) rfl rfl rfl ?_
  refine zr_al (n := 60) (lo := 0) (hi := 28) (e := zv_a h 45 p) (pc := 17) rfl rfl rfl ih1 (by omega) (by omega) (zv_wa w2 rfl p) (fun g5a g5b => ?_)
  have c6 : zv_a h 45 p = 10 := by omega
  rcases c6 with c6
  · refine zr_sw (i := .tableswitch 424 1 28 #[126, 134, 142, 150, 158, 167, 176, 190, 198, 206, 214, 222, 222, 240, 258, 271, 284, 303, 322, 336, 350, 363, 424, 424, 372, 380, 372, 388]) (len := 126) (t := 224) (x := zv_a h 45 p) (k := 10) (pc := 18) rfl c6 rfl rfl rfl rfl ?_
    refine zx_T.l (i := .aload_n 0) (k := 1) (v := .ref 44) (pc := 224) rfl rfl rfl ?_
    refine zx_T.s (i := .iconst 0) (k := 1) (st' := [.int (zI (0)), .ref 44]) (pc := 225) rfl rfl ?_
    have y7 : zv_a h1 61 8 = zv_a h 61 8 := (zv_wa w2 rfl 8)
    have y8 : zv_i h1 25 = zv_i h 25 := (zv_wi w2 rfl)
    have y9 : zv_i h1 26 = 0 := e3
    refine zr_iv (cj := 164) (q' := zp_m164) (As := [.int (zI (0))]) (rest := []) (pc := 226) rfl rfl rfl rfl rfl rfl (Nat.le_of_ble_eq_true rfl) rfl (Nat.le_of_ble_eq_true rfl) ih1 ((zm_pop0 (h := h1) ih1  (by omega)).up (Nat.le_of_ble_eq_true rfl)) ?_
    rintro r10 h13 ⟨ih13, w14, r10q, x12⟩
    subst r10q
    try dsimp only at x12
    show zx_T zp_P 3 zp_m167 229 [(2, .int (zI (zv_a h 46 p))), (0, .ref 44), (1, .int (zI (p)))] [] h13 _
    refine zx_T.j (i := .goto 213) (k := 3) (pc' := 442) (st' := []) (pc := 229) rfl rfl rfl rfl rfl ?_
    refine zx_T.l (i := .aload_n 0) (k := 1) (v := .ref 44) (pc := 442) rfl rfl rfl ?_
    refine zr_gi (k := 26) (lo := 0) (hi := 7) (e := zv_i h13 26) (pc := 443) rfl rfl rfl ih13 rfl (fun g15a g15b => ?_)
    have y18 : zv_a h13 61 8 = zv_a h 61 8 := ((zv_wa w14 rfl 8).trans (zv_wa w2 rfl 8))
    have ae : ∀ j, 0 ≤ j → zv_a h13 61 j = zv_a h 61 j := fun j hj => by rw [zv_wa w14 rfl j, zv_wa w2 rfl j]
    have y20 := zv_ri ih13 (k := 25) rfl
    exact zr_ir (x := zv_i h13 26) (pc := 446) rfl rfl rfl ⟨ih13, ((w2.wd rfl : zb_W [(44, 25), (44, 26), (61, 0)] h _).tr (w14.wd rfl)), _, rfl, by dsimp only; exact ⟨by omega, by omega, by omega, by omega, fun h0 => ⟨by omega, fun j hj => ⟨fun ho => absurd ho (by omega), fun ho => absurd ho (by omega), fun ho => absurd ho (by omega), fun ho => absurd ho (by omega), fun ho => absurd ho (by omega)⟩, fun ho j hj j2 j3 => by have d4 := ae j hj; omega, fun ho => absurd ho (by omega)⟩⟩⟩

set_option maxRecDepth 100000 in
set_option maxHeartbeats 20000000 in
theorem zm_does_c11 {h : zx_H} (hI : zb_I zc_H h) {p : Int} (p1 : 0 ≤ p) (p2 : p ≤ 59) (n8 : ¬ zv_a h 61 8 = 3) (ic : zv_a h 45 p = 21 → 5 ≤ zv_a h 46 p ∧ zv_a h 46 p ≤ 8) (ov : zv_a h 45 p = 11) : zx_T zp_P 3 zp_m167 0 [(0, .ref 44), (1, .int (zI (p)))] [] h (zr_R [(44, 25), (44, 26), (61, 0)] h (fun e h' => e = zv_i h' 26 ∧ 0 ≤ e ∧ e ≤ 7 ∧ ¬ zv_a h' 61 8 = 3 ∧ (e = 0 → zg_does (zv_a h 45 p) (zv_a h 46 p) h h'))) := by
  have hS := zv_ri hI (k := 25) rfl
  refine zx_T.l (i := .aload_n 0) (k := 1) (v := .ref 44) (pc := 0) rfl rfl rfl ?_
  refine zx_T.s (i := .iconst 0) (k := 1) (st' := [.int (zI (0)), .ref 44]) (pc := 1) rfl rfl ?_
  refine zr_pi (k := 26) (lo := 0) (hi := 7) (e := 0) (pc := 2) rfl rfl rfl rfl rfl rfl hI (by omega) (by omega) (fun h1 ih1 w2 e3 => ?_)
  refine zx_T.l (i := .aload_n 0) (k := 1) (v := .ref 44) (pc := 5) rfl rfl rfl ?_
  refine zr_gr (k := 3) (b := 46) (pc := 6) rfl rfl rfl ih1 ?_
  refine zx_T.l (i := .iload_n 1) (k := 1) (v := .int (zI (p))) (pc := 9) rfl rfl rfl ?_
  refine zr_al (n := 60) (lo := (-2147483648)) (hi := 2147483647) (e := zv_a h 46 p) (pc := 10) rfl rfl rfl ih1 (by omega) (by omega) (zv_wa w2 rfl p) (fun g4a g4b => ?_)
  refine zx_T.t (i := .istore_n 2) (k := 1) (ls' := [(2, .int (zI (zv_a h 46 p))), (0, .ref 44), (1, .int (zI (p)))]) (st' := []) (pc := 11) rfl rfl rfl rfl ?_
  refine zx_T.l (i := .aload_n 0) (k := 1) (v := .ref 44) (pc := 12) rfl rfl rfl ?_
  refine zr_gr (k := 2) (b := 45) (pc := 13) rfl rfl rfl ih1 ?_
  refine zx_T.l (i := .iload_n 1) (k := 1) (v := .int (zI (p))) (pc := 16) rfl rfl rfl ?_
  refine zr_al (n := 60) (lo := 0) (hi := 28) (e := zv_a h 45 p) (pc := 17) rfl rfl rfl ih1 (by omega) (by omega) (zv_wa w2 rfl p) (fun g5a g5b => ?_)
  have c6 : zv_a h 45 p = 11 := by omega
  rcases c6 with c6
  · refine zr_sw (i := .tableswitch 424 1 28 #[126, 134, 142, 150, 158, 167, 176, 190, 198, 206, 214, 222, 222, 240, 258, 271, 284, 303, 322, 336, 350, 363, 424, 424, 372, 380, 372, 388]) (len := 126) (t := 232) (x := zv_a h 45 p) (k := 11) (pc := 18) rfl c6 rfl rfl rfl rfl ?_
    refine zx_T.l (i := .aload_n 0) (k := 1) (v := .ref 44) (pc := 232) rfl rfl rfl ?_
    refine zx_T.s (i := .iconst 1) (k := 1) (st' := [.int (zI (1)), .ref 44]) (pc := 233) rfl rfl ?_
    have y7 : zv_a h1 61 8 = zv_a h 61 8 := (zv_wa w2 rfl 8)
    have y8 : zv_i h1 25 = zv_i h 25 := (zv_wi w2 rfl)
    have y9 : zv_i h1 26 = 0 := e3
    refine zr_iv (cj := 164) (q' := zp_m164) (As := [.int (zI (1))]) (rest := []) (pc := 234) rfl rfl rfl rfl rfl rfl (Nat.le_of_ble_eq_true rfl) rfl (Nat.le_of_ble_eq_true rfl) ih1 ((zm_pop1 (h := h1) ih1  (by omega)).up (Nat.le_of_ble_eq_true rfl)) ?_
    rintro r10 h13 ⟨ih13, w14, r10q, x12⟩
    subst r10q
    try dsimp only at x12
    show zx_T zp_P 3 zp_m167 237 [(2, .int (zI (zv_a h 46 p))), (0, .ref 44), (1, .int (zI (p)))] [] h13 _
    refine zx_T.j (i := .goto 205) (k := 3) (pc' := 442) (st' := []) (pc := 237) rfl rfl rfl rfl rfl ?_
    refine zx_T.l (i := .aload_n 0) (k := 1) (v := .ref 44) (pc := 442) rfl rfl rfl ?_
    refine zr_gi (k := 26) (lo := 0) (hi := 7) (e := zv_i h13 26) (pc := 443) rfl rfl rfl ih13 rfl (fun g15a g15b => ?_)
    have y18 : zv_a h13 61 8 = zv_a h 61 8 := ((zv_wa w14 rfl 8).trans (zv_wa w2 rfl 8))
    have ae : ∀ j, 0 ≤ j → zv_a h13 61 j = zv_a h 61 j := fun j hj => by rw [zv_wa w14 rfl j, zv_wa w2 rfl j]
    have y20 := zv_ri ih13 (k := 25) rfl
    exact zr_ir (x := zv_i h13 26) (pc := 446) rfl rfl rfl ⟨ih13, ((w2.wd rfl : zb_W [(44, 25), (44, 26), (61, 0)] h _).tr (w14.wd rfl)), _, rfl, by dsimp only; exact ⟨by omega, by omega, by omega, by omega, fun h0 => ⟨by omega, fun j hj => ⟨fun ho => absurd ho (by omega), fun ho => absurd ho (by omega), fun ho => absurd ho (by omega), fun ho => absurd ho (by omega), fun ho => absurd ho (by omega)⟩, fun ho j hj j2 j3 => by have d4 := ae j hj; omega, fun ho => absurd ho (by omega)⟩⟩⟩
