/-! ===== 62c: the reference, method by method (by program) ===== -/
set_option maxRecDepth 100000 in
set_option maxHeartbeats 8000000 in
theorem zm_acts_c20 {h : zx_H} (hI : zb_I zc_H h) {p : Int} {t : Int} (p1 : 0 ≤ p) (p2 : p ≤ 59) (t1 : 7 ≤ t) (t2 : t ≤ 13) (dz : zg_dz (zv_a h 45 p) (zv_a h 46 p) (t - 7) (zv_i h 25) (zv_a h 70) (zv_a h 61)) (vw : zg_VW h t) (t9 : zv_i h 38 ≤ 399) (r9 : zv_i h 41 ≤ 1000000) (r8 : (-5) ≤ zv_i h 41) (x0 : zv_i h 42 = 0) (n8 : ¬ zv_a h 61 8 = 3) (nx : zv_i h 50 = (-1)) (ci : zv_a h 45 p = 21 → 5 ≤ zv_a h 46 p ∧ zv_a h 46 p ≤ 8) (ov : zv_a h 45 p = 20) : zx_T zp_P 6 zp_m215 0 [(0, .ref 44), (1, .int (zI (p))), (2, .int (zI (t)))] [] h (zr_V [(44, 25), (61, 0), (69, 0), (44, 50), (44, 14), (44, 42), (44, 43), (44, 49), (44, 41), (44, 38), (71, 0), (72, 0)] h (fun h' => zg_ae h h')) := by
  have hS := zv_ri hI (k := 25) rfl
  have hT := zv_ri hI (k := 38) rfl
  have hC := zv_ri hI (k := 1) rfl
  refine zx_T.l (i := .aload_n 0) (k := 1) (v := .ref 44) (pc := 0) rfl rfl rfl ?_
  refine zr_gr (k := 3) (b := 46) (pc := 1) rfl rfl rfl hI ?_
  refine zx_T.l (i := .iload_n 1) (k := 1) (v := .int (zI (p))) (pc := 4) rfl rfl rfl ?_
  refine zr_al (n := 60) (lo := (-2147483648)) (hi := 2147483647) (e := zv_a h 46 p) (pc := 5) rfl rfl rfl hI (by omega) (by omega) rfl (fun g1a g1b => ?_)
  refine zx_T.t (i := .istore_n 3) (k := 1) (ls' := [(3, .int (zI (zv_a h 46 p))), (0, .ref 44), (1, .int (zI (p))), (2, .int (zI (t)))]) (st' := []) (pc := 6) rfl rfl rfl rfl ?_
  refine zx_T.l (i := .aload_n 0) (k := 1) (v := .ref 44) (pc := 7) rfl rfl rfl ?_
  refine zr_gr (k := 2) (b := 45) (pc := 8) rfl rfl rfl hI ?_
  refine zx_T.l (i := .iload_n 1) (k := 1) (v := .int (zI (p))) (pc := 11) rfl rfl rfl ?_
  refine zr_al (n := 60) (lo := 0) (hi := 28) (e := zv_a h 45 p) (pc := 12) rfl rfl rfl hI (by omega) (by omega) rfl (fun g2a g2b => ?_)
  have c3 : zv_a h 45 p = 20 := by omega
  rcases c3 with c3
  · refine zr_sw (i := .tableswitch 443 0 28 #[131, 443, 443, 443, 443, 443, 443, 443, 134, 151, 131, 131, 443, 443, 443, 443, 443, 187, 187, 187, 196, 237, 271, 311, 319, 328, 348, 367, 418]) (len := 131) (t := 209) (x := zv_a h 45 p) (k := 20) (pc := 13) rfl c3 rfl rfl rfl rfl ?_
    refine zx_T.l (i := .aload_n 0) (k := 1) (v := .ref 44) (pc := 209) rfl rfl rfl ?_
    refine zr_gr (k := 37) (b := 70) (pc := 210) rfl rfl rfl hI ?_
    refine zx_T.l (i := .iload_n 2) (k := 1) (v := .int (zI (t))) (pc := 213) rfl rfl rfl ?_
    refine zr_al (n := 14) (lo := 0) (hi := 8) (e := zv_a h 70 t) (pc := 214) rfl rfl rfl hI (by omega) (by omega) rfl (fun g4a g4b => ?_)
    refine zx_T.s (i := .iconst 4) (k := 1) (st' := [.int (zI (4)), .int (zI (zv_a h 70 t))]) (pc := 215) rfl rfl ?_
    refine zr_i2 (x := zv_a h 70 t) (y := 4) (t := 228) (pc := 216) rfl rfl (by omega) (by omega) (by omega) (by omega) (fun (c5 : ¬ (zv_a h 70 t) = 4) => ?_) (fun (c5 : ¬ (¬ (zv_a h 70 t) = 4)) => ?_)
    · have d2 := (dz.2.1 t (by omega)).2.2.2.1 (by omega) (by omega)
      have vb := vw t (by omega) (by omega) (by omega)
      have vo1 := vb.1
      have vo2 := vb.2.1
      refine zx_T.l (i := .aload_n 0) (k := 1) (v := .ref 44) (pc := 228) rfl rfl rfl ?_
      refine zr_gr (k := 36) (b := 69) (pc := 229) rfl rfl rfl hI ?_
      refine zx_T.l (i := .iload_n 2) (k := 1) (v := .int (zI (t))) (pc := 232) rfl rfl rfl ?_
      refine zx_T.l (i := .aload_n 0) (k := 1) (v := .ref 44) (pc := 233) rfl rfl rfl ?_
      refine zr_gr (k := 39) (b := 71) (pc := 234) rfl rfl rfl hI ?_
      refine zx_T.l (i := .aload_n 0) (k := 1) (v := .ref 44) (pc := 237) rfl rfl rfl ?_
      refine zr_gr (k := 36) (b := 69) (pc := 238) rfl rfl rfl hI ?_
      refine zx_T.l (i := .iload_n 2) (k := 1) (v := .int (zI (t))) (pc := 241) rfl rfl rfl ?_
      have g6 := zv_rb (h := h) 69 t
      refine zr_ll (n := 14) (e := zv_b h 69 t) (pc := 242) rfl rfl rfl hI (by omega) (by omega) rfl ?_
      refine zr_l2i (pc := 243) rfl ?_
      refine zr_al (n := 400) (lo := (-2147483648)) (hi := 2147483647) (e := zv_a h 71 (zv_b h 69 t)) (pc := 244) rfl rfl rfl hI (by omega) (by omega) rfl (fun g7a g7b => ?_)
      refine zr_i2l (pc := 245) rfl (by omega) (by omega) ?_
      refine zr_ls (n := 14) (e := zv_a h 71 (zv_b h 69 t)) (pc := 246) rfl rfl rfl hI (by omega) (by omega) (fun h8 ih8 w9 s10 => ?_)
      refine zx_T.j (i := .goto 235) (k := 3) (pc' := 482) (st' := []) (pc := 247) rfl rfl rfl rfl rfl ?_
      have i42 : zv_i h8 42 = zv_i h 42 := (zv_wi w9 rfl)
      have i43 : zv_i h8 43 = zv_i h 43 := (zv_wi w9 rfl)
      have i38 : zv_i h8 38 = zv_i h 38 := (zv_wi w9 rfl)
      have i41 : zv_i h8 41 = zv_i h 41 := (zv_wi w9 rfl)
      have i50 : zv_i h8 50 = zv_i h 50 := (zv_wi w9 rfl)
      have i25 : zv_i h8 25 = zv_i h 25 := (zv_wi w9 rfl)
      have y17 : zv_i h8 1 = zv_i h 1 := (zv_wi w9 rfl)
      have y18 : zv_a h8 61 8 = zv_a h 61 8 := (zv_wa w9 rfl 8)
      have a61 : ∀ j, 0 ≤ j → zv_a h8 61 j = zv_a h 61 j := fun j hj => by rw [zv_wa w9 rfl j]
      have a71 : ∀ j, 0 ≤ j → zv_a h8 71 j = zv_a h 71 j := fun j hj => by rw [zv_wa w9 rfl j]
      have b69 : ∀ j, 0 ≤ j → zv_b h8 69 j = if j = t then (zL (zv_a h 71 (zv_b h 69 t))).toInt else zv_b h 69 j := fun j hj => by rw [s10 j hj]
      exact zr_vr (pc := 482) rfl rfl ⟨ih8, (w9.wd rfl : zb_W [(44, 25), (61, 0), (69, 0), (44, 50), (44, 14), (44, 42), (44, 43), (44, 49), (44, 41), (44, 38), (71, 0), (72, 0)] h _), rfl, by dsimp only; exact ⟨fun _ => zg_VI1 (i := t) vw (by omega) (by omega) (fun j j0 => by rw [a61 j j0]) (fun j j0 => by rw [b69 j j0]; by_cases z : j = t; exact Or.inl z; exact Or.inr (if_neg z)) (by omega) (fun j j0 _ => by rw [a71 j j0]) (fun j j0 j1 j2 j3 => absurd j3 (by have d := zg_dk dz (by omega) (i := t) (by omega) j0 j1 j2; omega)), (by omega), by omega, by omega, by omega, by omega, by omega⟩⟩
    · refine zx_T.l (i := .aload_n 0) (k := 1) (v := .ref 44) (pc := 219) rfl rfl rfl ?_
      refine zx_T.l (i := .iload_n 1) (k := 1) (v := .int (zI (p))) (pc := 220) rfl rfl rfl ?_
      refine zx_T.s (i := .iconst 1) (k := 1) (st' := [.int (zI (1)), .int (zI (p)), .ref 44]) (pc := 221) rfl rfl ?_
      refine zr_iv (cj := 211) (q' := zp_m211) (As := [.int (zI (p)), .int (zI (1))]) (rest := []) (pc := 222) rfl rfl rfl rfl rfl rfl (Nat.le_of_ble_eq_true rfl) rfl (Nat.le_of_ble_eq_true rfl) hI ((zm_refuse (h := h) hI (p := p) (q := 1) (by omega) (by omega) (by omega) (by omega) (by omega) (by omega) (by omega) (by omega)).up (Nat.le_of_ble_eq_true rfl)) ?_
      rintro r25 h28 ⟨ih28, w29, r25q, x27⟩
      subst r25q
      try dsimp only at x27
      have rf := x27
      show zx_T zp_P 6 zp_m215 225 [(3, .int (zI (zv_a h 46 p))), (0, .ref 44), (1, .int (zI (p))), (2, .int (zI (t)))] [] h28 _
      refine zx_T.j (i := .goto 257) (k := 3) (pc' := 482) (st' := []) (pc := 225) rfl rfl rfl rfl rfl ?_
      have i42 : zv_i h28 42 = zv_i h28 42 := rfl
      have i43 : zv_i h28 43 = zv_i h28 43 := rfl
      have i38 : zv_i h28 38 = zv_i h28 38 := rfl
      have i41 : zv_i h28 41 = zv_i h28 41 := rfl
      have i50 : zv_i h28 50 = zv_i h28 50 := rfl
      have i25 : zv_i h28 25 = zv_i h28 25 := rfl
      have y36 : zv_i h28 1 = zv_i h 1 := (zv_wi w29 rfl)
      have a61 : ∀ j, 0 ≤ j → zv_a h28 61 j = zv_a h28 61 j := fun j hj => rfl
      have a71 : ∀ j, 0 ≤ j → zv_a h28 71 j = zv_a h28 71 j := fun j hj => rfl
      have b69 : ∀ j, 0 ≤ j → zv_b h28 69 j = zv_b h28 69 j := fun j hj => rfl
      exact zr_vr (pc := 482) rfl rfl ⟨ih28, (w29.wd rfl : zb_W [(44, 25), (61, 0), (69, 0), (44, 50), (44, 14), (44, 42), (44, 43), (44, 49), (44, 41), (44, 38), (71, 0), (72, 0)] h _), rfl, by dsimp only; exact zg_ae.rf hI rf (zg_lo dz vw (by omega) t1 (by omega)) x0⟩

set_option maxRecDepth 100000 in
set_option maxHeartbeats 8000000 in
theorem zm_acts_c21 {h : zx_H} (hI : zb_I zc_H h) {p : Int} {t : Int} (p1 : 0 ≤ p) (p2 : p ≤ 59) (t1 : 7 ≤ t) (t2 : t ≤ 13) (dz : zg_dz (zv_a h 45 p) (zv_a h 46 p) (t - 7) (zv_i h 25) (zv_a h 70) (zv_a h 61)) (vw : zg_VW h t) (t9 : zv_i h 38 ≤ 399) (r9 : zv_i h 41 ≤ 1000000) (r8 : (-5) ≤ zv_i h 41) (x0 : zv_i h 42 = 0) (n8 : ¬ zv_a h 61 8 = 3) (nx : zv_i h 50 = (-1)) (ci : zv_a h 45 p = 21 → 5 ≤ zv_a h 46 p ∧ zv_a h 46 p ≤ 8) (ov : zv_a h 45 p = 21) : zx_T zp_P 6 zp_m215 0 [(0, .ref 44), (1, .int (zI (p))), (2, .int (zI (t)))] [] h (zr_V [(44, 25), (61, 0), (69, 0), (44, 50), (44, 14), (44, 42), (44, 43), (44, 49), (44, 41), (44, 38), (71, 0), (72, 0)] h (fun h' => zg_ae h h')) := by
  have hS := zv_ri hI (k := 25) rfl
  have hT := zv_ri hI (k := 38) rfl
  have hC := zv_ri hI (k := 1) rfl
  refine zx_T.l (i := .aload_n 0) (k := 1) (v := .ref 44) (pc := 0) rfl rfl rfl ?_
  refine zr_gr (k := 3) (b := 46) (pc := 1) rfl rfl rfl hI ?_
  refine zx_T.l (i := .iload_n 1) (k := 1) (v := .int (zI (p))) (pc := 4) rfl rfl rfl ?_
  refine zr_al (n := 60) (lo := (-2147483648)) (hi := 2147483647) (e := zv_a h 46 p) (pc := 5) rfl rfl rfl hI (by omega) (by omega) rfl (fun g1a g1b => ?_)
  refine zx_T.t (i := .istore_n 3) (k := 1) (ls' := [(3, .int (zI (zv_a h 46 p))), (0, .ref 44), (1, .int (zI (p))), (2, .int (zI (t)))]) (st' := []) (pc := 6) rfl rfl rfl rfl ?_
  refine zx_T.l (i := .aload_n 0) (k := 1) (v := .ref 44) (pc := 7) rfl rfl rfl ?_
  refine zr_gr (k := 2) (b := 45) (pc := 8) rfl rfl rfl hI ?_
  refine zx_T.l (i := .iload_n 1) (k := 1) (v := .int (zI (p))) (pc := 11) rfl rfl rfl ?_
  refine zr_al (n := 60) (lo := 0) (hi := 28) (e := zv_a h 45 p) (pc := 12) rfl rfl rfl hI (by omega) (by omega) rfl (fun g2a g2b => ?_)
  have c3 : zv_a h 45 p = 21 := by omega
  rcases c3 with c3
  · refine zr_sw (i := .tableswitch 443 0 28 #[131, 443, 443, 443, 443, 443, 443, 443, 134, 151, 131, 131, 443, 443, 443, 443, 443, 187, 187, 187, 196, 237, 271, 311, 319, 328, 348, 367, 418]) (len := 131) (t := 250) (x := zv_a h 45 p) (k := 21) (pc := 13) rfl c3 rfl rfl rfl rfl ?_
    have d1 := dz.1.2.2.2.2.2.2.1 (by omega) (by omega)
    have d2 := (dz.2.1 t (by omega)).2.2.2.2 (by omega) (by omega)
    refine zx_T.l (i := .aload_n 0) (k := 1) (v := .ref 44) (pc := 250) rfl rfl rfl ?_
    refine zr_gr (k := 24) (b := 61) (pc := 251) rfl rfl rfl hI ?_
    refine zx_T.l (i := .iload_n 2) (k := 1) (v := .int (zI (t))) (pc := 254) rfl rfl rfl ?_
    refine zx_T.l (i := .aload_n 0) (k := 1) (v := .ref 44) (pc := 255) rfl rfl rfl ?_
    refine zr_gr (k := 37) (b := 70) (pc := 256) rfl rfl rfl hI ?_
    refine zx_T.l (i := .iload_n 2) (k := 1) (v := .int (zI (t))) (pc := 259) rfl rfl rfl ?_
    refine zr_al (n := 14) (lo := 0) (hi := 8) (e := zv_a h 70 t) (pc := 260) rfl rfl rfl hI (by omega) (by omega) rfl (fun g4a g4b => ?_)
    refine zr_as (n := 14) (lo := 0) (hi := 8) (e := zv_a h 70 t) (pc := 261) rfl rfl rfl rfl hI (by omega) (by omega) (by omega) (by omega) (fun h5 ih5 w6 s7 => ?_)
    have n9 : ¬ zv_a h5 61 8 = 3 := by have b9 := s7 8 (by omega); split at b9 <;> first | omega | (next e9 => rw [← e9] at b9 d2; omega)
    refine zx_T.l (i := .aload_n 0) (k := 1) (v := .ref 44) (pc := 262) rfl rfl rfl ?_
    refine zr_gr (k := 37) (b := 70) (pc := 263) rfl rfl rfl ih5 ?_
    refine zx_T.l (i := .iload_n 2) (k := 1) (v := .int (zI (t))) (pc := 266) rfl rfl rfl ?_
    refine zr_al (n := 14) (lo := 0) (hi := 8) (e := zv_a h 70 t) (pc := 267) rfl rfl rfl ih5 (by omega) (by omega) (zv_wa w6 rfl t) (fun g8a g8b => ?_)
    refine zx_T.l (i := .iload_n 3) (k := 1) (v := .int (zI (zv_a h 46 p))) (pc := 268) rfl rfl rfl ?_
    refine zr_is (cj := 156) (q' := zp_m156) (As := [.int (zI (zv_a h 70 t)), .int (zI (zv_a h 46 p))]) (rest := []) (pc := 269) rfl rfl rfl rfl rfl rfl (Nat.le_of_ble_eq_true rfl) rfl (Nat.le_of_ble_eq_true rfl) rfl ((zm_goesAs (h := h5) ih5 (a := zv_a h 70 t) (b := zv_a h 46 p) (by omega) (by omega) (by omega) (by omega)).up (Nat.le_of_ble_eq_true rfl)) ?_
    rintro r9 h12 ⟨h12q, v10, r9q, x11⟩
    subst h12q r9q
    try dsimp only at x11
    show zx_T zp_P 6 zp_m215 272 [(3, .int (zI (zv_a h 46 p))), (0, .ref 44), (1, .int (zI (p))), (2, .int (zI (t)))] [.int (zI (v10))] h5 _
    refine zr_i1 (x := v10) (t := 482) (pc := 272) rfl rfl (by omega) (by omega) (fun (c13 : ¬ v10 = 0) => ?_) (fun (c13 : ¬ (¬ v10 = 0)) => ?_)
    · have i42 : zv_i h5 42 = zv_i h 42 := (zv_wi w6 rfl)
      have i43 : zv_i h5 43 = zv_i h 43 := (zv_wi w6 rfl)
      have i38 : zv_i h5 38 = zv_i h 38 := (zv_wi w6 rfl)
      have i41 : zv_i h5 41 = zv_i h 41 := (zv_wi w6 rfl)
      have i50 : zv_i h5 50 = zv_i h 50 := (zv_wi w6 rfl)
      have i25 : zv_i h5 25 = zv_i h 25 := (zv_wi w6 rfl)
      have y20 : zv_i h5 1 = zv_i h 1 := (zv_wi w6 rfl)
      have a61 : ∀ j, 0 ≤ j → zv_a h5 61 j = if j = t then zv_a h 70 t else zv_a h 61 j := fun j hj => by rw [s7 j hj]
      have a71 : ∀ j, 0 ≤ j → zv_a h5 71 j = zv_a h 71 j := fun j hj => by rw [zv_wa w6 rfl j]
      have b69 : ∀ j, 0 ≤ j → zv_b h5 69 j = zv_b h 69 j := fun j hj => by rw [zv_wb w6 rfl j]
      exact zr_vr (pc := 482) rfl rfl ⟨ih5, (w6.wd rfl : zb_W [(44, 25), (61, 0), (69, 0), (44, 50), (44, 14), (44, 42), (44, 43), (44, 49), (44, 41), (44, 38), (71, 0), (72, 0)] h _), rfl, by dsimp only; exact ⟨fun _ => zg_VIc dz (by omega) vw t1 w6 (fun j j0 => a61 j j0), (by have b9 := a61 8 (by omega); have d2 := (dz.2.1 t (by omega)).2.2.2.2 (by omega) (by omega); split at b9 <;> first | omega | (next e9 => rw [← e9] at b9 d2; omega)), by omega, by omega, by omega, by omega, by omega⟩⟩
    · refine zx_T.l (i := .aload_n 0) (k := 1) (v := .ref 44) (pc := 275) rfl rfl rfl ?_
      refine zx_T.l (i := .iload_n 1) (k := 1) (v := .int (zI (p))) (pc := 276) rfl rfl rfl ?_
      refine zx_T.s (i := .iconst 4) (k := 1) (st' := [.int (zI (4)), .int (zI (p)), .ref 44]) (pc := 277) rfl rfl ?_
      have y25 : zv_i h5 38 = zv_i h 38 := (zv_wi w6 rfl)
      have y26 : zv_i h5 41 = zv_i h 41 := (zv_wi w6 rfl)
      refine zr_iv (cj := 211) (q' := zp_m211) (As := [.int (zI (p)), .int (zI (4))]) (rest := []) (pc := 278) rfl rfl rfl rfl rfl rfl (Nat.le_of_ble_eq_true rfl) rfl (Nat.le_of_ble_eq_true rfl) ih5 ((zm_refuse (h := h5) ih5 (p := p) (q := 4) (by omega) (by omega) (by omega) (by omega) (by omega) (by omega) (by omega) (by omega)).up (Nat.le_of_ble_eq_true rfl)) ?_
      rintro r28 h31 ⟨ih31, w32, r28q, x30⟩
      subst r28q
      try dsimp only at x30
      have rf := x30
      show zx_T zp_P 6 zp_m215 281 [(3, .int (zI (zv_a h 46 p))), (0, .ref 44), (1, .int (zI (p))), (2, .int (zI (t)))] [] h31 _
      refine zx_T.j (i := .goto 201) (k := 3) (pc' := 482) (st' := []) (pc := 281) rfl rfl rfl rfl rfl ?_
      have i42 : zv_i h31 42 = zv_i h31 42 := rfl
      have i43 : zv_i h31 43 = zv_i h31 43 := rfl
      have i38 : zv_i h31 38 = zv_i h31 38 := rfl
      have i41 : zv_i h31 41 = zv_i h31 41 := rfl
      have i50 : zv_i h31 50 = zv_i h31 50 := rfl
      have i25 : zv_i h31 25 = zv_i h31 25 := rfl
      have y39 : zv_i h31 1 = zv_i h 1 := ((zv_wi w32 rfl).trans (zv_wi w6 rfl))
      have a61 : ∀ j, 0 ≤ j → zv_a h31 61 j = zv_a h31 61 j := fun j hj => rfl
      have a71 : ∀ j, 0 ≤ j → zv_a h31 71 j = zv_a h31 71 j := fun j hj => rfl
      have b69 : ∀ j, 0 ≤ j → zv_b h31 69 j = zv_b h31 69 j := fun j hj => rfl
      exact zr_vr (pc := 482) rfl rfl ⟨ih31, ((w6.wd rfl : zb_W [(44, 25), (61, 0), (69, 0), (44, 50), (44, 14), (44, 42), (44, 43), (44, 49), (44, 41), (44, 38), (71, 0), (72, 0)] h _).tr (w32.wd rfl)), rfl, by dsimp only; exact (zg_ae.rf ih5 rf (fun j j0 j1 j2 => by rw [zv_wb w6 (a := 69) rfl]; have q : zv_a h5 61 j = zv_a h 61 j := (by rw [s7 j j0, if_neg (by omega)]); rw [q] at j2 ⊢; exact (zg_lo dz vw (by omega) t1 (by omega) j j0 j1 j2).w w6 rfl rfl) (by rw [zv_wi w6 rfl]; exact x0)).ba w6⟩

set_option maxRecDepth 100000 in
set_option maxHeartbeats 8000000 in
theorem zm_acts_c22 {h : zx_H} (hI : zb_I zc_H h) {p : Int} {t : Int} (p1 : 0 ≤ p) (p2 : p ≤ 59) (t1 : 7 ≤ t) (t2 : t ≤ 13) (dz : zg_dz (zv_a h 45 p) (zv_a h 46 p) (t - 7) (zv_i h 25) (zv_a h 70) (zv_a h 61)) (vw : zg_VW h t) (t9 : zv_i h 38 ≤ 399) (r9 : zv_i h 41 ≤ 1000000) (r8 : (-5) ≤ zv_i h 41) (x0 : zv_i h 42 = 0) (n8 : ¬ zv_a h 61 8 = 3) (nx : zv_i h 50 = (-1)) (ci : zv_a h 45 p = 21 → 5 ≤ zv_a h 46 p ∧ zv_a h 46 p ≤ 8) (ov : zv_a h 45 p = 22) : zx_T zp_P 6 zp_m215 0 [(0, .ref 44), (1, .int (zI (p))), (2, .int (zI (t)))] [] h (zr_V [(44, 25), (61, 0), (69, 0), (44, 50), (44, 14), (44, 42), (44, 43), (44, 49), (44, 41), (44, 38), (71, 0), (72, 0)] h (fun h' => zg_ae h h')) := by
  have hS := zv_ri hI (k := 25) rfl
  have hT := zv_ri hI (k := 38) rfl
  have hC := zv_ri hI (k := 1) rfl
  refine zx_T.l (i := .aload_n 0) (k := 1) (v := .ref 44) (pc := 0) rfl rfl rfl ?_
  refine zr_gr (k := 3) (b := 46) (pc := 1) rfl rfl rfl hI ?_
  refine zx_T.l (i := .iload_n 1) (k := 1) (v := .int (zI (p))) (pc := 4) rfl rfl rfl ?_
  refine zr_al (n := 60) (lo := (-2147483648)) (hi := 2147483647) (e := zv_a h 46 p) (pc := 5) rfl rfl rfl hI (by omega) (by omega) rfl (fun g1a g1b => ?_)
  refine zx_T.t (i := .istore_n 3) (k := 1) (ls' := [(3, .int (zI (zv_a h 46 p))), (0, .ref 44), (1, .int (zI (p))), (2, .int (zI (t)))]) (st' := []) (pc := 6) rfl rfl rfl rfl ?_
  refine zx_T.l (i := .aload_n 0) (k := 1) (v := .ref 44) (pc := 7) rfl rfl rfl ?_
  refine zr_gr (k := 2) (b := 45) (pc := 8) rfl rfl rfl hI ?_
  refine zx_T.l (i := .iload_n 1) (k := 1) (v := .int (zI (p))) (pc := 11) rfl rfl rfl ?_
  refine zr_al (n := 60) (lo := 0) (hi := 28) (e := zv_a h 45 p) (pc := 12) rfl rfl rfl hI (by omega) (by omega) rfl (fun g2a g2b => ?_)
  have c3 : zv_a h 45 p = 22 := by omega
  rcases c3 with c3
  · refine zr_sw (i := .tableswitch 443 0 28 #[131, 443, 443, 443, 443, 443, 443, 443, 134, 151, 131, 131, 443, 443, 443, 443, 443, 187, 187, 187, 196, 237, 271, 311, 319, 328, 348, 367, 418]) (len := 131) (t := 284) (x := zv_a h 45 p) (k := 22) (pc := 13) rfl c3 rfl rfl rfl rfl ?_
    refine zx_T.l (i := .aload_n 0) (k := 1) (v := .ref 44) (pc := 284) rfl rfl rfl ?_
    refine zr_gr (k := 37) (b := 70) (pc := 285) rfl rfl rfl hI ?_
    refine zx_T.l (i := .iload_n 2) (k := 1) (v := .int (zI (t))) (pc := 288) rfl rfl rfl ?_
    refine zr_al (n := 14) (lo := 0) (hi := 8) (e := zv_a h 70 t) (pc := 289) rfl rfl rfl hI (by omega) (by omega) rfl (fun g4a g4b => ?_)
    refine zx_T.s (i := .iconst 4) (k := 1) (st' := [.int (zI (4)), .int (zI (zv_a h 70 t))]) (pc := 290) rfl rfl ?_
    refine zr_i2 (x := zv_a h 70 t) (y := 4) (t := 303) (pc := 291) rfl rfl (by omega) (by omega) (by omega) (by omega) (fun (c5 : ¬ (zv_a h 70 t) = 4) => ?_) (fun (c5 : ¬ (¬ (zv_a h 70 t) = 4)) => ?_)
    · have d2 := (dz.2.1 t (by omega)).2.2.2.1 (by omega) (by omega)
      have vb := vw t (by omega) (by omega) (by omega)
      have vo1 := vb.1
      have vo2 := vb.2.1
      refine zx_T.l (i := .aload_n 0) (k := 1) (v := .ref 44) (pc := 303) rfl rfl rfl ?_
      refine zx_T.l (i := .iload_n 1) (k := 1) (v := .int (zI (p))) (pc := 304) rfl rfl rfl ?_
      refine zx_T.l (i := .aload_n 0) (k := 1) (v := .ref 44) (pc := 305) rfl rfl rfl ?_
      refine zr_gr (k := 37) (b := 70) (pc := 306) rfl rfl rfl hI ?_
      refine zx_T.l (i := .iload_n 2) (k := 1) (v := .int (zI (t))) (pc := 309) rfl rfl rfl ?_
      refine zr_al (n := 14) (lo := 0) (hi := 8) (e := zv_a h 70 t) (pc := 310) rfl rfl rfl hI (by omega) (by omega) rfl (fun g6a g6b => ?_)
      refine zx_T.l (i := .aload_n 0) (k := 1) (v := .ref 44) (pc := 311) rfl rfl rfl ?_
      refine zr_gr (k := 36) (b := 69) (pc := 312) rfl rfl rfl hI ?_
      refine zx_T.l (i := .iload_n 2) (k := 1) (v := .int (zI (t))) (pc := 315) rfl rfl rfl ?_
      have g7 := zv_rb (h := h) 69 t
      refine zr_ll (n := 14) (e := zv_b h 69 t) (pc := 316) rfl rfl rfl hI (by omega) (by omega) rfl ?_
      refine zr_l2i (pc := 317) rfl ?_
      refine zr_iv (cj := 210) (q' := zp_m210) (As := [.int (zI (p)), .int (zI (zv_a h 70 t)), .int (zI (zv_b h 69 t))]) (rest := []) (pc := 318) rfl rfl rfl rfl rfl rfl (Nat.le_of_ble_eq_true rfl) rfl (Nat.le_of_ble_eq_true rfl) hI ((zm_raise (h := h) hI (p := p) (k := zv_a h 70 t) (w := zv_b h 69 t) (by omega) (by omega) (by omega) (by omega) (by omega) (by omega) (by omega)).up (Nat.le_of_ble_eq_true rfl)) ?_
      rintro r11 h14 ⟨ih14, w15, r11q, x13⟩
      subst r11q
      try dsimp only at x13
      have ra := x13
      show zx_T zp_P 6 zp_m215 321 [(3, .int (zI (zv_a h 46 p))), (0, .ref 44), (1, .int (zI (p))), (2, .int (zI (t)))] [] h14 _
      refine zx_T.j (i := .goto 161) (k := 3) (pc' := 482) (st' := []) (pc := 321) rfl rfl rfl rfl rfl ?_
      have i42 : zv_i h14 42 = zv_i h14 42 := rfl
      have i43 : zv_i h14 43 = zv_i h14 43 := rfl
      have i38 : zv_i h14 38 = zv_i h 38 := (zv_wi w15 rfl)
      have i41 : zv_i h14 41 = zv_i h 41 := (zv_wi w15 rfl)
      have i50 : zv_i h14 50 = zv_i h14 50 := rfl
      have i25 : zv_i h14 25 = zv_i h14 25 := rfl
      have y22 : zv_i h14 1 = zv_i h 1 := (zv_wi w15 rfl)
      have a61 : ∀ j, 0 ≤ j → zv_a h14 61 j = zv_a h14 61 j := fun j hj => rfl
      have a71 : ∀ j, 0 ≤ j → zv_a h14 71 j = zv_a h 71 j := fun j hj => by rw [zv_wa w15 rfl j]
      have b69 : ∀ j, 0 ≤ j → zv_b h14 69 j = zv_b h14 69 j := fun j hj => rfl
      exact zr_vr (pc := 482) rfl rfl ⟨ih14, (w15.wd rfl : zb_W [(44, 25), (61, 0), (69, 0), (44, 50), (44, 14), (44, 42), (44, 43), (44, 49), (44, 41), (44, 38), (71, 0), (72, 0)] h _), rfl, by dsimp only; exact zg_ae.ra ra (by omega) (by omega) (by omega) (by omega) (by omega) (fun j j0 => by rw [a71 j j0]) (zg_lo dz vw (by omega) t1 (by omega)) x0⟩
    · refine zx_T.l (i := .aload_n 0) (k := 1) (v := .ref 44) (pc := 294) rfl rfl rfl ?_
      refine zx_T.l (i := .iload_n 1) (k := 1) (v := .int (zI (p))) (pc := 295) rfl rfl rfl ?_
      refine zx_T.s (i := .iconst 1) (k := 1) (st' := [.int (zI (1)), .int (zI (p)), .ref 44]) (pc := 296) rfl rfl ?_
      refine zr_iv (cj := 211) (q' := zp_m211) (As := [.int (zI (p)), .int (zI (1))]) (rest := []) (pc := 297) rfl rfl rfl rfl rfl rfl (Nat.le_of_ble_eq_true rfl) rfl (Nat.le_of_ble_eq_true rfl) hI ((zm_refuse (h := h) hI (p := p) (q := 1) (by omega) (by omega) (by omega) (by omega) (by omega) (by omega) (by omega) (by omega)).up (Nat.le_of_ble_eq_true rfl)) ?_
      rintro r30 h33 ⟨ih33, w34, r30q, x32⟩
      subst r30q
      try dsimp only at x32
      have rf := x32
      show zx_T zp_P 6 zp_m215 300 [(3, .int (zI (zv_a h 46 p))), (0, .ref 44), (1, .int (zI (p))), (2, .int (zI (t)))] [] h33 _
      refine zx_T.j (i := .goto 182) (k := 3) (pc' := 482) (st' := []) (pc := 300) rfl rfl rfl rfl rfl ?_
      have i42 : zv_i h33 42 = zv_i h33 42 := rfl
      have i43 : zv_i h33 43 = zv_i h33 43 := rfl
      have i38 : zv_i h33 38 = zv_i h33 38 := rfl
      have i41 : zv_i h33 41 = zv_i h33 41 := rfl
      have i50 : zv_i h33 50 = zv_i h33 50 := rfl
      have i25 : zv_i h33 25 = zv_i h33 25 := rfl
      have y41 : zv_i h33 1 = zv_i h 1 := (zv_wi w34 rfl)
      have a61 : ∀ j, 0 ≤ j → zv_a h33 61 j = zv_a h33 61 j := fun j hj => rfl
      have a71 : ∀ j, 0 ≤ j → zv_a h33 71 j = zv_a h33 71 j := fun j hj => rfl
      have b69 : ∀ j, 0 ≤ j → zv_b h33 69 j = zv_b h33 69 j := fun j hj => rfl
      exact zr_vr (pc := 482) rfl rfl ⟨ih33, (w34.wd rfl : zb_W [(44, 25), (61, 0), (69, 0), (44, 50), (44, 14), (44, 42), (44, 43), (44, 49), (44, 41), (44, 38), (71, 0), (72, 0)] h _), rfl, by dsimp only; exact zg_ae.rf hI rf (zg_lo dz vw (by omega) t1 (by omega)) x0⟩

set_option maxRecDepth 100000 in
set_option maxHeartbeats 8000000 in
theorem zm_acts_c23 {h : zx_H} (hI : zb_I zc_H h) {p : Int} {t : Int} (p1 : 0 ≤ p) (p2 : p ≤ 59) (t1 : 7 ≤ t) (t2 : t ≤ 13) (dz : zg_dz (zv_a h 45 p) (zv_a h 46 p) (t - 7) (zv_i h 25) (zv_a h 70) (zv_a h 61)) (vw : zg_VW h t) (t9 : zv_i h 38 ≤ 399) (r9 : zv_i h 41 ≤ 1000000) (r8 : (-5) ≤ zv_i h 41) (x0 : zv_i h 42 = 0) (n8 : ¬ zv_a h 61 8 = 3) (nx : zv_i h 50 = (-1)) (ci : zv_a h 45 p = 21 → 5 ≤ zv_a h 46 p ∧ zv_a h 46 p ≤ 8) (ov : zv_a h 45 p = 23) : zx_T zp_P 6 zp_m215 0 [(0, .ref 44), (1, .int (zI (p))), (2, .int (zI (t)))] [] h (zr_V [(44, 25), (61, 0), (69, 0), (44, 50), (44, 14), (44, 42), (44, 43), (44, 49), (44, 41), (44, 38), (71, 0), (72, 0)] h (fun h' => zg_ae h h')) := by
  have hS := zv_ri hI (k := 25) rfl
  have hT := zv_ri hI (k := 38) rfl
  have hC := zv_ri hI (k := 1) rfl
  refine zx_T.l (i := .aload_n 0) (k := 1) (v := .ref 44) (pc := 0) rfl rfl rfl ?_
  refine zr_gr (k := 3) (b := 46) (pc := 1) rfl rfl rfl hI ?_
  refine zx_T.l (i := .iload_n 1) (k := 1) (v := .int (zI (p))) (pc := 4) rfl rfl rfl ?_
  refine zr_al (n := 60) (lo := (-2147483648)) (hi := 2147483647) (e := zv_a h 46 p) (pc := 5) rfl rfl rfl hI (by omega) (by omega) rfl (fun g1a g1b => ?_)
  refine zx_T.t (i := .istore_n 3) (k := 1) (ls' := [(3, .int (zI (zv_a h 46 p))), (0, .ref 44), (1, .int (zI (p))), (2, .int (zI (t)))]) (st' := []) (pc := 6) rfl rfl rfl rfl ?_
  refine zx_T.l (i := .aload_n 0) (k := 1) (v := .ref 44) (pc := 7) rfl rfl rfl ?_
  refine zr_gr (k := 2) (b := 45) (pc := 8) rfl rfl rfl hI ?_
  refine zx_T.l (i := .iload_n 1) (k := 1) (v := .int (zI (p))) (pc := 11) rfl rfl rfl ?_
  refine zr_al (n := 60) (lo := 0) (hi := 28) (e := zv_a h 45 p) (pc := 12) rfl rfl rfl hI (by omega) (by omega) rfl (fun g2a g2b => ?_)
  have c3 : zv_a h 45 p = 23 := by omega
  rcases c3 with c3
  · refine zr_sw (i := .tableswitch 443 0 28 #[131, 443, 443, 443, 443, 443, 443, 443, 134, 151, 131, 131, 443, 443, 443, 443, 443, 187, 187, 187, 196, 237, 271, 311, 319, 328, 348, 367, 418]) (len := 131) (t := 324) (x := zv_a h 45 p) (k := 23) (pc := 13) rfl c3 rfl rfl rfl rfl ?_
    refine zx_T.l (i := .aload_n 0) (k := 1) (v := .ref 44) (pc := 324) rfl rfl rfl ?_
    refine zx_T.s (i := .iconst 0) (k := 1) (st' := [.int (zI (0)), .ref 44]) (pc := 325) rfl rfl ?_
    refine zr_iv (cj := 207) (q' := zp_m207) (As := [.int (zI (0))]) (rest := []) (pc := 326) rfl rfl rfl rfl rfl rfl (Nat.le_of_ble_eq_true rfl) rfl (Nat.le_of_ble_eq_true rfl) hI ((zm_over (h := h) hI (w := 0) (by omega) (by omega)).up (Nat.le_of_ble_eq_true rfl)) ?_
    rintro r4 h7 ⟨ih7, w8, r4q, x6⟩
    subst r4q
    try dsimp only at x6
    show zx_T zp_P 6 zp_m215 329 [(3, .int (zI (zv_a h 46 p))), (0, .ref 44), (1, .int (zI (p))), (2, .int (zI (t)))] [] h7 _
    refine zx_T.j (i := .goto 153) (k := 3) (pc' := 482) (st' := []) (pc := 329) rfl rfl rfl rfl rfl ?_
    have i42 : zv_i h7 42 = zv_i h7 42 := rfl
    have i43 : zv_i h7 43 = zv_i h7 43 := rfl
    have i38 : zv_i h7 38 = zv_i h 38 := (zv_wi w8 rfl)
    have i41 : zv_i h7 41 = zv_i h 41 := (zv_wi w8 rfl)
    have i50 : zv_i h7 50 = zv_i h 50 := (zv_wi w8 rfl)
    have i25 : zv_i h7 25 = zv_i h 25 := (zv_wi w8 rfl)
    have y15 : zv_i h7 1 = zv_i h 1 := (zv_wi w8 rfl)
    have y16 : zv_a h7 61 8 = zv_a h 61 8 := (zv_wa w8 rfl 8)
    have a61 : ∀ j, 0 ≤ j → zv_a h7 61 j = zv_a h 61 j := fun j hj => by rw [zv_wa w8 rfl j]
    have a71 : ∀ j, 0 ≤ j → zv_a h7 71 j = zv_a h 71 j := fun j hj => by rw [zv_wa w8 rfl j]
    have b69 : ∀ j, 0 ≤ j → zv_b h7 69 j = zv_b h 69 j := fun j hj => by rw [zv_wb w8 rfl j]
    exact zr_vr (pc := 482) rfl rfl ⟨ih7, (w8.wd rfl : zb_W [(44, 25), (61, 0), (69, 0), (44, 50), (44, 14), (44, 42), (44, 43), (44, 49), (44, 41), (44, 38), (71, 0), (72, 0)] h _), rfl, by dsimp only; exact ⟨fun _ => zg_VI1 (i := (-1)) vw (by omega) (by omega) (fun j j0 => by rw [a61 j j0]) (fun j j0 => Or.inr (b69 j j0)) (by omega) (fun j j0 _ => by rw [a71 j j0]) (fun j j0 j1 j2 j3 => absurd j3 (by have d := zg_dk dz (by omega) (i := (-1)) (by omega) j0 j1 j2; omega)), (by omega), by omega, by omega, by omega, by omega, by omega⟩⟩

set_option maxRecDepth 100000 in
set_option maxHeartbeats 8000000 in
theorem zm_acts_c24 {h : zx_H} (hI : zb_I zc_H h) {p : Int} {t : Int} (p1 : 0 ≤ p) (p2 : p ≤ 59) (t1 : 7 ≤ t) (t2 : t ≤ 13) (dz : zg_dz (zv_a h 45 p) (zv_a h 46 p) (t - 7) (zv_i h 25) (zv_a h 70) (zv_a h 61)) (vw : zg_VW h t) (t9 : zv_i h 38 ≤ 399) (r9 : zv_i h 41 ≤ 1000000) (r8 : (-5) ≤ zv_i h 41) (x0 : zv_i h 42 = 0) (n8 : ¬ zv_a h 61 8 = 3) (nx : zv_i h 50 = (-1)) (ci : zv_a h 45 p = 21 → 5 ≤ zv_a h 46 p ∧ zv_a h 46 p ≤ 8) (ov : zv_a h 45 p = 24) : zx_T zp_P 6 zp_m215 0 [(0, .ref 44), (1, .int (zI (p))), (2, .int (zI (t)))] [] h (zr_V [(44, 25), (61, 0), (69, 0), (44, 50), (44, 14), (44, 42), (44, 43), (44, 49), (44, 41), (44, 38), (71, 0), (72, 0)] h (fun h' => zg_ae h h')) := by
  have hS := zv_ri hI (k := 25) rfl
  have hT := zv_ri hI (k := 38) rfl
  have hC := zv_ri hI (k := 1) rfl
  refine zx_T.l (i := .aload_n 0) (k := 1) (v := .ref 44) (pc := 0) rfl rfl rfl ?_
  refine zr_gr (k := 3) (b := 46) (pc := 1) rfl rfl rfl hI ?_
  refine zx_T.l (i := .iload_n 1) (k := 1) (v := .int (zI (p))) (pc := 4) rfl rfl rfl ?_
  refine zr_al (n := 60) (lo := (-2147483648)) (hi := 2147483647) (e := zv_a h 46 p) (pc := 5) rfl rfl rfl hI (by omega) (by omega) rfl (fun g1a g1b => ?_)
  refine zx_T.t (i := .istore_n 3) (k := 1) (ls' := [(3, .int (zI (zv_a h 46 p))), (0, .ref 44), (1, .int (zI (p))), (2, .int (zI (t)))]) (st' := []) (pc := 6) rfl rfl rfl rfl ?_
  refine zx_T.l (i := .aload_n 0) (k := 1) (v := .ref 44) (pc := 7) rfl rfl rfl ?_
  refine zr_gr (k := 2) (b := 45) (pc := 8) rfl rfl rfl hI ?_
  refine zx_T.l (i := .iload_n 1) (k := 1) (v := .int (zI (p))) (pc := 11) rfl rfl rfl ?_
  refine zr_al (n := 60) (lo := 0) (hi := 28) (e := zv_a h 45 p) (pc := 12) rfl rfl rfl hI (by omega) (by omega) rfl (fun g2a g2b => ?_)
  have c3 : zv_a h 45 p = 24 := by omega
  rcases c3 with c3
  · refine zr_sw (i := .tableswitch 443 0 28 #[131, 443, 443, 443, 443, 443, 443, 443, 134, 151, 131, 131, 443, 443, 443, 443, 443, 187, 187, 187, 196, 237, 271, 311, 319, 328, 348, 367, 418]) (len := 131) (t := 332) (x := zv_a h 45 p) (k := 24) (pc := 13) rfl c3 rfl rfl rfl rfl ?_
    refine zx_T.l (i := .aload_n 0) (k := 1) (v := .ref 44) (pc := 332) rfl rfl rfl ?_
    refine zx_T.l (i := .iload_n 3) (k := 1) (v := .int (zI (zv_a h 46 p))) (pc := 333) rfl rfl rfl ?_
    refine zx_T.l (i := .iload_n 1) (k := 1) (v := .int (zI (p))) (pc := 334) rfl rfl rfl ?_
    refine zr_iv (cj := 209) (q' := zp_m209) (As := [.int (zI (zv_a h 46 p)), .int (zI (p))]) (rest := []) (pc := 335) rfl rfl rfl rfl rfl rfl (Nat.le_of_ble_eq_true rfl) rfl (Nat.le_of_ble_eq_true rfl) hI ((zm_go (h := h) hI (q := zv_a h 46 p) (p := p) (by omega) (by omega) (by omega) (by omega)).up (Nat.le_of_ble_eq_true rfl)) ?_
    rintro r6 h9 ⟨ih9, w10, r6q, x8⟩
    subst r6q
    try dsimp only at x8
    show zx_T zp_P 6 zp_m215 338 [(3, .int (zI (zv_a h 46 p))), (0, .ref 44), (1, .int (zI (p))), (2, .int (zI (t)))] [] h9 _
    refine zx_T.j (i := .goto 144) (k := 3) (pc' := 482) (st' := []) (pc := 338) rfl rfl rfl rfl rfl ?_
    have i42 : zv_i h9 42 = zv_i h9 42 := rfl
    have i43 : zv_i h9 43 = zv_i h9 43 := rfl
    have i38 : zv_i h9 38 = zv_i h 38 := (zv_wi w10 rfl)
    have i41 : zv_i h9 41 = zv_i h 41 := (zv_wi w10 rfl)
    have i50 : zv_i h9 50 = zv_i h9 50 := rfl
    have i25 : zv_i h9 25 = zv_i h 25 := (zv_wi w10 rfl)
    have y17 : zv_i h9 1 = zv_i h 1 := (zv_wi w10 rfl)
    have y18 : zv_a h9 61 8 = zv_a h 61 8 := (zv_wa w10 rfl 8)
    have a61 : ∀ j, 0 ≤ j → zv_a h9 61 j = zv_a h 61 j := fun j hj => by rw [zv_wa w10 rfl j]
    have a71 : ∀ j, 0 ≤ j → zv_a h9 71 j = zv_a h 71 j := fun j hj => by rw [zv_wa w10 rfl j]
    have b69 : ∀ j, 0 ≤ j → zv_b h9 69 j = zv_b h 69 j := fun j hj => by rw [zv_wb w10 rfl j]
    exact zr_vr (pc := 482) rfl rfl ⟨ih9, (w10.wd rfl : zb_W [(44, 25), (61, 0), (69, 0), (44, 50), (44, 14), (44, 42), (44, 43), (44, 49), (44, 41), (44, 38), (71, 0), (72, 0)] h _), rfl, by dsimp only; exact ⟨fun _ => zg_VI1 (i := (-1)) vw (by omega) (by omega) (fun j j0 => by rw [a61 j j0]) (fun j j0 => Or.inr (b69 j j0)) (by omega) (fun j j0 _ => by rw [a71 j j0]) (fun j j0 j1 j2 j3 => absurd j3 (by have d := zg_dk dz (by omega) (i := (-1)) (by omega) j0 j1 j2; omega)), (by omega), by omega, by omega, by omega, by omega, by omega⟩⟩

set_option maxRecDepth 100000 in
set_option maxHeartbeats 8000000 in
theorem zm_acts_c25 {h : zx_H} (hI : zb_I zc_H h) {p : Int} {t : Int} (p1 : 0 ≤ p) (p2 : p ≤ 59) (t1 : 7 ≤ t) (t2 : t ≤ 13) (dz : zg_dz (zv_a h 45 p) (zv_a h 46 p) (t - 7) (zv_i h 25) (zv_a h 70) (zv_a h 61)) (vw : zg_VW h t) (t9 : zv_i h 38 ≤ 399) (r9 : zv_i h 41 ≤ 1000000) (r8 : (-5) ≤ zv_i h 41) (x0 : zv_i h 42 = 0) (n8 : ¬ zv_a h 61 8 = 3) (nx : zv_i h 50 = (-1)) (ci : zv_a h 45 p = 21 → 5 ≤ zv_a h 46 p ∧ zv_a h 46 p ≤ 8) (ov : zv_a h 45 p = 25) : zx_T zp_P 6 zp_m215 0 [(0, .ref 44), (1, .int (zI (p))), (2, .int (zI (t)))] [] h (zr_V [(44, 25), (61, 0), (69, 0), (44, 50), (44, 14), (44, 42), (44, 43), (44, 49), (44, 41), (44, 38), (71, 0), (72, 0)] h (fun h' => zg_ae h h')) := by
  have hS := zv_ri hI (k := 25) rfl
  have hT := zv_ri hI (k := 38) rfl
  have hC := zv_ri hI (k := 1) rfl
  refine zx_T.l (i := .aload_n 0) (k := 1) (v := .ref 44) (pc := 0) rfl rfl rfl ?_
  refine zr_gr (k := 3) (b := 46) (pc := 1) rfl rfl rfl hI ?_
  refine zx_T.l (i := .iload_n 1) (k := 1) (v := .int (zI (p))) (pc := 4) rfl rfl rfl ?_
  refine zr_al (n := 60) (lo := (-2147483648)) (hi := 2147483647) (e := zv_a h 46 p) (pc := 5) rfl rfl rfl hI (by omega) (by omega) rfl (fun g1a g1b => ?_)
  refine zx_T.t (i := .istore_n 3) (k := 1) (ls' := [(3, .int (zI (zv_a h 46 p))), (0, .ref 44), (1, .int (zI (p))), (2, .int (zI (t)))]) (st' := []) (pc := 6) rfl rfl rfl rfl ?_
  refine zx_T.l (i := .aload_n 0) (k := 1) (v := .ref 44) (pc := 7) rfl rfl rfl ?_
  refine zr_gr (k := 2) (b := 45) (pc := 8) rfl rfl rfl hI ?_
  refine zx_T.l (i := .iload_n 1) (k := 1) (v := .int (zI (p))) (pc := 11) rfl rfl rfl ?_
  refine zr_al (n := 60) (lo := 0) (hi := 28) (e := zv_a h 45 p) (pc := 12) rfl rfl rfl hI (by omega) (by omega) rfl (fun g2a g2b => ?_)
  have c3 : zv_a h 45 p = 25 := by omega
  rcases c3 with c3
  · refine zr_sw (i := .tableswitch 443 0 28 #[131, 443, 443, 443, 443, 443, 443, 443, 134, 151, 131, 131, 443, 443, 443, 443, 443, 187, 187, 187, 196, 237, 271, 311, 319, 328, 348, 367, 418]) (len := 131) (t := 341) (x := zv_a h 45 p) (k := 25) (pc := 13) rfl c3 rfl rfl rfl rfl ?_
    refine zx_T.l (i := .aload_n 0) (k := 1) (v := .ref 44) (pc := 341) rfl rfl rfl ?_
    refine zr_gr (k := 36) (b := 69) (pc := 342) rfl rfl rfl hI ?_
    refine zx_T.l (i := .iload_n 2) (k := 1) (v := .int (zI (t))) (pc := 345) rfl rfl rfl ?_
    have g4 := zv_rb (h := h) 69 t
    refine zr_ll (n := 14) (e := zv_b h 69 t) (pc := 346) rfl rfl rfl hI (by omega) (by omega) rfl ?_
    refine zx_T.s (i := .lconst 0) (k := 1) (st' := [.long (zL (0)), .long (zL (zv_b h 69 t))]) (pc := 347) rfl rfl ?_
    refine zr_lcmp (pc := 348) rfl (by omega) (by omega) (by omega) (by omega) (fun z5 z5a => ?_)
    refine zr_i1 (x := z5) (t := 482) (pc := 349) rfl rfl (by omega) (by omega) (fun (c6 : ¬ z5 = 0) => ?_) (fun (c6 : ¬ (¬ z5 = 0)) => ?_)
    · have i42 : zv_i h 42 = zv_i h 42 := rfl
      have i43 : zv_i h 43 = zv_i h 43 := rfl
      have i38 : zv_i h 38 = zv_i h 38 := rfl
      have i41 : zv_i h 41 = zv_i h 41 := rfl
      have i50 : zv_i h 50 = zv_i h 50 := rfl
      have i25 : zv_i h 25 = zv_i h 25 := rfl
      have a61 : ∀ j, 0 ≤ j → zv_a h 61 j = zv_a h 61 j := fun j hj => rfl
      have a71 : ∀ j, 0 ≤ j → zv_a h 71 j = zv_a h 71 j := fun j hj => rfl
      have b69 : ∀ j, 0 ≤ j → zv_b h 69 j = zv_b h 69 j := fun j hj => rfl
      exact zr_vr (pc := 482) rfl rfl ⟨hI, zb_W.rf, rfl, by dsimp only; exact ⟨fun _ => zg_VI1 (i := (-1)) vw (by omega) (by omega) (fun j j0 => by rw [a61 j j0]) (fun j j0 => Or.inr (b69 j j0)) (by omega) (fun j j0 _ => by rw [a71 j j0]) (fun j j0 j1 j2 j3 => absurd j3 (by have d := zg_dk dz (by omega) (i := (-1)) (by omega) j0 j1 j2; omega)), (by omega), by omega, by omega, by omega, by omega, by omega⟩⟩
    · refine zx_T.l (i := .aload_n 0) (k := 1) (v := .ref 44) (pc := 352) rfl rfl rfl ?_
      refine zx_T.l (i := .iload_n 3) (k := 1) (v := .int (zI (zv_a h 46 p))) (pc := 353) rfl rfl rfl ?_
      refine zx_T.l (i := .iload_n 1) (k := 1) (v := .int (zI (p))) (pc := 354) rfl rfl rfl ?_
      refine zr_iv (cj := 209) (q' := zp_m209) (As := [.int (zI (zv_a h 46 p)), .int (zI (p))]) (rest := []) (pc := 355) rfl rfl rfl rfl rfl rfl (Nat.le_of_ble_eq_true rfl) rfl (Nat.le_of_ble_eq_true rfl) hI ((zm_go (h := h) hI (q := zv_a h 46 p) (p := p) (by omega) (by omega) (by omega) (by omega)).up (Nat.le_of_ble_eq_true rfl)) ?_
      rintro r20 h23 ⟨ih23, w24, r20q, x22⟩
      subst r20q
      try dsimp only at x22
      show zx_T zp_P 6 zp_m215 358 [(3, .int (zI (zv_a h 46 p))), (0, .ref 44), (1, .int (zI (p))), (2, .int (zI (t)))] [] h23 _
      refine zx_T.j (i := .goto 124) (k := 3) (pc' := 482) (st' := []) (pc := 358) rfl rfl rfl rfl rfl ?_
      have i42 : zv_i h23 42 = zv_i h23 42 := rfl
      have i43 : zv_i h23 43 = zv_i h23 43 := rfl
      have i38 : zv_i h23 38 = zv_i h 38 := (zv_wi w24 rfl)
      have i41 : zv_i h23 41 = zv_i h 41 := (zv_wi w24 rfl)
      have i50 : zv_i h23 50 = zv_i h23 50 := rfl
      have i25 : zv_i h23 25 = zv_i h 25 := (zv_wi w24 rfl)
      have y31 : zv_i h23 1 = zv_i h 1 := (zv_wi w24 rfl)
      have y32 : zv_a h23 61 8 = zv_a h 61 8 := (zv_wa w24 rfl 8)
      have a61 : ∀ j, 0 ≤ j → zv_a h23 61 j = zv_a h 61 j := fun j hj => by rw [zv_wa w24 rfl j]
      have a71 : ∀ j, 0 ≤ j → zv_a h23 71 j = zv_a h 71 j := fun j hj => by rw [zv_wa w24 rfl j]
      have b69 : ∀ j, 0 ≤ j → zv_b h23 69 j = zv_b h 69 j := fun j hj => by rw [zv_wb w24 rfl j]
      exact zr_vr (pc := 482) rfl rfl ⟨ih23, (w24.wd rfl : zb_W [(44, 25), (61, 0), (69, 0), (44, 50), (44, 14), (44, 42), (44, 43), (44, 49), (44, 41), (44, 38), (71, 0), (72, 0)] h _), rfl, by dsimp only; exact ⟨fun _ => zg_VI1 (i := (-1)) vw (by omega) (by omega) (fun j j0 => by rw [a61 j j0]) (fun j j0 => Or.inr (b69 j j0)) (by omega) (fun j j0 _ => by rw [a71 j j0]) (fun j j0 j1 j2 j3 => absurd j3 (by have d := zg_dk dz (by omega) (i := (-1)) (by omega) j0 j1 j2; omega)), (by omega), by omega, by omega, by omega, by omega, by omega⟩⟩

set_option maxRecDepth 100000 in
set_option maxHeartbeats 8000000 in
theorem zm_acts_c26 {h : zx_H} (hI : zb_I zc_H h) {p : Int} {t : Int} (p1 : 0 ≤ p) (p2 : p ≤ 59) (t1 : 7 ≤ t) (t2 : t ≤ 13) (dz : zg_dz (zv_a h 45 p) (zv_a h 46 p) (t - 7) (zv_i h 25) (zv_a h 70) (zv_a h 61)) (vw : zg_VW h t) (t9 : zv_i h 38 ≤ 399) (r9 : zv_i h 41 ≤ 1000000) (r8 : (-5) ≤ zv_i h 41) (x0 : zv_i h 42 = 0) (n8 : ¬ zv_a h 61 8 = 3) (nx : zv_i h 50 = (-1)) (ci : zv_a h 45 p = 21 → 5 ≤ zv_a h 46 p ∧ zv_a h 46 p ≤ 8) (ov : zv_a h 45 p = 26) : zx_T zp_P 6 zp_m215 0 [(0, .ref 44), (1, .int (zI (p))), (2, .int (zI (t)))] [] h (zr_V [(44, 25), (61, 0), (69, 0), (44, 50), (44, 14), (44, 42), (44, 43), (44, 49), (44, 41), (44, 38), (71, 0), (72, 0)] h (fun h' => zg_ae h h')) := by
  have hS := zv_ri hI (k := 25) rfl
  have hT := zv_ri hI (k := 38) rfl
  have hC := zv_ri hI (k := 1) rfl
  refine zx_T.l (i := .aload_n 0) (k := 1) (v := .ref 44) (pc := 0) rfl rfl rfl ?_
  refine zr_gr (k := 3) (b := 46) (pc := 1) rfl rfl rfl hI ?_
  refine zx_T.l (i := .iload_n 1) (k := 1) (v := .int (zI (p))) (pc := 4) rfl rfl rfl ?_
  refine zr_al (n := 60) (lo := (-2147483648)) (hi := 2147483647) (e := zv_a h 46 p) (pc := 5) rfl rfl rfl hI (by omega) (by omega) rfl (fun g1a g1b => ?_)
  refine zx_T.t (i := .istore_n 3) (k := 1) (ls' := [(3, .int (zI (zv_a h 46 p))), (0, .ref 44), (1, .int (zI (p))), (2, .int (zI (t)))]) (st' := []) (pc := 6) rfl rfl rfl rfl ?_
  refine zx_T.l (i := .aload_n 0) (k := 1) (v := .ref 44) (pc := 7) rfl rfl rfl ?_
  refine zr_gr (k := 2) (b := 45) (pc := 8) rfl rfl rfl hI ?_
  refine zx_T.l (i := .iload_n 1) (k := 1) (v := .int (zI (p))) (pc := 11) rfl rfl rfl ?_
  refine zr_al (n := 60) (lo := 0) (hi := 28) (e := zv_a h 45 p) (pc := 12) rfl rfl rfl hI (by omega) (by omega) rfl (fun g2a g2b => ?_)
  have c3 : zv_a h 45 p = 26 := by omega
  rcases c3 with c3
  · refine zr_sw (i := .tableswitch 443 0 28 #[131, 443, 443, 443, 443, 443, 443, 443, 134, 151, 131, 131, 443, 443, 443, 443, 443, 187, 187, 187, 196, 237, 271, 311, 319, 328, 348, 367, 418]) (len := 131) (t := 361) (x := zv_a h 45 p) (k := 26) (pc := 13) rfl c3 rfl rfl rfl rfl ?_
    refine zx_T.l (i := .aload_n 0) (k := 1) (v := .ref 44) (pc := 361) rfl rfl rfl ?_
    refine zr_gr (k := 37) (b := 70) (pc := 362) rfl rfl rfl hI ?_
    refine zx_T.l (i := .iload_n 2) (k := 1) (v := .int (zI (t))) (pc := 365) rfl rfl rfl ?_
    refine zr_al (n := 14) (lo := 0) (hi := 8) (e := zv_a h 70 t) (pc := 366) rfl rfl rfl hI (by omega) (by omega) rfl (fun g4a g4b => ?_)
    refine zx_T.s (i := .iconst 4) (k := 1) (st' := [.int (zI (4)), .int (zI (zv_a h 70 t))]) (pc := 367) rfl rfl ?_
    refine zr_i2 (x := zv_a h 70 t) (y := 4) (t := 482) (pc := 368) rfl rfl (by omega) (by omega) (by omega) (by omega) (fun (c5 : ¬ (zv_a h 70 t) = 4) => ?_) (fun (c5 : ¬ (¬ (zv_a h 70 t) = 4)) => ?_)
    · have i42 : zv_i h 42 = zv_i h 42 := rfl
      have i43 : zv_i h 43 = zv_i h 43 := rfl
      have i38 : zv_i h 38 = zv_i h 38 := rfl
      have i41 : zv_i h 41 = zv_i h 41 := rfl
      have i50 : zv_i h 50 = zv_i h 50 := rfl
      have i25 : zv_i h 25 = zv_i h 25 := rfl
      have a61 : ∀ j, 0 ≤ j → zv_a h 61 j = zv_a h 61 j := fun j hj => rfl
      have a71 : ∀ j, 0 ≤ j → zv_a h 71 j = zv_a h 71 j := fun j hj => rfl
      have b69 : ∀ j, 0 ≤ j → zv_b h 69 j = zv_b h 69 j := fun j hj => rfl
      exact zr_vr (pc := 482) rfl rfl ⟨hI, zb_W.rf, rfl, by dsimp only; exact ⟨fun _ => zg_VI1 (i := (-1)) vw (by omega) (by omega) (fun j j0 => by rw [a61 j j0]) (fun j j0 => Or.inr (b69 j j0)) (by omega) (fun j j0 _ => by rw [a71 j j0]) (fun j j0 j1 j2 j3 => absurd j3 (by have d := zg_dk dz (by omega) (i := (-1)) (by omega) j0 j1 j2; omega)), (by omega), by omega, by omega, by omega, by omega, by omega⟩⟩
    · refine zx_T.l (i := .aload_n 0) (k := 1) (v := .ref 44) (pc := 371) rfl rfl rfl ?_
      refine zx_T.l (i := .iload_n 3) (k := 1) (v := .int (zI (zv_a h 46 p))) (pc := 372) rfl rfl rfl ?_
      refine zx_T.l (i := .iload_n 1) (k := 1) (v := .int (zI (p))) (pc := 373) rfl rfl rfl ?_
      refine zr_iv (cj := 209) (q' := zp_m209) (As := [.int (zI (zv_a h 46 p)), .int (zI (p))]) (rest := []) (pc := 374) rfl rfl rfl rfl rfl rfl (Nat.le_of_ble_eq_true rfl) rfl (Nat.le_of_ble_eq_true rfl) hI ((zm_go (h := h) hI (q := zv_a h 46 p) (p := p) (by omega) (by omega) (by omega) (by omega)).up (Nat.le_of_ble_eq_true rfl)) ?_
      rintro r19 h22 ⟨ih22, w23, r19q, x21⟩
      subst r19q
      try dsimp only at x21
      show zx_T zp_P 6 zp_m215 377 [(3, .int (zI (zv_a h 46 p))), (0, .ref 44), (1, .int (zI (p))), (2, .int (zI (t)))] [] h22 _
      refine zx_T.j (i := .goto 105) (k := 3) (pc' := 482) (st' := []) (pc := 377) rfl rfl rfl rfl rfl ?_
      have i42 : zv_i h22 42 = zv_i h22 42 := rfl
      have i43 : zv_i h22 43 = zv_i h22 43 := rfl
      have i38 : zv_i h22 38 = zv_i h 38 := (zv_wi w23 rfl)
      have i41 : zv_i h22 41 = zv_i h 41 := (zv_wi w23 rfl)
      have i50 : zv_i h22 50 = zv_i h22 50 := rfl
      have i25 : zv_i h22 25 = zv_i h 25 := (zv_wi w23 rfl)
      have y30 : zv_i h22 1 = zv_i h 1 := (zv_wi w23 rfl)
      have y31 : zv_a h22 61 8 = zv_a h 61 8 := (zv_wa w23 rfl 8)
      have a61 : ∀ j, 0 ≤ j → zv_a h22 61 j = zv_a h 61 j := fun j hj => by rw [zv_wa w23 rfl j]
      have a71 : ∀ j, 0 ≤ j → zv_a h22 71 j = zv_a h 71 j := fun j hj => by rw [zv_wa w23 rfl j]
      have b69 : ∀ j, 0 ≤ j → zv_b h22 69 j = zv_b h 69 j := fun j hj => by rw [zv_wb w23 rfl j]
      exact zr_vr (pc := 482) rfl rfl ⟨ih22, (w23.wd rfl : zb_W [(44, 25), (61, 0), (69, 0), (44, 50), (44, 14), (44, 42), (44, 43), (44, 49), (44, 41), (44, 38), (71, 0), (72, 0)] h _), rfl, by dsimp only; exact ⟨fun _ => zg_VI1 (i := (-1)) vw (by omega) (by omega) (fun j j0 => by rw [a61 j j0]) (fun j j0 => Or.inr (b69 j j0)) (by omega) (fun j j0 _ => by rw [a71 j j0]) (fun j j0 j1 j2 j3 => absurd j3 (by have d := zg_dk dz (by omega) (i := (-1)) (by omega) j0 j1 j2; omega)), (by omega), by omega, by omega, by omega, by omega, by omega⟩⟩

set_option maxRecDepth 100000 in
set_option maxHeartbeats 8000000 in
theorem zm_acts_c27 {h : zx_H} (hI : zb_I zc_H h) {p : Int} {t : Int} (p1 : 0 ≤ p) (p2 : p ≤ 59) (t1 : 7 ≤ t) (t2 : t ≤ 13) (dz : zg_dz (zv_a h 45 p) (zv_a h 46 p) (t - 7) (zv_i h 25) (zv_a h 70) (zv_a h 61)) (vw : zg_VW h t) (t9 : zv_i h 38 ≤ 399) (r9 : zv_i h 41 ≤ 1000000) (r8 : (-5) ≤ zv_i h 41) (x0 : zv_i h 42 = 0) (n8 : ¬ zv_a h 61 8 = 3) (nx : zv_i h 50 = (-1)) (ci : zv_a h 45 p = 21 → 5 ≤ zv_a h 46 p ∧ zv_a h 46 p ≤ 8) (ov : zv_a h 45 p = 27) : zx_T zp_P 6 zp_m215 0 [(0, .ref 44), (1, .int (zI (p))), (2, .int (zI (t)))] [] h (zr_V [(44, 25), (61, 0), (69, 0), (44, 50), (44, 14), (44, 42), (44, 43), (44, 49), (44, 41), (44, 38), (71, 0), (72, 0)] h (fun h' => zg_ae h h')) := by
  have hS := zv_ri hI (k := 25) rfl
  have hT := zv_ri hI (k := 38) rfl
  have hC := zv_ri hI (k := 1) rfl
  refine zx_T.l (i := .aload_n 0) (k := 1) (v := .ref 44) (pc := 0) rfl rfl rfl ?_
  refine zr_gr (k := 3) (b := 46) (pc := 1) rfl rfl rfl hI ?_
  refine zx_T.l (i := .iload_n 1) (k := 1) (v := .int (zI (p))) (pc := 4) rfl rfl rfl ?_
  refine zr_al (n := 60) (lo := (-2147483648)) (hi := 2147483647) (e := zv_a h 46 p) (pc := 5) rfl rfl rfl hI (by omega) (by omega) rfl (fun g1a g1b => ?_)
  refine zx_T.t (i := .istore_n 3) (k := 1) (ls' := [(3, .int (zI (zv_a h 46 p))), (0, .ref 44), (1, .int (zI (p))), (2, .int (zI (t)))]) (st' := []) (pc := 6) rfl rfl rfl rfl ?_
  refine zx_T.l (i := .aload_n 0) (k := 1) (v := .ref 44) (pc := 7) rfl rfl rfl ?_
  refine zr_gr (k := 2) (b := 45) (pc := 8) rfl rfl rfl hI ?_
  refine zx_T.l (i := .iload_n 1) (k := 1) (v := .int (zI (p))) (pc := 11) rfl rfl rfl ?_
  refine zr_al (n := 60) (lo := 0) (hi := 28) (e := zv_a h 45 p) (pc := 12) rfl rfl rfl hI (by omega) (by omega) rfl (fun g2a g2b => ?_)
  have c3 : zv_a h 45 p = 27 := by omega
  rcases c3 with c3
  · refine zr_sw (i := .tableswitch 443 0 28 #[131, 443, 443, 443, 443, 443, 443, 443, 134, 151, 131, 131, 443, 443, 443, 443, 443, 187, 187, 187, 196, 237, 271, 311, 319, 328, 348, 367, 418]) (len := 131) (t := 380) (x := zv_a h 45 p) (k := 27) (pc := 13) rfl c3 rfl rfl rfl rfl ?_
    refine zx_T.l (i := .aload_n 0) (k := 1) (v := .ref 44) (pc := 380) rfl rfl rfl ?_
    refine zr_gr (k := 36) (b := 69) (pc := 381) rfl rfl rfl hI ?_
    refine zx_T.l (i := .iload_n 2) (k := 1) (v := .int (zI (t))) (pc := 384) rfl rfl rfl ?_
    have g4 := zv_rb (h := h) 69 t
    refine zr_ll (n := 14) (e := zv_b h 69 t) (pc := 385) rfl rfl rfl hI (by omega) (by omega) rfl ?_
    refine zx_T.s (i := .lconst 0) (k := 1) (st' := [.long (zL (0)), .long (zL (zv_b h 69 t))]) (pc := 386) rfl rfl ?_
    refine zr_lcmp (pc := 387) rfl (by omega) (by omega) (by omega) (by omega) (fun z5 z5a => ?_)
    refine zr_i1 (x := z5) (t := 402) (pc := 388) rfl rfl (by omega) (by omega) (fun (c6 : z5 = 0) => ?_) (fun (c6 : ¬ (z5 = 0)) => ?_)
    · refine zx_T.l (i := .aload_n 0) (k := 1) (v := .ref 44) (pc := 402) rfl rfl rfl ?_
      refine zx_T.l (i := .aload_n 0) (k := 1) (v := .ref 44) (pc := 403) rfl rfl rfl ?_
      refine zr_gr (k := 36) (b := 69) (pc := 404) rfl rfl rfl hI ?_
      refine zx_T.l (i := .iload_n 2) (k := 1) (v := .int (zI (t))) (pc := 407) rfl rfl rfl ?_
      have g7 := zv_rb (h := h) 69 t
      refine zr_ll (n := 14) (e := zv_b h 69 t) (pc := 408) rfl rfl rfl hI (by omega) (by omega) rfl ?_
      refine zx_T.s (i := .lconst 0) (k := 1) (st' := [.long (zL (0)), .long (zL (zv_b h 69 t)), .ref 44]) (pc := 409) rfl rfl ?_
      refine zr_lcmp (pc := 410) rfl (by omega) (by omega) (by omega) (by omega) (fun z8 z8a => ?_)
      refine zr_i1 (x := z8) (t := 418) (pc := 411) rfl rfl (by omega) (by omega) (fun (c9 : ¬ z8 = 0) => ?_) (fun (c9 : ¬ (¬ z8 = 0)) => ?_)
      · refine zx_T.l (i := .aload_n 0) (k := 1) (v := .ref 44) (pc := 418) rfl rfl rfl ?_
        refine zr_gr (k := 4) (b := 47) (pc := 419) rfl rfl rfl hI ?_
        refine zx_T.l (i := .iload_n 1) (k := 1) (v := .int (zI (p))) (pc := 422) rfl rfl rfl ?_
        refine zr_al (n := 60) (lo := (-2147483648)) (hi := 2147483647) (e := zv_a h 47 p) (pc := 423) rfl rfl rfl hI (by omega) (by omega) rfl (fun g10a g10b => ?_)
        refine zx_T.l (i := .iload_n 1) (k := 1) (v := .int (zI (p))) (pc := 424) rfl rfl rfl ?_
        refine zr_iv (cj := 209) (q' := zp_m209) (As := [.int (zI (zv_a h 47 p)), .int (zI (p))]) (rest := []) (pc := 425) rfl rfl rfl rfl rfl rfl (Nat.le_of_ble_eq_true rfl) rfl (Nat.le_of_ble_eq_true rfl) hI ((zm_go (h := h) hI (q := zv_a h 47 p) (p := p) (by omega) (by omega) (by omega) (by omega)).up (Nat.le_of_ble_eq_true rfl)) ?_
        rintro r13 h16 ⟨ih16, w17, r13q, x15⟩
        subst r13q
        try dsimp only at x15
        show zx_T zp_P 6 zp_m215 428 [(3, .int (zI (zv_a h 46 p))), (0, .ref 44), (1, .int (zI (p))), (2, .int (zI (t)))] [] h16 _
        refine zx_T.j (i := .goto 54) (k := 3) (pc' := 482) (st' := []) (pc := 428) rfl rfl rfl rfl rfl ?_
        have i42 : zv_i h16 42 = zv_i h16 42 := rfl
        have i43 : zv_i h16 43 = zv_i h16 43 := rfl
        have i38 : zv_i h16 38 = zv_i h 38 := (zv_wi w17 rfl)
        have i41 : zv_i h16 41 = zv_i h 41 := (zv_wi w17 rfl)
        have i50 : zv_i h16 50 = zv_i h16 50 := rfl
        have i25 : zv_i h16 25 = zv_i h 25 := (zv_wi w17 rfl)
        have y24 : zv_i h16 1 = zv_i h 1 := (zv_wi w17 rfl)
        have y25 : zv_a h16 61 8 = zv_a h 61 8 := (zv_wa w17 rfl 8)
        have a61 : ∀ j, 0 ≤ j → zv_a h16 61 j = zv_a h 61 j := fun j hj => by rw [zv_wa w17 rfl j]
        have a71 : ∀ j, 0 ≤ j → zv_a h16 71 j = zv_a h 71 j := fun j hj => by rw [zv_wa w17 rfl j]
        have b69 : ∀ j, 0 ≤ j → zv_b h16 69 j = zv_b h 69 j := fun j hj => by rw [zv_wb w17 rfl j]
        exact zr_vr (pc := 482) rfl rfl ⟨ih16, (w17.wd rfl : zb_W [(44, 25), (61, 0), (69, 0), (44, 50), (44, 14), (44, 42), (44, 43), (44, 49), (44, 41), (44, 38), (71, 0), (72, 0)] h _), rfl, by dsimp only; exact ⟨fun _ => zg_VI1 (i := (-1)) vw (by omega) (by omega) (fun j j0 => by rw [a61 j j0]) (fun j j0 => Or.inr (b69 j j0)) (by omega) (fun j j0 _ => by rw [a71 j j0]) (fun j j0 j1 j2 j3 => absurd j3 (by have d := zg_dk dz (by omega) (i := (-1)) (by omega) j0 j1 j2; omega)), (by omega), by omega, by omega, by omega, by omega, by omega⟩⟩
      · refine zx_T.l (i := .iload_n 3) (k := 1) (v := .int (zI (zv_a h 46 p))) (pc := 414) rfl rfl rfl ?_
        refine zx_T.j (i := .goto 9) (k := 3) (pc' := 424) (st' := [.int (zI (zv_a h 46 p)), .ref 44]) (pc := 415) rfl rfl rfl rfl rfl ?_
        refine zx_T.l (i := .iload_n 1) (k := 1) (v := .int (zI (p))) (pc := 424) rfl rfl rfl ?_
        refine zr_iv (cj := 209) (q' := zp_m209) (As := [.int (zI (zv_a h 46 p)), .int (zI (p))]) (rest := []) (pc := 425) rfl rfl rfl rfl rfl rfl (Nat.le_of_ble_eq_true rfl) rfl (Nat.le_of_ble_eq_true rfl) hI ((zm_go (h := h) hI (q := zv_a h 46 p) (p := p) (by omega) (by omega) (by omega) (by omega)).up (Nat.le_of_ble_eq_true rfl)) ?_
        rintro r31 h34 ⟨ih34, w35, r31q, x33⟩
        subst r31q
        try dsimp only at x33
        show zx_T zp_P 6 zp_m215 428 [(3, .int (zI (zv_a h 46 p))), (0, .ref 44), (1, .int (zI (p))), (2, .int (zI (t)))] [] h34 _
        refine zx_T.j (i := .goto 54) (k := 3) (pc' := 482) (st' := []) (pc := 428) rfl rfl rfl rfl rfl ?_
        have i42 : zv_i h34 42 = zv_i h34 42 := rfl
        have i43 : zv_i h34 43 = zv_i h34 43 := rfl
        have i38 : zv_i h34 38 = zv_i h 38 := (zv_wi w35 rfl)
        have i41 : zv_i h34 41 = zv_i h 41 := (zv_wi w35 rfl)
        have i50 : zv_i h34 50 = zv_i h34 50 := rfl
        have i25 : zv_i h34 25 = zv_i h 25 := (zv_wi w35 rfl)
        have y42 : zv_i h34 1 = zv_i h 1 := (zv_wi w35 rfl)
        have y43 : zv_a h34 61 8 = zv_a h 61 8 := (zv_wa w35 rfl 8)
        have a61 : ∀ j, 0 ≤ j → zv_a h34 61 j = zv_a h 61 j := fun j hj => by rw [zv_wa w35 rfl j]
        have a71 : ∀ j, 0 ≤ j → zv_a h34 71 j = zv_a h 71 j := fun j hj => by rw [zv_wa w35 rfl j]
        have b69 : ∀ j, 0 ≤ j → zv_b h34 69 j = zv_b h 69 j := fun j hj => by rw [zv_wb w35 rfl j]
        exact zr_vr (pc := 482) rfl rfl ⟨ih34, (w35.wd rfl : zb_W [(44, 25), (61, 0), (69, 0), (44, 50), (44, 14), (44, 42), (44, 43), (44, 49), (44, 41), (44, 38), (71, 0), (72, 0)] h _), rfl, by dsimp only; exact ⟨fun _ => zg_VI1 (i := (-1)) vw (by omega) (by omega) (fun j j0 => by rw [a61 j j0]) (fun j j0 => Or.inr (b69 j j0)) (by omega) (fun j j0 _ => by rw [a71 j j0]) (fun j j0 j1 j2 j3 => absurd j3 (by have d := zg_dk dz (by omega) (i := (-1)) (by omega) j0 j1 j2; omega)), (by omega), by omega, by omega, by omega, by omega, by omega⟩⟩
    · refine zx_T.l (i := .aload_n 0) (k := 1) (v := .ref 44) (pc := 391) rfl rfl rfl ?_
      refine zr_gr (k := 36) (b := 69) (pc := 392) rfl rfl rfl hI ?_
      refine zx_T.l (i := .iload_n 2) (k := 1) (v := .int (zI (t))) (pc := 395) rfl rfl rfl ?_
      have g47 := zv_rb (h := h) 69 t
      refine zr_ll (n := 14) (e := zv_b h 69 t) (pc := 396) rfl rfl rfl hI (by omega) (by omega) rfl ?_
      refine zx_T.s (i := .lconst 1) (k := 1) (st' := [.long (zL (1)), .long (zL (zv_b h 69 t))]) (pc := 397) rfl rfl ?_
      refine zr_lcmp (pc := 398) rfl (by omega) (by omega) (by omega) (by omega) (fun z48 z48a => ?_)
      refine zr_i1 (x := z48) (t := 482) (pc := 399) rfl rfl (by omega) (by omega) (fun (c49 : ¬ z48 = 0) => ?_) (fun (c49 : ¬ (¬ z48 = 0)) => ?_)
      · have i42 : zv_i h 42 = zv_i h 42 := rfl
        have i43 : zv_i h 43 = zv_i h 43 := rfl
        have i38 : zv_i h 38 = zv_i h 38 := rfl
        have i41 : zv_i h 41 = zv_i h 41 := rfl
        have i50 : zv_i h 50 = zv_i h 50 := rfl
        have i25 : zv_i h 25 = zv_i h 25 := rfl
        have a61 : ∀ j, 0 ≤ j → zv_a h 61 j = zv_a h 61 j := fun j hj => rfl
        have a71 : ∀ j, 0 ≤ j → zv_a h 71 j = zv_a h 71 j := fun j hj => rfl
        have b69 : ∀ j, 0 ≤ j → zv_b h 69 j = zv_b h 69 j := fun j hj => rfl
        exact zr_vr (pc := 482) rfl rfl ⟨hI, zb_W.rf, rfl, by dsimp only; exact ⟨fun _ => zg_VI1 (i := (-1)) vw (by omega) (by omega) (fun j j0 => by rw [a61 j j0]) (fun j j0 => Or.inr (b69 j j0)) (by omega) (fun j j0 _ => by rw [a71 j j0]) (fun j j0 j1 j2 j3 => absurd j3 (by have d := zg_dk dz (by omega) (i := (-1)) (by omega) j0 j1 j2; omega)), (by omega), by omega, by omega, by omega, by omega, by omega⟩⟩
      · refine zx_T.l (i := .aload_n 0) (k := 1) (v := .ref 44) (pc := 402) rfl rfl rfl ?_
        refine zx_T.l (i := .aload_n 0) (k := 1) (v := .ref 44) (pc := 403) rfl rfl rfl ?_
        refine zr_gr (k := 36) (b := 69) (pc := 404) rfl rfl rfl hI ?_
        refine zx_T.l (i := .iload_n 2) (k := 1) (v := .int (zI (t))) (pc := 407) rfl rfl rfl ?_
        have g61 := zv_rb (h := h) 69 t
        refine zr_ll (n := 14) (e := zv_b h 69 t) (pc := 408) rfl rfl rfl hI (by omega) (by omega) rfl ?_
        refine zx_T.s (i := .lconst 0) (k := 1) (st' := [.long (zL (0)), .long (zL (zv_b h 69 t)), .ref 44]) (pc := 409) rfl rfl ?_
        refine zr_lcmp (pc := 410) rfl (by omega) (by omega) (by omega) (by omega) (fun z62 z62a => ?_)
        refine zr_i1 (x := z62) (t := 418) (pc := 411) rfl rfl (by omega) (by omega) (fun (c63 : ¬ z62 = 0) => ?_) (fun (c63 : ¬ (¬ z62 = 0)) => ?_)
        · refine zx_T.l (i := .aload_n 0) (k := 1) (v := .ref 44) (pc := 418) rfl rfl rfl ?_
          refine zr_gr (k := 4) (b := 47) (pc := 419) rfl rfl rfl hI ?_
          refine zx_T.l (i := .iload_n 1) (k := 1) (v := .int (zI (p))) (pc := 422) rfl rfl rfl ?_
          refine zr_al (n := 60) (lo := (-2147483648)) (hi := 2147483647) (e := zv_a h 47 p) (pc := 423) rfl rfl rfl hI (by omega) (by omega) rfl (fun g64a g64b => ?_)
          refine zx_T.l (i := .iload_n 1) (k := 1) (v := .int (zI (p))) (pc := 424) rfl rfl rfl ?_
          refine zr_iv (cj := 209) (q' := zp_m209) (As := [.int (zI (zv_a h 47 p)), .int (zI (p))]) (rest := []) (pc := 425) rfl rfl rfl rfl rfl rfl (Nat.le_of_ble_eq_true rfl) rfl (Nat.le_of_ble_eq_true rfl) hI ((zm_go (h := h) hI (q := zv_a h 47 p) (p := p) (by omega) (by omega) (by omega) (by omega)).up (Nat.le_of_ble_eq_true rfl)) ?_
          rintro r67 h70 ⟨ih70, w71, r67q, x69⟩
          subst r67q
          try dsimp only at x69
          show zx_T zp_P 6 zp_m215 428 [(3, .int (zI (zv_a h 46 p))), (0, .ref 44), (1, .int (zI (p))), (2, .int (zI (t)))] [] h70 _
          refine zx_T.j (i := .goto 54) (k := 3) (pc' := 482) (st' := []) (pc := 428) rfl rfl rfl rfl rfl ?_
          have i42 : zv_i h70 42 = zv_i h70 42 := rfl
          have i43 : zv_i h70 43 = zv_i h70 43 := rfl
          have i38 : zv_i h70 38 = zv_i h 38 := (zv_wi w71 rfl)
          have i41 : zv_i h70 41 = zv_i h 41 := (zv_wi w71 rfl)
          have i50 : zv_i h70 50 = zv_i h70 50 := rfl
          have i25 : zv_i h70 25 = zv_i h 25 := (zv_wi w71 rfl)
          have y78 : zv_i h70 1 = zv_i h 1 := (zv_wi w71 rfl)
          have y79 : zv_a h70 61 8 = zv_a h 61 8 := (zv_wa w71 rfl 8)
          have a61 : ∀ j, 0 ≤ j → zv_a h70 61 j = zv_a h 61 j := fun j hj => by rw [zv_wa w71 rfl j]
          have a71 : ∀ j, 0 ≤ j → zv_a h70 71 j = zv_a h 71 j := fun j hj => by rw [zv_wa w71 rfl j]
          have b69 : ∀ j, 0 ≤ j → zv_b h70 69 j = zv_b h 69 j := fun j hj => by rw [zv_wb w71 rfl j]
          exact zr_vr (pc := 482) rfl rfl ⟨ih70, (w71.wd rfl : zb_W [(44, 25), (61, 0), (69, 0), (44, 50), (44, 14), (44, 42), (44, 43), (44, 49), (44, 41), (44, 38), (71, 0), (72, 0)] h _), rfl, by dsimp only; exact ⟨fun _ => zg_VI1 (i := (-1)) vw (by omega) (by omega) (fun j j0 => by rw [a61 j j0]) (fun j j0 => Or.inr (b69 j j0)) (by omega) (fun j j0 _ => by rw [a71 j j0]) (fun j j0 j1 j2 j3 => absurd j3 (by have d := zg_dk dz (by omega) (i := (-1)) (by omega) j0 j1 j2; omega)), (by omega), by omega, by omega, by omega, by omega, by omega⟩⟩
        · refine zx_T.l (i := .iload_n 3) (k := 1) (v := .int (zI (zv_a h 46 p))) (pc := 414) rfl rfl rfl ?_
          refine zx_T.j (i := .goto 9) (k := 3) (pc' := 424) (st' := [.int (zI (zv_a h 46 p)), .ref 44]) (pc := 415) rfl rfl rfl rfl rfl ?_
          refine zx_T.l (i := .iload_n 1) (k := 1) (v := .int (zI (p))) (pc := 424) rfl rfl rfl ?_
          refine zr_iv (cj := 209) (q' := zp_m209) (As := [.int (zI (zv_a h 46 p)), .int (zI (p))]) (rest := []) (pc := 425) rfl rfl rfl rfl rfl rfl (Nat.le_of_ble_eq_true rfl) rfl (Nat.le_of_ble_eq_true rfl) hI ((zm_go (h := h) hI (q := zv_a h 46 p) (p := p) (by omega) (by omega) (by omega) (by omega)).up (Nat.le_of_ble_eq_true rfl)) ?_
          rintro r85 h88 ⟨ih88, w89, r85q, x87⟩
          subst r85q
          try dsimp only at x87
          show zx_T zp_P 6 zp_m215 428 [(3, .int (zI (zv_a h 46 p))), (0, .ref 44), (1, .int (zI (p))), (2, .int (zI (t)))] [] h88 _
          refine zx_T.j (i := .goto 54) (k := 3) (pc' := 482) (st' := []) (pc := 428) rfl rfl rfl rfl rfl ?_
          have i42 : zv_i h88 42 = zv_i h88 42 := rfl
          have i43 : zv_i h88 43 = zv_i h88 43 := rfl
          have i38 : zv_i h88 38 = zv_i h 38 := (zv_wi w89 rfl)
          have i41 : zv_i h88 41 = zv_i h 41 := (zv_wi w89 rfl)
          have i50 : zv_i h88 50 = zv_i h88 50 := rfl
          have i25 : zv_i h88 25 = zv_i h 25 := (zv_wi w89 rfl)
          have y96 : zv_i h88 1 = zv_i h 1 := (zv_wi w89 rfl)
          have y97 : zv_a h88 61 8 = zv_a h 61 8 := (zv_wa w89 rfl 8)
          have a61 : ∀ j, 0 ≤ j → zv_a h88 61 j = zv_a h 61 j := fun j hj => by rw [zv_wa w89 rfl j]
          have a71 : ∀ j, 0 ≤ j → zv_a h88 71 j = zv_a h 71 j := fun j hj => by rw [zv_wa w89 rfl j]
          have b69 : ∀ j, 0 ≤ j → zv_b h88 69 j = zv_b h 69 j := fun j hj => by rw [zv_wb w89 rfl j]
          exact zr_vr (pc := 482) rfl rfl ⟨ih88, (w89.wd rfl : zb_W [(44, 25), (61, 0), (69, 0), (44, 50), (44, 14), (44, 42), (44, 43), (44, 49), (44, 41), (44, 38), (71, 0), (72, 0)] h _), rfl, by dsimp only; exact ⟨fun _ => zg_VI1 (i := (-1)) vw (by omega) (by omega) (fun j j0 => by rw [a61 j j0]) (fun j j0 => Or.inr (b69 j j0)) (by omega) (fun j j0 _ => by rw [a71 j j0]) (fun j j0 j1 j2 j3 => absurd j3 (by have d := zg_dk dz (by omega) (i := (-1)) (by omega) j0 j1 j2; omega)), (by omega), by omega, by omega, by omega, by omega, by omega⟩⟩

set_option maxRecDepth 100000 in
set_option maxHeartbeats 8000000 in
theorem zm_acts_c28 {h : zx_H} (hI : zb_I zc_H h) {p : Int} {t : Int} (p1 : 0 ≤ p) (p2 : p ≤ 59) (t1 : 7 ≤ t) (t2 : t ≤ 13) (dz : zg_dz (zv_a h 45 p) (zv_a h 46 p) (t - 7) (zv_i h 25) (zv_a h 70) (zv_a h 61)) (vw : zg_VW h t) (t9 : zv_i h 38 ≤ 399) (r9 : zv_i h 41 ≤ 1000000) (r8 : (-5) ≤ zv_i h 41) (x0 : zv_i h 42 = 0) (n8 : ¬ zv_a h 61 8 = 3) (nx : zv_i h 50 = (-1)) (ci : zv_a h 45 p = 21 → 5 ≤ zv_a h 46 p ∧ zv_a h 46 p ≤ 8) (ov : zv_a h 45 p = 28) : zx_T zp_P 6 zp_m215 0 [(0, .ref 44), (1, .int (zI (p))), (2, .int (zI (t)))] [] h (zr_V [(44, 25), (61, 0), (69, 0), (44, 50), (44, 14), (44, 42), (44, 43), (44, 49), (44, 41), (44, 38), (71, 0), (72, 0)] h (fun h' => zg_ae h h')) := by
  have hS := zv_ri hI (k := 25) rfl
  have hT := zv_ri hI (k := 38) rfl
  have hC := zv_ri hI (k := 1) rfl
  refine zx_T.l (i := .aload_n 0) (k := 1) (v := .ref 44) (pc := 0) rfl rfl rfl ?_
  refine zr_gr (k := 3) (b := 46) (pc := 1) rfl rfl rfl hI ?_
  refine zx_T.l (i := .iload_n 1) (k := 1) (v := .int (zI (p))) (pc := 4) rfl rfl rfl ?_
  refine zr_al (n := 60) (lo := (-2147483648)) (hi := 2147483647) (e := zv_a h 46 p) (pc := 5) rfl rfl rfl hI (by omega) (by omega) rfl (fun g1a g1b => ?_)
  refine zx_T.t (i := .istore_n 3) (k := 1) (ls' := [(3, .int (zI (zv_a h 46 p))), (0, .ref 44), (1, .int (zI (p))), (2, .int (zI (t)))]) (st' := []) (pc := 6) rfl rfl rfl rfl ?_
  refine zx_T.l (i := .aload_n 0) (k := 1) (v := .ref 44) (pc := 7) rfl rfl rfl ?_
  refine zr_gr (k := 2) (b := 45) (pc := 8) rfl rfl rfl hI ?_
  refine zx_T.l (i := .iload_n 1) (k := 1) (v := .int (zI (p))) (pc := 11) rfl rfl rfl ?_
  refine zr_al (n := 60) (lo := 0) (hi := 28) (e := zv_a h 45 p) (pc := 12) rfl rfl rfl hI (by omega) (by omega) rfl (fun g2a g2b => ?_)
  have c3 : zv_a h 45 p = 28 := by omega
  rcases c3 with c3
  · refine zr_sw (i := .tableswitch 443 0 28 #[131, 443, 443, 443, 443, 443, 443, 443, 134, 151, 131, 131, 443, 443, 443, 443, 443, 187, 187, 187, 196, 237, 271, 311, 319, 328, 348, 367, 418]) (len := 131) (t := 431) (x := zv_a h 45 p) (k := 28) (pc := 13) rfl c3 rfl rfl rfl rfl ?_
    have d1 := dz.1.2.2.2.2.2.2.2.2 (by omega)
    refine zx_T.l (i := .aload_n 0) (k := 1) (v := .ref 44) (pc := 431) rfl rfl rfl ?_
    refine zr_gr (k := 36) (b := 69) (pc := 432) rfl rfl rfl hI ?_
    refine zx_T.l (i := .iload_n 3) (k := 1) (v := .int (zI (zv_a h 46 p))) (pc := 435) rfl rfl rfl ?_
    refine zx_T.l (i := .aload_n 0) (k := 1) (v := .ref 44) (pc := 436) rfl rfl rfl ?_
    refine zr_gr (k := 36) (b := 69) (pc := 437) rfl rfl rfl hI ?_
    refine zx_T.l (i := .iload_n 3) (k := 1) (v := .int (zI (zv_a h 46 p))) (pc := 440) rfl rfl rfl ?_
    have g4 := zv_rb (h := h) 69 (zv_a h 46 p)
    refine zr_ll (n := 14) (e := zv_b h 69 (zv_a h 46 p)) (pc := 441) rfl rfl rfl hI (by omega) (by omega) rfl ?_
    refine zx_T.l (i := .aload_n 0) (k := 1) (v := .ref 44) (pc := 442) rfl rfl rfl ?_
    refine zr_gr (k := 4) (b := 47) (pc := 443) rfl rfl rfl hI ?_
    refine zx_T.l (i := .iload_n 1) (k := 1) (v := .int (zI (p))) (pc := 446) rfl rfl rfl ?_
    refine zr_al (n := 60) (lo := (-2147483648)) (hi := 2147483647) (e := zv_a h 47 p) (pc := 447) rfl rfl rfl hI (by omega) (by omega) rfl (fun g5a g5b => ?_)
    refine zr_i2l (pc := 448) rfl (by omega) (by omega) ?_
    refine zr_ladd (x := zv_b h 69 (zv_a h 46 p)) (y := zv_a h 47 p) (e := zv_a h 47 p + zv_b h 69 (zv_a h 46 p)) (pc := 449) rfl (by omega) ?_
    refine zr_l2i (pc := 450) rfl ?_
    refine zr_any (fun z6 z6a z6b => ?_)
    refine zr_i2l (pc := 451) rfl (by omega) (by omega) ?_
    refine zr_ls (n := 14) (e := z6) (pc := 452) rfl rfl rfl hI (by omega) (by omega) (fun h7 ih7 w8 s9 => ?_)
    refine zx_T.j (i := .goto 29) (k := 3) (pc' := 482) (st' := []) (pc := 453) rfl rfl rfl rfl rfl ?_
    have i42 : zv_i h7 42 = zv_i h 42 := (zv_wi w8 rfl)
    have i43 : zv_i h7 43 = zv_i h 43 := (zv_wi w8 rfl)
    have i38 : zv_i h7 38 = zv_i h 38 := (zv_wi w8 rfl)
    have i41 : zv_i h7 41 = zv_i h 41 := (zv_wi w8 rfl)
    have i50 : zv_i h7 50 = zv_i h 50 := (zv_wi w8 rfl)
    have i25 : zv_i h7 25 = zv_i h 25 := (zv_wi w8 rfl)
    have y16 : zv_i h7 1 = zv_i h 1 := (zv_wi w8 rfl)
    have y17 : zv_a h7 61 8 = zv_a h 61 8 := (zv_wa w8 rfl 8)
    have a61 : ∀ j, 0 ≤ j → zv_a h7 61 j = zv_a h 61 j := fun j hj => by rw [zv_wa w8 rfl j]
    have a71 : ∀ j, 0 ≤ j → zv_a h7 71 j = zv_a h 71 j := fun j hj => by rw [zv_wa w8 rfl j]
    have b69 : ∀ j, 0 ≤ j → zv_b h7 69 j = if j = zv_a h 46 p then (zL (z6)).toInt else zv_b h 69 j := fun j hj => by rw [s9 j hj]
    exact zr_vr (pc := 482) rfl rfl ⟨ih7, (w8.wd rfl : zb_W [(44, 25), (61, 0), (69, 0), (44, 50), (44, 14), (44, 42), (44, 43), (44, 49), (44, 41), (44, 38), (71, 0), (72, 0)] h _), rfl, by dsimp only; exact ⟨fun _ => zg_VI1 (i := zv_a h 46 p) vw (by omega) (by omega) (fun j j0 => by rw [a61 j j0]) (fun j j0 => by rw [b69 j j0]; by_cases z : j = zv_a h 46 p; exact Or.inl z; exact Or.inr (if_neg z)) (by omega) (fun j j0 _ => by rw [a71 j j0]) (fun j j0 j1 j2 j3 => absurd j3 (by have d := zg_dk dz (by omega) (i := zv_a h 46 p) (by omega) j0 j1 j2; omega)), (by omega), by omega, by omega, by omega, by omega, by omega⟩⟩

theorem zm_acts {h : zx_H} (hI : zb_I zc_H h) {p : Int} {t : Int} (p1 : 0 ≤ p) (p2 : p ≤ 59) (t1 : 7 ≤ t) (t2 : t ≤ 13) (dz : zg_dz (zv_a h 45 p) (zv_a h 46 p) (t - 7) (zv_i h 25) (zv_a h 70) (zv_a h 61)) (vw : zg_VW h t) (t9 : zv_i h 38 ≤ 399) (r9 : zv_i h 41 ≤ 1000000) (r8 : (-5) ≤ zv_i h 41) (x0 : zv_i h 42 = 0) (n8 : ¬ zv_a h 61 8 = 3) (nx : zv_i h 50 = (-1)) (ci : zv_a h 45 p = 21 → 5 ≤ zv_a h 46 p ∧ zv_a h 46 p ≤ 8) : zx_T zp_P 6 zp_m215 0 [(0, .ref 44), (1, .int (zI (p))), (2, .int (zI (t)))] [] h (zr_V [(44, 25), (61, 0), (69, 0), (44, 50), (44, 14), (44, 42), (44, 43), (44, 49), (44, 41), (44, 38), (71, 0), (72, 0)] h (fun h' => zg_ae h h')) := by
  have ho := zv_ra hI (a := 45) rfl rfl p
  have cv : zv_a h 45 p = 0 ∨ zv_a h 45 p = 1 ∨ zv_a h 45 p = 2 ∨ zv_a h 45 p = 3 ∨ zv_a h 45 p = 4 ∨ zv_a h 45 p = 5 ∨ zv_a h 45 p = 6 ∨ zv_a h 45 p = 7 ∨ zv_a h 45 p = 8 ∨ zv_a h 45 p = 9 ∨ zv_a h 45 p = 10 ∨ zv_a h 45 p = 11 ∨ zv_a h 45 p = 12 ∨ zv_a h 45 p = 13 ∨ zv_a h 45 p = 14 ∨ zv_a h 45 p = 15 ∨ zv_a h 45 p = 16 ∨ zv_a h 45 p = 17 ∨ zv_a h 45 p = 18 ∨ zv_a h 45 p = 19 ∨ zv_a h 45 p = 20 ∨ zv_a h 45 p = 21 ∨ zv_a h 45 p = 22 ∨ zv_a h 45 p = 23 ∨ zv_a h 45 p = 24 ∨ zv_a h 45 p = 25 ∨ zv_a h 45 p = 26 ∨ zv_a h 45 p = 27 ∨ zv_a h 45 p = 28 := by omega
  rcases cv with cv | cv | cv | cv | cv | cv | cv | cv | cv | cv | cv | cv | cv | cv | cv | cv | cv | cv | cv | cv | cv | cv | cv | cv | cv | cv | cv | cv | cv
  · exact zm_acts_c0 hI p1 p2 t1 t2 dz vw t9 r9 r8 x0 n8 nx ci cv
  · exact zm_acts_c1 hI p1 p2 t1 t2 dz vw t9 r9 r8 x0 n8 nx ci cv
  · exact zm_acts_c2 hI p1 p2 t1 t2 dz vw t9 r9 r8 x0 n8 nx ci cv
  · exact zm_acts_c3 hI p1 p2 t1 t2 dz vw t9 r9 r8 x0 n8 nx ci cv
  · exact zm_acts_c4 hI p1 p2 t1 t2 dz vw t9 r9 r8 x0 n8 nx ci cv
  · exact zm_acts_c5 hI p1 p2 t1 t2 dz vw t9 r9 r8 x0 n8 nx ci cv
  · exact zm_acts_c6 hI p1 p2 t1 t2 dz vw t9 r9 r8 x0 n8 nx ci cv
  · exact zm_acts_c7 hI p1 p2 t1 t2 dz vw t9 r9 r8 x0 n8 nx ci cv
  · exact zm_acts_c8 hI p1 p2 t1 t2 dz vw t9 r9 r8 x0 n8 nx ci cv
  · exact zm_acts_c9 hI p1 p2 t1 t2 dz vw t9 r9 r8 x0 n8 nx ci cv
  · exact zm_acts_c10 hI p1 p2 t1 t2 dz vw t9 r9 r8 x0 n8 nx ci cv
  · exact zm_acts_c11 hI p1 p2 t1 t2 dz vw t9 r9 r8 x0 n8 nx ci cv
  · exact zm_acts_c12 hI p1 p2 t1 t2 dz vw t9 r9 r8 x0 n8 nx ci cv
  · exact zm_acts_c13 hI p1 p2 t1 t2 dz vw t9 r9 r8 x0 n8 nx ci cv
  · exact zm_acts_c14 hI p1 p2 t1 t2 dz vw t9 r9 r8 x0 n8 nx ci cv
  · exact zm_acts_c15 hI p1 p2 t1 t2 dz vw t9 r9 r8 x0 n8 nx ci cv
  · exact zm_acts_c16 hI p1 p2 t1 t2 dz vw t9 r9 r8 x0 n8 nx ci cv
  · exact zm_acts_c17 hI p1 p2 t1 t2 dz vw t9 r9 r8 x0 n8 nx ci cv
  · exact zm_acts_c18 hI p1 p2 t1 t2 dz vw t9 r9 r8 x0 n8 nx ci cv
  · exact zm_acts_c19 hI p1 p2 t1 t2 dz vw t9 r9 r8 x0 n8 nx ci cv
  · exact zm_acts_c20 hI p1 p2 t1 t2 dz vw t9 r9 r8 x0 n8 nx ci cv
  · exact zm_acts_c21 hI p1 p2 t1 t2 dz vw t9 r9 r8 x0 n8 nx ci cv
  · exact zm_acts_c22 hI p1 p2 t1 t2 dz vw t9 r9 r8 x0 n8 nx ci cv
  · exact zm_acts_c23 hI p1 p2 t1 t2 dz vw t9 r9 r8 x0 n8 nx ci cv
  · exact zm_acts_c24 hI p1 p2 t1 t2 dz vw t9 r9 r8 x0 n8 nx ci cv
  · exact zm_acts_c25 hI p1 p2 t1 t2 dz vw t9 r9 r8 x0 n8 nx ci cv
  · exact zm_acts_c26 hI p1 p2 t1 t2 dz vw t9 r9 r8 x0 n8 nx ci cv
  · exact zm_acts_c27 hI p1 p2 t1 t2 dz vw t9 r9 r8 x0 n8 nx ci cv
  · exact zm_acts_c28 hI p1 p2 t1 t2 dz vw t9 r9 r8 x0 n8 nx ci cv
