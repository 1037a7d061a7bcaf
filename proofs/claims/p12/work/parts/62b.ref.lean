/-! ===== 62b: the reference, method by method (by program) ===== -/
set_option maxRecDepth 100000 in
set_option maxHeartbeats 8000000 in
theorem zm_acts_c0 {h : zx_H} (hI : zb_I zc_H h) {p : Int} {t : Int} (p1 : 0 ≤ p) (p2 : p ≤ 59) (t1 : 7 ≤ t) (t2 : t ≤ 13) (dz : zg_dz (zv_a h 45 p) (zv_a h 46 p) (t - 7) (zv_i h 25) (zv_a h 70) (zv_a h 61)) (vw : zg_VW h t) (t9 : zv_i h 38 ≤ 399) (r9 : zv_i h 41 ≤ 1000000) (r8 : (-5) ≤ zv_i h 41) (x0 : zv_i h 42 = 0) (n8 : ¬ zv_a h 61 8 = 3) (nx : zv_i h 50 = (-1)) (ci : zv_a h 45 p = 21 → 5 ≤ zv_a h 46 p ∧ zv_a h 46 p ≤ 8) (ov : zv_a h 45 p = 0) : zx_T zp_P 6 zp_m215 0 [(0, .ref 44), (1, .int (zI (p))), (2, .int (zI (t)))] [] h (zr_V [(44, 25), (61, 0), (69, 0), (44, 50), (44, 14), (44, 42), (44, 43), (44, 49), (44, 41), (44, 38), (71, 0), (72, 0)] h (fun h' => zg_ae h h')) := by
  have hS := zv_ri hI (k := 25) rfl
  have hT := zv_ri hI (k := 38) rfl
  have hC := zv_ri hI (k := 1) rfl
  refine zx_T.l (i := .aload_n 0) (k := 1) (v := .ref 44) (pc := 0) rfl rfl rfl ?_
  refine zr_gr (k := 3) (b := 46) (pc := 1) rfl rfl rfl hI ?_
  refine zx_T.l (i := .iload_n 1) (k := 1) (v := .int (zI (p))) (pc := 4) rfl rfl rfl ?_
  refine zr_al (n := 60) (lo := (-2147483648)) (hi := 2147483647) (e := zv_a h 46 p) (pc := 5) rfl rfl rfl hI (by omega) (by omega) rfl (fun g1a g1b => ?_)
  refine zx_T.t (i := .istore_n 3) (k := 1) (ls' := [(3, .int (zI (zv_a h 46 p))), (0, .ref 44), (1, .int (zI (p))), (2, .int (zI (t)))]) (st' := []) (pc := 6) rfl rfl rfl rfl ?_
  refine zx_T.l (i := .aload_n 0) (k := 1) (v := .ref 44) (pc := 7) rfl rfl rfl ?_
  refine zr_gr (k := 2) (b := 45) (pc := 8) rfl rfl rfl hI ?_
  refine zx_T.l (i := .iload_n 1) (k := 1) (v := .int (zI (p))) (pc := 11) rfl rfl rfl ?_
  refine zr_al (n := 60) (lo := 0) (hi := 28) (e := zv_a h 45 p) (pc := 12) rfl rfl rfl hI (by omega) (by omega) rfl (fun g2a g2b => ?_)
  have c3 : zv_a h 45 p = 0 := by omega
  rcases c3 with c3
  · refine zr_sw (i := .tableswitch 443 0 28 #[131, 443, 443, 443, 443, 443, 443, 443, 134, 151, 131, 131, 443, 443, 443, 443, 443, 187, 187, 187, 196, 237, 271, 311, 319, 328, 348, 367, 418]) (len := 131) (t := 144) (x := zv_a h 45 p) (k := 0) (pc := 13) rfl c3 rfl rfl rfl rfl ?_
    refine zx_T.j (i := .goto 338) (k := 3) (pc' := 482) (st' := []) (pc := 144) rfl rfl rfl rfl rfl ?_
    have i42 : zv_i h 42 = zv_i h 42 := rfl
    have i43 : zv_i h 43 = zv_i h 43 := rfl
    have i38 : zv_i h 38 = zv_i h 38 := rfl
    have i41 : zv_i h 41 = zv_i h 41 := rfl
    have i50 : zv_i h 50 = zv_i h 50 := rfl
    have i25 : zv_i h 25 = zv_i h 25 := rfl
    have a61 : ∀ j, 0 ≤ j → zv_a h 61 j = zv_a h 61 j := fun j hj => rfl
    have a71 : ∀ j, 0 ≤ j → zv_a h 71 j = zv_a h 71 j := fun j hj => rfl
    have b69 : ∀ j, 0 ≤ j → zv_b h 69 j = zv_b h 69 j := fun j hj => rfl
    exact zr_vr (pc := 482) rfl rfl ⟨hI, zb_W.rf, rfl, by dsimp only; exact ⟨fun _ => zg_VI1 (i := (-1)) vw (by omega) (by omega) (fun j j0 => by rw [a61 j j0]) (fun j j0 => Or.inr (b69 j j0)) (by omega) (fun j j0 _ => by rw [a71 j j0]) (fun j j0 j1 j2 j3 => absurd j3 (by have d := zg_dk dz (by omega) (i := (-1)) (by omega) j0 j1 j2; omega)), (by omega), by omega, by omega, by omega, by omega, by omega⟩⟩

set_option maxRecDepth 100000 in
set_option maxHeartbeats 8000000 in
theorem zm_acts_c1 {h : zx_H} (hI : zb_I zc_H h) {p : Int} {t : Int} (p1 : 0 ≤ p) (p2 : p ≤ 59) (t1 : 7 ≤ t) (t2 : t ≤ 13) (dz : zg_dz (zv_a h 45 p) (zv_a h 46 p) (t - 7) (zv_i h 25) (zv_a h 70) (zv_a h 61)) (vw : zg_VW h t) (t9 : zv_i h 38 ≤ 399) (r9 : zv_i h 41 ≤ 1000000) (r8 : (-5) ≤ zv_i h 41) (x0 : zv_i h 42 = 0) (n8 : ¬ zv_a h 61 8 = 3) (nx : zv_i h 50 = (-1)) (ci : zv_a h 45 p = 21 → 5 ≤ zv_a h 46 p ∧ zv_a h 46 p ≤ 8) (ov : zv_a h 45 p = 1) : zx_T zp_P 6 zp_m215 0 [(0, .ref 44), (1, .int (zI (p))), (2, .int (zI (t)))] [] h (zr_V [(44, 25), (61, 0), (69, 0), (44, 50), (44, 14), (44, 42), (44, 43), (44, 49), (44, 41), (44, 38), (71, 0), (72, 0)] h (fun h' => zg_ae h h')) := by
  have hS := zv_ri hI (k := 25) rfl
  have hT := zv_ri hI (k := 38) rfl
  have hC := zv_ri hI (k := 1) rfl
  refine zx_T.l (i := .aload_n 0) (k := 1) (v := .ref 44) (pc := 0) rfl rfl rfl ?_
  refine zr_gr (k := 3) (b := 46) (pc := 1) rfl rfl rfl hI ?_
  refine zx_T.l (i := .iload_n 1) (k := 1) (v := .int (zI (p))) (pc := 4) rfl rfl rfl ?_
  refine zr_al (n := 60) (lo := (-2147483648)) (hi := 2147483647) (e := zv_a h 46 p) (pc := 5) rfl rfl rfl hI (by omega) (by omega) rfl (fun g1a g1b => ?_)
  refine zx_T.t (i := .istore_n 3) (k := 1) (ls' := [(3, .int (zI (zv_a h 46 p))), (0, .ref 44), (1, .int (zI (p))), (2, .int (zI (t)))]) (st' := []) (pc := 6) rfl rfl rfl rfl ?_
  refine zx_T.l (i := .aload_n 0) (k := 1) (v := .ref 44) (pc := 7) rfl rfl rfl ?_
  refine zr_gr (k := 2) (b := 45) (pc := 8) rfl rfl rfl hI ?_
  refine zx_T.l (i := .iload_n 1) (k := 1) (v := .int (zI (p))) (pc := 11) rfl rfl rfl ?_
  refine zr_al (n := 60) (lo := 0) (hi := 28) (e := zv_a h 45 p) (pc := 12) rfl rfl rfl hI (by omega) (by omega) rfl (fun g2a g2b => ?_)
  have c3 : zv_a h 45 p = 1 := by omega
  rcases c3 with c3
  · refine zr_sw (i := .tableswitch 443 0 28 #[131, 443, 443, 443, 443, 443, 443, 443, 134, 151, 131, 131, 443, 443, 443, 443, 443, 187, 187, 187, 196, 237, 271, 311, 319, 328, 348, 367, 418]) (len := 131) (t := 456) (x := zv_a h 45 p) (k := 1) (pc := 13) rfl c3 rfl rfl rfl rfl ?_
    refine zx_T.l (i := .aload_n 0) (k := 1) (v := .ref 44) (pc := 456) rfl rfl rfl ?_
    refine zr_gr (k := 2) (b := 45) (pc := 457) rfl rfl rfl hI ?_
    refine zx_T.l (i := .iload_n 1) (k := 1) (v := .int (zI (p))) (pc := 460) rfl rfl rfl ?_
    refine zr_al (n := 60) (lo := 0) (hi := 28) (e := zv_a h 45 p) (pc := 461) rfl rfl rfl hI (by omega) (by omega) rfl (fun g4a g4b => ?_)
    refine zx_T.s (i := .bipush 8) (k := 2) (st' := [.int (zI (8)), .int (zI (zv_a h 45 p))]) (pc := 462) rfl rfl ?_
    refine zr_i2 (x := zv_a h 45 p) (y := 8) (t := 476) (pc := 464) rfl rfl (by omega) (by omega) (by omega) (by omega) (fun (c5 : 8 ≤ (zv_a h 45 p)) => False.elim (by omega)) (fun (c5 : ¬ (8 ≤ (zv_a h 45 p))) => ?_)
    refine zx_T.l (i := .aload_n 0) (k := 1) (v := .ref 44) (pc := 467) rfl rfl rfl ?_
    refine zx_T.l (i := .iload_n 1) (k := 1) (v := .int (zI (p))) (pc := 468) rfl rfl rfl ?_
    refine zx_T.l (i := .iload_n 2) (k := 1) (v := .int (zI (t))) (pc := 469) rfl rfl rfl ?_
    refine zr_iv (cj := 214) (q' := zp_m214) (As := [.int (zI (p)), .int (zI (t))]) (rest := []) (pc := 470) rfl rfl rfl rfl rfl rfl (Nat.le_of_ble_eq_true rfl) rfl (Nat.le_of_ble_eq_true rfl) hI ((zm_makes (h := h) hI (p := p) (t := t) (by omega) (by omega) (by omega) (by omega) dz vw (by omega) (by omega) (by omega) (by omega) (by omega) (by omega) (by omega) (by omega)).up (Nat.le_of_ble_eq_true rfl)) ?_
    rintro r6 h9 ⟨ih9, w10, r6q, x8⟩
    subst r6q
    try dsimp only at x8
    have ae := x8
    show zx_T zp_P 6 zp_m215 473 [(3, .int (zI (zv_a h 46 p))), (0, .ref 44), (1, .int (zI (p))), (2, .int (zI (t)))] [] h9 _
    refine zx_T.j (i := .goto 9) (k := 3) (pc' := 482) (st' := []) (pc := 473) rfl rfl rfl rfl rfl ?_
    have i42 : zv_i h9 42 = zv_i h9 42 := rfl
    have i43 : zv_i h9 43 = zv_i h9 43 := rfl
    have i38 : zv_i h9 38 = zv_i h9 38 := rfl
    have i41 : zv_i h9 41 = zv_i h9 41 := rfl
    have i50 : zv_i h9 50 = zv_i h9 50 := rfl
    have i25 : zv_i h9 25 = zv_i h9 25 := rfl
    have y17 : zv_i h9 1 = zv_i h 1 := (zv_wi w10 rfl)
    have a61 : ∀ j, 0 ≤ j → zv_a h9 61 j = zv_a h9 61 j := fun j hj => rfl
    have a71 : ∀ j, 0 ≤ j → zv_a h9 71 j = zv_a h9 71 j := fun j hj => rfl
    have b69 : ∀ j, 0 ≤ j → zv_b h9 69 j = zv_b h9 69 j := fun j hj => rfl
    exact zr_vr (pc := 482) rfl rfl ⟨ih9, (w10.wd rfl : zb_W [(44, 25), (61, 0), (69, 0), (44, 50), (44, 14), (44, 42), (44, 43), (44, 49), (44, 41), (44, 38), (71, 0), (72, 0)] h _), rfl, by dsimp only; exact ae⟩

set_option maxRecDepth 100000 in
set_option maxHeartbeats 8000000 in
theorem zm_acts_c2 {h : zx_H} (hI : zb_I zc_H h) {p : Int} {t : Int} (p1 : 0 ≤ p) (p2 : p ≤ 59) (t1 : 7 ≤ t) (t2 : t ≤ 13) (dz : zg_dz (zv_a h 45 p) (zv_a h 46 p) (t - 7) (zv_i h 25) (zv_a h 70) (zv_a h 61)) (vw : zg_VW h t) (t9 : zv_i h 38 ≤ 399) (r9 : zv_i h 41 ≤ 1000000) (r8 : (-5) ≤ zv_i h 41) (x0 : zv_i h 42 = 0) (n8 : ¬ zv_a h 61 8 = 3) (nx : zv_i h 50 = (-1)) (ci : zv_a h 45 p = 21 → 5 ≤ zv_a h 46 p ∧ zv_a h 46 p ≤ 8) (ov : zv_a h 45 p = 2) : zx_T zp_P 6 zp_m215 0 [(0, .ref 44), (1, .int (zI (p))), (2, .int (zI (t)))] [] h (zr_V [(44, 25), (61, 0), (69, 0), (44, 50), (44, 14), (44, 42), (44, 43), (44, 49), (44, 41), (44, 38), (71, 0), (72, 0)] h (fun h' => zg_ae h h')) := by
  have hS := zv_ri hI (k := 25) rfl
  have hT := zv_ri hI (k := 38) rfl
  have hC := zv_ri hI (k := 1) rfl
  refine zx_T.l (i := .aload_n 0) (k := 1) (v := .ref 44) (pc := 0) rfl rfl rfl ?_
  refine zr_gr (k := 3) (b := 46) (pc := 1) rfl rfl rfl hI ?_
  refine zx_T.l (i := .iload_n 1) (k := 1) (v := .int (zI (p))) (pc := 4) rfl rfl rfl ?_
  refine zr_al (n := 60) (lo := (-2147483648)) (hi := 2147483647) (e := zv_a h 46 p) (pc := 5) rfl rfl rfl hI (by omega) (by omega) rfl (fun g1a g1b => ?_)
  refine zx_T.t (i := .istore_n 3) (k := 1) (ls' := [(3, .int (zI (zv_a h 46 p))), (0, .ref 44), (1, .int (zI (p))), (2, .int (zI (t)))]) (st' := []) (pc := 6) rfl rfl rfl rfl ?_
  refine zx_T.l (i := .aload_n 0) (k := 1) (v := .ref 44) (pc := 7) rfl rfl rfl ?_
  refine zr_gr (k := 2) (b := 45) (pc := 8) rfl rfl rfl hI ?_
  refine zx_T.l (i := .iload_n 1) (k := 1) (v := .int (zI (p))) (pc := 11) rfl rfl rfl ?_
  refine zr_al (n := 60) (lo := 0) (hi := 28) (e := zv_a h 45 p) (pc := 12) rfl rfl rfl hI (by omega) (by omega) rfl (fun g2a g2b => ?_)
  have c3 : zv_a h 45 p = 2 := by omega
  rcases c3 with c3
  · refine zr_sw (i := .tableswitch 443 0 28 #[131, 443, 443, 443, 443, 443, 443, 443, 134, 151, 131, 131, 443, 443, 443, 443, 443, 187, 187, 187, 196, 237, 271, 311, 319, 328, 348, 367, 418]) (len := 131) (t := 456) (x := zv_a h 45 p) (k := 2) (pc := 13) rfl c3 rfl rfl rfl rfl ?_
    refine zx_T.l (i := .aload_n 0) (k := 1) (v := .ref 44) (pc := 456) rfl rfl rfl ?_
    refine zr_gr (k := 2) (b := 45) (pc := 457) rfl rfl rfl hI ?_
    refine zx_T.l (i := .iload_n 1) (k := 1) (v := .int (zI (p))) (pc := 460) rfl rfl rfl ?_
    refine zr_al (n := 60) (lo := 0) (hi := 28) (e := zv_a h 45 p) (pc := 461) rfl rfl rfl hI (by omega) (by omega) rfl (fun g4a g4b => ?_)
    refine zx_T.s (i := .bipush 8) (k := 2) (st' := [.int (zI (8)), .int (zI (zv_a h 45 p))]) (pc := 462) rfl rfl ?_
    refine zr_i2 (x := zv_a h 45 p) (y := 8) (t := 476) (pc := 464) rfl rfl (by omega) (by omega) (by omega) (by omega) (fun (c5 : 8 ≤ (zv_a h 45 p)) => False.elim (by omega)) (fun (c5 : ¬ (8 ≤ (zv_a h 45 p))) => ?_)
    refine zx_T.l (i := .aload_n 0) (k := 1) (v := .ref 44) (pc := 467) rfl rfl rfl ?_
    refine zx_T.l (i := .iload_n 1) (k := 1) (v := .int (zI (p))) (pc := 468) rfl rfl rfl ?_
    refine zx_T.l (i := .iload_n 2) (k := 1) (v := .int (zI (t))) (pc := 469) rfl rfl rfl ?_
    refine zr_iv (cj := 214) (q' := zp_m214) (As := [.int (zI (p)), .int (zI (t))]) (rest := []) (pc := 470) rfl rfl rfl rfl rfl rfl (Nat.le_of_ble_eq_true rfl) rfl (Nat.le_of_ble_eq_true rfl) hI ((zm_makes (h := h) hI (p := p) (t := t) (by omega) (by omega) (by omega) (by omega) dz vw (by omega) (by omega) (by omega) (by omega) (by omega) (by omega) (by omega) (by omega)).up (Nat.le_of_ble_eq_true rfl)) ?_
    rintro r6 h9 ⟨ih9, w10, r6q, x8⟩
    subst r6q
    try dsimp only at x8
    have ae := x8
    show zx_T zp_P 6 zp_m215 473 [(3, .int (zI (zv_a h 46 p))), (0, .ref 44), (1, .int (zI (p))), (2, .int (zI (t)))] [] h9 _
    refine zx_T.j (i := .goto 9) (k := 3) (pc' := 482) (st' := []) (pc := 473) rfl rfl rfl rfl rfl ?_
    have i42 : zv_i h9 42 = zv_i h9 42 := rfl
    have i43 : zv_i h9 43 = zv_i h9 43 := rfl
    have i38 : zv_i h9 38 = zv_i h9 38 := rfl
    have i41 : zv_i h9 41 = zv_i h9 41 := rfl
    have i50 : zv_i h9 50 = zv_i h9 50 := rfl
    have i25 : zv_i h9 25 = zv_i h9 25 := rfl
    have y17 : zv_i h9 1 = zv_i h 1 := (zv_wi w10 rfl)
    have a61 : ∀ j, 0 ≤ j → zv_a h9 61 j = zv_a h9 61 j := fun j hj => rfl
    have a71 : ∀ j, 0 ≤ j → zv_a h9 71 j = zv_a h9 71 j := fun j hj => rfl
    have b69 : ∀ j, 0 ≤ j → zv_b h9 69 j = zv_b h9 69 j := fun j hj => rfl
    exact zr_vr (pc := 482) rfl rfl ⟨ih9, (w10.wd rfl : zb_W [(44, 25), (61, 0), (69, 0), (44, 50), (44, 14), (44, 42), (44, 43), (44, 49), (44, 41), (44, 38), (71, 0), (72, 0)] h _), rfl, by dsimp only; exact ae⟩

set_option maxRecDepth 100000 in
set_option maxHeartbeats 8000000 in
theorem zm_acts_c3 {h : zx_H} (hI : zb_I zc_H h) {p : Int} {t : Int} (p1 : 0 ≤ p) (p2 : p ≤ 59) (t1 : 7 ≤ t) (t2 : t ≤ 13) (dz : zg_dz (zv_a h 45 p) (zv_a h 46 p) (t - 7) (zv_i h 25) (zv_a h 70) (zv_a h 61)) (vw : zg_VW h t) (t9 : zv_i h 38 ≤ 399) (r9 : zv_i h 41 ≤ 1000000) (r8 : (-5) ≤ zv_i h 41) (x0 : zv_i h 42 = 0) (n8 : ¬ zv_a h 61 8 = 3) (nx : zv_i h 50 = (-1)) (ci : zv_a h 45 p = 21 → 5 ≤ zv_a h 46 p ∧ zv_a h 46 p ≤ 8) (ov : zv_a h 45 p = 3) : zx_T zp_P 6 zp_m215 0 [(0, .ref 44), (1, .int (zI (p))), (2, .int (zI (t)))] [] h (zr_V [(44, 25), (61, 0), (69, 0), (44, 50), (44, 14), (44, 42), (44, 43), (44, 49), (44, 41), (44, 38), (71, 0), (72, 0)] h (fun h' => zg_ae h h')) := by
  have hS := zv_ri hI (k := 25) rfl
  have hT := zv_ri hI (k := 38) rfl
  have hC := zv_ri hI (k := 1) rfl
  refine zx_T.l (i := .aload_n 0) (k := 1) (v := .ref 44) (pc := 0) rfl rfl rfl ?_
  refine zr_gr (k := 3) (b := 46) (pc := 1) rfl rfl rfl hI ?_
  refine zx_T.l (i := .iload_n 1) (k := 1) (v := .int (zI (p))) (pc := 4) rfl rfl rfl ?_
  refine zr_al (n := 60) (lo := (-2147483648)) (hi := 2147483647) (e := zv_a h 46 p) (pc := 5) rfl rfl rfl hI (by omega) (by omega) rfl (fun g1a g1b => ?_)
  refine zx_T.t (i := .istore_n 3) (k := 1) (ls' := [(3, .int (zI (zv_a h 46 p))), (0, .ref 44), (1, .int (zI (p))), (2, .int (zI (t)))]) (st' := []) (pc := 6) rfl rfl rfl rfl ?_
  refine zx_T.l (i := .aload_n 0) (k := 1) (v := .ref 44) (pc := 7) rfl rfl rfl ?_
  refine zr_gr (k := 2) (b := 45) (pc := 8) rfl rfl rfl hI ?_
  refine zx_T.l (i := .iload_n 1) (k := 1) (v := .int (zI (p))) (pc := 11) rfl rfl rfl ?_
  refine zr_al (n := 60) (lo := 0) (hi := 28) (e := zv_a h 45 p) (pc := 12) rfl rfl rfl hI (by omega) (by omega) rfl (fun g2a g2b => ?_)
  have c3 : zv_a h 45 p = 3 := by omega
  rcases c3 with c3
  · refine zr_sw (i := .tableswitch 443 0 28 #[131, 443, 443, 443, 443, 443, 443, 443, 134, 151, 131, 131, 443, 443, 443, 443, 443, 187, 187, 187, 196, 237, 271, 311, 319, 328, 348, 367, 418]) (len := 131) (t := 456) (x := zv_a h 45 p) (k := 3) (pc := 13) rfl c3 rfl rfl rfl rfl ?_
    refine zx_T.l (i := .aload_n 0) (k := 1) (v := .ref 44) (pc := 456) rfl rfl rfl ?_
    refine zr_gr (k := 2) (b := 45) (pc := 457) rfl rfl rfl hI ?_
    refine zx_T.l (i := .iload_n 1) (k := 1) (v := .int (zI (p))) (pc := 460) rfl rfl rfl ?_
    refine zr_al (n := 60) (lo := 0) (hi := 28) (e := zv_a h 45 p) (pc := 461) rfl rfl rfl hI (by omega) (by omega) rfl (fun g4a g4b => ?_)
    refine zx_T.s (i := .bipush 8) (k := 2) (st' := [.int (zI (8)), .int (zI (zv_a h 45 p))]) (pc := 462) rfl rfl ?_
    refine zr_i2 (x := zv_a h 45 p) (y := 8) (t := 476) (pc := 464) rfl rfl (by omega) (by omega) (by omega) (by omega) (fun (c5 : 8 ≤ (zv_a h 45 p)) => False.elim (by omega)) (fun (c5 : ¬ (8 ≤ (zv_a h 45 p))) => ?_)
    refine zx_T.l (i := .aload_n 0) (k := 1) (v := .ref 44) (pc := 467) rfl rfl rfl ?_
    refine zx_T.l (i := .iload_n 1) (k := 1) (v := .int (zI (p))) (pc := 468) rfl rfl rfl ?_
    refine zx_T.l (i := .iload_n 2) (k := 1) (v := .int (zI (t))) (pc := 469) rfl rfl rfl ?_
    refine zr_iv (cj := 214) (q' := zp_m214) (As := [.int (zI (p)), .int (zI (t))]) (rest := []) (pc := 470) rfl rfl rfl rfl rfl rfl (Nat.le_of_ble_eq_true rfl) rfl (Nat.le_of_ble_eq_true rfl) hI ((zm_makes (h := h) hI (p := p) (t := t) (by omega) (by omega) (by omega) (by omega) dz vw (by omega) (by omega) (by omega) (by omega) (by omega) (by omega) (by omega) (by omega)).up (Nat.le_of_ble_eq_true rfl)) ?_
    rintro r6 h9 ⟨ih9, w10, r6q, x8⟩
    subst r6q
    try dsimp only at x8
    have ae := x8
    show zx_T zp_P 6 zp_m215 473 [(3, .int (zI (zv_a h 46 p))), (0, .ref 44), (1, .int (zI (p))), (2, .int (zI (t)))] [] h9 _
    refine zx_T.j (i := .goto 9) (k := 3) (pc' := 482) (st' := []) (pc := 473) rfl rfl rfl rfl rfl ?_
    have i42 : zv_i h9 42 = zv_i h9 42 := rfl
    have i43 : zv_i h9 43 = zv_i h9 43 := rfl
    have i38 : zv_i h9 38 = zv_i h9 38 := rfl
    have i41 : zv_i h9 41 = zv_i h9 41 := rfl
    have i50 : zv_i h9 50 = zv_i h9 50 := rfl
    have i25 : zv_i h9 25 = zv_i h9 25 := rfl
    have y17 : zv_i h9 1 = zv_i h 1 := (zv_wi w10 rfl)
    have a61 : ∀ j, 0 ≤ j → zv_a h9 61 j = zv_a h9 61 j := fun j hj => rfl
    have a71 : ∀ j, 0 ≤ j → zv_a h9 71 j = zv_a h9 71 j := fun j hj => rfl
    have b69 : ∀ j, 0 ≤ j → zv_b h9 69 j = zv_b h9 69 j := fun j hj => rfl
    exact zr_vr (pc := 482) rfl rfl ⟨ih9, (w10.wd rfl : zb_W [(44, 25), (61, 0), (69, 0), (44, 50), (44, 14), (44, 42), (44, 43), (44, 49), (44, 41), (44, 38), (71, 0), (72, 0)] h _), rfl, by dsimp only; exact ae⟩

set_option maxRecDepth 100000 in
set_option maxHeartbeats 8000000 in
theorem zm_acts_c4 {h : zx_H} (hI : zb_I zc_H h) {p : Int} {t : Int} (p1 : 0 ≤ p) (p2 : p ≤ 59) (t1 : 7 ≤ t) (t2 : t ≤ 13) (dz : zg_dz (zv_a h 45 p) (zv_a h 46 p) (t - 7) (zv_i h 25) (zv_a h 70) (zv_a h 61)) (vw : zg_VW h t) (t9 : zv_i h 38 ≤ 399) (r9 : zv_i h 41 ≤ 1000000) (r8 : (-5) ≤ zv_i h 41) (x0 : zv_i h 42 = 0) (n8 : ¬ zv_a h 61 8 = 3) (nx : zv_i h 50 = (-1)) (ci : zv_a h 45 p = 21 → 5 ≤ zv_a h 46 p ∧ zv_a h 46 p ≤ 8) (ov : zv_a h 45 p = 4) : zx_T zp_P 6 zp_m215 0 [(0, .ref 44), (1, .int (zI (p))), (2, .int (zI (t)))] [] h (zr_V [(44, 25), (61, 0), (69, 0), (44, 50), (44, 14), (44, 42), (44, 43), (44, 49), (44, 41), (44, 38), (71, 0), (72, 0)] h (fun h' => zg_ae h h')) := by
  have hS := zv_ri hI (k := 25) rfl
  have hT := zv_ri hI (k := 38) rfl
  have hC := zv_ri hI (k := 1) rfl
  refine zx_T.l (i := .aload_n 0) (k := 1) (v := .ref 44) (pc := 0) rfl rfl rfl ?_
  refine zr_gr (k := 3) (b := 46) (pc := 1) rfl rfl rfl hI ?_
  refine zx_T.l (i := .iload_n 1) (k := 1) (v := .int (zI (p))) (pc := 4) rfl rfl rfl ?_
  refine zr_al (n := 60) (lo := (-2147483648)) (hi := 2147483647) (e := zv_a h 46 p) (pc := 5) rfl rfl rfl hI (by omega) (by omega) rfl (fun g1a g1b => ?_)
  refine zx_T.t (i := .istore_n 3) (k := 1) (ls' := [(3, .int (zI (zv_a h 46 p))), (0, .ref 44), (1, .int (zI (p))), (2, .int (zI (t)))]) (st' := []) (pc := 6) rfl rfl rfl rfl ?_
  refine zx_T.l (i := .aload_n 0) (k := 1) (v := .ref 44) (pc := 7) rfl rfl rfl ?_
  refine zr_gr (k := 2) (b := 45) (pc := 8) rfl rfl rfl hI ?_
  refine zx_T.l (i := .iload_n 1) (k := 1) (v := .int (zI (p))) (pc := 11) rfl rfl rfl ?_
  refine zr_al (n := 60) (lo := 0) (hi := 28) (e := zv_a h 45 p) (pc := 12) rfl rfl rfl hI (by omega) (by omega) rfl (fun g2a g2b => ?_)
  have c3 : zv_a h 45 p = 4 := by omega
  rcases c3 with c3
  · refine zr_sw (i := .tableswitch 443 0 28 #[131, 443, 443, 443, 443, 443, 443, 443, 134, 151, 131, 131, 443, 443, 443, 443, 443, 187, 187, 187, 196, 237, 271, 311, 319, 328, 348, 367, 418]) (len := 131) (t := 456) (x := zv_a h 45 p) (k := 4) (pc := 13) rfl c3 rfl rfl rfl rfl ?_
    refine zx_T.l (i := .aload_n 0) (k := 1) (v := .ref 44) (pc := 456) rfl rfl rfl ?_
    refine zr_gr (k := 2) (b := 45) (pc := 457) rfl rfl rfl hI ?_
    refine zx_T.l (i := .iload_n 1) (k := 1) (v := .int (zI (p))) (pc := 460) rfl rfl rfl ?_
    refine zr_al (n := 60) (lo := 0) (hi := 28) (e := zv_a h 45 p) (pc := 461) rfl rfl rfl hI (by omega) (by omega) rfl (fun g4a g4b => ?_)
    refine zx_T.s (i := .bipush 8) (k := 2) (st' := [.int (zI (8)), .int (zI (zv_a h 45 p))]) (pc := 462) rfl rfl ?_
    refine zr_i2 (x := zv_a h 45 p) (y := 8) (t := 476) (pc := 464) rfl rfl (by omega) (by omega) (by omega) (by omega) (fun (c5 : 8 ≤ (zv_a h 45 p)) => False.elim (by omega)) (fun (c5 : ¬ (8 ≤ (zv_a h 45 p))) => ?_)
    refine zx_T.l (i := .aload_n 0) (k := 1) (v := .ref 44) (pc := 467) rfl rfl rfl ?_
    refine zx_T.l (i := .iload_n 1) (k := 1) (v := .int (zI (p))) (pc := 468) rfl rfl rfl ?_
    refine zx_T.l (i := .iload_n 2) (k := 1) (v := .int (zI (t))) (pc := 469) rfl rfl rfl ?_
    refine zr_iv (cj := 214) (q' := zp_m214) (As := [.int (zI (p)), .int (zI (t))]) (rest := []) (pc := 470) rfl rfl rfl rfl rfl rfl (Nat.le_of_ble_eq_true rfl) rfl (Nat.le_of_ble_eq_true rfl) hI ((zm_makes (h := h) hI (p := p) (t := t) (by omega) (by omega) (by omega) (by omega) dz vw (by omega) (by omega) (by omega) (by omega) (by omega) (by omega) (by omega) (by omega)).up (Nat.le_of_ble_eq_true rfl)) ?_
    rintro r6 h9 ⟨ih9, w10, r6q, x8⟩
    subst r6q
    try dsimp only at x8
    have ae := x8
    show zx_T zp_P 6 zp_m215 473 [(3, .int (zI (zv_a h 46 p))), (0, .ref 44), (1, .int (zI (p))), (2, .int (zI (t)))] [] h9 _
    refine zx_T.j (i := .goto 9) (k := 3) (pc' := 482) (st' := []) (pc := 473) rfl rfl rfl rfl rfl ?_
    have i42 : zv_i h9 42 = zv_i h9 42 := rfl
    have i43 : zv_i h9 43 = zv_i h9 43 := rfl
    have i38 : zv_i h9 38 = zv_i h9 38 := rfl
    have i41 : zv_i h9 41 = zv_i h9 41 := rfl
    have i50 : zv_i h9 50 = zv_i h9 50 := rfl
    have i25 : zv_i h9 25 = zv_i h9 25 := rfl
    have y17 : zv_i h9 1 = zv_i h 1 := (zv_wi w10 rfl)
    have a61 : ∀ j, 0 ≤ j → zv_a h9 61 j = zv_a h9 61 j := fun j hj => rfl
    have a71 : ∀ j, 0 ≤ j → zv_a h9 71 j = zv_a h9 71 j := fun j hj => rfl
    have b69 : ∀ j, 0 ≤ j → zv_b h9 69 j = zv_b h9 69 j := fun j hj => rfl
    exact zr_vr (pc := 482) rfl rfl ⟨ih9, (w10.wd rfl : zb_W [(44, 25), (61, 0), (69, 0), (44, 50), (44, 14), (44, 42), (44, 43), (44, 49), (44, 41), (44, 38), (71, 0), (72, 0)] h _), rfl, by dsimp only; exact ae⟩

set_option maxRecDepth 100000 in
set_option maxHeartbeats 8000000 in
theorem zm_acts_c5 {h : zx_H} (hI : zb_I zc_H h) {p : Int} {t : Int} (p1 : 0 ≤ p) (p2 : p ≤ 59) (t1 : 7 ≤ t) (t2 : t ≤ 13) (dz : zg_dz (zv_a h 45 p) (zv_a h 46 p) (t - 7) (zv_i h 25) (zv_a h 70) (zv_a h 61)) (vw : zg_VW h t) (t9 : zv_i h 38 ≤ 399) (r9 : zv_i h 41 ≤ 1000000) (r8 : (-5) ≤ zv_i h 41) (x0 : zv_i h 42 = 0) (n8 : ¬ zv_a h 61 8 = 3) (nx : zv_i h 50 = (-1)) (ci : zv_a h 45 p = 21 → 5 ≤ zv_a h 46 p ∧ zv_a h 46 p ≤ 8) (ov : zv_a h 45 p = 5) : zx_T zp_P 6 zp_m215 0 [(0, .ref 44), (1, .int (zI (p))), (2, .int (zI (t)))] [] h (zr_V [(44, 25), (61, 0), (69, 0), (44, 50), (44, 14), (44, 42), (44, 43), (44, 49), (44, 41), (44, 38), (71, 0), (72, 0)] h (fun h' => zg_ae h h')) := by
  have hS := zv_ri hI (k := 25) rfl
  have hT := zv_ri hI (k := 38) rfl
  have hC := zv_ri hI (k := 1) rfl
  refine zx_T.l (i := .aload_n 0) (k := 1) (v := .ref 44) (pc := 0) rfl rfl rfl ?_
  refine zr_gr (k := 3) (b := 46) (pc := 1) rfl rfl rfl hI ?_
  refine zx_T.l (i := .iload_n 1) (k := 1) (v := .int (zI (p))) (pc := 4) rfl rfl rfl ?_
  refine zr_al (n := 60) (lo := (-2147483648)) (hi := 2147483647) (e := zv_a h 46 p) (pc := 5) rfl rfl rfl hI (by omega) (by omega) rfl (fun g1a g1b => ?_)
  refine zx_T.t (i := .istore_n 3) (k := 1) (ls' := [(3, .int (zI (zv_a h 46 p))), (0, .ref 44), (1, .int (zI (p))), (2, .int (zI (t)))]) (st' := []) (pc := 6) rfl rfl rfl rfl ?_
  refine zx_T.l (i := .aload_n 0) (k := 1) (v := .ref 44) (pc := 7) rfl rfl rfl ?_
  refine zr_gr (k := 2) (b := 45) (pc := 8) rfl rfl rfl hI ?_
  refine zx_T.l (i := .iload_n 1) (k := 1) (v := .int (zI (p))) (pc := 11) rfl rfl rfl ?_
  refine zr_al (n := 60) (lo := 0) (hi := 28) (e := zv_a h 45 p) (pc := 12) rfl rfl rfl hI (by omega) (by omega) rfl (fun g2a g2b => ?_)
  have c3 : zv_a h 45 p = 5 := by omega
  rcases c3 with c3
  · refine zr_sw (i := .tableswitch 443 0 28 #[131, 443, 443, 443, 443, 443, 443, 443, 134, 151, 131, 131, 443, 443, 443, 443, 443, 187, 187, 187, 196, 237, 271, 311, 319, 328, 348, 367, 418]) (len := 131) (t := 456) (x := zv_a h 45 p) (k := 5) (pc := 13) rfl c3 rfl rfl rfl rfl ?_
    refine zx_T.l (i := .aload_n 0) (k := 1) (v := .ref 44) (pc := 456) rfl rfl rfl ?_
    refine zr_gr (k := 2) (b := 45) (pc := 457) rfl rfl rfl hI ?_
    refine zx_T.l (i := .iload_n 1) (k := 1) (v := .int (zI (p))) (pc := 460) rfl rfl rfl ?_
    refine zr_al (n := 60) (lo := 0) (hi := 28) (e := zv_a h 45 p) (pc := 461) rfl rfl rfl hI (by omega) (by omega) rfl (fun g4a g4b => ?_)
    refine zx_T.s (i := .bipush 8) (k := 2) (st' := [.int (zI (8)), .int (zI (zv_a h 45 p))]) (pc := 462) rfl rfl ?_
    refine zr_i2 (x := zv_a h 45 p) (y := 8) (t := 476) (pc := 464) rfl rfl (by omega) (by omega) (by omega) (by omega) (fun (c5 : 8 ≤ (zv_a h 45 p)) => False.elim (by omega)) (fun (c5 : ¬ (8 ≤ (zv_a h 45 p))) => ?_)
    refine zx_T.l (i := .aload_n 0) (k := 1) (v := .ref 44) (pc := 467) rfl rfl rfl ?_
    refine zx_T.l (i := .iload_n 1) (k := 1) (v := .int (zI (p))) (pc := 468) rfl rfl rfl ?_
    refine zx_T.l (i := .iload_n 2) (k := 1) (v := .int (zI (t))) (pc := 469) rfl rfl rfl ?_
    refine zr_iv (cj := 214) (q' := zp_m214) (As := [.int (zI (p)), .int (zI (t))]) (rest := []) (pc := 470) rfl rfl rfl rfl rfl rfl (Nat.le_of_ble_eq_true rfl) rfl (Nat.le_of_ble_eq_true rfl) hI ((zm_makes (h := h) hI (p := p) (t := t) (by omega) (by omega) (by omega) (by omega) dz vw (by omega) (by omega) (by omega) (by omega) (by omega) (by omega) (by omega) (by omega)).up (Nat.le_of_ble_eq_true rfl)) ?_
    rintro r6 h9 ⟨ih9, w10, r6q, x8⟩
    subst r6q
    try dsimp only at x8
    have ae := x8
    show zx_T zp_P 6 zp_m215 473 [(3, .int (zI (zv_a h 46 p))), (0, .ref 44), (1, .int (zI (p))), (2, .int (zI (t)))] [] h9 _
    refine zx_T.j (i := .goto 9) (k := 3) (pc' := 482) (st' := []) (pc := 473) rfl rfl rfl rfl rfl ?_
    have i42 : zv_i h9 42 = zv_i h9 42 := rfl
    have i43 : zv_i h9 43 = zv_i h9 43 := rfl
    have i38 : zv_i h9 38 = zv_i h9 38 := rfl
    have i41 : zv_i h9 41 = zv_i h9 41 := rfl
    have i50 : zv_i h9 50 = zv_i h9 50 := rfl
    have i25 : zv_i h9 25 = zv_i h9 25 := rfl
    have y17 : zv_i h9 1 = zv_i h 1 := (zv_wi w10 rfl)
    have a61 : ∀ j, 0 ≤ j → zv_a h9 61 j = zv_a h9 61 j := fun j hj => rfl
    have a71 : ∀ j, 0 ≤ j → zv_a h9 71 j = zv_a h9 71 j := fun j hj => rfl
    have b69 : ∀ j, 0 ≤ j → zv_b h9 69 j = zv_b h9 69 j := fun j hj => rfl
    exact zr_vr (pc := 482) rfl rfl ⟨ih9, (w10.wd rfl : zb_W [(44, 25), (61, 0), (69, 0), (44, 50), (44, 14), (44, 42), (44, 43), (44, 49), (44, 41), (44, 38), (71, 0), (72, 0)] h _), rfl, by dsimp only; exact ae⟩

set_option maxRecDepth 100000 in
set_option maxHeartbeats 8000000 in
theorem zm_acts_c6 {h : zx_H} (hI : zb_I zc_H h) {p : Int} {t : Int} (p1 : 0 ≤ p) (p2 : p ≤ 59) (t1 : 7 ≤ t) (t2 : t ≤ 13) (dz : zg_dz (zv_a h 45 p) (zv_a h 46 p) (t - 7) (zv_i h 25) (zv_a h 70) (zv_a h 61)) (vw : zg_VW h t) (t9 : zv_i h 38 ≤ 399) (r9 : zv_i h 41 ≤ 1000000) (r8 : (-5) ≤ zv_i h 41) (x0 : zv_i h 42 = 0) (n8 : ¬ zv_a h 61 8 = 3) (nx : zv_i h 50 = (-1)) (ci : zv_a h 45 p = 21 → 5 ≤ zv_a h 46 p ∧ zv_a h 46 p ≤ 8) (ov : zv_a h 45 p = 6) : zx_T zp_P 6 zp_m215 0 [(0, .ref 44), (1, .int (zI (p))), (2, .int (zI (t)))] [] h (zr_V [(44, 25), (61, 0), (69, 0), (44, 50), (44, 14), (44, 42), (44, 43), (44, 49), (44, 41), (44, 38), (71, 0), (72, 0)] h (fun h' => zg_ae h h')) := by
  have hS := zv_ri hI (k := 25) rfl
  have hT := zv_ri hI (k := 38) rfl
  have hC := zv_ri hI (k := 1) rfl
  refine zx_T.l (i := .aload_n 0) (k := 1) (v := .ref 44) (pc := 0) rfl rfl rfl ?_
  refine zr_gr (k := 3) (b := 46) (pc := 1) rfl rfl rfl hI ?_
  refine zx_T.l (i := .iload_n 1) (k := 1) (v := .int (zI (p))) (pc := 4) rfl rfl rfl ?_
  refine zr_al (n := 60) (lo := (-2147483648)) (hi := 2147483647) (e := zv_a h 46 p) (pc := 5) rfl rfl rfl hI (by omega) (by omega) rfl (fun g1a g1b => ?_)
  refine zx_T.t (i := .istore_n 3) (k := 1) (ls' := [(3, .int (zI (zv_a h 46 p))), (0, .ref 44), (1, .int (zI (p))), (2, .int (zI (t)))]) (st' := []) (pc := 6) rfl rfl rfl rfl ?_
  refine zx_T.l (i := .aload_n 0) (k := 1) (v := .ref 44) (pc := 7) rfl rfl rfl ?_
  refine zr_gr (k := 2) (b := 45) (pc := 8) rfl rfl rfl hI ?_
  refine zx_T.l (i := .iload_n 1) (k := 1) (v := .int (zI (p))) (pc := 11) rfl rfl rfl ?_
  refine zr_al (n := 60) (lo := 0) (hi := 28) (e := zv_a h 45 p) (pc := 12) rfl rfl rfl hI (by omega) (by omega) rfl (fun g2a g2b => ?_)
  have c3 : zv_a h 45 p = 6 := by omega
  rcases c3 with c3
  · refine zr_sw (i := .tableswitch 443 0 28 #[131, 443, 443, 443, 443, 443, 443, 443, 134, 151, 131, 131, 443, 443, 443, 443, 443, 187, 187, 187, 196, 237, 271, 311, 319, 328, 348, 367, 418]) (len := 131) (t := 456) (x := zv_a h 45 p) (k := 6) (pc := 13) rfl c3 rfl rfl rfl rfl ?_
    refine zx_T.l (i := .aload_n 0) (k := 1) (v := .ref 44) (pc := 456) rfl rfl rfl ?_
    refine zr_gr (k := 2) (b := 45) (pc := 457) rfl rfl rfl hI ?_
    refine zx_T.l (i := .iload_n 1) (k := 1) (v := .int (zI (p))) (pc := 460) rfl rfl rfl ?_
    refine zr_al (n := 60) (lo := 0) (hi := 28) (e := zv_a h 45 p) (pc := 461) rfl rfl rfl hI (by omega) (by omega) rfl (fun g4a g4b => ?_)
    refine zx_T.s (i := .bipush 8) (k := 2) (st' := [.int (zI (8)), .int (zI (zv_a h 45 p))]) (pc := 462) rfl rfl ?_
    refine zr_i2 (x := zv_a h 45 p) (y := 8) (t := 476) (pc := 464) rfl rfl (by omega) (by omega) (by omega) (by omega) (fun (c5 : 8 ≤ (zv_a h 45 p)) => False.elim (by omega)) (fun (c5 : ¬ (8 ≤ (zv_a h 45 p))) => ?_)
    refine zx_T.l (i := .aload_n 0) (k := 1) (v := .ref 44) (pc := 467) rfl rfl rfl ?_
    refine zx_T.l (i := .iload_n 1) (k := 1) (v := .int (zI (p))) (pc := 468) rfl rfl rfl ?_
    refine zx_T.l (i := .iload_n 2) (k := 1) (v := .int (zI (t))) (pc := 469) rfl rfl rfl ?_
    refine zr_iv (cj := 214) (q' := zp_m214) (As := [.int (zI (p)), .int (zI (t))]) (rest := []) (pc := 470) rfl rfl rfl rfl rfl rfl (Nat.le_of_ble_eq_true rfl) rfl (Nat.le_of_ble_eq_true rfl) hI ((zm_makes (h := h) hI (p := p) (t := t) (by omega) (by omega) (by omega) (by omega) dz vw (by omega) (by omega) (by omega) (by omega) (by omega) (by omega) (by omega) (by omega)).up (Nat.le_of_ble_eq_true rfl)) ?_
    rintro r6 h9 ⟨ih9, w10, r6q, x8⟩
    subst r6q
    try dsimp only at x8
    have ae := x8
    show zx_T zp_P 6 zp_m215 473 [(3, .int (zI (zv_a h 46 p))), (0, .ref 44), (1, .int (zI (p))), (2, .int (zI (t)))] [] h9 _
    refine zx_T.j (i := .goto 9) (k := 3) (pc' := 482) (st' := []) (pc := 473) rfl rfl rfl rfl rfl ?_
    have i42 : zv_i h9 42 = zv_i h9 42 := rfl
    have i43 : zv_i h9 43 = zv_i h9 43 := rfl
    have i38 : zv_i h9 38 = zv_i h9 38 := rfl
    have i41 : zv_i h9 41 = zv_i h9 41 := rfl
    have i50 : zv_i h9 50 = zv_i h9 50 := rfl
    have i25 : zv_i h9 25 = zv_i h9 25 := rfl
    have y17 : zv_i h9 1 = zv_i h 1 := (zv_wi w10 rfl)
    have a61 : ∀ j, 0 ≤ j → zv_a h9 61 j = zv_a h9 61 j := fun j hj => rfl
    have a71 : ∀ j, 0 ≤ j → zv_a h9 71 j = zv_a h9 71 j := fun j hj => rfl
    have b69 : ∀ j, 0 ≤ j → zv_b h9 69 j = zv_b h9 69 j := fun j hj => rfl
    exact zr_vr (pc := 482) rfl rfl ⟨ih9, (w10.wd rfl : zb_W [(44, 25), (61, 0), (69, 0), (44, 50), (44, 14), (44, 42), (44, 43), (44, 49), (44, 41), (44, 38), (71, 0), (72, 0)] h _), rfl, by dsimp only; exact ae⟩

set_option maxRecDepth 100000 in
set_option maxHeartbeats 8000000 in
theorem zm_acts_c7 {h : zx_H} (hI : zb_I zc_H h) {p : Int} {t : Int} (p1 : 0 ≤ p) (p2 : p ≤ 59) (t1 : 7 ≤ t) (t2 : t ≤ 13) (dz : zg_dz (zv_a h 45 p) (zv_a h 46 p) (t - 7) (zv_i h 25) (zv_a h 70) (zv_a h 61)) (vw : zg_VW h t) (t9 : zv_i h 38 ≤ 399) (r9 : zv_i h 41 ≤ 1000000) (r8 : (-5) ≤ zv_i h 41) (x0 : zv_i h 42 = 0) (n8 : ¬ zv_a h 61 8 = 3) (nx : zv_i h 50 = (-1)) (ci : zv_a h 45 p = 21 → 5 ≤ zv_a h 46 p ∧ zv_a h 46 p ≤ 8) (ov : zv_a h 45 p = 7) : zx_T zp_P 6 zp_m215 0 [(0, .ref 44), (1, .int (zI (p))), (2, .int (zI (t)))] [] h (zr_V [(44, 25), (61, 0), (69, 0), (44, 50), (44, 14), (44, 42), (44, 43), (44, 49), (44, 41), (44, 38), (71, 0), (72, 0)] h (fun h' => zg_ae h h')) := by
  have hS := zv_ri hI (k := 25) rfl
  have hT := zv_ri hI (k := 38) rfl
  have hC := zv_ri hI (k := 1) rfl
  refine zx_T.l (i := .aload_n 0) (k := 1) (v := .ref 44) (pc := 0) rfl rfl rfl ?_
  refine zr_gr (k := 3) (b := 46) (pc := 1) rfl rfl rfl hI ?_
  refine zx_T.l (i := .iload_n 1) (k := 1) (v := .int (zI (p))) (pc := 4) rfl rfl rfl ?_
  refine zr_al (n := 60) (lo := (-2147483648)) (hi := 2147483647) (e := zv_a h 46 p) (pc := 5) rfl rfl rfl hI (by omega) (by omega) rfl (fun g1a g1b => ?_)
  refine zx_T.t (i := .istore_n 3) (k := 1) (ls' := [(3, .int (zI (zv_a h 46 p))), (0, .ref 44), (1, .int (zI (p))), (2, .int (zI (t)))]) (st' := []) (pc := 6) rfl rfl rfl rfl ?_
  refine zx_T.l (i := .aload_n 0) (k := 1) (v := .ref 44) (pc := 7) rfl rfl rfl ?_
  refine zr_gr (k := 2) (b := 45) (pc := 8) rfl rfl rfl hI ?_
  refine zx_T.l (i := .iload_n 1) (k := 1) (v := .int (zI (p))) (pc := 11) rfl rfl rfl ?_
  refine zr_al (n := 60) (lo := 0) (hi := 28) (e := zv_a h 45 p) (pc := 12) rfl rfl rfl hI (by omega) (by omega) rfl (fun g2a g2b => ?_)
  have c3 : zv_a h 45 p = 7 := by omega
  rcases c3 with c3
  · refine zr_sw (i := .tableswitch 443 0 28 #[131, 443, 443, 443, 443, 443, 443, 443, 134, 151, 131, 131, 443, 443, 443, 443, 443, 187, 187, 187, 196, 237, 271, 311, 319, 328, 348, 367, 418]) (len := 131) (t := 456) (x := zv_a h 45 p) (k := 7) (pc := 13) rfl c3 rfl rfl rfl rfl ?_
    refine zx_T.l (i := .aload_n 0) (k := 1) (v := .ref 44) (pc := 456) rfl rfl rfl ?_
    refine zr_gr (k := 2) (b := 45) (pc := 457) rfl rfl rfl hI ?_
    refine zx_T.l (i := .iload_n 1) (k := 1) (v := .int (zI (p))) (pc := 460) rfl rfl rfl ?_
    refine zr_al (n := 60) (lo := 0) (hi := 28) (e := zv_a h 45 p) (pc := 461) rfl rfl rfl hI (by omega) (by omega) rfl (fun g4a g4b => ?_)
    refine zx_T.s (i := .bipush 8) (k := 2) (st' := [.int (zI (8)), .int (zI (zv_a h 45 p))]) (pc := 462) rfl rfl ?_
    refine zr_i2 (x := zv_a h 45 p) (y := 8) (t := 476) (pc := 464) rfl rfl (by omega) (by omega) (by omega) (by omega) (fun (c5 : 8 ≤ (zv_a h 45 p)) => False.elim (by omega)) (fun (c5 : ¬ (8 ≤ (zv_a h 45 p))) => ?_)
    refine zx_T.l (i := .aload_n 0) (k := 1) (v := .ref 44) (pc := 467) rfl rfl rfl ?_
    refine zx_T.l (i := .iload_n 1) (k := 1) (v := .int (zI (p))) (pc := 468) rfl rfl rfl ?_
    refine zx_T.l (i := .iload_n 2) (k := 1) (v := .int (zI (t))) (pc := 469) rfl rfl rfl ?_
    refine zr_iv (cj := 214) (q' := zp_m214) (As := [.int (zI (p)), .int (zI (t))]) (rest := []) (pc := 470) rfl rfl rfl rfl rfl rfl (Nat.le_of_ble_eq_true rfl) rfl (Nat.le_of_ble_eq_true rfl) hI ((zm_makes (h := h) hI (p := p) (t := t) (by omega) (by omega) (by omega) (by omega) dz vw (by omega) (by omega) (by omega) (by omega) (by omega) (by omega) (by omega) (by omega)).up (Nat.le_of_ble_eq_true rfl)) ?_
    rintro r6 h9 ⟨ih9, w10, r6q, x8⟩
    subst r6q
    try dsimp only at x8
    have ae := x8
    show zx_T zp_P 6 zp_m215 473 [(3, .int (zI (zv_a h 46 p))), (0, .ref 44), (1, .int (zI (p))), (2, .int (zI (t)))] [] h9 _
    refine zx_T.j (i := .goto 9) (k := 3) (pc' := 482) (st' := []) (pc := 473) rfl rfl rfl rfl rfl ?_
    have i42 : zv_i h9 42 = zv_i h9 42 := rfl
    have i43 : zv_i h9 43 = zv_i h9 43 := rfl
    have i38 : zv_i h9 38 = zv_i h9 38 := rfl
    have i41 : zv_i h9 41 = zv_i h9 41 := rfl
    have i50 : zv_i h9 50 = zv_i h9 50 := rfl
    have i25 : zv_i h9 25 = zv_i h9 25 := rfl
    have y17 : zv_i h9 1 = zv_i h 1 := (zv_wi w10 rfl)
    have a61 : ∀ j, 0 ≤ j → zv_a h9 61 j = zv_a h9 61 j := fun j hj => rfl
    have a71 : ∀ j, 0 ≤ j → zv_a h9 71 j = zv_a h9 71 j := fun j hj => rfl
    have b69 : ∀ j, 0 ≤ j → zv_b h9 69 j = zv_b h9 69 j := fun j hj => rfl
    exact zr_vr (pc := 482) rfl rfl ⟨ih9, (w10.wd rfl : zb_W [(44, 25), (61, 0), (69, 0), (44, 50), (44, 14), (44, 42), (44, 43), (44, 49), (44, 41), (44, 38), (71, 0), (72, 0)] h _), rfl, by dsimp only; exact ae⟩

set_option maxRecDepth 100000 in
set_option maxHeartbeats 8000000 in
theorem zm_acts_c8 {h : zx_H} (hI : zb_I zc_H h) {p : Int} {t : Int} (p1 : 0 ≤ p) (p2 : p ≤ 59) (t1 : 7 ≤ t) (t2 : t ≤ 13) (dz : zg_dz (zv_a h 45 p) (zv_a h 46 p) (t - 7) (zv_i h 25) (zv_a h 70) (zv_a h 61)) (vw : zg_VW h t) (t9 : zv_i h 38 ≤ 399) (r9 : zv_i h 41 ≤ 1000000) (r8 : (-5) ≤ zv_i h 41) (x0 : zv_i h 42 = 0) (n8 : ¬ zv_a h 61 8 = 3) (nx : zv_i h 50 = (-1)) (ci : zv_a h 45 p = 21 → 5 ≤ zv_a h 46 p ∧ zv_a h 46 p ≤ 8) (ov : zv_a h 45 p = 8) : zx_T zp_P 6 zp_m215 0 [(0, .ref 44), (1, .int (zI (p))), (2, .int (zI (t)))] [] h (zr_V [(44, 25), (61, 0), (69, 0), (44, 50), (44, 14), (44, 42), (44, 43), (44, 49), (44, 41), (44, 38), (71, 0), (72, 0)] h (fun h' => zg_ae h h')) := by
  have hS := zv_ri hI (k := 25) rfl
  have hT := zv_ri hI (k := 38) rfl
  have hC := zv_ri hI (k := 1) rfl
  refine zx_T.l (i := .aload_n 0) (k := 1) (v := .ref 44) (pc := 0) rfl rfl rfl ?_
  refine zr_gr (k := 3) (b := 46) (pc := 1) rfl rfl rfl hI ?_
  refine zx_T.l (i := .iload_n 1) (k := 1) (v := .int (zI (p))) (pc := 4) rfl rfl rfl ?_
  refine zr_al (n := 60) (lo := (-2147483648)) (hi := 2147483647) (e := zv_a h 46 p) (pc := 5) rfl rfl rfl hI (by omega) (by omega) rfl (fun g1a g1b => ?_)
  refine zx_T.t (i := .istore_n 3) (k := 1) (ls' := [(3, .int (zI (zv_a h 46 p))), (0, .ref 44), (1, .int (zI (p))), (2, .int (zI (t)))]) (st' := []) (pc := 6) rfl rfl rfl rfl ?_
  refine zx_T.l (i := .aload_n 0) (k := 1) (v := .ref 44) (pc := 7) rfl rfl rfl ?_
  refine zr_gr (k := 2) (b := 45) (pc := 8) rfl rfl rfl hI ?_
  refine zx_T.l (i := .iload_n 1) (k := 1) (v := .int (zI (p))) (pc := 11) rfl rfl rfl ?_
  refine zr_al (n := 60) (lo := 0) (hi := 28) (e := zv_a h 45 p) (pc := 12) rfl rfl rfl hI (by omega) (by omega) rfl (fun g2a g2b => ?_)
  have c3 : zv_a h 45 p = 8 := by omega
  rcases c3 with c3
  · refine zr_sw (i := .tableswitch 443 0 28 #[131, 443, 443, 443, 443, 443, 443, 443, 134, 151, 131, 131, 443, 443, 443, 443, 443, 187, 187, 187, 196, 237, 271, 311, 319, 328, 348, 367, 418]) (len := 131) (t := 147) (x := zv_a h 45 p) (k := 8) (pc := 13) rfl c3 rfl rfl rfl rfl ?_
    have d1 := dz.1.2.2.1 (by omega)
    refine zx_T.l (i := .aload_n 0) (k := 1) (v := .ref 44) (pc := 147) rfl rfl rfl ?_
    refine zr_gr (k := 36) (b := 69) (pc := 148) rfl rfl rfl hI ?_
    refine zx_T.l (i := .iload_n 2) (k := 1) (v := .int (zI (t))) (pc := 151) rfl rfl rfl ?_
    refine zx_T.s (i := .iconst 1) (k := 1) (st' := [.int (zI (1)), .int (zI (t)), .ref 69]) (pc := 152) rfl rfl ?_
    refine zr_add (x := t) (y := 1) (e := t + 1) (pc := 153) rfl (by omega) ?_
    refine zx_T.l (i := .aload_n 0) (k := 1) (v := .ref 44) (pc := 154) rfl rfl rfl ?_
    refine zr_gr (k := 36) (b := 69) (pc := 155) rfl rfl rfl hI ?_
    refine zx_T.l (i := .iload_n 3) (k := 1) (v := .int (zI (zv_a h 46 p))) (pc := 158) rfl rfl rfl ?_
    have g4 := zv_rb (h := h) 69 (zv_a h 46 p)
    refine zr_ll (n := 14) (e := zv_b h 69 (zv_a h 46 p)) (pc := 159) rfl rfl rfl hI (by omega) (by omega) rfl ?_
    refine zr_ls (n := 14) (e := zv_b h 69 (zv_a h 46 p)) (pc := 160) rfl rfl rfl hI (by omega) (by omega) (fun h5 ih5 w6 s7 => ?_)
    refine zx_T.j (i := .goto 321) (k := 3) (pc' := 482) (st' := []) (pc := 161) rfl rfl rfl rfl rfl ?_
    have i42 : zv_i h5 42 = zv_i h 42 := (zv_wi w6 rfl)
    have i43 : zv_i h5 43 = zv_i h 43 := (zv_wi w6 rfl)
    have i38 : zv_i h5 38 = zv_i h 38 := (zv_wi w6 rfl)
    have i41 : zv_i h5 41 = zv_i h 41 := (zv_wi w6 rfl)
    have i50 : zv_i h5 50 = zv_i h 50 := (zv_wi w6 rfl)
    have i25 : zv_i h5 25 = zv_i h 25 := (zv_wi w6 rfl)
    have y14 : zv_i h5 1 = zv_i h 1 := (zv_wi w6 rfl)
    have y15 : zv_a h5 61 8 = zv_a h 61 8 := (zv_wa w6 rfl 8)
    have a61 : ∀ j, 0 ≤ j → zv_a h5 61 j = zv_a h 61 j := fun j hj => by rw [zv_wa w6 rfl j]
    have a71 : ∀ j, 0 ≤ j → zv_a h5 71 j = zv_a h 71 j := fun j hj => by rw [zv_wa w6 rfl j]
    have b69 : ∀ j, 0 ≤ j → zv_b h5 69 j = if j = t + 1 then (zL (zv_b h 69 (zv_a h 46 p))).toInt else zv_b h 69 j := fun j hj => by rw [s7 j hj]
    exact zr_vr (pc := 482) rfl rfl ⟨ih5, (w6.wd rfl : zb_W [(44, 25), (61, 0), (69, 0), (44, 50), (44, 14), (44, 42), (44, 43), (44, 49), (44, 41), (44, 38), (71, 0), (72, 0)] h _), rfl, by dsimp only; exact ⟨fun _ => zg_VI1 (i := t + 1) vw (by omega) (by omega) (fun j j0 => by rw [a61 j j0]) (fun j j0 => by rw [b69 j j0]; by_cases z : j = t + 1; exact Or.inl z; exact Or.inr (if_neg z)) (by omega) (fun j j0 _ => by rw [a71 j j0]) (fun j j0 j1 j2 j3 => by have d := zg_d8 dz (by omega) j0 j1 j2 (by omega); have e9 : j = t + 1 := (by omega); have q := b69 j j0; have rb := zv_rb (h := h) 69 (zv_a h 46 p); rw [if_pos e9, zL_i (by omega) (by omega)] at q; rw [q, d.2]; exact (vw _ (by omega) (by omega) (by omega)).up (by omega) (fun j j0 _ => by rw [a71 j j0])), (by omega), by omega, by omega, by omega, by omega, by omega⟩⟩

set_option maxRecDepth 100000 in
set_option maxHeartbeats 8000000 in
theorem zm_acts_c9 {h : zx_H} (hI : zb_I zc_H h) {p : Int} {t : Int} (p1 : 0 ≤ p) (p2 : p ≤ 59) (t1 : 7 ≤ t) (t2 : t ≤ 13) (dz : zg_dz (zv_a h 45 p) (zv_a h 46 p) (t - 7) (zv_i h 25) (zv_a h 70) (zv_a h 61)) (vw : zg_VW h t) (t9 : zv_i h 38 ≤ 399) (r9 : zv_i h 41 ≤ 1000000) (r8 : (-5) ≤ zv_i h 41) (x0 : zv_i h 42 = 0) (n8 : ¬ zv_a h 61 8 = 3) (nx : zv_i h 50 = (-1)) (ci : zv_a h 45 p = 21 → 5 ≤ zv_a h 46 p ∧ zv_a h 46 p ≤ 8) (ov : zv_a h 45 p = 9) : zx_T zp_P 6 zp_m215 0 [(0, .ref 44), (1, .int (zI (p))), (2, .int (zI (t)))] [] h (zr_V [(44, 25), (61, 0), (69, 0), (44, 50), (44, 14), (44, 42), (44, 43), (44, 49), (44, 41), (44, 38), (71, 0), (72, 0)] h (fun h' => zg_ae h h')) := by
  have hS := zv_ri hI (k := 25) rfl
  have hT := zv_ri hI (k := 38) rfl
  have hC := zv_ri hI (k := 1) rfl
  refine zx_T.l (i := .aload_n 0) (k := 1) (v := .ref 44) (pc := 0) rfl rfl rfl ?_
  refine zr_gr (k := 3) (b := 46) (pc := 1) rfl rfl rfl hI ?_
  refine zx_T.l (i := .iload_n 1) (k := 1) (v := .int (zI (p))) (pc := 4) rfl rfl rfl ?_
  refine zr_al (n := 60) (lo := (-2147483648)) (hi := 2147483647) (e := zv_a h 46 p) (pc := 5) rfl rfl rfl hI (by omega) (by omega) rfl (fun g1a g1b => ?_)
  refine zx_T.t (i := .istore_n 3) (k := 1) (ls' := [(3, .int (zI (zv_a h 46 p))), (0, .ref 44), (1, .int (zI (p))), (2, .int (zI (t)))]) (st' := []) (pc := 6) rfl rfl rfl rfl ?_
  refine zx_T.l (i := .aload_n 0) (k := 1) (v := .ref 44) (pc := 7) rfl rfl rfl ?_
  refine zr_gr (k := 2) (b := 45) (pc := 8) rfl rfl rfl hI ?_
  refine zx_T.l (i := .iload_n 1) (k := 1) (v := .int (zI (p))) (pc := 11) rfl rfl rfl ?_
  refine zr_al (n := 60) (lo := 0) (hi := 28) (e := zv_a h 45 p) (pc := 12) rfl rfl rfl hI (by omega) (by omega) rfl (fun g2a g2b => ?_)
  have c3 : zv_a h 45 p = 9 := by omega
  rcases c3 with c3
  · refine zr_sw (i := .tableswitch 443 0 28 #[131, 443, 443, 443, 443, 443, 443, 443, 134, 151, 131, 131, 443, 443, 443, 443, 443, 187, 187, 187, 196, 237, 271, 311, 319, 328, 348, 367, 418]) (len := 131) (t := 164) (x := zv_a h 45 p) (k := 9) (pc := 13) rfl c3 rfl rfl rfl rfl ?_
    have d1 := dz.1.2.2.2.1 (by omega)
    refine zx_T.l (i := .aload_n 0) (k := 1) (v := .ref 44) (pc := 164) rfl rfl rfl ?_
    refine zr_gr (k := 36) (b := 69) (pc := 165) rfl rfl rfl hI ?_
    refine zx_T.l (i := .iload_n 3) (k := 1) (v := .int (zI (zv_a h 46 p))) (pc := 168) rfl rfl rfl ?_
    refine zx_T.l (i := .aload_n 0) (k := 1) (v := .ref 44) (pc := 169) rfl rfl rfl ?_
    refine zr_gr (k := 37) (b := 70) (pc := 170) rfl rfl rfl hI ?_
    refine zx_T.l (i := .iload_n 2) (k := 1) (v := .int (zI (t))) (pc := 173) rfl rfl rfl ?_
    refine zr_al (n := 14) (lo := 0) (hi := 8) (e := zv_a h 70 t) (pc := 174) rfl rfl rfl hI (by omega) (by omega) rfl (fun g4a g4b => ?_)
    refine zx_T.s (i := .iconst 3) (k := 1) (st' := [.int (zI (3)), .int (zI (zv_a h 70 t)), .int (zI (zv_a h 46 p)), .ref 69]) (pc := 175) rfl rfl ?_
    refine zr_i2 (x := zv_a h 70 t) (y := 3) (t := 190) (pc := 176) rfl rfl (by omega) (by omega) (by omega) (by omega) (fun (c5 : ¬ (zv_a h 70 t) = 3) => ?_) (fun (c5 : ¬ (¬ (zv_a h 70 t) = 3)) => ?_)
    · refine zx_T.l (i := .aload_n 0) (k := 1) (v := .ref 44) (pc := 190) rfl rfl rfl ?_
      refine zr_gr (k := 36) (b := 69) (pc := 191) rfl rfl rfl hI ?_
      refine zx_T.l (i := .iload_n 2) (k := 1) (v := .int (zI (t))) (pc := 194) rfl rfl rfl ?_
      have g6 := zv_rb (h := h) 69 t
      refine zr_ll (n := 14) (e := zv_b h 69 t) (pc := 195) rfl rfl rfl hI (by omega) (by omega) rfl ?_
      refine zr_ls (n := 14) (e := zv_b h 69 t) (pc := 196) rfl rfl rfl hI (by omega) (by omega) (fun h7 ih7 w8 s9 => ?_)
      refine zx_T.j (i := .goto 285) (k := 3) (pc' := 482) (st' := []) (pc := 197) rfl rfl rfl rfl rfl ?_
      have i42 : zv_i h7 42 = zv_i h 42 := (zv_wi w8 rfl)
      have i43 : zv_i h7 43 = zv_i h 43 := (zv_wi w8 rfl)
      have i38 : zv_i h7 38 = zv_i h 38 := (zv_wi w8 rfl)
      have i41 : zv_i h7 41 = zv_i h 41 := (zv_wi w8 rfl)
      have i50 : zv_i h7 50 = zv_i h 50 := (zv_wi w8 rfl)
      have i25 : zv_i h7 25 = zv_i h 25 := (zv_wi w8 rfl)
      have y16 : zv_i h7 1 = zv_i h 1 := (zv_wi w8 rfl)
      have y17 : zv_a h7 61 8 = zv_a h 61 8 := (zv_wa w8 rfl 8)
      have a61 : ∀ j, 0 ≤ j → zv_a h7 61 j = zv_a h 61 j := fun j hj => by rw [zv_wa w8 rfl j]
      have a71 : ∀ j, 0 ≤ j → zv_a h7 71 j = zv_a h 71 j := fun j hj => by rw [zv_wa w8 rfl j]
      have b69 : ∀ j, 0 ≤ j → zv_b h7 69 j = if j = zv_a h 46 p then (zL (zv_b h 69 t)).toInt else zv_b h 69 j := fun j hj => by rw [s9 j hj]
      exact zr_vr (pc := 482) rfl rfl ⟨ih7, (w8.wd rfl : zb_W [(44, 25), (61, 0), (69, 0), (44, 50), (44, 14), (44, 42), (44, 43), (44, 49), (44, 41), (44, 38), (71, 0), (72, 0)] h _), rfl, by dsimp only; exact ⟨fun _ => zg_VI1 (i := zv_a h 46 p) vw (by omega) (by omega) (fun j j0 => by rw [a61 j j0]) (fun j j0 => by rw [b69 j j0]; by_cases z : j = zv_a h 46 p; exact Or.inl z; exact Or.inr (if_neg z)) (by omega) (fun j j0 _ => by rw [a71 j j0]) (fun j j0 j1 j2 j3 => by have d := zg_d9 dz (by omega) j0 j1 j2 (by omega); rw [show t - 7 + 7 = t from by omega] at d; first | (exfalso; omega) | (have e9 : j = zv_a h 46 p := d.1; have q := b69 j j0; have rb := zv_rb (h := h) 69 t; rw [if_pos e9, zL_i (by omega) (by omega)] at q; rw [q, d.2]; exact (vw _ (by omega) (by omega) (by omega)).up (by omega) (fun j j0 _ => by rw [a71 j j0]))), (by omega), by omega, by omega, by omega, by omega, by omega⟩⟩
    · refine zx_T.l (i := .aload_n 0) (k := 1) (v := .ref 44) (pc := 179) rfl rfl rfl ?_
      refine zr_gr (k := 36) (b := 69) (pc := 180) rfl rfl rfl hI ?_
      refine zx_T.l (i := .iload_n 2) (k := 1) (v := .int (zI (t))) (pc := 183) rfl rfl rfl ?_
      refine zx_T.s (i := .iconst 1) (k := 1) (st' := [.int (zI (1)), .int (zI (t)), .ref 69, .int (zI (zv_a h 46 p)), .ref 69]) (pc := 184) rfl rfl ?_
      refine zr_sub (x := t) (y := 1) (e := t - 1) (pc := 185) rfl (by omega) ?_
      have g21 := zv_rb (h := h) 69 (t - 1)
      refine zr_ll (n := 14) (e := zv_b h 69 (t - 1)) (pc := 186) rfl rfl rfl hI (by omega) (by omega) rfl ?_
      refine zx_T.j (i := .goto 9) (k := 3) (pc' := 196) (st' := [.long (zL (zv_b h 69 (t - 1))), .int (zI (zv_a h 46 p)), .ref 69]) (pc := 187) rfl rfl rfl rfl rfl ?_
      refine zr_ls (n := 14) (e := zv_b h 69 (t - 1)) (pc := 196) rfl rfl rfl hI (by omega) (by omega) (fun h22 ih22 w23 s24 => ?_)
      refine zx_T.j (i := .goto 285) (k := 3) (pc' := 482) (st' := []) (pc := 197) rfl rfl rfl rfl rfl ?_
      have i42 : zv_i h22 42 = zv_i h 42 := (zv_wi w23 rfl)
      have i43 : zv_i h22 43 = zv_i h 43 := (zv_wi w23 rfl)
      have i38 : zv_i h22 38 = zv_i h 38 := (zv_wi w23 rfl)
      have i41 : zv_i h22 41 = zv_i h 41 := (zv_wi w23 rfl)
      have i50 : zv_i h22 50 = zv_i h 50 := (zv_wi w23 rfl)
      have i25 : zv_i h22 25 = zv_i h 25 := (zv_wi w23 rfl)
      have y31 : zv_i h22 1 = zv_i h 1 := (zv_wi w23 rfl)
      have y32 : zv_a h22 61 8 = zv_a h 61 8 := (zv_wa w23 rfl 8)
      have a61 : ∀ j, 0 ≤ j → zv_a h22 61 j = zv_a h 61 j := fun j hj => by rw [zv_wa w23 rfl j]
      have a71 : ∀ j, 0 ≤ j → zv_a h22 71 j = zv_a h 71 j := fun j hj => by rw [zv_wa w23 rfl j]
      have b69 : ∀ j, 0 ≤ j → zv_b h22 69 j = if j = zv_a h 46 p then (zL (zv_b h 69 (t - 1))).toInt else zv_b h 69 j := fun j hj => by rw [s24 j hj]
      exact zr_vr (pc := 482) rfl rfl ⟨ih22, (w23.wd rfl : zb_W [(44, 25), (61, 0), (69, 0), (44, 50), (44, 14), (44, 42), (44, 43), (44, 49), (44, 41), (44, 38), (71, 0), (72, 0)] h _), rfl, by dsimp only; exact ⟨fun _ => zg_VI1 (i := zv_a h 46 p) vw (by omega) (by omega) (fun j j0 => by rw [a61 j j0]) (fun j j0 => by rw [b69 j j0]; by_cases z : j = zv_a h 46 p; exact Or.inl z; exact Or.inr (if_neg z)) (by omega) (fun j j0 _ => by rw [a71 j j0]) (fun j j0 j1 j2 j3 => by have d := zg_d9 dz (by omega) j0 j1 j2 (by omega); rw [show t - 7 + 7 = t from by omega] at d; first | (exfalso; omega) | (have e9 : j = zv_a h 46 p := d.1; have q := b69 j j0; have rb := zv_rb (h := h) 69 t; rw [if_pos e9, zL_i (by omega) (by omega)] at q; rw [q, d.2]; exact (vw _ (by omega) (by omega) (by omega)).up (by omega) (fun j j0 _ => by rw [a71 j j0]))), (by omega), by omega, by omega, by omega, by omega, by omega⟩⟩

set_option maxRecDepth 100000 in
set_option maxHeartbeats 8000000 in
theorem zm_acts_c10 {h : zx_H} (hI : zb_I zc_H h) {p : Int} {t : Int} (p1 : 0 ≤ p) (p2 : p ≤ 59) (t1 : 7 ≤ t) (t2 : t ≤ 13) (dz : zg_dz (zv_a h 45 p) (zv_a h 46 p) (t - 7) (zv_i h 25) (zv_a h 70) (zv_a h 61)) (vw : zg_VW h t) (t9 : zv_i h 38 ≤ 399) (r9 : zv_i h 41 ≤ 1000000) (r8 : (-5) ≤ zv_i h 41) (x0 : zv_i h 42 = 0) (n8 : ¬ zv_a h 61 8 = 3) (nx : zv_i h 50 = (-1)) (ci : zv_a h 45 p = 21 → 5 ≤ zv_a h 46 p ∧ zv_a h 46 p ≤ 8) (ov : zv_a h 45 p = 10) : zx_T zp_P 6 zp_m215 0 [(0, .ref 44), (1, .int (zI (p))), (2, .int (zI (t)))] [] h (zr_V [(44, 25), (61, 0), (69, 0), (44, 50), (44, 14), (44, 42), (44, 43), (44, 49), (44, 41), (44, 38), (71, 0), (72, 0)] h (fun h' => zg_ae h h')) := by
  have hS := zv_ri hI (k := 25) rfl
  have hT := zv_ri hI (k := 38) rfl
  have hC := zv_ri hI (k := 1) rfl
  refine zx_T.l (i := .aload_n 0) (k := 1) (v := .ref 44) (pc := 0) rfl rfl rfl ?_
  refine zr_gr (k := 3) (b := 46) (pc := 1) rfl rfl rfl hI ?_
  refine zx_T.l (i := .iload_n 1) (k := 1) (v := .int (zI (p))) (pc := 4) rfl rfl rfl ?_
  refine zr_al (n := 60) (lo := (-2147483648)) (hi := 2147483647) (e := zv_a h 46 p) (pc := 5) rfl rfl rfl hI (by omega) (by omega) rfl (fun g1a g1b => ?_)
  refine zx_T.t (i := .istore_n 3) (k := 1) (ls' := [(3, .int (zI (zv_a h 46 p))), (0, .ref 44), (1, .int (zI (p))), (2, .int (zI (t)))]) (st' := []) (pc := 6) rfl rfl rfl rfl ?_
  refine zx_T.l (i := .aload_n 0) (k := 1) (v := .ref 44) (pc := 7) rfl rfl rfl ?_
  refine zr_gr (k := 2) (b := 45) (pc := 8) rfl rfl rfl hI ?_
  refine zx_T.l (i := .iload_n 1) (k := 1) (v := .int (zI (p))) (pc := 11) rfl rfl rfl ?_
  refine zr_al (n := 60) (lo := 0) (hi := 28) (e := zv_a h 45 p) (pc := 12) rfl rfl rfl hI (by omega) (by omega) rfl (fun g2a g2b => ?_)
  have c3 : zv_a h 45 p = 10 := by omega
  rcases c3 with c3
  · refine zr_sw (i := .tableswitch 443 0 28 #[131, 443, 443, 443, 443, 443, 443, 443, 134, 151, 131, 131, 443, 443, 443, 443, 443, 187, 187, 187, 196, 237, 271, 311, 319, 328, 348, 367, 418]) (len := 131) (t := 144) (x := zv_a h 45 p) (k := 10) (pc := 13) rfl c3 rfl rfl rfl rfl ?_
    refine zx_T.j (i := .goto 338) (k := 3) (pc' := 482) (st' := []) (pc := 144) rfl rfl rfl rfl rfl ?_
    have i42 : zv_i h 42 = zv_i h 42 := rfl
    have i43 : zv_i h 43 = zv_i h 43 := rfl
    have i38 : zv_i h 38 = zv_i h 38 := rfl
    have i41 : zv_i h 41 = zv_i h 41 := rfl
    have i50 : zv_i h 50 = zv_i h 50 := rfl
    have i25 : zv_i h 25 = zv_i h 25 := rfl
    have a61 : ∀ j, 0 ≤ j → zv_a h 61 j = zv_a h 61 j := fun j hj => rfl
    have a71 : ∀ j, 0 ≤ j → zv_a h 71 j = zv_a h 71 j := fun j hj => rfl
    have b69 : ∀ j, 0 ≤ j → zv_b h 69 j = zv_b h 69 j := fun j hj => rfl
    exact zr_vr (pc := 482) rfl rfl ⟨hI, zb_W.rf, rfl, by dsimp only; exact ⟨fun _ => zg_VI1 (i := (-1)) vw (by omega) (by omega) (fun j j0 => by rw [a61 j j0]) (fun j j0 => Or.inr (b69 j j0)) (by omega) (fun j j0 _ => by rw [a71 j j0]) (fun j j0 j1 j2 j3 => absurd j3 (by have d := zg_dk dz (by omega) (i := (-1)) (by omega) j0 j1 j2; omega)), (by omega), by omega, by omega, by omega, by omega, by omega⟩⟩

set_option maxRecDepth 100000 in
set_option maxHeartbeats 8000000 in
theorem zm_acts_c11 {h : zx_H} (hI : zb_I zc_H h) {p : Int} {t : Int} (p1 : 0 ≤ p) (p2 : p ≤ 59) (t1 : 7 ≤ t) (t2 : t ≤ 13) (dz : zg_dz (zv_a h 45 p) (zv_a h 46 p) (t - 7) (zv_i h 25) (zv_a h 70) (zv_a h 61)) (vw : zg_VW h t) (t9 : zv_i h 38 ≤ 399) (r9 : zv_i h 41 ≤ 1000000) (r8 : (-5) ≤ zv_i h 41) (x0 : zv_i h 42 = 0) (n8 : ¬ zv_a h 61 8 = 3) (nx : zv_i h 50 = (-1)) (ci : zv_a h 45 p = 21 → 5 ≤ zv_a h 46 p ∧ zv_a h 46 p ≤ 8) (ov : zv_a h 45 p = 11) : zx_T zp_P 6 zp_m215 0 [(0, .ref 44), (1, .int (zI (p))), (2, .int (zI (t)))] [] h (zr_V [(44, 25), (61, 0), (69, 0), (44, 50), (44, 14), (44, 42), (44, 43), (44, 49), (44, 41), (44, 38), (71, 0), (72, 0)] h (fun h' => zg_ae h h')) := by
  have hS := zv_ri hI (k := 25) rfl
  have hT := zv_ri hI (k := 38) rfl
  have hC := zv_ri hI (k := 1) rfl
  refine zx_T.l (i := .aload_n 0) (k := 1) (v := .ref 44) (pc := 0) rfl rfl rfl ?_
  refine zr_gr (k := 3) (b := 46) (pc := 1) rfl rfl rfl hI ?_
  refine zx_T.l (i := .iload_n 1) (k := 1) (v := .int (zI (p))) (pc := 4) rfl rfl rfl ?_
  refine zr_al (n := 60) (lo := (-2147483648)) (hi := 2147483647) (e := zv_a h 46 p) (pc := 5) rfl rfl rfl hI (by omega) (by omega) rfl (fun g1a g1b => ?_)
  refine zx_T.t (i := .istore_n 3) (k := 1) (ls' := [(3, .int (zI (zv_a h 46 p))), (0, .ref 44), (1, .int (zI (p))), (2, .int (zI (t)))]) (st' := []) (pc := 6) rfl rfl rfl rfl ?_
  refine zx_T.l (i := .aload_n 0) (k := 1) (v := .ref 44) (pc := 7) rfl rfl rfl ?_
  refine zr_gr (k := 2) (b := 45) (pc := 8) rfl rfl rfl hI ?_
  refine zx_T.l (i := .iload_n 1) (k := 1) (v := .int (zI (p))) (pc := 11) rfl rfl rfl ?_
  refine zr_al (n := 60) (lo := 0) (hi := 28) (e := zv_a h 45 p) (pc := 12) rfl rfl rfl hI (by omega) (by omega) rfl (fun g2a g2b => ?_)
  have c3 : zv_a h 45 p = 11 := by omega
  rcases c3 with c3
  · refine zr_sw (i := .tableswitch 443 0 28 #[131, 443, 443, 443, 443, 443, 443, 443, 134, 151, 131, 131, 443, 443, 443, 443, 443, 187, 187, 187, 196, 237, 271, 311, 319, 328, 348, 367, 418]) (len := 131) (t := 144) (x := zv_a h 45 p) (k := 11) (pc := 13) rfl c3 rfl rfl rfl rfl ?_
    refine zx_T.j (i := .goto 338) (k := 3) (pc' := 482) (st' := []) (pc := 144) rfl rfl rfl rfl rfl ?_
    have i42 : zv_i h 42 = zv_i h 42 := rfl
    have i43 : zv_i h 43 = zv_i h 43 := rfl
    have i38 : zv_i h 38 = zv_i h 38 := rfl
    have i41 : zv_i h 41 = zv_i h 41 := rfl
    have i50 : zv_i h 50 = zv_i h 50 := rfl
    have i25 : zv_i h 25 = zv_i h 25 := rfl
    have a61 : ∀ j, 0 ≤ j → zv_a h 61 j = zv_a h 61 j := fun j hj => rfl
    have a71 : ∀ j, 0 ≤ j → zv_a h 71 j = zv_a h 71 j := fun j hj => rfl
    have b69 : ∀ j, 0 ≤ j → zv_b h 69 j = zv_b h 69 j := fun j hj => rfl
    exact zr_vr (pc := 482) rfl rfl ⟨hI, zb_W.rf, rfl, by dsimp only; exact ⟨fun _ => zg_VI1 (i := (-1)) vw (by omega) (by omega) (fun j j0 => by rw [a61 j j0]) (fun j j0 => Or.inr (b69 j j0)) (by omega) (fun j j0 _ => by rw [a71 j j0]) (fun j j0 j1 j2 j3 => absurd j3 (by have d := zg_dk dz (by omega) (i := (-1)) (by omega) j0 j1 j2; omega)), (by omega), by omega, by omega, by omega, by omega, by omega⟩⟩

set_option maxRecDepth 100000 in
set_option maxHeartbeats 8000000 in
theorem zm_acts_c12 {h : zx_H} (hI : zb_I zc_H h) {p : Int} {t : Int} (p1 : 0 ≤ p) (p2 : p ≤ 59) (t1 : 7 ≤ t) (t2 : t ≤ 13) (dz : zg_dz (zv_a h 45 p) (zv_a h 46 p) (t - 7) (zv_i h 25) (zv_a h 70) (zv_a h 61)) (vw : zg_VW h t) (t9 : zv_i h 38 ≤ 399) (r9 : zv_i h 41 ≤ 1000000) (r8 : (-5) ≤ zv_i h 41) (x0 : zv_i h 42 = 0) (n8 : ¬ zv_a h 61 8 = 3) (nx : zv_i h 50 = (-1)) (ci : zv_a h 45 p = 21 → 5 ≤ zv_a h 46 p ∧ zv_a h 46 p ≤ 8) (ov : zv_a h 45 p = 12) : zx_T zp_P 6 zp_m215 0 [(0, .ref 44), (1, .int (zI (p))), (2, .int (zI (t)))] [] h (zr_V [(44, 25), (61, 0), (69, 0), (44, 50), (44, 14), (44, 42), (44, 43), (44, 49), (44, 41), (44, 38), (71, 0), (72, 0)] h (fun h' => zg_ae h h')) := by
  have hS := zv_ri hI (k := 25) rfl
  have hT := zv_ri hI (k := 38) rfl
  have hC := zv_ri hI (k := 1) rfl
  refine zx_T.l (i := .aload_n 0) (k := 1) (v := .ref 44) (pc := 0) rfl rfl rfl ?_
  refine zr_gr (k := 3) (b := 46) (pc := 1) rfl rfl rfl hI ?_
  refine zx_T.l (i := .iload_n 1) (k := 1) (v := .int (zI (p))) (pc := 4) rfl rfl rfl ?_
  refine zr_al (n := 60) (lo := (-2147483648)) (hi := 2147483647) (e := zv_a h 46 p) (pc := 5) rfl rfl rfl hI (by omega) (by omega) rfl (fun g1a g1b => ?_)
  refine zx_T.t (i := .istore_n 3) (k := 1) (ls' := [(3, .int (zI (zv_a h 46 p))), (0, .ref 44), (1, .int (zI (p))), (2, .int (zI (t)))]) (st' := []) (pc := 6) rfl rfl rfl rfl ?_
  refine zx_T.l (i := .aload_n 0) (k := 1) (v := .ref 44) (pc := 7) rfl rfl rfl ?_
  refine zr_gr (k := 2) (b := 45) (pc := 8) rfl rfl rfl hI ?_
  refine zx_T.l (i := .iload_n 1) (k := 1) (v := .int (zI (p))) (pc := 11) rfl rfl rfl ?_
  refine zr_al (n := 60) (lo := 0) (hi := 28) (e := zv_a h 45 p) (pc := 12) rfl rfl rfl hI (by omega) (by omega) rfl (fun g2a g2b => ?_)
  have c3 : zv_a h 45 p = 12 := by omega
  rcases c3 with c3
  · refine zr_sw (i := .tableswitch 443 0 28 #[131, 443, 443, 443, 443, 443, 443, 443, 134, 151, 131, 131, 443, 443, 443, 443, 443, 187, 187, 187, 196, 237, 271, 311, 319, 328, 348, 367, 418]) (len := 131) (t := 456) (x := zv_a h 45 p) (k := 12) (pc := 13) rfl c3 rfl rfl rfl rfl ?_
    refine zx_T.l (i := .aload_n 0) (k := 1) (v := .ref 44) (pc := 456) rfl rfl rfl ?_
    refine zr_gr (k := 2) (b := 45) (pc := 457) rfl rfl rfl hI ?_
    refine zx_T.l (i := .iload_n 1) (k := 1) (v := .int (zI (p))) (pc := 460) rfl rfl rfl ?_
    refine zr_al (n := 60) (lo := 0) (hi := 28) (e := zv_a h 45 p) (pc := 461) rfl rfl rfl hI (by omega) (by omega) rfl (fun g4a g4b => ?_)
    refine zx_T.s (i := .bipush 8) (k := 2) (st' := [.int (zI (8)), .int (zI (zv_a h 45 p))]) (pc := 462) rfl rfl ?_
    refine zr_i2 (x := zv_a h 45 p) (y := 8) (t := 476) (pc := 464) rfl rfl (by omega) (by omega) (by omega) (by omega) (fun (c5 : 8 ≤ (zv_a h 45 p)) => ?_) (fun (c5 : ¬ (8 ≤ (zv_a h 45 p))) => False.elim (by omega))
    refine zx_T.l (i := .aload_n 0) (k := 1) (v := .ref 44) (pc := 476) rfl rfl rfl ?_
    refine zx_T.l (i := .iload_n 1) (k := 1) (v := .int (zI (p))) (pc := 477) rfl rfl rfl ?_
    refine zx_T.l (i := .iload_n 2) (k := 1) (v := .int (zI (t))) (pc := 478) rfl rfl rfl ?_
    refine zr_iv (cj := 213) (q' := zp_m213) (As := [.int (zI (p)), .int (zI (t))]) (rest := []) (pc := 479) rfl rfl rfl rfl rfl rfl (Nat.le_of_ble_eq_true rfl) rfl (Nat.le_of_ble_eq_true rfl) hI ((zm_numbers (h := h) hI (p := p) (t := t) (by omega) (by omega) (by omega) (by omega) dz vw (by omega) (by omega) (by omega) (by omega) (by omega) (by omega) (by omega) (by omega)).up (Nat.le_of_ble_eq_true rfl)) ?_
    rintro r6 h9 ⟨ih9, w10, r6q, x8⟩
    subst r6q
    try dsimp only at x8
    have ae := x8
    show zx_T zp_P 6 zp_m215 482 [(3, .int (zI (zv_a h 46 p))), (0, .ref 44), (1, .int (zI (p))), (2, .int (zI (t)))] [] h9 _
    have i42 : zv_i h9 42 = zv_i h9 42 := rfl
    have i43 : zv_i h9 43 = zv_i h9 43 := rfl
    have i38 : zv_i h9 38 = zv_i h9 38 := rfl
    have i41 : zv_i h9 41 = zv_i h9 41 := rfl
    have i50 : zv_i h9 50 = zv_i h9 50 := rfl
    have i25 : zv_i h9 25 = zv_i h9 25 := rfl
    have y17 : zv_i h9 1 = zv_i h 1 := (zv_wi w10 rfl)
    have a61 : ∀ j, 0 ≤ j → zv_a h9 61 j = zv_a h9 61 j := fun j hj => rfl
    have a71 : ∀ j, 0 ≤ j → zv_a h9 71 j = zv_a h9 71 j := fun j hj => rfl
    have b69 : ∀ j, 0 ≤ j → zv_b h9 69 j = zv_b h9 69 j := fun j hj => rfl
    exact zr_vr (pc := 482) rfl rfl ⟨ih9, (w10.wd rfl : zb_W [(44, 25), (61, 0), (69, 0), (44, 50), (44, 14), (44, 42), (44, 43), (44, 49), (44, 41), (44, 38), (71, 0), (72, 0)] h _), rfl, by dsimp only; exact ae⟩

set_option maxRecDepth 100000 in
set_option maxHeartbeats 8000000 in
theorem zm_acts_c13 {h : zx_H} (hI : zb_I zc_H h) {p : Int} {t : Int} (p1 : 0 ≤ p) (p2 : p ≤ 59) (t1 : 7 ≤ t) (t2 : t ≤ 13) (dz : zg_dz (zv_a h 45 p) (zv_a h 46 p) (t - 7) (zv_i h 25) (zv_a h 70) (zv_a h 61)) (vw : zg_VW h t) (t9 : zv_i h 38 ≤ 399) (r9 : zv_i h 41 ≤ 1000000) (r8 : (-5) ≤ zv_i h 41) (x0 : zv_i h 42 = 0) (n8 : ¬ zv_a h 61 8 = 3) (nx : zv_i h 50 = (-1)) (ci : zv_a h 45 p = 21 → 5 ≤ zv_a h 46 p ∧ zv_a h 46 p ≤ 8) (ov : zv_a h 45 p = 13) : zx_T zp_P 6 zp_m215 0 [(0, .ref 44), (1, .int (zI (p))), (2, .int (zI (t)))] [] h (zr_V [(44, 25), (61, 0), (69, 0), (44, 50), (44, 14), (44, 42), (44, 43), (44, 49), (44, 41), (44, 38), (71, 0), (72, 0)] h (fun h' => zg_ae h h')) := by
  have hS := zv_ri hI (k := 25) rfl
  have hT := zv_ri hI (k := 38) rfl
  have hC := zv_ri hI (k := 1) rfl
  refine zx_T.l (i := .aload_n 0) (k := 1) (v := .ref 44) (pc := 0) rfl rfl rfl ?_
  refine zr_gr (k := 3) (b := 46) (pc := 1) rfl rfl rfl hI ?_
  refine zx_T.l (i := .iload_n 1) (k := 1) (v := .int (zI (p))) (pc := 4) rfl rfl rfl ?_
  refine zr_al (n := 60) (lo := (-2147483648)) (hi := 2147483647) (e := zv_a h 46 p) (pc := 5) rfl rfl rfl hI (by omega) (by omega) rfl (fun g1a g1b => ?_)
  refine zx_T.t (i := .istore_n 3) (k := 1) (ls' := [(3, .int (zI (zv_a h 46 p))), (0, .ref 44), (1, .int (zI (p))), (2, .int (zI (t)))]) (st' := []) (pc := 6) rfl rfl rfl rfl ?_
  refine zx_T.l (i := .aload_n 0) (k := 1) (v := .ref 44) (pc := 7) rfl rfl rfl ?_
  refine zr_gr (k := 2) (b := 45) (pc := 8) rfl rfl rfl hI ?_
  refine zx_T.l (i := .iload_n 1) (k := 1) (v := .int (zI (p))) (pc := 11) rfl rfl rfl ?_
  refine zr_al (n := 60) (lo := 0) (hi := 28) (e := zv_a h 45 p) (pc := 12) rfl rfl rfl hI (by omega) (by omega) rfl (fun g2a g2b => ?_)
  have c3 : zv_a h 45 p = 13 := by omega
  rcases c3 with c3
  · refine zr_sw (i := .tableswitch 443 0 28 #[131, 443, 443, 443, 443, 443, 443, 443, 134, 151, 131, 131, 443, 443, 443, 443, 443, 187, 187, 187, 196, 237, 271, 311, 319, 328, 348, 367, 418]) (len := 131) (t := 456) (x := zv_a h 45 p) (k := 13) (pc := 13) rfl c3 rfl rfl rfl rfl ?_
    refine zx_T.l (i := .aload_n 0) (k := 1) (v := .ref 44) (pc := 456) rfl rfl rfl ?_
    refine zr_gr (k := 2) (b := 45) (pc := 457) rfl rfl rfl hI ?_
    refine zx_T.l (i := .iload_n 1) (k := 1) (v := .int (zI (p))) (pc := 460) rfl rfl rfl ?_
    refine zr_al (n := 60) (lo := 0) (hi := 28) (e := zv_a h 45 p) (pc := 461) rfl rfl rfl hI (by omega) (by omega) rfl (fun g4a g4b => ?_)
    refine zx_T.s (i := .bipush 8) (k := 2) (st' := [.int (zI (8)), .int (zI (zv_a h 45 p))]) (pc := 462) rfl rfl ?_
    refine zr_i2 (x := zv_a h 45 p) (y := 8) (t := 476) (pc := 464) rfl rfl (by omega) (by omega) (by omega) (by omega) (fun (c5 : 8 ≤ (zv_a h 45 p)) => ?_) (fun (c5 : ¬ (8 ≤ (zv_a h 45 p))) => False.elim (by omega))
    refine zx_T.l (i := .aload_n 0) (k := 1) (v := .ref 44) (pc := 476) rfl rfl rfl ?_
    refine zx_T.l (i := .iload_n 1) (k := 1) (v := .int (zI (p))) (pc := 477) rfl rfl rfl ?_
    refine zx_T.l (i := .iload_n 2) (k := 1) (v := .int (zI (t))) (pc := 478) rfl rfl rfl ?_
    refine zr_iv (cj := 213) (q' := zp_m213) (As := [.int (zI (p)), .int (zI (t))]) (rest := []) (pc := 479) rfl rfl rfl rfl rfl rfl (Nat.le_of_ble_eq_true rfl) rfl (Nat.le_of_ble_eq_true rfl) hI ((zm_numbers (h := h) hI (p := p) (t := t) (by omega) (by omega) (by omega) (by omega) dz vw (by omega) (by omega) (by omega) (by omega) (by omega) (by omega) (by omega) (by omega)).up (Nat.le_of_ble_eq_true rfl)) ?_
    rintro r6 h9 ⟨ih9, w10, r6q, x8⟩
    subst r6q
    try dsimp only at x8
    have ae := x8
    show zx_T zp_P 6 zp_m215 482 [(3, .int (zI (zv_a h 46 p))), (0, .ref 44), (1, .int (zI (p))), (2, .int (zI (t)))] [] h9 _
    have i42 : zv_i h9 42 = zv_i h9 42 := rfl
    have i43 : zv_i h9 43 = zv_i h9 43 := rfl
    have i38 : zv_i h9 38 = zv_i h9 38 := rfl
    have i41 : zv_i h9 41 = zv_i h9 41 := rfl
    have i50 : zv_i h9 50 = zv_i h9 50 := rfl
    have i25 : zv_i h9 25 = zv_i h9 25 := rfl
    have y17 : zv_i h9 1 = zv_i h 1 := (zv_wi w10 rfl)
    have a61 : ∀ j, 0 ≤ j → zv_a h9 61 j = zv_a h9 61 j := fun j hj => rfl
    have a71 : ∀ j, 0 ≤ j → zv_a h9 71 j = zv_a h9 71 j := fun j hj => rfl
    have b69 : ∀ j, 0 ≤ j → zv_b h9 69 j = zv_b h9 69 j := fun j hj => rfl
    exact zr_vr (pc := 482) rfl rfl ⟨ih9, (w10.wd rfl : zb_W [(44, 25), (61, 0), (69, 0), (44, 50), (44, 14), (44, 42), (44, 43), (44, 49), (44, 41), (44, 38), (71, 0), (72, 0)] h _), rfl, by dsimp only; exact ae⟩

set_option maxRecDepth 100000 in
set_option maxHeartbeats 8000000 in
theorem zm_acts_c14 {h : zx_H} (hI : zb_I zc_H h) {p : Int} {t : Int} (p1 : 0 ≤ p) (p2 : p ≤ 59) (t1 : 7 ≤ t) (t2 : t ≤ 13) (dz : zg_dz (zv_a h 45 p) (zv_a h 46 p) (t - 7) (zv_i h 25) (zv_a h 70) (zv_a h 61)) (vw : zg_VW h t) (t9 : zv_i h 38 ≤ 399) (r9 : zv_i h 41 ≤ 1000000) (r8 : (-5) ≤ zv_i h 41) (x0 : zv_i h 42 = 0) (n8 : ¬ zv_a h 61 8 = 3) (nx : zv_i h 50 = (-1)) (ci : zv_a h 45 p = 21 → 5 ≤ zv_a h 46 p ∧ zv_a h 46 p ≤ 8) (ov : zv_a h 45 p = 14) : zx_T zp_P 6 zp_m215 0 [(0, .ref 44), (1, .int (zI (p))), (2, .int (zI (t)))] [] h (zr_V [(44, 25), (61, 0), (69, 0), (44, 50), (44, 14), (44, 42), (44, 43), (44, 49), (44, 41), (44, 38), (71, 0), (72, 0)] h (fun h' => zg_ae h h')) := by
  have hS := zv_ri hI (k := 25) rfl
  have hT := zv_ri hI (k := 38) rfl
  have hC := zv_ri hI (k := 1) rfl
  refine zx_T.l (i := .aload_n 0) (k := 1) (v := .ref 44) (pc := 0) rfl rfl rfl ?_
  refine zr_gr (k := 3) (b := 46) (pc := 1) rfl rfl rfl hI ?_
  refine zx_T.l (i := .iload_n 1) (k := 1) (v := .int (zI (p))) (pc := 4) rfl rfl rfl ?_
  refine zr_al (n := 60) (lo := (-2147483648)) (hi := 2147483647) (e := zv_a h 46 p) (pc := 5) rfl rfl rfl hI (by omega) (by omega) rfl (fun g1a g1b => ?_)
  refine zx_T.t (i := .istore_n 3) (k := 1) (ls' := [(3, .int (zI (zv_a h 46 p))), (0, .ref 44), (1, .int (zI (p))), (2, .int (zI (t)))]) (st' := []) (pc := 6) rfl rfl rfl rfl ?_
  refine zx_T.l (i := .aload_n 0) (k := 1) (v := .ref 44) (pc := 7) rfl rfl rfl ?_
  refine zr_gr (k := 2) (b := 45) (pc := 8) rfl rfl rfl hI ?_
  refine zx_T.l (i := .iload_n 1) (k := 1) (v := .int (zI (p))) (pc := 11) rfl rfl rfl ?_
  refine zr_al (n := 60) (lo := 0) (hi := 28) (e := zv_a h 45 p) (pc := 12) rfl rfl rfl hI (by omega) (by omega) rfl (fun g2a g2b => ?_)
  have c3 : zv_a h 45 p = 14 := by omega
  rcases c3 with c3
  · refine zr_sw (i := .tableswitch 443 0 28 #[131, 443, 443, 443, 443, 443, 443, 443, 134, 151, 131, 131, 443, 443, 443, 443, 443, 187, 187, 187, 196, 237, 271, 311, 319, 328, 348, 367, 418]) (len := 131) (t := 456) (x := zv_a h 45 p) (k := 14) (pc := 13) rfl c3 rfl rfl rfl rfl ?_
    refine zx_T.l (i := .aload_n 0) (k := 1) (v := .ref 44) (pc := 456) rfl rfl rfl ?_
    refine zr_gr (k := 2) (b := 45) (pc := 457) rfl rfl rfl hI ?_
    refine zx_T.l (i := .iload_n 1) (k := 1) (v := .int (zI (p))) (pc := 460) rfl rfl rfl ?_
    refine zr_al (n := 60) (lo := 0) (hi := 28) (e := zv_a h 45 p) (pc := 461) rfl rfl rfl hI (by omega) (by omega) rfl (fun g4a g4b => ?_)
    refine zx_T.s (i := .bipush 8) (k := 2) (st' := [.int (zI (8)), .int (zI (zv_a h 45 p))]) (pc := 462) rfl rfl ?_
    refine zr_i2 (x := zv_a h 45 p) (y := 8) (t := 476) (pc := 464) rfl rfl (by omega) (by omega) (by omega) (by omega) (fun (c5 : 8 ≤ (zv_a h 45 p)) => ?_) (fun (c5 : ¬ (8 ≤ (zv_a h 45 p))) => False.elim (by omega))
    refine zx_T.l (i := .aload_n 0) (k := 1) (v := .ref 44) (pc := 476) rfl rfl rfl ?_
    refine zx_T.l (i := .iload_n 1) (k := 1) (v := .int (zI (p))) (pc := 477) rfl rfl rfl ?_
    refine zx_T.l (i := .iload_n 2) (k := 1) (v := .int (zI (t))) (pc := 478) rfl rfl rfl ?_
    refine zr_iv (cj := 213) (q' := zp_m213) (As := [.int (zI (p)), .int (zI (t))]) (rest := []) (pc := 479) rfl rfl rfl rfl rfl rfl (Nat.le_of_ble_eq_true rfl) rfl (Nat.le_of_ble_eq_true rfl) hI ((zm_numbers (h := h) hI (p := p) (t := t) (by omega) (by omega) (by omega) (by omega) dz vw (by omega) (by omega) (by omega) (by omega) (by omega) (by omega) (by omega) (by omega)).up (Nat.le_of_ble_eq_true rfl)) ?_
    rintro r6 h9 ⟨ih9, w10, r6q, x8⟩
    subst r6q
    try dsimp only at x8
    have ae := x8
    show zx_T zp_P 6 zp_m215 482 [(3, .int (zI (zv_a h 46 p))), (0, .ref 44), (1, .int (zI (p))), (2, .int (zI (t)))] [] h9 _
    have i42 : zv_i h9 42 = zv_i h9 42 := rfl
    have i43 : zv_i h9 43 = zv_i h9 43 := rfl
    have i38 : zv_i h9 38 = zv_i h9 38 := rfl
    have i41 : zv_i h9 41 = zv_i h9 41 := rfl
    have i50 : zv_i h9 50 = zv_i h9 50 := rfl
    have i25 : zv_i h9 25 = zv_i h9 25 := rfl
    have y17 : zv_i h9 1 = zv_i h 1 := (zv_wi w10 rfl)
    have a61 : ∀ j, 0 ≤ j → zv_a h9 61 j = zv_a h9 61 j := fun j hj => rfl
    have a71 : ∀ j, 0 ≤ j → zv_a h9 71 j = zv_a h9 71 j := fun j hj => rfl
    have b69 : ∀ j, 0 ≤ j → zv_b h9 69 j = zv_b h9 69 j := fun j hj => rfl
    exact zr_vr (pc := 482) rfl rfl ⟨ih9, (w10.wd rfl : zb_W [(44, 25), (61, 0), (69, 0), (44, 50), (44, 14), (44, 42), (44, 43), (44, 49), (44, 41), (44, 38), (71, 0), (72, 0)] h _), rfl, by dsimp only; exact ae⟩

set_option maxRecDepth 100000 in
set_option maxHeartbeats 8000000 in
theorem zm_acts_c15 {h : zx_H} (hI : zb_I zc_H h) {p : Int} {t : Int} (p1 : 0 ≤ p) (p2 : p ≤ 59) (t1 : 7 ≤ t) (t2 : t ≤ 13) (dz : zg_dz (zv_a h 45 p) (zv_a h 46 p) (t - 7) (zv_i h 25) (zv_a h 70) (zv_a h 61)) (vw : zg_VW h t) (t9 : zv_i h 38 ≤ 399) (r9 : zv_i h 41 ≤ 1000000) (r8 : (-5) ≤ zv_i h 41) (x0 : zv_i h 42 = 0) (n8 : ¬ zv_a h 61 8 = 3) (nx : zv_i h 50 = (-1)) (ci : zv_a h 45 p = 21 → 5 ≤ zv_a h 46 p ∧ zv_a h 46 p ≤ 8) (ov : zv_a h 45 p = 15) : zx_T zp_P 6 zp_m215 0 [(0, .ref 44), (1, .int (zI (p))), (2, .int (zI (t)))] [] h (zr_V [(44, 25), (61, 0), (69, 0), (44, 50), (44, 14), (44, 42), (44, 43), (44, 49), (44, 41), (44, 38), (71, 0), (72, 0)] h (fun h' => zg_ae h h')) := by
  have hS := zv_ri hI (k := 25) rfl
  have hT := zv_ri hI (k := 38) rfl
  have hC := zv_ri hI (k := 1) rfl
  refine zx_T.l (i := .aload_n 0) (k := 1) (v := .ref 44) (pc := 0) rfl rfl rfl ?_
  refine zr_gr (k := 3) (b := 46) (pc := 1) rfl rfl rfl hI ?_
  refine zx_T.l (i := .iload_n 1) (k := 1) (v := .int (zI (p))) (pc := 4) rfl rfl rfl ?_
  refine zr_al (n := 60) (lo := (-2147483648)) (hi := 2147483647) (e := zv_a h 46 p) (pc := 5) rfl rfl rfl hI (by omega) (by omega) rfl (fun g1a g1b => ?_)
  refine zx_T.t (i := .istore_n 3) (k := 1) (ls' := [(3, .int (zI (zv_a h 46 p))), (0, .ref 44), (1, .int (zI (p))), (2, .int (zI (t)))]) (st' := []) (pc := 6) rfl rfl rfl rfl ?_
  refine zx_T.l (i := .aload_n 0) (k := 1) (v := .ref 44) (pc := 7) rfl rfl rfl ?_
  refine zr_gr (k := 2) (b := 45) (pc := 8) rfl rfl rfl hI ?_
  refine zx_T.l (i := .iload_n 1) (k := 1) (v := .int (zI (p))) (pc := 11) rfl rfl rfl ?_
  refine zr_al (n := 60) (lo := 0) (hi := 28) (e := zv_a h 45 p) (pc := 12) rfl rfl rfl hI (by omega) (by omega) rfl (fun g2a g2b => ?_)
  have c3 : zv_a h 45 p = 15 := by omega
  rcases c3 with c3
  · refine zr_sw (i := .tableswitch 443 0 28 #[131, 443, 443, 443, 443, 443, 443, 443, 134, 151, 131, 131, 443, 443, 443, 443, 443, 187, 187, 187, 196, 237, 271, 311, 319, 328, 348, 367, 418]) (len := 131) (t := 456) (x := zv_a h 45 p) (k := 15) (pc := 13) rfl c3 rfl rfl rfl rfl ?_
    refine zx_T.l (i := .aload_n 0) (k := 1) (v := .ref 44) (pc := 456) rfl rfl rfl ?_
    refine zr_gr (k := 2) (b := 45) (pc := 457) rfl rfl rfl hI ?_
    refine zx_T.l (i := .iload_n 1) (k := 1) (v := .int (zI (p))) (pc := 460) rfl rfl rfl ?_
    refine zr_al (n := 60) (lo := 0) (hi := 28) (e := zv_a h 45 p) (pc := 461) rfl rfl rfl hI (by omega) (by omega) rfl (fun g4a g4b => ?_)
    refine zx_T.s (i := .bipush 8) (k := 2) (st' := [.int (zI (8)), .int (zI (zv_a h 45 p))]) (pc := 462) rfl rfl ?_
    refine zr_i2 (x := zv_a h 45 p) (y := 8) (t := 476) (pc := 464) rfl rfl (by omega) (by omega) (by omega) (by omega) (fun (c5 : 8 ≤ (zv_a h 45 p)) => ?_) (fun (c5 : ¬ (8 ≤ (zv_a h 45 p))) => False.elim (by omega))
    refine zx_T.l (i := .aload_n 0) (k := 1) (v := .ref 44) (pc := 476) rfl rfl rfl ?_
    refine zx_T.l (i := .iload_n 1) (k := 1) (v := .int (zI (p))) (pc := 477) rfl rfl rfl ?_
    refine zx_T.l (i := .iload_n 2) (k := 1) (v := .int (zI (t))) (pc := 478) rfl rfl rfl ?_
    refine zr_iv (cj := 213) (q' := zp_m213) (As := [.int (zI (p)), .int (zI (t))]) (rest := []) (pc := 479) rfl rfl rfl rfl rfl rfl (Nat.le_of_ble_eq_true rfl) rfl (Nat.le_of_ble_eq_true rfl) hI ((zm_numbers (h := h) hI (p := p) (t := t) (by omega) (by omega) (by omega) (by omega) dz vw (by omega) (by omega) (by omega) (by omega) (by omega) (by omega) (by omega) (by omega)).up (Nat.le_of_ble_eq_true rfl)) ?_
    rintro r6 h9 ⟨ih9, w10, r6q, x8⟩
    subst r6q
    try dsimp only at x8
    have ae := x8
    show zx_T zp_P 6 zp_m215 482 [(3, .int (zI (zv_a h 46 p))), (0, .ref 44), (1, .int (zI (p))), (2, .int (zI (t)))] [] h9 _
    have i42 : zv_i h9 42 = zv_i h9 42 := rfl
    have i43 : zv_i h9 43 = zv_i h9 43 := rfl
    have i38 : zv_i h9 38 = zv_i h9 38 := rfl
    have i41 : zv_i h9 41 = zv_i h9 41 := rfl
    have i50 : zv_i h9 50 = zv_i h9 50 := rfl
    have i25 : zv_i h9 25 = zv_i h9 25 := rfl
    have y17 : zv_i h9 1 = zv_i h 1 := (zv_wi w10 rfl)
    have a61 : ∀ j, 0 ≤ j → zv_a h9 61 j = zv_a h9 61 j := fun j hj => rfl
    have a71 : ∀ j, 0 ≤ j → zv_a h9 71 j = zv_a h9 71 j := fun j hj => rfl
    have b69 : ∀ j, 0 ≤ j → zv_b h9 69 j = zv_b h9 69 j := fun j hj => rfl
    exact zr_vr (pc := 482) rfl rfl ⟨ih9, (w10.wd rfl : zb_W [(44, 25), (61, 0), (69, 0), (44, 50), (44, 14), (44, 42), (44, 43), (44, 49), (44, 41), (44, 38), (71, 0), (72, 0)] h _), rfl, by dsimp only; exact ae⟩

set_option maxRecDepth 100000 in
set_option maxHeartbeats 8000000 in
theorem zm_acts_c16 {h : zx_H} (hI : zb_I zc_H h) {p : Int} {t : Int} (p1 : 0 ≤ p) (p2 : p ≤ 59) (t1 : 7 ≤ t) (t2 : t ≤ 13) (dz : zg_dz (zv_a h 45 p) (zv_a h 46 p) (t - 7) (zv_i h 25) (zv_a h 70) (zv_a h 61)) (vw : zg_VW h t) (t9 : zv_i h 38 ≤ 399) (r9 : zv_i h 41 ≤ 1000000) (r8 : (-5) ≤ zv_i h 41) (x0 : zv_i h 42 = 0) (n8 : ¬ zv_a h 61 8 = 3) (nx : zv_i h 50 = (-1)) (ci : zv_a h 45 p = 21 → 5 ≤ zv_a h 46 p ∧ zv_a h 46 p ≤ 8) (ov : zv_a h 45 p = 16) : zx_T zp_P 6 zp_m215 0 [(0, .ref 44), (1, .int (zI (p))), (2, .int (zI (t)))] [] h (zr_V [(44, 25), (61, 0), (69, 0), (44, 50), (44, 14), (44, 42), (44, 43), (44, 49), (44, 41), (44, 38), (71, 0), (72, 0)] h (fun h' => zg_ae h h')) := by
  have hS := zv_ri hI (k := 25) rfl
  have hT := zv_ri hI (k := 38) rfl
  have hC := zv_ri hI (k := 1) rfl
  refine zx_T.l (i := .aload_n 0) (k := 1) (v := .ref 44) (pc := 0) rfl rfl rfl ?_
  refine zr_gr (k := 3) (b := 46) (pc := 1) rfl rfl rfl hI ?_
  refine zx_T.l (i := .iload_n 1) (k := 1) (v := .int (zI (p))) (pc := 4) rfl rfl rfl ?_
  refine zr_al (n := 60) (lo := (-2147483648)) (hi := 2147483647) (e := zv_a h 46 p) (pc := 5) rfl rfl rfl hI (by omega) (by omega) rfl (fun g1a g1b => ?_)
  refine zx_T.t (i := .istore_n 3) (k := 1) (ls' := [(3, .int (zI (zv_a h 46 p))), (0, .ref 44), (1, .int (zI (p))), (2, .int (zI (t)))]) (st' := []) (pc := 6) rfl rfl rfl rfl ?_
  refine zx_T.l (i := .aload_n 0) (k := 1) (v := .ref 44) (pc := 7) rfl rfl rfl ?_
  refine zr_gr (k := 2) (b := 45) (pc := 8) rfl rfl rfl hI ?_
  refine zx_T.l (i := .iload_n 1) (k := 1) (v := .int (zI (p))) (pc := 11) rfl rfl rfl ?_
  refine zr_al (n := 60) (lo := 0) (hi := 28) (e := zv_a h 45 p) (pc := 12) rfl rfl rfl hI (by omega) (by omega) rfl (fun g2a g2b => ?_)
  have c3 : zv_a h 45 p = 16 := by omega
  rcases c3 with c3
  · refine zr_sw (i := .tableswitch 443 0 28 #[131, 443, 443, 443, 443, 443, 443, 443, 134, 151, 131, 131, 443, 443, 443, 443, 443, 187, 187, 187, 196, 237, 271, 311, 319, 328, 348, 367, 418]) (len := 131) (t := 456) (x := zv_a h 45 p) (k := 16) (pc := 13) rfl c3 rfl rfl rfl rfl ?_
    refine zx_T.l (i := .aload_n 0) (k := 1) (v := .ref 44) (pc := 456) rfl rfl rfl ?_
    refine zr_gr (k := 2) (b := 45) (pc := 457) rfl rfl rfl hI ?_
    refine zx_T.l (i := .iload_n 1) (k := 1) (v := .int (zI (p))) (pc := 460) rfl rfl rfl ?_
    refine zr_al (n := 60) (lo := 0) (hi := 28) (e := zv_a h 45 p) (pc := 461) rfl rfl rfl hI (by omega) (by omega) rfl (fun g4a g4b => ?_)
    refine zx_T.s (i := .bipush 8) (k := 2) (st' := [.int (zI (8)), .int (zI (zv_a h 45 p))]) (pc := 462) rfl rfl ?_
    refine zr_i2 (x := zv_a h 45 p) (y := 8) (t := 476) (pc := 464) rfl rfl (by omega) (by omega) (by omega) (by omega) (fun (c5 : 8 ≤ (zv_a h 45 p)) => ?_) (fun (c5 : ¬ (8 ≤ (zv_a h 45 p))) => False.elim (by omega))
    refine zx_T.l (i := .aload_n 0) (k := 1) (v := .ref 44) (pc := 476) rfl rfl rfl ?_
    refine zx_T.l (i := .iload_n 1) (k := 1) (v := .int (zI (p))) (pc := 477) rfl rfl rfl ?_
    refine zx_T.l (i := .iload_n 2) (k := 1) (v := .int (zI (t))) (pc := 478) rfl rfl rfl ?_
    refine zr_iv (cj := 213) (q' := zp_m213) (As := [.int (zI (p)), .int (zI (t))]) (rest := []) (pc := 479) rfl rfl rfl rfl rfl rfl (Nat.le_of_ble_eq_true rfl) rfl (Nat.le_of_ble_eq_true rfl) hI ((zm_numbers (h := h) hI (p := p) (t := t) (by omega) (by omega) (by omega) (by omega) dz vw (by omega) (by omega) (by omega) (by omega) (by omega) (by omega) (by omega) (by omega)).up (Nat.le_of_ble_eq_true rfl)) ?_
    rintro r6 h9 ⟨ih9, w10, r6q, x8⟩
    subst r6q
    try dsimp only at x8
    have ae := x8
    show zx_T zp_P 6 zp_m215 482 [(3, .int (zI (zv_a h 46 p))), (0, .ref 44), (1, .int (zI (p))), (2, .int (zI (t)))] [] h9 _
    have i42 : zv_i h9 42 = zv_i h9 42 := rfl
    have i43 : zv_i h9 43 = zv_i h9 43 := rfl
    have i38 : zv_i h9 38 = zv_i h9 38 := rfl
    have i41 : zv_i h9 41 = zv_i h9 41 := rfl
    have i50 : zv_i h9 50 = zv_i h9 50 := rfl
    have i25 : zv_i h9 25 = zv_i h9 25 := rfl
    have y17 : zv_i h9 1 = zv_i h 1 := (zv_wi w10 rfl)
    have a61 : ∀ j, 0 ≤ j → zv_a h9 61 j = zv_a h9 61 j := fun j hj => rfl
    have a71 : ∀ j, 0 ≤ j → zv_a h9 71 j = zv_a h9 71 j := fun j hj => rfl
    have b69 : ∀ j, 0 ≤ j → zv_b h9 69 j = zv_b h9 69 j := fun j hj => rfl
    exact zr_vr (pc := 482) rfl rfl ⟨ih9, (w10.wd rfl : zb_W [(44, 25), (61, 0), (69, 0), (44, 50), (44, 14), (44, 42), (44, 43), (44, 49), (44, 41), (44, 38), (71, 0), (72, 0)] h _), rfl, by dsimp only; exact ae⟩

set_option maxRecDepth 100000 in
set_option maxHeartbeats 8000000 in
theorem zm_acts_c17 {h : zx_H} (hI : zb_I zc_H h) {p : Int} {t : Int} (p1 : 0 ≤ p) (p2 : p ≤ 59) (t1 : 7 ≤ t) (t2 : t ≤ 13) (dz : zg_dz (zv_a h 45 p) (zv_a h 46 p) (t - 7) (zv_i h 25) (zv_a h 70) (zv_a h 61)) (vw : zg_VW h t) (t9 : zv_i h 38 ≤ 399) (r9 : zv_i h 41 ≤ 1000000) (r8 : (-5) ≤ zv_i h 41) (x0 : zv_i h 42 = 0) (n8 : ¬ zv_a h 61 8 = 3) (nx : zv_i h 50 = (-1)) (ci : zv_a h 45 p = 21 → 5 ≤ zv_a h 46 p ∧ zv_a h 46 p ≤ 8) (ov : zv_a h 45 p = 17) : zx_T zp_P 6 zp_m215 0 [(0, .ref 44), (1, .int (zI (p))), (2, .int (zI (t)))] [] h (zr_V [(44, 25), (61, 0), (69, 0), (44, 50), (44, 14), (44, 42), (44, 43), (44, 49), (44, 41), (44, 38), (71, 0), (72, 0)] h (fun h' => zg_ae h h')) := by
  have hS := zv_ri hI (k := 25) rfl
  have hT := zv_ri hI (k := 38) rfl
  have hC := zv_ri hI (k := 1) rfl
  refine zx_T.l (i := .aload_n 0) (k := 1) (v := .ref 44) (pc := 0) rfl rfl rfl ?_
  refine zr_gr (k := 3) (b := 46) (pc := 1) rfl rfl rfl hI ?_
  refine zx_T.l (i := .iload_n 1) (k := 1) (v := .int (zI (p))) (pc := 4) rfl rfl rfl ?_
  refine zr_al (n := 60) (lo := (-2147483648)) (hi := 2147483647) (e := zv_a h 46 p) (pc := 5) rfl rfl rfl hI (by omega) (by omega) rfl (fun g1a g1b => ?_)
  refine zx_T.t (i := .istore_n 3) (k := 1) (ls' := [(3, .int (zI (zv_a h 46 p))), (0, .ref 44), (1, .int (zI (p))), (2, .int (zI (t)))]) (st' := []) (pc := 6) rfl rfl rfl rfl ?_
  refine zx_T.l (i := .aload_n 0) (k := 1) (v := .ref 44) (pc := 7) rfl rfl rfl ?_
  refine zr_gr (k := 2) (b := 45) (pc := 8) rfl rfl rfl hI ?_
  refine zx_T.l (i := .iload_n 1) (k := 1) (v := .int (zI (p))) (pc := 11) rfl rfl rfl ?_
  refine zr_al (n := 60) (lo := 0) (hi := 28) (e := zv_a h 45 p) (pc := 12) rfl rfl rfl hI (by omega) (by omega) rfl (fun g2a g2b => ?_)
  have c3 : zv_a h 45 p = 17 := by omega
  rcases c3 with c3
  · refine zr_sw (i := .tableswitch 443 0 28 #[131, 443, 443, 443, 443, 443, 443, 443, 134, 151, 131, 131, 443, 443, 443, 443, 443, 187, 187, 187, 196, 237, 271, 311, 319, 328, 348, 367, 418]) (len := 131) (t := 200) (x := zv_a h 45 p) (k := 17) (pc := 13) rfl c3 rfl rfl rfl rfl ?_
    refine zx_T.l (i := .aload_n 0) (k := 1) (v := .ref 44) (pc := 200) rfl rfl rfl ?_
    refine zx_T.l (i := .iload_n 1) (k := 1) (v := .int (zI (p))) (pc := 201) rfl rfl rfl ?_
    refine zx_T.l (i := .iload_n 2) (k := 1) (v := .int (zI (t))) (pc := 202) rfl rfl rfl ?_
    refine zr_iv (cj := 212) (q' := zp_m212) (As := [.int (zI (p)), .int (zI (t))]) (rest := []) (pc := 203) rfl rfl rfl rfl rfl rfl (Nat.le_of_ble_eq_true rfl) rfl (Nat.le_of_ble_eq_true rfl) hI ((zm_row (h := h) hI (p := p) (t := t) (by omega) (by omega) (by omega) (by omega) dz vw (by omega) (by omega) (by omega) (by omega) (by omega) (by omega) (by omega) (by omega)).up (Nat.le_of_ble_eq_true rfl)) ?_
    rintro r4 h7 ⟨ih7, w8, r4q, x6⟩
    subst r4q
    try dsimp only at x6
    have ae := x6
    show zx_T zp_P 6 zp_m215 206 [(3, .int (zI (zv_a h 46 p))), (0, .ref 44), (1, .int (zI (p))), (2, .int (zI (t)))] [] h7 _
    refine zx_T.j (i := .goto 276) (k := 3) (pc' := 482) (st' := []) (pc := 206) rfl rfl rfl rfl rfl ?_
    have i42 : zv_i h7 42 = zv_i h7 42 := rfl
    have i43 : zv_i h7 43 = zv_i h7 43 := rfl
    have i38 : zv_i h7 38 = zv_i h7 38 := rfl
    have i41 : zv_i h7 41 = zv_i h7 41 := rfl
    have i50 : zv_i h7 50 = zv_i h7 50 := rfl
    have i25 : zv_i h7 25 = zv_i h7 25 := rfl
    have y15 : zv_i h7 1 = zv_i h 1 := (zv_wi w8 rfl)
    have a61 : ∀ j, 0 ≤ j → zv_a h7 61 j = zv_a h7 61 j := fun j hj => rfl
    have a71 : ∀ j, 0 ≤ j → zv_a h7 71 j = zv_a h7 71 j := fun j hj => rfl
    have b69 : ∀ j, 0 ≤ j → zv_b h7 69 j = zv_b h7 69 j := fun j hj => rfl
    exact zr_vr (pc := 482) rfl rfl ⟨ih7, (w8.wd rfl : zb_W [(44, 25), (61, 0), (69, 0), (44, 50), (44, 14), (44, 42), (44, 43), (44, 49), (44, 41), (44, 38), (71, 0), (72, 0)] h _), rfl, by dsimp only; exact ae⟩

set_option maxRecDepth 100000 in
set_option maxHeartbeats 8000000 in
theorem zm_acts_c18 {h : zx_H} (hI : zb_I zc_H h) {p : Int} {t : Int} (p1 : 0 ≤ p) (p2 : p ≤ 59) (t1 : 7 ≤ t) (t2 : t ≤ 13) (dz : zg_dz (zv_a h 45 p) (zv_a h 46 p) (t - 7) (zv_i h 25) (zv_a h 70) (zv_a h 61)) (vw : zg_VW h t) (t9 : zv_i h 38 ≤ 399) (r9 : zv_i h 41 ≤ 1000000) (r8 : (-5) ≤ zv_i h 41) (x0 : zv_i h 42 = 0) (n8 : ¬ zv_a h 61 8 = 3) (nx : zv_i h 50 = (-1)) (ci : zv_a h 45 p = 21 → 5 ≤ zv_a h 46 p ∧ zv_a h 46 p ≤ 8) (ov : zv_a h 45 p = 18) : zx_T zp_P 6 zp_m215 0 [(0, .ref 44), (1, .int (zI (p))), (2, .int (zI (t)))] [] h (zr_V [(44, 25), (61, 0), (69, 0), (44, 50), (44, 14), (44, 42), (44, 43), (44, 49), (44, 41), (44, 38), (71, 0), (72, 0)] h (fun h' => zg_ae h h')) := by
  have hS := zv_ri hI (k := 25) rfl
  have hT := zv_ri hI (k := 38) rfl
  have hC := zv_ri hI (k := 1) rfl
  refine zx_T.l (i := .aload_n 0) (k := 1) (v := .ref 44) (pc := 0) rfl rfl rfl ?_
  refine zr_gr (k := 3) (b := 46) (pc := 1) rfl rfl rfl hI ?_
  refine zx_T.l (i := .iload_n 1) (k := 1) (v := .int (zI (p))) (pc := 4) rfl rfl rfl ?_
  refine zr_al (n := 60) (lo := (-2147483648)) (hi := 2147483647) (e := zv_a h 46 p) (pc := 5) rfl rfl rfl hI (by omega) (by omega) rfl (fun g1a g1b => ?_)
  refine zx_T.t (i := .istore_n 3) (k := 1) (ls' := [(3, .int (zI (zv_a h 46 p))), (0, .ref 44), (1, .int (zI (p))), (2, .int (zI (t)))]) (st' := []) (pc := 6) rfl rfl rfl rfl ?_
  refine zx_T.l (i := .aload_n 0) (k := 1) (v := .ref 44) (pc := 7) rfl rfl rfl ?_
  refine zr_gr (k := 2) (b := 45) (pc := 8) rfl rfl rfl hI ?_
  refine zx_T.l (i := .iload_n 1) (k := 1) (v := .int (zI (p))) (pc := 11) rfl rfl rfl ?_
  refine zr_al (n := 60) (lo := 0) (hi := 28) (e := zv_a h 45 p) (pc := 12) rfl rfl rfl hI (by omega) (by omega) rfl (fun g2a g2b => ?_)
  have c3 : zv_a h 45 p = 18 := by omega
  rcases c3 with c3
  · refine zr_sw (i := .tableswitch 443 0 28 #[131, 443, 443, 443, 443, 443, 443, 443, 134, 151, 131, 131, 443, 443, 443, 443, 443, 187, 187, 187, 196, 237, 271, 311, 319, 328, 348, 367, 418]) (len := 131) (t := 200) (x := zv_a h 45 p) (k := 18) (pc := 13) rfl c3 rfl rfl rfl rfl ?_
    refine zx_T.l (i := .aload_n 0) (k := 1) (v := .ref 44) (pc := 200) rfl rfl rfl ?_
    refine zx_T.l (i := .iload_n 1) (k := 1) (v := .int (zI (p))) (pc := 201) rfl rfl rfl ?_
    refine zx_T.l (i := .iload_n 2) (k := 1) (v := .int (zI (t))) (pc := 202) rfl rfl rfl ?_
    refine zr_iv (cj := 212) (q' := zp_m212) (As := [.int (zI (p)), .int (zI (t))]) (rest := []) (pc := 203) rfl rfl rfl rfl rfl rfl (Nat.le_of_ble_eq_true rfl) rfl (Nat.le_of_ble_eq_true rfl) hI ((zm_row (h := h) hI (p := p) (t := t) (by omega) (by omega) (by omega) (by omega) dz vw (by omega) (by omega) (by omega) (by omega) (by omega) (by omega) (by omega) (by omega)).up (Nat.le_of_ble_eq_true rfl)) ?_
    rintro r4 h7 ⟨ih7, w8, r4q, x6⟩
    subst r4q
    try dsimp only at x6
    have ae := x6
    show zx_T zp_P 6 zp_m215 206 [(3, .int (zI (zv_a h 46 p))), (0, .ref 44), (1, .int (zI (p))), (2, .int (zI (t)))] [] h7 _
    refine zx_T.j (i := .goto 276) (k := 3) (pc' := 482) (st' := []) (pc := 206) rfl rfl rfl rfl rfl ?_
    have i42 : zv_i h7 42 = zv_i h7 42 := rfl
    have i43 : zv_i h7 43 = zv_i h7 43 := rfl
    have i38 : zv_i h7 38 = zv_i h7 38 := rfl
    have i41 : zv_i h7 41 = zv_i h7 41 := rfl
    have i50 : zv_i h7 50 = zv_i h7 50 := rfl
    have i25 : zv_i h7 25 = zv_i h7 25 := rfl
    have y15 : zv_i h7 1 = zv_i h 1 := (zv_wi w8 rfl)
    have a61 : ∀ j, 0 ≤ j → zv_a h7 61 j = zv_a h7 61 j := fun j hj => rfl
    have a71 : ∀ j, 0 ≤ j → zv_a h7 71 j = zv_a h7 71 j := fun j hj => rfl
    have b69 : ∀ j, 0 ≤ j → zv_b h7 69 j = zv_b h7 69 j := fun j hj => rfl
    exact zr_vr (pc := 482) rfl rfl ⟨ih7, (w8.wd rfl : zb_W [(44, 25), (61, 0), (69, 0), (44, 50), (44, 14), (44, 42), (44, 43), (44, 49), (44, 41), (44, 38), (71, 0), (72, 0)] h _), rfl, by dsimp only; exact ae⟩

set_option maxRecDepth 100000 in
set_option maxHeartbeats 8000000 in
theorem zm_acts_c19 {h : zx_H} (hI : zb_I zc_H h) {p : Int} {t : Int} (p1 : 0 ≤ p) (p2 : p ≤ 59) (t1 : 7 ≤ t) (t2 : t ≤ 13) (dz : zg_dz (zv_a h 45 p) (zv_a h 46 p) (t - 7) (zv_i h 25) (zv_a h 70) (zv_a h 61)) (vw : zg_VW h t) (t9 : zv_i h 38 ≤ 399) (r9 : zv_i h 41 ≤ 1000000) (r8 : (-5) ≤ zv_i h 41) (x0 : zv_i h 42 = 0) (n8 : ¬ zv_a h 61 8 = 3) (nx : zv_i h 50 = (-1)) (ci : zv_a h 45 p = 21 → 5 ≤ zv_a h 46 p ∧ zv_a h 46 p ≤ 8) (ov : zv_a h 45 p = 19) : zx_T zp_P 6 zp_m215 0 [(0, .ref 44), (1, .int (zI (p))), (2, .int (zI (t)))] [] h (zr_V [(44, 25), (61, 0), (69, 0), (44, 50), (44, 14), (44, 42), (44, 43), (44, 49), (44, 41), (44, 38), (71, 0), (72, 0)] h (fun h' => zg_ae h h')) := by
  have hS := zv_ri hI (k := 25) rfl
  have hT := zv_ri hI (k := 38) rfl
  have hC := zv_ri hI (k := 1) rfl
  refine zx_T.l (i := .aload_n 0) (k := 1) (v := .ref 44) (pc := 0) rfl rfl rfl ?_
  refine zr_gr (k := 3) (b := 46) (pc := 1) rfl rfl rfl hI ?_
  refine zx_T.l (i := .iload_n 1) (k := 1) (v := .int (zI (p))) (pc := 4) rfl rfl rfl ?_
  refine zr_al (n := 60) (lo := (-2147483648)) (hi := 2147483647) (e := zv_a h 46 p) (pc := 5) rfl rfl rfl hI (by omega) (by omega) rfl (fun g1a g1b => ?_)
  refine zx_T.t (i := .istore_n 3) (k := 1) (ls' := [(3, .int (zI (zv_a h 46 p))), (0, .ref 44), (1, .int (zI (p))), (2, .int (zI (t)))]) (st' := []) (pc := 6) rfl rfl rfl rfl ?_
  refine zx_T.l (i := .aload_n 0) (k := 1) (v := .ref 44) (pc := 7) rfl rfl rfl ?_
  refine zr_gr (k := 2) (b := 45) (pc := 8) rfl rfl rfl hI ?_
  refine zx_T.l (i := .iload_n 1) (k := 1) (v := .int (zI (p))) (pc := 11) rfl rfl rfl ?_
  refine zr_al (n := 60) (lo := 0) (hi := 28) (e := zv_a h 45 p) (pc := 12) rfl rfl rfl hI (by omega) (by omega) rfl (fun g2a g2b => ?_)
  have c3 : zv_a h 45 p = 19 := by omega
  rcases c3 with c3
  · refine zr_sw (i := .tableswitch 443 0 28 #[131, 443, 443, 443, 443, 443, 443, 443, 134, 151, 131, 131, 443, 443, 443, 443, 443, 187, 187, 187, 196, 237, 271, 311, 319, 328, 348, 367, 418]) (len := 131) (t := 200) (x := zv_a h 45 p) (k := 19) (pc := 13) rfl c3 rfl rfl rfl rfl ?_
    refine zx_T.l (i := .aload_n 0) (k := 1) (v := .ref 44) (pc := 200) rfl rfl rfl ?_
    refine zx_T.l (i := .iload_n 1) (k := 1) (v := .int (zI (p))) (pc := 201) rfl rfl rfl ?_
    refine zx_T.l (i := .iload_n 2) (k := 1) (v := .int (zI (t))) (pc := 202) rfl rfl rfl ?_
    refine zr_iv (cj := 212) (q' := zp_m212) (As := [.int (zI (p)), .int (zI (t))]) (rest := []) (pc := 203) rfl rfl rfl rfl rfl rfl (Nat.le_of_ble_eq_true rfl) rfl (Nat.le_of_ble_eq_true rfl) hI ((zm_row (h := h) hI (p := p) (t := t) (by omega) (by omega) (by omega) (by omega) dz vw (by omega) (by omega) (by omega) (by omega) (by omega) (by omega) (by omega) (by omega)).up (Nat.le_of_ble_eq_true rfl)) ?_
    rintro r4 h7 ⟨ih7, w8, r4q, x6⟩
    subst r4q
    try dsimp only at x6
    have ae := x6
    show zx_T zp_P 6 zp_m215 206 [(3, .int (zI (zv_a h 46 p))), (0, .ref 44), (1, .int (zI (p))), (2, .int (zI (t)))] [] h7 _
    refine zx_T.j (i := .goto 276) (k := 3) (pc' := 482) (st' := []) (pc := 206) rfl rfl rfl rfl rfl ?_
    have i42 : zv_i h7 42 = zv_i h7 42 := rfl
    have i43 : zv_i h7 43 = zv_i h7 43 := rfl
    have i38 : zv_i h7 38 = zv_i h7 38 := rfl
    have i41 : zv_i h7 41 = zv_i h7 41 := rfl
    have i50 : zv_i h7 50 = zv_i h7 50 := rfl
    have i25 : zv_i h7 25 = zv_i h7 25 := rfl
    have y15 : zv_i h7 1 = zv_i h 1 := (zv_wi w8 rfl)
    have a61 : ∀ j, 0 ≤ j → zv_a h7 61 j = zv_a h7 61 j := fun j hj => rfl
    have a71 : ∀ j, 0 ≤ j → zv_a h7 71 j = zv_a h7 71 j := fun j hj => rfl
    have b69 : ∀ j, 0 ≤ j → zv_b h7 69 j = zv_b h7 69 j := fun j hj => rfl
    exact zr_vr (pc := 482) rfl rfl ⟨ih7, (w8.wd rfl : zb_W [(44, 25), (61, 0), (69, 0), (44, 50), (44, 14), (44, 42), (44, 43), (44, 49), (44, 41), (44, 38), (71, 0), (72, 0)] h _), rfl, by dsimp only; exact ae⟩
