/-! ===== 58: the reference, method by method (by program) ===== -/
theorem zg_frs {h2 h4 : zx_H} {p : Int} {W : List (Nat × Nat)} (fr : ∀ q, 0 ≤ q → q < p → zv_a h2 54 q = 1 → zg_FC h2 q → zg_fa h2 q) (w : zb_W W h2 h4) (e : zg_in9 W = false) (e9 : za_in W 54 0 = false) (up : ∀ q, zg_fa h2 q → zg_fa h4 q) (new : zv_a h2 54 p = 1 → zg_FC h2 p → zg_fa h4 p) : ∀ q, 0 ≤ q → q < p + 1 → zv_a h4 54 q = 1 → zg_FC h4 q → zg_fa h4 q := fun q q0 q1 q2 q3 => by
  rw [zv_wa w e9] at q2
  have q3 := q3.bk w e e9
  rcases (show q = p ∨ q < p by omega) with z | z
  · subst z; exact new q2 q3
  · exact up q (fr q q0 z q2 q3)
theorem zg_kpu {h2 h4 : zx_H} {p : Int} (hI2 : zb_I zc_H h2) (kp : zv_i h4 19 = zv_i h2 19 + 1 ∧ ∀ j, 0 ≤ j → zv_a h4 57 j = if j = zv_i h2 19 then p else zv_a h2 57 j) : (∀ q, zg_fa h2 q → zg_fa h4 q) ∧ zg_fa h4 p := by
  have hF := zv_ri hI2 (k := 19) rfl
  refine ⟨fun q ⟨f, f0, f1, f2⟩ => ⟨f, f0, by omega, ?_⟩, ⟨zv_i h2 19, hF.1, by omega, ?_⟩⟩
  · rw [kp.2 f f0, if_neg (by omega)]; exact f2
  · rw [kp.2 _ hF.1, if_pos rfl]

set_option maxRecDepth 100000 in
set_option maxHeartbeats 4000000 in
theorem zm_make_L {h : zx_H} (hI : zb_I zc_H h)  (hk : zg_KI h) (hc : zg_CI h) (ht : zg_TI h) (n : Nat) : (∀ {h2 : zx_H} {p : Int} (hI2 : zb_I zc_H h2) (p1 : 0 ≤ p) (p2 : p ≤ 60) (hw : zb_W [(44, 0), (44, 13), (44, 14), (44, 15), (44, 19), (54, 0), (44, 27), (56, 0), (55, 0), (63, 0), (44, 25), (61, 0), (62, 0), (44, 26), (57, 0), (58, 0), (59, 0), (60, 0)] h h2) (hk2 : zg_KI h2) (im : zv_i h2 13 = 0) (r0 : zv_i h2 15 = 0) (f0 : zv_i h2 19 = 0) (c1 : 1 ≤ zv_i h 1), (1000000 + 100 - p : Int).toNat < n → zx_T zp_P 5 zp_m176 43 [(0, .ref 44), (1, .int (zI (p)))] [] h2 (zr_R [(44, 0), (44, 13), (44, 14), (44, 15), (44, 19), (54, 0), (44, 27), (56, 0), (55, 0), (63, 0), (44, 25), (61, 0), (62, 0), (44, 26), (57, 0), (58, 0), (59, 0), (60, 0)] h (fun e h' => zg_KI h' ∧ (zv_i h' 13 = 1 → zg_C h')))) ∧ (∀ {h2 : zx_H}  (hI2 : zb_I zc_H h2) (hw : zb_W [(44, 0), (44, 13), (44, 14), (44, 15), (44, 19), (54, 0), (44, 27), (56, 0), (55, 0), (63, 0), (44, 25), (61, 0), (62, 0), (44, 26), (57, 0), (58, 0), (59, 0), (60, 0)] h h2) (hk2 : zg_KI h2) (im : zv_i h2 13 = 0) (rr : 0 ≤ zv_i h2 15 ∧ zv_i h2 15 + zg_mu h2 ≤ 3421 ∧ (zv_i h2 27 = 1 → zv_i h2 15 + zg_mu h2 ≤ 3420)) (f0 : zv_i h2 19 = 0) (c1 : 1 ≤ zv_i h 1) (wk : zv_i h2 27 = 0 → ∀ q, 0 ≤ q → q < zv_i h 1 → zv_a h2 54 q = 1 → zg_wk h h2 q), (200 * zg_mu h2 + 100 * zv_i h2 27 + 105 : Int).toNat < n → zx_T zp_P 5 zp_m176 86 [(0, .ref 44)] [] h2 (zr_R [(44, 0), (44, 13), (44, 14), (44, 15), (44, 19), (54, 0), (44, 27), (56, 0), (55, 0), (63, 0), (44, 25), (61, 0), (62, 0), (44, 26), (57, 0), (58, 0), (59, 0), (60, 0)] h (fun e h' => zg_KI h' ∧ (zv_i h' 13 = 1 → zg_C h')))) ∧ (∀ {h2 : zx_H} {p : Int} (hI2 : zb_I zc_H h2) (p1 : 0 ≤ p) (p2 : p ≤ zv_i h 1) (hw : zb_W [(44, 0), (44, 13), (44, 14), (44, 15), (44, 19), (54, 0), (44, 27), (56, 0), (55, 0), (63, 0), (44, 25), (61, 0), (62, 0), (44, 26), (57, 0), (58, 0), (59, 0), (60, 0)] h h2) (hk2 : zg_KI h2) (im : zv_i h2 13 = 0) (rr : 0 ≤ zv_i h2 15 ∧ zv_i h2 15 + zg_mu h2 ≤ 3421 ∧ (zv_i h2 27 = 1 → zv_i h2 15 + zg_mu h2 ≤ 3420)) (f0 : zv_i h2 19 = 0) (c1 : 1 ≤ zv_i h 1) (wk : zv_i h2 27 = 0 → ∀ q, 0 ≤ q → q < p → zv_a h2 54 q = 1 → zg_wk h h2 q), (200 * zg_mu h2 + 100 * zv_i h2 27 + 170 - p : Int).toNat < n → zx_T zp_P 5 zp_m176 110 [(0, .ref 44), (2, .int (zI (p)))] [] h2 (zr_R [(44, 0), (44, 13), (44, 14), (44, 15), (44, 19), (54, 0), (44, 27), (56, 0), (55, 0), (63, 0), (44, 25), (61, 0), (62, 0), (44, 26), (57, 0), (58, 0), (59, 0), (60, 0)] h (fun e h' => zg_KI h' ∧ (zv_i h' 13 = 1 → zg_C h')))) ∧ (∀ {h2 : zx_H} {p : Int} (hI2 : zb_I zc_H h2) (p1 : 0 ≤ p) (p2 : p ≤ zv_i h 1) (hw : zb_W [(44, 0), (44, 13), (44, 14), (44, 15), (44, 19), (54, 0), (44, 27), (56, 0), (55, 0), (63, 0), (44, 25), (61, 0), (62, 0), (44, 26), (57, 0), (58, 0), (59, 0), (60, 0)] h h2) (hk2 : zg_KI h2) (fl : zv_i h2 19 ≤ p) (wk : ∀ q, 0 ≤ q → q < zv_i h 1 → zv_a h2 54 q = 1 → zg_wk h h2 q) (fr : ∀ q, 0 ≤ q → q < p → zv_a h2 54 q = 1 → zg_FC h2 q → zg_fa h2 q), (100 - p : Int).toNat < n → zx_T zp_P 5 zp_m176 164 [(0, .ref 44), (2, .int (zI (p)))] [] h2 (zr_R [(44, 0), (44, 13), (44, 14), (44, 15), (44, 19), (54, 0), (44, 27), (56, 0), (55, 0), (63, 0), (44, 25), (61, 0), (62, 0), (44, 26), (57, 0), (58, 0), (59, 0), (60, 0)] h (fun e h' => zg_KI h' ∧ (zv_i h' 13 = 1 → zg_C h')))) := by
  induction n with
  | zero => exact ⟨fun _ _ _ _ _ _ _ _ _ hm => absurd hm (Nat.not_lt_zero _), fun _ _ _ _ _ _ _ _ hm => absurd hm (Nat.not_lt_zero _), fun _ _ _ _ _ _ _ _ _ _ hm => absurd hm (Nat.not_lt_zero _), fun _ _ _ _ _ _ _ _ hm => absurd hm (Nat.not_lt_zero _)⟩
  | succ n ih =>
    refine ⟨?_, ?_, ?_, ?_⟩
    · intro h2 p hI2 p1 p2 hw hk2 im r0 f0 c1 hm
      have hC := zv_ri hI (k := 1) rfl
      refine zx_T.l (i := .iload_n 1) (k := 1) (v := .int (zI (p))) (pc := 43) rfl rfl rfl ?_
      refine zx_T.s (i := .bipush 60) (k := 2) (st' := [.int (zI (60)), .int (zI (p))]) (pc := 44) rfl rfl ?_
      refine zr_i2 (x := p) (y := 60) (t := 62) (pc := 46) rfl rfl (by omega) (by omega) (by omega) (by omega) (fun (c1 : 60 ≤ p) => ?_) (fun (c1 : ¬ (60 ≤ p)) => ?_)
      · refine zx_T.l (i := .aload_n 0) (k := 1) (v := .ref 44) (pc := 62) rfl rfl rfl ?_
        refine zx_T.l (i := .aload_n 0) (k := 1) (v := .ref 44) (pc := 63) rfl rfl rfl ?_
        refine zr_gr (k := 24) (b := 61) (pc := 64) rfl rfl rfl hI2 ?_
        refine zr_iv (cj := 172) (q' := zp_m172) (As := [.ref 61]) (rest := []) (pc := 67) rfl rfl rfl rfl rfl rfl (Nat.le_of_ble_eq_true rfl) rfl (Nat.le_of_ble_eq_true rfl) hI2 ((zm_begin_61 (h := h2) hI2  ).up (Nat.le_of_ble_eq_true rfl)) ?_
        rintro r2 h5 ⟨ih5, w6, r2q, x4⟩
        subst r2q
        try dsimp only at x4
        have bj := x4
        show zx_T zp_P 5 zp_m176 70 [(0, .ref 44), (1, .int (zI (p)))] [] h5 _
        refine zx_T.l (i := .aload_n 0) (k := 1) (v := .ref 44) (pc := 70) rfl rfl rfl ?_
        refine zx_T.s (i := .iconst 1) (k := 1) (st' := [.int (zI (1)), .ref 44]) (pc := 71) rfl rfl ?_
        refine zr_pi (k := 27) (lo := 0) (hi := 1) (e := 1) (pc := 72) rfl rfl rfl rfl rfl rfl ih5 (by omega) (by omega) (fun h7 ih7 w8 e9 => ?_)
        refine zx_T.l (i := .aload_n 0) (k := 1) (v := .ref 44) (pc := 75) rfl rfl rfl ?_
        refine zx_T.s (i := .iconst 0) (k := 1) (st' := [.int (zI (0)), .ref 44]) (pc := 76) rfl rfl ?_
        refine zx_T.l (i := .aload_n 0) (k := 1) (v := .ref 44) (pc := 77) rfl rfl rfl ?_
        refine zr_gr (k := 24) (b := 61) (pc := 78) rfl rfl rfl ih7 ?_
        refine zx_T.s (i := .iconst 0) (k := 1) (st' := [.int (zI (0)), .ref 61, .int (zI (0)), .ref 44]) (pc := 81) rfl rfl ?_
        have y10 : zv_i h7 1 = zv_i h 1 := ((zv_wi w8 rfl).trans ((zv_wi w6 rfl).trans (zv_wi hw rfl)))
        have y11 : zv_a h7 61 8 = zv_a h5 61 8 := (zv_wa w8 rfl 8)
        refine zr_iv (cj := 174) (q' := zp_m174) (As := [.int (zI (0)), .ref 61, .int (zI (0))]) (rest := []) (pc := 82) rfl rfl rfl rfl rfl rfl (Nat.le_of_ble_eq_true rfl) rfl (Nat.le_of_ble_eq_true rfl) ih7 ((zm_join_61 (h := h7) ih7 (place := 0) (many := 0) (by omega) (by omega) (by omega) (by omega) ((hk2.w w6 rfl).w w8 rfl) (by have b1 := bj 8 (by omega) (by omega); have b2 := zv_ri hI2 (k := 10) rfl; omega)).up (Nat.le_of_ble_eq_true rfl)) ?_
        rintro r12 h15 ⟨ih15, w16, v13, r12q, x14⟩
        subst r12q
        try dsimp only at x14
        have Jh15 := x14.1
        have jE := x14.2.2.2
        show zx_T zp_P 5 zp_m176 85 [(0, .ref 44), (1, .int (zI (p)))] [.int (zI (v13))] h15 _
        refine zx_T.t (i := .istore_n 1) (k := 1) (ls' := [(1, .int (zI (v13))), (0, .ref 44)]) (st' := []) (pc := 85) rfl rfl rfl rfl ?_
        have y17 : zv_i h15 13 = zv_i h2 13 := ((zv_wi w16 rfl).trans ((zv_wi w8 rfl).trans (zv_wi w6 rfl)))
        have y18 : zv_i h15 15 = zv_i h2 15 := ((zv_wi w16 rfl).trans ((zv_wi w8 rfl).trans (zv_wi w6 rfl)))
        have y20 : zv_i h15 19 = zv_i h2 19 := ((zv_wi w16 rfl).trans ((zv_wi w8 rfl).trans (zv_wi w6 rfl)))
        have mb := zg_mu_b h15
        have mc1 : zv_i h15 27 = 1 := Jh15.2.2.1 e9
        refine zx_T.lk (ls' := [(0, .ref 44)]) rfl ⟨rfl, trivial⟩ ?_
        exact ih.2.1 (h2 := h15)  ih15 ((((hw.wd rfl : zb_W [(44, 0), (44, 13), (44, 14), (44, 15), (44, 19), (54, 0), (44, 27), (56, 0), (55, 0), (63, 0), (44, 25), (61, 0), (62, 0), (44, 26), (57, 0), (58, 0), (59, 0), (60, 0)] h _).tr (w6.wd rfl)).tr (w8.wd rfl)).tr (w16.wd rfl)) Jh15.2.2.2.2.2 (by omega) (by have b1 := zg_mu_b h15; omega) (by omega) (by omega) (fun z => absurd z (by omega)) (by omega)
      · refine zx_T.l (i := .aload_n 0) (k := 1) (v := .ref 44) (pc := 49) rfl rfl rfl ?_
        refine zr_gr (k := 16) (b := 54) (pc := 50) rfl rfl rfl hI2 ?_
        refine zx_T.l (i := .iload_n 1) (k := 1) (v := .int (zI (p))) (pc := 53) rfl rfl rfl ?_
        refine zx_T.s (i := .iconst 0) (k := 1) (st' := [.int (zI (0)), .int (zI (p)), .ref 54]) (pc := 54) rfl rfl ?_
        refine zr_bs (n := 60) (e := 0) (pc := 55) rfl rfl rfl hI2 (by omega) (by omega) (by omega) (by omega) (fun h21 ih21 w22 s23 => ?_)
        refine zr_inc (x := p) (n := 1) (y := p + 1) (ls' := [(1, .int (zI (p + 1))), (0, .ref 44)]) (pc := 56) rfl rfl rfl (by omega) rfl ?_
        refine zx_T.j (i := .goto (-16)) (k := 3) (pc' := 43) (st' := []) (pc := 59) rfl rfl rfl rfl rfl ?_
        have y24 : zv_i h21 13 = zv_i h2 13 := (zv_wi w22 rfl)
        have y25 : zv_i h21 15 = zv_i h2 15 := (zv_wi w22 rfl)
        have y26 : zv_i h21 19 = zv_i h2 19 := (zv_wi w22 rfl)
        refine zx_T.lk (ls' := [(0, .ref 44), (1, .int (zI (p + 1)))]) rfl ⟨rfl, rfl, trivial⟩ ?_
        exact ih.1 (h2 := h21) (p := p + 1) ih21 (by omega) (by omega) ((hw.wd rfl : zb_W [(44, 0), (44, 13), (44, 14), (44, 15), (44, 19), (54, 0), (44, 27), (56, 0), (55, 0), (63, 0), (44, 25), (61, 0), (62, 0), (44, 26), (57, 0), (58, 0), (59, 0), (60, 0)] h _).tr (w22.wd rfl)) (hk2.w w22 rfl) (by omega) (by omega) (by omega) (by omega) (by omega)
    · intro h2  hI2 hw hk2 im rr f0 c1 wk hm
      have hC := zv_ri hI (k := 1) rfl
      have mb0 := zg_mu_b h2
      refine zx_T.l (i := .aload_n 0) (k := 1) (v := .ref 44) (pc := 86) rfl rfl rfl ?_
      refine zr_gi (k := 27) (lo := 0) (hi := 1) (e := zv_i h2 27) (pc := 87) rfl rfl rfl hI2 rfl (fun g27a g27b => ?_)
      refine zr_i1 (x := zv_i h2 27) (t := 157) (pc := 90) rfl rfl (by omega) (by omega) (fun (c28 : (zv_i h2 27) = 0) => ?_) (fun (c28 : ¬ ((zv_i h2 27) = 0)) => ?_)
      · refine zx_T.l (i := .aload_n 0) (k := 1) (v := .ref 44) (pc := 157) rfl rfl rfl ?_
        refine zx_T.s (i := .iconst 1) (k := 1) (st' := [.int (zI (1)), .ref 44]) (pc := 158) rfl rfl ?_
        refine zr_pi (k := 13) (lo := 0) (hi := 1) (e := 1) (pc := 159) rfl rfl rfl rfl rfl rfl hI2 (by omega) (by omega) (fun h29 ih29 w30 e31 => ?_)
        refine zx_T.s (i := .iconst 0) (k := 1) (st' := [.int (zI (0))]) (pc := 162) rfl rfl ?_
        refine zx_T.t (i := .istore_n 2) (k := 1) (ls' := [(2, .int (zI (0))), (0, .ref 44)]) (st' := []) (pc := 163) rfl rfl rfl rfl ?_
        have y32 : zv_i h29 19 = zv_i h2 19 := (zv_wi w30 rfl)
        have mb := zg_mu_b h2
        have mw := zg_mu_w (w30.wd rfl : zb_W [(44, 27), (44, 15), (44, 13)] h2 _) rfl rfl
        refine zx_T.lk (ls' := [(0, .ref 44), (2, .int (zI (0)))]) rfl ⟨rfl, rfl, trivial⟩ ?_
        exact ih.2.2.2 (h2 := h29) (p := 0) ih29 (by omega) (by omega) ((hw.wd rfl : zb_W [(44, 0), (44, 13), (44, 14), (44, 15), (44, 19), (54, 0), (44, 27), (56, 0), (55, 0), (63, 0), (44, 25), (61, 0), (62, 0), (44, 26), (57, 0), (58, 0), (59, 0), (60, 0)] h _).tr (w30.wd rfl)) (hk2.w w30 rfl) (by omega) (fun q q0 q1 q2 => by rw [zv_wa w30 (a := 54) rfl] at q2; exact (wk (by omega) q q0 (by omega) q2).fr w30 rfl) (fun q q0 q1 => absurd q1 (by omega)) (by omega)
      · refine zx_T.l (i := .aload_n 0) (k := 1) (v := .ref 44) (pc := 93) rfl rfl rfl ?_
        refine zx_T.s (i := .iconst 0) (k := 1) (st' := [.int (zI (0)), .ref 44]) (pc := 94) rfl rfl ?_
        refine zr_pi (k := 27) (lo := 0) (hi := 1) (e := 0) (pc := 95) rfl rfl rfl rfl rfl rfl hI2 (by omega) (by omega) (fun h33 ih33 w34 e35 => ?_)
        refine zx_T.l (i := .aload_n 0) (k := 1) (v := .ref 44) (pc := 98) rfl rfl rfl ?_
        refine zx_T.s (i := .dup) (k := 1) (st' := [.ref 44, .ref 44]) (pc := 99) rfl rfl ?_
        refine zr_gi (k := 15) (lo := (-2147483648)) (hi := 2147483647) (e := zv_i h2 15) (pc := 100) rfl rfl rfl ih33 (zv_wi w34 rfl) (fun g36a g36b => ?_)
        refine zx_T.s (i := .iconst 1) (k := 1) (st' := [.int (zI (1)), .int (zI (zv_i h2 15)), .ref 44]) (pc := 103) rfl rfl ?_
        refine zr_add (x := zv_i h2 15) (y := 1) (e := zv_i h2 15 + 1) (pc := 104) rfl (by omega) ?_
        refine zr_pi (k := 15) (lo := (-2147483648)) (hi := 2147483647) (e := zv_i h2 15 + 1) (pc := 105) rfl rfl rfl rfl rfl rfl ih33 (by omega) (by omega) (fun h37 ih37 w38 e39 => ?_)
        refine zx_T.s (i := .iconst 0) (k := 1) (st' := [.int (zI (0))]) (pc := 108) rfl rfl ?_
        refine zx_T.t (i := .istore_n 2) (k := 1) (ls' := [(2, .int (zI (0))), (0, .ref 44)]) (st' := []) (pc := 109) rfl rfl rfl rfl ?_
        have y40 : zv_i h37 13 = zv_i h2 13 := ((zv_wi w38 rfl).trans (zv_wi w34 rfl))
        have y41 : zv_i h37 15 = zv_i h2 15 + 1 := e39
        have y42 : zv_i h37 27 = 0 := ((zv_wi w38 rfl).trans e35)
        have y43 : zv_i h37 19 = zv_i h2 19 := ((zv_wi w38 rfl).trans (zv_wi w34 rfl))
        have mb := zg_mu_b h2
        have mw := zg_mu_w ((w34.wd rfl : zb_W [(44, 27), (44, 15), (44, 13)] h2 _).tr (w38.wd rfl)) rfl rfl
        refine zx_T.lk (ls' := [(0, .ref 44), (2, .int (zI (0)))]) rfl ⟨rfl, rfl, trivial⟩ ?_
        exact ih.2.2.1 (h2 := h37) (p := 0) ih37 (by omega) (by omega) (((hw.wd rfl : zb_W [(44, 0), (44, 13), (44, 14), (44, 15), (44, 19), (54, 0), (44, 27), (56, 0), (55, 0), (63, 0), (44, 25), (61, 0), (62, 0), (44, 26), (57, 0), (58, 0), (59, 0), (60, 0)] h _).tr (w34.wd rfl)).tr (w38.wd rfl)) ((hk2.w w34 rfl).w w38 rfl) (by omega) (by have b1 := zg_mu_w ((w34.wd rfl : zb_W [(44, 27), (44, 15)] h2 _).tr (w38.wd rfl)) rfl rfl; have b2 := zg_mu_b h2; omega) (by omega) (by omega) (fun _ q q0 q1 => absurd q1 (by omega)) (by omega)
    · intro h2 p hI2 p1 p2 hw hk2 im rr f0 c1 wk hm
      have hC := zv_ri hI (k := 1) rfl
      refine zx_T.l (i := .iload_n 2) (k := 1) (v := .int (zI (p))) (pc := 110) rfl rfl rfl ?_
      refine zx_T.l (i := .aload_n 0) (k := 1) (v := .ref 44) (pc := 111) rfl rfl rfl ?_
      refine zr_gi (k := 1) (lo := 0) (hi := 60) (e := zv_i h 1) (pc := 112) rfl rfl rfl hI2 (zv_wi hw rfl) (fun g44a g44b => ?_)
      refine zr_i2 (x := p) (y := zv_i h 1) (t := 154) (pc := 115) rfl rfl (by omega) (by omega) (by omega) (by omega) (fun (c45 : (zv_i h 1) ≤ p) => ?_) (fun (c45 : ¬ ((zv_i h 1) ≤ p)) => ?_)
      · refine zx_T.j (i := .goto (-68)) (k := 3) (pc' := 86) (st' := []) (pc := 154) rfl rfl rfl rfl rfl ?_
        have mb := zg_mu_b h2
        have mb2 := zg_mu_b h2
        have mj := (zg_J.rf hk2)
        have mk := And.intro mj.1 (And.intro mj.2.1 mj.2.2.1)
        have ml := zg_b hI2
        have mn := zg_b hI2
        refine zx_T.lk (ls' := [(0, .ref 44)]) rfl ⟨rfl, trivial⟩ ?_
        exact ih.2.1 (h2 := h2)  hI2 (hw.wd rfl : zb_W [(44, 0), (44, 13), (44, 14), (44, 15), (44, 19), (54, 0), (44, 27), (56, 0), (55, 0), (63, 0), (44, 25), (61, 0), (62, 0), (44, 26), (57, 0), (58, 0), (59, 0), (60, 0)] h _) hk2 (by omega) (by have b1 := (zg_J.rf hk2); have b2 := b1.1; have b3 := b1.2.1; have b4 := b1.2.2.1; have b5 := zg_b hI2; omega) (by omega) (by omega) (fun z q q0 q1 => wk z q q0 (by omega)) (by omega)
      · refine zx_T.l (i := .aload_n 0) (k := 1) (v := .ref 44) (pc := 118) rfl rfl rfl ?_
        refine zr_gr (k := 16) (b := 54) (pc := 119) rfl rfl rfl hI2 ?_
        refine zx_T.l (i := .iload_n 2) (k := 1) (v := .int (zI (p))) (pc := 122) rfl rfl rfl ?_
        refine zr_bl (n := 60) (lo := 0) (hi := 1) (e := zv_a h2 54 p) (pc := 123) rfl rfl rfl hI2 (by omega) (by omega) rfl (fun g50a g50b => ?_)
        refine zr_i1 (x := zv_a h2 54 p) (t := 148) (pc := 124) rfl rfl (by omega) (by omega) (fun (c51 : (zv_a h2 54 p) = 0) => ?_) (fun (c51 : ¬ ((zv_a h2 54 p) = 0)) => ?_)
        · refine zr_inc (x := p) (n := 1) (y := p + 1) (ls' := [(2, .int (zI (p + 1))), (0, .ref 44)]) (pc := 148) rfl rfl rfl (by omega) rfl ?_
          refine zx_T.j (i := .goto (-41)) (k := 3) (pc' := 110) (st' := []) (pc := 151) rfl rfl rfl rfl rfl ?_
          have mb := zg_mu_b h2
          have mb2 := zg_mu_b h2
          have mj := (zg_J.rf hk2)
          have mk := And.intro mj.1 (And.intro mj.2.1 mj.2.2.1)
          have ml := zg_b hI2
          have mn := zg_b hI2
          refine zx_T.lk (ls' := [(0, .ref 44), (2, .int (zI (p + 1)))]) rfl ⟨rfl, rfl, trivial⟩ ?_
          exact ih.2.2.1 (h2 := h2) (p := p + 1) hI2 (by omega) (by omega) (hw.wd rfl : zb_W [(44, 0), (44, 13), (44, 14), (44, 15), (44, 19), (54, 0), (44, 27), (56, 0), (55, 0), (63, 0), (44, 25), (61, 0), (62, 0), (44, 26), (57, 0), (58, 0), (59, 0), (60, 0)] h _) hk2 (by omega) (by have b1 := (zg_J.rf hk2); have b2 := b1.1; have b3 := b1.2.1; have b4 := b1.2.2.1; have b5 := zg_b hI2; omega) (by omega) (by omega) (zg_ws hI2 (zg_J.rf hk2) wk (fun z => absurd z (by omega))) (by omega)
        · refine zx_T.l (i := .aload_n 0) (k := 1) (v := .ref 44) (pc := 127) rfl rfl rfl ?_
          refine zx_T.l (i := .aload_n 0) (k := 1) (v := .ref 44) (pc := 128) rfl rfl rfl ?_
          refine zx_T.l (i := .iload_n 2) (k := 1) (v := .int (zI (p))) (pc := 129) rfl rfl rfl ?_
          refine zr_iv (cj := 175) (q' := zp_m175) (As := [.int (zI (p))]) (rest := [.ref 44]) (pc := 130) rfl rfl rfl rfl rfl rfl (Nat.le_of_ble_eq_true rfl) rfl (Nat.le_of_ble_eq_true rfl) hI2 ((zm_work (h := h2) hI2 (p := p) (by omega) (by omega) hk2 (hc.w hw rfl rfl) (ht.w hw rfl)).up (Nat.le_of_ble_eq_true rfl)) ?_
          rintro r56 h59 ⟨ih59, w60, v57, r56q, x58⟩
          subst r56q
          try dsimp only at x58
          have Jh59 := x58.1
          have wE := x58.2.2.2
          show zx_T zp_P 5 zp_m176 133 [(0, .ref 44), (2, .int (zI (p)))] [.int (zI (v57)), .ref 44] h59 _
          refine zr_pi (k := 14) (lo := (-2147483648)) (hi := 2147483647) (e := v57) (pc := 133) rfl rfl rfl rfl rfl rfl ih59 (by omega) (by omega) (fun h61 ih61 w62 e63 => ?_)
          refine zx_T.l (i := .aload_n 0) (k := 1) (v := .ref 44) (pc := 136) rfl rfl rfl ?_
          refine zr_gi (k := 14) (lo := (-2147483648)) (hi := 2147483647) (e := v57) (pc := 137) rfl rfl rfl ih61 e63 (fun g64a g64b => ?_)
          refine zr_i1 (x := v57) (t := 148) (pc := 140) rfl rfl (by omega) (by omega) (fun (c65 : v57 = 0) => ?_) (fun (c65 : ¬ (v57 = 0)) => ?_)
          · refine zr_inc (x := p) (n := 1) (y := p + 1) (ls' := [(2, .int (zI (p + 1))), (0, .ref 44)]) (pc := 148) rfl rfl rfl (by omega) rfl ?_
            refine zx_T.j (i := .goto (-41)) (k := 3) (pc' := 110) (st' := []) (pc := 151) rfl rfl rfl rfl rfl ?_
            have y66 : zv_i h61 13 = zv_i h2 13 := ((zv_wi w62 rfl).trans (zv_wi w60 rfl))
            have y67 : zv_i h61 15 = zv_i h2 15 := ((zv_wi w62 rfl).trans (zv_wi w60 rfl))
            have y68 : zv_i h61 27 = zv_i h59 27 := (zv_wi w62 rfl)
            have y69 : zv_i h61 19 = zv_i h2 19 := ((zv_wi w62 rfl).trans (zv_wi w60 rfl))
            have mb := zg_mu_b h2
            have mb2 := zg_mu_b h61
            have mj := (zg_J.tr (zg_b ih59) Jh59 (zg_J.fr Jh59.2.2.2.2.2 w62 rfl rfl rfl))
            have mk := And.intro mj.1 (And.intro mj.2.1 mj.2.2.1)
            have ml := zg_b hI2
            have mn := zg_b ih61
            refine zx_T.lk (ls' := [(0, .ref 44), (2, .int (zI (p + 1)))]) rfl ⟨rfl, rfl, trivial⟩ ?_
            exact ih.2.2.1 (h2 := h61) (p := p + 1) ih61 (by omega) (by omega) (((hw.wd rfl : zb_W [(44, 0), (44, 13), (44, 14), (44, 15), (44, 19), (54, 0), (44, 27), (56, 0), (55, 0), (63, 0), (44, 25), (61, 0), (62, 0), (44, 26), (57, 0), (58, 0), (59, 0), (60, 0)] h _).tr (w60.wd rfl)).tr (w62.wd rfl)) (Jh59.2.2.2.2.2.w w62 rfl) (by omega) (by have b1 := (zg_J.tr (zg_b ih59) Jh59 (zg_J.fr Jh59.2.2.2.2.2 w62 rfl rfl rfl)); have b2 := b1.1; have b3 := b1.2.1; have b4 := b1.2.2.1; have b5 := zg_b hI2; omega) (by omega) (by omega) (zg_ws hI2 (zg_J.tr (zg_b ih59) Jh59 (zg_J.fr Jh59.2.2.2.2.2 w62 rfl rfl rfl)) wk (fun z => ((wE (by omega)).ba hw rfl).fr w62 rfl)) (by omega)
          · refine zx_T.s (i := .bipush (-10)) (k := 2) (st' := [.int (zI ((-10)))]) (pc := 143) rfl rfl ?_
            refine zx_T.l (i := .iload_n 2) (k := 1) (v := .int (zI (p))) (pc := 145) rfl rfl rfl ?_
            refine zr_sub (x := (-10)) (y := p) (e := (-1) * p - 10) (pc := 146) rfl (by omega) ?_
            have y70 : zv_i h61 13 = zv_i h2 13 := ((zv_wi w62 rfl).trans (zv_wi w60 rfl))
            exact zr_ir (x := (-1) * p - 10) (pc := 147) rfl rfl rfl ⟨ih61, (((hw.wd rfl : zb_W [(44, 0), (44, 13), (44, 14), (44, 15), (44, 19), (54, 0), (44, 27), (56, 0), (55, 0), (63, 0), (44, 25), (61, 0), (62, 0), (44, 26), (57, 0), (58, 0), (59, 0), (60, 0)] h _).tr (w60.wd rfl)).tr (w62.wd rfl)), _, rfl, by dsimp only; exact ⟨(Jh59.2.2.2.2.2.w w62 rfl), fun z => absurd z (by omega)⟩⟩
    · intro h2 p hI2 p1 p2 hw hk2 fl wk fr hm
      have hC := zv_ri hI (k := 1) rfl
      refine zx_T.l (i := .iload_n 2) (k := 1) (v := .int (zI (p))) (pc := 164) rfl rfl rfl ?_
      refine zx_T.l (i := .aload_n 0) (k := 1) (v := .ref 44) (pc := 165) rfl rfl rfl ?_
      refine zr_gi (k := 1) (lo := 0) (hi := 60) (e := zv_i h 1) (pc := 166) rfl rfl rfl hI2 (zv_wi hw rfl) (fun g71a g71b => ?_)
      refine zr_i2 (x := p) (y := zv_i h 1) (t := 200) (pc := 169) rfl rfl (by omega) (by omega) (by omega) (by omega) (fun (c72 : (zv_i h 1) ≤ p) => ?_) (fun (c72 : ¬ ((zv_i h 1) ≤ p)) => ?_)
      · refine zx_T.l (i := .aload_n 0) (k := 1) (v := .ref 44) (pc := 200) rfl rfl rfl ?_
        refine zr_gi (k := 19) (lo := 0) (hi := 60) (e := zv_i h2 19) (pc := 201) rfl rfl rfl hI2 rfl (fun g73a g73b => ?_)
        exact zr_ir (x := zv_i h2 19) (pc := 204) rfl rfl rfl ⟨hI2, (hw.wd rfl : zb_W [(44, 0), (44, 13), (44, 14), (44, 15), (44, 19), (54, 0), (44, 27), (56, 0), (55, 0), (63, 0), (44, 25), (61, 0), (62, 0), (44, 26), (57, 0), (58, 0), (59, 0), (60, 0)] h _), _, rfl, by dsimp only; exact ⟨hk2, fun z => zg_mkC hI hw rfl wk (fun q q0 q1 => fr q q0 (by omega))⟩⟩
      · refine zx_T.l (i := .aload_n 0) (k := 1) (v := .ref 44) (pc := 172) rfl rfl rfl ?_
        refine zr_gr (k := 16) (b := 54) (pc := 173) rfl rfl rfl hI2 ?_
        refine zx_T.l (i := .iload_n 2) (k := 1) (v := .int (zI (p))) (pc := 176) rfl rfl rfl ?_
        refine zr_bl (n := 60) (lo := 0) (hi := 1) (e := zv_a h2 54 p) (pc := 177) rfl rfl rfl hI2 (by omega) (by omega) rfl (fun g75a g75b => ?_)
        refine zr_i1 (x := zv_a h2 54 p) (t := 194) (pc := 178) rfl rfl (by omega) (by omega) (fun (c76 : (zv_a h2 54 p) = 0) => ?_) (fun (c76 : ¬ ((zv_a h2 54 p) = 0)) => ?_)
        · refine zr_inc (x := p) (n := 1) (y := p + 1) (ls' := [(2, .int (zI (p + 1))), (0, .ref 44)]) (pc := 194) rfl rfl rfl (by omega) rfl ?_
          refine zx_T.j (i := .goto (-33)) (k := 3) (pc' := 164) (st' := []) (pc := 197) rfl rfl rfl rfl rfl ?_
          refine zx_T.lk (ls' := [(0, .ref 44), (2, .int (zI (p + 1)))]) rfl ⟨rfl, rfl, trivial⟩ ?_
          exact ih.2.2.2 (h2 := h2) (p := p + 1) hI2 (by omega) (by omega) (hw.wd rfl : zb_W [(44, 0), (44, 13), (44, 14), (44, 15), (44, 19), (54, 0), (44, 27), (56, 0), (55, 0), (63, 0), (44, 25), (61, 0), (62, 0), (44, 26), (57, 0), (58, 0), (59, 0), (60, 0)] h _) hk2 (by omega) wk (zg_frs fr (zb_W.rf (W := [])) rfl rfl (fun q z => z) (fun z1 z2 => by first | omega | (rcases iF with z9 | z9; (exfalso; omega); exact absurd z2 z9.2.1))) (by omega)
        · refine zx_T.l (i := .aload_n 0) (k := 1) (v := .ref 44) (pc := 181) rfl rfl rfl ?_
          refine zx_T.l (i := .iload_n 2) (k := 1) (v := .int (zI (p))) (pc := 182) rfl rfl rfl ?_
          refine zr_iv (cj := 177) (q' := zp_m177) (As := [.int (zI (p))]) (rest := []) (pc := 183) rfl rfl rfl rfl rfl rfl (Nat.le_of_ble_eq_true rfl) rfl (Nat.le_of_ble_eq_true rfl) hI2 ((zm_isFrame (h := h2) hI2 (p := p) (by omega) (by omega)).up (Nat.le_of_ble_eq_true rfl)) ?_
          rintro r78 h81 ⟨h81q, v79, r78q, x80⟩
          subst h81q r78q
          try dsimp only at x80
          have iF := x80
          show zx_T zp_P 5 zp_m176 186 [(0, .ref 44), (2, .int (zI (p)))] [.int (zI (v79))] h2 _
          refine zr_i1 (x := v79) (t := 194) (pc := 186) rfl rfl (by omega) (by omega) (fun (c82 : v79 = 0) => ?_) (fun (c82 : ¬ (v79 = 0)) => ?_)
          · refine zr_inc (x := p) (n := 1) (y := p + 1) (ls' := [(2, .int (zI (p + 1))), (0, .ref 44)]) (pc := 194) rfl rfl rfl (by omega) rfl ?_
            refine zx_T.j (i := .goto (-33)) (k := 3) (pc' := 164) (st' := []) (pc := 197) rfl rfl rfl rfl rfl ?_
            refine zx_T.lk (ls' := [(0, .ref 44), (2, .int (zI (p + 1)))]) rfl ⟨rfl, rfl, trivial⟩ ?_
            exact ih.2.2.2 (h2 := h2) (p := p + 1) hI2 (by omega) (by omega) (hw.wd rfl : zb_W [(44, 0), (44, 13), (44, 14), (44, 15), (44, 19), (54, 0), (44, 27), (56, 0), (55, 0), (63, 0), (44, 25), (61, 0), (62, 0), (44, 26), (57, 0), (58, 0), (59, 0), (60, 0)] h _) hk2 (by omega) wk (zg_frs fr (zb_W.rf (W := [])) rfl rfl (fun q z => z) (fun z1 z2 => by first | omega | (rcases iF with z9 | z9; (exfalso; omega); exact absurd z2 z9.2.1))) (by omega)
          · refine zx_T.l (i := .aload_n 0) (k := 1) (v := .ref 44) (pc := 189) rfl rfl rfl ?_
            refine zx_T.l (i := .iload_n 2) (k := 1) (v := .int (zI (p))) (pc := 190) rfl rfl rfl ?_
            refine zr_iv (cj := 178) (q' := zp_m178) (As := [.int (zI (p))]) (rest := []) (pc := 191) rfl rfl rfl rfl rfl rfl (Nat.le_of_ble_eq_true rfl) rfl (Nat.le_of_ble_eq_true rfl) hI2 ((zm_keep (h := h2) hI2 (p := p) (by omega) (by omega) (by omega)).up (Nat.le_of_ble_eq_true rfl)) ?_
            rintro r84 h87 ⟨ih87, w88, r84q, x86⟩
            subst r84q
            try dsimp only at x86
            have kp := x86
            show zx_T zp_P 5 zp_m176 194 [(0, .ref 44), (2, .int (zI (p)))] [] h87 _
            refine zr_inc (x := p) (n := 1) (y := p + 1) (ls' := [(2, .int (zI (p + 1))), (0, .ref 44)]) (pc := 194) rfl rfl rfl (by omega) rfl ?_
            refine zx_T.j (i := .goto (-33)) (k := 3) (pc' := 164) (st' := []) (pc := 197) rfl rfl rfl rfl rfl ?_
            refine zx_T.lk (ls' := [(0, .ref 44), (2, .int (zI (p + 1)))]) rfl ⟨rfl, rfl, trivial⟩ ?_
            exact ih.2.2.2 (h2 := h87) (p := p + 1) ih87 (by omega) (by omega) ((hw.wd rfl : zb_W [(44, 0), (44, 13), (44, 14), (44, 15), (44, 19), (54, 0), (44, 27), (56, 0), (55, 0), (63, 0), (44, 25), (61, 0), (62, 0), (44, 26), (57, 0), (58, 0), (59, 0), (60, 0)] h _).tr (w88.wd rfl)) (hk2.w w88 rfl) (by omega) (fun q q0 q1 q2 => by rw [zv_wa w88 (a := 54) rfl] at q2; exact (wk q q0 q1 q2).fr w88 rfl) (zg_frs fr (w88.wd rfl : zb_W [(44, 25), (61, 0), (57, 0), (58, 0), (59, 0), (60, 0), (44, 19)] h2 _) rfl rfl (zg_kpu hI2 kp).1 (fun _ _ => (zg_kpu hI2 kp).2)) (by omega)
set_option maxRecDepth 100000 in
set_option maxHeartbeats 4000000 in
theorem zm_make {h : zx_H} (hI : zb_I zc_H h)  (hk : zg_KI h) (hc : zg_CI h) (ht : zg_TI h) : zx_T zp_P 5 zp_m176 0 [(0, .ref 44)] [] h (zr_R [(44, 0), (44, 13), (44, 14), (44, 15), (44, 19), (54, 0), (44, 27), (56, 0), (55, 0), (63, 0), (44, 25), (61, 0), (62, 0), (44, 26), (57, 0), (58, 0), (59, 0), (60, 0)] h (fun e h' => zg_KI h' ∧ (zv_i h' 13 = 1 → zg_C h'))) := by
  have hC := zv_ri hI (k := 1) rfl
  refine zx_T.l (i := .aload_n 0) (k := 1) (v := .ref 44) (pc := 0) rfl rfl rfl ?_
  refine zx_T.s (i := .iconst 0) (k := 1) (st' := [.int (zI (0)), .ref 44]) (pc := 1) rfl rfl ?_
  refine zr_pi (k := 0) (lo := (-2147483648)) (hi := 2147483647) (e := 0) (pc := 2) rfl rfl rfl rfl rfl rfl hI (by omega) (by omega) (fun h90 ih90 w91 e92 => ?_)
  refine zx_T.l (i := .aload_n 0) (k := 1) (v := .ref 44) (pc := 5) rfl rfl rfl ?_
  refine zx_T.s (i := .iconst 0) (k := 1) (st' := [.int (zI (0)), .ref 44]) (pc := 6) rfl rfl ?_
  refine zr_pi (k := 13) (lo := 0) (hi := 1) (e := 0) (pc := 7) rfl rfl rfl rfl rfl rfl ih90 (by omega) (by omega) (fun h93 ih93 w94 e95 => ?_)
  refine zx_T.l (i := .aload_n 0) (k := 1) (v := .ref 44) (pc := 10) rfl rfl rfl ?_
  refine zx_T.s (i := .iconst 0) (k := 1) (st' := [.int (zI (0)), .ref 44]) (pc := 11) rfl rfl ?_
  refine zr_pi (k := 14) (lo := (-2147483648)) (hi := 2147483647) (e := 0) (pc := 12) rfl rfl rfl rfl rfl rfl ih93 (by omega) (by omega) (fun h96 ih96 w97 e98 => ?_)
  refine zx_T.l (i := .aload_n 0) (k := 1) (v := .ref 44) (pc := 15) rfl rfl rfl ?_
  refine zx_T.s (i := .iconst 0) (k := 1) (st' := [.int (zI (0)), .ref 44]) (pc := 16) rfl rfl ?_
  refine zr_pi (k := 15) (lo := (-2147483648)) (hi := 2147483647) (e := 0) (pc := 17) rfl rfl rfl rfl rfl rfl ih96 (by omega) (by omega) (fun h99 ih99 w100 e101 => ?_)
  refine zx_T.l (i := .aload_n 0) (k := 1) (v := .ref 44) (pc := 20) rfl rfl rfl ?_
  refine zx_T.s (i := .iconst 0) (k := 1) (st' := [.int (zI (0)), .ref 44]) (pc := 21) rfl rfl ?_
  refine zr_pi (k := 19) (lo := 0) (hi := 60) (e := 0) (pc := 22) rfl rfl rfl rfl rfl rfl ih99 (by omega) (by omega) (fun h102 ih102 w103 e104 => ?_)
  refine zx_T.l (i := .aload_n 0) (k := 1) (v := .ref 44) (pc := 25) rfl rfl rfl ?_
  refine zr_gi (k := 1) (lo := 0) (hi := 60) (e := zv_i h 1) (pc := 26) rfl rfl rfl ih102 ((zv_wi w103 rfl).trans ((zv_wi w100 rfl).trans ((zv_wi w97 rfl).trans ((zv_wi w94 rfl).trans (zv_wi w91 rfl))))) (fun g105a g105b => ?_)
  refine zr_i1 (x := zv_i h 1) (t := 41) (pc := 29) rfl rfl (by omega) (by omega) (fun (c106 : ¬ (zv_i h 1) = 0) => ?_) (fun (c106 : ¬ (¬ (zv_i h 1) = 0)) => ?_)
  · refine zx_T.s (i := .iconst 0) (k := 1) (st' := [.int (zI (0))]) (pc := 41) rfl rfl ?_
    refine zx_T.t (i := .istore_n 1) (k := 1) (ls' := [(1, .int (zI (0))), (0, .ref 44)]) (st' := []) (pc := 42) rfl rfl rfl rfl ?_
    have y107 : zv_i h102 13 = 0 := ((zv_wi w103 rfl).trans ((zv_wi w100 rfl).trans ((zv_wi w97 rfl).trans e95)))
    have y108 : zv_i h102 15 = 0 := ((zv_wi w103 rfl).trans e101)
    have y109 : zv_i h102 19 = 0 := e104
    refine zx_T.lk (ls' := [(0, .ref 44), (1, .int (zI (0)))]) rfl ⟨rfl, rfl, trivial⟩ ?_
    exact (zm_make_L (h := h) hI  hk hc ht ((1000000 + 100 - 0 : Int).toNat + 1)).1 (h2 := h102) (p := 0) ih102 (by omega) (by omega) (((((w91.wd rfl : zb_W [(44, 0), (44, 13), (44, 14), (44, 15), (44, 19), (54, 0), (44, 27), (56, 0), (55, 0), (63, 0), (44, 25), (61, 0), (62, 0), (44, 26), (57, 0), (58, 0), (59, 0), (60, 0)] h _).tr (w94.wd rfl)).tr (w97.wd rfl)).tr (w100.wd rfl)).tr (w103.wd rfl)) (((((hk.w w91 rfl).w w94 rfl).w w97 rfl).w w100 rfl).w w103 rfl) (by omega) (by omega) (by omega) (by omega) (Nat.lt_succ_self _)
  · refine zx_T.l (i := .aload_n 0) (k := 1) (v := .ref 44) (pc := 32) rfl rfl rfl ?_
    refine zx_T.s (i := .bipush 6) (k := 2) (st' := [.int (zI (6)), .ref 44]) (pc := 33) rfl rfl ?_
    refine zr_pi (k := 14) (lo := (-2147483648)) (hi := 2147483647) (e := 6) (pc := 35) rfl rfl rfl rfl rfl rfl ih102 (by omega) (by omega) (fun h110 ih110 w111 e112 => ?_)
    refine zx_T.s (i := .bipush (-9)) (k := 2) (st' := [.int (zI ((-9)))]) (pc := 38) rfl rfl ?_
    have y113 : zv_i h110 13 = 0 := ((zv_wi w111 rfl).trans ((zv_wi w103 rfl).trans ((zv_wi w100 rfl).trans ((zv_wi w97 rfl).trans e95))))
    exact zr_ir (x := (-9)) (pc := 40) rfl rfl rfl ⟨ih110, ((((((w91.wd rfl : zb_W [(44, 0), (44, 13), (44, 14), (44, 15), (44, 19), (54, 0), (44, 27), (56, 0), (55, 0), (63, 0), (44, 25), (61, 0), (62, 0), (44, 26), (57, 0), (58, 0), (59, 0), (60, 0)] h _).tr (w94.wd rfl)).tr (w97.wd rfl)).tr (w100.wd rfl)).tr (w103.wd rfl)).tr (w111.wd rfl)), _, rfl, by dsimp only; exact ⟨((((((hk.w w91 rfl).w w94 rfl).w w97 rfl).w w100 rfl).w w103 rfl).w w111 rfl), fun z => absurd z (by omega)⟩⟩
