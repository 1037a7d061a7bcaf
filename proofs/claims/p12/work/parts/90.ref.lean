/-! ===== 90: the reference, method by method (by program) ===== -/
set_option maxRecDepth 100000 in
set_option maxHeartbeats 8000000 in
theorem zm_workF_L {h : zx_H} (hI : zb_I zc_H h) {p : Int} (p1 : 0 ≤ p) (p2 : p ≤ 59) (s : zS) (hA : zr_A h s) (hO : zs_ok (zr_Pg h) s) (hR : s.R p) (hP : zP.ok (zr_Pg h)) (hk : zg_KI h) (hc : zg_CI h) (n : Nat) : (∀ {h2 : zx_H} {t : Int} (hI2 : zb_I zc_H h2) (t1 : 0 ≤ t) (t2 : t ≤ zv_i h 5) (hw : zb_W [(54, 0), (44, 27), (56, 0), (55, 0), (63, 0), (44, 25), (61, 0), (62, 0), (44, 26)] h h2) (s2 : zS) (hA2 : zr_A h2 s2) (hO2 : zs_ok (zr_Pg h) s2) (hR2 : s2.R p) (hk2 : zg_KI h2) (nw : ∀ j, 0 ≤ j → j < 8 → zv_a h2 61 j = s2.K p j) (hq : zs_hs (zr_Pg h) p (zv_i h 5).toNat s = zs_hs (zr_Pg h) p (zv_i h 5 - t).toNat s2), (1000 - 20 * t : Int).toNat < n → zx_T zp_P 4 zp_m175 7 [(0, .ref 44), (1, .int (zI (p))), (2, .int (zI (t)))] [] h2 (zr_R [(54, 0), (44, 27), (56, 0), (55, 0), (63, 0), (44, 25), (61, 0), (62, 0), (44, 26)] h (fun e h' => 0 ≤ e ∧ e ≤ 7 ∧ e = (zs_work (zr_Pg h) p s).1 ∧ zr_A h' (zs_work (zr_Pg h) p s).2 ∧ zg_KI h'))) ∧ (∀ {h2 : zx_H} {t : Int} {k : Int} (hI2 : zb_I zc_H h2) (t1 : 0 ≤ t) (t2 : t < zv_i h 5) (k1 : 0 ≤ k) (k2 : k ≤ 8) (hx : zv_a h 48 t ≤ p ∧ p < zv_a h 49 t) (hw : zb_W [(54, 0), (44, 27), (56, 0), (55, 0), (63, 0), (44, 25), (61, 0), (62, 0), (44, 26)] h h2) (s2 : zS) (hA2 : zr_A h2 s2) (hO2 : zs_ok (zr_Pg h) s2) (hR2 : s2.R p) (hk2 : zg_KI h2) (nw : ∀ j, 0 ≤ j → j < 8 → zv_a h2 61 j = s2.K p j) (hq : zs_hs (zr_Pg h) p (zv_i h 5).toNat s = zs_hs (zr_Pg h) p (zv_i h 5 - t).toNat s2) (am : ∀ j, 0 ≤ j → j < k → zv_a h2 62 j = s2.K p j), (999 - 20 * t - k : Int).toNat < n → zx_T zp_P 4 zp_m175 26 [(0, .ref 44), (1, .int (zI (p))), (2, .int (zI (t))), (3, .int (zI (k)))] [] h2 (zr_R [(54, 0), (44, 27), (56, 0), (55, 0), (63, 0), (44, 25), (61, 0), (62, 0), (44, 26)] h (fun e h' => 0 ≤ e ∧ e ≤ 7 ∧ e = (zs_work (zr_Pg h) p s).1 ∧ zr_A h' (zs_work (zr_Pg h) p s).2 ∧ zg_KI h'))) ∧ (∀ {h2 : zx_H} {f : Int} {k : Int} (hI2 : zb_I zc_H h2) (f1 : 0 ≤ f) (f2 : f ≤ 7) (k1 : 0 ≤ k) (k2 : k ≤ 2) (kj : k ≤ zs_js (zr_Pg h) p) (hw : zb_W [(54, 0), (44, 27), (56, 0), (55, 0), (63, 0), (44, 25), (61, 0), (62, 0), (44, 26)] h h2) (s1 : zS) (h1 : zs_hs (zr_Pg h) p (zv_i h 5).toNat s = (0, s1)) (xo : zw_ok (zs_x (zr_Pg h) p s1)) (s2 : zS) (hA2 : zr_A h2 s2) (hO2 : zs_ok (zr_Pg h) s2) (hR2 : s2.R p) (hk2 : zg_KI h2) (hq : (f, s2) = zs_wk (zr_Pg h) p (zs_x (zr_Pg h) p s1) s1 k) (xk : ¬ (zs_x (zr_Pg h) p s1).1 = 0 → k = 0) (xa : (zs_x (zr_Pg h) p s1).1 = 0 → zv_i h2 25 = (zs_x (zr_Pg h) p s1).2.1 ∧ ∀ j, 0 ≤ j → j < (zs_x (zr_Pg h) p s1).2.1 + 8 → zv_a h2 61 j = (zs_x (zr_Pg h) p s1).2.2 j), (10 - k : Int).toNat < n → zx_T zp_P 4 zp_m175 104 [(0, .ref 44), (1, .int (zI (p))), (2, .int (zI (f))), (3, .int (zI (k)))] [] h2 (zr_R [(54, 0), (44, 27), (56, 0), (55, 0), (63, 0), (44, 25), (61, 0), (62, 0), (44, 26)] h (fun e h' => 0 ≤ e ∧ e ≤ 7 ∧ e = (zs_work (zr_Pg h) p s).1 ∧ zr_A h' (zs_work (zr_Pg h) p s).2 ∧ zg_KI h'))) := by
  induction n with
  | zero => exact ⟨fun _ _ _ _ _ _ _ _ _ _ _ hm => absurd hm (Nat.not_lt_zero _), fun _ _ _ _ _ _ _ _ _ _ _ _ _ _ _ hm => absurd hm (Nat.not_lt_zero _), fun _ _ _ _ _ _ _ _ _ _ _ _ _ _ _ _ _ _ hm => absurd hm (Nat.not_lt_zero _)⟩
  | succ n ih =>
    refine ⟨?_, ?_, ?_⟩
    · intro h2 t hI2 t1 t2 hw s2 hA2 hO2 hR2 hk2 nw hq hm
      have hC := zv_ri hI (k := 1) rfl
      have hH := zv_ri hI (k := 5) rfl
      refine zx_T.l (i := .iload_n 2) (k := 1) (v := .int (zI (t))) (pc := 7) rfl rfl rfl ?_
      refine zx_T.l (i := .aload_n 0) (k := 1) (v := .ref 44) (pc := 8) rfl rfl rfl ?_
      refine zr_gi (k := 5) (lo := 0) (hi := 6) (e := zv_i h 5) (pc := 9) rfl rfl rfl hI2 (zv_wi hw rfl) (fun g1a g1b => ?_)
      refine zr_i2 (x := t) (y := zv_i h 5) (t := 91) (pc := 12) rfl rfl (by omega) (by omega) (by omega) (by omega) (fun (c2 : (zv_i h 5) ≤ t) => ?_) (fun (c2 : ¬ ((zv_i h 5) ≤ t)) => ?_)
      · refine zx_T.l (i := .aload_n 0) (k := 1) (v := .ref 44) (pc := 91) rfl rfl rfl ?_
        refine zx_T.l (i := .iload_n 1) (k := 1) (v := .int (zI (p))) (pc := 92) rfl rfl rfl ?_
        refine zr_iv (cj := 173) (q' := zp_m173) (As := [.int (zI (p))]) (rest := []) (pc := 93) rfl rfl rfl rfl rfl rfl (Nat.le_of_ble_eq_true rfl) rfl (Nat.le_of_ble_eq_true rfl) hI2 ((zm_lay (h := h2) hI2 (p := p) (by omega) (by omega)).up (Nat.le_of_ble_eq_true rfl)) ?_
        rintro r3 h6 ⟨ih6, w7, r3q, x5⟩
        subst r3q
        try dsimp only at x5
        have yj := x5.2
        have ys := x5.1
        show zx_T zp_P 4 zp_m175 96 [(0, .ref 44), (1, .int (zI (p))), (2, .int (zI (t)))] [] h6 _
        refine zx_T.l (i := .aload_n 0) (k := 1) (v := .ref 44) (pc := 96) rfl rfl rfl ?_
        refine zx_T.l (i := .iload_n 1) (k := 1) (v := .int (zI (p))) (pc := 97) rfl rfl rfl ?_
        refine zr_iv (cj := 167) (q' := zp_m167) (As := [.int (zI (p))]) (rest := []) (pc := 98) rfl rfl rfl rfl rfl rfl (Nat.le_of_ble_eq_true rfl) rfl (Nat.le_of_ble_eq_true rfl) ih6 ((zm_doesF (h := h6) ih6 (p := p) (by omega) (by omega) (by have b1 := yj 8 (by omega) (by omega); have b2 := hk2 p (by omega) (by omega); omega) ((hc.w ((hw.wd rfl : zb_W [(54, 0), (44, 27), (56, 0), (55, 0), (63, 0), (44, 25), (61, 0), (62, 0), (44, 26)] h _).tr (w7.wd rfl)) rfl rfl) p (by omega) (by omega))).up (Nat.le_of_ble_eq_true rfl)) ?_
        rintro r9 h12 ⟨ih12, w13, v10, r9q, x11⟩
        subst r9q
        try dsimp only at x11
        have xg := zr_does (P := zr_Pg h) hP hO2 hR2 hA2 ys yj (by rw [zv_wa ((hw.wd rfl : zb_W [(54, 0), (44, 27), (56, 0), (55, 0), (63, 0), (44, 25), (61, 0), (62, 0), (44, 26)] h _).tr (w7.wd rfl)) rfl, zv_wa ((hw.wd rfl : zb_W [(54, 0), (44, 27), (56, 0), (55, 0), (63, 0), (44, 25), (61, 0), (62, 0), (44, 26)] h _).tr (w7.wd rfl)) rfl] at x11; exact x11); have rg := zv_ri ih12 (k := 26) rfl; have rg2 := x11.1
        show zx_T zp_P 4 zp_m175 101 [(0, .ref 44), (1, .int (zI (p))), (2, .int (zI (t)))] [.int (zI (v10))] h12 _
        refine zx_T.t (i := .istore_n 2) (k := 1) (ls' := [(2, .int (zI (v10))), (0, .ref 44), (1, .int (zI (p)))]) (st' := []) (pc := 101) rfl rfl rfl rfl ?_
        refine zx_T.s (i := .iconst 0) (k := 1) (st' := [.int (zI (0))]) (pc := 102) rfl rfl ?_
        refine zx_T.t (i := .istore_n 3) (k := 1) (ls' := [(3, .int (zI (0))), (2, .int (zI (v10))), (0, .ref 44), (1, .int (zI (p)))]) (st' := []) (pc := 103) rfl rfl rfl rfl ?_
        refine zx_T.lk (ls' := [(0, .ref 44), (1, .int (zI (p))), (2, .int (zI (v10))), (3, .int (zI (0)))]) rfl ⟨rfl, rfl, rfl, rfl, trivial⟩ ?_
        exact ih.2.2 (h2 := h12) (f := v10) (k := 0) ih12 (by omega) (by omega) (by omega) (by omega) zs_js_0.1 (((hw.wd rfl : zb_W [(54, 0), (44, 27), (56, 0), (55, 0), (63, 0), (44, 25), (61, 0), (62, 0), (44, 26)] h _).tr (w7.wd rfl)).tr (w13.wd rfl)) s2 (by rw [hq, show (zv_i h 5 - t).toNat = 0 by omega]; rfl) (zs_x_ok hP hO2 hR2) s2 (zr_A_w ((w7.wd rfl : zb_W [(44, 25), (61, 0), (62, 0), (44, 26)] h2 _).tr (w13.wd rfl)) hA2) hO2 hR2 (hk2.w ((w7.wd rfl : zb_W [(44, 25), (61, 0), (62, 0), (44, 26)] h2 _).tr (w13.wd rfl)) rfl) (by have z := xg.1; dsimp only at z; show (_, s2) = ((zs_x (zr_Pg h) p s2).1, s2); rw [z]) (fun _ => rfl) (fun _ => ⟨xg.2.1, fun j j0 j1 => xg.2.2 j j0 (by rw [xg.2.1]; exact j1)⟩) (by omega)
      · refine zx_T.l (i := .aload_n 0) (k := 1) (v := .ref 44) (pc := 15) rfl rfl rfl ?_
        refine zx_T.l (i := .iload_n 2) (k := 1) (v := .int (zI (t))) (pc := 16) rfl rfl rfl ?_
        refine zx_T.l (i := .iload_n 1) (k := 1) (v := .int (zI (p))) (pc := 17) rfl rfl rfl ?_
        refine zr_iv (cj := 171) (q' := zp_m171) (As := [.int (zI (t)), .int (zI (p))]) (rest := []) (pc := 18) rfl rfl rfl rfl rfl rfl (Nat.le_of_ble_eq_true rfl) rfl (Nat.le_of_ble_eq_true rfl) hI2 ((zm_has (h := h2) hI2 (t := t) (p := p) (by omega) (by omega) (by omega) (by omega)).up (Nat.le_of_ble_eq_true rfl)) ?_
        rintro r14 h17 ⟨h17q, v15, r14q, x16⟩
        subst h17q r14q
        try dsimp only at x16
        have hx := x16
        simp only [zv_wa hw (a := 48) rfl, zv_wa hw (a := 49) rfl] at hx
        show zx_T zp_P 4 zp_m175 21 [(0, .ref 44), (1, .int (zI (p))), (2, .int (zI (t)))] [.int (zI (v15))] h2 _
        refine zr_i1 (x := v15) (t := 85) (pc := 21) rfl rfl (by omega) (by omega) (fun (c18 : v15 = 0) => ?_) (fun (c18 : ¬ (v15 = 0)) => ?_)
        · refine zr_inc (x := t) (n := 1) (y := t + 1) (ls' := [(2, .int (zI (t + 1))), (0, .ref 44), (1, .int (zI (p)))]) (pc := 85) rfl rfl rfl (by omega) rfl ?_
          refine zx_T.j (i := .goto (-81)) (k := 3) (pc' := 7) (st' := []) (pc := 88) rfl rfl rfl rfl rfl ?_
          refine zx_T.lk (ls' := [(0, .ref 44), (1, .int (zI (p))), (2, .int (zI (t + 1)))]) rfl ⟨rfl, rfl, rfl, trivial⟩ ?_
          exact ih.1 (h2 := h2) (t := t + 1) hI2 (by omega) (by omega) (hw.wd rfl : zb_W [(54, 0), (44, 27), (56, 0), (55, 0), (63, 0), (44, 25), (61, 0), (62, 0), (44, 26)] h _) s2 hA2 hO2 hR2 hk2 nw (hq.trans ((zs_hs_s (P := zr_Pg h) (p := p) (s := s2) (by show t < zv_i h 5; omega)).trans (if_neg (fun z => by have z1 : zv_a h 48 t ≤ p ∧ p < zv_a h 49 t := z; omega)))) (by omega)
        · refine zx_T.s (i := .iconst 0) (k := 1) (st' := [.int (zI (0))]) (pc := 24) rfl rfl ?_
          refine zx_T.t (i := .istore_n 3) (k := 1) (ls' := [(3, .int (zI (0))), (0, .ref 44), (1, .int (zI (p))), (2, .int (zI (t)))]) (st' := []) (pc := 25) rfl rfl rfl rfl ?_
          have a62 : ∀ j, 0 ≤ j → zv_a h2 62 j = zv_a h2 62 j := fun j hj => rfl
          refine zx_T.lk (ls' := [(0, .ref 44), (1, .int (zI (p))), (2, .int (zI (t))), (3, .int (zI (0)))]) rfl ⟨rfl, rfl, rfl, rfl, trivial⟩ ?_
          exact ih.2.1 (h2 := h2) (t := t) (k := 0) hI2 (by omega) (by omega) (by omega) (by omega) (by omega) (hw.wd rfl : zb_W [(54, 0), (44, 27), (56, 0), (55, 0), (63, 0), (44, 25), (61, 0), (62, 0), (44, 26)] h _) s2 hA2 hO2 hR2 hk2 nw hq (fun j j0 j1 => absurd j1 (by omega)) (by omega)
    · intro h2 t k hI2 t1 t2 k1 k2 hx hw s2 hA2 hO2 hR2 hk2 nw hq am hm
      have hC := zv_ri hI (k := 1) rfl
      have hH := zv_ri hI (k := 5) rfl
      refine zx_T.l (i := .iload_n 3) (k := 1) (v := .int (zI (k))) (pc := 26) rfl rfl rfl ?_
      refine zx_T.s (i := .bipush 8) (k := 2) (st' := [.int (zI (8)), .int (zI (k))]) (pc := 27) rfl rfl ?_
      refine zr_i2 (x := k) (y := 8) (t := 50) (pc := 29) rfl rfl (by omega) (by omega) (by omega) (by omega) (fun (c20 : 8 ≤ k) => ?_) (fun (c20 : ¬ (8 ≤ k)) => ?_)
      · refine zx_T.l (i := .aload_n 0) (k := 1) (v := .ref 44) (pc := 50) rfl rfl rfl ?_
        refine zr_gr (k := 28) (b := 62) (pc := 51) rfl rfl rfl hI2 ?_
        refine zx_T.s (i := .bipush 8) (k := 2) (st' := [.int (zI (8)), .ref 62]) (pc := 54) rfl rfl ?_
        refine zx_T.l (i := .aload_n 0) (k := 1) (v := .ref 44) (pc := 56) rfl rfl rfl ?_
        refine zr_gr (k := 9) (b := 51) (pc := 57) rfl rfl rfl hI2 ?_
        refine zx_T.l (i := .iload_n 2) (k := 1) (v := .int (zI (t))) (pc := 60) rfl rfl rfl ?_
        refine zr_al (n := 6) (lo := 0) (hi := 8) (e := zv_a h 51 t) (pc := 61) rfl rfl rfl hI2 (by omega) (by omega) (zv_wa hw rfl t) (fun g21a g21b => ?_)
        refine zr_as (n := 14) (lo := 0) (hi := 8) (e := zv_a h 51 t) (pc := 62) rfl rfl rfl rfl hI2 (by omega) (by omega) (by omega) (by omega) (fun h22 ih22 w23 s24 => ?_)
        have rw9 : ∀ j, 0 ≤ j → j < 8 + 1 → zv_a h22 62 j = zs_arm s2 p (zv_a h 51 t) j := fun j hj j1 => by rw [s24 j hj]; unfold zs_arm; by_cases z : j = 8; rw [if_pos z, if_pos z]; rw [if_neg z, if_neg z]; exact am j hj (by omega)
        have hPx : zr_Pg h22 = zr_Pg h := zr_Pg_w ((hw.wd rfl : zb_W [(54, 0), (44, 27), (56, 0), (55, 0), (63, 0), (44, 25), (61, 0), (62, 0), (44, 26)] h _).tr (w23.wd rfl))
        have hO3 : zs_ok (zr_Pg h22) s2 := by rw [hPx]; exact hO2
        have hA3 := zr_A_w (w23.wd rfl : zb_W [(44, 25), (61, 0), (62, 0), (44, 26)] h2 _) hA2
        have hK3 := hk2.w (w23.wd rfl : zb_W [(44, 25), (61, 0), (62, 0), (44, 26)] h2 _) rfl
        have wa9 := zw_arm (hO2.1 p hR2) (hP.2.1 t (by omega) (by show t < zv_i h 5; omega))
        refine zx_T.l (i := .aload_n 0) (k := 1) (v := .ref 44) (pc := 63) rfl rfl rfl ?_
        refine zx_T.l (i := .aload_n 0) (k := 1) (v := .ref 44) (pc := 64) rfl rfl rfl ?_
        refine zr_gr (k := 8) (b := 50) (pc := 65) rfl rfl rfl ih22 ?_
        refine zx_T.l (i := .iload_n 2) (k := 1) (v := .int (zI (t))) (pc := 68) rfl rfl rfl ?_
        refine zr_al (n := 6) (lo := 0) (hi := 60) (e := zv_a h 50 t) (pc := 69) rfl rfl rfl ih22 (by omega) (by omega) ((zv_wa w23 rfl t).trans (zv_wa hw rfl t)) (fun g25a g25b => ?_)
        refine zx_T.l (i := .aload_n 0) (k := 1) (v := .ref 44) (pc := 70) rfl rfl rfl ?_
        refine zr_gr (k := 28) (b := 62) (pc := 71) rfl rfl rfl ih22 ?_
        refine zx_T.s (i := .iconst 1) (k := 1) (st' := [.int (zI (1)), .ref 62, .int (zI (zv_a h 50 t)), .ref 44]) (pc := 74) rfl rfl ?_
        have y26 : zv_i h22 1 = zv_i h 1 := ((zv_wi w23 rfl).trans (zv_wi hw rfl))
        refine zr_iv (cj := 174) (q' := zp_m174) (As := [.int (zI (zv_a h 50 t)), .ref 62, .int (zI (1))]) (rest := []) (pc := 75) rfl rfl rfl rfl rfl rfl (Nat.le_of_ble_eq_true rfl) rfl (Nat.le_of_ble_eq_true rfl) ih22 ((zm_joinF_62 (h := h22) ih22 (place := zv_a h 50 t) (many := 1) (by omega) (by omega) (by omega) (by omega) (fun z0 z1 z2 => zr_whole hO3 hA3 ((hA3.1 _ z0 (by omega)).1 z2)) (zw_ok_ag wa9 rfl (fun j j0 j1 => rw9 j j0 (by have z : j < 1 + 8 := j1; omega)))).up (Nat.le_of_ble_eq_true rfl)) ?_
        rintro r27 h30 ⟨ih30, w31, v28, r27q, x29⟩
        subst r27q
        try dsimp only at x29
        have Jh30 := x29
        have rjh30 := zr_J_e x29
        have jA := zr_A_join (h := h22) (ρ := zs_arm s2 p (zv_a h 51 t)) (by rw [zv_wi ((hw.wd rfl : zb_W [(54, 0), (44, 27), (56, 0), (55, 0), (63, 0), (44, 25), (61, 0), (62, 0), (44, 26)] h _).tr (w23.wd rfl)) rfl]; omega) (by decide) (by decide) hO3 hA3 rw9 Jh30; rw [hPx] at jA; have jK := zr_KI hK3 (fun _ => by rw [rw9 8 (by decide) (by decide)]; show ¬ zv_a h 51 t = 3; exact (hP.2.1 t (by omega) (by show t < zv_i h 5; omega)).2) (by decide) Jh30
        show zx_T zp_P 4 zp_m175 78 [(0, .ref 44), (1, .int (zI (p))), (2, .int (zI (t))), (3, .int (zI (k)))] [.int (zI (v28))] h30 _
        refine zx_T.t (i := .istore_n 3) (k := 1) (ls' := [(3, .int (zI (v28))), (0, .ref 44), (1, .int (zI (p))), (2, .int (zI (t)))]) (st' := []) (pc := 78) rfl rfl rfl rfl ?_
        refine zx_T.l (i := .iload_n 3) (k := 1) (v := .int (zI (v28))) (pc := 79) rfl rfl rfl ?_
        refine zr_i1 (x := v28) (t := 85) (pc := 80) rfl rfl (by omega) (by omega) (fun (c32 : v28 = 0) => ?_) (fun (c32 : ¬ (v28 = 0)) => ?_)
        · refine zr_inc (x := t) (n := 1) (y := t + 1) (ls' := [(2, .int (zI (t + 1))), (3, .int (zI (v28))), (0, .ref 44), (1, .int (zI (p)))]) (pc := 85) rfl rfl rfl (by omega) rfl ?_
          refine zx_T.j (i := .goto (-81)) (k := 3) (pc' := 7) (st' := []) (pc := 88) rfl rfl rfl rfl rfl ?_
          refine zx_T.lk (ls' := [(0, .ref 44), (1, .int (zI (p))), (2, .int (zI (t + 1)))]) rfl ⟨rfl, rfl, rfl, trivial⟩ ?_
          exact ih.1 (h2 := h30) (t := t + 1) ih30 (by omega) (by omega) (((hw.wd rfl : zb_W [(54, 0), (44, 27), (56, 0), (55, 0), (63, 0), (44, 25), (61, 0), (62, 0), (44, 26)] h _).tr (w23.wd rfl)).tr (w31.wd rfl)) (zs_join (zr_Pg h) s2 (zv_a h 50 t) (zs_arm s2 p (zv_a h 51 t)) 1).2 jA.2 (zs_ok_join hO2 (zw_arm (hO2.1 p hR2) (hP.2.1 t (by omega) (by show t < zv_i h 5; omega)))) (zs_join_R hR2) jK (fun j j0 j1 => by rw [zv_wa ((w23.wd rfl : zb_W [(54, 0), (44, 27), (56, 0), (55, 0), (63, 0), (62, 0)] h2 _).tr (w31.wd rfl)) rfl, nw j j0 j1]; exact (zs_join_loc hR2 j1).symm) (hq.trans ((zs_hs_s (P := zr_Pg h) (p := p) (s := s2) (by show t < zv_i h 5; omega)).trans ((if_pos hx).trans (if_pos (jA.1.symm.trans (by omega)))))) (by omega)
        · refine zx_T.l (i := .iload_n 3) (k := 1) (v := .int (zI (v28))) (pc := 83) rfl rfl rfl ?_
          exact zr_ir (x := v28) (pc := 84) rfl rfl rfl ⟨ih30, (((hw.wd rfl : zb_W [(54, 0), (44, 27), (56, 0), (55, 0), (63, 0), (44, 25), (61, 0), (62, 0), (44, 26)] h _).tr (w23.wd rfl)).tr (w31.wd rfl)), _, rfl, by dsimp only; have w9 := zs_work_f (P := zr_Pg h) (hq.trans ((zs_hs_s (P := zr_Pg h) (p := p) (s := s2) (by show t < zv_i h 5; omega)).trans ((if_pos hx).trans (if_neg (fun z => absurd (jA.1.trans z) (by omega)))))) (fun z => absurd (jA.1.trans z) (by omega)); rw [w9]; exact ⟨by omega, by omega, jA.1, jA.2, jK⟩⟩
      · refine zx_T.l (i := .aload_n 0) (k := 1) (v := .ref 44) (pc := 32) rfl rfl rfl ?_
        refine zr_gr (k := 28) (b := 62) (pc := 33) rfl rfl rfl hI2 ?_
        refine zx_T.l (i := .iload_n 3) (k := 1) (v := .int (zI (k))) (pc := 36) rfl rfl rfl ?_
        refine zx_T.l (i := .aload_n 0) (k := 1) (v := .ref 44) (pc := 37) rfl rfl rfl ?_
        refine zr_gr (k := 24) (b := 61) (pc := 38) rfl rfl rfl hI2 ?_
        refine zx_T.l (i := .iload_n 3) (k := 1) (v := .int (zI (k))) (pc := 41) rfl rfl rfl ?_
        refine zr_al (n := 14) (lo := 0) (hi := 8) (e := zv_a h2 61 k) (pc := 42) rfl rfl rfl hI2 (by omega) (by omega) rfl (fun g33a g33b => ?_)
        refine zr_as (n := 14) (lo := 0) (hi := 8) (e := zv_a h2 61 k) (pc := 43) rfl rfl rfl rfl hI2 (by omega) (by omega) (by omega) (by omega) (fun h34 ih34 w35 s36 => ?_)
        refine zr_inc (x := k) (n := 1) (y := k + 1) (ls' := [(3, .int (zI (k + 1))), (0, .ref 44), (1, .int (zI (p))), (2, .int (zI (t)))]) (pc := 44) rfl rfl rfl (by omega) rfl ?_
        refine zx_T.j (i := .goto (-21)) (k := 3) (pc' := 26) (st' := []) (pc := 47) rfl rfl rfl rfl rfl ?_
        have a62 : ∀ j, 0 ≤ j → zv_a h34 62 j = if j = k then zv_a h2 61 k else zv_a h2 62 j := fun j hj => by rw [s36 j hj]
        refine zx_T.lk (ls' := [(0, .ref 44), (1, .int (zI (p))), (2, .int (zI (t))), (3, .int (zI (k + 1)))]) rfl ⟨rfl, rfl, rfl, rfl, trivial⟩ ?_
        exact ih.2.1 (h2 := h34) (t := t) (k := k + 1) ih34 (by omega) (by omega) (by omega) (by omega) hx ((hw.wd rfl : zb_W [(54, 0), (44, 27), (56, 0), (55, 0), (63, 0), (44, 25), (61, 0), (62, 0), (44, 26)] h _).tr (w35.wd rfl)) s2 (zr_A_w (w35.wd rfl : zb_W [(44, 25), (61, 0), (62, 0), (44, 26)] h2 _) hA2) hO2 hR2 (hk2.w (w35.wd rfl : zb_W [(44, 25), (61, 0), (62, 0), (44, 26)] h2 _) rfl) (fun j j0 j1 => by rw [zv_wa (w35.wd rfl : zb_W [(62, 0)] h2 _) rfl]; exact nw j j0 j1) hq (fun j j0 j1 => by rw [a62 j j0]; by_cases z : j = k; rw [if_pos z, z]; exact nw k k1 (by omega); rw [if_neg z]; exact am j j0 (by omega)) (by omega)
    · intro h2 f k hI2 f1 f2 k1 k2 kj hw s1 h1 xo s2 hA2 hO2 hR2 hk2 hq xk xa hm
      have hC := zv_ri hI (k := 1) rfl
      have hH := zv_ri hI (k := 5) rfl
      refine zx_T.l (i := .iload_n 3) (k := 1) (v := .int (zI (k))) (pc := 104) rfl rfl rfl ?_
      refine zx_T.l (i := .aload_n 0) (k := 1) (v := .ref 44) (pc := 105) rfl rfl rfl ?_
      refine zx_T.l (i := .iload_n 1) (k := 1) (v := .int (zI (p))) (pc := 106) rfl rfl rfl ?_
      refine zr_iv (cj := 170) (q' := zp_m170) (As := [.int (zI (p))]) (rest := [.int (zI (k))]) (pc := 107) rfl rfl rfl rfl rfl rfl (Nat.le_of_ble_eq_true rfl) rfl (Nat.le_of_ble_eq_true rfl) hI2 ((zm_jumps (h := h2) hI2 (p := p) (by omega) (by omega)).up (Nat.le_of_ble_eq_true rfl)) ?_
      rintro r38 h41 ⟨h41q, v39, r38q, x40⟩
      subst h41q r38q
      try dsimp only at x40
      have jj := x40
      simp only [zv_wa hw (a := 45) rfl] at jj
      have js : v39 = zs_js (zr_Pg h) p := by show v39 = if zv_a h 45 p = 27 then 2 else if 24 ≤ zv_a h 45 p ∧ zv_a h 45 p ≤ 26 then 1 else 0; split <;> first | omega | (split <;> omega)
      show zx_T zp_P 4 zp_m175 110 [(0, .ref 44), (1, .int (zI (p))), (2, .int (zI (f))), (3, .int (zI (k)))] [.int (zI (v39)), .int (zI (k))] h2 _
      refine zr_i2 (x := k) (y := v39) (t := 142) (pc := 110) rfl rfl (by omega) (by omega) (by omega) (by omega) (fun (c42 : v39 ≤ k) => ?_) (fun (c42 : ¬ (v39 ≤ k)) => ?_)
      · refine zx_T.l (i := .iload_n 2) (k := 1) (v := .int (zI (f))) (pc := 142) rfl rfl rfl ?_
        refine zr_i1 (x := f) (t := 154) (pc := 143) rfl rfl (by omega) (by omega) (fun (c43 : ¬ f = 0) => ?_) (fun (c43 : ¬ (¬ f = 0)) => ?_)
        · refine zx_T.l (i := .iload_n 2) (k := 1) (v := .int (zI (f))) (pc := 154) rfl rfl rfl ?_
          exact zr_ir (x := f) (pc := 155) rfl rfl rfl ⟨hI2, (hw.wd rfl : zb_W [(54, 0), (44, 27), (56, 0), (55, 0), (63, 0), (44, 25), (61, 0), (62, 0), (44, 26)] h _), _, rfl, by dsimp only; have w9 := zs_work_g (P := zr_Pg h) h1; rw [zs_w_end (P := zr_Pg h) k1 kj hq xk (by omega) (show ¬ f = 0 ∨ (22 ≤ zv_a h 45 p ∧ zv_a h 45 p ≤ 24) by omega)] at w9; rw [w9]; exact ⟨by omega, by omega, rfl, hA2, hk2⟩⟩
        · refine zx_T.l (i := .aload_n 0) (k := 1) (v := .ref 44) (pc := 146) rfl rfl rfl ?_
          refine zx_T.l (i := .iload_n 1) (k := 1) (v := .int (zI (p))) (pc := 147) rfl rfl rfl ?_
          refine zr_iv (cj := 168) (q' := zp_m168) (As := [.int (zI (p))]) (rest := []) (pc := 148) rfl rfl rfl rfl rfl rfl (Nat.le_of_ble_eq_true rfl) rfl (Nat.le_of_ble_eq_true rfl) hI2 ((zm_goesOn (h := h2) hI2 (p := p) (by omega) (by omega)).up (Nat.le_of_ble_eq_true rfl)) ?_
          rintro r44 h47 ⟨h47q, v45, r44q, x46⟩
          subst h47q r44q
          try dsimp only at x46
          have go := x46
          simp only [zv_wa hw (a := 45) rfl] at go
          show zx_T zp_P 4 zp_m175 151 [(0, .ref 44), (1, .int (zI (p))), (2, .int (zI (f))), (3, .int (zI (k)))] [.int (zI (v45))] h2 _
          refine zr_i1 (x := v45) (t := 156) (pc := 151) rfl rfl (by omega) (by omega) (fun (c48 : ¬ v45 = 0) => ?_) (fun (c48 : ¬ (¬ v45 = 0)) => ?_)
          · refine zx_T.l (i := .iload_n 1) (k := 1) (v := .int (zI (p))) (pc := 156) rfl rfl rfl ?_
            refine zx_T.s (i := .iconst 1) (k := 1) (st' := [.int (zI (1)), .int (zI (p))]) (pc := 157) rfl rfl ?_
            refine zr_add (x := p) (y := 1) (e := p + 1) (pc := 158) rfl (by omega) ?_
            refine zx_T.l (i := .aload_n 0) (k := 1) (v := .ref 44) (pc := 159) rfl rfl rfl ?_
            refine zr_gi (k := 1) (lo := 0) (hi := 60) (e := zv_i h 1) (pc := 160) rfl rfl rfl hI2 (zv_wi hw rfl) (fun g49a g49b => ?_)
            refine zr_i2 (x := p + 1) (y := zv_i h 1) (t := 171) (pc := 163) rfl rfl (by omega) (by omega) (by omega) (by omega) (fun (c50 : ¬ (p + 1) = (zv_i h 1)) => ?_) (fun (c50 : ¬ (¬ (p + 1) = (zv_i h 1))) => ?_)
            · have x0 := zs_wk_0 hq xk (by omega)
              have xb := xa x0
              have hPx : zr_Pg h2 = zr_Pg h := zr_Pg_w hw
              have hO3 : zs_ok (zr_Pg h2) s2 := by rw [hPx]; exact hO2
              have wr9 := zw_ok_ag xo xb.1 xb.2
              have hS2 := zv_ri hI2 (k := 25) rfl
              refine zx_T.l (i := .aload_n 0) (k := 1) (v := .ref 44) (pc := 171) rfl rfl rfl ?_
              refine zx_T.l (i := .iload_n 1) (k := 1) (v := .int (zI (p))) (pc := 172) rfl rfl rfl ?_
              refine zx_T.s (i := .iconst 1) (k := 1) (st' := [.int (zI (1)), .int (zI (p)), .ref 44]) (pc := 173) rfl rfl ?_
              refine zr_add (x := p) (y := 1) (e := p + 1) (pc := 174) rfl (by omega) ?_
              refine zx_T.l (i := .aload_n 0) (k := 1) (v := .ref 44) (pc := 175) rfl rfl rfl ?_
              refine zr_gr (k := 24) (b := 61) (pc := 176) rfl rfl rfl hI2 ?_
              refine zx_T.l (i := .aload_n 0) (k := 1) (v := .ref 44) (pc := 179) rfl rfl rfl ?_
              refine zr_gi (k := 25) (lo := 0) (hi := 6) (e := zv_i h2 25) (pc := 180) rfl rfl rfl hI2 rfl (fun g51a g51b => ?_)
              have y52 : zv_i h2 1 = zv_i h 1 := (zv_wi hw rfl)
              refine zr_iv (cj := 174) (q' := zp_m174) (As := [.int (zI (p + 1)), .ref 61, .int (zI (zv_i h2 25))]) (rest := []) (pc := 183) rfl rfl rfl rfl rfl rfl (Nat.le_of_ble_eq_true rfl) rfl (Nat.le_of_ble_eq_true rfl) hI2 ((zm_joinF_61 (h := h2) hI2 (place := p + 1) (many := zv_i h2 25) (by omega) (by omega) (by omega) (by omega) (fun z0 z1 z2 => zr_whole hO3 hA2 ((hA2.1 _ z0 (by omega)).1 z2)) wr9).up (Nat.le_of_ble_eq_true rfl)) ?_
              rintro r53 h56 ⟨ih56, w57, v54, r53q, x55⟩
              subst r53q
              try dsimp only at x55
              have Jh56 := x55
              have rjh56 := zr_J_e x55
              have jA := zr_A_join (h := h2) (ρ := (zs_x (zr_Pg h) p s1).2.2) (by rw [zv_wi hw rfl]; omega) (by omega) (by omega) hO3 hA2 (fun j j0 j1 => xb.2 j j0 (by omega)) Jh56; rw [hPx, xb.1] at jA; have jK := zr_KI hk2 (fun z => by have a8 := (wr9.1.2 8 (by omega) (by show (8 : Int) < 8 + zv_i h2 25; omega)).2; exact fun z8 => absurd (a8 z8).1 (by omega)) (by omega) Jh56
              show zx_T zp_P 4 zp_m175 186 [(0, .ref 44), (1, .int (zI (p))), (2, .int (zI (f))), (3, .int (zI (k)))] [.int (zI (v54))] h56 _
              exact zr_ir (x := v54) (pc := 186) rfl rfl rfl ⟨ih56, ((hw.wd rfl : zb_W [(54, 0), (44, 27), (56, 0), (55, 0), (63, 0), (44, 25), (61, 0), (62, 0), (44, 26)] h _).tr (w57.wd rfl)), _, rfl, by dsimp only; have w9 := zs_work_g (P := zr_Pg h) h1; rw [zs_w_on (P := zr_Pg h) k1 kj hq xk (by omega) (by omega) (fun z => by have z2 : 22 ≤ zv_a h 45 p ∧ zv_a h 45 p ≤ 24 := z; omega), if_neg (show ¬ p + 1 = (zr_Pg h).n from (by omega : ¬ p + 1 = zv_i h 1))] at w9; rw [w9]; exact ⟨by omega, by omega, jA.1, jA.2, jK⟩⟩
            · refine zx_T.s (i := .bipush 6) (k := 2) (st' := [.int (zI (6))]) (pc := 166) rfl rfl ?_
              refine zx_T.j (i := .goto 18) (k := 3) (pc' := 186) (st' := [.int (zI (6))]) (pc := 168) rfl rfl rfl rfl rfl ?_
              exact zr_ir (x := 6) (pc := 186) rfl rfl rfl ⟨hI2, (hw.wd rfl : zb_W [(54, 0), (44, 27), (56, 0), (55, 0), (63, 0), (44, 25), (61, 0), (62, 0), (44, 26)] h _), _, rfl, by dsimp only; have w9 := zs_work_g (P := zr_Pg h) h1; rw [zs_w_on (P := zr_Pg h) k1 kj hq xk (by omega) (by omega) (fun z => by have z2 : 22 ≤ zv_a h 45 p ∧ zv_a h 45 p ≤ 24 := z; omega), if_pos (show p + 1 = (zr_Pg h).n from (by omega : p + 1 = zv_i h 1))] at w9; rw [w9]; exact ⟨by omega, by omega, rfl, hA2, hk2⟩⟩
          · refine zx_T.l (i := .iload_n 2) (k := 1) (v := .int (zI (f))) (pc := 154) rfl rfl rfl ?_
            exact zr_ir (x := f) (pc := 155) rfl rfl rfl ⟨hI2, (hw.wd rfl : zb_W [(54, 0), (44, 27), (56, 0), (55, 0), (63, 0), (44, 25), (61, 0), (62, 0), (44, 26)] h _), _, rfl, by dsimp only; have w9 := zs_work_g (P := zr_Pg h) h1; rw [zs_w_end (P := zr_Pg h) k1 kj hq xk (by omega) (show ¬ f = 0 ∨ (22 ≤ zv_a h 45 p ∧ zv_a h 45 p ≤ 24) by omega)] at w9; rw [w9]; exact ⟨by omega, by omega, rfl, hA2, hk2⟩⟩
      · refine zx_T.l (i := .iload_n 2) (k := 1) (v := .int (zI (f))) (pc := 113) rfl rfl rfl ?_
        refine zr_i1 (x := f) (t := 142) (pc := 114) rfl rfl (by omega) (by omega) (fun (c58 : ¬ f = 0) => ?_) (fun (c58 : ¬ (¬ f = 0)) => ?_)
        · refine zx_T.l (i := .iload_n 2) (k := 1) (v := .int (zI (f))) (pc := 142) rfl rfl rfl ?_
          refine zr_i1 (x := f) (t := 154) (pc := 143) rfl rfl (by omega) (by omega) (fun (c59 : ¬ f = 0) => ?_) (fun (c59 : ¬ (¬ f = 0)) => False.elim (by omega))
          refine zx_T.l (i := .iload_n 2) (k := 1) (v := .int (zI (f))) (pc := 154) rfl rfl rfl ?_
          exact zr_ir (x := f) (pc := 155) rfl rfl rfl ⟨hI2, (hw.wd rfl : zb_W [(54, 0), (44, 27), (56, 0), (55, 0), (63, 0), (44, 25), (61, 0), (62, 0), (44, 26)] h _), _, rfl, by dsimp only; have w9 := zs_work_g (P := zr_Pg h) h1; rw [zs_w_end (P := zr_Pg h) k1 kj hq xk (by omega) (show ¬ f = 0 ∨ (22 ≤ zv_a h 45 p ∧ zv_a h 45 p ≤ 24) by omega)] at w9; rw [w9]; exact ⟨by omega, by omega, rfl, hA2, hk2⟩⟩
        · refine zx_T.l (i := .aload_n 0) (k := 1) (v := .ref 44) (pc := 117) rfl rfl rfl ?_
          refine zx_T.l (i := .aload_n 0) (k := 1) (v := .ref 44) (pc := 118) rfl rfl rfl ?_
          refine zx_T.l (i := .iload_n 1) (k := 1) (v := .int (zI (p))) (pc := 119) rfl rfl rfl ?_
          refine zx_T.l (i := .iload_n 3) (k := 1) (v := .int (zI (k))) (pc := 120) rfl rfl rfl ?_
          refine zr_iv (cj := 169) (q' := zp_m169) (As := [.int (zI (p)), .int (zI (k))]) (rest := [.ref 44]) (pc := 121) rfl rfl rfl rfl rfl rfl (Nat.le_of_ble_eq_true rfl) rfl (Nat.le_of_ble_eq_true rfl) hI2 ((zm_jump (h := h2) hI2 (p := p) (k := k) (by omega) (by omega) (by omega) (by omega)).up (Nat.le_of_ble_eq_true rfl)) ?_
          rintro r60 h63 ⟨h63q, v61, r60q, x62⟩
          subst h63q r60q
          try dsimp only at x62
          have jw := x62
          simp only [zv_wa hw (a := 45) rfl, zv_wa hw (a := 46) rfl, zv_wa hw (a := 47) rfl] at jw
          show zx_T zp_P 4 zp_m175 124 [(0, .ref 44), (1, .int (zI (p))), (2, .int (zI (f))), (3, .int (zI (k)))] [.int (zI (v61)), .ref 44] h2 _
          have x0 := zs_wk_0 hq xk (by omega)
          have xb := xa x0
          have hPx : zr_Pg h2 = zr_Pg h := zr_Pg_w hw
          have hO3 : zs_ok (zr_Pg h2) s2 := by rw [hPx]; exact hO2
          have wr9 := zw_ok_ag xo xb.1 xb.2
          have hS2 := zv_ri hI2 (k := 25) rfl
          refine zx_T.l (i := .aload_n 0) (k := 1) (v := .ref 44) (pc := 124) rfl rfl rfl ?_
          refine zr_gr (k := 24) (b := 61) (pc := 125) rfl rfl rfl hI2 ?_
          refine zx_T.l (i := .aload_n 0) (k := 1) (v := .ref 44) (pc := 128) rfl rfl rfl ?_
          refine zr_gi (k := 25) (lo := 0) (hi := 6) (e := zv_i h2 25) (pc := 129) rfl rfl rfl hI2 rfl (fun g64a g64b => ?_)
          have y65 : zv_i h2 1 = zv_i h 1 := (zv_wi hw rfl)
          refine zr_iv (cj := 174) (q' := zp_m174) (As := [.int (zI (v61)), .ref 61, .int (zI (zv_i h2 25))]) (rest := []) (pc := 132) rfl rfl rfl rfl rfl rfl (Nat.le_of_ble_eq_true rfl) rfl (Nat.le_of_ble_eq_true rfl) hI2 ((zm_joinF_61 (h := h2) hI2 (place := v61) (many := zv_i h2 25) (by omega) (by omega) (by omega) (by omega) (fun z0 z1 z2 => zr_whole hO3 hA2 ((hA2.1 _ z0 (by omega)).1 z2)) wr9).up (Nat.le_of_ble_eq_true rfl)) ?_
          rintro r66 h69 ⟨ih69, w70, v67, r66q, x68⟩
          subst r66q
          try dsimp only at x68
          have Jh69 := x68
          have rjh69 := zr_J_e x68
          have jA := zr_A_join (h := h2) (ρ := (zs_x (zr_Pg h) p s1).2.2) (by rw [zv_wi hw rfl]; omega) (by omega) (by omega) hO3 hA2 (fun j j0 j1 => xb.2 j j0 (by omega)) Jh69; have wy : v61 = zs_wy (zr_Pg h) p k := (by show v61 = if k = 0 then zv_a h 46 p else zv_a h 47 p; unfold zs_js at js; have jo : (zr_Pg h).op p = zv_a h 45 p := rfl; rw [jo] at js; split <;> (split at js <;> first | omega | (split at js <;> omega))); rw [hPx, xb.1, wy] at jA; have jk := zs_wk_s (P := zr_Pg h) (p := p) k1 (by omega) (x := (zs_x (zr_Pg h) p s1)) (s := s1) (s2 := s2) (by rw [← hq]; congr 1; omega); have jK := zr_KI hk2 (fun z => by have a8 := (wr9.1.2 8 (by omega) (by show (8 : Int) < 8 + zv_i h2 25; omega)).2; exact fun z8 => absurd (a8 z8).1 (by omega)) (by omega) Jh69
          show zx_T zp_P 4 zp_m175 135 [(0, .ref 44), (1, .int (zI (p))), (2, .int (zI (f))), (3, .int (zI (k)))] [.int (zI (v67))] h69 _
          refine zx_T.t (i := .istore_n 2) (k := 1) (ls' := [(2, .int (zI (v67))), (0, .ref 44), (1, .int (zI (p))), (3, .int (zI (k)))]) (st' := []) (pc := 135) rfl rfl rfl rfl ?_
          refine zr_inc (x := k) (n := 1) (y := k + 1) (ls' := [(3, .int (zI (k + 1))), (2, .int (zI (v67))), (0, .ref 44), (1, .int (zI (p)))]) (pc := 136) rfl rfl rfl (by omega) rfl ?_
          refine zx_T.j (i := .goto (-35)) (k := 3) (pc' := 104) (st' := []) (pc := 139) rfl rfl rfl rfl rfl ?_
          refine zx_T.lk (ls' := [(0, .ref 44), (1, .int (zI (p))), (2, .int (zI (v67))), (3, .int (zI (k + 1)))]) rfl ⟨rfl, rfl, rfl, rfl, trivial⟩ ?_
          exact ih.2.2 (h2 := h69) (f := v67) (k := k + 1) ih69 (by omega) (by omega) (by omega) (by omega) (by omega) ((hw.wd rfl : zb_W [(54, 0), (44, 27), (56, 0), (55, 0), (63, 0), (44, 25), (61, 0), (62, 0), (44, 26)] h _).tr (w70.wd rfl)) s1 h1 xo (zs_join (zr_Pg h) s2 (zs_wy (zr_Pg h) p k) (zs_x (zr_Pg h) p s1).2.2 (zs_x (zr_Pg h) p s1).2.1).2 jA.2 (zs_ok_join hO2 (zw_ok_ag xo rfl (fun _ _ _ => rfl))) (zs_join_R hR2) jK (by rw [← jk]; exact Prod.ext jA.1 rfl) (fun z => absurd x0 z) (fun _ => ⟨by rw [zv_wi w70 rfl]; exact xb.1, fun j j0 j1 => by rw [zv_wa w70 rfl]; exact xb.2 j j0 j1⟩) (by omega)
set_option maxRecDepth 100000 in
set_option maxHeartbeats 8000000 in
theorem zm_workF {h : zx_H} (hI : zb_I zc_H h) {p : Int} (p1 : 0 ≤ p) (p2 : p ≤ 59) (s : zS) (hA : zr_A h s) (hO : zs_ok (zr_Pg h) s) (hR : s.R p) (hP : zP.ok (zr_Pg h)) (hk : zg_KI h) (hc : zg_CI h) : zx_T zp_P 4 zp_m175 0 [(0, .ref 44), (1, .int (zI (p)))] [] h (zr_R [(54, 0), (44, 27), (56, 0), (55, 0), (63, 0), (44, 25), (61, 0), (62, 0), (44, 26)] h (fun e h' => 0 ≤ e ∧ e ≤ 7 ∧ e = (zs_work (zr_Pg h) p s).1 ∧ zr_A h' (zs_work (zr_Pg h) p s).2 ∧ zg_KI h')) := by
  have hC := zv_ri hI (k := 1) rfl
  have hH := zv_ri hI (k := 5) rfl
  refine zx_T.l (i := .aload_n 0) (k := 1) (v := .ref 44) (pc := 0) rfl rfl rfl ?_
  refine zx_T.l (i := .iload_n 1) (k := 1) (v := .int (zI (p))) (pc := 1) rfl rfl rfl ?_
  refine zr_iv (cj := 173) (q' := zp_m173) (As := [.int (zI (p))]) (rest := []) (pc := 2) rfl rfl rfl rfl rfl rfl (Nat.le_of_ble_eq_true rfl) rfl (Nat.le_of_ble_eq_true rfl) hI ((zm_lay (h := h) hI (p := p) (by omega) (by omega)).up (Nat.le_of_ble_eq_true rfl)) ?_
  rintro r71 h74 ⟨ih74, w75, r71q, x73⟩
  subst r71q
  try dsimp only at x73
  have yj := x73.2
  have ys := x73.1
  show zx_T zp_P 4 zp_m175 5 [(0, .ref 44), (1, .int (zI (p)))] [] h74 _
  refine zx_T.s (i := .iconst 0) (k := 1) (st' := [.int (zI (0))]) (pc := 5) rfl rfl ?_
  refine zx_T.t (i := .istore_n 2) (k := 1) (ls' := [(2, .int (zI (0))), (0, .ref 44), (1, .int (zI (p)))]) (st' := []) (pc := 6) rfl rfl rfl rfl ?_
  refine zx_T.lk (ls' := [(0, .ref 44), (1, .int (zI (p))), (2, .int (zI (0)))]) rfl ⟨rfl, rfl, rfl, trivial⟩ ?_
  exact (zm_workF_L (h := h) hI (p := p) p1 p2 s hA hO hR hP hk hc ((1000 - 20 * 0 : Int).toNat + 1)).1 (h2 := h74) (t := 0) ih74 (by omega) (by omega) (w75.wd rfl : zb_W [(54, 0), (44, 27), (56, 0), (55, 0), (63, 0), (44, 25), (61, 0), (62, 0), (44, 26)] h _) s (zr_A_w (w75.wd rfl : zb_W [(44, 25), (61, 0), (62, 0), (44, 26)] h _) hA) hO hR (hk.w (w75.wd rfl : zb_W [(44, 25), (61, 0), (62, 0), (44, 26)] h _) rfl) (fun j j0 j1 => by rw [yj j j0 (by omega)]; exact (hA.2.1 p hR).2 j j0 (by have z := (hO.1 p hR).2.1; dsimp only at z; omega)) (by rw [Int.sub_zero]) (Nat.lt_succ_self _)
