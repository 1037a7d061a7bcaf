/-! ===== 97n: the reference, method by method (by program) ===== -/
set_option maxRecDepth 100000 in
set_option maxHeartbeats 4000000 in
theorem zm_fAddF_20 {h : zx_H} (hI : zb_I zc_H h) {p : Int} (p1 : 0 ≤ p) (p2 : p ≤ 59) (m9 : zv_f h 10 3 ≤ 59) : zx_T zp_P 2 zp_m28 0 [(0, .ref 10), (1, .int (zI (p))), (2, .ref 20)] [] h (zr_V [(14, 0), (15, 0), (12, 0), (13, 0), (10, 3)] h (fun h' => zv_f h' 10 3 = zv_f h 10 3 + 1 ∧ (∀ f, 0 ≤ f → zv_a h' 14 f = if f = zv_f h 10 3 then p else zv_a h 14 f) ∧ (∀ f, 0 ≤ f → zv_a h' 15 f = if f = zv_f h 10 3 then zs_ul (zv_a h 21) 8 else zv_a h 15 f) ∧ (∀ f, 0 ≤ f → zv_a h' 13 f = if f = zv_f h 10 3 then zv_f h 20 1 else zv_a h 13 f) ∧ (∀ q, 0 ≤ q → zv_a h' 12 q = if 14 * zv_f h 10 3 ≤ q ∧ q < 14 * zv_f h 10 3 + 14 then zv_a h 21 (q - 14 * zv_f h 10 3) else zv_a h 12 q))) := by
  have hM := zw_ri hI (a := 10) (k := 3) rfl
  refine zx_T.l (i := .aload_n 0) (k := 1) (v := .ref 10) (pc := 0) rfl rfl rfl ?_
  refine zw_gi (k := 3) (lo := 0) (hi := 60) (e := zv_f h 10 3) (pc := 1) rfl rfl rfl hI rfl (fun g1a g1b => ?_)
  refine zx_T.s (i := .bipush 60) (k := 2) (st' := [.int (zI (60)), .int (zI (zv_f h 10 3))]) (pc := 4) rfl rfl ?_
  refine zr_i2 (x := zv_f h 10 3) (y := 60) (t := 10) (pc := 6) rfl rfl (by omega) (by omega) (by omega) (by omega) (fun (c2 : (zv_f h 10 3) < 60) => ?_) (fun (c2 : ¬ ((zv_f h 10 3) < 60)) => ?_)
  · refine zx_T.l (i := .aload_n 0) (k := 1) (v := .ref 10) (pc := 10) rfl rfl rfl ?_
    refine zw_gr (k := 1) (b := 14) (pc := 11) rfl rfl rfl hI ?_
    refine zx_T.l (i := .aload_n 0) (k := 1) (v := .ref 10) (pc := 14) rfl rfl rfl ?_
    refine zw_gi (k := 3) (lo := 0) (hi := 60) (e := zv_f h 10 3) (pc := 15) rfl rfl rfl hI rfl (fun g3a g3b => ?_)
    refine zx_T.l (i := .iload_n 1) (k := 1) (v := .int (zI (p))) (pc := 18) rfl rfl rfl ?_
    refine zr_as (n := 60) (lo := (-2147483648)) (hi := 2147483647) (e := p) (pc := 19) rfl rfl rfl rfl hI (by omega) (by omega) (by omega) (by omega) (fun h4 ih4 w5 s6 => ?_)
    refine zx_T.l (i := .aload_n 0) (k := 1) (v := .ref 10) (pc := 20) rfl rfl rfl ?_
    refine zw_gr (k := 2) (b := 15) (pc := 21) rfl rfl rfl ih4 ?_
    refine zx_T.l (i := .aload_n 0) (k := 1) (v := .ref 10) (pc := 24) rfl rfl rfl ?_
    refine zw_gi (k := 3) (lo := 0) (hi := 60) (e := zv_f h 10 3) (pc := 25) rfl rfl rfl ih4 (zv_wf w5 rfl) (fun g7a g7b => ?_)
    refine zx_T.l (i := .aload_n 2) (k := 1) (v := .ref 20) (pc := 28) rfl rfl rfl ?_
    refine zr_is (cj := 29) (q' := zp_m29) (As := [.ref 20]) (rest := [.int (zI (zv_f h 10 3)), .ref 15]) (pc := 29) rfl rfl rfl rfl rfl rfl (Nat.le_of_ble_eq_true rfl) rfl (Nat.le_of_ble_eq_true rfl) rfl ((zm_fUsed_20 (h := h4) ih4  ).up (Nat.le_of_ble_eq_true rfl)) ?_
    rintro r8 h11 ⟨h11q, v9, r8q, x10⟩
    subst h11q r8q
    try dsimp only at x10
    have uF := x10
    have uE := zs_ul_u (row := zv_a h4 21) 8 uF.1 uF.2.1 uF.2.2.1 uF.2.2.2
    rw [show zv_a h4 21 = zv_a h 21 from funext (fun q => zv_wa (w5.wd rfl : zb_W [(14, 0)] h _) rfl q)] at uE
    show zx_T zp_P 2 zp_m28 32 [(0, .ref 10), (1, .int (zI (p))), (2, .ref 20)] [.int (zI (v9)), .int (zI (zv_f h 10 3)), .ref 15] h4 _
    refine zr_as (n := 60) (lo := (-2147483648)) (hi := 2147483647) (e := v9) (pc := 32) rfl rfl rfl rfl ih4 (by omega) (by omega) (by omega) (by omega) (fun h12 ih12 w13 s14 => ?_)
    refine zx_T.l (i := .aload_n 0) (k := 1) (v := .ref 10) (pc := 33) rfl rfl rfl ?_
    refine zw_gr (k := 0) (b := 11) (pc := 34) rfl rfl rfl ih12 ?_
    refine zx_T.l (i := .aload_n 0) (k := 1) (v := .ref 10) (pc := 37) rfl rfl rfl ?_
    refine zw_gi (k := 3) (lo := 0) (hi := 60) (e := zv_f h 10 3) (pc := 38) rfl rfl rfl ih12 ((zv_wf w13 rfl).trans (zv_wf w5 rfl)) (fun g15a g15b => ?_)
    refine zx_T.l (i := .aload_n 2) (k := 1) (v := .ref 20) (pc := 41) rfl rfl rfl ?_
    refine zw_iv (b := 11) (cj := 134) (q' := zp_m134) (As := [.int (zI (zv_f h 10 3)), .ref 20]) (rest := []) (pc := 42) rfl rfl rfl rfl rfl rfl rfl (Nat.le_of_ble_eq_true rfl) rfl (Nat.le_of_ble_eq_true rfl) ih12 ((zm_tWrite_11_20 (h := h12) ih12 (r := zv_f h 10 3) (by omega) (by omega)).up (Nat.le_of_ble_eq_true rfl)) ?_
    rintro r16 h19 ⟨ih19, w20, r16q, x18⟩
    subst r16q
    try dsimp only at x18
    have tw1 := x18
    have wT := x18; simp only [show zv_a h12 21 = zv_a h 21 from funext (fun q => zv_wa ((w5.wd rfl : zb_W [(14, 0), (15, 0)] h _).tr (w13.wd rfl)) rfl q), show zv_f h12 20 1 = zv_f h 20 1 from zv_wf ((w5.wd rfl : zb_W [(14, 0), (15, 0)] h _).tr (w13.wd rfl)) rfl, show zv_a h12 12 = zv_a h 12 from funext (fun q => zv_wa ((w5.wd rfl : zb_W [(14, 0), (15, 0)] h _).tr (w13.wd rfl)) rfl q), show zv_a h12 13 = zv_a h 13 from funext (fun q => zv_wa ((w5.wd rfl : zb_W [(14, 0), (15, 0)] h _).tr (w13.wd rfl)) rfl q)] at wT
    show zx_T zp_P 2 zp_m28 45 [(0, .ref 10), (1, .int (zI (p))), (2, .ref 20)] [] h19 _
    refine zx_T.l (i := .aload_n 0) (k := 1) (v := .ref 10) (pc := 45) rfl rfl rfl ?_
    refine zx_T.s (i := .dup) (k := 1) (st' := [.ref 10, .ref 10]) (pc := 46) rfl rfl ?_
    refine zw_gi (k := 3) (lo := 0) (hi := 60) (e := zv_f h 10 3) (pc := 47) rfl rfl rfl ih19 ((zv_wf w20 rfl).trans ((zv_wf w13 rfl).trans (zv_wf w5 rfl))) (fun g21a g21b => ?_)
    refine zx_T.s (i := .iconst 1) (k := 1) (st' := [.int (zI (1)), .int (zI (zv_f h 10 3)), .ref 10]) (pc := 50) rfl rfl ?_
    refine zr_add (x := zv_f h 10 3) (y := 1) (e := zv_f h 10 3 + 1) (pc := 51) rfl (by omega) ?_
    refine zw_pi (k := 3) (lo := 0) (hi := 60) (e := zv_f h 10 3 + 1) (pc := 52) rfl rfl rfl rfl rfl rfl ih19 (by omega) (by omega) (fun h22 ih22 w23 e24 => ?_)
    have y25 : zv_f h22 10 3 = zv_f h 10 3 + 1 := e24
    have a14 : ∀ j, 0 ≤ j → zv_a h22 14 j = if j = zv_f h 10 3 then p else zv_a h 14 j := fun j hj => by rw [zv_wa w23 rfl j, zv_wa w20 rfl j, zv_wa w13 rfl j, s6 j hj]
    have a15 : ∀ j, 0 ≤ j → zv_a h22 15 j = if j = zv_f h 10 3 then v9 else zv_a h 15 j := fun j hj => by rw [zv_wa w23 rfl j, zv_wa w20 rfl j, s14 j hj, zv_wa w5 rfl j]
    have a12 : ∀ j, 0 ≤ j → zv_a h22 12 j = zv_a h19 12 j := fun j hj => by rw [zv_wa w23 rfl j]
    have a13 : ∀ j, 0 ≤ j → zv_a h22 13 j = zv_a h19 13 j := fun j hj => by rw [zv_wa w23 rfl j]
    exact zr_vr (pc := 55) rfl rfl ⟨ih22, ((((w5.wd rfl : zb_W [(14, 0), (15, 0), (12, 0), (13, 0), (10, 3)] h _).tr (w13.wd rfl)).tr (w20.wd rfl)).tr (w23.wd rfl)), rfl, by dsimp only; exact ⟨by omega, fun f f0 => by rw [a14 f f0], fun f f0 => by rw [a15 f f0, uE], fun f f0 => by rw [a13 f f0]; exact wT.1 f f0, fun q q0 => by rw [a12 q q0]; exact wT.2 q q0⟩⟩
  · have a14 : ∀ j, 0 ≤ j → zv_a h 14 j = zv_a h 14 j := fun j hj => rfl
    have a15 : ∀ j, 0 ≤ j → zv_a h 15 j = zv_a h 15 j := fun j hj => rfl
    have a12 : ∀ j, 0 ≤ j → zv_a h 12 j = zv_a h 12 j := fun j hj => rfl
    have a13 : ∀ j, 0 ≤ j → zv_a h 13 j = zv_a h 13 j := fun j hj => rfl
    exact zr_vr (pc := 9) rfl rfl ⟨hI, zb_W.rf, rfl, by dsimp only; exact False.elim (by omega)⟩

set_option maxRecDepth 100000 in
set_option maxHeartbeats 4000000 in
theorem zm_gatherFramesH_L {h : zx_H} (hI : zb_I zc_H h)  (s : zS) (hA : zc_A h s) (m0 : zv_f h 10 3 = 0) (hO : zs_ok (zc_Pg h) s) (hN : zs_nn s) (n : Nat) : (∀ {h2 : zx_H} {p : Int} (hI2 : zb_I zc_H h2) (p1 : 0 ≤ p) (p2 : p ≤ zv_f h 1 3) (hw : zb_W [(20, 1), (21, 0), (14, 0), (15, 0), (12, 0), (13, 0), (10, 3)] h h2) (ml : zv_f h2 10 3 ≤ p) (fc : zv_f h2 10 3 = zs_fc (zc_Pg h) s p.toNat) (fr4 : zc_Fr h2 (zs_fr (zc_Pg h) s p.toNat)), (100 - p : Int).toNat < n → zx_T zp_P 4 zp_m92 2 [(0, .ref 16), (1, .int (zI (p)))] [] h2 (zr_V [(20, 1), (21, 0), (14, 0), (15, 0), (12, 0), (13, 0), (10, 3)] h (fun h' => zv_f h' 10 3 = zs_fc (zc_Pg h) s (zv_f h 1 3).toNat ∧ zc_Fr h' (zs_fr (zc_Pg h) s (zv_f h 1 3).toNat)))) := by
  induction n with
  | zero => exact fun _ _ _ _ _ _ _ hm => absurd hm (Nat.not_lt_zero _)
  | succ n ih =>
    intro h2 p hI2 p1 p2 hw ml fc fr4 hm
    have hC := zw_ri hI (a := 1) (k := 3) rfl
    have hH := zw_ri hI (a := 1) (k := 8) rfl
    have d8 : zv_f h2 1 3 = zv_f h 1 3 := zv_wf hw rfl
    have hA2 := zc_A_g hw rfl rfl rfl hA
    have is9 := fun (z : p < 60) => zc_isf (p := p) hA2 (by omega) z
    rw [zc_Pg_g hw rfl] at is9
    refine zx_T.l (i := .iload_n 1) (k := 1) (v := .int (zI (p))) (pc := 2) rfl rfl rfl ?_
    refine zx_T.l (i := .aload_n 0) (k := 1) (v := .ref 16) (pc := 3) rfl rfl rfl ?_
    refine zw_gr (k := 0) (b := 1) (pc := 4) rfl rfl rfl hI2 ?_
    refine zw_iv (b := 1) (cj := 4) (q' := zp_m4) (As := []) (rest := [.int (zI (p))]) (pc := 7) rfl rfl rfl rfl rfl rfl rfl (Nat.le_of_ble_eq_true rfl) rfl (Nat.le_of_ble_eq_true rfl) hI2 ((zm_cPlaces (h := h2) hI2  ).up (Nat.le_of_ble_eq_true rfl)) ?_
    rintro r1 h4 ⟨h4q, v2, r1q, x3⟩
    subst h4q r1q
    try dsimp only at x3
    show zx_T zp_P 4 zp_m92 10 [(0, .ref 16), (1, .int (zI (p)))] [.int (zI (v2)), .int (zI (p))] h2 _
    refine zr_i2 (x := p) (y := v2) (t := 75) (pc := 10) rfl rfl (by omega) (by omega) (by omega) (by omega) (fun (c5 : v2 ≤ p) => ?_) (fun (c5 : ¬ (v2 ≤ p)) => ?_)
    · exact zr_vr (pc := 75) rfl rfl ⟨hI2, (hw.wd rfl : zb_W [(20, 1), (21, 0), (14, 0), (15, 0), (12, 0), (13, 0), (10, 3)] h _), rfl, by dsimp only; rw [show zv_f h 1 3 = p by omega]; exact ⟨fc, fr4⟩⟩
    · refine zx_T.l (i := .aload_n 0) (k := 1) (v := .ref 16) (pc := 13) rfl rfl rfl ?_
      refine zx_T.l (i := .iload_n 1) (k := 1) (v := .int (zI (p))) (pc := 14) rfl rfl rfl ?_
      refine zw_iv (b := 16) (cj := 83) (q' := zp_m83) (As := [.int (zI (p))]) (rest := []) (pc := 15) rfl rfl rfl rfl rfl rfl rfl (Nat.le_of_ble_eq_true rfl) rfl (Nat.le_of_ble_eq_true rfl) hI2 ((zm_mIsDead (h := h2) hI2 (p := p) (by omega) (by omega)).up (Nat.le_of_ble_eq_true rfl)) ?_
      rintro r6 h9 ⟨h9q, v7, r6q, x8⟩
      subst h9q r6q
      try dsimp only at x8
      show zx_T zp_P 4 zp_m92 18 [(0, .ref 16), (1, .int (zI (p)))] [.int (zI (v7))] h2 _
      refine zr_i1 (x := v7) (t := 69) (pc := 18) rfl rfl (by omega) (by omega) (fun (c10 : ¬ v7 = 0) => ?_) (fun (c10 : ¬ (¬ v7 = 0)) => ?_)
      · have nF : ¬ (s.R p ∧ zs_isf (zc_Pg h) s p) := fun z => by first | (have z1 := (hA2.1 p p1 (by omega)).2 z.1; omega) | (have z3 := (is9 (by omega)).2 z.2; rcases z3 with (z3 | z3) | z3; exact (hF.resolve_left (fun z => absurd z.1 (by omega))).2 z3; exact (gF.resolve_left (fun z => absurd z.1 (by omega))).2 z3; exact (bF.resolve_left (fun z => absurd z.1 (by omega))).2 z3)
        refine zr_inc (x := p) (n := 1) (y := p + 1) (ls' := [(1, .int (zI (p + 1))), (0, .ref 16)]) (pc := 69) rfl rfl rfl (by omega) rfl ?_
        refine zx_T.j (i := .goto (-70)) (k := 3) (pc' := 2) (st' := []) (pc := 72) rfl rfl rfl rfl rfl ?_
        refine zx_T.lk (ls' := [(0, .ref 16), (1, .int (zI (p + 1)))]) rfl ⟨rfl, rfl, trivial⟩ ?_
        exact ih (h2 := h2) (p := p + 1) hI2 (by omega) (by omega) (hw.wd rfl : zb_W [(20, 1), (21, 0), (14, 0), (15, 0), (12, 0), (13, 0), (10, 3)] h _) (by omega) (by rw [zs_fc_s p1, zi_f nF]; omega) (by rw [zs_fr_s p1, zi_f nF]; exact fr4) (by omega)
      · refine zx_T.l (i := .aload_n 0) (k := 1) (v := .ref 16) (pc := 21) rfl rfl rfl ?_
        refine zx_T.l (i := .iload_n 1) (k := 1) (v := .int (zI (p))) (pc := 22) rfl rfl rfl ?_
        refine zw_iv (b := 16) (cj := 93) (q' := zp_m93) (As := [.int (zI (p))]) (rest := []) (pc := 23) rfl rfl rfl rfl rfl rfl rfl (Nat.le_of_ble_eq_true rfl) rfl (Nat.le_of_ble_eq_true rfl) hI2 ((zm_mIsHandlers (h := h2) hI2 (p := p) (by omega) (by omega)).up (Nat.le_of_ble_eq_true rfl)) ?_
        rintro r12 h15 ⟨h15q, v13, r12q, x14⟩
        subst h15q r12q
        try dsimp only at x14
        have hF := x14
        show zx_T zp_P 4 zp_m92 26 [(0, .ref 16), (1, .int (zI (p)))] [.int (zI (v13))] h2 _
        refine zr_i1 (x := v13) (t := 45) (pc := 26) rfl rfl (by omega) (by omega) (fun (c16 : ¬ v13 = 0) => ?_) (fun (c16 : ¬ (¬ v13 = 0)) => ?_)
        · refine zx_T.l (i := .aload_n 0) (k := 1) (v := .ref 16) (pc := 45) rfl rfl rfl ?_
          refine zw_gr (k := 2) (b := 17) (pc := 46) rfl rfl rfl hI2 ?_
          refine zx_T.l (i := .iload_n 1) (k := 1) (v := .int (zI (p))) (pc := 49) rfl rfl rfl ?_
          refine zx_T.l (i := .aload_n 0) (k := 1) (v := .ref 16) (pc := 50) rfl rfl rfl ?_
          refine zw_gr (k := 3) (b := 20) (pc := 51) rfl rfl rfl hI2 ?_
          refine zw_iv (b := 17) (cj := 135) (q' := zp_m135) (As := [.int (zI (p)), .ref 20]) (rest := []) (pc := 54) rfl rfl rfl rfl rfl rfl rfl (Nat.le_of_ble_eq_true rfl) rfl (Nat.le_of_ble_eq_true rfl) hI2 ((zm_tRead_17_20 (h := h2) hI2 (r := p) (by omega) (by omega)).up (Nat.le_of_ble_eq_true rfl)) ?_
          rintro r17 h20 ⟨ih20, w21, r17q, x19⟩
          subst r17q
          try dsimp only at x19
          have tr1 := x19
          show zx_T zp_P 4 zp_m92 57 [(0, .ref 16), (1, .int (zI (p)))] [] h20 _
          refine zx_T.l (i := .aload_n 0) (k := 1) (v := .ref 16) (pc := 57) rfl rfl rfl ?_
          refine zw_gr (k := 1) (b := 10) (pc := 58) rfl rfl rfl ih20 ?_
          refine zx_T.l (i := .iload_n 1) (k := 1) (v := .int (zI (p))) (pc := 61) rfl rfl rfl ?_
          refine zx_T.l (i := .aload_n 0) (k := 1) (v := .ref 16) (pc := 62) rfl rfl rfl ?_
          refine zw_gr (k := 3) (b := 20) (pc := 63) rfl rfl rfl ih20 ?_
          have y22 : zv_f h20 10 3 = zv_f h2 10 3 := (zv_wf w21 rfl)
          refine zw_iv (b := 10) (cj := 28) (q' := zp_m28) (As := [.int (zI (p)), .ref 20]) (rest := []) (pc := 66) rfl rfl rfl rfl rfl rfl rfl (Nat.le_of_ble_eq_true rfl) rfl (Nat.le_of_ble_eq_true rfl) ih20 ((zm_fAddF_20 (h := h20) ih20 (p := p) (by omega) (by omega) (by omega)).up (Nat.le_of_ble_eq_true rfl)) ?_
          rintro r23 h26 ⟨ih26, w27, r23q, x25⟩
          subst r23q
          try dsimp only at x25
          have aF := x25
          show zx_T zp_P 4 zp_m92 69 [(0, .ref 16), (1, .int (zI (p)))] [] h26 _
          have yF : s.R p ∧ zs_isf (zc_Pg h) s p := ⟨(hA2.1 p p1 (by omega)).1 (by omega), (is9 (by omega)).1 (by first | exact Or.inl (Or.inl (hF.resolve_right (fun z => absurd z.1 (by omega))).2) | exact Or.inl (Or.inr (gF.resolve_right (fun z => absurd z.1 (by omega))).2) | exact Or.inr (bF.resolve_right (fun z => absurd z.1 (by omega))).2)⟩
          refine zr_inc (x := p) (n := 1) (y := p + 1) (ls' := [(1, .int (zI (p + 1))), (0, .ref 16)]) (pc := 69) rfl rfl rfl (by omega) rfl ?_
          refine zx_T.j (i := .goto (-70)) (k := 3) (pc' := 2) (st' := []) (pc := 72) rfl rfl rfl rfl rfl ?_
          refine zx_T.lk (ls' := [(0, .ref 16), (1, .int (zI (p + 1)))]) rfl ⟨rfl, rfl, trivial⟩ ?_
          exact ih (h2 := h26) (p := p + 1) ih26 (by omega) (by omega) (((hw.wd rfl : zb_W [(20, 1), (21, 0), (14, 0), (15, 0), (12, 0), (13, 0), (10, 3)] h _).tr (w21.wd rfl)).tr (w27.wd rfl)) (by omega) (by rw [zs_fc_s p1, zi_t yF]; omega) (by rw [zs_fr_s p1, zi_t yF]; exact zc_Fr_add fr4 w21 (zs_fr_ok hO hN hC.2 p.toNat (by omega)).1 hA2 yF.1 (hO.1 p yF.1).2 tr1 aF) (by omega)
        · refine zx_T.l (i := .aload_n 0) (k := 1) (v := .ref 16) (pc := 29) rfl rfl rfl ?_
          refine zx_T.l (i := .iload_n 1) (k := 1) (v := .int (zI (p))) (pc := 30) rfl rfl rfl ?_
          refine zw_iv (b := 16) (cj := 94) (q' := zp_m94) (As := [.int (zI (p))]) (rest := []) (pc := 31) rfl rfl rfl rfl rfl rfl rfl (Nat.le_of_ble_eq_true rfl) rfl (Nat.le_of_ble_eq_true rfl) hI2 ((zm_mIsGoneTo (h := h2) hI2 (p := p) (by omega) (by omega)).up (Nat.le_of_ble_eq_true rfl)) ?_
          rintro r29 h32 ⟨h32q, v30, r29q, x31⟩
          subst h32q r29q
          try dsimp only at x31
          have gF := x31
          show zx_T zp_P 4 zp_m92 34 [(0, .ref 16), (1, .int (zI (p)))] [.int (zI (v30))] h2 _
          refine zr_i1 (x := v30) (t := 45) (pc := 34) rfl rfl (by omega) (by omega) (fun (c33 : ¬ v30 = 0) => ?_) (fun (c33 : ¬ (¬ v30 = 0)) => ?_)
          · refine zx_T.l (i := .aload_n 0) (k := 1) (v := .ref 16) (pc := 45) rfl rfl rfl ?_
            refine zw_gr (k := 2) (b := 17) (pc := 46) rfl rfl rfl hI2 ?_
            refine zx_T.l (i := .iload_n 1) (k := 1) (v := .int (zI (p))) (pc := 49) rfl rfl rfl ?_
            refine zx_T.l (i := .aload_n 0) (k := 1) (v := .ref 16) (pc := 50) rfl rfl rfl ?_
            refine zw_gr (k := 3) (b := 20) (pc := 51) rfl rfl rfl hI2 ?_
            refine zw_iv (b := 17) (cj := 135) (q' := zp_m135) (As := [.int (zI (p)), .ref 20]) (rest := []) (pc := 54) rfl rfl rfl rfl rfl rfl rfl (Nat.le_of_ble_eq_true rfl) rfl (Nat.le_of_ble_eq_true rfl) hI2 ((zm_tRead_17_20 (h := h2) hI2 (r := p) (by omega) (by omega)).up (Nat.le_of_ble_eq_true rfl)) ?_
            rintro r34 h37 ⟨ih37, w38, r34q, x36⟩
            subst r34q
            try dsimp only at x36
            have tr1 := x36
            show zx_T zp_P 4 zp_m92 57 [(0, .ref 16), (1, .int (zI (p)))] [] h37 _
            refine zx_T.l (i := .aload_n 0) (k := 1) (v := .ref 16) (pc := 57) rfl rfl rfl ?_
            refine zw_gr (k := 1) (b := 10) (pc := 58) rfl rfl rfl ih37 ?_
            refine zx_T.l (i := .iload_n 1) (k := 1) (v := .int (zI (p))) (pc := 61) rfl rfl rfl ?_
            refine zx_T.l (i := .aload_n 0) (k := 1) (v := .ref 16) (pc := 62) rfl rfl rfl ?_
            refine zw_gr (k := 3) (b := 20) (pc := 63) rfl rfl rfl ih37 ?_
            have y39 : zv_f h37 10 3 = zv_f h2 10 3 := (zv_wf w38 rfl)
            refine zw_iv (b := 10) (cj := 28) (q' := zp_m28) (As := [.int (zI (p)), .ref 20]) (rest := []) (pc := 66) rfl rfl rfl rfl rfl rfl rfl (Nat.le_of_ble_eq_true rfl) rfl (Nat.le_of_ble_eq_true rfl) ih37 ((zm_fAddF_20 (h := h37) ih37 (p := p) (by omega) (by omega) (by omega)).up (Nat.le_of_ble_eq_true rfl)) ?_
            rintro r40 h43 ⟨ih43, w44, r40q, x42⟩
            subst r40q
            try dsimp only at x42
            have aF := x42
            show zx_T zp_P 4 zp_m92 69 [(0, .ref 16), (1, .int (zI (p)))] [] h43 _
            have yF : s.R p ∧ zs_isf (zc_Pg h) s p := ⟨(hA2.1 p p1 (by omega)).1 (by omega), (is9 (by omega)).1 (by first | exact Or.inl (Or.inl (hF.resolve_right (fun z => absurd z.1 (by omega))).2) | exact Or.inl (Or.inr (gF.resolve_right (fun z => absurd z.1 (by omega))).2) | exact Or.inr (bF.resolve_right (fun z => absurd z.1 (by omega))).2)⟩
            refine zr_inc (x := p) (n := 1) (y := p + 1) (ls' := [(1, .int (zI (p + 1))), (0, .ref 16)]) (pc := 69) rfl rfl rfl (by omega) rfl ?_
            refine zx_T.j (i := .goto (-70)) (k := 3) (pc' := 2) (st' := []) (pc := 72) rfl rfl rfl rfl rfl ?_
            refine zx_T.lk (ls' := [(0, .ref 16), (1, .int (zI (p + 1)))]) rfl ⟨rfl, rfl, trivial⟩ ?_
            exact ih (h2 := h43) (p := p + 1) ih43 (by omega) (by omega) (((hw.wd rfl : zb_W [(20, 1), (21, 0), (14, 0), (15, 0), (12, 0), (13, 0), (10, 3)] h _).tr (w38.wd rfl)).tr (w44.wd rfl)) (by omega) (by rw [zs_fc_s p1, zi_t yF]; omega) (by rw [zs_fr_s p1, zi_t yF]; exact zc_Fr_add fr4 w38 (zs_fr_ok hO hN hC.2 p.toNat (by omega)).1 hA2 yF.1 (hO.1 p yF.1).2 tr1 aF) (by omega)
          · refine zx_T.l (i := .aload_n 0) (k := 1) (v := .ref 16) (pc := 37) rfl rfl rfl ?_
            refine zx_T.l (i := .iload_n 1) (k := 1) (v := .int (zI (p))) (pc := 38) rfl rfl rfl ?_
            refine zw_iv (b := 16) (cj := 95) (q' := zp_m95) (As := [.int (zI (p))]) (rest := []) (pc := 39) rfl rfl rfl rfl rfl rfl rfl (Nat.le_of_ble_eq_true rfl) rfl (Nat.le_of_ble_eq_true rfl) hI2 ((zm_mIsBehindGap (h := h2) hI2 (p := p) (by omega) (by omega)).up (Nat.le_of_ble_eq_true rfl)) ?_
            rintro r46 h49 ⟨h49q, v47, r46q, x48⟩
            subst h49q r46q
            try dsimp only at x48
            have bF := x48
            show zx_T zp_P 4 zp_m92 42 [(0, .ref 16), (1, .int (zI (p)))] [.int (zI (v47))] h2 _
            refine zr_i1 (x := v47) (t := 69) (pc := 42) rfl rfl (by omega) (by omega) (fun (c50 : v47 = 0) => ?_) (fun (c50 : ¬ (v47 = 0)) => ?_)
            · have nF : ¬ (s.R p ∧ zs_isf (zc_Pg h) s p) := fun z => by first | (have z1 := (hA2.1 p p1 (by omega)).2 z.1; omega) | (have z3 := (is9 (by omega)).2 z.2; rcases z3 with (z3 | z3) | z3; exact (hF.resolve_left (fun z => absurd z.1 (by omega))).2 z3; exact (gF.resolve_left (fun z => absurd z.1 (by omega))).2 z3; exact (bF.resolve_left (fun z => absurd z.1 (by omega))).2 z3)
              refine zr_inc (x := p) (n := 1) (y := p + 1) (ls' := [(1, .int (zI (p + 1))), (0, .ref 16)]) (pc := 69) rfl rfl rfl (by omega) rfl ?_
              refine zx_T.j (i := .goto (-70)) (k := 3) (pc' := 2) (st' := []) (pc := 72) rfl rfl rfl rfl rfl ?_
              refine zx_T.lk (ls' := [(0, .ref 16), (1, .int (zI (p + 1)))]) rfl ⟨rfl, rfl, trivial⟩ ?_
              exact ih (h2 := h2) (p := p + 1) hI2 (by omega) (by omega) (hw.wd rfl : zb_W [(20, 1), (21, 0), (14, 0), (15, 0), (12, 0), (13, 0), (10, 3)] h _) (by omega) (by rw [zs_fc_s p1, zi_f nF]; omega) (by rw [zs_fr_s p1, zi_f nF]; exact fr4) (by omega)
            · refine zx_T.l (i := .aload_n 0) (k := 1) (v := .ref 16) (pc := 45) rfl rfl rfl ?_
              refine zw_gr (k := 2) (b := 17) (pc := 46) rfl rfl rfl hI2 ?_
              refine zx_T.l (i := .iload_n 1) (k := 1) (v := .int (zI (p))) (pc := 49) rfl rfl rfl ?_
              refine zx_T.l (i := .aload_n 0) (k := 1) (v := .ref 16) (pc := 50) rfl rfl rfl ?_
              refine zw_gr (k := 3) (b := 20) (pc := 51) rfl rfl rfl hI2 ?_
              refine zw_iv (b := 17) (cj := 135) (q' := zp_m135) (As := [.int (zI (p)), .ref 20]) (rest := []) (pc := 54) rfl rfl rfl rfl rfl rfl rfl (Nat.le_of_ble_eq_true rfl) rfl (Nat.le_of_ble_eq_true rfl) hI2 ((zm_tRead_17_20 (h := h2) hI2 (r := p) (by omega) (by omega)).up (Nat.le_of_ble_eq_true rfl)) ?_
              rintro r52 h55 ⟨ih55, w56, r52q, x54⟩
              subst r52q
              try dsimp only at x54
              have tr1 := x54
              show zx_T zp_P 4 zp_m92 57 [(0, .ref 16), (1, .int (zI (p)))] [] h55 _
              refine zx_T.l (i := .aload_n 0) (k := 1) (v := .ref 16) (pc := 57) rfl rfl rfl ?_
              refine zw_gr (k := 1) (b := 10) (pc := 58) rfl rfl rfl ih55 ?_
              refine zx_T.l (i := .iload_n 1) (k := 1) (v := .int (zI (p))) (pc := 61) rfl rfl rfl ?_
              refine zx_T.l (i := .aload_n 0) (k := 1) (v := .ref 16) (pc := 62) rfl rfl rfl ?_
              refine zw_gr (k := 3) (b := 20) (pc := 63) rfl rfl rfl ih55 ?_
              have y57 : zv_f h55 10 3 = zv_f h2 10 3 := (zv_wf w56 rfl)
              refine zw_iv (b := 10) (cj := 28) (q' := zp_m28) (As := [.int (zI (p)), .ref 20]) (rest := []) (pc := 66) rfl rfl rfl rfl rfl rfl rfl (Nat.le_of_ble_eq_true rfl) rfl (Nat.le_of_ble_eq_true rfl) ih55 ((zm_fAddF_20 (h := h55) ih55 (p := p) (by omega) (by omega) (by omega)).up (Nat.le_of_ble_eq_true rfl)) ?_
              rintro r58 h61 ⟨ih61, w62, r58q, x60⟩
              subst r58q
              try dsimp only at x60
              have aF := x60
              show zx_T zp_P 4 zp_m92 69 [(0, .ref 16), (1, .int (zI (p)))] [] h61 _
              have yF : s.R p ∧ zs_isf (zc_Pg h) s p := ⟨(hA2.1 p p1 (by omega)).1 (by omega), (is9 (by omega)).1 (by first | exact Or.inl (Or.inl (hF.resolve_right (fun z => absurd z.1 (by omega))).2) | exact Or.inl (Or.inr (gF.resolve_right (fun z => absurd z.1 (by omega))).2) | exact Or.inr (bF.resolve_right (fun z => absurd z.1 (by omega))).2)⟩
              refine zr_inc (x := p) (n := 1) (y := p + 1) (ls' := [(1, .int (zI (p + 1))), (0, .ref 16)]) (pc := 69) rfl rfl rfl (by omega) rfl ?_
              refine zx_T.j (i := .goto (-70)) (k := 3) (pc' := 2) (st' := []) (pc := 72) rfl rfl rfl rfl rfl ?_
              refine zx_T.lk (ls' := [(0, .ref 16), (1, .int (zI (p + 1)))]) rfl ⟨rfl, rfl, trivial⟩ ?_
              exact ih (h2 := h61) (p := p + 1) ih61 (by omega) (by omega) (((hw.wd rfl : zb_W [(20, 1), (21, 0), (14, 0), (15, 0), (12, 0), (13, 0), (10, 3)] h _).tr (w56.wd rfl)).tr (w62.wd rfl)) (by omega) (by rw [zs_fc_s p1, zi_t yF]; omega) (by rw [zs_fr_s p1, zi_t yF]; exact zc_Fr_add fr4 w56 (zs_fr_ok hO hN hC.2 p.toNat (by omega)).1 hA2 yF.1 (hO.1 p yF.1).2 tr1 aF) (by omega)
set_option maxRecDepth 100000 in
set_option maxHeartbeats 4000000 in
theorem zm_gatherFramesH {h : zx_H} (hI : zb_I zc_H h)  (s : zS) (hA : zc_A h s) (m0 : zv_f h 10 3 = 0) (hO : zs_ok (zc_Pg h) s) (hN : zs_nn s) : zx_T zp_P 4 zp_m92 0 [(0, .ref 16)] [] h (zr_V [(20, 1), (21, 0), (14, 0), (15, 0), (12, 0), (13, 0), (10, 3)] h (fun h' => zv_f h' 10 3 = zs_fc (zc_Pg h) s (zv_f h 1 3).toNat ∧ zc_Fr h' (zs_fr (zc_Pg h) s (zv_f h 1 3).toNat))) := by
  have hC := zw_ri hI (a := 1) (k := 3) rfl
  have hH := zw_ri hI (a := 1) (k := 8) rfl
  refine zx_T.s (i := .iconst 0) (k := 1) (st' := [.int (zI (0))]) (pc := 0) rfl rfl ?_
  refine zx_T.t (i := .istore_n 1) (k := 1) (ls' := [(1, .int (zI (0))), (0, .ref 16)]) (st' := []) (pc := 1) rfl rfl rfl rfl ?_
  refine zx_T.lk (ls' := [(0, .ref 16), (1, .int (zI (0)))]) rfl ⟨rfl, rfl, trivial⟩ ?_
  exact zm_gatherFramesH_L (h := h) hI  s hA m0 hO hN ((100 - 0 : Int).toNat + 1) (h2 := h) (p := 0) hI (by omega) (by omega) zb_W.rf (by omega) (by show _ = (0 : Int); omega) (zc_Fr_0 m0) (Nat.lt_succ_self _)

set_option maxRecDepth 100000 in
set_option maxHeartbeats 4000000 in
theorem zm_workOutH_L {h : zx_H} (hI : zb_I zc_H h)  (hP : zP.ok (zc_Pg h)) (hQ : zP.nn (zc_Pg h)) (n : Nat) : (∀ {h2 : zx_H} {f : Int} (hI2 : zb_I zc_H h2) (f1 : 0 ≤ f) (f2 : f ≤ 7) (cn : 1 ≤ zv_f h 1 3) (hw : zb_W [(16, 4), (16, 5), (16, 6), (10, 3), (19, 0), (20, 1), (21, 0), (18, 0), (16, 7), (14, 0), (15, 0), (12, 0), (13, 0)] h h2) (im : zv_f h2 16 4 = 0) (mz : zv_f h2 10 3 = 0) (s2 : zS) (hA2 : zc_A h2 s2) (hO2 : zs_ok (zc_Pg h) s2) (hN2 : zs_nn s2) (hM0 : f = 0 → zs_make (zc_Pg h) = zs_rounds (zc_Pg h) (3421 - zv_f h2 16 6).toNat (zv_f h2 16 6) s2) (hM1 : ¬ f = 0 → (zs_make (zc_Pg h)).1 = f ∧ (zs_make (zc_Pg h)).2.1 = zv_f h2 16 7 ∧ (zs_make (zc_Pg h)).2.2.1 = zv_f h2 16 6 ∧ 0 ≤ zv_f h2 16 7 ∧ zv_f h2 16 7 ≤ 59), (3422 - zv_f h2 16 6 : Int).toNat < n → zx_T zp_P 6 zp_m85 24 [(0, .ref 16), (1, .int (zI (f)))] [] h2 (zr_R [(16, 4), (16, 5), (16, 6), (10, 3), (19, 0), (20, 1), (21, 0), (18, 0), (16, 7), (14, 0), (15, 0), (12, 0), (13, 0)] h (fun e h' => (zc_M0 h' (zc_Pg h) e ∧ 0 ≤ e ∧ e ≤ 7) ∧ (zv_f h' 16 4 = 1 → zc_Fr h' (zs_fr (zc_Pg h) (zs_make (zc_Pg h)).2.2.2 (zv_f h 1 3).toNat))))) := by
  induction n with
  | zero => exact fun _ _ _ _ _ _ _ _ _ _ _ _ _ hm => absurd hm (Nat.not_lt_zero _)
  | succ n ih =>
    intro h2 f hI2 f1 f2 cn hw im mz s2 hA2 hO2 hN2 hM0 hM1 hm
    have hC := zw_ri hI (a := 1) (k := 3) rfl
    have hH := zw_ri hI (a := 1) (k := 8) rfl
    have d8 : zv_f h2 1 3 = zv_f h 1 3 := zv_wf hw rfl
    have hPx : zc_Pg h2 = zc_Pg h := zc_Pg_g hw rfl
    have hR9 := zw_ri hI2 (a := 16) (k := 6) rfl
    refine zx_T.l (i := .iload_n 1) (k := 1) (v := .int (zI (f))) (pc := 24) rfl rfl rfl ?_
    refine zr_i1 (x := f) (t := 68) (pc := 25) rfl rfl (by omega) (by omega) (fun (c1 : ¬ f = 0) => ?_) (fun (c1 : ¬ (¬ f = 0)) => ?_)
    · refine zx_T.l (i := .iload_n 1) (k := 1) (v := .int (zI (f))) (pc := 68) rfl rfl rfl ?_
      refine zr_i1 (x := f) (t := 81) (pc := 69) rfl rfl (by omega) (by omega) (fun (c2 : ¬ f = 0) => ?_) (fun (c2 : ¬ (¬ f = 0)) => False.elim (by omega))
      refine zx_T.l (i := .iload_n 1) (k := 1) (v := .int (zI (f))) (pc := 81) rfl rfl rfl ?_
      exact zr_ir (x := f) (pc := 82) rfl rfl rfl ⟨hI2, (hw.wd rfl : zb_W [(16, 4), (16, 5), (16, 6), (10, 3), (19, 0), (20, 1), (21, 0), (18, 0), (16, 7), (14, 0), (15, 0), (12, 0), (13, 0)] h _), _, rfl, by dsimp only; exact ⟨⟨by have m9 := hM1 (by omega); exact Or.inr (Or.inl ⟨cn, fun z => by omega, m9.1.symm, m9.2.1.symm, im, m9.2.2.1.symm, m9.2.2.2⟩), by omega, by omega⟩, fun z => absurd z (by omega)⟩⟩
    · refine zx_T.l (i := .aload_n 0) (k := 1) (v := .ref 16) (pc := 28) rfl rfl rfl ?_
      refine zw_gi (k := 5) (lo := 0) (hi := 1) (e := zv_f h2 16 5) (pc := 29) rfl rfl rfl hI2 rfl (fun g6a g6b => ?_)
      refine zr_i1 (x := zv_f h2 16 5) (t := 68) (pc := 32) rfl rfl (by omega) (by omega) (fun (c7 : (zv_f h2 16 5) = 0) => ?_) (fun (c7 : ¬ ((zv_f h2 16 5) = 0)) => ?_)
      · refine zx_T.l (i := .iload_n 1) (k := 1) (v := .int (zI (f))) (pc := 68) rfl rfl rfl ?_
        refine zr_i1 (x := f) (t := 81) (pc := 69) rfl rfl (by omega) (by omega) (fun (c8 : ¬ f = 0) => False.elim (by omega)) (fun (c8 : ¬ (¬ f = 0)) => ?_)
        refine zx_T.l (i := .aload_n 0) (k := 1) (v := .ref 16) (pc := 72) rfl rfl rfl ?_
        refine zw_iv (b := 16) (cj := 92) (q' := zp_m92) (As := []) (rest := []) (pc := 73) rfl rfl rfl rfl rfl rfl rfl (Nat.le_of_ble_eq_true rfl) rfl (Nat.le_of_ble_eq_true rfl) hI2 ((zm_gatherFramesH (h := h2) hI2  s2 hA2 mz (by rw [hPx]; exact hO2) hN2).up (Nat.le_of_ble_eq_true rfl)) ?_
        rintro r9 h12 ⟨ih12, w13, r9q, x11⟩
        subst r9q
        try dsimp only at x11
        have gF := x11
        rw [hPx] at gF
        show zx_T zp_P 6 zp_m85 76 [(0, .ref 16), (1, .int (zI (f)))] [] h12 _
        refine zx_T.l (i := .aload_n 0) (k := 1) (v := .ref 16) (pc := 76) rfl rfl rfl ?_
        refine zx_T.s (i := .iconst 1) (k := 1) (st' := [.int (zI (1)), .ref 16]) (pc := 77) rfl rfl ?_
        refine zw_pi (k := 4) (lo := 0) (hi := 1) (e := 1) (pc := 78) rfl rfl rfl rfl rfl rfl ih12 (by omega) (by omega) (fun h14 ih14 w15 e16 => ?_)
        refine zx_T.l (i := .iload_n 1) (k := 1) (v := .int (zI (f))) (pc := 81) rfl rfl rfl ?_
        have y17 : zv_f h14 16 4 = 1 := e16
        have y18 : zv_f h14 16 6 = zv_f h2 16 6 := ((zv_wf w15 rfl).trans (zv_wf w13 rfl))
        have y19 : zv_f h14 16 7 = zv_f h2 16 7 := ((zv_wf w15 rfl).trans (zv_wf w13 rfl))
        exact zr_ir (x := f) (pc := 82) rfl rfl rfl ⟨ih14, (((hw.wd rfl : zb_W [(16, 4), (16, 5), (16, 6), (10, 3), (19, 0), (20, 1), (21, 0), (18, 0), (16, 7), (14, 0), (15, 0), (12, 0), (13, 0)] h _).tr (w13.wd rfl)).tr (w15.wd rfl)), _, rfl, by dsimp only; have f0 : f = 0 := (by omega); have m9 := (hM0 f0).trans (zs_rounds_e (by first | exact Or.inl (fun z => by have z1 := hA2.2.2.2 z; omega) | exact Or.inr (by omega))); exact ⟨⟨by exact Or.inr (Or.inr (by rw [m9]; exact ⟨cn, rfl, f0, by omega, by show _ = zv_f h2 16 6; omega, by dsimp only; rw [zv_wf w15 rfl, gF.1, d8]; rfl, zc_A_g ((w13.wd rfl : zb_W [(20, 1), (21, 0), (14, 0), (15, 0), (12, 0), (13, 0), (10, 3), (16, 4)] h2 _).tr (w15.wd rfl)) rfl rfl rfl hA2, hO2, hN2⟩)), by omega, by omega⟩, fun _ => by rw [m9, show zv_f h 1 3 = zv_f h2 1 3 from d8.symm]; exact zc_Fr_w w15 rfl gF.2⟩⟩
      · refine zx_T.l (i := .aload_n 0) (k := 1) (v := .ref 16) (pc := 35) rfl rfl rfl ?_
        refine zw_gi (k := 6) (lo := 0) (hi := 3421) (e := zv_f h2 16 6) (pc := 36) rfl rfl rfl hI2 rfl (fun g20a g20b => ?_)
        refine zx_T.s (i := .sipush 3421) (k := 3) (st' := [.int (zI (3421)), .int (zI (zv_f h2 16 6))]) (pc := 39) rfl rfl ?_
        refine zr_i2 (x := zv_f h2 16 6) (y := 3421) (t := 68) (pc := 42) rfl rfl (by omega) (by omega) (by omega) (by omega) (fun (c21 : 3421 ≤ (zv_f h2 16 6)) => ?_) (fun (c21 : ¬ (3421 ≤ (zv_f h2 16 6))) => ?_)
        · refine zx_T.l (i := .iload_n 1) (k := 1) (v := .int (zI (f))) (pc := 68) rfl rfl rfl ?_
          refine zr_i1 (x := f) (t := 81) (pc := 69) rfl rfl (by omega) (by omega) (fun (c22 : ¬ f = 0) => False.elim (by omega)) (fun (c22 : ¬ (¬ f = 0)) => ?_)
          refine zx_T.l (i := .aload_n 0) (k := 1) (v := .ref 16) (pc := 72) rfl rfl rfl ?_
          refine zw_iv (b := 16) (cj := 92) (q' := zp_m92) (As := []) (rest := []) (pc := 73) rfl rfl rfl rfl rfl rfl rfl (Nat.le_of_ble_eq_true rfl) rfl (Nat.le_of_ble_eq_true rfl) hI2 ((zm_gatherFramesH (h := h2) hI2  s2 hA2 mz (by rw [hPx]; exact hO2) hN2).up (Nat.le_of_ble_eq_true rfl)) ?_
          rintro r23 h26 ⟨ih26, w27, r23q, x25⟩
          subst r23q
          try dsimp only at x25
          have gF := x25
          rw [hPx] at gF
          show zx_T zp_P 6 zp_m85 76 [(0, .ref 16), (1, .int (zI (f)))] [] h26 _
          refine zx_T.l (i := .aload_n 0) (k := 1) (v := .ref 16) (pc := 76) rfl rfl rfl ?_
          refine zx_T.s (i := .iconst 1) (k := 1) (st' := [.int (zI (1)), .ref 16]) (pc := 77) rfl rfl ?_
          refine zw_pi (k := 4) (lo := 0) (hi := 1) (e := 1) (pc := 78) rfl rfl rfl rfl rfl rfl ih26 (by omega) (by omega) (fun h28 ih28 w29 e30 => ?_)
          refine zx_T.l (i := .iload_n 1) (k := 1) (v := .int (zI (f))) (pc := 81) rfl rfl rfl ?_
          have y31 : zv_f h28 16 4 = 1 := e30
          have y32 : zv_f h28 16 6 = zv_f h2 16 6 := ((zv_wf w29 rfl).trans (zv_wf w27 rfl))
          have y33 : zv_f h28 16 7 = zv_f h2 16 7 := ((zv_wf w29 rfl).trans (zv_wf w27 rfl))
          exact zr_ir (x := f) (pc := 82) rfl rfl rfl ⟨ih28, (((hw.wd rfl : zb_W [(16, 4), (16, 5), (16, 6), (10, 3), (19, 0), (20, 1), (21, 0), (18, 0), (16, 7), (14, 0), (15, 0), (12, 0), (13, 0)] h _).tr (w27.wd rfl)).tr (w29.wd rfl)), _, rfl, by dsimp only; have f0 : f = 0 := (by omega); have m9 := (hM0 f0).trans (zs_rounds_e (by first | exact Or.inl (fun z => by have z1 := hA2.2.2.2 z; omega) | exact Or.inr (by omega))); exact ⟨⟨by exact Or.inr (Or.inr (by rw [m9]; exact ⟨cn, rfl, f0, by omega, by show _ = zv_f h2 16 6; omega, by dsimp only; rw [zv_wf w29 rfl, gF.1, d8]; rfl, zc_A_g ((w27.wd rfl : zb_W [(20, 1), (21, 0), (14, 0), (15, 0), (12, 0), (13, 0), (10, 3), (16, 4)] h2 _).tr (w29.wd rfl)) rfl rfl rfl hA2, hO2, hN2⟩)), by omega, by omega⟩, fun _ => by rw [m9, show zv_f h 1 3 = zv_f h2 1 3 from d8.symm]; exact zc_Fr_w w29 rfl gF.2⟩⟩
        · refine zx_T.l (i := .aload_n 0) (k := 1) (v := .ref 16) (pc := 45) rfl rfl rfl ?_
          refine zx_T.s (i := .iconst 0) (k := 1) (st' := [.int (zI (0)), .ref 16]) (pc := 46) rfl rfl ?_
          refine zw_pi (k := 5) (lo := 0) (hi := 1) (e := 0) (pc := 47) rfl rfl rfl rfl rfl rfl hI2 (by omega) (by omega) (fun h34 ih34 w35 e36 => ?_)
          refine zx_T.l (i := .aload_n 0) (k := 1) (v := .ref 16) (pc := 50) rfl rfl rfl ?_
          refine zx_T.s (i := .dup) (k := 1) (st' := [.ref 16, .ref 16]) (pc := 51) rfl rfl ?_
          refine zw_gi (k := 6) (lo := 0) (hi := 3421) (e := zv_f h2 16 6) (pc := 52) rfl rfl rfl ih34 (zv_wf w35 rfl) (fun g37a g37b => ?_)
          refine zx_T.s (i := .iconst 1) (k := 1) (st' := [.int (zI (1)), .int (zI (zv_f h2 16 6)), .ref 16]) (pc := 55) rfl rfl ?_
          refine zr_add (x := zv_f h2 16 6) (y := 1) (e := zv_f h2 16 6 + 1) (pc := 56) rfl (by omega) ?_
          refine zw_pi (k := 6) (lo := 0) (hi := 3421) (e := zv_f h2 16 6 + 1) (pc := 57) rfl rfl rfl rfl rfl rfl ih34 (by omega) (by omega) (fun h38 ih38 w39 e40 => ?_)
          have c5 : zv_f h38 16 5 = 0 := ((zv_wf w39 rfl).trans e36)
          have hA3 := zc_A_un ((w35.wd rfl : zb_W [(16, 5), (16, 6)] h2 _).tr (w39.wd rfl)) (by omega) hA2
          have hPy : zc_Pg h38 = zc_Pg h := zc_Pg_g (((hw.wd rfl : zb_W [(16, 4), (16, 5), (16, 6), (10, 3), (19, 0), (20, 1), (21, 0), (18, 0), (16, 7), (14, 0), (15, 0), (12, 0), (13, 0)] h _).tr (w35.wd rfl)).tr (w39.wd rfl)) rfl
          have hO3 : zs_ok (zc_Pg h38) (zs_un s2) := by rw [hPy]; exact zs_ok_un hO2
          have hP3 : zP.ok (zc_Pg h38) := by rw [hPy]; exact hP
          have hQ3 : zP.nn (zc_Pg h38) := by rw [hPy]; exact hQ
          have d7 : zv_f h38 1 3 = zv_f h 1 3 := zv_wf (((hw.wd rfl : zb_W [(16, 4), (16, 5), (16, 6), (10, 3), (19, 0), (20, 1), (21, 0), (18, 0), (16, 7), (14, 0), (15, 0), (12, 0), (13, 0)] h _).tr (w35.wd rfl)).tr (w39.wd rfl)) rfl
          have kt := (hM0 (by omega)).trans (zs_kt_s (P := zc_Pg h) (by omega) (hA2.2.2.1 (by omega)))
          refine zx_T.l (i := .aload_n 0) (k := 1) (v := .ref 16) (pc := 60) rfl rfl rfl ?_
          refine zw_iv (b := 16) (cj := 87) (q' := zp_m87) (As := []) (rest := []) (pc := 61) rfl rfl rfl rfl rfl rfl rfl (Nat.le_of_ble_eq_true rfl) rfl (Nat.le_of_ble_eq_true rfl) ih38 ((zm_goRound (h := h38) ih38  (zs_un s2) hA3 hO3 hN2 hP3 hQ3).up (Nat.le_of_ble_eq_true rfl)) ?_
          rintro r41 h44 ⟨ih44, w45, v42, r41q, x43⟩
          subst r41q
          try dsimp only at x43
          have gE := x43
          rw [hPy, d7] at gE
          show zx_T zp_P 6 zp_m85 64 [(0, .ref 16), (1, .int (zI (f)))] [.int (zI (v42))] h44 _
          refine zx_T.t (i := .istore_n 1) (k := 1) (ls' := [(1, .int (zI (v42))), (0, .ref 16)]) (st' := []) (pc := 64) rfl rfl rfl rfl ?_
          refine zx_T.j (i := .goto (-41)) (k := 3) (pc' := 24) (st' := []) (pc := 65) rfl rfl rfl rfl rfl ?_
          have y46 : zv_f h44 16 4 = zv_f h2 16 4 := ((zv_wf w45 rfl).trans ((zv_wf w39 rfl).trans (zv_wf w35 rfl)))
          have y47 : zv_f h44 10 3 = zv_f h2 10 3 := ((zv_wf w45 rfl).trans ((zv_wf w39 rfl).trans (zv_wf w35 rfl)))
          have y48 : zv_f h44 16 6 = zv_f h2 16 6 + 1 := ((zv_wf w45 rfl).trans e40)
          refine zx_T.lk (ls' := [(0, .ref 16), (1, .int (zI (v42)))]) rfl ⟨rfl, rfl, trivial⟩ ?_
          exact ih (h2 := h44) (f := v42) ih44 (by omega) (by omega) (by omega) ((((hw.wd rfl : zb_W [(16, 4), (16, 5), (16, 6), (10, 3), (19, 0), (20, 1), (21, 0), (18, 0), (16, 7), (14, 0), (15, 0), (12, 0), (13, 0)] h _).tr (w35.wd rfl)).tr (w39.wd rfl)).tr (w45.wd rfl)) (by omega) (by omega) (zs_pass (zc_Pg h) (zv_f h 1 3).toNat (zs_un s2)).2.2 gE.2.2.1 (zs_ok_pass hP hH.1 _ _ (zs_ok_un hO2)) (zs_nn_pass hP hQ hH.1 _ _ (zs_ok_un hO2) hN2) (fun z => by rw [show zv_f h44 16 6 = zv_f h2 16 6 + 1 by omega]; exact kt.trans (if_pos (gE.1.symm.trans z))) (fun z => by rw [kt.trans (if_neg (fun y => z (gE.1.trans y))), show zv_f h44 16 6 = zv_f h2 16 6 + 1 by omega]; exact ⟨gE.1.symm, (gE.2.1 z).1.symm, rfl, (gE.2.1 z).2⟩) (by omega)
set_option maxRecDepth 100000 in
set_option maxHeartbeats 4000000 in
theorem zm_workOutH {h : zx_H} (hI : zb_I zc_H h)  (hP : zP.ok (zc_Pg h)) (hQ : zP.nn (zc_Pg h)) : zx_T zp_P 6 zp_m85 0 [(0, .ref 16)] [] h (zr_R [(16, 4), (16, 5), (16, 6), (10, 3), (19, 0), (20, 1), (21, 0), (18, 0), (16, 7), (14, 0), (15, 0), (12, 0), (13, 0)] h (fun e h' => (zc_M0 h' (zc_Pg h) e ∧ 0 ≤ e ∧ e ≤ 7) ∧ (zv_f h' 16 4 = 1 → zc_Fr h' (zs_fr (zc_Pg h) (zs_make (zc_Pg h)).2.2.2 (zv_f h 1 3).toNat)))) := by
  have hC := zw_ri hI (a := 1) (k := 3) rfl
  have hH := zw_ri hI (a := 1) (k := 8) rfl
  refine zx_T.l (i := .aload_n 0) (k := 1) (v := .ref 16) (pc := 0) rfl rfl rfl ?_
  refine zw_iv (b := 16) (cj := 86) (q' := zp_m86) (As := []) (rest := []) (pc := 1) rfl rfl rfl rfl rfl rfl rfl (Nat.le_of_ble_eq_true rfl) rfl (Nat.le_of_ble_eq_true rfl) hI ((zm_mBegin (h := h) hI  ).up (Nat.le_of_ble_eq_true rfl)) ?_
  rintro r49 h52 ⟨ih52, w53, r49q, x51⟩
  subst r49q
  try dsimp only at x51
  have mB := x51
  show zx_T zp_P 6 zp_m85 4 [(0, .ref 16)] [] h52 _
  refine zx_T.l (i := .aload_n 0) (k := 1) (v := .ref 16) (pc := 4) rfl rfl rfl ?_
  refine zw_gr (k := 0) (b := 1) (pc := 5) rfl rfl rfl ih52 ?_
  refine zw_iv (b := 1) (cj := 4) (q' := zp_m4) (As := []) (rest := []) (pc := 8) rfl rfl rfl rfl rfl rfl rfl (Nat.le_of_ble_eq_true rfl) rfl (Nat.le_of_ble_eq_true rfl) ih52 ((zm_cPlaces (h := h52) ih52  ).up (Nat.le_of_ble_eq_true rfl)) ?_
  rintro r54 h57 ⟨h57q, v55, r54q, x56⟩
  subst h57q r54q
  try dsimp only at x56
  have d6 : zv_f h52 1 3 = zv_f h 1 3 := zv_wf w53 rfl
  show zx_T zp_P 6 zp_m85 11 [(0, .ref 16)] [.int (zI (v55))] h52 _
  refine zr_i1 (x := v55) (t := 22) (pc := 11) rfl rfl (by omega) (by omega) (fun (c58 : ¬ v55 = 0) => ?_) (fun (c58 : ¬ (¬ v55 = 0)) => ?_)
  · refine zx_T.s (i := .iconst 0) (k := 1) (st' := [.int (zI (0))]) (pc := 22) rfl rfl ?_
    refine zx_T.t (i := .istore_n 1) (k := 1) (ls' := [(1, .int (zI (0))), (0, .ref 16)]) (st' := []) (pc := 23) rfl rfl rfl rfl ?_
    refine zx_T.lk (ls' := [(0, .ref 16), (1, .int (zI (0)))]) rfl ⟨rfl, rfl, trivial⟩ ?_
    exact zm_workOutH_L (h := h) hI  hP hQ ((3422 - zv_f h52 16 6 : Int).toNat + 1) (h2 := h52) (f := 0) ih52 (by omega) (by omega) (by omega) (w53.wd rfl : zb_W [(16, 4), (16, 5), (16, 6), (10, 3), (19, 0), (20, 1), (21, 0), (18, 0), (16, 7), (14, 0), (15, 0), (12, 0), (13, 0)] h _) (by omega) (by omega) (zs_first (zc_Pg h)) mB.2.2.2 (zs_ok_first hP (by show 1 ≤ zv_f h 1 3; omega)) (zs_nn_first hQ) (fun _ => by rw [mB.2.1]; rfl) (fun z => absurd rfl z) (Nat.lt_succ_self _)
  · refine zx_T.l (i := .aload_n 0) (k := 1) (v := .ref 16) (pc := 14) rfl rfl rfl ?_
    refine zx_T.s (i := .iconst (-1)) (k := 1) (st' := [.int (zI ((-1))), .ref 16]) (pc := 15) rfl rfl ?_
    refine zw_pi (k := 7) (lo := (-2147483648)) (hi := 2147483647) (e := (-1)) (pc := 16) rfl rfl rfl rfl rfl rfl ih52 (by omega) (by omega) (fun h62 ih62 w63 e64 => ?_)
    refine zx_T.s (i := .bipush 6) (k := 2) (st' := [.int (zI (6))]) (pc := 19) rfl rfl ?_
    have y65 : zv_f h62 16 4 = zv_f h52 16 4 := (zv_wf w63 rfl)
    have y66 : zv_f h62 16 6 = zv_f h52 16 6 := (zv_wf w63 rfl)
    have y67 : zv_f h62 16 7 = (-1) := e64
    exact zr_ir (x := 6) (pc := 21) rfl rfl rfl ⟨ih62, ((w53.wd rfl : zb_W [(16, 4), (16, 5), (16, 6), (10, 3), (19, 0), (20, 1), (21, 0), (18, 0), (16, 7), (14, 0), (15, 0), (12, 0), (13, 0)] h _).tr (w63.wd rfl)), _, rfl, by dsimp only; exact ⟨⟨by exact Or.inl ⟨by show zv_f h 1 3 = 0; omega, rfl, by omega, by omega, by omega⟩, by omega, by omega⟩, fun z => absurd z (by omega)⟩⟩

set_option maxRecDepth 100000 in
set_option maxHeartbeats 4000000 in
theorem zm_cMakeH {h : zx_H} (hI : zb_I zc_H h)  (hP : zP.ok (zc_Pg h)) (hQ : zP.nn (zc_Pg h)) : zx_T zp_P 7 zp_m139 0 [(0, .ref 0)] [] h (zr_R [(0, 6), (16, 4), (16, 5), (16, 6), (10, 3), (19, 0), (20, 1), (21, 0), (18, 0), (16, 7), (14, 0), (15, 0), (12, 0), (13, 0)] h (fun e h' => zc_M h' (zc_Pg h) e ∧ (zv_f h' 16 4 = 1 → zc_Fr h' (zs_fr (zc_Pg h) (zs_make (zc_Pg h)).2.2.2 (zv_f h 1 3).toNat)))) := by
  have hC := zw_ri hI (a := 1) (k := 3) rfl
  have hH := zw_ri hI (a := 1) (k := 8) rfl
  refine zx_T.l (i := .aload_n 0) (k := 1) (v := .ref 0) (pc := 0) rfl rfl rfl ?_
  refine zx_T.l (i := .aload_n 0) (k := 1) (v := .ref 0) (pc := 1) rfl rfl rfl ?_
  refine zw_gr (k := 2) (b := 16) (pc := 2) rfl rfl rfl hI ?_
  refine zw_iv (b := 16) (cj := 85) (q' := zp_m85) (As := []) (rest := [.ref 0]) (pc := 5) rfl rfl rfl rfl rfl rfl rfl (Nat.le_of_ble_eq_true rfl) rfl (Nat.le_of_ble_eq_true rfl) hI ((zm_workOutH (h := h) hI  (by omega) (by omega)).up (Nat.le_of_ble_eq_true rfl)) ?_
  rintro r1 h4 ⟨ih4, w5, v2, r1q, x3⟩
  subst r1q
  try dsimp only at x3
  have mO := x3.1.1
  have mR := x3.1.2
  have mH := x3.2
  show zx_T zp_P 7 zp_m139 8 [(0, .ref 0)] [.int (zI (v2)), .ref 0] h4 _
  refine zw_pi (k := 6) (lo := (-2147483648)) (hi := 2147483647) (e := v2) (pc := 8) rfl rfl rfl rfl rfl rfl ih4 (by omega) (by omega) (fun h6 ih6 w7 e8 => ?_)
  refine zx_T.l (i := .aload_n 0) (k := 1) (v := .ref 0) (pc := 11) rfl rfl rfl ?_
  refine zw_gi (k := 6) (lo := (-2147483648)) (hi := 2147483647) (e := v2) (pc := 12) rfl rfl rfl ih6 e8 (fun g9a g9b => ?_)
  refine zr_i1 (x := v2) (t := 28) (pc := 15) rfl rfl (by omega) (by omega) (fun (c10 : ¬ v2 = 0) => ?_) (fun (c10 : ¬ (¬ v2 = 0)) => ?_)
  · have fr9 : (-1) ≤ zv_f h6 16 7 ∧ zv_f h6 16 7 ≤ 60 := by rw [zv_wf w7 rfl]; rcases mO with m | m | m; omega; omega; omega
    refine zx_T.l (i := .aload_n 0) (k := 1) (v := .ref 0) (pc := 28) rfl rfl rfl ?_
    refine zw_gr (k := 2) (b := 16) (pc := 29) rfl rfl rfl ih6 ?_
    refine zw_iv (b := 16) (cj := 80) (q' := zp_m80) (As := []) (rest := []) (pc := 32) rfl rfl rfl rfl rfl rfl rfl (Nat.le_of_ble_eq_true rfl) rfl (Nat.le_of_ble_eq_true rfl) ih6 ((zm_mFaultPlace (h := h6) ih6  ).up (Nat.le_of_ble_eq_true rfl)) ?_
    rintro r11 h14 ⟨h14q, v12, r11q, x13⟩
    subst h14q r11q
    try dsimp only at x13
    have fp := x13.1
    show zx_T zp_P 7 zp_m139 35 [(0, .ref 0)] [.int (zI (v12))] h6 _
    refine zr_is (cj := 154) (q' := zp_m154) (As := [.int (zI (v12))]) (rest := []) (pc := 35) rfl rfl rfl rfl rfl rfl (Nat.le_of_ble_eq_true rfl) rfl (Nat.le_of_ble_eq_true rfl) rfl ((zm_cRefusedAt (h := h6) ih6 (p := v12) (by omega) (by omega)).up (Nat.le_of_ble_eq_true rfl)) ?_
    rintro r15 h18 ⟨h18q, v16, r15q, x17⟩
    subst h18q r15q
    try dsimp only at x17
    have rf := x17.1
    show zx_T zp_P 7 zp_m139 38 [(0, .ref 0)] [.int (zI (v16))] h6 _
    have y19 : zv_f h6 0 6 = v2 := e8
    have y20 : zv_f h6 16 4 = zv_f h4 16 4 := (zv_wf w7 rfl)
    have y21 : zv_f h6 16 6 = zv_f h4 16 6 := (zv_wf w7 rfl)
    have y22 : zv_f h6 16 7 = zv_f h4 16 7 := (zv_wf w7 rfl)
    have y23 : zv_f h6 10 3 = zv_f h4 10 3 := (zv_wf w7 rfl)
    exact zr_ir (x := v16) (pc := 38) rfl rfl rfl ⟨ih6, ((w5.wd rfl : zb_W [(0, 6), (16, 4), (16, 5), (16, 6), (10, 3), (19, 0), (20, 1), (21, 0), (18, 0), (16, 7), (14, 0), (15, 0), (12, 0), (13, 0)] h _).tr (w7.wd rfl)), _, rfl, by dsimp only; exact ⟨by rcases mO with m | m | m; exact Or.inl ⟨m.1, by omega, by omega, by omega, by omega⟩; exact Or.inr (Or.inl ⟨m.1, m.2.1, by omega, by omega, by omega, by omega⟩); exact False.elim (by omega), fun z => zc_Fr_w w7 rfl (mH (by rw [← zv_wf w7 rfl]; exact z))⟩⟩
  · refine zx_T.l (i := .aload_n 0) (k := 1) (v := .ref 0) (pc := 18) rfl rfl rfl ?_
    refine zw_gr (k := 1) (b := 10) (pc := 19) rfl rfl rfl ih6 ?_
    refine zw_iv (b := 10) (cj := 30) (q' := zp_m30) (As := []) (rest := []) (pc := 22) rfl rfl rfl rfl rfl rfl rfl (Nat.le_of_ble_eq_true rfl) rfl (Nat.le_of_ble_eq_true rfl) ih6 ((zm_fHowMany (h := h6) ih6  ).up (Nat.le_of_ble_eq_true rfl)) ?_
    rintro r24 h27 ⟨h27q, v25, r24q, x26⟩
    subst h27q r24q
    try dsimp only at x26
    have hy := x26.1
    show zx_T zp_P 7 zp_m139 25 [(0, .ref 0)] [.int (zI (v25))] h6 _
    refine zx_T.j (i := .goto 13) (k := 3) (pc' := 38) (st' := [.int (zI (v25))]) (pc := 25) rfl rfl rfl rfl rfl ?_
    have y28 : zv_f h6 0 6 = v2 := e8
    have y29 : zv_f h6 16 4 = zv_f h4 16 4 := (zv_wf w7 rfl)
    have y30 : zv_f h6 16 6 = zv_f h4 16 6 := (zv_wf w7 rfl)
    have y31 : zv_f h6 16 7 = zv_f h4 16 7 := (zv_wf w7 rfl)
    have y32 : zv_f h6 10 3 = zv_f h4 10 3 := (zv_wf w7 rfl)
    exact zr_ir (x := v25) (pc := 38) rfl rfl rfl ⟨ih6, ((w5.wd rfl : zb_W [(0, 6), (16, 4), (16, 5), (16, 6), (10, 3), (19, 0), (20, 1), (21, 0), (18, 0), (16, 7), (14, 0), (15, 0), (12, 0), (13, 0)] h _).tr (w7.wd rfl)), _, rfl, by dsimp only; exact ⟨by rcases mO with m | m | m; exact False.elim (by omega); exact False.elim (by omega); exact Or.inr (Or.inr ⟨m.1, m.2.1, by omega, by omega, by omega, by omega, by omega, zc_A_g w7 rfl rfl rfl m.2.2.2.2.2.2.1, m.2.2.2.2.2.2.2.1, m.2.2.2.2.2.2.2.2⟩), fun z => zc_Fr_w w7 rfl (mH (by rw [← zv_wf w7 rfl]; exact z))⟩⟩
