/-! ===== 97zo: the reference, method by method (by program) ===== -/
theorem zk_gfh_i {W : List (Nat × Nat)} {h h2 h' : zx_H} {op a : Int} (w : zb_W W h h2) (e : (za_in W 4 0 || za_in W 34 9 || za_in W 1 3 || za_in W 34 12 || za_in W 34 8) = false) (e0 : zv_b h2 39 0 = zk_tv (zk_of h) 0) (e1 : zv_a h2 40 0 = zk_kd (zk_of h) 0) (ho : op = zv_a h 2 (zv_f h 34 9)) (ha : a = zv_a h 3 (zv_f h 34 9)) (x : zk_gfh h2 h' op a) : zk_gf (zc_Pg h) (zk_of h) (zk_of h') := by
  subst ho ha
  simp only [Bool.or_eq_false_iff] at e
  obtain ⟨⟨⟨⟨f1, f2⟩, f3⟩, f4⟩, f5⟩ := e
  unfold zk_gfh at x
  rw [e0, e1, zv_wa w f1, zv_wf w f2, zv_wf w f3, zv_wf w f4, zv_wf w f5] at x
  exact x

set_option maxRecDepth 100000 in
set_option maxHeartbeats 8000000 in
theorem zm_mStep {h : zx_H} (hI : zb_I zc_H h)  (pl : (0 ≤ zv_f h 34 9 ∧ zv_f h 34 9 < zv_f h 1 3)) (o9 : 0 ≤ zv_a h 2 (zv_f h 34 9) ∧ zv_a h 2 (zv_f h 34 9) ≤ 28) (a9 : zv_a h 2 (zv_f h 34 9) = 21 → 5 ≤ zv_a h 3 (zv_f h 34 9) ∧ zv_a h 3 (zv_f h 34 9) ≤ 8) (wk9 : zw_ok (0, zv_f h 36 1, zv_a h 37)) (kk9 : zk_in (zv_f h 36 1) (zv_a h 37)) (rf9 : 0 ≤ zv_f h 34 14 ∧ zv_f h 34 14 ≤ 100000) : zx_T zp_P 6 zp_m61 0 [(0, .ref 34)] [] h (zr_V [(40, 0), (39, 0), (36, 1), (37, 0), (38, 0), (42, 0), (43, 0), (41, 2), (34, 9), (34, 12), (34, 8), (34, 11), (34, 13), (34, 14)] h (fun h' => zk_st (zc_Pg h) (zk_of h) (zk_of h'))) := by
  have hS := zw_ri hI (a := 36) (k := 1) rfl
  have hN9 := zw_ri hI (a := 41) (k := 2) rfl
  have hC := zw_ri hI (a := 1) (k := 3) rfl
  refine zx_T.l (i := .aload_n 0) (k := 1) (v := .ref 34) (pc := 0) rfl rfl rfl ?_
  refine zw_gr (k := 0) (b := 1) (pc := 1) rfl rfl rfl hI ?_
  refine zx_T.l (i := .aload_n 0) (k := 1) (v := .ref 34) (pc := 4) rfl rfl rfl ?_
  refine zw_gi (k := 9) (lo := (-2147483648)) (hi := 2147483647) (e := zv_f h 34 9) (pc := 5) rfl rfl rfl hI rfl (fun g1a g1b => ?_)
  refine zw_iv (b := 1) (cj := 8) (q' := zp_m8) (As := [.int (zI (zv_f h 34 9))]) (rest := []) (pc := 8) rfl rfl rfl rfl rfl rfl rfl (Nat.le_of_ble_eq_true rfl) rfl (Nat.le_of_ble_eq_true rfl) hI ((zm_cOpAt (h := h) hI (p := zv_f h 34 9) (by omega) (by omega)).up (Nat.le_of_ble_eq_true rfl)) ?_
  rintro r3 h6 ⟨h6q, v4, r3q, x5⟩
  subst h6q r3q
  try dsimp only at x5
  have oA := x5.1
  show zx_T zp_P 6 zp_m61 11 [(0, .ref 34)] [.int (zI (v4))] h _
  refine zx_T.t (i := .istore_n 1) (k := 1) (ls' := [(1, .int (zI (v4))), (0, .ref 34)]) (st' := []) (pc := 11) rfl rfl rfl rfl ?_
  refine zx_T.l (i := .aload_n 0) (k := 1) (v := .ref 34) (pc := 12) rfl rfl rfl ?_
  refine zw_gr (k := 0) (b := 1) (pc := 13) rfl rfl rfl hI ?_
  refine zx_T.l (i := .aload_n 0) (k := 1) (v := .ref 34) (pc := 16) rfl rfl rfl ?_
  refine zw_gi (k := 9) (lo := (-2147483648)) (hi := 2147483647) (e := zv_f h 34 9) (pc := 17) rfl rfl rfl hI rfl (fun g7a g7b => ?_)
  refine zw_iv (b := 1) (cj := 9) (q' := zp_m9) (As := [.int (zI (zv_f h 34 9))]) (rest := []) (pc := 20) rfl rfl rfl rfl rfl rfl rfl (Nat.le_of_ble_eq_true rfl) rfl (Nat.le_of_ble_eq_true rfl) hI ((zm_cFirstAt (h := h) hI (p := zv_f h 34 9) (by omega) (by omega)).up (Nat.le_of_ble_eq_true rfl)) ?_
  rintro r9 h12 ⟨h12q, v10, r9q, x11⟩
  subst h12q r9q
  try dsimp only at x11
  have fA := x11.1
  show zx_T zp_P 6 zp_m61 23 [(1, .int (zI (v4))), (0, .ref 34)] [.int (zI (v10))] h _
  refine zx_T.t (i := .istore_n 2) (k := 1) (ls' := [(2, .int (zI (v10))), (1, .int (zI (v4))), (0, .ref 34)]) (st' := []) (pc := 23) rfl rfl rfl rfl ?_
  refine zx_T.l (i := .aload_n 0) (k := 1) (v := .ref 34) (pc := 24) rfl rfl rfl ?_
  refine zw_iv (b := 34) (cj := 62) (q' := zp_m62) (As := []) (rest := []) (pc := 25) rfl rfl rfl rfl rfl rfl rfl (Nat.le_of_ble_eq_true rfl) rfl (Nat.le_of_ble_eq_true rfl) hI ((zm_mLook (h := h) hI  ).up (Nat.le_of_ble_eq_true rfl)) ?_
  rintro r13 h16 ⟨ih16, w17, r13q, x15⟩
  subst r13q
  try dsimp only at x15
  have lK := x15
  show zx_T zp_P 6 zp_m61 28 [(2, .int (zI (v10))), (1, .int (zI (v4))), (0, .ref 34)] [] h16 _
  refine zx_T.l (i := .aload_n 0) (k := 1) (v := .ref 34) (pc := 28) rfl rfl rfl ?_
  refine zw_gr (k := 2) (b := 36) (pc := 29) rfl rfl rfl ih16 ?_
  refine zx_T.l (i := .iload_n 1) (k := 1) (v := .int (zI (v4))) (pc := 32) rfl rfl rfl ?_
  refine zx_T.l (i := .iload_n 2) (k := 1) (v := .int (zI (v10))) (pc := 33) rfl rfl rfl ?_
  refine zr_is (cj := 20) (q' := zp_m20) (As := [.ref 36, .int (zI (v4)), .int (zI (v10))]) (rest := []) (pc := 34) rfl rfl rfl rfl rfl rfl (Nat.le_of_ble_eq_true rfl) rfl (Nat.le_of_ble_eq_true rfl) rfl ((zm_applyE_36 (h := h16) ih16 (op := v4) (a := v10) (by omega) (by omega) (by omega) (by omega) (by omega) (by simp only [show zv_f h16 36 1 = zv_f h 36 1 from zv_wf (w17.wd rfl : zb_W [(40, 0), (39, 0)] h _) rfl, show zv_a h16 37 = zv_a h 37 from funext (fun q => zv_wa (w17.wd rfl : zb_W [(40, 0), (39, 0)] h _) rfl q)]; exact kk9) (by simp only [show zv_f h16 36 1 = zv_f h 36 1 from zv_wf (w17.wd rfl : zb_W [(40, 0), (39, 0)] h _) rfl, show zv_a h16 37 = zv_a h 37 from funext (fun q => zv_wa (w17.wd rfl : zb_W [(40, 0), (39, 0)] h _) rfl q)]; exact zw_top wk9)).up (Nat.le_of_ble_eq_true rfl)) ?_
  rintro r18 h21 ⟨ih21, w22, v19, r18q, x20⟩
  subst r18q
  try dsimp only at x20
  have aP := x20; have lW : zb_W [(40, 0), (39, 0), (36, 1), (37, 0)] h h21 := ((w17.wd rfl : zb_W [(40, 0), (39, 0), (36, 1), (37, 0)] h _).tr (w22.wd rfl)); simp only [show zv_f h16 36 1 = zv_f h 36 1 from zv_wf (w17.wd rfl : zb_W [(40, 0), (39, 0)] h _) rfl, show zv_a h16 37 = zv_a h 37 from funext (fun q => zv_wa (w17.wd rfl : zb_W [(40, 0), (39, 0)] h _) rfl q)] at aP; have sA : zv_f h21 36 1 = (zc_ap _ _ (0, zv_f h 36 1, zv_a h 37)).2.1 := aP.1.2.1; have nA : ∀ j, 0 ≤ j → zv_a h21 37 j = (zc_ap _ _ (0, zv_f h 36 1, zv_a h 37)).2.2 j := aP.1.2.2
  show zx_T zp_P 6 zp_m61 37 [(2, .int (zI (v10))), (1, .int (zI (v4))), (0, .ref 34)] [.int (zI (v19))] h21 _
  refine zx_T.t (i := .istore_n 3) (k := 1) (ls' := [(3, .int (zI (v19))), (2, .int (zI (v10))), (1, .int (zI (v4))), (0, .ref 34)]) (st' := []) (pc := 37) rfl rfl rfl rfl ?_
  refine zx_T.l (i := .iload_n 3) (k := 1) (v := .int (zI (v19))) (pc := 38) rfl rfl rfl ?_
  refine zr_i1 (x := v19) (t := 48) (pc := 39) rfl rfl (by omega) (by omega) (fun (c23 : v19 = 0) => ?_) (fun (c23 : ¬ (v19 = 0)) => ?_)
  · have x0 : (zc_ap (v4) (v10) (0, zv_f h 36 1, zv_a h 37)).1 = 0 := aP.1.1.symm.trans (by omega)
    have k1 := zk_ap1 wk9 (by omega) (by omega) x0
    have lKa : ∀ q, 0 ≤ q → q < 3 → zv_a h21 40 q = zk_kd (zk_of h) q ∧ zv_b h21 39 q = zk_tv (zk_of h) q := fun q q0 q1 => by rw [zv_wa w22 rfl q, zv_wb w22 rfl q]; exact lK q q0 q1
    have kz9 : (v4 = 21 ∨ v4 = 22) → 0 ≤ zv_a h21 40 0 ∧ zv_a h21 40 0 ≤ 8 := fun z => by have z1 := k1.2.1 z; rw [(lKa 0 (by decide) (by decide)).1]; show 0 ≤ (if (0 : Int) < zv_f h 36 1 then zv_a h 37 (zv_f h 36 1 + 7 - 0) else -1) ∧ (if (0 : Int) < zv_f h 36 1 then zv_a h 37 (zv_f h 36 1 + 7 - 0) else -1) ≤ 8; rw [if_pos (by omega)]; exact kk9 _ (by omega) (by omega)
    have lK0 : zv_a h16 40 0 = zk_kd (zk_of h) 0 ∧ zv_b h16 39 0 = zk_tv (zk_of h) 0 := lK 0 (by decide) (by decide)
    have kz8 : (v4 = 21 ∨ v4 = 22) → 0 ≤ zv_a h16 40 0 ∧ zv_a h16 40 0 ≤ 8 := fun z => by rw [← zv_wa w22 (a := 40) rfl 0]; exact kz9 z
    refine zx_T.l (i := .aload_n 0) (k := 1) (v := .ref 34) (pc := 48) rfl rfl rfl ?_
    refine zx_T.l (i := .iload_n 1) (k := 1) (v := .int (zI (v4))) (pc := 49) rfl rfl rfl ?_
    refine zx_T.l (i := .iload_n 2) (k := 1) (v := .int (zI (v10))) (pc := 50) rfl rfl rfl ?_
    refine zw_iv (b := 34) (cj := 64) (q' := zp_m64) (As := [.int (zI (v4)), .int (zI (v10))]) (rest := []) (pc := 51) rfl rfl rfl rfl rfl rfl rfl (Nat.le_of_ble_eq_true rfl) rfl (Nat.le_of_ble_eq_true rfl) ih21 ((zm_mRefusalOf (h := h21) ih21 (op := v4) (a := v10) (by omega) (by omega) (by omega) (by omega) (fun z => kz9 (Or.inl z))).up (Nat.le_of_ble_eq_true rfl)) ?_
    rintro r24 h27 ⟨h27q, v25, r24q, x26⟩
    subst h27q r24q
    try dsimp only at x26
    have rF := x26.1; simp only [show zv_f h21 41 2 = zv_f h 41 2 from zv_wf ((w17.wd rfl : zb_W [(40, 0), (39, 0), (36, 1), (37, 0)] h _).tr (w22.wd rfl)) rfl, show zv_a h21 42 = zv_a h 42 from funext (fun q => zv_wa ((w17.wd rfl : zb_W [(40, 0), (39, 0), (36, 1), (37, 0)] h _).tr (w22.wd rfl)) rfl q)] at rF; have rF2 := zk_rf_cg (K' := zk_kd (zk_of h)) (T' := zk_tv (zk_of h)) (fun q q0 q1 => by first | exact (lKa q q0 q1)) rF
    show zx_T zp_P 6 zp_m61 54 [(3, .int (zI (v19))), (2, .int (zI (v10))), (1, .int (zI (v4))), (0, .ref 34)] [.int (zI (v25))] h21 _
    refine zx_T.t (i := .istore 4) (k := 2) (ls' := [(4, .int (zI (v25))), (3, .int (zI (v19))), (2, .int (zI (v10))), (1, .int (zI (v4))), (0, .ref 34)]) (st' := []) (pc := 54) rfl rfl rfl rfl ?_
    refine zx_T.l (i := .iload 4) (k := 2) (v := .int (zI (v25))) (pc := 56) rfl rfl rfl ?_
    refine zr_i1 (x := v25) (t := 83) (pc := 58) rfl rfl (by omega) (by omega) (fun (c28 : v25 = 0) => ?_) (fun (c28 : ¬ (v25 = 0)) => ?_)
    · have nA9 := nA
      refine zx_T.l (i := .iload_n 1) (k := 1) (v := .int (zI (v4))) (pc := 83) rfl rfl rfl ?_
      refine zx_T.s (i := .bipush 22) (k := 2) (st' := [.int (zI (22)), .int (zI (v4))]) (pc := 84) rfl rfl ?_
      refine zr_i2 (x := v4) (y := 22) (t := 108) (pc := 86) rfl rfl (by omega) (by omega) (by omega) (by omega) (fun (c29 : ¬ v4 = 22) => ?_) (fun (c29 : ¬ (¬ v4 = 22)) => ?_)
      · refine zx_T.l (i := .iload_n 1) (k := 1) (v := .int (zI (v4))) (pc := 108) rfl rfl rfl ?_
        refine zx_T.s (i := .bipush 23) (k := 2) (st' := [.int (zI (23)), .int (zI (v4))]) (pc := 109) rfl rfl ?_
        refine zr_i2 (x := v4) (y := 23) (t := 122) (pc := 111) rfl rfl (by omega) (by omega) (by omega) (by omega) (fun (c30 : ¬ v4 = 23) => ?_) (fun (c30 : ¬ (¬ v4 = 23)) => ?_)
        · refine zx_T.l (i := .aload_n 0) (k := 1) (v := .ref 34) (pc := 122) rfl rfl rfl ?_
          refine zx_T.l (i := .iload_n 1) (k := 1) (v := .int (zI (v4))) (pc := 123) rfl rfl rfl ?_
          refine zx_T.l (i := .iload_n 2) (k := 1) (v := .int (zI (v10))) (pc := 124) rfl rfl rfl ?_
          refine zw_iv (b := 34) (cj := 66) (q' := zp_m66) (As := [.int (zI (v4)), .int (zI (v10))]) (rest := []) (pc := 125) rfl rfl rfl rfl rfl rfl rfl (Nat.le_of_ble_eq_true rfl) rfl (Nat.le_of_ble_eq_true rfl) ih21 ((zm_mWork (h := h21) ih21 (op := v4) (a := v10) (by omega) (by omega) (by omega) (by omega) (by simp only [show zv_f h21 34 9 = zv_f h 34 9 from zv_wf ((w17.wd rfl : zb_W [(40, 0), (39, 0), (36, 1), (37, 0)] h _).tr (w22.wd rfl)) rfl, show zv_f h21 1 3 = zv_f h 1 3 from zv_wf ((w17.wd rfl : zb_W [(40, 0), (39, 0), (36, 1), (37, 0)] h _).tr (w22.wd rfl)) rfl]; exact pl) (fun z => k1.1 z) (fun z => by have z1 := k1.2.2 z; rw [← sA] at z1; exact z1)).up (Nat.le_of_ble_eq_true rfl)) ?_
          rintro r31 h34 ⟨ih34, w35, r31q, x33⟩
          subst r31q
          try dsimp only at x33
          have wK := x33; simp only [show zv_a h21 4 = zv_a h 4 from funext (fun q => zv_wa ((w17.wd rfl : zb_W [(40, 0), (39, 0), (36, 1), (37, 0)] h _).tr (w22.wd rfl)) rfl q), show zv_f h21 34 9 = zv_f h 34 9 from zv_wf ((w17.wd rfl : zb_W [(40, 0), (39, 0), (36, 1), (37, 0)] h _).tr (w22.wd rfl)) rfl, show zv_f h21 41 2 = zv_f h 41 2 from zv_wf ((w17.wd rfl : zb_W [(40, 0), (39, 0), (36, 1), (37, 0)] h _).tr (w22.wd rfl)) rfl, show zv_b h21 38 = zv_b h 38 from funext (fun q => zv_wb ((w17.wd rfl : zb_W [(40, 0), (39, 0), (36, 1), (37, 0)] h _).tr (w22.wd rfl)) rfl q), show zv_a h21 42 = zv_a h 42 from funext (fun q => zv_wa ((w17.wd rfl : zb_W [(40, 0), (39, 0), (36, 1), (37, 0)] h _).tr (w22.wd rfl)) rfl q), show zv_a h21 43 = zv_a h 43 from funext (fun q => zv_wa ((w17.wd rfl : zb_W [(40, 0), (39, 0), (36, 1), (37, 0)] h _).tr (w22.wd rfl)) rfl q), sA] at wK; have wK2 := zk_wk_cg (T' := zk_tv (zk_of h)) (fun q q0 q1 => (lKa q q0 q1).2) wK.1
          show zx_T zp_P 6 zp_m61 128 [(4, .int (zI (v25))), (3, .int (zI (v19))), (2, .int (zI (v10))), (1, .int (zI (v4))), (0, .ref 34)] [] h34 _
          refine zx_T.l (i := .aload_n 0) (k := 1) (v := .ref 34) (pc := 128) rfl rfl rfl ?_
          refine zx_T.l (i := .iload_n 1) (k := 1) (v := .int (zI (v4))) (pc := 129) rfl rfl rfl ?_
          refine zx_T.l (i := .iload_n 2) (k := 1) (v := .int (zI (v10))) (pc := 130) rfl rfl rfl ?_
          refine zw_iv (b := 34) (cj := 69) (q' := zp_m69) (As := [.int (zI (v4)), .int (zI (v10))]) (rest := []) (pc := 131) rfl rfl rfl rfl rfl rfl rfl (Nat.le_of_ble_eq_true rfl) rfl (Nat.le_of_ble_eq_true rfl) ih34 ((zm_mGoFrom (h := h34) ih34 (op := v4) (a := v10) (by omega) (by omega) (by omega) (by omega) (by simp only [show zv_f h34 34 9 = zv_f h 34 9 from zv_wf (((w17.wd rfl : zb_W [(40, 0), (39, 0), (36, 1), (37, 0), (38, 0), (42, 0), (43, 0), (41, 2)] h _).tr (w22.wd rfl)).tr (w35.wd rfl)) rfl, show zv_f h34 1 3 = zv_f h 1 3 from zv_wf (((w17.wd rfl : zb_W [(40, 0), (39, 0), (36, 1), (37, 0), (38, 0), (42, 0), (43, 0), (41, 2)] h _).tr (w22.wd rfl)).tr (w35.wd rfl)) rfl]; exact pl)).up (Nat.le_of_ble_eq_true rfl)) ?_
          rintro r36 h39 ⟨ih39, w40, r36q, x38⟩
          subst r36q
          try dsimp only at x38
          have gF9 := zk_gfh_i (h := h) (((w17.wd rfl : zb_W [(40, 0), (39, 0), (36, 1), (37, 0), (38, 0), (42, 0), (43, 0), (41, 2)] h _).tr (w22.wd rfl)).tr (w35.wd rfl)) rfl ((zv_wb w35 rfl 0).trans (lKa 0 (by decide) (by decide)).2) ((zv_wa w35 rfl 0).trans (lKa 0 (by decide) (by decide)).1) oA fA x38; clear x38
          show zx_T zp_P 6 zp_m61 134 [(4, .int (zI (v25))), (3, .int (zI (v19))), (2, .int (zI (v10))), (1, .int (zI (v4))), (0, .ref 34)] [] h39 _
          have y41 : zv_f h39 34 14 = zv_f h 34 14 := ((zv_wf w40 rfl).trans ((zv_wf w35 rfl).trans ((zv_wf w22 rfl).trans (zv_wf w17 rfl))))
          exact zr_vr (pc := 134) rfl rfl ⟨ih39, ((((w17.wd rfl : zb_W [(40, 0), (39, 0), (36, 1), (37, 0), (38, 0), (42, 0), (43, 0), (41, 2), (34, 9), (34, 12), (34, 8), (34, 11), (34, 13), (34, 14)] h _).tr (w22.wd rfl)).tr (w35.wd rfl)).tr (w40.wd rfl)), rfl, by dsimp only; have o22 : ¬ zv_a h 2 (zv_f h 34 9) = 22 := (by omega); have o23 : ¬ zv_a h 2 (zv_f h 34 9) = 23 := (by omega); rw [oA, fA] at x0 rF2 sA nA9 wK2; rw [oA, fA] at wK; first | rw [sA] at wK2 | skip; exact Or.inr ⟨x0, _, rF2, Or.inr ⟨by omega, zv_wf ((((w17.wd rfl : zb_W [(40, 0), (39, 0), (36, 1), (37, 0), (38, 0), (42, 0), (43, 0), (41, 2), (34, 9), (34, 12), (34, 8)] h _).tr (w22.wd rfl)).tr (w35.wd rfl)).tr (w40.wd rfl)) rfl, Or.inr (Or.inr ⟨o22, o23, ((zv_wf w40 rfl).trans (zv_wf w35 rfl)).trans sA, zv_wf ((((w17.wd rfl : zb_W [(40, 0), (39, 0), (36, 1), (37, 0), (38, 0), (42, 0), (43, 0), (41, 2), (34, 9), (34, 12), (34, 8)] h _).tr (w22.wd rfl)).tr (w35.wd rfl)).tr (w40.wd rfl)) rfl, zv_wfl ((((w17.wd rfl : zb_W [(40, 0), (39, 0), (36, 1), (37, 0), (38, 0), (42, 0), (43, 0), (41, 2), (34, 9), (34, 12), (34, 8)] h _).tr (w22.wd rfl)).tr (w35.wd rfl)).tr (w40.wd rfl)) rfl, zk_wk_h w40 rfl rfl rfl rfl wK2, fun z j j0 => ((zv_wa w40 rfl j).trans (wK.2.1 z j j0)).trans (nA9 j j0), fun z => zk_lc_h w40 rfl nA9 (by first | rfl | (rw [sA]; rfl)) (lKa 0 (by decide) (by decide)).1 (wK.2.2 z (by have z9 := k1.2.2; rw [oA, fA] at z9; first | exact z9 z | (have q9 := z9 z; rw [← sA] at q9; exact q9))), gF9⟩)⟩⟩⟩
        · refine zx_T.l (i := .aload_n 0) (k := 1) (v := .ref 34) (pc := 114) rfl rfl rfl ?_
          refine zx_T.s (i := .iconst 0) (k := 1) (st' := [.int (zI (0)), .ref 34]) (pc := 115) rfl rfl ?_
          refine zw_iv (b := 34) (cj := 60) (q' := zp_m60) (As := [.int (zI (0))]) (rest := []) (pc := 116) rfl rfl rfl rfl rfl rfl rfl (Nat.le_of_ble_eq_true rfl) rfl (Nat.le_of_ble_eq_true rfl) ih21 ((zm_mFinish (h := h21) ih21 (f := 0) (by omega) (by omega)).up (Nat.le_of_ble_eq_true rfl)) ?_
          rintro r42 h45 ⟨ih45, w46, r42q, x44⟩
          subst r42q
          try dsimp only at x44
          have fI := x44
          show zx_T zp_P 6 zp_m61 119 [(4, .int (zI (v25))), (3, .int (zI (v19))), (2, .int (zI (v10))), (1, .int (zI (v4))), (0, .ref 34)] [] h45 _
          refine zx_T.j (i := .goto 15) (k := 3) (pc' := 134) (st' := []) (pc := 119) rfl rfl rfl rfl rfl ?_
          have y47 : zv_f h45 34 14 = zv_f h 34 14 := ((zv_wf w46 rfl).trans ((zv_wf w22 rfl).trans (zv_wf w17 rfl)))
          exact zr_vr (pc := 134) rfl rfl ⟨ih45, (((w17.wd rfl : zb_W [(40, 0), (39, 0), (36, 1), (37, 0), (38, 0), (42, 0), (43, 0), (41, 2), (34, 9), (34, 12), (34, 8), (34, 11), (34, 13), (34, 14)] h _).tr (w22.wd rfl)).tr (w46.wd rfl)), rfl, by dsimp only; have o9 : zv_a h 2 (zv_f h 34 9) = 23 := (by omega); rw [oA, fA] at x0 rF2 sA nA9; exact Or.inr ⟨x0, _, rF2, Or.inr ⟨by omega, zv_wf (((w17.wd rfl : zb_W [(40, 0), (39, 0), (36, 1), (37, 0), (34, 11), (34, 8)] h _).tr (w22.wd rfl)).tr (w46.wd rfl)) rfl, Or.inr (Or.inl ⟨o9, zk_rw_i (((w17.wd rfl : zb_W [(40, 0), (39, 0), (36, 1), (37, 0), (34, 11), (34, 8)] h _).tr (w22.wd rfl)).tr (w46.wd rfl)) rfl rfl rfl, (zv_wf w46 rfl).trans sA, fun j j0 => (zv_wa w46 rfl j).trans (nA9 j j0), fun j j0 => zv_wb (((w17.wd rfl : zb_W [(40, 0), (39, 0), (36, 1), (37, 0), (34, 11), (34, 8)] h _).tr (w22.wd rfl)).tr (w46.wd rfl)) rfl j, fI.1, fI.2, zv_wf (((w17.wd rfl : zb_W [(40, 0), (39, 0), (36, 1), (37, 0), (34, 11), (34, 8)] h _).tr (w22.wd rfl)).tr (w46.wd rfl)) rfl, zv_wfl (((w17.wd rfl : zb_W [(40, 0), (39, 0), (36, 1), (37, 0), (34, 11), (34, 8)] h _).tr (w22.wd rfl)).tr (w46.wd rfl)) rfl, zv_wf (((w17.wd rfl : zb_W [(40, 0), (39, 0), (36, 1), (37, 0), (34, 11), (34, 8)] h _).tr (w22.wd rfl)).tr (w46.wd rfl)) rfl⟩)⟩⟩⟩
      · have kz7 := kz8 (Or.inr (by omega))
        refine zx_T.l (i := .aload_n 0) (k := 1) (v := .ref 34) (pc := 89) rfl rfl rfl ?_
        refine zx_T.l (i := .aload_n 0) (k := 1) (v := .ref 34) (pc := 90) rfl rfl rfl ?_
        refine zw_gr (k := 5) (b := 40) (pc := 91) rfl rfl rfl ih21 ?_
        refine zx_T.s (i := .iconst 0) (k := 1) (st' := [.int (zI (0)), .ref 40, .ref 34]) (pc := 94) rfl rfl ?_
        refine zr_al (n := 3) (lo := (-2147483648)) (hi := 2147483647) (e := zv_a h16 40 0) (pc := 95) rfl rfl rfl ih21 (by omega) (by omega) (zv_wa w22 rfl 0) (fun g48a g48b => ?_)
        refine zx_T.l (i := .aload_n 0) (k := 1) (v := .ref 34) (pc := 96) rfl rfl rfl ?_
        refine zw_gr (k := 4) (b := 39) (pc := 97) rfl rfl rfl ih21 ?_
        refine zx_T.s (i := .iconst 0) (k := 1) (st' := [.int (zI (0)), .ref 39, .int (zI (zv_a h16 40 0)), .ref 34]) (pc := 100) rfl rfl ?_
        have g49 := zv_rb (h := h21) 39 0
        refine zr_ll (n := 3) (e := zv_b h16 39 0) (pc := 101) rfl rfl rfl ih21 (by omega) (by omega) (zv_wb w22 rfl 0) ?_
        rw [show zv_b h21 39 0 = zv_b h16 39 0 from (zv_wb w22 rfl 0)] at g49
        refine zw_iv (b := 34) (cj := 65) (q' := zp_m65) (As := [.int (zI (zv_a h16 40 0)), .long (zL (zv_b h16 39 0))]) (rest := []) (pc := 102) rfl rfl rfl rfl rfl rfl rfl (Nat.le_of_ble_eq_true rfl) rfl (Nat.le_of_ble_eq_true rfl) ih21 ((zm_mRaise (h := h21) ih21 (k := zv_a h16 40 0) (c := zv_b h16 39 0) (by omega) (by omega) (by omega) (by omega)).up (Nat.le_of_ble_eq_true rfl)) ?_
        rintro r50 h53 ⟨ih53, w54, r50q, x52⟩
        subst r50q
        try dsimp only at x52
        have rX := x52; simp only [show zv_f h21 1 8 = zv_f h 1 8 from zv_wf ((w17.wd rfl : zb_W [(40, 0), (39, 0), (36, 1), (37, 0), (34, 14)] h _).tr (w22.wd rfl)) rfl, show zv_a h21 5 = zv_a h 5 from funext (fun q => zv_wa ((w17.wd rfl : zb_W [(40, 0), (39, 0), (36, 1), (37, 0), (34, 14)] h _).tr (w22.wd rfl)) rfl q), show zv_a h21 6 = zv_a h 6 from funext (fun q => zv_wa ((w17.wd rfl : zb_W [(40, 0), (39, 0), (36, 1), (37, 0), (34, 14)] h _).tr (w22.wd rfl)) rfl q), show zv_a h21 8 = zv_a h 8 from funext (fun q => zv_wa ((w17.wd rfl : zb_W [(40, 0), (39, 0), (36, 1), (37, 0), (34, 14)] h _).tr (w22.wd rfl)) rfl q), show zv_a h21 7 = zv_a h 7 from funext (fun q => zv_wa ((w17.wd rfl : zb_W [(40, 0), (39, 0), (36, 1), (37, 0), (34, 14)] h _).tr (w22.wd rfl)) rfl q), show zv_f h21 1 3 = zv_f h 1 3 from zv_wf ((w17.wd rfl : zb_W [(40, 0), (39, 0), (36, 1), (37, 0), (34, 14)] h _).tr (w22.wd rfl)) rfl, show zv_b h21 38 = zv_b h 38 from funext (fun q => zv_wb ((w17.wd rfl : zb_W [(40, 0), (39, 0), (36, 1), (37, 0), (34, 14)] h _).tr (w22.wd rfl)) rfl q), show zv_f h21 34 9 = zv_f h 34 9 from zv_wf ((w17.wd rfl : zb_W [(40, 0), (39, 0), (36, 1), (37, 0), (34, 14)] h _).tr (w22.wd rfl)) rfl, show zv_f h21 34 12 = zv_f h 34 12 from zv_wf ((w17.wd rfl : zb_W [(40, 0), (39, 0), (36, 1), (37, 0), (34, 14)] h _).tr (w22.wd rfl)) rfl, show zv_f h21 34 8 = zv_f h 34 8 from zv_wf ((w17.wd rfl : zb_W [(40, 0), (39, 0), (36, 1), (37, 0), (34, 14)] h _).tr (w22.wd rfl)) rfl, show zv_f h21 34 11 = zv_f h 34 11 from zv_wf ((w17.wd rfl : zb_W [(40, 0), (39, 0), (36, 1), (37, 0), (34, 14)] h _).tr (w22.wd rfl)) rfl, show zv_fl h21 34 13 = zv_fl h 34 13 from zv_wfl ((w17.wd rfl : zb_W [(40, 0), (39, 0), (36, 1), (37, 0), (34, 14)] h _).tr (w22.wd rfl)) rfl] at rX
        show zx_T zp_P 6 zp_m61 105 [(4, .int (zI (v25))), (3, .int (zI (v19))), (2, .int (zI (v10))), (1, .int (zI (v4))), (0, .ref 34)] [] h53 _
        refine zx_T.j (i := .goto 29) (k := 3) (pc' := 134) (st' := []) (pc := 105) rfl rfl rfl rfl rfl ?_
        have y55 : zv_f h53 34 14 = zv_f h 34 14 := ((zv_wf w54 rfl).trans ((zv_wf w22 rfl).trans (zv_wf w17 rfl)))
        exact zr_vr (pc := 134) rfl rfl ⟨ih53, (((w17.wd rfl : zb_W [(40, 0), (39, 0), (36, 1), (37, 0), (38, 0), (42, 0), (43, 0), (41, 2), (34, 9), (34, 12), (34, 8), (34, 11), (34, 13), (34, 14)] h _).tr (w22.wd rfl)).tr (w54.wd rfl)), rfl, by dsimp only; have rA := zk_ra_i oA fA nA9 rX; rw [lK0.1, lK0.2] at rA; have o9 : zv_a h 2 (zv_f h 34 9) = 22 := (by omega); rw [oA, fA] at x0 rF2; exact Or.inr ⟨x0, _, rF2, Or.inr ⟨by omega, zv_wf (((w17.wd rfl : zb_W [(40, 0), (39, 0), (36, 1), (37, 0), (38, 0), (34, 9), (34, 12), (34, 8), (34, 11), (34, 13)] h _).tr (w22.wd rfl)).tr (w54.wd rfl)) rfl, Or.inl ⟨o9, (zk_rw_i (((w17.wd rfl : zb_W [(40, 0), (39, 0), (36, 1), (37, 0), (38, 0), (34, 9), (34, 12), (34, 8), (34, 11), (34, 13), (34, 14)] h _).tr (w22.wd rfl)).tr (w54.wd rfl)) rfl rfl rfl), rA⟩⟩⟩⟩
    · have nA9 := nA
      refine zx_T.l (i := .aload_n 0) (k := 1) (v := .ref 34) (pc := 61) rfl rfl rfl ?_
      refine zx_T.s (i := .dup) (k := 1) (st' := [.ref 34, .ref 34]) (pc := 62) rfl rfl ?_
      refine zw_gi (k := 14) (lo := (-2147483648)) (hi := 2147483647) (e := zv_f h 34 14) (pc := 63) rfl rfl rfl ih21 ((zv_wf w22 rfl).trans (zv_wf w17 rfl)) (fun g56a g56b => ?_)
      refine zx_T.s (i := .iconst 1) (k := 1) (st' := [.int (zI (1)), .int (zI (zv_f h 34 14)), .ref 34]) (pc := 66) rfl rfl ?_
      refine zr_add (x := zv_f h 34 14) (y := 1) (e := zv_f h 34 14 + 1) (pc := 67) rfl (by omega) ?_
      refine zw_pi (k := 14) (lo := (-2147483648)) (hi := 2147483647) (e := zv_f h 34 14 + 1) (pc := 68) rfl rfl rfl rfl rfl rfl ih21 (by omega) (by omega) (fun h57 ih57 w58 e59 => ?_)
      refine zx_T.l (i := .aload_n 0) (k := 1) (v := .ref 34) (pc := 71) rfl rfl rfl ?_
      refine zx_T.s (i := .bipush 7) (k := 2) (st' := [.int (zI (7)), .ref 34]) (pc := 72) rfl rfl ?_
      refine zx_T.l (i := .iload 4) (k := 2) (v := .int (zI (v25))) (pc := 74) rfl rfl rfl ?_
      refine zr_i2l (pc := 76) rfl (by omega) (by omega) ?_
      refine zw_iv (b := 34) (cj := 65) (q' := zp_m65) (As := [.int (zI (7)), .long (zL (v25))]) (rest := []) (pc := 77) rfl rfl rfl rfl rfl rfl rfl (Nat.le_of_ble_eq_true rfl) rfl (Nat.le_of_ble_eq_true rfl) ih57 ((zm_mRaise (h := h57) ih57 (k := 7) (c := v25) (by omega) (by omega) (by omega) (by omega)).up (Nat.le_of_ble_eq_true rfl)) ?_
      rintro r60 h63 ⟨ih63, w64, r60q, x62⟩
      subst r60q
      try dsimp only at x62
      have rX := x62; simp only [show zv_f h57 1 8 = zv_f h 1 8 from zv_wf (((w17.wd rfl : zb_W [(40, 0), (39, 0), (36, 1), (37, 0), (34, 14)] h _).tr (w22.wd rfl)).tr (w58.wd rfl)) rfl, show zv_a h57 5 = zv_a h 5 from funext (fun q => zv_wa (((w17.wd rfl : zb_W [(40, 0), (39, 0), (36, 1), (37, 0), (34, 14)] h _).tr (w22.wd rfl)).tr (w58.wd rfl)) rfl q), show zv_a h57 6 = zv_a h 6 from funext (fun q => zv_wa (((w17.wd rfl : zb_W [(40, 0), (39, 0), (36, 1), (37, 0), (34, 14)] h _).tr (w22.wd rfl)).tr (w58.wd rfl)) rfl q), show zv_a h57 8 = zv_a h 8 from funext (fun q => zv_wa (((w17.wd rfl : zb_W [(40, 0), (39, 0), (36, 1), (37, 0), (34, 14)] h _).tr (w22.wd rfl)).tr (w58.wd rfl)) rfl q), show zv_a h57 7 = zv_a h 7 from funext (fun q => zv_wa (((w17.wd rfl : zb_W [(40, 0), (39, 0), (36, 1), (37, 0), (34, 14)] h _).tr (w22.wd rfl)).tr (w58.wd rfl)) rfl q), show zv_f h57 1 3 = zv_f h 1 3 from zv_wf (((w17.wd rfl : zb_W [(40, 0), (39, 0), (36, 1), (37, 0), (34, 14)] h _).tr (w22.wd rfl)).tr (w58.wd rfl)) rfl, show zv_b h57 38 = zv_b h 38 from funext (fun q => zv_wb (((w17.wd rfl : zb_W [(40, 0), (39, 0), (36, 1), (37, 0), (34, 14)] h _).tr (w22.wd rfl)).tr (w58.wd rfl)) rfl q), show zv_f h57 34 9 = zv_f h 34 9 from zv_wf (((w17.wd rfl : zb_W [(40, 0), (39, 0), (36, 1), (37, 0), (34, 14)] h _).tr (w22.wd rfl)).tr (w58.wd rfl)) rfl, show zv_f h57 34 12 = zv_f h 34 12 from zv_wf (((w17.wd rfl : zb_W [(40, 0), (39, 0), (36, 1), (37, 0), (34, 14)] h _).tr (w22.wd rfl)).tr (w58.wd rfl)) rfl, show zv_f h57 34 8 = zv_f h 34 8 from zv_wf (((w17.wd rfl : zb_W [(40, 0), (39, 0), (36, 1), (37, 0), (34, 14)] h _).tr (w22.wd rfl)).tr (w58.wd rfl)) rfl, show zv_f h57 34 11 = zv_f h 34 11 from zv_wf (((w17.wd rfl : zb_W [(40, 0), (39, 0), (36, 1), (37, 0), (34, 14)] h _).tr (w22.wd rfl)).tr (w58.wd rfl)) rfl, show zv_fl h57 34 13 = zv_fl h 34 13 from zv_wfl (((w17.wd rfl : zb_W [(40, 0), (39, 0), (36, 1), (37, 0), (34, 14)] h _).tr (w22.wd rfl)).tr (w58.wd rfl)) rfl] at rX
      show zx_T zp_P 6 zp_m61 80 [(4, .int (zI (v25))), (3, .int (zI (v19))), (2, .int (zI (v10))), (1, .int (zI (v4))), (0, .ref 34)] [] h63 _
      refine zx_T.j (i := .goto 54) (k := 3) (pc' := 134) (st' := []) (pc := 80) rfl rfl rfl rfl rfl ?_
      have y65 : zv_f h63 34 14 = zv_f h 34 14 + 1 := ((zv_wf w64 rfl).trans e59)
      exact zr_vr (pc := 134) rfl rfl ⟨ih63, ((((w17.wd rfl : zb_W [(40, 0), (39, 0), (36, 1), (37, 0), (38, 0), (42, 0), (43, 0), (41, 2), (34, 9), (34, 12), (34, 8), (34, 11), (34, 13), (34, 14)] h _).tr (w22.wd rfl)).tr (w58.wd rfl)).tr (w64.wd rfl)), rfl, by dsimp only; have nA8 : ∀ j, 0 ≤ j → zv_a h57 37 j = _ := fun j j0 => (zv_wa w58 rfl j).trans (nA9 j j0); have rA := zk_ra_i oA fA nA8 rX; rw [oA, fA] at x0 rF2; exact Or.inr ⟨x0, _, rF2, Or.inl ⟨by omega, (show zv_f _ 34 14 = zv_f h 34 14 + 1 by omega), (zk_rw_i ((((w17.wd rfl : zb_W [(40, 0), (39, 0), (36, 1), (37, 0), (38, 0), (34, 9), (34, 12), (34, 8), (34, 11), (34, 13), (34, 14)] h _).tr (w22.wd rfl)).tr (w58.wd rfl)).tr (w64.wd rfl)) rfl rfl rfl), rA⟩⟩⟩
  · refine zx_T.l (i := .aload_n 0) (k := 1) (v := .ref 34) (pc := 42) rfl rfl rfl ?_
    refine zx_T.l (i := .iload_n 3) (k := 1) (v := .int (zI (v19))) (pc := 43) rfl rfl rfl ?_
    refine zw_iv (b := 34) (cj := 59) (q' := zp_m59) (As := [.int (zI (v19))]) (rest := []) (pc := 44) rfl rfl rfl rfl rfl rfl rfl (Nat.le_of_ble_eq_true rfl) rfl (Nat.le_of_ble_eq_true rfl) ih21 ((zm_mRefuse (h := h21) ih21 (f := v19) (by omega) (by omega)).up (Nat.le_of_ble_eq_true rfl)) ?_
    rintro r66 h69 ⟨ih69, w70, r66q, x68⟩
    subst r66q
    try dsimp only at x68
    have rU := x68
    show zx_T zp_P 6 zp_m61 47 [(3, .int (zI (v19))), (2, .int (zI (v10))), (1, .int (zI (v4))), (0, .ref 34)] [] h69 _
    have y71 : zv_f h69 34 14 = zv_f h 34 14 := ((zv_wf w70 rfl).trans ((zv_wf w22 rfl).trans (zv_wf w17 rfl)))
    exact zr_vr (pc := 47) rfl rfl ⟨ih69, (((w17.wd rfl : zb_W [(40, 0), (39, 0), (36, 1), (37, 0), (38, 0), (42, 0), (43, 0), (41, 2), (34, 9), (34, 12), (34, 8), (34, 11), (34, 13), (34, 14)] h _).tr (w22.wd rfl)).tr (w70.wd rfl)), rfl, by dsimp only; exact zk_st_f oA fA aP.1.1 (by omega) rU.1 rU.2 (zv_wf (((w17.wd rfl : zb_W [(40, 0), (39, 0), (36, 1), (37, 0), (34, 12), (34, 8)] h _).tr (w22.wd rfl)).tr (w70.wd rfl)) rfl) (zv_wf (((w17.wd rfl : zb_W [(40, 0), (39, 0), (36, 1), (37, 0), (34, 12), (34, 8)] h _).tr (w22.wd rfl)).tr (w70.wd rfl)) rfl) (zv_wfl (((w17.wd rfl : zb_W [(40, 0), (39, 0), (36, 1), (37, 0), (34, 12), (34, 8)] h _).tr (w22.wd rfl)).tr (w70.wd rfl)) rfl) (zv_wf (((w17.wd rfl : zb_W [(40, 0), (39, 0), (36, 1), (37, 0), (34, 12), (34, 8)] h _).tr (w22.wd rfl)).tr (w70.wd rfl)) rfl)⟩
