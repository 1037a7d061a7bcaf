/-! ===== 97zc: the reference, method by method (by program) ===== -/
set_option maxRecDepth 100000 in
set_option maxHeartbeats 4000000 in
theorem zm_gatherFrame {h : zx_H} (hI : zb_I zc_H h) {f : Int} (F : zF) (hF : zc_Fr h F) (oF : F.ok) (f1 : 0 ≤ f) (f2 : f < F.n) : zx_T zp_P 4 zp_m100 0 [(0, .ref 27), (1, .int (zI (f)))] [] h (zr_V [(28, 1), (29, 0), (32, 0), (27, 8), (33, 0), (27, 10)] h (fun h' => zs_bl (zv_f h' 27 8) (zv_a h' 32) (F.ow f) ∧ zs_bl (zv_f h' 27 10) (zv_a h' 33) (F.sk f))) := by
  have ofn := oF.2.1
  have nF := hF.1
  have of := oF.2.2 f f1 f2
  have hf := hF.2 f f1 f2
  refine zx_T.l (i := .aload_n 0) (k := 1) (v := .ref 27) (pc := 0) rfl rfl rfl ?_
  refine zw_gr (k := 1) (b := 10) (pc := 1) rfl rfl rfl hI ?_
  refine zx_T.l (i := .iload_n 1) (k := 1) (v := .int (zI (f))) (pc := 4) rfl rfl rfl ?_
  refine zx_T.l (i := .aload_n 0) (k := 1) (v := .ref 27) (pc := 5) rfl rfl rfl ?_
  refine zw_gr (k := 2) (b := 28) (pc := 6) rfl rfl rfl hI ?_
  refine zw_iv (b := 10) (cj := 36) (q' := zp_m36) (As := [.int (zI (f)), .ref 28]) (rest := []) (pc := 9) rfl rfl rfl rfl rfl rfl rfl (Nat.le_of_ble_eq_true rfl) rfl (Nat.le_of_ble_eq_true rfl) hI ((zm_fRead_28 (h := h) hI (f := f) (by omega) (by omega)).up (Nat.le_of_ble_eq_true rfl)) ?_
  rintro r1 h4 ⟨ih4, w5, r1q, x3⟩
  subst r1q
  try dsimp only at x3
  have fr1 := x3
  have st9 := zc_Fr_rd hF oF f1 f2 fr1
  show zx_T zp_P 4 zp_m100 12 [(0, .ref 27), (1, .int (zI (f)))] [] h4 _
  refine zx_T.l (i := .aload_n 0) (k := 1) (v := .ref 27) (pc := 12) rfl rfl rfl ?_
  refine zx_T.l (i := .aload_n 0) (k := 1) (v := .ref 27) (pc := 13) rfl rfl rfl ?_
  refine zx_T.s (i := .iconst 0) (k := 1) (st' := [.int (zI (0)), .ref 27, .ref 27]) (pc := 14) rfl rfl ?_
  refine zx_T.l (i := .aload_n 0) (k := 1) (v := .ref 27) (pc := 15) rfl rfl rfl ?_
  refine zw_gr (k := 1) (b := 10) (pc := 16) rfl rfl rfl ih4 ?_
  refine zx_T.l (i := .iload_n 1) (k := 1) (v := .int (zI (f))) (pc := 19) rfl rfl rfl ?_
  have y6 : zv_f h4 10 3 = zv_f h 10 3 := (zv_wf w5 rfl)
  refine zw_iv (b := 10) (cj := 33) (q' := zp_m33) (As := [.int (zI (f))]) (rest := [.int (zI (0)), .ref 27, .ref 27]) (pc := 20) rfl rfl rfl rfl rfl rfl rfl (Nat.le_of_ble_eq_true rfl) rfl (Nat.le_of_ble_eq_true rfl) ih4 ((zm_fLocalsOf (h := h4) ih4 (f := f) (by omega) (by omega)).up (Nat.le_of_ble_eq_true rfl)) ?_
  rintro r7 h10 ⟨h10q, v8, r7q, x9⟩
  subst h10q r7q
  try dsimp only at x9
  have lE : v8 = F.lo f := x9.1.trans ((zv_wa w5 rfl f).trans hf.2.1)
  show zx_T zp_P 4 zp_m100 23 [(0, .ref 27), (1, .int (zI (f)))] [.int (zI (v8)), .int (zI (0)), .ref 27, .ref 27] h4 _
  refine zx_T.l (i := .aload_n 0) (k := 1) (v := .ref 27) (pc := 23) rfl rfl rfl ?_
  refine zw_gr (k := 7) (b := 32) (pc := 24) rfl rfl rfl ih4 ?_
  refine zw_iv (b := 27) (cj := 101) (q' := zp_m101) (As := [.int (zI (0)), .int (zI (v8)), .ref 32]) (rest := [.ref 27]) (pc := 27) rfl rfl rfl rfl rfl rfl rfl (Nat.le_of_ble_eq_true rfl) rfl (Nat.le_of_ble_eq_true rfl) ih4 ((zm_gather_32 (h := h4) ih4 (f := 0) (c := v8) (by omega) (by omega) (by omega) (by omega)).up (Nat.le_of_ble_eq_true rfl)) ?_
  rintro r11 h14 ⟨ih14, w15, v12, r11q, x13⟩
  subst r11q
  try dsimp only at x13
  have g1 := x13.1; rw [lE, Int.zero_add, show zs_es (zv_a h4 29) 0 (F.lo f) = F.ow f from zs_es_cg (fun j j0 j1 => st9.2 j j0 (by omega))] at g1
  show zx_T zp_P 4 zp_m100 30 [(0, .ref 27), (1, .int (zI (f)))] [.int (zI (v12)), .ref 27] h14 _
  refine zw_pi (k := 8) (lo := 0) (hi := 8) (e := v12) (pc := 30) rfl rfl rfl rfl rfl rfl ih14 (by omega) (by omega) (fun h16 ih16 w17 e18 => ?_)
  refine zx_T.l (i := .aload_n 0) (k := 1) (v := .ref 27) (pc := 33) rfl rfl rfl ?_
  refine zx_T.l (i := .aload_n 0) (k := 1) (v := .ref 27) (pc := 34) rfl rfl rfl ?_
  refine zx_T.s (i := .bipush 8) (k := 2) (st' := [.int (zI (8)), .ref 27, .ref 27]) (pc := 35) rfl rfl ?_
  refine zx_T.l (i := .aload_n 0) (k := 1) (v := .ref 27) (pc := 37) rfl rfl rfl ?_
  refine zw_gr (k := 2) (b := 28) (pc := 38) rfl rfl rfl ih16 ?_
  refine zw_iv (b := 28) (cj := 116) (q' := zp_m116) (As := []) (rest := [.int (zI (8)), .ref 27, .ref 27]) (pc := 41) rfl rfl rfl rfl rfl rfl rfl (Nat.le_of_ble_eq_true rfl) rfl (Nat.le_of_ble_eq_true rfl) ih16 ((zm_depth_28 (h := h16) ih16  ).up (Nat.le_of_ble_eq_true rfl)) ?_
  rintro r19 h22 ⟨h22q, v20, r19q, x21⟩
  subst h22q r19q
  try dsimp only at x21
  have dE : v20 = F.st f := x21.1.trans ((zv_wf ((w15.wd rfl : zb_W [(32, 0), (27, 8)] _ _).tr (w17.wd rfl)) rfl).trans st9.1)
  show zx_T zp_P 4 zp_m100 44 [(0, .ref 27), (1, .int (zI (f)))] [.int (zI (v20)), .int (zI (8)), .ref 27, .ref 27] h16 _
  refine zx_T.l (i := .aload_n 0) (k := 1) (v := .ref 27) (pc := 44) rfl rfl rfl ?_
  refine zw_gr (k := 9) (b := 33) (pc := 45) rfl rfl rfl ih16 ?_
  refine zw_iv (b := 27) (cj := 101) (q' := zp_m101) (As := [.int (zI (8)), .int (zI (v20)), .ref 33]) (rest := [.ref 27]) (pc := 48) rfl rfl rfl rfl rfl rfl rfl (Nat.le_of_ble_eq_true rfl) rfl (Nat.le_of_ble_eq_true rfl) ih16 ((zm_gather_33 (h := h16) ih16 (f := 8) (c := v20) (by omega) (by omega) (by omega) (by omega)).up (Nat.le_of_ble_eq_true rfl)) ?_
  rintro r23 h26 ⟨ih26, w27, v24, r23q, x25⟩
  subst r23q
  try dsimp only at x25
  have g2 := x25.1; rw [dE, show zs_es (zv_a h16 29) 8 (8 + F.st f) = F.sk f from zs_es_cg (fun j j0 j1 => (zv_wa ((w15.wd rfl : zb_W [(32, 0), (27, 8)] _ _).tr (w17.wd rfl)) rfl j).trans (st9.2 j (by omega) j1))] at g2
  show zx_T zp_P 4 zp_m100 51 [(0, .ref 27), (1, .int (zI (f)))] [.int (zI (v24)), .ref 27] h26 _
  refine zw_pi (k := 10) (lo := 0) (hi := 6) (e := v24) (pc := 51) rfl rfl rfl rfl rfl rfl ih26 (by omega) (by omega) (fun h28 ih28 w29 e30 => ?_)
  have y31 : zv_f h28 27 8 = v12 := ((zv_wf w29 rfl).trans ((zv_wf w27 rfl).trans e18))
  have y32 : zv_f h28 27 10 = v24 := e30
  have a32 : ∀ j, 0 ≤ j → zv_a h28 32 j = zv_a h14 32 j := fun j hj => by rw [zv_wa w29 rfl j, zv_wa w27 rfl j, zv_wa w17 rfl j]
  have a33 : ∀ j, 0 ≤ j → zv_a h28 33 j = zv_a h26 33 j := fun j hj => by rw [zv_wa w29 rfl j]
  exact zr_vr (pc := 54) rfl rfl ⟨ih28, (((((w5.wd rfl : zb_W [(28, 1), (29, 0), (32, 0), (27, 8), (33, 0), (27, 10)] h _).tr (w15.wd rfl)).tr (w17.wd rfl)).tr (w27.wd rfl)).tr (w29.wd rfl)), rfl, by dsimp only; exact ⟨by rw [show zv_f h28 27 8 = _ from ((zv_wf w29 rfl).trans ((zv_wf w27 rfl).trans e18))]; exact zs_bl_cg g1 (fun j j0 _ => by rw [a32 j j0]), by rw [show zv_f h28 27 10 = _ from e30]; exact zs_bl_cg g2 (fun j j0 _ => by rw [a33 j j0])⟩⟩

set_option maxRecDepth 100000 in
set_option maxHeartbeats 4000000 in
theorem zm_packWhole {h : zx_H} (hI : zb_I zc_H h) {d : Int} (d1 : (-200) ≤ d) (d2 : d ≤ 200) (pk : zv_f h 27 4 ≤ 2891) (L : List Int) (bl : zs_bl (zv_f h 27 4) (zv_a h 30) L) (O : List Int) (ob : zs_bl (zv_f h 27 8) (zv_a h 32) O) (T : List Int) (tb : zs_bl (zv_f h 27 10) (zv_a h 33) T) : zx_T zp_P 3 zp_m105 0 [(0, .ref 27), (1, .int (zI (d)))] [] h (zr_V [(30, 0), (27, 4)] h (fun h' => zs_bl (zv_f h' 27 4) (zv_a h' 30) (L ++ (255 :: 0 :: d :: 0 :: (O.length : Int) :: (zs_ebs O ++ (0 :: (T.length : Int) :: zs_ebs T)))))) := by
  have hP := zw_ri hI (a := 27) (k := 4) rfl
  have h8 := zw_ri hI (a := 27) (k := 8) rfl
  have h10 := zw_ri hI (a := 27) (k := 10) rfl
  have on := ob.1
  have tn := tb.1
  refine zx_T.l (i := .aload_n 0) (k := 1) (v := .ref 27) (pc := 0) rfl rfl rfl ?_
  refine zx_T.s (i := .sipush 255) (k := 3) (st' := [.int (zI (255)), .ref 27]) (pc := 1) rfl rfl ?_
  refine zw_iv (b := 27) (cj := 108) (q' := zp_m108) (As := [.int (zI (255))]) (rest := []) (pc := 4) rfl rfl rfl rfl rfl rfl rfl (Nat.le_of_ble_eq_true rfl) rfl (Nat.le_of_ble_eq_true rfl) hI ((zm_pWrite (h := h) hI (b := 255) (by omega) (by omega) (by omega) L bl).up (Nat.le_of_ble_eq_true rfl)) ?_
  rintro r2 h5 ⟨ih5, w6, r2q, x4⟩
  subst r2q
  try dsimp only at x4
  have pB1 := x4.1
  have pN1 := x4.2
  show zx_T zp_P 3 zp_m105 7 [(0, .ref 27), (1, .int (zI (d)))] [] h5 _
  refine zx_T.l (i := .aload_n 0) (k := 1) (v := .ref 27) (pc := 7) rfl rfl rfl ?_
  refine zx_T.s (i := .iconst 0) (k := 1) (st' := [.int (zI (0)), .ref 27]) (pc := 8) rfl rfl ?_
  refine zw_iv (b := 27) (cj := 108) (q' := zp_m108) (As := [.int (zI (0))]) (rest := []) (pc := 9) rfl rfl rfl rfl rfl rfl rfl (Nat.le_of_ble_eq_true rfl) rfl (Nat.le_of_ble_eq_true rfl) ih5 ((zm_pWrite (h := h5) ih5 (b := 0) (by omega) (by omega) (by omega) _ pB1).up (Nat.le_of_ble_eq_true rfl)) ?_
  rintro r8 h11 ⟨ih11, w12, r8q, x10⟩
  subst r8q
  try dsimp only at x10
  have pB2 := x10.1
  have pN2 := x10.2
  show zx_T zp_P 3 zp_m105 12 [(0, .ref 27), (1, .int (zI (d)))] [] h11 _
  refine zx_T.l (i := .aload_n 0) (k := 1) (v := .ref 27) (pc := 12) rfl rfl rfl ?_
  refine zx_T.l (i := .iload_n 1) (k := 1) (v := .int (zI (d))) (pc := 13) rfl rfl rfl ?_
  refine zw_iv (b := 27) (cj := 108) (q' := zp_m108) (As := [.int (zI (d))]) (rest := []) (pc := 14) rfl rfl rfl rfl rfl rfl rfl (Nat.le_of_ble_eq_true rfl) rfl (Nat.le_of_ble_eq_true rfl) ih11 ((zm_pWrite (h := h11) ih11 (b := d) (by omega) (by omega) (by omega) _ pB2).up (Nat.le_of_ble_eq_true rfl)) ?_
  rintro r14 h17 ⟨ih17, w18, r14q, x16⟩
  subst r14q
  try dsimp only at x16
  have pB3 := x16.1
  have pN3 := x16.2
  show zx_T zp_P 3 zp_m105 17 [(0, .ref 27), (1, .int (zI (d)))] [] h17 _
  refine zx_T.l (i := .aload_n 0) (k := 1) (v := .ref 27) (pc := 17) rfl rfl rfl ?_
  refine zx_T.s (i := .iconst 0) (k := 1) (st' := [.int (zI (0)), .ref 27]) (pc := 18) rfl rfl ?_
  refine zw_iv (b := 27) (cj := 108) (q' := zp_m108) (As := [.int (zI (0))]) (rest := []) (pc := 19) rfl rfl rfl rfl rfl rfl rfl (Nat.le_of_ble_eq_true rfl) rfl (Nat.le_of_ble_eq_true rfl) ih17 ((zm_pWrite (h := h17) ih17 (b := 0) (by omega) (by omega) (by omega) _ pB3).up (Nat.le_of_ble_eq_true rfl)) ?_
  rintro r20 h23 ⟨ih23, w24, r20q, x22⟩
  subst r20q
  try dsimp only at x22
  have pB4 := x22.1
  have pN4 := x22.2
  show zx_T zp_P 3 zp_m105 22 [(0, .ref 27), (1, .int (zI (d)))] [] h23 _
  refine zx_T.l (i := .aload_n 0) (k := 1) (v := .ref 27) (pc := 22) rfl rfl rfl ?_
  refine zx_T.l (i := .aload_n 0) (k := 1) (v := .ref 27) (pc := 23) rfl rfl rfl ?_
  refine zw_gi (k := 8) (lo := 0) (hi := 8) (e := zv_f h 27 8) (pc := 24) rfl rfl rfl ih23 ((zv_wf w24 rfl).trans ((zv_wf w18 rfl).trans ((zv_wf w12 rfl).trans (zv_wf w6 rfl)))) (fun g25a g25b => ?_)
  refine zw_iv (b := 27) (cj := 108) (q' := zp_m108) (As := [.int (zI (zv_f h 27 8))]) (rest := []) (pc := 27) rfl rfl rfl rfl rfl rfl rfl (Nat.le_of_ble_eq_true rfl) rfl (Nat.le_of_ble_eq_true rfl) ih23 ((zm_pWrite (h := h23) ih23 (b := zv_f h 27 8) (by omega) (by omega) (by omega) _ pB4).up (Nat.le_of_ble_eq_true rfl)) ?_
  rintro r27 h30 ⟨ih30, w31, r27q, x29⟩
  subst r27q
  try dsimp only at x29
  have pB5 := x29.1
  have pN5 := x29.2
  show zx_T zp_P 3 zp_m105 30 [(0, .ref 27), (1, .int (zI (d)))] [] h30 _
  refine zx_T.l (i := .aload_n 0) (k := 1) (v := .ref 27) (pc := 30) rfl rfl rfl ?_
  refine zx_T.l (i := .aload_n 0) (k := 1) (v := .ref 27) (pc := 31) rfl rfl rfl ?_
  refine zw_gr (k := 7) (b := 32) (pc := 32) rfl rfl rfl ih30 ?_
  refine zx_T.s (i := .iconst 0) (k := 1) (st' := [.int (zI (0)), .ref 32, .ref 27]) (pc := 35) rfl rfl ?_
  refine zx_T.l (i := .aload_n 0) (k := 1) (v := .ref 27) (pc := 36) rfl rfl rfl ?_
  refine zw_gi (k := 8) (lo := 0) (hi := 8) (e := zv_f h 27 8) (pc := 37) rfl rfl rfl ih30 ((zv_wf w31 rfl).trans ((zv_wf w24 rfl).trans ((zv_wf w18 rfl).trans ((zv_wf w12 rfl).trans (zv_wf w6 rfl))))) (fun g32a g32b => ?_)
  refine zw_iv (b := 27) (cj := 106) (q' := zp_m106) (As := [.ref 32, .int (zI (0)), .int (zI (zv_f h 27 8))]) (rest := []) (pc := 40) rfl rfl rfl rfl rfl rfl rfl (Nat.le_of_ble_eq_true rfl) rfl (Nat.le_of_ble_eq_true rfl) ih30 ((zm_pWriteEntries_32 (h := h30) ih30 (a := 0) (u := zv_f h 27 8) (by omega) (by omega) (by omega) (by omega) (by omega) (by omega) _ pB5 O (zs_bl_cg ob (fun j _ _ => zv_wa (((((w6.wd rfl : zb_W [(30, 0), (27, 4)] h _).tr (w12.wd rfl)).tr (w18.wd rfl)).tr (w24.wd rfl)).tr (w31.wd rfl)) rfl j))).up (Nat.le_of_ble_eq_true rfl)) ?_
  rintro r34 h37 ⟨ih37, w38, r34q, x36⟩
  subst r34q
  try dsimp only at x36
  have eB1 := x36.1
  have eN1 := x36.2
  show zx_T zp_P 3 zp_m105 43 [(0, .ref 27), (1, .int (zI (d)))] [] h37 _
  refine zx_T.l (i := .aload_n 0) (k := 1) (v := .ref 27) (pc := 43) rfl rfl rfl ?_
  refine zx_T.s (i := .iconst 0) (k := 1) (st' := [.int (zI (0)), .ref 27]) (pc := 44) rfl rfl ?_
  refine zw_iv (b := 27) (cj := 108) (q' := zp_m108) (As := [.int (zI (0))]) (rest := []) (pc := 45) rfl rfl rfl rfl rfl rfl rfl (Nat.le_of_ble_eq_true rfl) rfl (Nat.le_of_ble_eq_true rfl) ih37 ((zm_pWrite (h := h37) ih37 (b := 0) (by omega) (by omega) (by omega) _ eB1).up (Nat.le_of_ble_eq_true rfl)) ?_
  rintro r40 h43 ⟨ih43, w44, r40q, x42⟩
  subst r40q
  try dsimp only at x42
  have pB6 := x42.1
  have pN6 := x42.2
  show zx_T zp_P 3 zp_m105 48 [(0, .ref 27), (1, .int (zI (d)))] [] h43 _
  refine zx_T.l (i := .aload_n 0) (k := 1) (v := .ref 27) (pc := 48) rfl rfl rfl ?_
  refine zx_T.l (i := .aload_n 0) (k := 1) (v := .ref 27) (pc := 49) rfl rfl rfl ?_
  refine zw_gi (k := 10) (lo := 0) (hi := 6) (e := zv_f h 27 10) (pc := 50) rfl rfl rfl ih43 ((zv_wf w44 rfl).trans ((zv_wf w38 rfl).trans ((zv_wf w31 rfl).trans ((zv_wf w24 rfl).trans ((zv_wf w18 rfl).trans ((zv_wf w12 rfl).trans (zv_wf w6 rfl))))))) (fun g45a g45b => ?_)
  refine zw_iv (b := 27) (cj := 108) (q' := zp_m108) (As := [.int (zI (zv_f h 27 10))]) (rest := []) (pc := 53) rfl rfl rfl rfl rfl rfl rfl (Nat.le_of_ble_eq_true rfl) rfl (Nat.le_of_ble_eq_true rfl) ih43 ((zm_pWrite (h := h43) ih43 (b := zv_f h 27 10) (by omega) (by omega) (by omega) _ pB6).up (Nat.le_of_ble_eq_true rfl)) ?_
  rintro r47 h50 ⟨ih50, w51, r47q, x49⟩
  subst r47q
  try dsimp only at x49
  have pB7 := x49.1
  have pN7 := x49.2
  show zx_T zp_P 3 zp_m105 56 [(0, .ref 27), (1, .int (zI (d)))] [] h50 _
  refine zx_T.l (i := .aload_n 0) (k := 1) (v := .ref 27) (pc := 56) rfl rfl rfl ?_
  refine zx_T.l (i := .aload_n 0) (k := 1) (v := .ref 27) (pc := 57) rfl rfl rfl ?_
  refine zw_gr (k := 9) (b := 33) (pc := 58) rfl rfl rfl ih50 ?_
  refine zx_T.s (i := .iconst 0) (k := 1) (st' := [.int (zI (0)), .ref 33, .ref 27]) (pc := 61) rfl rfl ?_
  refine zx_T.l (i := .aload_n 0) (k := 1) (v := .ref 27) (pc := 62) rfl rfl rfl ?_
  refine zw_gi (k := 10) (lo := 0) (hi := 6) (e := zv_f h 27 10) (pc := 63) rfl rfl rfl ih50 ((zv_wf w51 rfl).trans ((zv_wf w44 rfl).trans ((zv_wf w38 rfl).trans ((zv_wf w31 rfl).trans ((zv_wf w24 rfl).trans ((zv_wf w18 rfl).trans ((zv_wf w12 rfl).trans (zv_wf w6 rfl)))))))) (fun g52a g52b => ?_)
  refine zw_iv (b := 27) (cj := 106) (q' := zp_m106) (As := [.ref 33, .int (zI (0)), .int (zI (zv_f h 27 10))]) (rest := []) (pc := 66) rfl rfl rfl rfl rfl rfl rfl (Nat.le_of_ble_eq_true rfl) rfl (Nat.le_of_ble_eq_true rfl) ih50 ((zm_pWriteEntries_33 (h := h50) ih50 (a := 0) (u := zv_f h 27 10) (by omega) (by omega) (by omega) (by omega) (by omega) (by omega) _ pB7 T (zs_bl_cg tb (fun j _ _ => zv_wa ((((((((w6.wd rfl : zb_W [(30, 0), (27, 4)] h _).tr (w12.wd rfl)).tr (w18.wd rfl)).tr (w24.wd rfl)).tr (w31.wd rfl)).tr (w38.wd rfl)).tr (w44.wd rfl)).tr (w51.wd rfl)) rfl j))).up (Nat.le_of_ble_eq_true rfl)) ?_
  rintro r54 h57 ⟨ih57, w58, r54q, x56⟩
  subst r54q
  try dsimp only at x56
  have eB1 := x56.1
  have eN1 := x56.2
  show zx_T zp_P 3 zp_m105 69 [(0, .ref 27), (1, .int (zI (d)))] [] h57 _
  exact zr_vr (pc := 69) rfl rfl ⟨ih57, (((((((((w6.wd rfl : zb_W [(30, 0), (27, 4)] h _).tr (w12.wd rfl)).tr (w18.wd rfl)).tr (w24.wd rfl)).tr (w31.wd rfl)).tr (w38.wd rfl)).tr (w44.wd rfl)).tr (w51.wd rfl)).tr (w58.wd rfl)), rfl, by dsimp only; have q9 := eB1; rw [show (O.length : Int) = zv_f h 27 8 from on.symm, show (T.length : Int) = zv_f h 27 10 from tn.symm]; simp only [List.append_assoc, List.cons_append, List.nil_append, Int.toNat_zero, List.drop_zero] at q9 ⊢; exact q9⟩

set_option maxRecDepth 100000 in
set_option maxHeartbeats 4000000 in
theorem zm_packFrame {h : zx_H} (hI : zb_I zc_H h) {d : Int} (d1 : (-200) ≤ d) (d2 : d ≤ 200) (pk : zv_f h 27 4 ≤ 2891) (L : List Int) (bl : zs_bl (zv_f h 27 4) (zv_a h 30) L) (O : List Int) (ob : zs_bl (zv_f h 27 8) (zv_a h 32) O) (T : List Int) (tb : zs_bl (zv_f h 27 10) (zv_a h 33) T) (A : List Int) (ab : zs_bl (zv_f h 27 6) (zv_a h 31) A) : zx_T zp_P 4 zp_m103 0 [(0, .ref 27), (1, .int (zI (d)))] [] h (zr_V [(30, 0), (27, 4)] h (fun h' => zs_bl (zv_f h' 27 4) (zv_a h' 30) (L ++ zs_fb A O T d))) := by
  have hP := zw_ri hI (a := 27) (k := 4) rfl
  have h8 := zw_ri hI (a := 27) (k := 8) rfl
  have h10 := zw_ri hI (a := 27) (k := 10) rfl
  have on := ob.1
  have tn := tb.1
  have h6 := zw_ri hI (a := 27) (k := 6) rfl
  have an := ab.1
  refine zx_T.l (i := .aload_n 0) (k := 1) (v := .ref 27) (pc := 0) rfl rfl rfl ?_
  refine zw_gi (k := 8) (lo := 0) (hi := 8) (e := zv_f h 27 8) (pc := 1) rfl rfl rfl hI rfl (fun g1a g1b => ?_)
  refine zx_T.l (i := .aload_n 0) (k := 1) (v := .ref 27) (pc := 4) rfl rfl rfl ?_
  refine zw_gi (k := 6) (lo := 0) (hi := 8) (e := zv_f h 27 6) (pc := 5) rfl rfl rfl hI rfl (fun g2a g2b => ?_)
  refine zr_sub (x := zv_f h 27 8) (y := zv_f h 27 6) (e := zv_f h 27 8 - zv_f h 27 6) (pc := 8) rfl (by omega) ?_
  refine zx_T.t (i := .istore_n 2) (k := 1) (ls' := [(2, .int (zI (zv_f h 27 8 - zv_f h 27 6))), (0, .ref 27), (1, .int (zI (d)))]) (st' := []) (pc := 9) rfl rfl rfl rfl ?_
  refine zx_T.l (i := .aload_n 0) (k := 1) (v := .ref 27) (pc := 10) rfl rfl rfl ?_
  refine zw_iv (b := 27) (cj := 104) (q' := zp_m104) (As := []) (rest := []) (pc := 11) rfl rfl rfl rfl rfl rfl rfl (Nat.le_of_ble_eq_true rfl) rfl (Nat.le_of_ble_eq_true rfl) hI ((zm_startsAlike (h := h) hI  ).up (Nat.le_of_ble_eq_true rfl)) ?_
  rintro r3 h6 ⟨h6q, v4, r3q, x5⟩
  subst h6q r3q
  try dsimp only at x5
  have aL := x5.1
  have nN : v4 = 1 ↔ zs_nl A O := (by rw [zs_nl_ag ab ob]; exact ⟨fun z => (aL.resolve_right (fun y => absurd y.1 (by omega))).2, fun z => by rcases aL with y | y; (exact y.1); (exact absurd z y.2)⟩)
  show zx_T zp_P 4 zp_m103 14 [(2, .int (zI (zv_f h 27 8 - zv_f h 27 6))), (0, .ref 27), (1, .int (zI (d)))] [.int (zI (v4))] h _
  refine zx_T.t (i := .istore_n 3) (k := 1) (ls' := [(3, .int (zI (v4))), (2, .int (zI (zv_f h 27 8 - zv_f h 27 6))), (0, .ref 27), (1, .int (zI (d)))]) (st' := []) (pc := 14) rfl rfl rfl rfl ?_
  refine zx_T.l (i := .iload_n 3) (k := 1) (v := .int (zI (v4))) (pc := 15) rfl rfl rfl ?_
  refine zr_i1 (x := v4) (t := 38) (pc := 16) rfl rfl (by omega) (by omega) (fun (c7 : v4 = 0) => ?_) (fun (c7 : ¬ (v4 = 0)) => ?_)
  · refine zx_T.l (i := .iload_n 3) (k := 1) (v := .int (zI (v4))) (pc := 38) rfl rfl rfl ?_
    refine zr_i1 (x := v4) (t := 75) (pc := 39) rfl rfl (by omega) (by omega) (fun (c8 : v4 = 0) => ?_) (fun (c8 : ¬ (v4 = 0)) => False.elim (by omega))
    refine zx_T.l (i := .iload_n 3) (k := 1) (v := .int (zI (v4))) (pc := 75) rfl rfl rfl ?_
    refine zr_i1 (x := v4) (t := 135) (pc := 76) rfl rfl (by omega) (by omega) (fun (c9 : v4 = 0) => ?_) (fun (c9 : ¬ (v4 = 0)) => False.elim (by omega))
    refine zx_T.l (i := .aload_n 0) (k := 1) (v := .ref 27) (pc := 135) rfl rfl rfl ?_
    refine zx_T.l (i := .iload_n 1) (k := 1) (v := .int (zI (d))) (pc := 136) rfl rfl rfl ?_
    refine zw_iv (b := 27) (cj := 105) (q' := zp_m105) (As := [.int (zI (d))]) (rest := []) (pc := 137) rfl rfl rfl rfl rfl rfl rfl (Nat.le_of_ble_eq_true rfl) rfl (Nat.le_of_ble_eq_true rfl) hI ((zm_packWhole (h := h) hI (d := d) (by omega) (by omega) (by omega) L bl O ob T tb).up (Nat.le_of_ble_eq_true rfl)) ?_
    rintro r11 h14 ⟨ih14, w15, r11q, x13⟩
    subst r11q
    try dsimp only at x13
    have wW := x13
    show zx_T zp_P 4 zp_m103 140 [(3, .int (zI (v4))), (2, .int (zI (zv_f h 27 8 - zv_f h 27 6))), (0, .ref 27), (1, .int (zI (d)))] [] h14 _
    exact zr_vr (pc := 140) rfl rfl ⟨ih14, (w15.wd rfl : zb_W [(30, 0), (27, 4)] h _), rfl, by dsimp only; unfold zs_fb; rw [zi_f (fun z => by have z1 := nN.2 z.1; omega), zi_f (fun z => by have z1 := nN.2 z.1; omega), zi_f (fun z => by have z1 := nN.2 z.1; omega)]; exact wW⟩
  · refine zx_T.l (i := .iload_n 2) (k := 1) (v := .int (zI (zv_f h 27 8 - zv_f h 27 6))) (pc := 19) rfl rfl rfl ?_
    refine zr_i1 (x := zv_f h 27 8 - zv_f h 27 6) (t := 38) (pc := 20) rfl rfl (by omega) (by omega) (fun (c16 : ¬ (zv_f h 27 8 - zv_f h 27 6) = 0) => ?_) (fun (c16 : ¬ (¬ (zv_f h 27 8 - zv_f h 27 6) = 0)) => ?_)
    · refine zx_T.l (i := .iload_n 3) (k := 1) (v := .int (zI (v4))) (pc := 38) rfl rfl rfl ?_
      refine zr_i1 (x := v4) (t := 75) (pc := 39) rfl rfl (by omega) (by omega) (fun (c17 : v4 = 0) => False.elim (by omega)) (fun (c17 : ¬ (v4 = 0)) => ?_)
      refine zx_T.l (i := .iload_n 2) (k := 1) (v := .int (zI (zv_f h 27 8 - zv_f h 27 6))) (pc := 42) rfl rfl rfl ?_
      refine zr_i1 (x := zv_f h 27 8 - zv_f h 27 6) (t := 75) (pc := 43) rfl rfl (by omega) (by omega) (fun (c18 : ¬ (zv_f h 27 8 - zv_f h 27 6) = 0) => ?_) (fun (c18 : ¬ (¬ (zv_f h 27 8 - zv_f h 27 6) = 0)) => False.elim (by omega))
      refine zx_T.l (i := .iload_n 3) (k := 1) (v := .int (zI (v4))) (pc := 75) rfl rfl rfl ?_
      refine zr_i1 (x := v4) (t := 135) (pc := 76) rfl rfl (by omega) (by omega) (fun (c19 : v4 = 0) => False.elim (by omega)) (fun (c19 : ¬ (v4 = 0)) => ?_)
      refine zx_T.l (i := .aload_n 0) (k := 1) (v := .ref 27) (pc := 79) rfl rfl rfl ?_
      refine zw_gi (k := 10) (lo := 0) (hi := 6) (e := zv_f h 27 10) (pc := 80) rfl rfl rfl hI rfl (fun g20a g20b => ?_)
      refine zr_i1 (x := zv_f h 27 10) (t := 135) (pc := 83) rfl rfl (by omega) (by omega) (fun (c21 : ¬ (zv_f h 27 10) = 0) => ?_) (fun (c21 : ¬ (¬ (zv_f h 27 10) = 0)) => ?_)
      · refine zx_T.l (i := .aload_n 0) (k := 1) (v := .ref 27) (pc := 135) rfl rfl rfl ?_
        refine zx_T.l (i := .iload_n 1) (k := 1) (v := .int (zI (d))) (pc := 136) rfl rfl rfl ?_
        refine zw_iv (b := 27) (cj := 105) (q' := zp_m105) (As := [.int (zI (d))]) (rest := []) (pc := 137) rfl rfl rfl rfl rfl rfl rfl (Nat.le_of_ble_eq_true rfl) rfl (Nat.le_of_ble_eq_true rfl) hI ((zm_packWhole (h := h) hI (d := d) (by omega) (by omega) (by omega) L bl O ob T tb).up (Nat.le_of_ble_eq_true rfl)) ?_
        rintro r23 h26 ⟨ih26, w27, r23q, x25⟩
        subst r23q
        try dsimp only at x25
        have wW := x25
        show zx_T zp_P 4 zp_m103 140 [(3, .int (zI (v4))), (2, .int (zI (zv_f h 27 8 - zv_f h 27 6))), (0, .ref 27), (1, .int (zI (d)))] [] h26 _
        exact zr_vr (pc := 140) rfl rfl ⟨ih26, (w27.wd rfl : zb_W [(30, 0), (27, 4)] h _), rfl, by dsimp only; unfold zs_fb; rw [zi_f (fun z => by have z1 := nN.2 z.1; omega), zi_f (fun z => by have z1 := nN.2 z.1; omega), zi_f (fun z => by have z1 := nN.2 z.1; omega)]; exact wW⟩
      · refine zx_T.l (i := .iload_n 2) (k := 1) (v := .int (zI (zv_f h 27 8 - zv_f h 27 6))) (pc := 86) rfl rfl rfl ?_
        refine zx_T.s (i := .bipush (-3)) (k := 2) (st' := [.int (zI ((-3))), .int (zI (zv_f h 27 8 - zv_f h 27 6))]) (pc := 87) rfl rfl ?_
        refine zr_i2 (x := zv_f h 27 8 - zv_f h 27 6) (y := (-3)) (t := 135) (pc := 89) rfl rfl (by omega) (by omega) (by omega) (by omega) (fun (c28 : (zv_f h 27 8 - zv_f h 27 6) < (-3)) => ?_) (fun (c28 : ¬ ((zv_f h 27 8 - zv_f h 27 6) < (-3))) => ?_)
        · refine zx_T.l (i := .aload_n 0) (k := 1) (v := .ref 27) (pc := 135) rfl rfl rfl ?_
          refine zx_T.l (i := .iload_n 1) (k := 1) (v := .int (zI (d))) (pc := 136) rfl rfl rfl ?_
          refine zw_iv (b := 27) (cj := 105) (q' := zp_m105) (As := [.int (zI (d))]) (rest := []) (pc := 137) rfl rfl rfl rfl rfl rfl rfl (Nat.le_of_ble_eq_true rfl) rfl (Nat.le_of_ble_eq_true rfl) hI ((zm_packWhole (h := h) hI (d := d) (by omega) (by omega) (by omega) L bl O ob T tb).up (Nat.le_of_ble_eq_true rfl)) ?_
          rintro r30 h33 ⟨ih33, w34, r30q, x32⟩
          subst r30q
          try dsimp only at x32
          have wW := x32
          show zx_T zp_P 4 zp_m103 140 [(3, .int (zI (v4))), (2, .int (zI (zv_f h 27 8 - zv_f h 27 6))), (0, .ref 27), (1, .int (zI (d)))] [] h33 _
          exact zr_vr (pc := 140) rfl rfl ⟨ih33, (w34.wd rfl : zb_W [(30, 0), (27, 4)] h _), rfl, by dsimp only; unfold zs_fb; rw [zi_f (fun z => by have z1 := nN.2 z.1; omega), zi_f (fun z => by have z1 := nN.2 z.1; omega), zi_f (fun z => by have z1 := nN.2 z.1; omega)]; exact wW⟩
        · refine zx_T.l (i := .iload_n 2) (k := 1) (v := .int (zI (zv_f h 27 8 - zv_f h 27 6))) (pc := 92) rfl rfl rfl ?_
          refine zx_T.s (i := .iconst 3) (k := 1) (st' := [.int (zI (3)), .int (zI (zv_f h 27 8 - zv_f h 27 6))]) (pc := 93) rfl rfl ?_
          refine zr_i2 (x := zv_f h 27 8 - zv_f h 27 6) (y := 3) (t := 135) (pc := 94) rfl rfl (by omega) (by omega) (by omega) (by omega) (fun (c35 : 3 < (zv_f h 27 8 - zv_f h 27 6)) => ?_) (fun (c35 : ¬ (3 < (zv_f h 27 8 - zv_f h 27 6))) => ?_)
          · refine zx_T.l (i := .aload_n 0) (k := 1) (v := .ref 27) (pc := 135) rfl rfl rfl ?_
            refine zx_T.l (i := .iload_n 1) (k := 1) (v := .int (zI (d))) (pc := 136) rfl rfl rfl ?_
            refine zw_iv (b := 27) (cj := 105) (q' := zp_m105) (As := [.int (zI (d))]) (rest := []) (pc := 137) rfl rfl rfl rfl rfl rfl rfl (Nat.le_of_ble_eq_true rfl) rfl (Nat.le_of_ble_eq_true rfl) hI ((zm_packWhole (h := h) hI (d := d) (by omega) (by omega) (by omega) L bl O ob T tb).up (Nat.le_of_ble_eq_true rfl)) ?_
            rintro r37 h40 ⟨ih40, w41, r37q, x39⟩
            subst r37q
            try dsimp only at x39
            have wW := x39
            show zx_T zp_P 4 zp_m103 140 [(3, .int (zI (v4))), (2, .int (zI (zv_f h 27 8 - zv_f h 27 6))), (0, .ref 27), (1, .int (zI (d)))] [] h40 _
            exact zr_vr (pc := 140) rfl rfl ⟨ih40, (w41.wd rfl : zb_W [(30, 0), (27, 4)] h _), rfl, by dsimp only; unfold zs_fb; rw [zi_f (fun z => by have z1 := nN.2 z.1; omega), zi_f (fun z => by have z1 := nN.2 z.1; omega), zi_f (fun z => by have z1 := nN.2 z.1; omega)]; exact wW⟩
          · refine zx_T.l (i := .aload_n 0) (k := 1) (v := .ref 27) (pc := 97) rfl rfl rfl ?_
            refine zx_T.s (i := .sipush 251) (k := 3) (st' := [.int (zI (251)), .ref 27]) (pc := 98) rfl rfl ?_
            refine zx_T.l (i := .iload_n 2) (k := 1) (v := .int (zI (zv_f h 27 8 - zv_f h 27 6))) (pc := 101) rfl rfl rfl ?_
            refine zr_add (x := 251) (y := zv_f h 27 8 - zv_f h 27 6) (e := zv_f h 27 8 - zv_f h 27 6 + 251) (pc := 102) rfl (by omega) ?_
            refine zw_iv (b := 27) (cj := 108) (q' := zp_m108) (As := [.int (zI (zv_f h 27 8 - zv_f h 27 6 + 251))]) (rest := []) (pc := 103) rfl rfl rfl rfl rfl rfl rfl (Nat.le_of_ble_eq_true rfl) rfl (Nat.le_of_ble_eq_true rfl) hI ((zm_pWrite (h := h) hI (b := zv_f h 27 8 - zv_f h 27 6 + 251) (by omega) (by omega) (by omega) L bl).up (Nat.le_of_ble_eq_true rfl)) ?_
            rintro r43 h46 ⟨ih46, w47, r43q, x45⟩
            subst r43q
            try dsimp only at x45
            have pB1 := x45.1
            have pN1 := x45.2
            show zx_T zp_P 4 zp_m103 106 [(3, .int (zI (v4))), (2, .int (zI (zv_f h 27 8 - zv_f h 27 6))), (0, .ref 27), (1, .int (zI (d)))] [] h46 _
            refine zx_T.l (i := .aload_n 0) (k := 1) (v := .ref 27) (pc := 106) rfl rfl rfl ?_
            refine zx_T.s (i := .iconst 0) (k := 1) (st' := [.int (zI (0)), .ref 27]) (pc := 107) rfl rfl ?_
            refine zw_iv (b := 27) (cj := 108) (q' := zp_m108) (As := [.int (zI (0))]) (rest := []) (pc := 108) rfl rfl rfl rfl rfl rfl rfl (Nat.le_of_ble_eq_true rfl) rfl (Nat.le_of_ble_eq_true rfl) ih46 ((zm_pWrite (h := h46) ih46 (b := 0) (by omega) (by omega) (by omega) _ pB1).up (Nat.le_of_ble_eq_true rfl)) ?_
            rintro r49 h52 ⟨ih52, w53, r49q, x51⟩
            subst r49q
            try dsimp only at x51
            have pB2 := x51.1
            have pN2 := x51.2
            show zx_T zp_P 4 zp_m103 111 [(3, .int (zI (v4))), (2, .int (zI (zv_f h 27 8 - zv_f h 27 6))), (0, .ref 27), (1, .int (zI (d)))] [] h52 _
            refine zx_T.l (i := .aload_n 0) (k := 1) (v := .ref 27) (pc := 111) rfl rfl rfl ?_
            refine zx_T.l (i := .iload_n 1) (k := 1) (v := .int (zI (d))) (pc := 112) rfl rfl rfl ?_
            refine zw_iv (b := 27) (cj := 108) (q' := zp_m108) (As := [.int (zI (d))]) (rest := []) (pc := 113) rfl rfl rfl rfl rfl rfl rfl (Nat.le_of_ble_eq_true rfl) rfl (Nat.le_of_ble_eq_true rfl) ih52 ((zm_pWrite (h := h52) ih52 (b := d) (by omega) (by omega) (by omega) _ pB2).up (Nat.le_of_ble_eq_true rfl)) ?_
            rintro r55 h58 ⟨ih58, w59, r55q, x57⟩
            subst r55q
            try dsimp only at x57
            have pB3 := x57.1
            have pN3 := x57.2
            show zx_T zp_P 4 zp_m103 116 [(3, .int (zI (v4))), (2, .int (zI (zv_f h 27 8 - zv_f h 27 6))), (0, .ref 27), (1, .int (zI (d)))] [] h58 _
            refine zx_T.l (i := .aload_n 0) (k := 1) (v := .ref 27) (pc := 116) rfl rfl rfl ?_
            refine zx_T.l (i := .aload_n 0) (k := 1) (v := .ref 27) (pc := 117) rfl rfl rfl ?_
            refine zw_gr (k := 7) (b := 32) (pc := 118) rfl rfl rfl ih58 ?_
            refine zx_T.l (i := .aload_n 0) (k := 1) (v := .ref 27) (pc := 121) rfl rfl rfl ?_
            refine zw_gi (k := 6) (lo := 0) (hi := 8) (e := zv_f h 27 6) (pc := 122) rfl rfl rfl ih58 ((zv_wf w59 rfl).trans ((zv_wf w53 rfl).trans (zv_wf w47 rfl))) (fun g60a g60b => ?_)
            refine zx_T.l (i := .aload_n 0) (k := 1) (v := .ref 27) (pc := 125) rfl rfl rfl ?_
            refine zw_gi (k := 8) (lo := 0) (hi := 8) (e := zv_f h 27 8) (pc := 126) rfl rfl rfl ih58 ((zv_wf w59 rfl).trans ((zv_wf w53 rfl).trans (zv_wf w47 rfl))) (fun g61a g61b => ?_)
            refine zw_iv (b := 27) (cj := 106) (q' := zp_m106) (As := [.ref 32, .int (zI (zv_f h 27 6)), .int (zI (zv_f h 27 8))]) (rest := []) (pc := 129) rfl rfl rfl rfl rfl rfl rfl (Nat.le_of_ble_eq_true rfl) rfl (Nat.le_of_ble_eq_true rfl) ih58 ((zm_pWriteEntries_32 (h := h58) ih58 (a := zv_f h 27 6) (u := zv_f h 27 8) (by omega) (by omega) (by omega) (by omega) (by omega) (by omega) _ pB3 O (zs_bl_cg ob (fun j _ _ => zv_wa (((w47.wd rfl : zb_W [(30, 0), (27, 4)] h _).tr (w53.wd rfl)).tr (w59.wd rfl)) rfl j))).up (Nat.le_of_ble_eq_true rfl)) ?_
            rintro r63 h66 ⟨ih66, w67, r63q, x65⟩
            subst r63q
            try dsimp only at x65
            have eB1 := x65.1
            have eN1 := x65.2
            show zx_T zp_P 4 zp_m103 132 [(3, .int (zI (v4))), (2, .int (zI (zv_f h 27 8 - zv_f h 27 6))), (0, .ref 27), (1, .int (zI (d)))] [] h66 _
            refine zx_T.j (i := .goto 8) (k := 3) (pc' := 140) (st' := []) (pc := 132) rfl rfl rfl rfl rfl ?_
            exact zr_vr (pc := 140) rfl rfl ⟨ih66, ((((w47.wd rfl : zb_W [(30, 0), (27, 4)] h _).tr (w53.wd rfl)).tr (w59.wd rfl)).tr (w67.wd rfl)), rfl, by dsimp only; unfold zs_fb; rw [zi_f (fun z => by omega), zi_f (fun z => by omega), zi_t ⟨nN.1 (by omega), by omega, by omega, by omega⟩]; have q9 := eB1; rw [List.append_assoc, List.append_assoc, List.append_assoc, show (zv_f h 27 6).toNat = A.length by omega] at q9; rw [show 251 + ((O.length : Int) - A.length) = zv_f h 27 8 - zv_f h 27 6 + 251 by omega]; exact q9⟩
    · refine zx_T.l (i := .aload_n 0) (k := 1) (v := .ref 27) (pc := 23) rfl rfl rfl ?_
      refine zw_gi (k := 10) (lo := 0) (hi := 6) (e := zv_f h 27 10) (pc := 24) rfl rfl rfl hI rfl (fun g68a g68b => ?_)
      refine zr_i1 (x := zv_f h 27 10) (t := 38) (pc := 27) rfl rfl (by omega) (by omega) (fun (c69 : ¬ (zv_f h 27 10) = 0) => ?_) (fun (c69 : ¬ (¬ (zv_f h 27 10) = 0)) => ?_)
      · refine zx_T.l (i := .iload_n 3) (k := 1) (v := .int (zI (v4))) (pc := 38) rfl rfl rfl ?_
        refine zr_i1 (x := v4) (t := 75) (pc := 39) rfl rfl (by omega) (by omega) (fun (c70 : v4 = 0) => False.elim (by omega)) (fun (c70 : ¬ (v4 = 0)) => ?_)
        refine zx_T.l (i := .iload_n 2) (k := 1) (v := .int (zI (zv_f h 27 8 - zv_f h 27 6))) (pc := 42) rfl rfl rfl ?_
        refine zr_i1 (x := zv_f h 27 8 - zv_f h 27 6) (t := 75) (pc := 43) rfl rfl (by omega) (by omega) (fun (c71 : ¬ (zv_f h 27 8 - zv_f h 27 6) = 0) => False.elim (by omega)) (fun (c71 : ¬ (¬ (zv_f h 27 8 - zv_f h 27 6) = 0)) => ?_)
        refine zx_T.l (i := .aload_n 0) (k := 1) (v := .ref 27) (pc := 46) rfl rfl rfl ?_
        refine zw_gi (k := 10) (lo := 0) (hi := 6) (e := zv_f h 27 10) (pc := 47) rfl rfl rfl hI rfl (fun g72a g72b => ?_)
        refine zx_T.s (i := .iconst 1) (k := 1) (st' := [.int (zI (1)), .int (zI (zv_f h 27 10))]) (pc := 50) rfl rfl ?_
        refine zr_i2 (x := zv_f h 27 10) (y := 1) (t := 75) (pc := 51) rfl rfl (by omega) (by omega) (by omega) (by omega) (fun (c73 : ¬ (zv_f h 27 10) = 1) => ?_) (fun (c73 : ¬ (¬ (zv_f h 27 10) = 1)) => ?_)
        · refine zx_T.l (i := .iload_n 3) (k := 1) (v := .int (zI (v4))) (pc := 75) rfl rfl rfl ?_
          refine zr_i1 (x := v4) (t := 135) (pc := 76) rfl rfl (by omega) (by omega) (fun (c74 : v4 = 0) => False.elim (by omega)) (fun (c74 : ¬ (v4 = 0)) => ?_)
          refine zx_T.l (i := .aload_n 0) (k := 1) (v := .ref 27) (pc := 79) rfl rfl rfl ?_
          refine zw_gi (k := 10) (lo := 0) (hi := 6) (e := zv_f h 27 10) (pc := 80) rfl rfl rfl hI rfl (fun g75a g75b => ?_)
          refine zr_i1 (x := zv_f h 27 10) (t := 135) (pc := 83) rfl rfl (by omega) (by omega) (fun (c76 : ¬ (zv_f h 27 10) = 0) => ?_) (fun (c76 : ¬ (¬ (zv_f h 27 10) = 0)) => False.elim (by omega))
          refine zx_T.l (i := .aload_n 0) (k := 1) (v := .ref 27) (pc := 135) rfl rfl rfl ?_
          refine zx_T.l (i := .iload_n 1) (k := 1) (v := .int (zI (d))) (pc := 136) rfl rfl rfl ?_
          refine zw_iv (b := 27) (cj := 105) (q' := zp_m105) (As := [.int (zI (d))]) (rest := []) (pc := 137) rfl rfl rfl rfl rfl rfl rfl (Nat.le_of_ble_eq_true rfl) rfl (Nat.le_of_ble_eq_true rfl) hI ((zm_packWhole (h := h) hI (d := d) (by omega) (by omega) (by omega) L bl O ob T tb).up (Nat.le_of_ble_eq_true rfl)) ?_
          rintro r78 h81 ⟨ih81, w82, r78q, x80⟩
          subst r78q
          try dsimp only at x80
          have wW := x80
          show zx_T zp_P 4 zp_m103 140 [(3, .int (zI (v4))), (2, .int (zI (zv_f h 27 8 - zv_f h 27 6))), (0, .ref 27), (1, .int (zI (d)))] [] h81 _
          exact zr_vr (pc := 140) rfl rfl ⟨ih81, (w82.wd rfl : zb_W [(30, 0), (27, 4)] h _), rfl, by dsimp only; unfold zs_fb; rw [zi_f (fun z => by have z1 := nN.2 z.1; omega), zi_f (fun z => by have z1 := nN.2 z.1; omega), zi_f (fun z => by have z1 := nN.2 z.1; omega)]; exact wW⟩
        · refine zx_T.l (i := .aload_n 0) (k := 1) (v := .ref 27) (pc := 54) rfl rfl rfl ?_
          refine zx_T.s (i := .bipush 64) (k := 2) (st' := [.int (zI (64)), .ref 27]) (pc := 55) rfl rfl ?_
          refine zx_T.l (i := .iload_n 1) (k := 1) (v := .int (zI (d))) (pc := 57) rfl rfl rfl ?_
          refine zr_add (x := 64) (y := d) (e := d + 64) (pc := 58) rfl (by omega) ?_
          refine zw_iv (b := 27) (cj := 108) (q' := zp_m108) (As := [.int (zI (d + 64))]) (rest := []) (pc := 59) rfl rfl rfl rfl rfl rfl rfl (Nat.le_of_ble_eq_true rfl) rfl (Nat.le_of_ble_eq_true rfl) hI ((zm_pWrite (h := h) hI (b := d + 64) (by omega) (by omega) (by omega) L bl).up (Nat.le_of_ble_eq_true rfl)) ?_
          rintro r84 h87 ⟨ih87, w88, r84q, x86⟩
          subst r84q
          try dsimp only at x86
          have pB1 := x86.1
          have pN1 := x86.2
          show zx_T zp_P 4 zp_m103 62 [(3, .int (zI (v4))), (2, .int (zI (zv_f h 27 8 - zv_f h 27 6))), (0, .ref 27), (1, .int (zI (d)))] [] h87 _
          refine zx_T.l (i := .aload_n 0) (k := 1) (v := .ref 27) (pc := 62) rfl rfl rfl ?_
          refine zx_T.l (i := .aload_n 0) (k := 1) (v := .ref 27) (pc := 63) rfl rfl rfl ?_
          refine zw_gr (k := 9) (b := 33) (pc := 64) rfl rfl rfl ih87 ?_
          refine zx_T.s (i := .iconst 0) (k := 1) (st' := [.int (zI (0)), .ref 33, .ref 27]) (pc := 67) rfl rfl ?_
          refine zx_T.s (i := .iconst 1) (k := 1) (st' := [.int (zI (1)), .int (zI (0)), .ref 33, .ref 27]) (pc := 68) rfl rfl ?_
          refine zw_iv (b := 27) (cj := 106) (q' := zp_m106) (As := [.ref 33, .int (zI (0)), .int (zI (1))]) (rest := []) (pc := 69) rfl rfl rfl rfl rfl rfl rfl (Nat.le_of_ble_eq_true rfl) rfl (Nat.le_of_ble_eq_true rfl) ih87 ((zm_pWriteEntries_33 (h := h87) ih87 (a := 0) (u := 1) (by omega) (by omega) (by omega) (by omega) (by omega) (by omega) _ pB1 T (by rw [show (1 : Int) = zv_f h 27 10 by omega]; exact zs_bl_cg tb (fun j _ _ => zv_wa (w88.wd rfl : zb_W [(30, 0), (27, 4)] h _) rfl j))).up (Nat.le_of_ble_eq_true rfl)) ?_
          rintro r90 h93 ⟨ih93, w94, r90q, x92⟩
          subst r90q
          try dsimp only at x92
          have eB1 := x92.1
          have eN1 := x92.2
          show zx_T zp_P 4 zp_m103 72 [(3, .int (zI (v4))), (2, .int (zI (zv_f h 27 8 - zv_f h 27 6))), (0, .ref 27), (1, .int (zI (d)))] [] h93 _
          refine zx_T.j (i := .goto 68) (k := 3) (pc' := 140) (st' := []) (pc := 72) rfl rfl rfl rfl rfl ?_
          exact zr_vr (pc := 140) rfl rfl ⟨ih93, ((w88.wd rfl : zb_W [(30, 0), (27, 4)] h _).tr (w94.wd rfl)), rfl, by dsimp only; unfold zs_fb; rw [zi_f (fun z => by omega), zi_t ⟨nN.1 (by omega), by omega, by omega⟩]; have q9 := eB1; rw [List.append_assoc] at q9; rw [show 64 + d = d + 64 by omega]; simp only [Int.toNat_zero, List.drop_zero] at q9; exact q9⟩
      · refine zx_T.l (i := .aload_n 0) (k := 1) (v := .ref 27) (pc := 30) rfl rfl rfl ?_
        refine zx_T.l (i := .iload_n 1) (k := 1) (v := .int (zI (d))) (pc := 31) rfl rfl rfl ?_
        refine zw_iv (b := 27) (cj := 108) (q' := zp_m108) (As := [.int (zI (d))]) (rest := []) (pc := 32) rfl rfl rfl rfl rfl rfl rfl (Nat.le_of_ble_eq_true rfl) rfl (Nat.le_of_ble_eq_true rfl) hI ((zm_pWrite (h := h) hI (b := d) (by omega) (by omega) (by omega) L bl).up (Nat.le_of_ble_eq_true rfl)) ?_
        rintro r96 h99 ⟨ih99, w100, r96q, x98⟩
        subst r96q
        try dsimp only at x98
        have pB1 := x98.1
        have pN1 := x98.2
        show zx_T zp_P 4 zp_m103 35 [(3, .int (zI (v4))), (2, .int (zI (zv_f h 27 8 - zv_f h 27 6))), (0, .ref 27), (1, .int (zI (d)))] [] h99 _
        refine zx_T.j (i := .goto 105) (k := 3) (pc' := 140) (st' := []) (pc := 35) rfl rfl rfl rfl rfl ?_
        exact zr_vr (pc := 140) rfl rfl ⟨ih99, (w100.wd rfl : zb_W [(30, 0), (27, 4)] h _), rfl, by dsimp only; unfold zs_fb; rw [zi_t ⟨nN.1 (by omega), by omega, by omega⟩]; exact pB1⟩

set_option maxRecDepth 100000 in
set_option maxHeartbeats 4000000 in
theorem zm_pPack_L {h : zx_H} (hI : zb_I zc_H h)  (F : zF) (hF : zc_Fr h F) (oF : F.ok) (wl : zw_loc 0 8 (zs_row (zc_Pg h))) (n : Nat) : (∀ {h2 : zx_H} {b : Int} {f : Int} (hI2 : zb_I zc_H h2) (f1 : 0 ≤ f) (f2 : f ≤ F.n) (bE : (f = 0 ∧ b = 0) ∨ (1 ≤ f ∧ b = F.pl (f - 1) + 1)) (br : 0 ≤ b ∧ b ≤ 60) (hw : zb_W [(27, 4), (27, 6), (31, 0), (28, 1), (29, 0), (32, 0), (27, 8), (33, 0), (27, 10), (30, 0)] h h2) (bl2 : zs_bl (zv_f h2 27 4) (zv_a h2 30) (zs_pkd (zc_Pg h) F f.toNat)) (ab2 : f < F.n → zs_bl (zv_f h2 27 6) (zv_a h2 31) (zs_ah (zc_Pg h) F f)), (100 - f : Int).toNat < n → zx_T zp_P 5 zp_m98 13 [(0, .ref 27), (1, .int (zI (b))), (2, .int (zI (f)))] [] h2 (zr_R [(27, 4), (27, 6), (31, 0), (28, 1), (29, 0), (32, 0), (27, 8), (33, 0), (27, 10), (30, 0)] h (fun e h' => e = zv_f h' 27 4 ∧ zs_bl (zv_f h' 27 4) (zv_a h' 30) (zs_pkd (zc_Pg h) F F.n.toNat)))) := by
  induction n with
  | zero => exact fun _ _ _ _ _ _ _ _ hm => absurd hm (Nat.not_lt_zero _)
  | succ n ih =>
    intro h2 b f hI2 f1 f2 bE br hw bl2 ab2 hm
    have ofn := oF.2.1
    have of0 := oF.1
    have nF := hF.1
    have hF2 := zc_Fr_w hw rfl hF
    have d9 : zv_f h2 10 3 = zv_f h 10 3 := zv_wf hw rfl
    have pl9 := zs_pkd_l (P := zc_Pg h) oF f.toNat (by omega)
    have bn := bl2.1
    refine zx_T.l (i := .iload_n 2) (k := 1) (v := .int (zI (f))) (pc := 13) rfl rfl rfl ?_
    refine zx_T.l (i := .aload_n 0) (k := 1) (v := .ref 27) (pc := 14) rfl rfl rfl ?_
    refine zw_gr (k := 1) (b := 10) (pc := 15) rfl rfl rfl hI2 ?_
    refine zw_iv (b := 10) (cj := 30) (q' := zp_m30) (As := []) (rest := [.int (zI (f))]) (pc := 18) rfl rfl rfl rfl rfl rfl rfl (Nat.le_of_ble_eq_true rfl) rfl (Nat.le_of_ble_eq_true rfl) hI2 ((zm_fHowMany (h := h2) hI2  ).up (Nat.le_of_ble_eq_true rfl)) ?_
    rintro r1 h4 ⟨h4q, v2, r1q, x3⟩
    subst h4q r1q
    try dsimp only at x3
    show zx_T zp_P 5 zp_m98 21 [(0, .ref 27), (1, .int (zI (b))), (2, .int (zI (f)))] [.int (zI (v2)), .int (zI (f))] h2 _
    refine zr_i2 (x := f) (y := v2) (t := 64) (pc := 21) rfl rfl (by omega) (by omega) (by omega) (by omega) (fun (c5 : v2 ≤ f) => ?_) (fun (c5 : ¬ (v2 ≤ f)) => ?_)
    · refine zx_T.l (i := .aload_n 0) (k := 1) (v := .ref 27) (pc := 64) rfl rfl rfl ?_
      refine zw_gi (k := 4) (lo := 0) (hi := 2940) (e := zv_f h2 27 4) (pc := 65) rfl rfl rfl hI2 rfl (fun g6a g6b => ?_)
      exact zr_ir (x := zv_f h2 27 4) (pc := 68) rfl rfl rfl ⟨hI2, (hw.wd rfl : zb_W [(27, 4), (27, 6), (31, 0), (28, 1), (29, 0), (32, 0), (27, 8), (33, 0), (27, 10), (30, 0)] h _), _, rfl, by dsimp only; exact ⟨rfl, by rw [show F.n = f by omega]; exact bl2⟩⟩
    · have of9 := oF.2.2 f f1 (by omega)
      have ab2 := ab2 (by omega)
      refine zx_T.l (i := .aload_n 0) (k := 1) (v := .ref 27) (pc := 24) rfl rfl rfl ?_
      refine zx_T.l (i := .iload_n 2) (k := 1) (v := .int (zI (f))) (pc := 25) rfl rfl rfl ?_
      refine zw_iv (b := 27) (cj := 100) (q' := zp_m100) (As := [.int (zI (f))]) (rest := []) (pc := 26) rfl rfl rfl rfl rfl rfl rfl (Nat.le_of_ble_eq_true rfl) rfl (Nat.le_of_ble_eq_true rfl) hI2 ((zm_gatherFrame (h := h2) hI2 (f := f) F hF2 oF (by omega) (by omega)).up (Nat.le_of_ble_eq_true rfl)) ?_
      rintro r7 h10 ⟨ih10, w11, r7q, x9⟩
      subst r7q
      try dsimp only at x9
      have gF := x9
      show zx_T zp_P 5 zp_m98 29 [(0, .ref 27), (1, .int (zI (b))), (2, .int (zI (f)))] [] h10 _
      have ab3 : zs_bl (zv_f h10 27 6) (zv_a h10 31) (zs_ah (zc_Pg h) F f) := (by rw [zv_wf w11 rfl]; exact zs_bl_cg ab2 (fun j _ _ => zv_wa w11 rfl j))
      have bl3 : zs_bl (zv_f h10 27 4) (zv_a h10 30) (zs_pkd (zc_Pg h) F f.toNat) := (by rw [zv_wf w11 rfl]; exact zs_bl_cg bl2 (fun j _ _ => zv_wa w11 rfl j))
      have bn3 := bl3.1
      refine zx_T.l (i := .aload_n 0) (k := 1) (v := .ref 27) (pc := 29) rfl rfl rfl ?_
      refine zx_T.l (i := .aload_n 0) (k := 1) (v := .ref 27) (pc := 30) rfl rfl rfl ?_
      refine zw_gr (k := 1) (b := 10) (pc := 31) rfl rfl rfl ih10 ?_
      refine zx_T.l (i := .iload_n 2) (k := 1) (v := .int (zI (f))) (pc := 34) rfl rfl rfl ?_
      have y12 : zv_f h10 10 3 = zv_f h 10 3 := ((zv_wf w11 rfl).trans (zv_wf hw rfl))
      refine zw_iv (b := 10) (cj := 32) (q' := zp_m32) (As := [.int (zI (f))]) (rest := [.ref 27]) (pc := 35) rfl rfl rfl rfl rfl rfl rfl (Nat.le_of_ble_eq_true rfl) rfl (Nat.le_of_ble_eq_true rfl) ih10 ((zm_fPlaceOf (h := h10) ih10 (f := f) (by omega) (by omega)).up (Nat.le_of_ble_eq_true rfl)) ?_
      rintro r13 h16 ⟨h16q, v14, r13q, x15⟩
      subst h16q r13q
      try dsimp only at x15
      have pE1 : v14 = F.pl f := x15.1.trans ((zv_wa (w11.wd rfl : zb_W [(27, 4), (27, 6), (31, 0), (28, 1), (29, 0), (32, 0), (27, 8), (33, 0), (27, 10), (30, 0)] h2 _) rfl f).trans (hF2.2 f f1 (by omega)).1)
      show zx_T zp_P 5 zp_m98 38 [(0, .ref 27), (1, .int (zI (b))), (2, .int (zI (f)))] [.int (zI (v14)), .ref 27] h10 _
      refine zx_T.l (i := .iload_n 1) (k := 1) (v := .int (zI (b))) (pc := 38) rfl rfl rfl ?_
      refine zr_sub (x := v14) (y := b) (e := v14 - b) (pc := 39) rfl (by omega) ?_
      have dI : zs_di F f = F.pl f - b := (by unfold zs_di; rcases bE with y | y; (rw [if_pos y.1, y.2, y.1]; omega); (rw [if_neg (by omega)]; omega))
      have y17 : zv_f h10 27 4 = zv_f h2 27 4 := (zv_wf w11 rfl)
      refine zw_iv (b := 27) (cj := 103) (q' := zp_m103) (As := [.int (zI (v14 - b))]) (rest := []) (pc := 40) rfl rfl rfl rfl rfl rfl rfl (Nat.le_of_ble_eq_true rfl) rfl (Nat.le_of_ble_eq_true rfl) ih10 ((zm_packFrame (h := h10) ih10 (d := v14 - b) (by omega) (by omega) (by omega) _ bl3 (F.ow f) gF.1 (F.sk f) gF.2 (zs_ah (zc_Pg h) F f) ab3).up (Nat.le_of_ble_eq_true rfl)) ?_
      rintro r18 h21 ⟨ih21, w22, r18q, x20⟩
      subst r18q
      try dsimp only at x20
      have pF := x20
      show zx_T zp_P 5 zp_m98 43 [(0, .ref 27), (1, .int (zI (b))), (2, .int (zI (f)))] [] h21 _
      refine zx_T.l (i := .aload_n 0) (k := 1) (v := .ref 27) (pc := 43) rfl rfl rfl ?_
      refine zw_gr (k := 1) (b := 10) (pc := 44) rfl rfl rfl ih21 ?_
      refine zx_T.l (i := .iload_n 2) (k := 1) (v := .int (zI (f))) (pc := 47) rfl rfl rfl ?_
      have y23 : zv_f h21 10 3 = zv_f h 10 3 := ((zv_wf w22 rfl).trans ((zv_wf w11 rfl).trans (zv_wf hw rfl)))
      refine zw_iv (b := 10) (cj := 32) (q' := zp_m32) (As := [.int (zI (f))]) (rest := []) (pc := 48) rfl rfl rfl rfl rfl rfl rfl (Nat.le_of_ble_eq_true rfl) rfl (Nat.le_of_ble_eq_true rfl) ih21 ((zm_fPlaceOf (h := h21) ih21 (f := f) (by omega) (by omega)).up (Nat.le_of_ble_eq_true rfl)) ?_
      rintro r24 h27 ⟨h27q, v25, r24q, x26⟩
      subst h27q r24q
      try dsimp only at x26
      have pE2 : v25 = F.pl f := x26.1.trans ((zv_wa ((w11.wd rfl : zb_W [(27, 4), (27, 6), (31, 0), (28, 1), (29, 0), (32, 0), (27, 8), (33, 0), (27, 10), (30, 0)] h2 _).tr (w22.wd rfl)) rfl f).trans (hF2.2 f f1 (by omega)).1)
      show zx_T zp_P 5 zp_m98 51 [(0, .ref 27), (1, .int (zI (b))), (2, .int (zI (f)))] [.int (zI (v25))] h21 _
      refine zx_T.s (i := .iconst 1) (k := 1) (st' := [.int (zI (1)), .int (zI (v25))]) (pc := 51) rfl rfl ?_
      refine zr_add (x := v25) (y := 1) (e := v25 + 1) (pc := 52) rfl (by omega) ?_
      refine zx_T.t (i := .istore_n 1) (k := 1) (ls' := [(1, .int (zI (v25 + 1))), (0, .ref 27), (2, .int (zI (f)))]) (st' := []) (pc := 53) rfl rfl rfl rfl ?_
      refine zx_T.l (i := .aload_n 0) (k := 1) (v := .ref 27) (pc := 54) rfl rfl rfl ?_
      refine zw_iv (b := 27) (cj := 102) (q' := zp_m102) (As := []) (rest := []) (pc := 55) rfl rfl rfl rfl rfl rfl rfl (Nat.le_of_ble_eq_true rfl) rfl (Nat.le_of_ble_eq_true rfl) ih21 ((zm_keepAhead (h := h21) ih21  ).up (Nat.le_of_ble_eq_true rfl)) ?_
      rintro r28 h31 ⟨ih31, w32, r28q, x30⟩
      subst r28q
      try dsimp only at x30
      have kA := x30
      show zx_T zp_P 5 zp_m98 58 [(1, .int (zI (v25 + 1))), (0, .ref 27), (2, .int (zI (f)))] [] h31 _
      refine zr_inc (x := f) (n := 1) (y := f + 1) (ls' := [(2, .int (zI (f + 1))), (1, .int (zI (v25 + 1))), (0, .ref 27)]) (pc := 58) rfl rfl rfl (by omega) rfl ?_
      refine zx_T.j (i := .goto (-48)) (k := 3) (pc' := 13) (st' := []) (pc := 61) rfl rfl rfl rfl rfl ?_
      have y33 : zv_f h31 27 4 = zv_f h21 27 4 := (zv_wf w32 rfl)
      refine zx_T.lk (ls' := [(0, .ref 27), (1, .int (zI (v25 + 1))), (2, .int (zI (f + 1)))]) rfl ⟨rfl, rfl, rfl, trivial⟩ ?_
      exact ih (h2 := h31) (b := v25 + 1) (f := f + 1) ih31 (by omega) (by omega) (Or.inr ⟨by omega, by rw [show f + 1 - 1 = f by omega]; omega⟩) (by omega) ((((hw.wd rfl : zb_W [(27, 4), (27, 6), (31, 0), (28, 1), (29, 0), (32, 0), (27, 8), (33, 0), (27, 10), (30, 0)] h _).tr (w11.wd rfl)).tr (w22.wd rfl)).tr (w32.wd rfl)) (by rw [zs_pkd_s f1, dI]; have q9 := pF; rw [pE1] at q9; rw [zv_wf w32 rfl]; exact zs_bl_cg q9 (fun j _ _ => zv_wa w32 rfl j)) (fun z => by unfold zs_ah; rw [if_neg (by omega), show f + 1 - 1 = f by omega, kA.1]; have q9 := gF.1; exact zs_bl_cg (by rw [zv_wf w22 rfl]; exact zs_bl_cg q9 (fun j _ _ => zv_wa w22 rfl j)) (fun j j0 j1 => kA.2 j j0 (by have h8 := zw_ri ih21 (a := 27) (k := 8) rfl; omega))) (by omega)
set_option maxRecDepth 100000 in
set_option maxHeartbeats 4000000 in
theorem zm_pPack {h : zx_H} (hI : zb_I zc_H h)  (F : zF) (hF : zc_Fr h F) (oF : F.ok) (wl : zw_loc 0 8 (zs_row (zc_Pg h))) : zx_T zp_P 5 zp_m98 0 [(0, .ref 27)] [] h (zr_R [(27, 4), (27, 6), (31, 0), (28, 1), (29, 0), (32, 0), (27, 8), (33, 0), (27, 10), (30, 0)] h (fun e h' => e = zv_f h' 27 4 ∧ zs_bl (zv_f h' 27 4) (zv_a h' 30) (zs_pkd (zc_Pg h) F F.n.toNat))) := by
  have ofn := oF.2.1
  have of0 := oF.1
  have nF := hF.1
  refine zx_T.l (i := .aload_n 0) (k := 1) (v := .ref 27) (pc := 0) rfl rfl rfl ?_
  refine zx_T.s (i := .iconst 0) (k := 1) (st' := [.int (zI (0)), .ref 27]) (pc := 1) rfl rfl ?_
  refine zw_pi (k := 4) (lo := 0) (hi := 2940) (e := 0) (pc := 2) rfl rfl rfl rfl rfl rfl hI (by omega) (by omega) (fun h34 ih34 w35 e36 => ?_)
  refine zx_T.l (i := .aload_n 0) (k := 1) (v := .ref 27) (pc := 5) rfl rfl rfl ?_
  refine zw_iv (b := 27) (cj := 99) (q' := zp_m99) (As := []) (rest := []) (pc := 6) rfl rfl rfl rfl rfl rfl rfl (Nat.le_of_ble_eq_true rfl) rfl (Nat.le_of_ble_eq_true rfl) ih34 ((zm_gatherParameters (h := h34) ih34  (by rw [zc_Pg_g w35 rfl]; exact wl)).up (Nat.le_of_ble_eq_true rfl)) ?_
  rintro r37 h40 ⟨ih40, w41, r37q, x39⟩
  subst r37q
  try dsimp only at x39
  have gP := x39
  show zx_T zp_P 5 zp_m98 9 [(0, .ref 27)] [] h40 _
  refine zx_T.s (i := .iconst 0) (k := 1) (st' := [.int (zI (0))]) (pc := 9) rfl rfl ?_
  refine zx_T.t (i := .istore_n 1) (k := 1) (ls' := [(1, .int (zI (0))), (0, .ref 27)]) (st' := []) (pc := 10) rfl rfl rfl rfl ?_
  refine zx_T.s (i := .iconst 0) (k := 1) (st' := [.int (zI (0))]) (pc := 11) rfl rfl ?_
  refine zx_T.t (i := .istore_n 2) (k := 1) (ls' := [(2, .int (zI (0))), (1, .int (zI (0))), (0, .ref 27)]) (st' := []) (pc := 12) rfl rfl rfl rfl ?_
  have y42 : zv_f h40 27 4 = 0 := ((zv_wf w41 rfl).trans e36)
  refine zx_T.lk (ls' := [(0, .ref 27), (1, .int (zI (0))), (2, .int (zI (0)))]) rfl ⟨rfl, rfl, rfl, trivial⟩ ?_
  exact zm_pPack_L (h := h) hI  F hF oF wl ((100 - 0 : Int).toNat + 1) (h2 := h40) (b := 0) (f := 0) ih40 (by omega) (by omega) (Or.inl ⟨rfl, rfl⟩) (by omega) ((w35.wd rfl : zb_W [(27, 4), (27, 6), (31, 0), (28, 1), (29, 0), (32, 0), (27, 8), (33, 0), (27, 10), (30, 0)] h _).tr (w41.wd rfl)) (by rw [show zv_f h40 27 4 = 0 by omega]; exact zs_bl_0) (fun z => by have q9 := gP; rw [zc_Pg_g w35 rfl, show zv_f h34 1 10 = (zc_Pg h).pn from zv_wf w35 rfl] at q9; unfold zs_ah; rw [if_pos rfl]; exact q9) (Nat.lt_succ_self _)

set_option maxRecDepth 100000 in
set_option maxHeartbeats 4000000 in
theorem zm_cPackedX {h : zx_H} (hI : zb_I zc_H h)  (F : zF) (hF : ¬ zv_f h 16 4 = 0 → zc_Fr h F) (oF : ¬ zv_f h 16 4 = 0 → F.ok) (wl : zw_loc 0 8 (zs_row (zc_Pg h))) : zx_T zp_P 6 zp_m146 0 [(0, .ref 0)] [] h (zr_R [(27, 4), (27, 6), (31, 0), (28, 1), (29, 0), (32, 0), (27, 8), (33, 0), (27, 10), (30, 0)] h (fun e h' => (zv_f h 16 4 = 0 ∧ e = -3 ∧ zv_f h' 27 4 = zv_f h 27 4 ∧ ∀ j, zv_a h' 30 j = zv_a h 30 j) ∨ (¬ zv_f h 16 4 = 0 ∧ e = zv_f h' 27 4 ∧ zs_bl (zv_f h' 27 4) (zv_a h' 30) (zs_pkd (zc_Pg h) F F.n.toNat)))) := by
  refine zx_T.l (i := .aload_n 0) (k := 1) (v := .ref 0) (pc := 0) rfl rfl rfl ?_
  refine zw_gr (k := 2) (b := 16) (pc := 1) rfl rfl rfl hI ?_
  refine zw_iv (b := 16) (cj := 77) (q' := zp_m77) (As := []) (rest := []) (pc := 4) rfl rfl rfl rfl rfl rfl rfl (Nat.le_of_ble_eq_true rfl) rfl (Nat.le_of_ble_eq_true rfl) hI ((zm_mIsMade (h := h) hI  ).up (Nat.le_of_ble_eq_true rfl)) ?_
  rintro r1 h4 ⟨h4q, v2, r1q, x3⟩
  subst h4q r1q
  try dsimp only at x3
  show zx_T zp_P 6 zp_m146 7 [(0, .ref 0)] [.int (zI (v2))] h _
  refine zr_i1 (x := v2) (t := 20) (pc := 7) rfl rfl (by omega) (by omega) (fun (c5 : v2 = 0) => ?_) (fun (c5 : ¬ (v2 = 0)) => ?_)
  · refine zx_T.s (i := .bipush (-3)) (k := 2) (st' := [.int (zI ((-3)))]) (pc := 20) rfl rfl ?_
    exact zr_ir (x := (-3)) (pc := 22) rfl rfl rfl ⟨hI, zb_W.rf, _, rfl, by dsimp only; exact Or.inl ⟨by omega, rfl, rfl, fun _ => rfl⟩⟩
  · refine zx_T.l (i := .aload_n 0) (k := 1) (v := .ref 0) (pc := 10) rfl rfl rfl ?_
    refine zw_gr (k := 4) (b := 27) (pc := 11) rfl rfl rfl hI ?_
    refine zw_iv (b := 27) (cj := 98) (q' := zp_m98) (As := []) (rest := []) (pc := 14) rfl rfl rfl rfl rfl rfl rfl (Nat.le_of_ble_eq_true rfl) rfl (Nat.le_of_ble_eq_true rfl) hI ((zm_pPack (h := h) hI  F (hF (by omega)) (oF (by omega)) wl).up (Nat.le_of_ble_eq_true rfl)) ?_
    rintro r6 h9 ⟨ih9, w10, v7, r6q, x8⟩
    subst r6q
    try dsimp only at x8
    have pP := x8
    show zx_T zp_P 6 zp_m146 17 [(0, .ref 0)] [.int (zI (v7))] h9 _
    refine zx_T.j (i := .goto 5) (k := 3) (pc' := 22) (st' := [.int (zI (v7))]) (pc := 17) rfl rfl rfl rfl rfl ?_
    exact zr_ir (x := v7) (pc := 22) rfl rfl rfl ⟨ih9, (w10.wd rfl : zb_W [(27, 4), (27, 6), (31, 0), (28, 1), (29, 0), (32, 0), (27, 8), (33, 0), (27, 10), (30, 0)] h _), _, rfl, by dsimp only; exact Or.inr ⟨by omega, pP.1, pP.2⟩⟩
