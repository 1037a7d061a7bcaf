/-! ===== 97w: the reference, method by method (by program) ===== -/
set_option maxRecDepth 100000 in
set_option maxHeartbeats 4000000 in
theorem zm_enters {h : zx_H} (hI : zb_I zc_H h) {p : Int} {c : Int} (p1 : -2147483648 ≤ p) (p2 : p ≤ 2147483647) (c1 : 0 ≤ c) (c2 : c ≤ 1) (F : zF) (hF : zc_Fr h F) (oF : F.ok) (x : zT) (x0 : x.1 = 0) (xo : zw_ok x) (xk : zk_in x.2.1 x.2.2) (xS : zv_f h 23 1 = x.2.1) (xN : ∀ j, 0 ≤ j → j < 8 + x.2.1 → zv_a h 24 j = x.2.2 j) : zx_T zp_P 5 zp_m44 0 [(0, .ref 22), (1, .int (zI (p))), (2, .int (zI (c)))] [] h (zr_R [(23, 1), (24, 0), (25, 1), (26, 0)] h (fun e h' => zc_en F p c e x (zv_f h 23 1) (zv_f h' 23 1) (zv_a h 24) (zv_a h' 24) ∧ 0 ≤ e ∧ e ≤ 1)) := by
  have xr := xo.2
  refine zx_T.l (i := .aload_n 0) (k := 1) (v := .ref 22) (pc := 0) rfl rfl rfl ?_
  refine zx_T.l (i := .iload_n 1) (k := 1) (v := .int (zI (p))) (pc := 1) rfl rfl rfl ?_
  refine zx_T.l (i := .aload_n 0) (k := 1) (v := .ref 22) (pc := 2) rfl rfl rfl ?_
  refine zw_gr (k := 4) (b := 25) (pc := 3) rfl rfl rfl hI ?_
  refine zw_iv (b := 22) (cj := 45) (q' := zp_m45) (As := [.int (zI (p)), .ref 25]) (rest := []) (pc := 6) rfl rfl rfl rfl rfl rfl rfl (Nat.le_of_ble_eq_true rfl) rfl (Nat.le_of_ble_eq_true rfl) hI ((zm_readFrame_25 (h := h) hI (p := p) (by omega) (by omega) F hF oF).up (Nat.le_of_ble_eq_true rfl)) ?_
  rintro r1 h4 ⟨ih4, w5, v2, r1q, x3⟩
  subst r1q
  try dsimp only at x3
  have rF := x3.1
  show zx_T zp_P 5 zp_m44 9 [(0, .ref 22), (1, .int (zI (p))), (2, .int (zI (c)))] [.int (zI (v2))] h4 _
  refine zr_i1 (x := v2) (t := 14) (pc := 9) rfl rfl (by omega) (by omega) (fun (c6 : ¬ v2 = 0) => ?_) (fun (c6 : ¬ (¬ v2 = 0)) => ?_)
  · have xS2 : zv_f h4 23 1 = x.2.1 := (zv_wf w5 rfl).trans xS
    have xN2 : ∀ j, 0 ≤ j → j < 8 + x.2.1 → zv_a h4 24 j = x.2.2 j := fun j j0 j1 => (zv_wa w5 rfl j).trans (xN j j0 j1)
    have zk2 : zk_in (zv_f h4 23 1) (zv_a h4 24) := fun j j0 j1 => by rw [xN2 j j0 (by omega)]; exact xk j j0 (by omega)
    have hF2 := zc_Fr_w w5 rfl hF
    refine zx_T.l (i := .iload_n 2) (k := 1) (v := .int (zI (c))) (pc := 14) rfl rfl rfl ?_
    refine zr_i1 (x := c) (t := 32) (pc := 15) rfl rfl (by omega) (by omega) (fun (c7 : c = 0) => ?_) (fun (c7 : ¬ (c = 0)) => ?_)
    · refine zx_T.l (i := .aload_n 0) (k := 1) (v := .ref 22) (pc := 32) rfl rfl rfl ?_
      refine zx_T.l (i := .iload_n 1) (k := 1) (v := .int (zI (p))) (pc := 33) rfl rfl rfl ?_
      refine zx_T.l (i := .aload_n 0) (k := 1) (v := .ref 22) (pc := 34) rfl rfl rfl ?_
      refine zw_gr (k := 3) (b := 23) (pc := 35) rfl rfl rfl ih4 ?_
      refine zw_iv (b := 22) (cj := 45) (q' := zp_m45) (As := [.int (zI (p)), .ref 23]) (rest := []) (pc := 38) rfl rfl rfl rfl rfl rfl rfl (Nat.le_of_ble_eq_true rfl) rfl (Nat.le_of_ble_eq_true rfl) ih4 ((zm_readFrame_23 (h := h4) ih4 (p := p) (by omega) (by omega) F hF2 oF).up (Nat.le_of_ble_eq_true rfl)) ?_
      rintro r8 h11 ⟨ih11, w12, v9, r8q, x10⟩
      subst r8q
      try dsimp only at x10
      have rG := x10.1
      show zx_T zp_P 5 zp_m44 41 [(0, .ref 22), (1, .int (zI (p))), (2, .int (zI (c)))] [.int (zI (v9))] h11 _
      refine zr_i1 (x := v9) (t := 48) (pc := 41) rfl rfl (by omega) (by omega) (fun (c13 : v9 = 0) => ?_) (fun (c13 : ¬ (v9 = 0)) => ?_)
      · refine zx_T.s (i := .iconst 0) (k := 1) (st' := [.int (zI (0))]) (pc := 48) rfl rfl ?_
        exact zr_ir (x := 0) (pc := 49) rfl rfl (zr_nb (by omega) (by omega)) ⟨ih11, ((w5.wd rfl : zb_W [(23, 1), (24, 0), (25, 1), (26, 0)] h _).tr (w12.wd rfl)), _, rfl, by dsimp only; have y := rF.resolve_left (fun z => absurd z.2.1 (by omega)); have fs := (oF.2.2 _ y.2.2.2.1 y.2.2.2.2).2.2.1; exact absurd (rG.resolve_right (fun z => absurd z.2.1 (by omega))).1 y.1⟩
      · refine zx_T.s (i := .iconst 1) (k := 1) (st' := [.int (zI (1))]) (pc := 44) rfl rfl ?_
        refine zx_T.j (i := .goto 4) (k := 3) (pc' := 49) (st' := [.int (zI (1))]) (pc := 45) rfl rfl rfl rfl rfl ?_
        exact zr_ir (x := 1) (pc := 49) rfl rfl (zr_nb (by omega) (by omega)) ⟨ih11, ((w5.wd rfl : zb_W [(23, 1), (24, 0), (25, 1), (26, 0)] h _).tr (w12.wd rfl)), _, rfl, by dsimp only; have y := rF.resolve_left (fun z => absurd z.2.1 (by omega)); have fs := (oF.2.2 _ y.2.2.2.1 y.2.2.2.2).2.2.1; have y2 := rG.resolve_left (fun z => absurd z.2.1 (by omega)); exact ⟨Or.inr ⟨y.1, y.2.2.2, Or.inl ⟨rfl, fun z => by first | (exact absurd z (by omega)) | (exact (zs_gg_st xr.1 fs.1 xS2 xN2 y.2.2.1).1 (gG.resolve_right (fun z => absurd z.1 (by omega))).2), y2.2.2.1⟩⟩, by omega, by omega⟩⟩
    · refine zx_T.l (i := .aload_n 0) (k := 1) (v := .ref 22) (pc := 18) rfl rfl rfl ?_
      refine zw_gr (k := 3) (b := 23) (pc := 19) rfl rfl rfl ih4 ?_
      refine zx_T.l (i := .aload_n 0) (k := 1) (v := .ref 22) (pc := 22) rfl rfl rfl ?_
      refine zw_gr (k := 4) (b := 25) (pc := 23) rfl rfl rfl ih4 ?_
      refine zw_iv (b := 23) (cj := 128) (q' := zp_m128) (As := [.ref 25]) (rest := []) (pc := 26) rfl rfl rfl rfl rfl rfl rfl (Nat.le_of_ble_eq_true rfl) rfl (Nat.le_of_ble_eq_true rfl) ih4 ((zm_allGoesAsF (h := h4) ih4  zk2).up (Nat.le_of_ble_eq_true rfl)) ?_
      rintro r14 h17 ⟨h17q, v15, r14q, x16⟩
      subst h17q r14q
      try dsimp only at x16
      have gG := x16.1
      show zx_T zp_P 5 zp_m44 29 [(0, .ref 22), (1, .int (zI (p))), (2, .int (zI (c)))] [.int (zI (v15))] h4 _
      refine zr_i1 (x := v15) (t := 48) (pc := 29) rfl rfl (by omega) (by omega) (fun (c18 : v15 = 0) => ?_) (fun (c18 : ¬ (v15 = 0)) => ?_)
      · refine zx_T.s (i := .iconst 0) (k := 1) (st' := [.int (zI (0))]) (pc := 48) rfl rfl ?_
        exact zr_ir (x := 0) (pc := 49) rfl rfl (zr_nb (by omega) (by omega)) ⟨ih4, (w5.wd rfl : zb_W [(23, 1), (24, 0), (25, 1), (26, 0)] h _), _, rfl, by dsimp only; have y := rF.resolve_left (fun z => absurd z.2.1 (by omega)); have fs := (oF.2.2 _ y.2.2.2.1 y.2.2.2.2).2.2.1; exact ⟨Or.inr ⟨y.1, y.2.2.2, Or.inr ⟨rfl, by omega, fun z => (gG.resolve_left (fun z => absurd z.1 (by omega))).2 ((zs_gg_st xr.1 fs.1 xS2 xN2 y.2.2.1).2 z)⟩⟩, by omega, by omega⟩⟩
      · refine zx_T.l (i := .aload_n 0) (k := 1) (v := .ref 22) (pc := 32) rfl rfl rfl ?_
        refine zx_T.l (i := .iload_n 1) (k := 1) (v := .int (zI (p))) (pc := 33) rfl rfl rfl ?_
        refine zx_T.l (i := .aload_n 0) (k := 1) (v := .ref 22) (pc := 34) rfl rfl rfl ?_
        refine zw_gr (k := 3) (b := 23) (pc := 35) rfl rfl rfl ih4 ?_
        refine zw_iv (b := 22) (cj := 45) (q' := zp_m45) (As := [.int (zI (p)), .ref 23]) (rest := []) (pc := 38) rfl rfl rfl rfl rfl rfl rfl (Nat.le_of_ble_eq_true rfl) rfl (Nat.le_of_ble_eq_true rfl) ih4 ((zm_readFrame_23 (h := h4) ih4 (p := p) (by omega) (by omega) F hF2 oF).up (Nat.le_of_ble_eq_true rfl)) ?_
        rintro r19 h22 ⟨ih22, w23, v20, r19q, x21⟩
        subst r19q
        try dsimp only at x21
        have rG := x21.1
        show zx_T zp_P 5 zp_m44 41 [(0, .ref 22), (1, .int (zI (p))), (2, .int (zI (c)))] [.int (zI (v20))] h22 _
        refine zr_i1 (x := v20) (t := 48) (pc := 41) rfl rfl (by omega) (by omega) (fun (c24 : v20 = 0) => ?_) (fun (c24 : ¬ (v20 = 0)) => ?_)
        · refine zx_T.s (i := .iconst 0) (k := 1) (st' := [.int (zI (0))]) (pc := 48) rfl rfl ?_
          exact zr_ir (x := 0) (pc := 49) rfl rfl (zr_nb (by omega) (by omega)) ⟨ih22, ((w5.wd rfl : zb_W [(23, 1), (24, 0), (25, 1), (26, 0)] h _).tr (w23.wd rfl)), _, rfl, by dsimp only; have y := rF.resolve_left (fun z => absurd z.2.1 (by omega)); have fs := (oF.2.2 _ y.2.2.2.1 y.2.2.2.2).2.2.1; exact absurd (rG.resolve_right (fun z => absurd z.2.1 (by omega))).1 y.1⟩
        · refine zx_T.s (i := .iconst 1) (k := 1) (st' := [.int (zI (1))]) (pc := 44) rfl rfl ?_
          refine zx_T.j (i := .goto 4) (k := 3) (pc' := 49) (st' := [.int (zI (1))]) (pc := 45) rfl rfl rfl rfl rfl ?_
          exact zr_ir (x := 1) (pc := 49) rfl rfl (zr_nb (by omega) (by omega)) ⟨ih22, ((w5.wd rfl : zb_W [(23, 1), (24, 0), (25, 1), (26, 0)] h _).tr (w23.wd rfl)), _, rfl, by dsimp only; have y := rF.resolve_left (fun z => absurd z.2.1 (by omega)); have fs := (oF.2.2 _ y.2.2.2.1 y.2.2.2.2).2.2.1; have y2 := rG.resolve_left (fun z => absurd z.2.1 (by omega)); exact ⟨Or.inr ⟨y.1, y.2.2.2, Or.inl ⟨rfl, fun z => by first | (exact absurd z (by omega)) | (exact (zs_gg_st xr.1 fs.1 xS2 xN2 y.2.2.1).1 (gG.resolve_right (fun z => absurd z.1 (by omega))).2), y2.2.2.1⟩⟩, by omega, by omega⟩⟩
  · refine zx_T.l (i := .iload_n 2) (k := 1) (v := .int (zI (c))) (pc := 12) rfl rfl rfl ?_
    exact zr_ir (x := c) (pc := 13) rfl rfl (zr_nb (by omega) (by omega)) ⟨ih4, (w5.wd rfl : zb_W [(23, 1), (24, 0), (25, 1), (26, 0)] h _), _, rfl, by dsimp only; exact ⟨Or.inl ⟨(rF.resolve_right (fun z => absurd z.2.1 (by omega))).1, rfl, zv_wf w5 rfl, fun j => zv_wa w5 rfl j⟩, by omega, by omega⟩⟩

set_option maxRecDepth 100000 in
set_option maxHeartbeats 4000000 in
theorem zm_firstTorn_L {h : zx_H} (hI : zb_I zc_H h)  (F : zF) (hF : zc_Fr h F) (oF : F.ok) (n : Nat) : (∀ {h2 : zx_H} {f : Int} (hI2 : zb_I zc_H h2) (f1 : 0 ≤ f) (f2 : f ≤ F.n) (hw : zb_W [(25, 1), (26, 0)] h h2) (wh : ∀ g, 0 ≤ g → g < f → F.wh g), (100 - f : Int).toNat < n → zx_T zp_P 4 zp_m43 2 [(0, .ref 22), (1, .int (zI (f)))] [] h2 (zr_R [(25, 1), (26, 0)] h (fun e h' => (e = -1 ∧ ∀ g, 0 ≤ g → g < F.n → F.wh g) ∨ (0 ≤ e ∧ e ≤ 59 ∧ ∃ f, 0 ≤ f ∧ f < F.n ∧ ¬ F.wh f ∧ (∀ g, 0 ≤ g → g < f → F.wh g) ∧ e = F.pl f)))) := by
  induction n with
  | zero => exact fun _ _ _ _ _ hm => absurd hm (Nat.not_lt_zero _)
  | succ n ih =>
    intro h2 f hI2 f1 f2 hw wh hm
    have ofn := oF.2
    have nF := hF.1
    have hM := zw_ri hI (a := 10) (k := 3) rfl
    have d9 : zv_f h2 10 3 = zv_f h 10 3 := zv_wf hw rfl
    have hF2 := zc_Fr_w hw rfl hF
    refine zx_T.l (i := .iload_n 1) (k := 1) (v := .int (zI (f))) (pc := 2) rfl rfl rfl ?_
    refine zx_T.l (i := .aload_n 0) (k := 1) (v := .ref 22) (pc := 3) rfl rfl rfl ?_
    refine zw_gr (k := 2) (b := 10) (pc := 4) rfl rfl rfl hI2 ?_
    refine zw_iv (b := 10) (cj := 30) (q' := zp_m30) (As := []) (rest := [.int (zI (f))]) (pc := 7) rfl rfl rfl rfl rfl rfl rfl (Nat.le_of_ble_eq_true rfl) rfl (Nat.le_of_ble_eq_true rfl) hI2 ((zm_fHowMany (h := h2) hI2  ).up (Nat.le_of_ble_eq_true rfl)) ?_
    rintro r1 h4 ⟨h4q, v2, r1q, x3⟩
    subst h4q r1q
    try dsimp only at x3
    show zx_T zp_P 4 zp_m43 10 [(0, .ref 22), (1, .int (zI (f)))] [.int (zI (v2)), .int (zI (f))] h2 _
    refine zr_i2 (x := f) (y := v2) (t := 50) (pc := 10) rfl rfl (by omega) (by omega) (by omega) (by omega) (fun (c5 : v2 ≤ f) => ?_) (fun (c5 : ¬ (v2 ≤ f)) => ?_)
    · refine zx_T.s (i := .iconst (-1)) (k := 1) (st' := [.int (zI ((-1)))]) (pc := 50) rfl rfl ?_
      exact zr_ir (x := (-1)) (pc := 51) rfl rfl rfl ⟨hI2, (hw.wd rfl : zb_W [(25, 1), (26, 0)] h _), _, rfl, by dsimp only; exact Or.inl ⟨rfl, fun g g0 g1 => wh g g0 (by omega)⟩⟩
    · refine zx_T.l (i := .aload_n 0) (k := 1) (v := .ref 22) (pc := 13) rfl rfl rfl ?_
      refine zw_gr (k := 2) (b := 10) (pc := 14) rfl rfl rfl hI2 ?_
      refine zx_T.l (i := .iload_n 1) (k := 1) (v := .int (zI (f))) (pc := 17) rfl rfl rfl ?_
      refine zx_T.l (i := .aload_n 0) (k := 1) (v := .ref 22) (pc := 18) rfl rfl rfl ?_
      refine zw_gr (k := 4) (b := 25) (pc := 19) rfl rfl rfl hI2 ?_
      refine zw_iv (b := 10) (cj := 36) (q' := zp_m36) (As := [.int (zI (f)), .ref 25]) (rest := []) (pc := 22) rfl rfl rfl rfl rfl rfl rfl (Nat.le_of_ble_eq_true rfl) rfl (Nat.le_of_ble_eq_true rfl) hI2 ((zm_fRead_25 (h := h2) hI2 (f := f) (by omega) (by omega)).up (Nat.le_of_ble_eq_true rfl)) ?_
      rintro r6 h9 ⟨ih9, w10, r6q, x8⟩
      subst r6q
      try dsimp only at x8
      have fr1 := x8
      have st9 := zc_Fr_rd hF2 oF f1 (by omega) fr1
      have of9 := oF.2.2 f f1 (by omega)
      have wI := zc_wh st9 of9.2.2.1.1
      show zx_T zp_P 4 zp_m43 25 [(0, .ref 22), (1, .int (zI (f)))] [] h9 _
      refine zx_T.l (i := .aload_n 0) (k := 1) (v := .ref 22) (pc := 25) rfl rfl rfl ?_
      refine zw_gr (k := 4) (b := 25) (pc := 26) rfl rfl rfl ih9 ?_
      refine zw_iv (b := 25) (cj := 125) (q' := zp_m125) (As := []) (rest := []) (pc := 29) rfl rfl rfl rfl rfl rfl rfl (Nat.le_of_ble_eq_true rfl) rfl (Nat.le_of_ble_eq_true rfl) ih9 ((zm_hasLone_25 (h := h9) ih9  ).up (Nat.le_of_ble_eq_true rfl)) ?_
      rintro r11 h14 ⟨h14q, v12, r11q, x13⟩
      subst h14q r11q
      try dsimp only at x13
      have lO := x13.1
      show zx_T zp_P 4 zp_m43 32 [(0, .ref 22), (1, .int (zI (f)))] [.int (zI (v12))] h9 _
      refine zr_i1 (x := v12) (t := 44) (pc := 32) rfl rfl (by omega) (by omega) (fun (c15 : v12 = 0) => ?_) (fun (c15 : ¬ (v12 = 0)) => ?_)
      · refine zr_inc (x := f) (n := 1) (y := f + 1) (ls' := [(1, .int (zI (f + 1))), (0, .ref 22)]) (pc := 44) rfl rfl rfl (by omega) rfl ?_
        refine zx_T.j (i := .goto (-45)) (k := 3) (pc' := 2) (st' := []) (pc := 47) rfl rfl rfl rfl rfl ?_
        refine zx_T.lk (ls' := [(0, .ref 22), (1, .int (zI (f + 1)))]) rfl ⟨rfl, rfl, trivial⟩ ?_
        exact ih (h2 := h9) (f := f + 1) ih9 (by omega) (by omega) ((hw.wd rfl : zb_W [(25, 1), (26, 0)] h _).tr (w10.wd rfl)) (fun g g0 g1 => by rcases (show g = f ∨ g < f by omega) with z | z; (subst z; exact wI.1 (lO.resolve_left (fun z => absurd z.1 (by omega))).2); exact wh g g0 z) (by omega)
      · refine zx_T.l (i := .aload_n 0) (k := 1) (v := .ref 22) (pc := 35) rfl rfl rfl ?_
        refine zw_gr (k := 2) (b := 10) (pc := 36) rfl rfl rfl ih9 ?_
        refine zx_T.l (i := .iload_n 1) (k := 1) (v := .int (zI (f))) (pc := 39) rfl rfl rfl ?_
        have y16 : zv_f h9 10 3 = zv_f h 10 3 := ((zv_wf w10 rfl).trans (zv_wf hw rfl))
        refine zw_iv (b := 10) (cj := 32) (q' := zp_m32) (As := [.int (zI (f))]) (rest := []) (pc := 40) rfl rfl rfl rfl rfl rfl rfl (Nat.le_of_ble_eq_true rfl) rfl (Nat.le_of_ble_eq_true rfl) ih9 ((zm_fPlaceOf (h := h9) ih9 (f := f) (by omega) (by omega)).up (Nat.le_of_ble_eq_true rfl)) ?_
        rintro r17 h20 ⟨h20q, v18, r17q, x19⟩
        subst h20q r17q
        try dsimp only at x19
        have pO := x19.1; have p9 : zv_a h9 14 f = F.pl f := (zv_wa w10 rfl f).trans (hF2.2 f f1 (by omega)).1
        show zx_T zp_P 4 zp_m43 43 [(0, .ref 22), (1, .int (zI (f)))] [.int (zI (v18))] h9 _
        exact zr_ir (x := v18) (pc := 43) rfl rfl rfl ⟨ih9, ((hw.wd rfl : zb_W [(25, 1), (26, 0)] h _).tr (w10.wd rfl)), _, rfl, by dsimp only; exact Or.inr ⟨by omega, by omega, f, f1, by omega, fun z => (lO.resolve_right (fun z => absurd z.1 (by omega))).2 (wI.2 z), wh, by omega⟩⟩
set_option maxRecDepth 100000 in
set_option maxHeartbeats 4000000 in
theorem zm_firstTorn {h : zx_H} (hI : zb_I zc_H h)  (F : zF) (hF : zc_Fr h F) (oF : F.ok) : zx_T zp_P 4 zp_m43 0 [(0, .ref 22)] [] h (zr_R [(25, 1), (26, 0)] h (fun e h' => (e = -1 ∧ ∀ g, 0 ≤ g → g < F.n → F.wh g) ∨ (0 ≤ e ∧ e ≤ 59 ∧ ∃ f, 0 ≤ f ∧ f < F.n ∧ ¬ F.wh f ∧ (∀ g, 0 ≤ g → g < f → F.wh g) ∧ e = F.pl f))) := by
  have ofn := oF.2
  have nF := hF.1
  have hM := zw_ri hI (a := 10) (k := 3) rfl
  refine zx_T.s (i := .iconst 0) (k := 1) (st' := [.int (zI (0))]) (pc := 0) rfl rfl ?_
  refine zx_T.t (i := .istore_n 1) (k := 1) (ls' := [(1, .int (zI (0))), (0, .ref 22)]) (st' := []) (pc := 1) rfl rfl rfl rfl ?_
  refine zx_T.lk (ls' := [(0, .ref 22), (1, .int (zI (0)))]) rfl ⟨rfl, rfl, trivial⟩ ?_
  exact zm_firstTorn_L (h := h) hI  F hF oF ((100 - 0 : Int).toNat + 1) (h2 := h) (f := 0) hI (by omega) (by omega) zb_W.rf (fun g g0 g1 => absurd g1 (by omega)) (Nat.lt_succ_self _)

set_option maxRecDepth 100000 in
set_option maxHeartbeats 4000000 in
theorem zm_firstRefused_L {h : zx_H} (hI : zb_I zc_H h)  (F : zF) (hF : zc_Fr h F) (oF : F.ok) (s : zS) (hA : zc_A h s) (lk : zs_lk (zc_Pg h) s F) (hP : zP.ok (zc_Pg h)) (hQ : zP.nn (zc_Pg h)) (n : Nat) : (∀ {h2 : zx_H} {c : Int} {p : Int} (hI2 : zb_I zc_H h2) (c1 : 0 ≤ c) (c2 : c ≤ 1) (p1 : 0 ≤ p) (p2 : p ≤ zv_f h 1 3) (hw : zb_W [(23, 1), (24, 0), (25, 1), (26, 0)] h h2) (wa : ∀ g, 0 ≤ g → g < F.n → F.wh g) (came : Prop) (cm : c = 1 ↔ came) (cl : (p = 0 ∨ (s.R (p - 1) ∧ zs_go (zc_Pg h) (p - 1))) → c = 1) (x : zT) (x0 : x.1 = 0) (xo : zw_ok x) (xk : zk_in x.2.1 x.2.2) (xS : zv_f h2 23 1 = x.2.1) (xN : ∀ j, 0 ≤ j → j < 8 + x.2.1 → zv_a h2 24 j = x.2.2 j) (hq : zs_jg (zc_Pg h) s F (zv_f h 1 3).toNat True (0, 0, zs_row (zc_Pg h)) = zs_jg (zc_Pg h) s F (zv_f h 1 3 - p).toNat came x), (100 - p : Int).toNat < n → zx_T zp_P 6 zp_m42 27 [(0, .ref 22), (2, .int (zI (c))), (3, .int (zI (p)))] [] h2 (zr_R [(23, 1), (24, 0), (25, 1), (26, 0)] h (fun e h' => (e = -1 ∧ zs_jd (zc_Pg h) s F 1) ∨ (0 ≤ e ∧ e ≤ 59 ∧ zs_jd (zc_Pg h) s F (-10 - e))))) := by
  induction n with
  | zero => exact fun _ _ _ _ _ _ _ _ _ _ _ _ _ _ _ _ _ hm => absurd hm (Nat.not_lt_zero _)
  | succ n ih =>
    intro h2 c p hI2 c1 c2 p1 p2 hw wa came cm cl x x0 xo xk xS xN hq hm
    have hC := zw_ri hI (a := 1) (k := 3) rfl
    have hH := zw_ri hI (a := 1) (k := 8) rfl
    have d8 : zv_f h2 1 3 = zv_f h 1 3 := zv_wf hw rfl
    have hF2 := zc_Fr_w hw rfl hF
    have hA2 := zc_A_g hw rfl rfl rfl hA
    have r9 : zv_a h2 19 p = zv_a h 19 p := zv_wa hw rfl p
    refine zx_T.l (i := .iload_n 3) (k := 1) (v := .int (zI (p))) (pc := 27) rfl rfl rfl ?_
    refine zx_T.l (i := .aload_n 0) (k := 1) (v := .ref 22) (pc := 28) rfl rfl rfl ?_
    refine zw_gr (k := 0) (b := 1) (pc := 29) rfl rfl rfl hI2 ?_
    refine zw_iv (b := 1) (cj := 4) (q' := zp_m4) (As := []) (rest := [.int (zI (p))]) (pc := 32) rfl rfl rfl rfl rfl rfl rfl (Nat.le_of_ble_eq_true rfl) rfl (Nat.le_of_ble_eq_true rfl) hI2 ((zm_cPlaces (h := h2) hI2  ).up (Nat.le_of_ble_eq_true rfl)) ?_
    rintro r1 h4 ⟨h4q, v2, r1q, x3⟩
    subst h4q r1q
    try dsimp only at x3
    show zx_T zp_P 6 zp_m42 35 [(0, .ref 22), (2, .int (zI (c))), (3, .int (zI (p)))] [.int (zI (v2)), .int (zI (p))] h2 _
    refine zr_i2 (x := p) (y := v2) (t := 108) (pc := 35) rfl rfl (by omega) (by omega) (by omega) (by omega) (fun (c5 : v2 ≤ p) => ?_) (fun (c5 : ¬ (v2 ≤ p)) => ?_)
    · refine zx_T.s (i := .iconst (-1)) (k := 1) (st' := [.int (zI ((-1)))]) (pc := 108) rfl rfl ?_
      exact zr_ir (x := (-1)) (pc := 109) rfl rfl rfl ⟨hI2, (hw.wd rfl : zb_W [(23, 1), (24, 0), (25, 1), (26, 0)] h _), _, rfl, by dsimp only; exact Or.inl ⟨rfl, Or.inr ⟨wa, by have z9 := hq; rw [show (zv_f h 1 3 - p).toNat = 0 by omega] at z9; exact z9.symm⟩⟩⟩
    · refine zx_T.l (i := .aload_n 0) (k := 1) (v := .ref 22) (pc := 38) rfl rfl rfl ?_
      refine zw_gr (k := 1) (b := 16) (pc := 39) rfl rfl rfl hI2 ?_
      refine zx_T.l (i := .iload_n 3) (k := 1) (v := .int (zI (p))) (pc := 42) rfl rfl rfl ?_
      refine zw_iv (b := 16) (cj := 83) (q' := zp_m83) (As := [.int (zI (p))]) (rest := []) (pc := 43) rfl rfl rfl rfl rfl rfl rfl (Nat.le_of_ble_eq_true rfl) rfl (Nat.le_of_ble_eq_true rfl) hI2 ((zm_mIsDead (h := h2) hI2 (p := p) (by omega) (by omega)).up (Nat.le_of_ble_eq_true rfl)) ?_
      rintro r6 h9 ⟨h9q, v7, r6q, x8⟩
      subst h9q r6q
      try dsimp only at x8
      show zx_T zp_P 6 zp_m42 46 [(0, .ref 22), (2, .int (zI (c))), (3, .int (zI (p)))] [.int (zI (v7))] h2 _
      refine zx_T.t (i := .istore 4) (k := 2) (ls' := [(4, .int (zI (v7))), (0, .ref 22), (2, .int (zI (c))), (3, .int (zI (p)))]) (st' := []) (pc := 46) rfl rfl rfl rfl ?_
      refine zx_T.l (i := .iload 4) (k := 2) (v := .int (zI (v7))) (pc := 48) rfl rfl rfl ?_
      refine zr_i1 (x := v7) (t := 80) (pc := 50) rfl rfl (by omega) (by omega) (fun (c10 : ¬ v7 = 0) => ?_) (fun (c10 : ¬ (¬ v7 = 0)) => ?_)
      · refine zx_T.l (i := .iload 4) (k := 2) (v := .int (zI (v7))) (pc := 80) rfl rfl rfl ?_
        refine zr_i1 (x := v7) (t := 100) (pc := 82) rfl rfl (by omega) (by omega) (fun (c11 : ¬ v7 = 0) => ?_) (fun (c11 : ¬ (¬ v7 = 0)) => False.elim (by omega))
        refine zx_T.s (i := .iconst 0) (k := 1) (st' := [.int (zI (0))]) (pc := 100) rfl rfl ?_
        refine zx_T.t (i := .istore_n 2) (k := 1) (ls' := [(2, .int (zI (0))), (4, .int (zI (v7))), (0, .ref 22), (3, .int (zI (p)))]) (st' := []) (pc := 101) rfl rfl rfl rfl ?_
        refine zr_inc (x := p) (n := 1) (y := p + 1) (ls' := [(3, .int (zI (p + 1))), (2, .int (zI (0))), (4, .int (zI (v7))), (0, .ref 22)]) (pc := 102) rfl rfl rfl (by omega) rfl ?_
        refine zx_T.j (i := .goto (-78)) (k := 3) (pc' := 27) (st' := []) (pc := 105) rfl rfl rfl rfl rfl ?_
        refine zx_T.lk (ls' := [(0, .ref 22), (2, .int (zI (0))), (3, .int (zI (p + 1)))]) rfl ⟨rfl, rfl, rfl, trivial⟩ ?_
        exact ih (h2 := h2) (c := 0) (p := p + 1) hI2 (by omega) (by omega) (by omega) (by omega) (hw.wd rfl : zb_W [(23, 1), (24, 0), (25, 1), (26, 0)] h _) wa False ⟨fun z => absurd z (by omega), fun z => False.elim z⟩ (fun z => by rw [show p + 1 - 1 = p by omega] at z; rcases z with z | z; (exfalso; omega); exact absurd z.1 (fun y => by have y1 := (hA2.1 p p1 (by omega)).2 y; omega)) x x0 xo xk xS xN (hq.trans ((zs_jg_s (P := zc_Pg h) (p := p) (by show p < zv_f h 1 3; omega)).trans (zi_f (fun z => by have z1 := (hA2.1 p p1 (by omega)).2 z; omega)))) (by omega)
      · have hRp := (hA2.1 p p1 (by omega)).1 (by omega)
        have js9 := hq.trans ((zs_jg_s (P := zc_Pg h) (p := p) (by show p < zv_f h 1 3; omega)).trans (zi_t hRp))
        have o9 : (0 ≤ zv_a h 2 p ∧ zv_a h 2 p ≤ 28) ∧ (zv_a h 2 p = 21 → 5 ≤ zv_a h 3 p) := hP.1 p p1 (by show p < zv_f h 1 3; omega)
        have q9 : zv_a h 2 p = 21 → 5 ≤ zv_a h 3 p ∧ zv_a h 3 p ≤ 8 := hQ.1 p p1 (by show p < zv_f h 1 3; omega)
        refine zx_T.l (i := .aload_n 0) (k := 1) (v := .ref 22) (pc := 53) rfl rfl rfl ?_
        refine zx_T.l (i := .iload_n 3) (k := 1) (v := .int (zI (p))) (pc := 54) rfl rfl rfl ?_
        refine zx_T.l (i := .iload_n 2) (k := 1) (v := .int (zI (c))) (pc := 55) rfl rfl rfl ?_
        refine zw_iv (b := 22) (cj := 44) (q' := zp_m44) (As := [.int (zI (p)), .int (zI (c))]) (rest := []) (pc := 56) rfl rfl rfl rfl rfl rfl rfl (Nat.le_of_ble_eq_true rfl) rfl (Nat.le_of_ble_eq_true rfl) hI2 ((zm_enters (h := h2) hI2 (p := p) (c := c) (by omega) (by omega) (by omega) (by omega) F hF2 oF x x0 xo xk xS xN).up (Nat.le_of_ble_eq_true rfl)) ?_
        rintro r12 h15 ⟨ih15, w16, v13, r12q, x14⟩
        subst r12q
        try dsimp only at x14
        have eN := x14.1
        show zx_T zp_P 6 zp_m42 59 [(4, .int (zI (v7))), (0, .ref 22), (2, .int (zI (c))), (3, .int (zI (p)))] [.int (zI (v13))] h15 _
        refine zr_i1 (x := v13) (t := 78) (pc := 59) rfl rfl (by omega) (by omega) (fun (c17 : v13 = 0) => ?_) (fun (c17 : ¬ (v13 = 0)) => ?_)
        · refine zx_T.l (i := .iload_n 3) (k := 1) (v := .int (zI (p))) (pc := 78) rfl rfl rfl ?_
          exact zr_ir (x := p) (pc := 79) rfl rfl rfl ⟨ih15, ((hw.wd rfl : zb_W [(23, 1), (24, 0), (25, 1), (26, 0)] h _).tr (w16.wd rfl)), _, rfl, by dsimp only; exact Or.inr ⟨by omega, by omega, Or.inr ⟨wa, by have z9 := js9.trans (zi_f (zc_enf cm eN (by omega) (fun z => cl (lk p p1 (by show p < zv_f h 1 3; omega) hRp z)))); exact z9.symm⟩⟩⟩
        · have eI := zc_ent cm oF wa x0 xo xk xS xN eN (by omega)
          have en9 := js9.trans (zi_t eI.1)
          have hQ3 : zP.nn (zc_Pg h15) := (by rw [zc_Pg_g ((hw.wd rfl : zb_W [(23, 1), (24, 0), (25, 1), (26, 0)] h _).tr (w16.wd rfl)) rfl]; exact hQ)
          have hF3 := zc_Fr_w ((hw.wd rfl : zb_W [(23, 1), (24, 0), (25, 1), (26, 0)] h _).tr (w16.wd rfl)) rfl hF
          refine zx_T.l (i := .aload_n 0) (k := 1) (v := .ref 22) (pc := 62) rfl rfl rfl ?_
          refine zx_T.l (i := .iload_n 3) (k := 1) (v := .int (zI (p))) (pc := 63) rfl rfl rfl ?_
          have y18 : zv_f h15 1 3 = zv_f h 1 3 := ((zv_wf w16 rfl).trans (zv_wf hw rfl))
          refine zw_iv (b := 22) (cj := 46) (q' := zp_m46) (As := [.int (zI (p))]) (rest := []) (pc := 64) rfl rfl rfl rfl rfl rfl rfl (Nat.le_of_ble_eq_true rfl) rfl (Nat.le_of_ble_eq_true rfl) ih15 ((zm_handlersHold (h := h15) ih15 (p := p) (by omega) (by omega) F hF3 oF (zs_in1 F p x) eI.2.1 eI.2.2.1 eI.2.2.2.1 eI.2.2.2.2.1 eI.2.2.2.2.2 hQ3).up (Nat.le_of_ble_eq_true rfl)) ?_
          rintro r19 h22 ⟨ih22, w23, v20, r19q, x21⟩
          subst r19q
          try dsimp only at x21
          have hH8 := x21.1; simp only [show zc_Pg h15 = zc_Pg h from zc_Pg_g ((hw.wd rfl : zb_W [(23, 1), (24, 0), (25, 1), (26, 0)] h _).tr (w16.wd rfl)) rfl, show zv_f h15 1 8 = zv_f h 1 8 from zv_wf ((hw.wd rfl : zb_W [(23, 1), (24, 0), (25, 1), (26, 0)] h _).tr (w16.wd rfl)) rfl] at hH8
          show zx_T zp_P 6 zp_m42 67 [(4, .int (zI (v7))), (0, .ref 22), (2, .int (zI (c))), (3, .int (zI (p)))] [.int (zI (v20))] h22 _
          refine zr_i1 (x := v20) (t := 78) (pc := 67) rfl rfl (by omega) (by omega) (fun (c24 : v20 = 0) => ?_) (fun (c24 : ¬ (v20 = 0)) => ?_)
          · refine zx_T.l (i := .iload_n 3) (k := 1) (v := .int (zI (p))) (pc := 78) rfl rfl rfl ?_
            exact zr_ir (x := p) (pc := 79) rfl rfl rfl ⟨ih22, (((hw.wd rfl : zb_W [(23, 1), (24, 0), (25, 1), (26, 0)] h _).tr (w16.wd rfl)).tr (w23.wd rfl)), _, rfl, by dsimp only; exact Or.inr ⟨by omega, by omega, Or.inr ⟨wa, by have z9 := en9.trans (zi_f (fun z => (hH8.resolve_left (fun z => absurd z.1 (by omega))).2 z.1)); exact z9.symm⟩⟩⟩
          · have hH9 := (hH8.resolve_right (fun z => absurd z.1 (by omega))).2
            have hP4 : zP.ok (zc_Pg h22) := (by rw [zc_Pg_g (((hw.wd rfl : zb_W [(23, 1), (24, 0), (25, 1), (26, 0)] h _).tr (w16.wd rfl)).tr (w23.wd rfl)) rfl]; exact hP)
            have hQ4 : zP.nn (zc_Pg h22) := (by rw [zc_Pg_g (((hw.wd rfl : zb_W [(23, 1), (24, 0), (25, 1), (26, 0)] h _).tr (w16.wd rfl)).tr (w23.wd rfl)) rfl]; exact hQ)
            have hF4 := zc_Fr_w (((hw.wd rfl : zb_W [(23, 1), (24, 0), (25, 1), (26, 0)] h _).tr (w16.wd rfl)).tr (w23.wd rfl)) rfl hF
            have xS4 : zv_f h22 23 1 = (zs_in1 F p x).2.1 := (zv_wf w23 rfl).trans eI.2.2.2.2.1
            have xN4 : ∀ j, 0 ≤ j → j < 8 + (zs_in1 F p x).2.1 → zv_a h22 24 j = (zs_in1 F p x).2.2 j := fun j j0 j1 => (zv_wa w23 rfl j).trans (eI.2.2.2.2.2 j j0 j1)
            refine zx_T.l (i := .aload_n 0) (k := 1) (v := .ref 22) (pc := 70) rfl rfl rfl ?_
            refine zx_T.l (i := .iload_n 3) (k := 1) (v := .int (zI (p))) (pc := 71) rfl rfl rfl ?_
            have y25 : zv_f h22 1 3 = zv_f h 1 3 := ((zv_wf w23 rfl).trans ((zv_wf w16 rfl).trans (zv_wf hw rfl)))
            refine zw_iv (b := 22) (cj := 48) (q' := zp_m48) (As := [.int (zI (p))]) (rest := []) (pc := 72) rfl rfl rfl rfl rfl rfl rfl (Nat.le_of_ble_eq_true rfl) rfl (Nat.le_of_ble_eq_true rfl) ih22 ((zm_leaves (h := h22) ih22 (p := p) (by omega) (by omega) F hF4 oF (zs_in1 F p x) eI.2.1 eI.2.2.1 eI.2.2.2.1 xS4 xN4 hP4 hQ4).up (Nat.le_of_ble_eq_true rfl)) ?_
            rintro r26 h29 ⟨ih29, w30, v27, r26q, x28⟩
            subst r26q
            try dsimp only at x28
            have lV := x28.1; simp only [show zc_Pg h22 = zc_Pg h from zc_Pg_g (((hw.wd rfl : zb_W [(23, 1), (24, 0), (25, 1), (26, 0)] h _).tr (w16.wd rfl)).tr (w23.wd rfl)) rfl, show zv_a h22 2 = zv_a h 2 from funext (fun q => zv_wa (((hw.wd rfl : zb_W [(23, 1), (24, 0), (25, 1), (26, 0)] h _).tr (w16.wd rfl)).tr (w23.wd rfl)) rfl q), show zv_a h22 3 = zv_a h 3 from funext (fun q => zv_wa (((hw.wd rfl : zb_W [(23, 1), (24, 0), (25, 1), (26, 0)] h _).tr (w16.wd rfl)).tr (w23.wd rfl)) rfl q)] at lV
            show zx_T zp_P 6 zp_m42 75 [(4, .int (zI (v7))), (0, .ref 22), (2, .int (zI (c))), (3, .int (zI (p)))] [.int (zI (v27))] h29 _
            refine zr_i1 (x := v27) (t := 80) (pc := 75) rfl rfl (by omega) (by omega) (fun (c31 : ¬ v27 = 0) => ?_) (fun (c31 : ¬ (¬ v27 = 0)) => ?_)
            · have rY := (lV.resolve_right (fun z => absurd z.1 (by omega))).2
              refine zx_T.l (i := .iload 4) (k := 2) (v := .int (zI (v7))) (pc := 80) rfl rfl rfl ?_
              refine zr_i1 (x := v7) (t := 100) (pc := 82) rfl rfl (by omega) (by omega) (fun (c32 : ¬ v7 = 0) => False.elim (by omega)) (fun (c32 : ¬ (¬ v7 = 0)) => ?_)
              refine zx_T.l (i := .aload_n 0) (k := 1) (v := .ref 22) (pc := 85) rfl rfl rfl ?_
              refine zw_gr (k := 0) (b := 1) (pc := 86) rfl rfl rfl ih29 ?_
              refine zx_T.l (i := .iload_n 3) (k := 1) (v := .int (zI (p))) (pc := 89) rfl rfl rfl ?_
              have y33 : zv_f h29 1 3 = zv_f h 1 3 := ((zv_wf w30 rfl).trans ((zv_wf w23 rfl).trans ((zv_wf w16 rfl).trans (zv_wf hw rfl))))
              refine zw_iv (b := 1) (cj := 11) (q' := zp_m11) (As := [.int (zI (p))]) (rest := []) (pc := 90) rfl rfl rfl rfl rfl rfl rfl (Nat.le_of_ble_eq_true rfl) rfl (Nat.le_of_ble_eq_true rfl) ih29 ((zm_cGoesOn (h := h29) ih29 (p := p) (by omega) (by omega)).up (Nat.le_of_ble_eq_true rfl)) ?_
              rintro r34 h37 ⟨h37q, v35, r34q, x36⟩
              subst h37q r34q
              try dsimp only at x36
              have go := x36; simp only [zv_wa ((((hw.wd rfl : zb_W [(23, 1), (24, 0), (25, 1), (26, 0)] h _).tr (w16.wd rfl)).tr (w23.wd rfl)).tr (w30.wd rfl)) (a := 2) rfl] at go
              show zx_T zp_P 6 zp_m42 93 [(4, .int (zI (v7))), (0, .ref 22), (2, .int (zI (c))), (3, .int (zI (p)))] [.int (zI (v35))] h29 _
              refine zr_i1 (x := v35) (t := 100) (pc := 93) rfl rfl (by omega) (by omega) (fun (c38 : v35 = 0) => ?_) (fun (c38 : ¬ (v35 = 0)) => ?_)
              · refine zx_T.s (i := .iconst 0) (k := 1) (st' := [.int (zI (0))]) (pc := 100) rfl rfl ?_
                refine zx_T.t (i := .istore_n 2) (k := 1) (ls' := [(2, .int (zI (0))), (4, .int (zI (v7))), (0, .ref 22), (3, .int (zI (p)))]) (st' := []) (pc := 101) rfl rfl rfl rfl ?_
                refine zr_inc (x := p) (n := 1) (y := p + 1) (ls' := [(3, .int (zI (p + 1))), (2, .int (zI (0))), (4, .int (zI (v7))), (0, .ref 22)]) (pc := 102) rfl rfl rfl (by omega) rfl ?_
                refine zx_T.j (i := .goto (-78)) (k := 3) (pc' := 27) (st' := []) (pc := 105) rfl rfl rfl rfl rfl ?_
                refine zx_T.lk (ls' := [(0, .ref 22), (2, .int (zI (0))), (3, .int (zI (p + 1)))]) rfl ⟨rfl, rfl, rfl, trivial⟩ ?_
                exact ih (h2 := h29) (c := 0) (p := p + 1) ih29 (by omega) (by omega) (by omega) (by omega) ((((hw.wd rfl : zb_W [(23, 1), (24, 0), (25, 1), (26, 0)] h _).tr (w16.wd rfl)).tr (w23.wd rfl)).tr (w30.wd rfl)) wa (zs_go (zc_Pg h) p) ⟨fun z y => by have y1 : 22 ≤ zv_a h 2 p ∧ zv_a h 2 p ≤ 24 := y; omega, fun z => Classical.byContradiction (fun y => z (show 22 ≤ zv_a h 2 p ∧ zv_a h 2 p ≤ 24 by omega))⟩ (fun z => by first | rfl | (rw [show p + 1 - 1 = p by omega] at z; rcases z with z | z; (exfalso; omega); exact Classical.byContradiction (fun y => z.2 (show 22 ≤ zv_a h 2 p ∧ zv_a h 2 p ≤ 24 by omega)))) (zs_ap (zv_a h 2 p) (zv_a h 3 p) (zs_in1 F p x)) rY.1.1 (zw_ap eI.2.2.1 o9.1 o9.2) (zk_ap o9.1 eI.2.2.1.2.1 eI.2.2.2.1 (fun z => by have := q9 z; omega)) rY.2.1 rY.2.2 (en9.trans (zi_t ⟨hH9, rY.1⟩)) (by omega)
              · refine zx_T.s (i := .iconst 1) (k := 1) (st' := [.int (zI (1))]) (pc := 96) rfl rfl ?_
                refine zx_T.j (i := .goto 4) (k := 3) (pc' := 101) (st' := [.int (zI (1))]) (pc := 97) rfl rfl rfl rfl rfl ?_
                refine zx_T.t (i := .istore_n 2) (k := 1) (ls' := [(2, .int (zI (1))), (4, .int (zI (v7))), (0, .ref 22), (3, .int (zI (p)))]) (st' := []) (pc := 101) rfl rfl rfl rfl ?_
                refine zr_inc (x := p) (n := 1) (y := p + 1) (ls' := [(3, .int (zI (p + 1))), (2, .int (zI (1))), (4, .int (zI (v7))), (0, .ref 22)]) (pc := 102) rfl rfl rfl (by omega) rfl ?_
                refine zx_T.j (i := .goto (-78)) (k := 3) (pc' := 27) (st' := []) (pc := 105) rfl rfl rfl rfl rfl ?_
                refine zx_T.lk (ls' := [(0, .ref 22), (2, .int (zI (1))), (3, .int (zI (p + 1)))]) rfl ⟨rfl, rfl, rfl, trivial⟩ ?_
                exact ih (h2 := h29) (c := 1) (p := p + 1) ih29 (by omega) (by omega) (by omega) (by omega) ((((hw.wd rfl : zb_W [(23, 1), (24, 0), (25, 1), (26, 0)] h _).tr (w16.wd rfl)).tr (w23.wd rfl)).tr (w30.wd rfl)) wa (zs_go (zc_Pg h) p) ⟨fun z y => by have y1 : 22 ≤ zv_a h 2 p ∧ zv_a h 2 p ≤ 24 := y; omega, fun z => Classical.byContradiction (fun y => z (show 22 ≤ zv_a h 2 p ∧ zv_a h 2 p ≤ 24 by omega))⟩ (fun z => by first | rfl | (rw [show p + 1 - 1 = p by omega] at z; rcases z with z | z; (exfalso; omega); exact Classical.byContradiction (fun y => z.2 (show 22 ≤ zv_a h 2 p ∧ zv_a h 2 p ≤ 24 by omega)))) (zs_ap (zv_a h 2 p) (zv_a h 3 p) (zs_in1 F p x)) rY.1.1 (zw_ap eI.2.2.1 o9.1 o9.2) (zk_ap o9.1 eI.2.2.1.2.1 eI.2.2.2.1 (fun z => by have := q9 z; omega)) rY.2.1 rY.2.2 (en9.trans (zi_t ⟨hH9, rY.1⟩)) (by omega)
            · refine zx_T.l (i := .iload_n 3) (k := 1) (v := .int (zI (p))) (pc := 78) rfl rfl rfl ?_
              exact zr_ir (x := p) (pc := 79) rfl rfl rfl ⟨ih29, ((((hw.wd rfl : zb_W [(23, 1), (24, 0), (25, 1), (26, 0)] h _).tr (w16.wd rfl)).tr (w23.wd rfl)).tr (w30.wd rfl)), _, rfl, by dsimp only; exact Or.inr ⟨by omega, by omega, Or.inr ⟨wa, by have z9 := en9.trans (zi_f (fun z => (lV.resolve_left (fun z => absurd z.1 (by omega))).2 z.2)); exact z9.symm⟩⟩⟩
set_option maxRecDepth 100000 in
set_option maxHeartbeats 4000000 in
theorem zm_firstRefused {h : zx_H} (hI : zb_I zc_H h)  (F : zF) (hF : zc_Fr h F) (oF : F.ok) (s : zS) (hA : zc_A h s) (lk : zs_lk (zc_Pg h) s F) (hP : zP.ok (zc_Pg h)) (hQ : zP.nn (zc_Pg h)) : zx_T zp_P 6 zp_m42 0 [(0, .ref 22)] [] h (zr_R [(23, 1), (24, 0), (25, 1), (26, 0)] h (fun e h' => (e = -1 ∧ zs_jd (zc_Pg h) s F 1) ∨ (0 ≤ e ∧ e ≤ 59 ∧ zs_jd (zc_Pg h) s F (-10 - e)))) := by
  have hC := zw_ri hI (a := 1) (k := 3) rfl
  have hH := zw_ri hI (a := 1) (k := 8) rfl
  refine zx_T.l (i := .aload_n 0) (k := 1) (v := .ref 22) (pc := 0) rfl rfl rfl ?_
  refine zw_iv (b := 22) (cj := 43) (q' := zp_m43) (As := []) (rest := []) (pc := 1) rfl rfl rfl rfl rfl rfl rfl (Nat.le_of_ble_eq_true rfl) rfl (Nat.le_of_ble_eq_true rfl) hI ((zm_firstTorn (h := h) hI  F hF oF).up (Nat.le_of_ble_eq_true rfl)) ?_
  rintro r39 h42 ⟨ih42, w43, v40, r39q, x41⟩
  subst r39q
  try dsimp only at x41
  have tO := x41
  show zx_T zp_P 6 zp_m42 4 [(0, .ref 22)] [.int (zI (v40))] h42 _
  refine zx_T.t (i := .istore_n 1) (k := 1) (ls' := [(1, .int (zI (v40))), (0, .ref 22)]) (st' := []) (pc := 4) rfl rfl rfl rfl ?_
  refine zx_T.l (i := .iload_n 1) (k := 1) (v := .int (zI (v40))) (pc := 5) rfl rfl rfl ?_
  refine zx_T.s (i := .iconst (-1)) (k := 1) (st' := [.int (zI ((-1))), .int (zI (v40))]) (pc := 6) rfl rfl ?_
  refine zr_i2 (x := v40) (y := (-1)) (t := 12) (pc := 7) rfl rfl (by omega) (by omega) (by omega) (by omega) (fun (c44 : v40 = (-1)) => ?_) (fun (c44 : ¬ (v40 = (-1))) => ?_)
  · refine zx_T.l (i := .aload_n 0) (k := 1) (v := .ref 22) (pc := 12) rfl rfl rfl ?_
    refine zw_gr (k := 3) (b := 23) (pc := 13) rfl rfl rfl ih42 ?_
    refine zx_T.l (i := .aload_n 0) (k := 1) (v := .ref 22) (pc := 16) rfl rfl rfl ?_
    refine zw_gr (k := 0) (b := 1) (pc := 17) rfl rfl rfl ih42 ?_
    refine zw_iv (b := 23) (cj := 115) (q' := zp_m115) (As := [.ref 1]) (rest := []) (pc := 20) rfl rfl rfl rfl rfl rfl rfl (Nat.le_of_ble_eq_true rfl) rfl (Nat.le_of_ble_eq_true rfl) ih42 ((zm_begin_23 (h := h42) ih42  ).up (Nat.le_of_ble_eq_true rfl)) ?_
    rintro r45 h48 ⟨ih48, w49, r45q, x47⟩
    subst r45q
    try dsimp only at x47
    have bG := x47
    show zx_T zp_P 6 zp_m42 23 [(1, .int (zI (v40))), (0, .ref 22)] [] h48 _
    refine zx_T.s (i := .iconst 1) (k := 1) (st' := [.int (zI (1))]) (pc := 23) rfl rfl ?_
    refine zx_T.t (i := .istore_n 2) (k := 1) (ls' := [(2, .int (zI (1))), (1, .int (zI (v40))), (0, .ref 22)]) (st' := []) (pc := 24) rfl rfl rfl rfl ?_
    refine zx_T.s (i := .iconst 0) (k := 1) (st' := [.int (zI (0))]) (pc := 25) rfl rfl ?_
    refine zx_T.t (i := .istore_n 3) (k := 1) (ls' := [(3, .int (zI (0))), (2, .int (zI (1))), (1, .int (zI (v40))), (0, .ref 22)]) (st' := []) (pc := 26) rfl rfl rfl rfl ?_
    refine zx_T.lk (ls' := [(0, .ref 22), (2, .int (zI (1))), (3, .int (zI (0)))]) rfl ⟨rfl, rfl, rfl, trivial⟩ ?_
    exact zm_firstRefused_L (h := h) hI  F hF oF s hA lk hP hQ ((100 - 0 : Int).toNat + 1) (h2 := h48) (c := 1) (p := 0) ih48 (by omega) (by omega) (by omega) (by omega) ((w43.wd rfl : zb_W [(23, 1), (24, 0), (25, 1), (26, 0)] h _).tr (w49.wd rfl)) (tO.resolve_right (fun z => absurd z.1 (by omega))).2 True ⟨fun _ => trivial, fun _ => rfl⟩ (fun _ => rfl) (0, 0, zs_row (zc_Pg h)) rfl ⟨⟨hP.2.2, fun j j0 (j1 : j < 8 + 0) => absurd j1 (by omega)⟩, (show (0 : Int) ≤ 0 by decide), (show (0 : Int) ≤ 6 by decide)⟩ (fun j j0 (j1 : j < 8 + 0) => hQ.2.2 j j0 (by omega)) bG.1 (fun j j0 (j1 : j < 8 + 0) => by rw [bG.2 j j0 (by omega), zv_wf w43 rfl, zv_wa w43 rfl]; rfl) (by rw [Int.sub_zero]) (Nat.lt_succ_self _)
  · refine zx_T.l (i := .iload_n 1) (k := 1) (v := .int (zI (v40))) (pc := 10) rfl rfl rfl ?_
    exact zr_ir (x := v40) (pc := 11) rfl rfl rfl ⟨ih42, (w43.wd rfl : zb_W [(23, 1), (24, 0), (25, 1), (26, 0)] h _), _, rfl, by dsimp only; have t9 := tO.resolve_left (fun z => absurd z.1 (by omega)); exact Or.inr ⟨by omega, by omega, Or.inl (by obtain ⟨f, y1, y2, y3, y4, y5⟩ := t9.2.2; exact ⟨f, y1, y2, y3, y4, by rw [y5]⟩)⟩⟩

set_option maxRecDepth 100000 in
set_option maxHeartbeats 4000000 in
theorem zm_cJudgeX {h : zx_H} (hI : zb_I zc_H h)  (hP : zP.ok (zc_Pg h)) (hQ : zP.nn (zc_Pg h)) (s : zS) (F : zF) (hA : ¬ zv_f h 16 4 = 0 → zc_A h s) (hF : ¬ zv_f h 16 4 = 0 → zc_Fr h F) (oF : ¬ zv_f h 16 4 = 0 → F.ok) (lk : ¬ zv_f h 16 4 = 0 → zs_lk (zc_Pg h) s F) : zx_T zp_P 7 zp_m145 0 [(0, .ref 0)] [] h (zr_R [(23, 1), (24, 0), (25, 1), (26, 0)] h (fun e h' => (zv_f h 16 4 = 0 ∧ e = -3) ∨ (¬ zv_f h 16 4 = 0 ∧ zs_jd (zc_Pg h) s F e))) := by
  have hC := zw_ri hI (a := 1) (k := 3) rfl
  have hH := zw_ri hI (a := 1) (k := 8) rfl
  refine zx_T.l (i := .aload_n 0) (k := 1) (v := .ref 0) (pc := 0) rfl rfl rfl ?_
  refine zw_gr (k := 2) (b := 16) (pc := 1) rfl rfl rfl hI ?_
  refine zw_iv (b := 16) (cj := 77) (q' := zp_m77) (As := []) (rest := []) (pc := 4) rfl rfl rfl rfl rfl rfl rfl (Nat.le_of_ble_eq_true rfl) rfl (Nat.le_of_ble_eq_true rfl) hI ((zm_mIsMade (h := h) hI  ).up (Nat.le_of_ble_eq_true rfl)) ?_
  rintro r1 h4 ⟨h4q, v2, r1q, x3⟩
  subst h4q r1q
  try dsimp only at x3
  show zx_T zp_P 7 zp_m145 7 [(0, .ref 0)] [.int (zI (v2))] h _
  refine zr_i1 (x := v2) (t := 13) (pc := 7) rfl rfl (by omega) (by omega) (fun (c5 : ¬ v2 = 0) => ?_) (fun (c5 : ¬ (¬ v2 = 0)) => ?_)
  · refine zx_T.l (i := .aload_n 0) (k := 1) (v := .ref 0) (pc := 13) rfl rfl rfl ?_
    refine zw_gr (k := 3) (b := 22) (pc := 14) rfl rfl rfl hI ?_
    refine zw_iv (b := 22) (cj := 42) (q' := zp_m42) (As := []) (rest := []) (pc := 17) rfl rfl rfl rfl rfl rfl rfl (Nat.le_of_ble_eq_true rfl) rfl (Nat.le_of_ble_eq_true rfl) hI ((zm_firstRefused (h := h) hI  F (hF (by omega)) (oF (by omega)) s (hA (by omega)) (lk (by omega)) hP hQ).up (Nat.le_of_ble_eq_true rfl)) ?_
    rintro r6 h9 ⟨ih9, w10, v7, r6q, x8⟩
    subst r6q
    try dsimp only at x8
    have fR := x8
    show zx_T zp_P 7 zp_m145 20 [(0, .ref 0)] [.int (zI (v7))] h9 _
    refine zx_T.t (i := .istore_n 1) (k := 1) (ls' := [(1, .int (zI (v7))), (0, .ref 0)]) (st' := []) (pc := 20) rfl rfl rfl rfl ?_
    refine zx_T.l (i := .iload_n 1) (k := 1) (v := .int (zI (v7))) (pc := 21) rfl rfl rfl ?_
    refine zx_T.s (i := .iconst (-1)) (k := 1) (st' := [.int (zI ((-1))), .int (zI (v7))]) (pc := 22) rfl rfl ?_
    refine zr_i2 (x := v7) (y := (-1)) (t := 30) (pc := 23) rfl rfl (by omega) (by omega) (by omega) (by omega) (fun (c11 : ¬ v7 = (-1)) => ?_) (fun (c11 : ¬ (¬ v7 = (-1))) => ?_)
    · refine zx_T.l (i := .iload_n 1) (k := 1) (v := .int (zI (v7))) (pc := 30) rfl rfl rfl ?_
      refine zr_is (cj := 154) (q' := zp_m154) (As := [.int (zI (v7))]) (rest := []) (pc := 31) rfl rfl rfl rfl rfl rfl (Nat.le_of_ble_eq_true rfl) rfl (Nat.le_of_ble_eq_true rfl) rfl ((zm_cRefusedAt (h := h9) ih9 (p := v7) (by omega) (by omega)).up (Nat.le_of_ble_eq_true rfl)) ?_
      rintro r12 h15 ⟨h15q, v13, r12q, x14⟩
      subst h15q r12q
      try dsimp only at x14
      have rE := x14.1
      show zx_T zp_P 7 zp_m145 34 [(1, .int (zI (v7))), (0, .ref 0)] [.int (zI (v13))] h9 _
      exact zr_ir (x := v13) (pc := 34) rfl rfl rfl ⟨ih9, (w10.wd rfl : zb_W [(23, 1), (24, 0), (25, 1), (26, 0)] h _), _, rfl, by dsimp only; exact Or.inr ⟨by omega, by rw [rE]; exact (fR.resolve_left (fun z => absurd z.1 (by omega))).2.2⟩⟩
    · refine zx_T.s (i := .iconst 1) (k := 1) (st' := [.int (zI (1))]) (pc := 26) rfl rfl ?_
      refine zx_T.j (i := .goto 7) (k := 3) (pc' := 34) (st' := [.int (zI (1))]) (pc := 27) rfl rfl rfl rfl rfl ?_
      exact zr_ir (x := 1) (pc := 34) rfl rfl rfl ⟨ih9, (w10.wd rfl : zb_W [(23, 1), (24, 0), (25, 1), (26, 0)] h _), _, rfl, by dsimp only; exact Or.inr ⟨by omega, (fR.resolve_right (fun z => absurd z.1 (by omega))).2⟩⟩
  · refine zx_T.s (i := .bipush (-3)) (k := 2) (st' := [.int (zI ((-3)))]) (pc := 10) rfl rfl ?_
    exact zr_ir (x := (-3)) (pc := 12) rfl rfl rfl ⟨hI, zb_W.rf, _, rfl, by dsimp only; exact Or.inl ⟨by omega, rfl⟩⟩
