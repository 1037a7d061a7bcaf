/-! ===== 97v: the reference, method by method (by program) ===== -/
set_option maxRecDepth 100000 in
set_option maxHeartbeats 4000000 in
theorem zm_readFrame_23 {h : zx_H} (hI : zb_I zc_H h) {p : Int} (p1 : -2147483648 ≤ p) (p2 : p ≤ 2147483647) (F : zF) (hF : zc_Fr h F) (oF : F.ok) : zx_T zp_P 4 zp_m45 0 [(0, .ref 22), (1, .int (zI (p))), (2, .ref 23)] [] h (zr_R [(23, 1), (24, 0)] h (fun e h' => ((zs_fa F p = -1 ∧ e = 0 ∧ zv_f h' 23 1 = zv_f h 23 1 ∧ ∀ j, zv_a h' 24 j = zv_a h 24 j) ∨ (¬ zs_fa F p = -1 ∧ e = 1 ∧ zc_st4 (zv_f h' 23 1) (zv_a h' 24) F (zs_fa F p) ∧ 0 ≤ zs_fa F p ∧ zs_fa F p < F.n)) ∧ 0 ≤ e ∧ e ≤ 1)) := by
  have ofn := oF.2.1
  have nF := hF.1
  refine zx_T.l (i := .aload_n 0) (k := 1) (v := .ref 22) (pc := 0) rfl rfl rfl ?_
  refine zw_gr (k := 2) (b := 10) (pc := 1) rfl rfl rfl hI ?_
  refine zx_T.l (i := .iload_n 1) (k := 1) (v := .int (zI (p))) (pc := 4) rfl rfl rfl ?_
  refine zw_iv (b := 10) (cj := 35) (q' := zp_m35) (As := [.int (zI (p))]) (rest := []) (pc := 5) rfl rfl rfl rfl rfl rfl rfl (Nat.le_of_ble_eq_true rfl) rfl (Nat.le_of_ble_eq_true rfl) hI ((zm_fFrameAt (h := h) hI (p := p) (by omega) (by omega)).up (Nat.le_of_ble_eq_true rfl)) ?_
  rintro r1 h4 ⟨h4q, v2, r1q, x3⟩
  subst h4q r1q
  try dsimp only at x3
  have fE := zc_faE hF oF x3
  show zx_T zp_P 4 zp_m45 8 [(0, .ref 22), (1, .int (zI (p))), (2, .ref 23)] [.int (zI (v2))] h _
  refine zx_T.t (i := .istore_n 3) (k := 1) (ls' := [(3, .int (zI (v2))), (0, .ref 22), (1, .int (zI (p))), (2, .ref 23)]) (st' := []) (pc := 8) rfl rfl rfl rfl ?_
  refine zx_T.l (i := .iload_n 3) (k := 1) (v := .int (zI (v2))) (pc := 9) rfl rfl rfl ?_
  refine zx_T.s (i := .iconst (-1)) (k := 1) (st' := [.int (zI ((-1))), .int (zI (v2))]) (pc := 10) rfl rfl ?_
  refine zr_i2 (x := v2) (y := (-1)) (t := 16) (pc := 11) rfl rfl (by omega) (by omega) (by omega) (by omega) (fun (c5 : ¬ v2 = (-1)) => ?_) (fun (c5 : ¬ (¬ v2 = (-1))) => ?_)
  · refine zx_T.l (i := .aload_n 0) (k := 1) (v := .ref 22) (pc := 16) rfl rfl rfl ?_
    refine zw_gr (k := 2) (b := 10) (pc := 17) rfl rfl rfl hI ?_
    refine zx_T.l (i := .iload_n 3) (k := 1) (v := .int (zI (v2))) (pc := 20) rfl rfl rfl ?_
    refine zx_T.l (i := .aload_n 2) (k := 1) (v := .ref 23) (pc := 21) rfl rfl rfl ?_
    refine zw_iv (b := 10) (cj := 36) (q' := zp_m36) (As := [.int (zI (v2)), .ref 23]) (rest := []) (pc := 22) rfl rfl rfl rfl rfl rfl rfl (Nat.le_of_ble_eq_true rfl) rfl (Nat.le_of_ble_eq_true rfl) hI ((zm_fRead_23 (h := h) hI (f := v2) (by omega) (by omega)).up (Nat.le_of_ble_eq_true rfl)) ?_
    rintro r6 h9 ⟨ih9, w10, r6q, x8⟩
    subst r6q
    try dsimp only at x8
    have fr1 := x8
    show zx_T zp_P 4 zp_m45 25 [(3, .int (zI (v2))), (0, .ref 22), (1, .int (zI (p))), (2, .ref 23)] [] h9 _
    refine zx_T.s (i := .iconst 1) (k := 1) (st' := [.int (zI (1))]) (pc := 25) rfl rfl ?_
    exact zr_ir (x := 1) (pc := 26) rfl rfl (zr_nb (by omega) (by omega)) ⟨ih9, (w10.wd rfl : zb_W [(23, 1), (24, 0)] h _), _, rfl, by dsimp only; exact ⟨Or.inr ⟨by rw [fE.1]; omega, rfl, by rw [fE.1]; exact zc_Fr_rd hF oF (by omega) (by omega) fr1, by omega, by omega⟩, by omega, by omega⟩⟩
  · refine zx_T.s (i := .iconst 0) (k := 1) (st' := [.int (zI (0))]) (pc := 14) rfl rfl ?_
    exact zr_ir (x := 0) (pc := 15) rfl rfl (zr_nb (by omega) (by omega)) ⟨hI, zb_W.rf, _, rfl, by dsimp only; exact ⟨Or.inl ⟨by rw [fE.1]; omega, rfl, rfl, fun _ => rfl⟩, by omega, by omega⟩⟩

set_option maxRecDepth 100000 in
set_option maxHeartbeats 4000000 in
theorem zm_readFrame_25 {h : zx_H} (hI : zb_I zc_H h) {p : Int} (p1 : -2147483648 ≤ p) (p2 : p ≤ 2147483647) (F : zF) (hF : zc_Fr h F) (oF : F.ok) : zx_T zp_P 4 zp_m45 0 [(0, .ref 22), (1, .int (zI (p))), (2, .ref 25)] [] h (zr_R [(25, 1), (26, 0)] h (fun e h' => ((zs_fa F p = -1 ∧ e = 0 ∧ zv_f h' 25 1 = zv_f h 25 1 ∧ ∀ j, zv_a h' 26 j = zv_a h 26 j) ∨ (¬ zs_fa F p = -1 ∧ e = 1 ∧ zc_st4 (zv_f h' 25 1) (zv_a h' 26) F (zs_fa F p) ∧ 0 ≤ zs_fa F p ∧ zs_fa F p < F.n)) ∧ 0 ≤ e ∧ e ≤ 1)) := by
  have ofn := oF.2.1
  have nF := hF.1
  refine zx_T.l (i := .aload_n 0) (k := 1) (v := .ref 22) (pc := 0) rfl rfl rfl ?_
  refine zw_gr (k := 2) (b := 10) (pc := 1) rfl rfl rfl hI ?_
  refine zx_T.l (i := .iload_n 1) (k := 1) (v := .int (zI (p))) (pc := 4) rfl rfl rfl ?_
  refine zw_iv (b := 10) (cj := 35) (q' := zp_m35) (As := [.int (zI (p))]) (rest := []) (pc := 5) rfl rfl rfl rfl rfl rfl rfl (Nat.le_of_ble_eq_true rfl) rfl (Nat.le_of_ble_eq_true rfl) hI ((zm_fFrameAt (h := h) hI (p := p) (by omega) (by omega)).up (Nat.le_of_ble_eq_true rfl)) ?_
  rintro r1 h4 ⟨h4q, v2, r1q, x3⟩
  subst h4q r1q
  try dsimp only at x3
  have fE := zc_faE hF oF x3
  show zx_T zp_P 4 zp_m45 8 [(0, .ref 22), (1, .int (zI (p))), (2, .ref 25)] [.int (zI (v2))] h _
  refine zx_T.t (i := .istore_n 3) (k := 1) (ls' := [(3, .int (zI (v2))), (0, .ref 22), (1, .int (zI (p))), (2, .ref 25)]) (st' := []) (pc := 8) rfl rfl rfl rfl ?_
  refine zx_T.l (i := .iload_n 3) (k := 1) (v := .int (zI (v2))) (pc := 9) rfl rfl rfl ?_
  refine zx_T.s (i := .iconst (-1)) (k := 1) (st' := [.int (zI ((-1))), .int (zI (v2))]) (pc := 10) rfl rfl ?_
  refine zr_i2 (x := v2) (y := (-1)) (t := 16) (pc := 11) rfl rfl (by omega) (by omega) (by omega) (by omega) (fun (c5 : ¬ v2 = (-1)) => ?_) (fun (c5 : ¬ (¬ v2 = (-1))) => ?_)
  · refine zx_T.l (i := .aload_n 0) (k := 1) (v := .ref 22) (pc := 16) rfl rfl rfl ?_
    refine zw_gr (k := 2) (b := 10) (pc := 17) rfl rfl rfl hI ?_
    refine zx_T.l (i := .iload_n 3) (k := 1) (v := .int (zI (v2))) (pc := 20) rfl rfl rfl ?_
    refine zx_T.l (i := .aload_n 2) (k := 1) (v := .ref 25) (pc := 21) rfl rfl rfl ?_
    refine zw_iv (b := 10) (cj := 36) (q' := zp_m36) (As := [.int (zI (v2)), .ref 25]) (rest := []) (pc := 22) rfl rfl rfl rfl rfl rfl rfl (Nat.le_of_ble_eq_true rfl) rfl (Nat.le_of_ble_eq_true rfl) hI ((zm_fRead_25 (h := h) hI (f := v2) (by omega) (by omega)).up (Nat.le_of_ble_eq_true rfl)) ?_
    rintro r6 h9 ⟨ih9, w10, r6q, x8⟩
    subst r6q
    try dsimp only at x8
    have fr1 := x8
    show zx_T zp_P 4 zp_m45 25 [(3, .int (zI (v2))), (0, .ref 22), (1, .int (zI (p))), (2, .ref 25)] [] h9 _
    refine zx_T.s (i := .iconst 1) (k := 1) (st' := [.int (zI (1))]) (pc := 25) rfl rfl ?_
    exact zr_ir (x := 1) (pc := 26) rfl rfl (zr_nb (by omega) (by omega)) ⟨ih9, (w10.wd rfl : zb_W [(25, 1), (26, 0)] h _), _, rfl, by dsimp only; exact ⟨Or.inr ⟨by rw [fE.1]; omega, rfl, by rw [fE.1]; exact zc_Fr_rd hF oF (by omega) (by omega) fr1, by omega, by omega⟩, by omega, by omega⟩⟩
  · refine zx_T.s (i := .iconst 0) (k := 1) (st' := [.int (zI (0))]) (pc := 14) rfl rfl ?_
    exact zr_ir (x := 0) (pc := 15) rfl rfl (zr_nb (by omega) (by omega)) ⟨hI, zb_W.rf, _, rfl, by dsimp only; exact ⟨Or.inl ⟨by rw [fE.1]; omega, rfl, rfl, fun _ => rfl⟩, by omega, by omega⟩⟩

set_option maxRecDepth 100000 in
set_option maxHeartbeats 4000000 in
theorem zm_isTaken {h : zx_H} (hI : zb_I zc_H h) {k : Int} (k1 : 0 ≤ k) (k2 : k ≤ 8) (zk : zk_in (zv_f h 23 1) (zv_a h 24)) : zx_T zp_P 2 zp_m47 0 [(0, .ref 22), (1, .int (zI (k)))] [] h (zr_P h (fun e => ((e = 1 ∧ (zs_lg (zv_a h 24) (zv_a h 26) ∧ zv_f h 25 1 = 1 ∧ zc_g k (zv_a h 26 8))) ∨ (e = 0 ∧ ¬ (zs_lg (zv_a h 24) (zv_a h 26) ∧ zv_f h 25 1 = 1 ∧ zc_g k (zv_a h 26 8)))) ∧ 0 ≤ e ∧ e ≤ 1)) := by
  refine zx_T.l (i := .aload_n 0) (k := 1) (v := .ref 22) (pc := 0) rfl rfl rfl ?_
  refine zw_gr (k := 3) (b := 23) (pc := 1) rfl rfl rfl hI ?_
  refine zx_T.l (i := .aload_n 0) (k := 1) (v := .ref 22) (pc := 4) rfl rfl rfl ?_
  refine zw_gr (k := 4) (b := 25) (pc := 5) rfl rfl rfl hI ?_
  refine zw_iv (b := 23) (cj := 127) (q' := zp_m127) (As := [.ref 25]) (rest := []) (pc := 8) rfl rfl rfl rfl rfl rfl rfl (Nat.le_of_ble_eq_true rfl) rfl (Nat.le_of_ble_eq_true rfl) hI ((zm_localsGoAsF (h := h) hI  zk).up (Nat.le_of_ble_eq_true rfl)) ?_
  rintro r1 h4 ⟨h4q, v2, r1q, x3⟩
  subst h4q r1q
  try dsimp only at x3
  have lG := x3.1
  show zx_T zp_P 2 zp_m47 11 [(0, .ref 22), (1, .int (zI (k)))] [.int (zI (v2))] h _
  refine zr_i1 (x := v2) (t := 44) (pc := 11) rfl rfl (by omega) (by omega) (fun (c5 : v2 = 0) => ?_) (fun (c5 : ¬ (v2 = 0)) => ?_)
  · refine zx_T.s (i := .iconst 0) (k := 1) (st' := [.int (zI (0))]) (pc := 44) rfl rfl ?_
    exact zr_ir (x := 0) (pc := 45) rfl rfl (zr_nb (by omega) (by omega)) ⟨rfl, _, rfl, by dsimp only; exact ⟨Or.inr ⟨rfl, fun z => by have z1 := z.2.1; first | omega | exact (lG.resolve_left (fun z => absurd z.1 (by omega))).2 z.1 | (have y := (gA.resolve_left (fun z => absurd z.1 (by omega))).2; rw [(kD.resolve_right (fun z => absurd z.1 (by omega))).2, show zv_f h 25 1 + 7 - 0 = 8 by omega] at y; exact y z.2.2)⟩, by omega, by omega⟩⟩
  · refine zx_T.l (i := .aload_n 0) (k := 1) (v := .ref 22) (pc := 14) rfl rfl rfl ?_
    refine zw_gr (k := 4) (b := 25) (pc := 15) rfl rfl rfl hI ?_
    refine zw_iv (b := 25) (cj := 116) (q' := zp_m116) (As := []) (rest := []) (pc := 18) rfl rfl rfl rfl rfl rfl rfl (Nat.le_of_ble_eq_true rfl) rfl (Nat.le_of_ble_eq_true rfl) hI ((zm_depth_25 (h := h) hI  ).up (Nat.le_of_ble_eq_true rfl)) ?_
    rintro r6 h9 ⟨h9q, v7, r6q, x8⟩
    subst h9q r6q
    try dsimp only at x8
    have dE := x8.1
    show zx_T zp_P 2 zp_m47 21 [(0, .ref 22), (1, .int (zI (k)))] [.int (zI (v7))] h _
    refine zx_T.s (i := .iconst 1) (k := 1) (st' := [.int (zI (1)), .int (zI (v7))]) (pc := 21) rfl rfl ?_
    refine zr_i2 (x := v7) (y := 1) (t := 44) (pc := 22) rfl rfl (by omega) (by omega) (by omega) (by omega) (fun (c10 : ¬ v7 = 1) => ?_) (fun (c10 : ¬ (¬ v7 = 1)) => ?_)
    · refine zx_T.s (i := .iconst 0) (k := 1) (st' := [.int (zI (0))]) (pc := 44) rfl rfl ?_
      exact zr_ir (x := 0) (pc := 45) rfl rfl (zr_nb (by omega) (by omega)) ⟨rfl, _, rfl, by dsimp only; exact ⟨Or.inr ⟨rfl, fun z => by have z1 := z.2.1; first | omega | exact (lG.resolve_left (fun z => absurd z.1 (by omega))).2 z.1 | (have y := (gA.resolve_left (fun z => absurd z.1 (by omega))).2; rw [(kD.resolve_right (fun z => absurd z.1 (by omega))).2, show zv_f h 25 1 + 7 - 0 = 8 by omega] at y; exact y z.2.2)⟩, by omega, by omega⟩⟩
    · refine zx_T.l (i := .iload_n 1) (k := 1) (v := .int (zI (k))) (pc := 25) rfl rfl rfl ?_
      refine zx_T.l (i := .aload_n 0) (k := 1) (v := .ref 22) (pc := 26) rfl rfl rfl ?_
      refine zw_gr (k := 4) (b := 25) (pc := 27) rfl rfl rfl hI ?_
      refine zx_T.s (i := .iconst 0) (k := 1) (st' := [.int (zI (0)), .ref 25, .int (zI (k))]) (pc := 30) rfl rfl ?_
      refine zw_iv (b := 25) (cj := 120) (q' := zp_m120) (As := [.int (zI (0))]) (rest := [.int (zI (k))]) (pc := 31) rfl rfl rfl rfl rfl rfl rfl (Nat.le_of_ble_eq_true rfl) rfl (Nat.le_of_ble_eq_true rfl) hI ((zm_kindDown_25 (h := h) hI (d := 0) (by omega) (by omega)).up (Nat.le_of_ble_eq_true rfl)) ?_
      rintro r11 h14 ⟨h14q, v12, r11q, x13⟩
      subst h14q r11q
      try dsimp only at x13
      have kD := x13.1
      show zx_T zp_P 2 zp_m47 34 [(0, .ref 22), (1, .int (zI (k)))] [.int (zI (v12)), .int (zI (k))] h _
      refine zr_is (cj := 49) (q' := zp_m49) (As := [.int (zI (k)), .int (zI (v12))]) (rest := []) (pc := 34) rfl rfl rfl rfl rfl rfl (Nat.le_of_ble_eq_true rfl) rfl (Nat.le_of_ble_eq_true rfl) rfl ((zm_goesAsF (h := h) hI (a := k) (b := v12) (by omega) (by omega) (by omega) (by omega)).up (Nat.le_of_ble_eq_true rfl)) ?_
      rintro r15 h18 ⟨h18q, v16, r15q, x17⟩
      subst h18q r15q
      try dsimp only at x17
      have gA := x17.1
      show zx_T zp_P 2 zp_m47 37 [(0, .ref 22), (1, .int (zI (k)))] [.int (zI (v16))] h _
      refine zr_i1 (x := v16) (t := 44) (pc := 37) rfl rfl (by omega) (by omega) (fun (c19 : v16 = 0) => ?_) (fun (c19 : ¬ (v16 = 0)) => ?_)
      · refine zx_T.s (i := .iconst 0) (k := 1) (st' := [.int (zI (0))]) (pc := 44) rfl rfl ?_
        exact zr_ir (x := 0) (pc := 45) rfl rfl (zr_nb (by omega) (by omega)) ⟨rfl, _, rfl, by dsimp only; exact ⟨Or.inr ⟨rfl, fun z => by have z1 := z.2.1; first | omega | exact (lG.resolve_left (fun z => absurd z.1 (by omega))).2 z.1 | (have y := (gA.resolve_left (fun z => absurd z.1 (by omega))).2; rw [(kD.resolve_right (fun z => absurd z.1 (by omega))).2, show zv_f h 25 1 + 7 - 0 = 8 by omega] at y; exact y z.2.2)⟩, by omega, by omega⟩⟩
      · refine zx_T.s (i := .iconst 1) (k := 1) (st' := [.int (zI (1))]) (pc := 40) rfl rfl ?_
        refine zx_T.j (i := .goto 4) (k := 3) (pc' := 45) (st' := [.int (zI (1))]) (pc := 41) rfl rfl rfl rfl rfl ?_
        exact zr_ir (x := 1) (pc := 45) rfl rfl (zr_nb (by omega) (by omega)) ⟨rfl, _, rfl, by dsimp only; exact ⟨Or.inl ⟨rfl, (lG.resolve_right (fun z => absurd z.1 (by omega))).2, by omega, by have y := (gA.resolve_right (fun z => absurd z.1 (by omega))).2; rw [(kD.resolve_right (fun z => absurd z.1 (by omega))).2, show zv_f h 25 1 + 7 - 0 = 8 by omega] at y; exact y⟩, by omega, by omega⟩⟩

set_option maxRecDepth 100000 in
set_option maxHeartbeats 4000000 in
theorem zm_handlersHold_L {h : zx_H} (hI : zb_I zc_H h) {p : Int} (p1 : 0 ≤ p) (p2 : p < zv_f h 1 3) (F : zF) (hF : zc_Fr h F) (oF : F.ok) (x : zT) (x0 : x.1 = 0) (xo : zw_ok x) (xk : zk_in x.2.1 x.2.2) (xS : zv_f h 23 1 = x.2.1) (xN : ∀ j, 0 ≤ j → j < 8 + x.2.1 → zv_a h 24 j = x.2.2 j) (hQ : zP.nn (zc_Pg h)) (n : Nat) : (∀ {h2 : zx_H} {t : Int} (hI2 : zb_I zc_H h2) (t1 : 0 ≤ t) (t2 : t ≤ zv_f h 1 8) (hw : zb_W [(25, 1), (26, 0)] h h2) (hh : ∀ i, 0 ≤ i → i < t → zs_hh (zc_Pg h) F p x i), (10 - t : Int).toNat < n → zx_T zp_P 5 zp_m46 2 [(0, .ref 22), (1, .int (zI (p))), (2, .int (zI (t)))] [] h2 (zr_R [(25, 1), (26, 0)] h (fun e h' => ((e = 1 ∧ (∀ i, 0 ≤ i → i < zv_f h 1 8 → zs_hh (zc_Pg h) F p x i)) ∨ (e = 0 ∧ ¬ (∀ i, 0 ≤ i → i < zv_f h 1 8 → zs_hh (zc_Pg h) F p x i))) ∧ 0 ≤ e ∧ e ≤ 1))) := by
  induction n with
  | zero => exact fun _ _ _ _ _ hm => absurd hm (Nat.not_lt_zero _)
  | succ n ih =>
    intro h2 t hI2 t1 t2 hw hh hm
    have hC := zw_ri hI (a := 1) (k := 3) rfl
    have hH := zw_ri hI (a := 1) (k := 8) rfl
    have xr := xo.2
    have d9 : zv_f h2 1 8 = zv_f h 1 8 := zv_wf hw rfl
    have hF2 := zc_Fr_w hw rfl hF
    refine zx_T.l (i := .iload_n 2) (k := 1) (v := .int (zI (t))) (pc := 2) rfl rfl rfl ?_
    refine zx_T.l (i := .aload_n 0) (k := 1) (v := .ref 22) (pc := 3) rfl rfl rfl ?_
    refine zw_gr (k := 0) (b := 1) (pc := 4) rfl rfl rfl hI2 ?_
    refine zw_iv (b := 1) (cj := 5) (q' := zp_m5) (As := []) (rest := [.int (zI (t))]) (pc := 7) rfl rfl rfl rfl rfl rfl rfl (Nat.le_of_ble_eq_true rfl) rfl (Nat.le_of_ble_eq_true rfl) hI2 ((zm_cHandlers (h := h2) hI2  ).up (Nat.le_of_ble_eq_true rfl)) ?_
    rintro r1 h4 ⟨h4q, v2, r1q, x3⟩
    subst h4q r1q
    try dsimp only at x3
    show zx_T zp_P 5 zp_m46 10 [(0, .ref 22), (1, .int (zI (p))), (2, .int (zI (t)))] [.int (zI (v2)), .int (zI (t))] h2 _
    refine zr_i2 (x := t) (y := v2) (t := 67) (pc := 10) rfl rfl (by omega) (by omega) (by omega) (by omega) (fun (c5 : v2 ≤ t) => ?_) (fun (c5 : ¬ (v2 ≤ t)) => ?_)
    · refine zx_T.s (i := .iconst 1) (k := 1) (st' := [.int (zI (1))]) (pc := 67) rfl rfl ?_
      exact zr_ir (x := 1) (pc := 68) rfl rfl (zr_nb (by omega) (by omega)) ⟨hI2, (hw.wd rfl : zb_W [(25, 1), (26, 0)] h _), _, rfl, by dsimp only; exact ⟨Or.inl ⟨rfl, fun i i0 i1 => hh i i0 (by omega)⟩, by omega, by omega⟩⟩
    · refine zx_T.l (i := .aload_n 0) (k := 1) (v := .ref 22) (pc := 13) rfl rfl rfl ?_
      refine zw_gr (k := 0) (b := 1) (pc := 14) rfl rfl rfl hI2 ?_
      refine zx_T.l (i := .iload_n 2) (k := 1) (v := .int (zI (t))) (pc := 17) rfl rfl rfl ?_
      refine zx_T.l (i := .iload_n 1) (k := 1) (v := .int (zI (p))) (pc := 18) rfl rfl rfl ?_
      have y6 : zv_f h2 1 8 = zv_f h 1 8 := (zv_wf hw rfl)
      refine zw_iv (b := 1) (cj := 15) (q' := zp_m15) (As := [.int (zI (t)), .int (zI (p))]) (rest := []) (pc := 19) rfl rfl rfl rfl rfl rfl rfl (Nat.le_of_ble_eq_true rfl) rfl (Nat.le_of_ble_eq_true rfl) hI2 ((zm_cHandles (h := h2) hI2 (t := t) (p := p) (by omega) (by omega) (by omega) (by omega)).up (Nat.le_of_ble_eq_true rfl)) ?_
      rintro r7 h10 ⟨h10q, v8, r7q, x9⟩
      subst h10q r7q
      try dsimp only at x9
      have hx := x9
      simp only [zv_wa hw (a := 5) rfl, zv_wa hw (a := 6) rfl] at hx
      show zx_T zp_P 5 zp_m46 22 [(0, .ref 22), (1, .int (zI (p))), (2, .int (zI (t)))] [.int (zI (v8))] h2 _
      refine zr_i1 (x := v8) (t := 61) (pc := 22) rfl rfl (by omega) (by omega) (fun (c11 : v8 = 0) => ?_) (fun (c11 : ¬ (v8 = 0)) => ?_)
      · refine zr_inc (x := t) (n := 1) (y := t + 1) (ls' := [(2, .int (zI (t + 1))), (0, .ref 22), (1, .int (zI (p)))]) (pc := 61) rfl rfl rfl (by omega) rfl ?_
        refine zx_T.j (i := .goto (-62)) (k := 3) (pc' := 2) (st' := []) (pc := 64) rfl rfl rfl rfl rfl ?_
        refine zx_T.lk (ls' := [(0, .ref 22), (1, .int (zI (p))), (2, .int (zI (t + 1)))]) rfl ⟨rfl, rfl, rfl, trivial⟩ ?_
        exact ih (h2 := h2) (t := t + 1) hI2 (by omega) (by omega) (hw.wd rfl : zb_W [(25, 1), (26, 0)] h _) (fun i i0 i1 => by rcases (show i = t ∨ i < t by omega) with z | z; (subst z; intro zz; have zz : zv_a h 5 i ≤ p ∧ p < zv_a h 6 i := zz; exfalso; omega); exact hh i i0 z) (by omega)
      · have hk9 : 0 ≤ zv_a h 8 t ∧ zv_a h 8 t ≤ 8 := hQ.2.1 t t1 (by show t < zv_f h 1 8; omega)
        refine zx_T.l (i := .aload_n 0) (k := 1) (v := .ref 22) (pc := 25) rfl rfl rfl ?_
        refine zx_T.l (i := .aload_n 0) (k := 1) (v := .ref 22) (pc := 26) rfl rfl rfl ?_
        refine zw_gr (k := 0) (b := 1) (pc := 27) rfl rfl rfl hI2 ?_
        refine zx_T.l (i := .iload_n 2) (k := 1) (v := .int (zI (t))) (pc := 30) rfl rfl rfl ?_
        have y12 : zv_f h2 1 8 = zv_f h 1 8 := (zv_wf hw rfl)
        refine zw_iv (b := 1) (cj := 16) (q' := zp_m16) (As := [.int (zI (t))]) (rest := [.ref 22]) (pc := 31) rfl rfl rfl rfl rfl rfl rfl (Nat.le_of_ble_eq_true rfl) rfl (Nat.le_of_ble_eq_true rfl) hI2 ((zm_cHandlerAt (h := h2) hI2 (t := t) (by omega) (by omega)).up (Nat.le_of_ble_eq_true rfl)) ?_
        rintro r13 h16 ⟨h16q, v14, r13q, x15⟩
        subst h16q r13q
        try dsimp only at x15
        have hA7 : v14 = zv_a h 7 t := x15.1.trans (zv_wa hw rfl t)
        show zx_T zp_P 5 zp_m46 34 [(0, .ref 22), (1, .int (zI (p))), (2, .int (zI (t)))] [.int (zI (v14)), .ref 22] h2 _
        refine zx_T.l (i := .aload_n 0) (k := 1) (v := .ref 22) (pc := 34) rfl rfl rfl ?_
        refine zw_gr (k := 4) (b := 25) (pc := 35) rfl rfl rfl hI2 ?_
        refine zw_iv (b := 22) (cj := 45) (q' := zp_m45) (As := [.int (zI (v14)), .ref 25]) (rest := []) (pc := 38) rfl rfl rfl rfl rfl rfl rfl (Nat.le_of_ble_eq_true rfl) rfl (Nat.le_of_ble_eq_true rfl) hI2 ((zm_readFrame_25 (h := h2) hI2 (p := v14) (by omega) (by omega) F hF2 oF).up (Nat.le_of_ble_eq_true rfl)) ?_
        rintro r17 h20 ⟨ih20, w21, v18, r17q, x19⟩
        subst r17q
        try dsimp only at x19
        have rF := x19.1
        show zx_T zp_P 5 zp_m46 41 [(0, .ref 22), (1, .int (zI (p))), (2, .int (zI (t)))] [.int (zI (v18))] h20 _
        refine zr_i1 (x := v18) (t := 59) (pc := 41) rfl rfl (by omega) (by omega) (fun (c22 : v18 = 0) => ?_) (fun (c22 : ¬ (v18 = 0)) => ?_)
        · refine zx_T.s (i := .iconst 0) (k := 1) (st' := [.int (zI (0))]) (pc := 59) rfl rfl ?_
          exact zr_ir (x := 0) (pc := 60) rfl rfl (zr_nb (by omega) (by omega)) ⟨ih20, ((hw.wd rfl : zb_W [(25, 1), (26, 0)] h _).tr (w21.wd rfl)), _, rfl, by dsimp only; exact ⟨Or.inr ⟨rfl, fun z => by have z1 := z t t1 (by omega) (show zv_a h 5 t ≤ p ∧ p < zv_a h 6 t by omega); rw [show (zc_Pg h).ha t = zv_a h 7 t from rfl, ← hA7] at z1; rcases rF with y | y; (exact z1.1 y.1); (have fs := (oF.2.2 _ y.2.2.2.1 y.2.2.2.2).2.2.1; first | (exact absurd y.2.1 (by omega)) | (exact (tK.resolve_left (fun z => absurd z.1 (by omega))).2 ⟨(zs_lg_st xr.1 fs.1 xN2 y.2.2.1).2 z1.2.1, y.2.2.1.1.trans z1.2.2.1, by rw [hK8, y.2.2.1.2 8 (by decide) (by omega)]; exact z1.2.2.2⟩))⟩, by omega, by omega⟩⟩
        · have xN2 : ∀ j, 0 ≤ j → j < 8 + x.2.1 → zv_a h20 24 j = x.2.2 j := fun j j0 j1 => (zv_wa ((hw.wd rfl : zb_W [(25, 1), (26, 0)] h _).tr (w21.wd rfl)) rfl j).trans (xN j j0 j1)
          have xS2 : zv_f h20 23 1 = x.2.1 := (zv_wf ((hw.wd rfl : zb_W [(25, 1), (26, 0)] h _).tr (w21.wd rfl)) rfl).trans xS
          have zk2 : zk_in (zv_f h20 23 1) (zv_a h20 24) := fun j j0 j1 => by rw [xN2 j j0 (by omega)]; exact xk j j0 (by omega)
          refine zx_T.l (i := .aload_n 0) (k := 1) (v := .ref 22) (pc := 44) rfl rfl rfl ?_
          refine zx_T.l (i := .aload_n 0) (k := 1) (v := .ref 22) (pc := 45) rfl rfl rfl ?_
          refine zw_gr (k := 0) (b := 1) (pc := 46) rfl rfl rfl ih20 ?_
          refine zx_T.l (i := .iload_n 2) (k := 1) (v := .int (zI (t))) (pc := 49) rfl rfl rfl ?_
          have y23 : zv_f h20 1 8 = zv_f h 1 8 := ((zv_wf w21 rfl).trans (zv_wf hw rfl))
          refine zw_iv (b := 1) (cj := 17) (q' := zp_m17) (As := [.int (zI (t))]) (rest := [.ref 22]) (pc := 50) rfl rfl rfl rfl rfl rfl rfl (Nat.le_of_ble_eq_true rfl) rfl (Nat.le_of_ble_eq_true rfl) ih20 ((zm_cHandlerKind (h := h20) ih20 (t := t) (by omega) (by omega)).up (Nat.le_of_ble_eq_true rfl)) ?_
          rintro r24 h27 ⟨h27q, v25, r24q, x26⟩
          subst h27q r24q
          try dsimp only at x26
          have hK8 : v25 = zv_a h 8 t := x26.1.trans (zv_wa ((hw.wd rfl : zb_W [(25, 1), (26, 0)] h _).tr (w21.wd rfl)) rfl t)
          show zx_T zp_P 5 zp_m46 53 [(0, .ref 22), (1, .int (zI (p))), (2, .int (zI (t)))] [.int (zI (v25)), .ref 22] h20 _
          refine zw_iv (b := 22) (cj := 47) (q' := zp_m47) (As := [.int (zI (v25))]) (rest := []) (pc := 53) rfl rfl rfl rfl rfl rfl rfl (Nat.le_of_ble_eq_true rfl) rfl (Nat.le_of_ble_eq_true rfl) ih20 ((zm_isTaken (h := h20) ih20 (k := v25) (by omega) (by omega) zk2).up (Nat.le_of_ble_eq_true rfl)) ?_
          rintro r28 h31 ⟨h31q, v29, r28q, x30⟩
          subst h31q r28q
          try dsimp only at x30
          have tK := x30.1
          show zx_T zp_P 5 zp_m46 56 [(0, .ref 22), (1, .int (zI (p))), (2, .int (zI (t)))] [.int (zI (v29))] h20 _
          refine zr_i1 (x := v29) (t := 61) (pc := 56) rfl rfl (by omega) (by omega) (fun (c32 : ¬ v29 = 0) => ?_) (fun (c32 : ¬ (¬ v29 = 0)) => ?_)
          · refine zr_inc (x := t) (n := 1) (y := t + 1) (ls' := [(2, .int (zI (t + 1))), (0, .ref 22), (1, .int (zI (p)))]) (pc := 61) rfl rfl rfl (by omega) rfl ?_
            refine zx_T.j (i := .goto (-62)) (k := 3) (pc' := 2) (st' := []) (pc := 64) rfl rfl rfl rfl rfl ?_
            refine zx_T.lk (ls' := [(0, .ref 22), (1, .int (zI (p))), (2, .int (zI (t + 1)))]) rfl ⟨rfl, rfl, rfl, trivial⟩ ?_
            exact ih (h2 := h20) (t := t + 1) ih20 (by omega) (by omega) ((hw.wd rfl : zb_W [(25, 1), (26, 0)] h _).tr (w21.wd rfl)) (fun i i0 i1 => by rcases (show i = t ∨ i < t by omega) with z | z; (subst z; intro zz; rw [show (zc_Pg h).ha i = zv_a h 7 i from rfl, ← hA7]; have y := (rF.resolve_left (fun z => absurd z.2.1 (by omega))); have t9 := (tK.resolve_right (fun z => absurd z.1 (by omega))).2; have fs := (oF.2.2 _ y.2.2.2.1 y.2.2.2.2).2.2.1; have s9 := y.2.2.1.1.symm.trans t9.2.1; exact ⟨y.1, (zs_lg_st xr.1 fs.1 xN2 y.2.2.1).1 t9.1, y.2.2.1.1.symm.trans t9.2.1, by have t8 := t9.2.2; rw [hK8, y.2.2.1.2 8 (by decide) (by omega)] at t8; exact t8⟩); exact hh i i0 z) (by omega)
          · refine zx_T.s (i := .iconst 0) (k := 1) (st' := [.int (zI (0))]) (pc := 59) rfl rfl ?_
            exact zr_ir (x := 0) (pc := 60) rfl rfl (zr_nb (by omega) (by omega)) ⟨ih20, ((hw.wd rfl : zb_W [(25, 1), (26, 0)] h _).tr (w21.wd rfl)), _, rfl, by dsimp only; exact ⟨Or.inr ⟨rfl, fun z => by have z1 := z t t1 (by omega) (show zv_a h 5 t ≤ p ∧ p < zv_a h 6 t by omega); rw [show (zc_Pg h).ha t = zv_a h 7 t from rfl, ← hA7] at z1; rcases rF with y | y; (exact z1.1 y.1); (have fs := (oF.2.2 _ y.2.2.2.1 y.2.2.2.2).2.2.1; first | (exact absurd y.2.1 (by omega)) | (exact (tK.resolve_left (fun z => absurd z.1 (by omega))).2 ⟨(zs_lg_st xr.1 fs.1 xN2 y.2.2.1).2 z1.2.1, y.2.2.1.1.trans z1.2.2.1, by rw [hK8, y.2.2.1.2 8 (by decide) (by omega)]; exact z1.2.2.2⟩))⟩, by omega, by omega⟩⟩
set_option maxRecDepth 100000 in
set_option maxHeartbeats 4000000 in
theorem zm_handlersHold {h : zx_H} (hI : zb_I zc_H h) {p : Int} (p1 : 0 ≤ p) (p2 : p < zv_f h 1 3) (F : zF) (hF : zc_Fr h F) (oF : F.ok) (x : zT) (x0 : x.1 = 0) (xo : zw_ok x) (xk : zk_in x.2.1 x.2.2) (xS : zv_f h 23 1 = x.2.1) (xN : ∀ j, 0 ≤ j → j < 8 + x.2.1 → zv_a h 24 j = x.2.2 j) (hQ : zP.nn (zc_Pg h)) : zx_T zp_P 5 zp_m46 0 [(0, .ref 22), (1, .int (zI (p)))] [] h (zr_R [(25, 1), (26, 0)] h (fun e h' => ((e = 1 ∧ (∀ i, 0 ≤ i → i < zv_f h 1 8 → zs_hh (zc_Pg h) F p x i)) ∨ (e = 0 ∧ ¬ (∀ i, 0 ≤ i → i < zv_f h 1 8 → zs_hh (zc_Pg h) F p x i))) ∧ 0 ≤ e ∧ e ≤ 1)) := by
  have hC := zw_ri hI (a := 1) (k := 3) rfl
  have hH := zw_ri hI (a := 1) (k := 8) rfl
  have xr := xo.2
  refine zx_T.s (i := .iconst 0) (k := 1) (st' := [.int (zI (0))]) (pc := 0) rfl rfl ?_
  refine zx_T.t (i := .istore_n 2) (k := 1) (ls' := [(2, .int (zI (0))), (0, .ref 22), (1, .int (zI (p)))]) (st' := []) (pc := 1) rfl rfl rfl rfl ?_
  refine zx_T.lk (ls' := [(0, .ref 22), (1, .int (zI (p))), (2, .int (zI (0)))]) rfl ⟨rfl, rfl, rfl, trivial⟩ ?_
  exact zm_handlersHold_L (h := h) hI (p := p) p1 p2 F hF oF x x0 xo xk xS xN hQ ((10 - 0 : Int).toNat + 1) (h2 := h) (t := 0) hI (by omega) (by omega) zb_W.rf (fun i i0 i1 => absurd i1 (by omega)) (Nat.lt_succ_self _)

set_option maxRecDepth 100000 in
set_option maxHeartbeats 4000000 in
theorem zm_leaves_L {h : zx_H} (hI : zb_I zc_H h) {p : Int} (p1 : 0 ≤ p) (p2 : p < zv_f h 1 3) (F : zF) (hF : zc_Fr h F) (oF : F.ok) (x : zT) (x0 : x.1 = 0) (xo : zw_ok x) (xk : zk_in x.2.1 x.2.2) (xS : zv_f h 23 1 = x.2.1) (xN : ∀ j, 0 ≤ j → j < 8 + x.2.1 → zv_a h 24 j = x.2.2 j) (hP : zP.ok (zc_Pg h)) (hQ : zP.nn (zc_Pg h)) (n : Nat) : (∀ {h2 : zx_H} {k : Int} (hI2 : zb_I zc_H h2) (k1 : 0 ≤ k) (k2 : k ≤ 2) (hw : zb_W [(23, 1), (24, 0), (25, 1), (26, 0)] h h2) (y0 : (zs_ap (zv_a h 2 p) (zv_a h 3 p) x).1 = 0) (yo : zw_ok (zs_ap (zv_a h 2 p) (zv_a h 3 p) x)) (yk : zk_in (zs_ap (zv_a h 2 p) (zv_a h 3 p) x).2.1 (zs_ap (zv_a h 2 p) (zv_a h 3 p) x).2.2) (yS : zv_f h2 23 1 = (zs_ap (zv_a h 2 p) (zv_a h 3 p) x).2.1) (yN : ∀ j, 0 ≤ j → j < 8 + (zs_ap (zv_a h 2 p) (zv_a h 3 p) x).2.1 → zv_a h2 24 j = (zs_ap (zv_a h 2 p) (zv_a h 3 p) x).2.2 j) (wy : ∀ i, 0 ≤ i → i < k → zs_hw (zc_Pg h) F p (zs_ap (zv_a h 2 p) (zv_a h 3 p) x) i), (10 - k : Int).toNat < n → zx_T zp_P 5 zp_m48 30 [(0, .ref 22), (1, .int (zI (p))), (2, .int (zI (k)))] [] h2 (zr_R [(23, 1), (24, 0), (25, 1), (26, 0)] h (fun e h' => ((e = 1 ∧ ((zs_ap (zv_a h 2 p) (zv_a h 3 p) x).1 = 0 ∧ ∀ k, 0 ≤ k → k < zs_js (zc_Pg h) p → zs_hw (zc_Pg h) F p (zs_ap (zv_a h 2 p) (zv_a h 3 p) x) k) ∧ zv_f h' 23 1 = (zs_ap (zv_a h 2 p) (zv_a h 3 p) x).2.1 ∧ ∀ j, 0 ≤ j → j < 8 + (zs_ap (zv_a h 2 p) (zv_a h 3 p) x).2.1 → zv_a h' 24 j = (zs_ap (zv_a h 2 p) (zv_a h 3 p) x).2.2 j) ∨ (e = 0 ∧ ¬ ((zs_ap (zv_a h 2 p) (zv_a h 3 p) x).1 = 0 ∧ ∀ k, 0 ≤ k → k < zs_js (zc_Pg h) p → zs_hw (zc_Pg h) F p (zs_ap (zv_a h 2 p) (zv_a h 3 p) x) k))) ∧ 0 ≤ e ∧ e ≤ 1))) := by
  induction n with
  | zero => exact fun _ _ _ _ _ _ _ _ _ _ hm => absurd hm (Nat.not_lt_zero _)
  | succ n ih =>
    intro h2 k hI2 k1 k2 hw y0 yo yk yS yN wy hm
    have hC := zw_ri hI (a := 1) (k := 3) rfl
    have hH := zw_ri hI (a := 1) (k := 8) rfl
    have xr := xo.2
    have o9 : (0 ≤ zv_a h 2 p ∧ zv_a h 2 p ≤ 28) ∧ (zv_a h 2 p = 21 → 5 ≤ zv_a h 3 p) := hP.1 p p1 p2
    have q9 : zv_a h 2 p = 21 → 5 ≤ zv_a h 3 p ∧ zv_a h 3 p ≤ 8 := hQ.1 p p1 p2
    have wk9 := zw_ok_ag xo xS (fun j j0 j1 => xN j j0 (by omega))
    have kk9 : zk_in (zv_f h 23 1) (zv_a h 24) := fun j j0 j1 => by rw [xN j j0 (by omega)]; exact xk j j0 (by omega)
    have d8 : zv_f h2 1 3 = zv_f h 1 3 := zv_wf hw rfl
    have hF2 := zc_Fr_w hw rfl hF
    have yr := yo.2
    refine zx_T.l (i := .iload_n 2) (k := 1) (v := .int (zI (k))) (pc := 30) rfl rfl rfl ?_
    refine zx_T.l (i := .aload_n 0) (k := 1) (v := .ref 22) (pc := 31) rfl rfl rfl ?_
    refine zw_gr (k := 0) (b := 1) (pc := 32) rfl rfl rfl hI2 ?_
    refine zx_T.l (i := .iload_n 1) (k := 1) (v := .int (zI (p))) (pc := 35) rfl rfl rfl ?_
    have y1 : zv_f h2 1 3 = zv_f h 1 3 := (zv_wf hw rfl)
    refine zw_iv (b := 1) (cj := 12) (q' := zp_m12) (As := [.int (zI (p))]) (rest := [.int (zI (k))]) (pc := 36) rfl rfl rfl rfl rfl rfl rfl (Nat.le_of_ble_eq_true rfl) rfl (Nat.le_of_ble_eq_true rfl) hI2 ((zm_cWays (h := h2) hI2 (p := p) (by omega) (by omega)).up (Nat.le_of_ble_eq_true rfl)) ?_
    rintro r2 h5 ⟨h5q, v3, r2q, x4⟩
    subst h5q r2q
    try dsimp only at x4
    have wE := x4
    simp only [zv_wa hw (a := 2) rfl] at wE
    have js : v3 = zs_js (zc_Pg h) p := (by show v3 = if zv_a h 2 p = 27 then 2 else if 24 ≤ zv_a h 2 p ∧ zv_a h 2 p ≤ 26 then 1 else 0; split <;> first | omega | (split <;> omega))
    show zx_T zp_P 5 zp_m48 39 [(0, .ref 22), (1, .int (zI (p))), (2, .int (zI (k)))] [.int (zI (v3)), .int (zI (k))] h2 _
    refine zr_i2 (x := k) (y := v3) (t := 84) (pc := 39) rfl rfl (by omega) (by omega) (by omega) (by omega) (fun (c6 : v3 ≤ k) => ?_) (fun (c6 : ¬ (v3 ≤ k)) => ?_)
    · refine zx_T.s (i := .iconst 1) (k := 1) (st' := [.int (zI (1))]) (pc := 84) rfl rfl ?_
      exact zr_ir (x := 1) (pc := 85) rfl rfl (zr_nb (by omega) (by omega)) ⟨hI2, (hw.wd rfl : zb_W [(23, 1), (24, 0), (25, 1), (26, 0)] h _), _, rfl, by dsimp only; exact ⟨Or.inl ⟨rfl, ⟨y0, fun k k0 k9 => wy k k0 (by omega)⟩, yS, yN⟩, by omega, by omega⟩⟩
    · refine zx_T.l (i := .aload_n 0) (k := 1) (v := .ref 22) (pc := 42) rfl rfl rfl ?_
      refine zx_T.l (i := .aload_n 0) (k := 1) (v := .ref 22) (pc := 43) rfl rfl rfl ?_
      refine zw_gr (k := 0) (b := 1) (pc := 44) rfl rfl rfl hI2 ?_
      refine zx_T.l (i := .iload_n 1) (k := 1) (v := .int (zI (p))) (pc := 47) rfl rfl rfl ?_
      refine zx_T.l (i := .iload_n 2) (k := 1) (v := .int (zI (k))) (pc := 48) rfl rfl rfl ?_
      have y7 : zv_f h2 1 3 = zv_f h 1 3 := (zv_wf hw rfl)
      refine zw_iv (b := 1) (cj := 13) (q' := zp_m13) (As := [.int (zI (p)), .int (zI (k))]) (rest := [.ref 22]) (pc := 49) rfl rfl rfl rfl rfl rfl rfl (Nat.le_of_ble_eq_true rfl) rfl (Nat.le_of_ble_eq_true rfl) hI2 ((zm_cWay (h := h2) hI2 (p := p) (k := k) (by omega) (by omega) (by omega) (by omega)).up (Nat.le_of_ble_eq_true rfl)) ?_
      rintro r8 h11 ⟨h11q, v9, r8q, x10⟩
      subst h11q r8q
      try dsimp only at x10
      have wy0 := x10
      simp only [zv_wa hw (a := 3) rfl, zv_wa hw (a := 4) rfl] at wy0
      have wyE : zs_wy (zc_Pg h) p k = v9 := (by show (if k = 0 then zv_a h 3 p else zv_a h 4 p) = v9; split <;> omega)
      show zx_T zp_P 5 zp_m48 52 [(0, .ref 22), (1, .int (zI (p))), (2, .int (zI (k)))] [.int (zI (v9)), .ref 22] h2 _
      refine zx_T.l (i := .aload_n 0) (k := 1) (v := .ref 22) (pc := 52) rfl rfl rfl ?_
      refine zw_gr (k := 4) (b := 25) (pc := 53) rfl rfl rfl hI2 ?_
      refine zw_iv (b := 22) (cj := 45) (q' := zp_m45) (As := [.int (zI (v9)), .ref 25]) (rest := []) (pc := 56) rfl rfl rfl rfl rfl rfl rfl (Nat.le_of_ble_eq_true rfl) rfl (Nat.le_of_ble_eq_true rfl) hI2 ((zm_readFrame_25 (h := h2) hI2 (p := v9) (by omega) (by omega) F hF2 oF).up (Nat.le_of_ble_eq_true rfl)) ?_
      rintro r12 h15 ⟨ih15, w16, v13, r12q, x14⟩
      subst r12q
      try dsimp only at x14
      have rF := x14.1
      show zx_T zp_P 5 zp_m48 59 [(0, .ref 22), (1, .int (zI (p))), (2, .int (zI (k)))] [.int (zI (v13))] h15 _
      refine zr_i1 (x := v13) (t := 76) (pc := 59) rfl rfl (by omega) (by omega) (fun (c17 : v13 = 0) => ?_) (fun (c17 : ¬ (v13 = 0)) => ?_)
      · refine zx_T.s (i := .iconst 0) (k := 1) (st' := [.int (zI (0))]) (pc := 76) rfl rfl ?_
        exact zr_ir (x := 0) (pc := 77) rfl rfl (zr_nb (by omega) (by omega)) ⟨ih15, ((hw.wd rfl : zb_W [(23, 1), (24, 0), (25, 1), (26, 0)] h _).tr (w16.wd rfl)), _, rfl, by dsimp only; exact ⟨Or.inr ⟨rfl, fun z => by have z1 := z.2 k k1 (by omega); unfold zs_hw at z1; rw [wyE] at z1; rcases rF with y | y; (exact z1.1 y.1); (have fs := (oF.2.2 _ y.2.2.2.1 y.2.2.2.2).2.2.1; first | (exact absurd y.2.1 (by omega)) | (exact (gG.resolve_left (fun z => absurd z.1 (by omega))).2 ((zs_gg_st yr.1 fs.1 yS3 yN3 y.2.2.1).2 z1.2)))⟩, by omega, by omega⟩⟩
      · have yS3 : zv_f h15 23 1 = (zs_ap (zv_a h 2 p) (zv_a h 3 p) x).2.1 := (zv_wf w16 rfl).trans yS
        have yN3 : ∀ j, 0 ≤ j → j < 8 + (zs_ap (zv_a h 2 p) (zv_a h 3 p) x).2.1 → zv_a h15 24 j = (zs_ap (zv_a h 2 p) (zv_a h 3 p) x).2.2 j := fun j j0 j1 => (zv_wa w16 rfl j).trans (yN j j0 j1)
        have zk3 : zk_in (zv_f h15 23 1) (zv_a h15 24) := fun j j0 j1 => by rw [yN3 j j0 (by omega)]; exact yk j j0 (by omega)
        refine zx_T.l (i := .aload_n 0) (k := 1) (v := .ref 22) (pc := 62) rfl rfl rfl ?_
        refine zw_gr (k := 3) (b := 23) (pc := 63) rfl rfl rfl ih15 ?_
        refine zx_T.l (i := .aload_n 0) (k := 1) (v := .ref 22) (pc := 66) rfl rfl rfl ?_
        refine zw_gr (k := 4) (b := 25) (pc := 67) rfl rfl rfl ih15 ?_
        refine zw_iv (b := 23) (cj := 128) (q' := zp_m128) (As := [.ref 25]) (rest := []) (pc := 70) rfl rfl rfl rfl rfl rfl rfl (Nat.le_of_ble_eq_true rfl) rfl (Nat.le_of_ble_eq_true rfl) ih15 ((zm_allGoesAsF (h := h15) ih15  zk3).up (Nat.le_of_ble_eq_true rfl)) ?_
        rintro r18 h21 ⟨h21q, v19, r18q, x20⟩
        subst h21q r18q
        try dsimp only at x20
        have gG := x20.1
        show zx_T zp_P 5 zp_m48 73 [(0, .ref 22), (1, .int (zI (p))), (2, .int (zI (k)))] [.int (zI (v19))] h15 _
        refine zr_i1 (x := v19) (t := 78) (pc := 73) rfl rfl (by omega) (by omega) (fun (c22 : ¬ v19 = 0) => ?_) (fun (c22 : ¬ (¬ v19 = 0)) => ?_)
        · refine zr_inc (x := k) (n := 1) (y := k + 1) (ls' := [(2, .int (zI (k + 1))), (0, .ref 22), (1, .int (zI (p)))]) (pc := 78) rfl rfl rfl (by omega) rfl ?_
          refine zx_T.j (i := .goto (-51)) (k := 3) (pc' := 30) (st' := []) (pc := 81) rfl rfl rfl rfl rfl ?_
          refine zx_T.lk (ls' := [(0, .ref 22), (1, .int (zI (p))), (2, .int (zI (k + 1)))]) rfl ⟨rfl, rfl, rfl, trivial⟩ ?_
          exact ih (h2 := h15) (k := k + 1) ih15 (by omega) (by omega) ((hw.wd rfl : zb_W [(23, 1), (24, 0), (25, 1), (26, 0)] h _).tr (w16.wd rfl)) y0 yo yk yS3 yN3 (fun i i0 i1 => by rcases (show i = k ∨ i < k by omega) with z | z; (subst z; unfold zs_hw; rw [wyE]; have y := (rF.resolve_left (fun z => absurd z.2.1 (by omega))); have fs := (oF.2.2 _ y.2.2.2.1 y.2.2.2.2).2.2.1; exact ⟨y.1, (zs_gg_st yr.1 fs.1 yS3 yN3 y.2.2.1).1 (gG.resolve_right (fun z => absurd z.1 (by omega))).2⟩); exact wy i i0 z) (by omega)
        · refine zx_T.s (i := .iconst 0) (k := 1) (st' := [.int (zI (0))]) (pc := 76) rfl rfl ?_
          exact zr_ir (x := 0) (pc := 77) rfl rfl (zr_nb (by omega) (by omega)) ⟨ih15, ((hw.wd rfl : zb_W [(23, 1), (24, 0), (25, 1), (26, 0)] h _).tr (w16.wd rfl)), _, rfl, by dsimp only; exact ⟨Or.inr ⟨rfl, fun z => by have z1 := z.2 k k1 (by omega); unfold zs_hw at z1; rw [wyE] at z1; rcases rF with y | y; (exact z1.1 y.1); (have fs := (oF.2.2 _ y.2.2.2.1 y.2.2.2.2).2.2.1; first | (exact absurd y.2.1 (by omega)) | (exact (gG.resolve_left (fun z => absurd z.1 (by omega))).2 ((zs_gg_st yr.1 fs.1 yS3 yN3 y.2.2.1).2 z1.2)))⟩, by omega, by omega⟩⟩
set_option maxRecDepth 100000 in
set_option maxHeartbeats 4000000 in
theorem zm_leaves {h : zx_H} (hI : zb_I zc_H h) {p : Int} (p1 : 0 ≤ p) (p2 : p < zv_f h 1 3) (F : zF) (hF : zc_Fr h F) (oF : F.ok) (x : zT) (x0 : x.1 = 0) (xo : zw_ok x) (xk : zk_in x.2.1 x.2.2) (xS : zv_f h 23 1 = x.2.1) (xN : ∀ j, 0 ≤ j → j < 8 + x.2.1 → zv_a h 24 j = x.2.2 j) (hP : zP.ok (zc_Pg h)) (hQ : zP.nn (zc_Pg h)) : zx_T zp_P 5 zp_m48 0 [(0, .ref 22), (1, .int (zI (p)))] [] h (zr_R [(23, 1), (24, 0), (25, 1), (26, 0)] h (fun e h' => ((e = 1 ∧ ((zs_ap (zv_a h 2 p) (zv_a h 3 p) x).1 = 0 ∧ ∀ k, 0 ≤ k → k < zs_js (zc_Pg h) p → zs_hw (zc_Pg h) F p (zs_ap (zv_a h 2 p) (zv_a h 3 p) x) k) ∧ zv_f h' 23 1 = (zs_ap (zv_a h 2 p) (zv_a h 3 p) x).2.1 ∧ ∀ j, 0 ≤ j → j < 8 + (zs_ap (zv_a h 2 p) (zv_a h 3 p) x).2.1 → zv_a h' 24 j = (zs_ap (zv_a h 2 p) (zv_a h 3 p) x).2.2 j) ∨ (e = 0 ∧ ¬ ((zs_ap (zv_a h 2 p) (zv_a h 3 p) x).1 = 0 ∧ ∀ k, 0 ≤ k → k < zs_js (zc_Pg h) p → zs_hw (zc_Pg h) F p (zs_ap (zv_a h 2 p) (zv_a h 3 p) x) k))) ∧ 0 ≤ e ∧ e ≤ 1)) := by
  have hC := zw_ri hI (a := 1) (k := 3) rfl
  have hH := zw_ri hI (a := 1) (k := 8) rfl
  have xr := xo.2
  have o9 : (0 ≤ zv_a h 2 p ∧ zv_a h 2 p ≤ 28) ∧ (zv_a h 2 p = 21 → 5 ≤ zv_a h 3 p) := hP.1 p p1 p2
  have q9 : zv_a h 2 p = 21 → 5 ≤ zv_a h 3 p ∧ zv_a h 3 p ≤ 8 := hQ.1 p p1 p2
  have wk9 := zw_ok_ag xo xS (fun j j0 j1 => xN j j0 (by omega))
  have kk9 : zk_in (zv_f h 23 1) (zv_a h 24) := fun j j0 j1 => by rw [xN j j0 (by omega)]; exact xk j j0 (by omega)
  refine zx_T.l (i := .aload_n 0) (k := 1) (v := .ref 22) (pc := 0) rfl rfl rfl ?_
  refine zw_gr (k := 3) (b := 23) (pc := 1) rfl rfl rfl hI ?_
  refine zx_T.l (i := .aload_n 0) (k := 1) (v := .ref 22) (pc := 4) rfl rfl rfl ?_
  refine zw_gr (k := 0) (b := 1) (pc := 5) rfl rfl rfl hI ?_
  refine zx_T.l (i := .iload_n 1) (k := 1) (v := .int (zI (p))) (pc := 8) rfl rfl rfl ?_
  refine zw_iv (b := 1) (cj := 8) (q' := zp_m8) (As := [.int (zI (p))]) (rest := [.ref 23]) (pc := 9) rfl rfl rfl rfl rfl rfl rfl (Nat.le_of_ble_eq_true rfl) rfl (Nat.le_of_ble_eq_true rfl) hI ((zm_cOpAt (h := h) hI (p := p) (by omega) (by omega)).up (Nat.le_of_ble_eq_true rfl)) ?_
  rintro r24 h27 ⟨h27q, v25, r24q, x26⟩
  subst h27q r24q
  try dsimp only at x26
  have oA := x26.1
  show zx_T zp_P 5 zp_m48 12 [(0, .ref 22), (1, .int (zI (p)))] [.int (zI (v25)), .ref 23] h _
  refine zx_T.l (i := .aload_n 0) (k := 1) (v := .ref 22) (pc := 12) rfl rfl rfl ?_
  refine zw_gr (k := 0) (b := 1) (pc := 13) rfl rfl rfl hI ?_
  refine zx_T.l (i := .iload_n 1) (k := 1) (v := .int (zI (p))) (pc := 16) rfl rfl rfl ?_
  refine zw_iv (b := 1) (cj := 9) (q' := zp_m9) (As := [.int (zI (p))]) (rest := [.int (zI (v25)), .ref 23]) (pc := 17) rfl rfl rfl rfl rfl rfl rfl (Nat.le_of_ble_eq_true rfl) rfl (Nat.le_of_ble_eq_true rfl) hI ((zm_cFirstAt (h := h) hI (p := p) (by omega) (by omega)).up (Nat.le_of_ble_eq_true rfl)) ?_
  rintro r29 h32 ⟨h32q, v30, r29q, x31⟩
  subst h32q r29q
  try dsimp only at x31
  have fA := x31.1
  show zx_T zp_P 5 zp_m48 20 [(0, .ref 22), (1, .int (zI (p)))] [.int (zI (v30)), .int (zI (v25)), .ref 23] h _
  refine zr_is (cj := 20) (q' := zp_m20) (As := [.ref 23, .int (zI (v25)), .int (zI (v30))]) (rest := []) (pc := 20) rfl rfl rfl rfl rfl rfl (Nat.le_of_ble_eq_true rfl) rfl (Nat.le_of_ble_eq_true rfl) rfl ((zm_applyE_23 (h := h) hI (op := v25) (a := v30) (by omega) (by omega) (by omega) (by omega) (by omega) kk9 (zw_top wk9)).up (Nat.le_of_ble_eq_true rfl)) ?_
  rintro r33 h36 ⟨ih36, w37, v34, r33q, x35⟩
  subst r33q
  try dsimp only at x35
  have aP := x35
  rw [oA, fA] at aP
  have dX := zc_dx (P := zc_Pg h) (p := p) (x := x) (e := v34) o9.1 o9.2 x0 xo xS xN aP.1
  show zx_T zp_P 5 zp_m48 23 [(0, .ref 22), (1, .int (zI (p)))] [.int (zI (v34))] h36 _
  refine zr_i1 (x := v34) (t := 28) (pc := 23) rfl rfl (by omega) (by omega) (fun (c38 : v34 = 0) => ?_) (fun (c38 : ¬ (v34 = 0)) => ?_)
  · refine zx_T.s (i := .iconst 0) (k := 1) (st' := [.int (zI (0))]) (pc := 28) rfl rfl ?_
    refine zx_T.t (i := .istore_n 2) (k := 1) (ls' := [(2, .int (zI (0))), (0, .ref 22), (1, .int (zI (p)))]) (st' := []) (pc := 29) rfl rfl rfl rfl ?_
    refine zx_T.lk (ls' := [(0, .ref 22), (1, .int (zI (p))), (2, .int (zI (0)))]) rfl ⟨rfl, rfl, rfl, trivial⟩ ?_
    exact zm_leaves_L (h := h) hI (p := p) p1 p2 F hF oF x x0 xo xk xS xN hP hQ ((10 - 0 : Int).toNat + 1) (h2 := h36) (k := 0) ih36 (by omega) (by omega) (w37.wd rfl : zb_W [(23, 1), (24, 0), (25, 1), (26, 0)] h _) (dX.1.symm.trans (by omega)) (zw_ap xo o9.1 o9.2) (zk_ap o9.1 xr.1 xk (fun z => by have := q9 z; omega)) (dX.2 (by omega)).1 (dX.2 (by omega)).2 (fun i i0 i1 => absurd i1 (by omega)) (Nat.lt_succ_self _)
  · refine zx_T.s (i := .iconst 0) (k := 1) (st' := [.int (zI (0))]) (pc := 26) rfl rfl ?_
    exact zr_ir (x := 0) (pc := 27) rfl rfl (zr_nb (by omega) (by omega)) ⟨ih36, (w37.wd rfl : zb_W [(23, 1), (24, 0), (25, 1), (26, 0)] h _), _, rfl, by dsimp only; exact ⟨Or.inr ⟨rfl, fun z => absurd (dX.1.trans z.1) (by omega)⟩, by omega, by omega⟩⟩
