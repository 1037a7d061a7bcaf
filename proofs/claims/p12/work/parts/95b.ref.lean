/-! ===== 95b: the reference, method by method (by program) ===== -/
set_option maxRecDepth 100000 in
set_option maxHeartbeats 4000000 in
theorem zm_workOp {h : zx_H} (hI : zb_I zc_H h) {p : Int} (p1 : 0 ≤ p) (p2 : p < zv_f h 1 3) (s : zS) (hA : zc_A h s) (hO : zs_ok (zc_Pg h) s) (hN : zs_nn s) (hR : s.R p) (hP : zP.ok (zc_Pg h)) (hQ : zP.nn (zc_Pg h)) : zx_T zp_P 4 zp_m88 0 [(0, .ref 16), (1, .int (zI (p)))] [] h (zr_R [(20, 1), (21, 0)] h (fun e h' => e = (zs_x (zc_Pg h) p s).1 ∧ (e = 0 → zv_f h' 20 1 = (zs_x (zc_Pg h) p s).2.1 ∧ ∀ j, 0 ≤ j → j < (zs_x (zc_Pg h) p s).2.1 + 8 → zv_a h' 21 j = (zs_x (zc_Pg h) p s).2.2 j) ∧ 0 ≤ e ∧ e ≤ 7)) := by
  have hC := zw_ri hI (a := 1) (k := 3) rfl
  have hH := zw_ri hI (a := 1) (k := 8) rfl
  refine zx_T.l (i := .aload_n 0) (k := 1) (v := .ref 16) (pc := 0) rfl rfl rfl ?_
  refine zw_gr (k := 2) (b := 17) (pc := 1) rfl rfl rfl hI ?_
  refine zx_T.l (i := .iload_n 1) (k := 1) (v := .int (zI (p))) (pc := 4) rfl rfl rfl ?_
  refine zx_T.l (i := .aload_n 0) (k := 1) (v := .ref 16) (pc := 5) rfl rfl rfl ?_
  refine zw_gr (k := 3) (b := 20) (pc := 6) rfl rfl rfl hI ?_
  refine zw_iv (b := 17) (cj := 135) (q' := zp_m135) (As := [.int (zI (p)), .ref 20]) (rest := []) (pc := 9) rfl rfl rfl rfl rfl rfl rfl (Nat.le_of_ble_eq_true rfl) rfl (Nat.le_of_ble_eq_true rfl) hI ((zm_tRead_17_20 (h := h) hI (r := p) (by omega) (by omega)).up (Nat.le_of_ble_eq_true rfl)) ?_
  rintro r1 h4 ⟨ih4, w5, r1q, x3⟩
  subst r1q
  try dsimp only at x3
  have tr1 := x3
  show zx_T zp_P 4 zp_m88 12 [(0, .ref 16), (1, .int (zI (p)))] [] h4 _
  have b9 := hA.2.1 p hR
  have w9 := (hO.1 p hR).2
  dsimp only at w9
  have S0 : zv_f h4 20 1 = s.S p := (tr1.1 (by omega) (by omega)).trans b9.1
  have N0 : ∀ j, 0 ≤ j → j < 8 + s.S p → zv_a h4 21 j = s.K p j := fun j j0 j1 => by rw [tr1.2 j j0 (by omega)]; exact b9.2 j j0 j1
  have wk9 := zw_ok_ag (hO.1 p hR) S0 (fun j j0 (j1 : j < s.S p + 8) => N0 j j0 (by omega))
  have kk9 : zk_in (zv_f h4 20 1) (zv_a h4 21) := fun j j0 j1 => by rw [N0 j j0 (by omega)]; exact hN p hR j j0 (by omega)
  have o9 : (0 ≤ zv_a h 2 p ∧ zv_a h 2 p ≤ 28) ∧ (zv_a h 2 p = 21 → 5 ≤ zv_a h 3 p) := hP.1 p p1 p2
  have q9 : zv_a h 2 p = 21 → 5 ≤ zv_a h 3 p ∧ zv_a h 3 p ≤ 8 := hQ.1 p p1 p2
  refine zx_T.l (i := .aload_n 0) (k := 1) (v := .ref 16) (pc := 12) rfl rfl rfl ?_
  refine zw_gr (k := 3) (b := 20) (pc := 13) rfl rfl rfl ih4 ?_
  refine zx_T.l (i := .aload_n 0) (k := 1) (v := .ref 16) (pc := 16) rfl rfl rfl ?_
  refine zw_gr (k := 0) (b := 1) (pc := 17) rfl rfl rfl ih4 ?_
  refine zx_T.l (i := .iload_n 1) (k := 1) (v := .int (zI (p))) (pc := 20) rfl rfl rfl ?_
  have y6 : zv_f h4 1 3 = zv_f h 1 3 := (zv_wf w5 rfl)
  refine zw_iv (b := 1) (cj := 8) (q' := zp_m8) (As := [.int (zI (p))]) (rest := [.ref 20]) (pc := 21) rfl rfl rfl rfl rfl rfl rfl (Nat.le_of_ble_eq_true rfl) rfl (Nat.le_of_ble_eq_true rfl) ih4 ((zm_cOpAt (h := h4) ih4 (p := p) (by omega) (by omega)).up (Nat.le_of_ble_eq_true rfl)) ?_
  rintro r7 h10 ⟨h10q, v8, r7q, x9⟩
  subst h10q r7q
  try dsimp only at x9
  have oA : v8 = zv_a h 2 p := x9.1.trans (zv_wa w5 rfl p)
  show zx_T zp_P 4 zp_m88 24 [(0, .ref 16), (1, .int (zI (p)))] [.int (zI (v8)), .ref 20] h4 _
  refine zx_T.l (i := .aload_n 0) (k := 1) (v := .ref 16) (pc := 24) rfl rfl rfl ?_
  refine zw_gr (k := 0) (b := 1) (pc := 25) rfl rfl rfl ih4 ?_
  refine zx_T.l (i := .iload_n 1) (k := 1) (v := .int (zI (p))) (pc := 28) rfl rfl rfl ?_
  have y11 : zv_f h4 1 3 = zv_f h 1 3 := (zv_wf w5 rfl)
  refine zw_iv (b := 1) (cj := 9) (q' := zp_m9) (As := [.int (zI (p))]) (rest := [.int (zI (v8)), .ref 20]) (pc := 29) rfl rfl rfl rfl rfl rfl rfl (Nat.le_of_ble_eq_true rfl) rfl (Nat.le_of_ble_eq_true rfl) ih4 ((zm_cFirstAt (h := h4) ih4 (p := p) (by omega) (by omega)).up (Nat.le_of_ble_eq_true rfl)) ?_
  rintro r12 h15 ⟨h15q, v13, r12q, x14⟩
  subst h15q r12q
  try dsimp only at x14
  have fA : v13 = zv_a h 3 p := x14.1.trans (zv_wa w5 rfl p)
  show zx_T zp_P 4 zp_m88 32 [(0, .ref 16), (1, .int (zI (p)))] [.int (zI (v13)), .int (zI (v8)), .ref 20] h4 _
  refine zr_is (cj := 20) (q' := zp_m20) (As := [.ref 20, .int (zI (v8)), .int (zI (v13))]) (rest := []) (pc := 32) rfl rfl rfl rfl rfl rfl (Nat.le_of_ble_eq_true rfl) rfl (Nat.le_of_ble_eq_true rfl) rfl ((zm_applyE_20 (h := h4) ih4 (op := v8) (a := v13) (by omega) (by omega) (by omega) (by omega) (by omega) kk9 (zw_top wk9)).up (Nat.le_of_ble_eq_true rfl)) ?_
  rintro r16 h19 ⟨ih19, w20, v17, r16q, x18⟩
  subst r16q
  try dsimp only at x18
  have aP := x18
  rw [oA, fA] at aP
  have wo := zc_wop (P := zc_Pg h) hP hO hR S0 N0 aP.1
  show zx_T zp_P 4 zp_m88 35 [(0, .ref 16), (1, .int (zI (p)))] [.int (zI (v17))] h19 _
  exact zr_ir (x := v17) (pc := 35) rfl rfl rfl ⟨ih19, ((w5.wd rfl : zb_W [(20, 1), (21, 0)] h _).tr (w20.wd rfl)), _, rfl, by dsimp only; exact ⟨wo.1, wo.2, by omega, by omega⟩⟩

set_option maxRecDepth 100000 in
set_option maxHeartbeats 4000000 in
theorem zm_workWays_L {h : zx_H} (hI : zb_I zc_H h) {p : Int} (p1 : 0 ≤ p) (p2 : p < zv_f h 1 3) (s : zS) (hA : zc_A h s) (hO : zs_ok (zc_Pg h) s) (hN : zs_nn s) (hR : s.R p) (hP : zP.ok (zc_Pg h)) (hQ : zP.nn (zc_Pg h)) (x0 : (zs_x (zc_Pg h) p s).1 = 0) (xS : zv_f h 20 1 = (zs_x (zc_Pg h) p s).2.1) (xN : ∀ j, 0 ≤ j → j < (zs_x (zc_Pg h) p s).2.1 + 8 → zv_a h 21 j = (zs_x (zc_Pg h) p s).2.2 j) (n : Nat) : (∀ {h2 : zx_H} {k : Int} (hI2 : zb_I zc_H h2) (k1 : 0 ≤ k) (k2 : k ≤ 2) (kj : k ≤ zs_js (zc_Pg h) p) (hw : zb_W [(18, 0), (19, 0), (16, 5)] h h2) (s2 : zS) (hA2 : zc_A h2 s2) (hO2 : zs_ok (zc_Pg h) s2) (hN2 : zs_nn s2) (hR2 : s2.R p) (hq : (0, s2) = zs_wk (zc_Pg h) p (zs_x (zc_Pg h) p s) s k), (10 - k : Int).toNat < n → zx_T zp_P 3 zp_m90 2 [(0, .ref 16), (1, .int (zI (p))), (2, .int (zI (k)))] [] h2 (zr_R [(18, 0), (19, 0), (16, 5)] h (fun e h' => e = (zs_w (zc_Pg h) p s).1 ∧ zc_A h' (zs_w (zc_Pg h) p s).2 ∧ 0 ≤ e ∧ e ≤ 7))) := by
  induction n with
  | zero => exact fun _ _ _ _ _ _ _ _ _ _ _ hm => absurd hm (Nat.not_lt_zero _)
  | succ n ih =>
    intro h2 k hI2 k1 k2 kj hw s2 hA2 hO2 hN2 hR2 hq hm
    have hC := zw_ri hI (a := 1) (k := 3) rfl
    have hH := zw_ri hI (a := 1) (k := 8) rfl
    have hPx : zc_Pg h2 = zc_Pg h := zc_Pg_g hw rfl
    have hO3 : zs_ok (zc_Pg h2) s2 := by rw [hPx]; exact hO2
    have d8 : zv_f h2 1 3 = zv_f h 1 3 := zv_wf hw rfl
    have dS : zv_f h2 20 1 = (zs_x (zc_Pg h) p s).2.1 := (zv_wf hw rfl).trans xS
    have dN : ∀ j, 0 ≤ j → j < 8 + zv_f h2 20 1 → zv_a h2 21 j = (zs_x (zc_Pg h) p s).2.2 j := fun j j0 j1 => (zv_wa hw rfl j).trans (xN j j0 (by omega))
    have xo := zs_x_ok hP hO hR
    have xk9 := zs_x_k hP hQ hO hR hN
    have kr9 : zk_in (zv_f h2 20 1) (zv_a h2 21) := fun j j0 j1 => by rw [dN j j0 j1]; exact xk9 j j0 (by omega)
    have kq9 : ∀ q, ¬ zv_a h2 19 q = -1 → 0 ≤ q → q < 60 → zv_a h2 19 q = zv_f h2 20 1 → ∀ j, 0 ≤ j → j < 8 + zv_f h2 20 1 → 0 ≤ zv_a h2 18 (14 * q + j) ∧ zv_a h2 18 (14 * q + j) ≤ 8 := fun q z q0 q1 y j j0 j1 => zc_kq hN2 hA2 ((hA2.1 q q0 q1).1 z) j j0 (by rw [y]; exact j1)
    have jo : (zc_Pg h).op p = zv_a h 2 p := rfl
    refine zx_T.l (i := .iload_n 2) (k := 1) (v := .int (zI (k))) (pc := 2) rfl rfl rfl ?_
    refine zx_T.l (i := .aload_n 0) (k := 1) (v := .ref 16) (pc := 3) rfl rfl rfl ?_
    refine zw_gr (k := 0) (b := 1) (pc := 4) rfl rfl rfl hI2 ?_
    refine zx_T.l (i := .iload_n 1) (k := 1) (v := .int (zI (p))) (pc := 7) rfl rfl rfl ?_
    have y1 : zv_f h2 1 3 = zv_f h 1 3 := (zv_wf hw rfl)
    refine zw_iv (b := 1) (cj := 12) (q' := zp_m12) (As := [.int (zI (p))]) (rest := [.int (zI (k))]) (pc := 8) rfl rfl rfl rfl rfl rfl rfl (Nat.le_of_ble_eq_true rfl) rfl (Nat.le_of_ble_eq_true rfl) hI2 ((zm_cWays (h := h2) hI2 (p := p) (by omega) (by omega)).up (Nat.le_of_ble_eq_true rfl)) ?_
    rintro r2 h5 ⟨h5q, v3, r2q, x4⟩
    subst h5q r2q
    try dsimp only at x4
    have wE := x4
    simp only [zv_wa hw (a := 2) rfl] at wE
    have js : v3 = zs_js (zc_Pg h) p := (by show v3 = if zv_a h 2 p = 27 then 2 else if 24 ≤ zv_a h 2 p ∧ zv_a h 2 p ≤ 26 then 1 else 0; split <;> first | omega | (split <;> omega))
    show zx_T zp_P 3 zp_m90 11 [(0, .ref 16), (1, .int (zI (p))), (2, .int (zI (k)))] [.int (zI (v3)), .int (zI (k))] h2 _
    refine zr_i2 (x := k) (y := v3) (t := 40) (pc := 11) rfl rfl (by omega) (by omega) (by omega) (by omega) (fun (c6 : v3 ≤ k) => ?_) (fun (c6 : ¬ (v3 ≤ k)) => ?_)
    · refine zx_T.l (i := .aload_n 0) (k := 1) (v := .ref 16) (pc := 40) rfl rfl rfl ?_
      refine zw_gr (k := 0) (b := 1) (pc := 41) rfl rfl rfl hI2 ?_
      refine zx_T.l (i := .iload_n 1) (k := 1) (v := .int (zI (p))) (pc := 44) rfl rfl rfl ?_
      have y7 : zv_f h2 1 3 = zv_f h 1 3 := (zv_wf hw rfl)
      refine zw_iv (b := 1) (cj := 11) (q' := zp_m11) (As := [.int (zI (p))]) (rest := []) (pc := 45) rfl rfl rfl rfl rfl rfl rfl (Nat.le_of_ble_eq_true rfl) rfl (Nat.le_of_ble_eq_true rfl) hI2 ((zm_cGoesOn (h := h2) hI2 (p := p) (by omega) (by omega)).up (Nat.le_of_ble_eq_true rfl)) ?_
      rintro r8 h11 ⟨h11q, v9, r8q, x10⟩
      subst h11q r8q
      try dsimp only at x10
      have go := x10
      simp only [zv_wa hw (a := 2) rfl] at go
      show zx_T zp_P 3 zp_m90 48 [(0, .ref 16), (1, .int (zI (p))), (2, .int (zI (k)))] [.int (zI (v9))] h2 _
      refine zr_i1 (x := v9) (t := 53) (pc := 48) rfl rfl (by omega) (by omega) (fun (c12 : ¬ v9 = 0) => ?_) (fun (c12 : ¬ (¬ v9 = 0)) => ?_)
      · refine zx_T.l (i := .aload_n 0) (k := 1) (v := .ref 16) (pc := 53) rfl rfl rfl ?_
        refine zw_gr (k := 0) (b := 1) (pc := 54) rfl rfl rfl hI2 ?_
        refine zx_T.l (i := .iload_n 1) (k := 1) (v := .int (zI (p))) (pc := 57) rfl rfl rfl ?_
        refine zx_T.s (i := .iconst 1) (k := 1) (st' := [.int (zI (1)), .int (zI (p)), .ref 1]) (pc := 58) rfl rfl ?_
        refine zr_add (x := p) (y := 1) (e := p + 1) (pc := 59) rfl (by omega) ?_
        have y13 : zv_f h2 1 3 = zv_f h 1 3 := (zv_wf hw rfl)
        refine zw_iv (b := 1) (cj := 7) (q' := zp_m7) (As := [.int (zI (p + 1))]) (rest := []) (pc := 60) rfl rfl rfl rfl rfl rfl rfl (Nat.le_of_ble_eq_true rfl) rfl (Nat.le_of_ble_eq_true rfl) hI2 ((zm_cHasPlace (h := h2) hI2 (p := p + 1) (by omega) (by omega)).up (Nat.le_of_ble_eq_true rfl)) ?_
        rintro r14 h17 ⟨h17q, v15, r14q, x16⟩
        subst h17q r14q
        try dsimp only at x16
        show zx_T zp_P 3 zp_m90 63 [(0, .ref 16), (1, .int (zI (p))), (2, .int (zI (k)))] [.int (zI (v15))] h2 _
        refine zr_i1 (x := v15) (t := 76) (pc := 63) rfl rfl (by omega) (by omega) (fun (c18 : v15 = 0) => ?_) (fun (c18 : ¬ (v15 = 0)) => ?_)
        · refine zx_T.s (i := .bipush 6) (k := 2) (st' := [.int (zI (6))]) (pc := 76) rfl rfl ?_
          exact zr_ir (x := 6) (pc := 78) rfl rfl rfl ⟨hI2, (hw.wd rfl : zb_W [(18, 0), (19, 0), (16, 5)] h _), _, rfl, by dsimp only; rw [zs_w_on (P := zc_Pg h) k1 kj hq (fun z => absurd x0 z) rfl (by omega) (fun z => by have z2 : 22 ≤ zv_a h 2 p ∧ zv_a h 2 p ≤ 24 := z; omega), if_pos (show p + 1 = (zc_Pg h).n from (by omega : p + 1 = zv_f h 1 3))]; exact ⟨rfl, hA2, by omega, by omega⟩⟩
        · refine zx_T.l (i := .aload_n 0) (k := 1) (v := .ref 16) (pc := 66) rfl rfl rfl ?_
          refine zx_T.l (i := .iload_n 1) (k := 1) (v := .int (zI (p))) (pc := 67) rfl rfl rfl ?_
          refine zx_T.s (i := .iconst 1) (k := 1) (st' := [.int (zI (1)), .int (zI (p)), .ref 16]) (pc := 68) rfl rfl ?_
          refine zr_add (x := p) (y := 1) (e := p + 1) (pc := 69) rfl (by omega) ?_
          have y19 : zv_f h2 1 3 = zv_f h 1 3 := (zv_wf hw rfl)
          refine zw_iv (b := 16) (cj := 91) (q' := zp_m91) (As := [.int (zI (p + 1))]) (rest := []) (pc := 70) rfl rfl rfl rfl rfl rfl rfl (Nat.le_of_ble_eq_true rfl) rfl (Nat.le_of_ble_eq_true rfl) hI2 ((zm_joinAt (h := h2) hI2 (q := p + 1) (by omega) (by omega) (fun y1 y2 z1 z2 => kq9 (p + 1) z1 y1 (by omega) z2) kr9).up (Nat.le_of_ble_eq_true rfl)) ?_
          rintro r20 h23 ⟨ih23, w24, v21, r20q, x22⟩
          subst r20q
          try dsimp only at x22
          have Jh23 := x22
          have rjh23 := zc_J_e x22
          have jA := zc_A_join hI2 (ρ := (zs_x (zc_Pg h) p s).2.2) hO3 hA2 dN Jh23; rw [hPx, dS] at jA
          show zx_T zp_P 3 zp_m90 73 [(0, .ref 16), (1, .int (zI (p))), (2, .int (zI (k)))] [.int (zI (v21))] h23 _
          refine zx_T.j (i := .goto 5) (k := 3) (pc' := 78) (st' := [.int (zI (v21))]) (pc := 73) rfl rfl rfl rfl rfl ?_
          exact zr_ir (x := v21) (pc := 78) rfl rfl rfl ⟨ih23, ((hw.wd rfl : zb_W [(18, 0), (19, 0), (16, 5)] h _).tr (w24.wd rfl)), _, rfl, by dsimp only; rw [zs_w_on (P := zc_Pg h) k1 kj hq (fun z => absurd x0 z) rfl (by omega) (fun z => by have z2 : 22 ≤ zv_a h 2 p ∧ zv_a h 2 p ≤ 24 := z; omega), if_neg (show ¬ p + 1 = (zc_Pg h).n from (by omega : ¬ p + 1 = zv_f h 1 3))]; exact ⟨jA.1, jA.2, by omega, by omega⟩⟩
      · refine zx_T.s (i := .iconst 0) (k := 1) (st' := [.int (zI (0))]) (pc := 51) rfl rfl ?_
        exact zr_ir (x := 0) (pc := 52) rfl rfl rfl ⟨hI2, (hw.wd rfl : zb_W [(18, 0), (19, 0), (16, 5)] h _), _, rfl, by dsimp only; rw [zs_w_end (P := zc_Pg h) k1 kj hq (fun z => absurd x0 z) (by omega) (Or.inr (by omega : 22 ≤ zv_a h 2 p ∧ zv_a h 2 p ≤ 24))]; exact ⟨rfl, hA2, by omega, by omega⟩⟩
    · refine zx_T.l (i := .aload_n 0) (k := 1) (v := .ref 16) (pc := 14) rfl rfl rfl ?_
      refine zx_T.l (i := .aload_n 0) (k := 1) (v := .ref 16) (pc := 15) rfl rfl rfl ?_
      refine zw_gr (k := 0) (b := 1) (pc := 16) rfl rfl rfl hI2 ?_
      refine zx_T.l (i := .iload_n 1) (k := 1) (v := .int (zI (p))) (pc := 19) rfl rfl rfl ?_
      refine zx_T.l (i := .iload_n 2) (k := 1) (v := .int (zI (k))) (pc := 20) rfl rfl rfl ?_
      have y25 : zv_f h2 1 3 = zv_f h 1 3 := (zv_wf hw rfl)
      refine zw_iv (b := 1) (cj := 13) (q' := zp_m13) (As := [.int (zI (p)), .int (zI (k))]) (rest := [.ref 16]) (pc := 21) rfl rfl rfl rfl rfl rfl rfl (Nat.le_of_ble_eq_true rfl) rfl (Nat.le_of_ble_eq_true rfl) hI2 ((zm_cWay (h := h2) hI2 (p := p) (k := k) (by omega) (by omega) (by omega) (by omega)).up (Nat.le_of_ble_eq_true rfl)) ?_
      rintro r26 h29 ⟨h29q, v27, r26q, x28⟩
      subst h29q r26q
      try dsimp only at x28
      have wy0 := x28
      simp only [zv_wa hw (a := 3) rfl, zv_wa hw (a := 4) rfl] at wy0
      show zx_T zp_P 3 zp_m90 24 [(0, .ref 16), (1, .int (zI (p))), (2, .int (zI (k)))] [.int (zI (v27)), .ref 16] h2 _
      have y30 : zv_f h2 1 3 = zv_f h 1 3 := (zv_wf hw rfl)
      refine zw_iv (b := 16) (cj := 91) (q' := zp_m91) (As := [.int (zI (v27))]) (rest := []) (pc := 24) rfl rfl rfl rfl rfl rfl rfl (Nat.le_of_ble_eq_true rfl) rfl (Nat.le_of_ble_eq_true rfl) hI2 ((zm_joinAt (h := h2) hI2 (q := v27) (by omega) (by omega) (fun y1 y2 z1 z2 => kq9 v27 z1 y1 (by omega) z2) kr9).up (Nat.le_of_ble_eq_true rfl)) ?_
      rintro r31 h34 ⟨ih34, w35, v32, r31q, x33⟩
      subst r31q
      try dsimp only at x33
      have Jh34 := x33
      have rjh34 := zc_J_e x33
      have jA := zc_A_join hI2 (ρ := (zs_x (zc_Pg h) p s).2.2) hO3 hA2 dN Jh34; have wy : v27 = zs_wy (zc_Pg h) p k := (by show v27 = if k = 0 then zv_a h 3 p else zv_a h 4 p; split <;> omega); rw [hPx, dS, wy] at jA; have jk := zs_wk_s (P := zc_Pg h) (p := p) k1 (by omega) (x := (zs_x (zc_Pg h) p s)) (s := s) (s2 := s2) hq
      show zx_T zp_P 3 zp_m90 27 [(0, .ref 16), (1, .int (zI (p))), (2, .int (zI (k)))] [.int (zI (v32))] h34 _
      refine zx_T.t (i := .istore_n 3) (k := 1) (ls' := [(3, .int (zI (v32))), (0, .ref 16), (1, .int (zI (p))), (2, .int (zI (k)))]) (st' := []) (pc := 27) rfl rfl rfl rfl ?_
      refine zx_T.l (i := .iload_n 3) (k := 1) (v := .int (zI (v32))) (pc := 28) rfl rfl rfl ?_
      refine zr_i1 (x := v32) (t := 34) (pc := 29) rfl rfl (by omega) (by omega) (fun (c36 : v32 = 0) => ?_) (fun (c36 : ¬ (v32 = 0)) => ?_)
      · refine zr_inc (x := k) (n := 1) (y := k + 1) (ls' := [(2, .int (zI (k + 1))), (3, .int (zI (v32))), (0, .ref 16), (1, .int (zI (p)))]) (pc := 34) rfl rfl rfl (by omega) rfl ?_
        refine zx_T.j (i := .goto (-35)) (k := 3) (pc' := 2) (st' := []) (pc := 37) rfl rfl rfl rfl rfl ?_
        refine zx_T.lk (ls' := [(0, .ref 16), (1, .int (zI (p))), (2, .int (zI (k + 1)))]) rfl ⟨rfl, rfl, rfl, trivial⟩ ?_
        exact ih (h2 := h34) (k := k + 1) ih34 (by omega) (by omega) (by omega) ((hw.wd rfl : zb_W [(18, 0), (19, 0), (16, 5)] h _).tr (w35.wd rfl)) (zs_join (zc_Pg h) s2 (zs_wy (zc_Pg h) p k) (zs_x (zc_Pg h) p s).2.2 (zs_x (zc_Pg h) p s).2.1).2 jA.2 (zs_ok_join hO2 (zw_ok_ag xo rfl (fun _ _ _ => rfl))) (zs_nn_join hN2 xk9) (zs_join_R hR2) (by rw [← jk]; exact Prod.ext ((by omega : (0 : Int) = _).trans jA.1) rfl) (by omega)
      · refine zx_T.l (i := .iload_n 3) (k := 1) (v := .int (zI (v32))) (pc := 32) rfl rfl rfl ?_
        exact zr_ir (x := v32) (pc := 33) rfl rfl rfl ⟨ih34, ((hw.wd rfl : zb_W [(18, 0), (19, 0), (16, 5)] h _).tr (w35.wd rfl)), _, rfl, by dsimp only; have e9 : (v32, (zs_join (zc_Pg h) s2 (zs_wy (zc_Pg h) p k) (zs_x (zc_Pg h) p s).2.2 (zs_x (zc_Pg h) p s).2.1).2) = zs_wk (zc_Pg h) p (zs_x (zc_Pg h) p s) s (k + 1) := (by rw [← jk]; exact Prod.ext jA.1 rfl); rw [zs_w_end (P := zc_Pg h) (k := k + 1) (by omega) (by omega) e9 (fun z => absurd x0 z) (Or.inr (by omega)) (Or.inl (by omega))]; exact ⟨rfl, jA.2, by omega, by omega⟩⟩
set_option maxRecDepth 100000 in
set_option maxHeartbeats 4000000 in
theorem zm_workWays {h : zx_H} (hI : zb_I zc_H h) {p : Int} (p1 : 0 ≤ p) (p2 : p < zv_f h 1 3) (s : zS) (hA : zc_A h s) (hO : zs_ok (zc_Pg h) s) (hN : zs_nn s) (hR : s.R p) (hP : zP.ok (zc_Pg h)) (hQ : zP.nn (zc_Pg h)) (x0 : (zs_x (zc_Pg h) p s).1 = 0) (xS : zv_f h 20 1 = (zs_x (zc_Pg h) p s).2.1) (xN : ∀ j, 0 ≤ j → j < (zs_x (zc_Pg h) p s).2.1 + 8 → zv_a h 21 j = (zs_x (zc_Pg h) p s).2.2 j) : zx_T zp_P 3 zp_m90 0 [(0, .ref 16), (1, .int (zI (p)))] [] h (zr_R [(18, 0), (19, 0), (16, 5)] h (fun e h' => e = (zs_w (zc_Pg h) p s).1 ∧ zc_A h' (zs_w (zc_Pg h) p s).2 ∧ 0 ≤ e ∧ e ≤ 7)) := by
  have hC := zw_ri hI (a := 1) (k := 3) rfl
  have hH := zw_ri hI (a := 1) (k := 8) rfl
  refine zx_T.s (i := .iconst 0) (k := 1) (st' := [.int (zI (0))]) (pc := 0) rfl rfl ?_
  refine zx_T.t (i := .istore_n 2) (k := 1) (ls' := [(2, .int (zI (0))), (0, .ref 16), (1, .int (zI (p)))]) (st' := []) (pc := 1) rfl rfl rfl rfl ?_
  refine zx_T.lk (ls' := [(0, .ref 16), (1, .int (zI (p))), (2, .int (zI (0)))]) rfl ⟨rfl, rfl, rfl, trivial⟩ ?_
  exact zm_workWays_L (h := h) hI (p := p) p1 p2 s hA hO hN hR hP hQ x0 xS xN ((10 - 0 : Int).toNat + 1) (h2 := h) (k := 0) hI (by omega) (by omega) zs_js_0.1 zb_W.rf s hA hO hN hR (by show (0, s) = ((zs_x (zc_Pg h) p s).1, s); rw [x0]) (Nat.lt_succ_self _)

set_option maxRecDepth 100000 in
set_option maxHeartbeats 4000000 in
theorem zm_goRound_L {h : zx_H} (hI : zb_I zc_H h)  (s : zS) (hA : zc_A h s) (hO : zs_ok (zc_Pg h) s) (hN : zs_nn s) (hP : zP.ok (zc_Pg h)) (hQ : zP.nn (zc_Pg h)) (n : Nat) : (∀ {h2 : zx_H} {p : Int} (hI2 : zb_I zc_H h2) (p1 : 0 ≤ p) (p2 : p ≤ zv_f h 1 3) (hw : zb_W [(18, 0), (19, 0), (16, 5), (20, 1), (21, 0)] h h2) (s2 : zS) (hA2 : zc_A h2 s2) (hO2 : zs_ok (zc_Pg h) s2) (hN2 : zs_nn s2) (hq : zs_pass (zc_Pg h) (zv_f h 1 3).toNat s = zs_pass (zc_Pg h) (zv_f h 1 3 - p).toNat s2), (100 - p : Int).toNat < n → zx_T zp_P 5 zp_m87 2 [(0, .ref 16), (1, .int (zI (p)))] [] h2 (zr_R [(18, 0), (19, 0), (16, 5), (20, 1), (21, 0), (16, 7)] h (fun e h' => e = (zs_pass (zc_Pg h) (zv_f h 1 3).toNat s).1 ∧ (¬ e = 0 → zv_f h' 16 7 = (zs_pass (zc_Pg h) (zv_f h 1 3).toNat s).2.1 ∧ 0 ≤ zv_f h' 16 7 ∧ zv_f h' 16 7 ≤ 59) ∧ zc_A h' (zs_pass (zc_Pg h) (zv_f h 1 3).toNat s).2.2 ∧ 0 ≤ e ∧ e ≤ 7))) := by
  induction n with
  | zero => exact fun _ _ _ _ _ _ _ _ _ hm => absurd hm (Nat.not_lt_zero _)
  | succ n ih =>
    intro h2 p hI2 p1 p2 hw s2 hA2 hO2 hN2 hq hm
    have hC := zw_ri hI (a := 1) (k := 3) rfl
    have hH := zw_ri hI (a := 1) (k := 8) rfl
    have d8 : zv_f h2 1 3 = zv_f h 1 3 := zv_wf hw rfl
    have d9 : zv_f h2 1 8 = zv_f h 1 8 := zv_wf hw rfl
    have hPx : zc_Pg h2 = zc_Pg h := zc_Pg_g hw rfl
    refine zx_T.l (i := .iload_n 1) (k := 1) (v := .int (zI (p))) (pc := 2) rfl rfl rfl ?_
    refine zx_T.l (i := .aload_n 0) (k := 1) (v := .ref 16) (pc := 3) rfl rfl rfl ?_
    refine zw_gr (k := 0) (b := 1) (pc := 4) rfl rfl rfl hI2 ?_
    refine zw_iv (b := 1) (cj := 4) (q' := zp_m4) (As := []) (rest := [.int (zI (p))]) (pc := 7) rfl rfl rfl rfl rfl rfl rfl (Nat.le_of_ble_eq_true rfl) rfl (Nat.le_of_ble_eq_true rfl) hI2 ((zm_cPlaces (h := h2) hI2  ).up (Nat.le_of_ble_eq_true rfl)) ?_
    rintro r1 h4 ⟨h4q, v2, r1q, x3⟩
    subst h4q r1q
    try dsimp only at x3
    show zx_T zp_P 5 zp_m87 10 [(0, .ref 16), (1, .int (zI (p)))] [.int (zI (v2)), .int (zI (p))] h2 _
    refine zr_i2 (x := p) (y := v2) (t := 67) (pc := 10) rfl rfl (by omega) (by omega) (by omega) (by omega) (fun (c5 : v2 ≤ p) => ?_) (fun (c5 : ¬ (v2 ≤ p)) => ?_)
    · refine zx_T.s (i := .iconst 0) (k := 1) (st' := [.int (zI (0))]) (pc := 67) rfl rfl ?_
      have y6 : zv_f h2 16 7 = zv_f h 16 7 := (zv_wf hw rfl)
      exact zr_ir (x := 0) (pc := 68) rfl rfl rfl ⟨hI2, (hw.wd rfl : zb_W [(18, 0), (19, 0), (16, 5), (20, 1), (21, 0), (16, 7)] h _), _, rfl, by dsimp only; have z9 : zs_pass (zc_Pg h) (zv_f h 1 3).toNat s = (0, 0, s2) := (by rw [hq, show (zv_f h 1 3 - p).toNat = 0 by omega]; rfl); rw [z9]; exact ⟨rfl, fun z => absurd rfl z, hA2, by omega, by omega⟩⟩
    · refine zx_T.l (i := .aload_n 0) (k := 1) (v := .ref 16) (pc := 13) rfl rfl rfl ?_
      refine zx_T.l (i := .iload_n 1) (k := 1) (v := .int (zI (p))) (pc := 14) rfl rfl rfl ?_
      refine zw_iv (b := 16) (cj := 83) (q' := zp_m83) (As := [.int (zI (p))]) (rest := []) (pc := 15) rfl rfl rfl rfl rfl rfl rfl (Nat.le_of_ble_eq_true rfl) rfl (Nat.le_of_ble_eq_true rfl) hI2 ((zm_mIsDead (h := h2) hI2 (p := p) (by omega) (by omega)).up (Nat.le_of_ble_eq_true rfl)) ?_
      rintro r7 h10 ⟨h10q, v8, r7q, x9⟩
      subst h10q r7q
      try dsimp only at x9
      show zx_T zp_P 5 zp_m87 18 [(0, .ref 16), (1, .int (zI (p)))] [.int (zI (v8))] h2 _
      refine zr_i1 (x := v8) (t := 24) (pc := 18) rfl rfl (by omega) (by omega) (fun (c11 : v8 = 0) => ?_) (fun (c11 : ¬ (v8 = 0)) => ?_)
      · have hRp := (hA2.1 p p1 (by omega)).1 (by omega)
        have hO3 : zs_ok (zc_Pg h2) s2 := by rw [hPx]; exact hO2
        have hP3 : zP.ok (zc_Pg h2) := by rw [hPx]; exact hP
        have hQ3 : zP.nn (zc_Pg h2) := by rw [hPx]; exact hQ
        have oh := zs_ok_hs hP (zv_f h 1 8).toNat s2 (by show ((zv_f h 1 8).toNat : Int) ≤ zv_f h 1 8; omega) hO2 hRp
        have nh := zs_nn_hs hP hQ (zv_f h 1 8).toNat s2 (by show ((zv_f h 1 8).toNat : Int) ≤ zv_f h 1 8; omega) hO2 hRp hN2
        refine zx_T.l (i := .aload_n 0) (k := 1) (v := .ref 16) (pc := 24) rfl rfl rfl ?_
        refine zx_T.l (i := .iload_n 1) (k := 1) (v := .int (zI (p))) (pc := 25) rfl rfl rfl ?_
        have y12 : zv_f h2 1 3 = zv_f h 1 3 := (zv_wf hw rfl)
        refine zw_iv (b := 16) (cj := 89) (q' := zp_m89) (As := [.int (zI (p))]) (rest := []) (pc := 26) rfl rfl rfl rfl rfl rfl rfl (Nat.le_of_ble_eq_true rfl) rfl (Nat.le_of_ble_eq_true rfl) hI2 ((zm_workHandlers (h := h2) hI2 (p := p) (by omega) (by omega) s2 hA2 hO3 hN2 hRp hP3 hQ3).up (Nat.le_of_ble_eq_true rfl)) ?_
        rintro r13 h16 ⟨ih16, w17, v14, r13q, x15⟩
        subst r13q
        try dsimp only at x15
        have hE := x15
        rw [hPx, d9] at hE
        show zx_T zp_P 5 zp_m87 29 [(0, .ref 16), (1, .int (zI (p)))] [.int (zI (v14))] h16 _
        refine zx_T.t (i := .istore_n 2) (k := 1) (ls' := [(2, .int (zI (v14))), (0, .ref 16), (1, .int (zI (p)))]) (st' := []) (pc := 29) rfl rfl rfl rfl ?_
        refine zx_T.l (i := .iload_n 2) (k := 1) (v := .int (zI (v14))) (pc := 30) rfl rfl rfl ?_
        refine zr_i1 (x := v14) (t := 40) (pc := 31) rfl rfl (by omega) (by omega) (fun (c18 : ¬ v14 = 0) => ?_) (fun (c18 : ¬ (¬ v14 = 0)) => ?_)
        · refine zx_T.l (i := .iload_n 2) (k := 1) (v := .int (zI (v14))) (pc := 40) rfl rfl rfl ?_
          refine zr_i1 (x := v14) (t := 50) (pc := 41) rfl rfl (by omega) (by omega) (fun (c19 : ¬ v14 = 0) => ?_) (fun (c19 : ¬ (¬ v14 = 0)) => False.elim (by omega))
          refine zx_T.l (i := .iload_n 2) (k := 1) (v := .int (zI (v14))) (pc := 50) rfl rfl rfl ?_
          refine zr_i1 (x := v14) (t := 61) (pc := 51) rfl rfl (by omega) (by omega) (fun (c20 : v14 = 0) => False.elim (by omega)) (fun (c20 : ¬ (v14 = 0)) => ?_)
          have wf := zs_work_f (P := zc_Pg h) (p := p) (s := s2) (r := (zs_hs (zc_Pg h) p (zv_f h 1 8).toNat s2)) rfl (fun z => absurd (hE.1.trans z) (by omega))
          have kE := hE.1
          have kA := hE.2.1
          rw [← wf] at kE kA
          refine zx_T.l (i := .aload_n 0) (k := 1) (v := .ref 16) (pc := 54) rfl rfl rfl ?_
          refine zx_T.l (i := .iload_n 1) (k := 1) (v := .int (zI (p))) (pc := 55) rfl rfl rfl ?_
          refine zw_pi (k := 7) (lo := (-2147483648)) (hi := 2147483647) (e := p) (pc := 56) rfl rfl rfl rfl rfl rfl ih16 (by omega) (by omega) (fun h21 ih21 w22 e23 => ?_)
          refine zx_T.l (i := .iload_n 2) (k := 1) (v := .int (zI (v14))) (pc := 59) rfl rfl rfl ?_
          have y24 : zv_f h21 16 7 = p := e23
          exact zr_ir (x := v14) (pc := 60) rfl rfl rfl ⟨ih21, (((hw.wd rfl : zb_W [(18, 0), (19, 0), (16, 5), (20, 1), (21, 0), (16, 7)] h _).tr (w17.wd rfl)).tr (w22.wd rfl)), _, rfl, by dsimp only; have z9 : zs_pass (zc_Pg h) (zv_f h 1 3).toNat s = ((zs_work (zc_Pg h) p s2).1, p, (zs_work (zc_Pg h) p s2).2) := (by rw [hq]; exact (zs_pass_s (P := zc_Pg h) (by show p < zv_f h 1 3; omega)).trans ((zi_t hRp).trans (if_neg (fun z => absurd (kE.trans z) (by omega))))); rw [z9]; exact ⟨kE, fun _ => ⟨by dsimp only; omega, by omega, by omega⟩, zc_A_g w22 rfl rfl rfl kA, by omega, by omega⟩⟩
        · have hPy : zc_Pg h16 = zc_Pg h := zc_Pg_g ((hw.wd rfl : zb_W [(18, 0), (19, 0), (16, 5), (20, 1), (21, 0)] h _).tr (w17.wd rfl)) rfl
          have hO4 : zs_ok (zc_Pg h16) (zs_hs (zc_Pg h) p (zv_f h 1 8).toNat s2).2 := by rw [hPy]; exact oh.1
          have hP4 : zP.ok (zc_Pg h16) := by rw [hPy]; exact hP
          have hQ4 : zP.nn (zc_Pg h16) := by rw [hPy]; exact hQ
          have wg := zs_work_g (P := zc_Pg h) (p := p) (s := s2) (zs_pair (r := (zs_hs (zc_Pg h) p (zv_f h 1 8).toNat s2)) (hE.1.symm.trans (by omega)))
          refine zx_T.l (i := .aload_n 0) (k := 1) (v := .ref 16) (pc := 34) rfl rfl rfl ?_
          refine zx_T.l (i := .iload_n 1) (k := 1) (v := .int (zI (p))) (pc := 35) rfl rfl rfl ?_
          have y25 : zv_f h16 1 3 = zv_f h 1 3 := ((zv_wf w17 rfl).trans (zv_wf hw rfl))
          refine zw_iv (b := 16) (cj := 88) (q' := zp_m88) (As := [.int (zI (p))]) (rest := []) (pc := 36) rfl rfl rfl rfl rfl rfl rfl (Nat.le_of_ble_eq_true rfl) rfl (Nat.le_of_ble_eq_true rfl) ih16 ((zm_workOp (h := h16) ih16 (p := p) (by omega) (by omega) (zs_hs (zc_Pg h) p (zv_f h 1 8).toNat s2).2 hE.2.1 hO4 nh oh.2 hP4 hQ4).up (Nat.le_of_ble_eq_true rfl)) ?_
          rintro r26 h29 ⟨ih29, w30, v27, r26q, x28⟩
          subst r26q
          try dsimp only at x28
          have oE := x28
          rw [hPy] at oE
          show zx_T zp_P 5 zp_m87 39 [(2, .int (zI (v14))), (0, .ref 16), (1, .int (zI (p)))] [.int (zI (v27))] h29 _
          refine zx_T.t (i := .istore_n 2) (k := 1) (ls' := [(2, .int (zI (v27))), (0, .ref 16), (1, .int (zI (p)))]) (st' := []) (pc := 39) rfl rfl rfl rfl ?_
          refine zx_T.l (i := .iload_n 2) (k := 1) (v := .int (zI (v27))) (pc := 40) rfl rfl rfl ?_
          refine zr_i1 (x := v27) (t := 50) (pc := 41) rfl rfl (by omega) (by omega) (fun (c31 : ¬ v27 = 0) => ?_) (fun (c31 : ¬ (¬ v27 = 0)) => ?_)
          · refine zx_T.l (i := .iload_n 2) (k := 1) (v := .int (zI (v27))) (pc := 50) rfl rfl rfl ?_
            refine zr_i1 (x := v27) (t := 61) (pc := 51) rfl rfl (by omega) (by omega) (fun (c32 : v27 = 0) => False.elim (by omega)) (fun (c32 : ¬ (v27 = 0)) => ?_)
            have wf := wg.trans (zs_w_f (fun z => absurd (oE.1.trans z) (by omega)))
            have kE := oE.1.trans (congrArg Prod.fst wf).symm
            have kA0 := zc_A_g w30 rfl rfl rfl hE.2.1
            have kA : zc_A h29 (zs_work (zc_Pg h) p s2).2 := (by rw [wf]; exact kA0)
            refine zx_T.l (i := .aload_n 0) (k := 1) (v := .ref 16) (pc := 54) rfl rfl rfl ?_
            refine zx_T.l (i := .iload_n 1) (k := 1) (v := .int (zI (p))) (pc := 55) rfl rfl rfl ?_
            refine zw_pi (k := 7) (lo := (-2147483648)) (hi := 2147483647) (e := p) (pc := 56) rfl rfl rfl rfl rfl rfl ih29 (by omega) (by omega) (fun h33 ih33 w34 e35 => ?_)
            refine zx_T.l (i := .iload_n 2) (k := 1) (v := .int (zI (v27))) (pc := 59) rfl rfl rfl ?_
            have y36 : zv_f h33 16 7 = p := e35
            exact zr_ir (x := v27) (pc := 60) rfl rfl rfl ⟨ih33, ((((hw.wd rfl : zb_W [(18, 0), (19, 0), (16, 5), (20, 1), (21, 0), (16, 7)] h _).tr (w17.wd rfl)).tr (w30.wd rfl)).tr (w34.wd rfl)), _, rfl, by dsimp only; have z9 : zs_pass (zc_Pg h) (zv_f h 1 3).toNat s = ((zs_work (zc_Pg h) p s2).1, p, (zs_work (zc_Pg h) p s2).2) := (by rw [hq]; exact (zs_pass_s (P := zc_Pg h) (by show p < zv_f h 1 3; omega)).trans ((zi_t hRp).trans (if_neg (fun z => absurd (kE.trans z) (by omega))))); rw [z9]; exact ⟨kE, fun _ => ⟨by dsimp only; omega, by omega, by omega⟩, zc_A_g w34 rfl rfl rfl kA, by omega, by omega⟩⟩
          · have hPz : zc_Pg h29 = zc_Pg h := zc_Pg_g (((hw.wd rfl : zb_W [(18, 0), (19, 0), (16, 5), (20, 1), (21, 0)] h _).tr (w17.wd rfl)).tr (w30.wd rfl)) rfl
            have hA5 := zc_A_g w30 rfl rfl rfl hE.2.1
            have hO5 : zs_ok (zc_Pg h29) (zs_hs (zc_Pg h) p (zv_f h 1 8).toNat s2).2 := by rw [hPz]; exact oh.1
            have hP5 : zP.ok (zc_Pg h29) := by rw [hPz]; exact hP
            have hQ5 : zP.nn (zc_Pg h29) := by rw [hPz]; exact hQ
            have oX := oE.2.1 (by omega)
            have x05 : (zs_x (zc_Pg h29) p (zs_hs (zc_Pg h) p (zv_f h 1 8).toNat s2).2).1 = 0 := by rw [hPz]; exact oE.1.symm.trans (by omega)
            refine zx_T.l (i := .aload_n 0) (k := 1) (v := .ref 16) (pc := 44) rfl rfl rfl ?_
            refine zx_T.l (i := .iload_n 1) (k := 1) (v := .int (zI (p))) (pc := 45) rfl rfl rfl ?_
            have y37 : zv_f h29 1 3 = zv_f h 1 3 := ((zv_wf w30 rfl).trans ((zv_wf w17 rfl).trans (zv_wf hw rfl)))
            refine zw_iv (b := 16) (cj := 90) (q' := zp_m90) (As := [.int (zI (p))]) (rest := []) (pc := 46) rfl rfl rfl rfl rfl rfl rfl (Nat.le_of_ble_eq_true rfl) rfl (Nat.le_of_ble_eq_true rfl) ih29 ((zm_workWays (h := h29) ih29 (p := p) (by omega) (by omega) (zs_hs (zc_Pg h) p (zv_f h 1 8).toNat s2).2 hA5 hO5 nh oh.2 hP5 hQ5 x05 (by rw [hPz]; exact oX.1) (by rw [hPz]; exact oX.2)).up (Nat.le_of_ble_eq_true rfl)) ?_
            rintro r38 h41 ⟨ih41, w42, v39, r38q, x40⟩
            subst r38q
            try dsimp only at x40
            have wE := x40; rw [hPz] at wE; rw [← wg] at wE; have kE := wE.1; have kA := wE.2.1
            show zx_T zp_P 5 zp_m87 49 [(2, .int (zI (v27))), (0, .ref 16), (1, .int (zI (p)))] [.int (zI (v39))] h41 _
            refine zx_T.t (i := .istore_n 2) (k := 1) (ls' := [(2, .int (zI (v39))), (0, .ref 16), (1, .int (zI (p)))]) (st' := []) (pc := 49) rfl rfl rfl rfl ?_
            refine zx_T.l (i := .iload_n 2) (k := 1) (v := .int (zI (v39))) (pc := 50) rfl rfl rfl ?_
            refine zr_i1 (x := v39) (t := 61) (pc := 51) rfl rfl (by omega) (by omega) (fun (c43 : v39 = 0) => ?_) (fun (c43 : ¬ (v39 = 0)) => ?_)
            · refine zr_inc (x := p) (n := 1) (y := p + 1) (ls' := [(1, .int (zI (p + 1))), (2, .int (zI (v39))), (0, .ref 16)]) (pc := 61) rfl rfl rfl (by omega) rfl ?_
              refine zx_T.j (i := .goto (-62)) (k := 3) (pc' := 2) (st' := []) (pc := 64) rfl rfl rfl rfl rfl ?_
              refine zx_T.lk (ls' := [(0, .ref 16), (1, .int (zI (p + 1)))]) rfl ⟨rfl, rfl, trivial⟩ ?_
              exact ih (h2 := h41) (p := p + 1) ih41 (by omega) (by omega) ((((hw.wd rfl : zb_W [(18, 0), (19, 0), (16, 5), (20, 1), (21, 0)] h _).tr (w17.wd rfl)).tr (w30.wd rfl)).tr (w42.wd rfl)) (zs_work (zc_Pg h) p s2).2 kA (zs_ok_work hP hH.1 hO2 hRp) (zs_nn_work hP hQ hH.1 hO2 hRp hN2) (hq.trans (zs_kt_y (P := zc_Pg h) (by show p < zv_f h 1 3; omega) hRp (kE.symm.trans (by omega)))) (by omega)
            · refine zx_T.l (i := .aload_n 0) (k := 1) (v := .ref 16) (pc := 54) rfl rfl rfl ?_
              refine zx_T.l (i := .iload_n 1) (k := 1) (v := .int (zI (p))) (pc := 55) rfl rfl rfl ?_
              refine zw_pi (k := 7) (lo := (-2147483648)) (hi := 2147483647) (e := p) (pc := 56) rfl rfl rfl rfl rfl rfl ih41 (by omega) (by omega) (fun h44 ih44 w45 e46 => ?_)
              refine zx_T.l (i := .iload_n 2) (k := 1) (v := .int (zI (v39))) (pc := 59) rfl rfl rfl ?_
              have y47 : zv_f h44 16 7 = p := e46
              exact zr_ir (x := v39) (pc := 60) rfl rfl rfl ⟨ih44, (((((hw.wd rfl : zb_W [(18, 0), (19, 0), (16, 5), (20, 1), (21, 0), (16, 7)] h _).tr (w17.wd rfl)).tr (w30.wd rfl)).tr (w42.wd rfl)).tr (w45.wd rfl)), _, rfl, by dsimp only; have z9 : zs_pass (zc_Pg h) (zv_f h 1 3).toNat s = ((zs_work (zc_Pg h) p s2).1, p, (zs_work (zc_Pg h) p s2).2) := (by rw [hq]; exact (zs_pass_s (P := zc_Pg h) (by show p < zv_f h 1 3; omega)).trans ((zi_t hRp).trans (if_neg (fun z => absurd (kE.trans z) (by omega))))); rw [z9]; exact ⟨kE, fun _ => ⟨by dsimp only; omega, by omega, by omega⟩, zc_A_g w45 rfl rfl rfl kA, by omega, by omega⟩⟩
      · refine zx_T.j (i := .goto 40) (k := 3) (pc' := 61) (st' := []) (pc := 21) rfl rfl rfl rfl rfl ?_
        refine zr_inc (x := p) (n := 1) (y := p + 1) (ls' := [(1, .int (zI (p + 1))), (0, .ref 16)]) (pc := 61) rfl rfl rfl (by omega) rfl ?_
        refine zx_T.j (i := .goto (-62)) (k := 3) (pc' := 2) (st' := []) (pc := 64) rfl rfl rfl rfl rfl ?_
        refine zx_T.lk (ls' := [(0, .ref 16), (1, .int (zI (p + 1)))]) rfl ⟨rfl, rfl, trivial⟩ ?_
        exact ih (h2 := h2) (p := p + 1) hI2 (by omega) (by omega) (hw.wd rfl : zb_W [(18, 0), (19, 0), (16, 5), (20, 1), (21, 0)] h _) s2 hA2 hO2 hN2 (hq.trans (zs_kt_n (c := 0) (P := zc_Pg h) (by show p < zv_f h 1 3; omega) (fun z => by have z1 := (hA2.1 p p1 (by omega)).2 z; omega))) (by omega)
set_option maxRecDepth 100000 in
set_option maxHeartbeats 4000000 in
theorem zm_goRound {h : zx_H} (hI : zb_I zc_H h)  (s : zS) (hA : zc_A h s) (hO : zs_ok (zc_Pg h) s) (hN : zs_nn s) (hP : zP.ok (zc_Pg h)) (hQ : zP.nn (zc_Pg h)) : zx_T zp_P 5 zp_m87 0 [(0, .ref 16)] [] h (zr_R [(18, 0), (19, 0), (16, 5), (20, 1), (21, 0), (16, 7)] h (fun e h' => e = (zs_pass (zc_Pg h) (zv_f h 1 3).toNat s).1 ∧ (¬ e = 0 → zv_f h' 16 7 = (zs_pass (zc_Pg h) (zv_f h 1 3).toNat s).2.1 ∧ 0 ≤ zv_f h' 16 7 ∧ zv_f h' 16 7 ≤ 59) ∧ zc_A h' (zs_pass (zc_Pg h) (zv_f h 1 3).toNat s).2.2 ∧ 0 ≤ e ∧ e ≤ 7)) := by
  have hC := zw_ri hI (a := 1) (k := 3) rfl
  have hH := zw_ri hI (a := 1) (k := 8) rfl
  refine zx_T.s (i := .iconst 0) (k := 1) (st' := [.int (zI (0))]) (pc := 0) rfl rfl ?_
  refine zx_T.t (i := .istore_n 1) (k := 1) (ls' := [(1, .int (zI (0))), (0, .ref 16)]) (st' := []) (pc := 1) rfl rfl rfl rfl ?_
  refine zx_T.lk (ls' := [(0, .ref 16), (1, .int (zI (0)))]) rfl ⟨rfl, rfl, trivial⟩ ?_
  exact zm_goRound_L (h := h) hI  s hA hO hN hP hQ ((100 - 0 : Int).toNat + 1) (h2 := h) (p := 0) hI (by omega) (by omega) zb_W.rf s hA hO hN (by rw [Int.sub_zero]) (Nat.lt_succ_self _)
