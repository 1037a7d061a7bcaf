/-! ===== 93b: the reference, method by method (by program) ===== -/
set_option maxRecDepth 100000 in
set_option maxHeartbeats 4000000 in
theorem zm_storeE_20 {h : zx_H} (hI : zb_I zc_H h) {a : Int} (a1 : -2147483648 ≤ a) (a2 : a ≤ 2147483647) (zk : zk_in (zv_f h 20 1) (zv_a h 21)) (t2 : 1 ≤ zv_f h 20 1 → ¬ zv_a h 21 (zv_f h 20 1 + 7) = 2 ∧ (zv_a h 21 (zv_f h 20 1 + 7) = 3 → 2 ≤ zv_f h 20 1)) : zx_T zp_P 1 zp_m23 0 [(0, .ref 20), (1, .int (zI (a)))] [] h (zr_R [(20, 1), (21, 0)] h (fun e h' => zt_eq (e, zv_f h' 20 1, zv_a h' 21) (zc_store a (0, zv_f h 20 1, zv_a h 21)) ∧ 0 ≤ e ∧ e ≤ 4)) := by
  have hS := zw_ri hI (a := 20) (k := 1) rfl
  refine zx_T.l (i := .aload_n 0) (k := 1) (v := .ref 20) (pc := 0) rfl rfl rfl ?_
  refine zx_T.s (i := .iconst 0) (k := 1) (st' := [.int (zI (0)), .ref 20]) (pc := 1) rfl rfl ?_
  refine zw_iv (b := 20) (cj := 120) (q' := zp_m120) (As := [.int (zI (0))]) (rest := []) (pc := 2) rfl rfl rfl rfl rfl rfl rfl (Nat.le_of_ble_eq_true rfl) rfl (Nat.le_of_ble_eq_true rfl) hI ((zm_kindDown_20 (h := h) hI (d := 0) (by omega) (by omega)).up (Nat.le_of_ble_eq_true rfl)) ?_
  rintro r1 h4 ⟨h4q, v2, r1q, x3⟩
  subst h4q r1q
  try dsimp only at x3
  have kD := x3.1
  show zx_T zp_P 1 zp_m23 5 [(0, .ref 20), (1, .int (zI (a)))] [.int (zI (v2))] h _
  refine zx_T.t (i := .istore_n 2) (k := 1) (ls' := [(2, .int (zI (v2))), (0, .ref 20), (1, .int (zI (a)))]) (st' := []) (pc := 5) rfl rfl rfl rfl ?_
  refine zx_T.l (i := .iload_n 2) (k := 1) (v := .int (zI (v2))) (pc := 6) rfl rfl rfl ?_
  refine zx_T.s (i := .iconst (-1)) (k := 1) (st' := [.int (zI ((-1))), .int (zI (v2))]) (pc := 7) rfl rfl ?_
  refine zr_i2 (x := v2) (y := (-1)) (t := 13) (pc := 8) rfl rfl (by omega) (by omega) (by omega) (by omega) (fun (c5 : ¬ v2 = (-1)) => ?_) (fun (c5 : ¬ (¬ v2 = (-1))) => ?_)
  · refine zx_T.l (i := .iload_n 2) (k := 1) (v := .int (zI (v2))) (pc := 13) rfl rfl rfl ?_
    refine zr_i1 (x := v2) (t := 19) (pc := 14) rfl rfl (by omega) (by omega) (fun (c6 : ¬ v2 = 0) => ?_) (fun (c6 : ¬ (¬ v2 = 0)) => ?_)
    · refine zx_T.l (i := .aload_n 0) (k := 1) (v := .ref 20) (pc := 19) rfl rfl rfl ?_
      refine zx_T.l (i := .iload_n 2) (k := 1) (v := .int (zI (v2))) (pc := 20) rfl rfl rfl ?_
      refine zx_T.s (i := .iconst 3) (k := 1) (st' := [.int (zI (3)), .int (zI (v2)), .ref 20]) (pc := 21) rfl rfl ?_
      refine zr_i2 (x := v2) (y := 3) (t := 29) (pc := 22) rfl rfl (by omega) (by omega) (by omega) (by omega) (fun (c7 : ¬ v2 = 3) => ?_) (fun (c7 : ¬ (¬ v2 = 3)) => ?_)
      · refine zx_T.s (i := .iconst 1) (k := 1) (st' := [.int (zI (1)), .ref 20]) (pc := 29) rfl rfl ?_
        refine zw_iv (b := 20) (cj := 122) (q' := zp_m122) (As := [.int (zI (1))]) (rest := []) (pc := 30) rfl rfl rfl rfl rfl rfl rfl (Nat.le_of_ble_eq_true rfl) rfl (Nat.le_of_ble_eq_true rfl) hI ((zm_drop_20 (h := h) hI (n := 1) (by omega) (by omega)).up (Nat.le_of_ble_eq_true rfl)) ?_
        rintro r8 h11 ⟨ih11, w12, r8q, x10⟩
        subst r8q
        try dsimp only at x10
        show zx_T zp_P 1 zp_m23 33 [(2, .int (zI (v2))), (0, .ref 20), (1, .int (zI (a)))] [] h11 _
        refine zx_T.l (i := .aload_n 0) (k := 1) (v := .ref 20) (pc := 33) rfl rfl rfl ?_
        refine zx_T.l (i := .iload_n 1) (k := 1) (v := .int (zI (a))) (pc := 34) rfl rfl rfl ?_
        refine zx_T.l (i := .iload_n 2) (k := 1) (v := .int (zI (v2))) (pc := 35) rfl rfl rfl ?_
        refine zx_T.s (i := .iconst 3) (k := 1) (st' := [.int (zI (3)), .int (zI (v2)), .int (zI (a)), .ref 20]) (pc := 36) rfl rfl ?_
        refine zr_i2 (x := v2) (y := 3) (t := 44) (pc := 37) rfl rfl (by omega) (by omega) (by omega) (by omega) (fun (c13 : ¬ v2 = 3) => ?_) (fun (c13 : ¬ (¬ v2 = 3)) => False.elim (by omega))
        refine zx_T.l (i := .iload_n 2) (k := 1) (v := .int (zI (v2))) (pc := 44) rfl rfl rfl ?_
        refine zw_iv (b := 20) (cj := 124) (q' := zp_m124) (As := [.int (zI (a)), .int (zI (v2))]) (rest := []) (pc := 45) rfl rfl rfl rfl rfl rfl rfl (Nat.le_of_ble_eq_true rfl) rfl (Nat.le_of_ble_eq_true rfl) ih11 ((zm_store_20 (h := h11) ih11 (a := a) (k := v2) (by omega) (by omega) (by omega) (by omega)).up (Nat.le_of_ble_eq_true rfl)) ?_
        rintro r14 h17 ⟨ih17, w18, v15, r14q, x16⟩
        subst r14q
        try dsimp only at x16
        have sO := x16; simp only [show zv_a h11 21 = zv_a h 21 from funext (fun q => zv_wa w12 rfl q)] at sO; have sE : 0 ≤ v15 ∧ v15 ≤ 4 := (by omega); have tz := zk (zv_f h 20 1 + 7); rw [show zv_f h 20 1 + 7 - 0 = zv_f h 20 1 + 7 by omega] at kD; have wd : zs_wd v2 = 1 := (by unfold zs_wd; split <;> omega); have kV : v2 = zv_a h 21 (zv_f h 20 1 + 7) := (by omega)
        show zx_T zp_P 1 zp_m23 48 [(2, .int (zI (v2))), (0, .ref 20), (1, .int (zI (a)))] [.int (zI (v15))] h17 _
        have y19 : zv_f h17 20 1 = zv_f h11 20 1 := (zv_wf w18 rfl)
        have a21 : ∀ j, 0 ≤ j → zv_a h17 21 j = zv_a h17 21 j := fun j hj => rfl
        exact zr_ir (x := v15) (pc := 48) rfl rfl rfl ⟨ih17, ((w12.wd rfl : zb_W [(20, 1), (21, 0)] h _).tr (w18.wd rfl)), _, rfl, by dsimp only; exact ⟨zc_store_c (by rcases sO with sO | sO <;> (have so1 := sO.1; first | exact Or.inr (Or.inr (Or.inl ⟨by omega, by omega, by omega, by omega, by omega, fun j j0 => by first | exact sO.2.2 j j0 | (rw [sO.2.2 j j0, kV])⟩)) | exact Or.inr (Or.inr (Or.inr (Or.inl ⟨by omega, by omega, by omega, by omega, by omega, fun j j0 => by first | exact sO.2.2 j j0 | (rw [sO.2.2 j j0, kV])⟩))) | exact Or.inr (Or.inr (Or.inr (Or.inr (Or.inl ⟨by omega, by omega, by omega, by omega, by omega, by omega, fun j j0 => by first | exact sO.2.2 j j0 | (rw [sO.2.2 j j0, kV])⟩)))) | exact Or.inr (Or.inr (Or.inr (Or.inr (Or.inr ⟨by omega, by omega, by omega, by omega, by omega, by omega, fun j j0 => by first | exact sO.2.2 j j0 | (rw [sO.2.2 j j0, kV])⟩)))))), by omega, by omega⟩⟩
      · refine zx_T.s (i := .iconst 2) (k := 1) (st' := [.int (zI (2)), .ref 20]) (pc := 25) rfl rfl ?_
        refine zx_T.j (i := .goto 4) (k := 3) (pc' := 30) (st' := [.int (zI (2)), .ref 20]) (pc := 26) rfl rfl rfl rfl rfl ?_
        refine zw_iv (b := 20) (cj := 122) (q' := zp_m122) (As := [.int (zI (2))]) (rest := []) (pc := 30) rfl rfl rfl rfl rfl rfl rfl (Nat.le_of_ble_eq_true rfl) rfl (Nat.le_of_ble_eq_true rfl) hI ((zm_drop_20 (h := h) hI (n := 2) (by omega) (by omega)).up (Nat.le_of_ble_eq_true rfl)) ?_
        rintro r21 h24 ⟨ih24, w25, r21q, x23⟩
        subst r21q
        try dsimp only at x23
        show zx_T zp_P 1 zp_m23 33 [(2, .int (zI (v2))), (0, .ref 20), (1, .int (zI (a)))] [] h24 _
        refine zx_T.l (i := .aload_n 0) (k := 1) (v := .ref 20) (pc := 33) rfl rfl rfl ?_
        refine zx_T.l (i := .iload_n 1) (k := 1) (v := .int (zI (a))) (pc := 34) rfl rfl rfl ?_
        refine zx_T.l (i := .iload_n 2) (k := 1) (v := .int (zI (v2))) (pc := 35) rfl rfl rfl ?_
        refine zx_T.s (i := .iconst 3) (k := 1) (st' := [.int (zI (3)), .int (zI (v2)), .int (zI (a)), .ref 20]) (pc := 36) rfl rfl ?_
        refine zr_i2 (x := v2) (y := 3) (t := 44) (pc := 37) rfl rfl (by omega) (by omega) (by omega) (by omega) (fun (c26 : ¬ v2 = 3) => False.elim (by omega)) (fun (c26 : ¬ (¬ v2 = 3)) => ?_)
        refine zx_T.s (i := .iconst 2) (k := 1) (st' := [.int (zI (2)), .int (zI (a)), .ref 20]) (pc := 40) rfl rfl ?_
        refine zx_T.j (i := .goto 4) (k := 3) (pc' := 45) (st' := [.int (zI (2)), .int (zI (a)), .ref 20]) (pc := 41) rfl rfl rfl rfl rfl ?_
        refine zw_iv (b := 20) (cj := 124) (q' := zp_m124) (As := [.int (zI (a)), .int (zI (2))]) (rest := []) (pc := 45) rfl rfl rfl rfl rfl rfl rfl (Nat.le_of_ble_eq_true rfl) rfl (Nat.le_of_ble_eq_true rfl) ih24 ((zm_store_20 (h := h24) ih24 (a := a) (k := 2) (by omega) (by omega) (by omega) (by omega)).up (Nat.le_of_ble_eq_true rfl)) ?_
        rintro r27 h30 ⟨ih30, w31, v28, r27q, x29⟩
        subst r27q
        try dsimp only at x29
        have sO := x29; simp only [show zv_a h24 21 = zv_a h 21 from funext (fun q => zv_wa w25 rfl q)] at sO; have sE : 0 ≤ v28 ∧ v28 ≤ 4 := (by omega); have tz := zk (zv_f h 20 1 + 7); rw [show zv_f h 20 1 + 7 - 0 = zv_f h 20 1 + 7 by omega] at kD; have wd : zs_wd 2 = 2 := (by unfold zs_wd; split <;> omega)
        show zx_T zp_P 1 zp_m23 48 [(2, .int (zI (v2))), (0, .ref 20), (1, .int (zI (a)))] [.int (zI (v28))] h30 _
        have y32 : zv_f h30 20 1 = zv_f h24 20 1 := (zv_wf w31 rfl)
        have a21 : ∀ j, 0 ≤ j → zv_a h30 21 j = zv_a h30 21 j := fun j hj => rfl
        exact zr_ir (x := v28) (pc := 48) rfl rfl rfl ⟨ih30, ((w25.wd rfl : zb_W [(20, 1), (21, 0)] h _).tr (w31.wd rfl)), _, rfl, by dsimp only; exact ⟨zc_store_c (by rcases sO with sO | sO <;> (have so1 := sO.1; first | exact Or.inr (Or.inr (Or.inl ⟨by omega, by omega, by omega, by omega, by omega, fun j j0 => by first | exact sO.2.2 j j0 | (rw [sO.2.2 j j0, kV])⟩)) | exact Or.inr (Or.inr (Or.inr (Or.inl ⟨by omega, by omega, by omega, by omega, by omega, fun j j0 => by first | exact sO.2.2 j j0 | (rw [sO.2.2 j j0, kV])⟩))) | exact Or.inr (Or.inr (Or.inr (Or.inr (Or.inl ⟨by omega, by omega, by omega, by omega, by omega, by omega, fun j j0 => by first | exact sO.2.2 j j0 | (rw [sO.2.2 j j0, kV])⟩)))) | exact Or.inr (Or.inr (Or.inr (Or.inr (Or.inr ⟨by omega, by omega, by omega, by omega, by omega, by omega, fun j j0 => by first | exact sO.2.2 j j0 | (rw [sO.2.2 j j0, kV])⟩)))))), by omega, by omega⟩⟩
    · refine zx_T.s (i := .iconst 1) (k := 1) (st' := [.int (zI (1))]) (pc := 17) rfl rfl ?_
      have a21 : ∀ j, 0 ≤ j → zv_a h 21 j = zv_a h 21 j := fun j hj => rfl
      exact zr_ir (x := 1) (pc := 18) rfl rfl rfl ⟨hI, zb_W.rf, _, rfl, by dsimp only; have tz := zk (zv_f h 20 1 + 7); rw [show zv_f h 20 1 + 7 - 0 = zv_f h 20 1 + 7 by omega] at kD; exact ⟨zc_store_c (by first | exact Or.inl ⟨by omega, by omega, by omega, a21⟩ | exact Or.inr (Or.inl ⟨by omega, by omega, by omega, by omega, a21⟩)), by omega, by omega⟩⟩
  · refine zx_T.s (i := .iconst 2) (k := 1) (st' := [.int (zI (2))]) (pc := 11) rfl rfl ?_
    have a21 : ∀ j, 0 ≤ j → zv_a h 21 j = zv_a h 21 j := fun j hj => rfl
    exact zr_ir (x := 2) (pc := 12) rfl rfl rfl ⟨hI, zb_W.rf, _, rfl, by dsimp only; have tz := zk (zv_f h 20 1 + 7); rw [show zv_f h 20 1 + 7 - 0 = zv_f h 20 1 + 7 by omega] at kD; exact ⟨zc_store_c (by first | exact Or.inl ⟨by omega, by omega, by omega, a21⟩ | exact Or.inr (Or.inl ⟨by omega, by omega, by omega, by omega, a21⟩)), by omega, by omega⟩⟩

set_option maxRecDepth 100000 in
set_option maxHeartbeats 4000000 in
theorem zm_exchangeE_20_L {h : zx_H} (hI : zb_I zc_H h) {op : Int} {a : Int} (op1 : 0 ≤ op) (op2 : op ≤ 28) (a1 : -2147483648 ≤ a) (a2 : a ≤ 2147483647) (ca : op = 21 → 5 ≤ a ∧ a ≤ 8) (zk : zk_in (zv_f h 20 1) (zv_a h 21)) (n : Nat) : (∀ {h2 : zx_H} {t : Int} {i : Int} (hI2 : zb_I zc_H h2) (i1 : 0 ≤ i) (i2 : i ≤ 4) (t1 : 0 ≤ t) (t2b : t ≤ 8995) (hw : zb_W [(20, 1)] h h2) (sl : zv_f h2 20 1 ≤ zv_f h 20 1) (hq : zc_take 4 (zc_tk op) (0, zv_f h 20 1, zv_a h 21) = zc_take (4 - i).toNat t (0, zv_f h2 20 1, zv_a h 21)), (4 - i : Int).toNat < n → zx_T zp_P 2 zp_m21 31 [(0, .ref 20), (1, .int (zI (op))), (2, .int (zI (a))), (3, .int (zI (t))), (4, .int (zI (i)))] [] h2 (zr_R [(20, 1), (21, 0)] h (fun e h' => zt_eq (e, zv_f h' 20 1, zv_a h' 21) (zc_ex (zc_tk op) (zc_gv op a) (0, zv_f h 20 1, zv_a h 21)) ∧ 0 ≤ e ∧ e ≤ 3))) := by
  induction n with
  | zero => exact fun _ _ _ _ _ _ _ _ hm => absurd hm (Nat.not_lt_zero _)
  | succ n ih =>
    intro h2 t i hI2 i1 i2 t1 t2b hw sl hq hm
    have hS := zw_ri hI (a := 20) (k := 1) rfl
    have hT := zw_tkr op1 op2
    have hG : ¬ op = 21 → _ := fun z => zw_gvr (a := a) op1 op2 z
    have hS2 := zw_ri hI2 (a := 20) (k := 1) rfl
    refine zx_T.l (i := .iload 4) (k := 2) (v := .int (zI (i))) (pc := 31) rfl rfl rfl ?_
    refine zx_T.s (i := .iconst 4) (k := 1) (st' := [.int (zI (4)), .int (zI (i))]) (pc := 33) rfl rfl ?_
    refine zr_i2 (x := i) (y := 4) (t := 113) (pc := 34) rfl rfl (by omega) (by omega) (by omega) (by omega) (fun (c1 : 4 ≤ i) => ?_) (fun (c1 : ¬ (4 ≤ i)) => ?_)
    · refine zx_T.l (i := .iload_n 1) (k := 1) (v := .int (zI (op))) (pc := 113) rfl rfl rfl ?_
      refine zx_T.s (i := .bipush 21) (k := 2) (st' := [.int (zI (21)), .int (zI (op))]) (pc := 114) rfl rfl ?_
      refine zr_i2 (x := op) (y := 21) (t := 123) (pc := 116) rfl rfl (by omega) (by omega) (by omega) (by omega) (fun (c2 : ¬ op = 21) => ?_) (fun (c2 : ¬ (¬ op = 21)) => ?_)
      · refine zw_gs (k := 1000001) (pc := 123) rfl rfl ?_
        refine zx_T.l (i := .iload_n 1) (k := 1) (v := .int (zI (op))) (pc := 126) rfl rfl rfl ?_
        refine zw_sa (n := 29) (e := zc_gv op a) (pc := 127) rfl hI2 rfl rfl rfl (by omega) (by omega) (zw_gv (a := a) (by omega) (by omega) (by omega)) ?_
        have gv : op = 21 → zc_gv op a = a := fun z => by unfold zc_gv; rw [if_pos z]
        refine zx_T.t (i := .istore 4) (k := 2) (ls' := [(4, .int (zI (zc_gv op a))), (0, .ref 20), (1, .int (zI (op))), (2, .int (zI (a))), (3, .int (zI (t)))]) (st' := []) (pc := 128) rfl rfl rfl rfl ?_
        refine zx_T.l (i := .iload 4) (k := 2) (v := .int (zI (zc_gv op a))) (pc := 130) rfl rfl rfl ?_
        refine zr_i1 (x := zc_gv op a) (t := 139) (pc := 132) rfl rfl (by omega) (by omega) (fun (c3 : ¬ (zc_gv op a) = 0) => ?_) (fun (c3 : ¬ (¬ (zc_gv op a) = 0)) => ?_)
        · refine zx_T.l (i := .aload_n 0) (k := 1) (v := .ref 20) (pc := 139) rfl rfl rfl ?_
          refine zx_T.l (i := .iload 4) (k := 2) (v := .int (zI (zc_gv op a))) (pc := 140) rfl rfl rfl ?_
          refine zw_iv (b := 20) (cj := 123) (q' := zp_m123) (As := [.int (zI (zc_gv op a))]) (rest := []) (pc := 142) rfl rfl rfl rfl rfl rfl rfl (Nat.le_of_ble_eq_true rfl) rfl (Nat.le_of_ble_eq_true rfl) hI2 ((zm_push_20 (h := h2) hI2 (k := zc_gv op a) (by omega) (by omega)).up (Nat.le_of_ble_eq_true rfl)) ?_
          rintro r4 h7 ⟨ih7, w8, v5, r4q, x6⟩
          subst r4q
          try dsimp only at x6
          have pX := x6.1; rw [show zv_a h2 21 = zv_a h 21 from funext (fun q => zv_wa hw rfl q)] at pX
          show zx_T zp_P 2 zp_m21 145 [(4, .int (zI (zc_gv op a))), (0, .ref 20), (1, .int (zI (op))), (2, .int (zI (a))), (3, .int (zI (t)))] [.int (zI (v5))] h7 _
          exact zr_ir (x := v5) (pc := 145) rfl rfl rfl ⟨ih7, ((hw.wd rfl : zb_W [(20, 1), (21, 0)] h _).tr (w8.wd rfl)), _, rfl, by dsimp only; exact ⟨by rw [zc_ex_0 (hq.trans (zc_take_e (by omega))) rfl, if_neg (show ¬ zc_gv op a = 0 by omega)]; exact pX, by omega, by omega⟩⟩
        · refine zx_T.s (i := .iconst 0) (k := 1) (st' := [.int (zI (0))]) (pc := 135) rfl rfl ?_
          refine zx_T.j (i := .goto 9) (k := 3) (pc' := 145) (st' := [.int (zI (0))]) (pc := 136) rfl rfl rfl rfl rfl ?_
          exact zr_ir (x := 0) (pc := 145) rfl rfl rfl ⟨hI2, (hw.wd rfl : zb_W [(20, 1), (21, 0)] h _), _, rfl, by dsimp only; exact ⟨by rw [zc_ex_0 (hq.trans (zc_take_e (by omega))) rfl, if_pos (show zc_gv op a = 0 by omega)]; exact ⟨rfl, rfl, fun j j0 => zv_wa (hw.wd rfl : zb_W [(20, 1)] h _) rfl j⟩, by omega, by omega⟩⟩
      · refine zx_T.l (i := .iload_n 2) (k := 1) (v := .int (zI (a))) (pc := 119) rfl rfl rfl ?_
        refine zx_T.j (i := .goto 8) (k := 3) (pc' := 128) (st' := [.int (zI (a))]) (pc := 120) rfl rfl rfl rfl rfl ?_
        have gv : op = 21 → zc_gv op a = a := fun z => by unfold zc_gv; rw [if_pos z]
        refine zx_T.t (i := .istore 4) (k := 2) (ls' := [(4, .int (zI (a))), (0, .ref 20), (1, .int (zI (op))), (2, .int (zI (a))), (3, .int (zI (t)))]) (st' := []) (pc := 128) rfl rfl rfl rfl ?_
        refine zx_T.l (i := .iload 4) (k := 2) (v := .int (zI (a))) (pc := 130) rfl rfl rfl ?_
        refine zr_i1 (x := a) (t := 139) (pc := 132) rfl rfl (by omega) (by omega) (fun (c11 : ¬ a = 0) => ?_) (fun (c11 : ¬ (¬ a = 0)) => ?_)
        · refine zx_T.l (i := .aload_n 0) (k := 1) (v := .ref 20) (pc := 139) rfl rfl rfl ?_
          refine zx_T.l (i := .iload 4) (k := 2) (v := .int (zI (a))) (pc := 140) rfl rfl rfl ?_
          refine zw_iv (b := 20) (cj := 123) (q' := zp_m123) (As := [.int (zI (a))]) (rest := []) (pc := 142) rfl rfl rfl rfl rfl rfl rfl (Nat.le_of_ble_eq_true rfl) rfl (Nat.le_of_ble_eq_true rfl) hI2 ((zm_push_20 (h := h2) hI2 (k := a) (by omega) (by omega)).up (Nat.le_of_ble_eq_true rfl)) ?_
          rintro r12 h15 ⟨ih15, w16, v13, r12q, x14⟩
          subst r12q
          try dsimp only at x14
          have pX := x14.1; rw [show zv_a h2 21 = zv_a h 21 from funext (fun q => zv_wa hw rfl q)] at pX; rw [show zs_push a = zs_push (zc_gv op a) from by rw [show zc_gv op a = a from (by unfold zc_gv; rw [if_pos (by omega)])]] at pX
          show zx_T zp_P 2 zp_m21 145 [(4, .int (zI (a))), (0, .ref 20), (1, .int (zI (op))), (2, .int (zI (a))), (3, .int (zI (t)))] [.int (zI (v13))] h15 _
          exact zr_ir (x := v13) (pc := 145) rfl rfl rfl ⟨ih15, ((hw.wd rfl : zb_W [(20, 1), (21, 0)] h _).tr (w16.wd rfl)), _, rfl, by dsimp only; exact ⟨by rw [zc_ex_0 (hq.trans (zc_take_e (by omega))) rfl, if_neg (show ¬ zc_gv op a = 0 by omega)]; exact pX, by omega, by omega⟩⟩
        · refine zx_T.s (i := .iconst 0) (k := 1) (st' := [.int (zI (0))]) (pc := 135) rfl rfl ?_
          refine zx_T.j (i := .goto 9) (k := 3) (pc' := 145) (st' := [.int (zI (0))]) (pc := 136) rfl rfl rfl rfl rfl ?_
          exact zr_ir (x := 0) (pc := 145) rfl rfl rfl ⟨hI2, (hw.wd rfl : zb_W [(20, 1), (21, 0)] h _), _, rfl, by dsimp only; exact ⟨by rw [zc_ex_0 (hq.trans (zc_take_e (by omega))) rfl, if_pos (show zc_gv op a = 0 by omega)]; exact ⟨rfl, rfl, fun j j0 => zv_wa (hw.wd rfl : zb_W [(20, 1)] h _) rfl j⟩, by omega, by omega⟩⟩
    · refine zx_T.l (i := .iload_n 3) (k := 1) (v := .int (zI (t))) (pc := 37) rfl rfl rfl ?_
      refine zr_i1 (x := t) (t := 113) (pc := 38) rfl rfl (by omega) (by omega) (fun (c19 : t = 0) => ?_) (fun (c19 : ¬ (t = 0)) => ?_)
      · refine zx_T.l (i := .iload_n 1) (k := 1) (v := .int (zI (op))) (pc := 113) rfl rfl rfl ?_
        refine zx_T.s (i := .bipush 21) (k := 2) (st' := [.int (zI (21)), .int (zI (op))]) (pc := 114) rfl rfl ?_
        refine zr_i2 (x := op) (y := 21) (t := 123) (pc := 116) rfl rfl (by omega) (by omega) (by omega) (by omega) (fun (c20 : ¬ op = 21) => ?_) (fun (c20 : ¬ (¬ op = 21)) => ?_)
        · refine zw_gs (k := 1000001) (pc := 123) rfl rfl ?_
          refine zx_T.l (i := .iload_n 1) (k := 1) (v := .int (zI (op))) (pc := 126) rfl rfl rfl ?_
          refine zw_sa (n := 29) (e := zc_gv op a) (pc := 127) rfl hI2 rfl rfl rfl (by omega) (by omega) (zw_gv (a := a) (by omega) (by omega) (by omega)) ?_
          have gv : op = 21 → zc_gv op a = a := fun z => by unfold zc_gv; rw [if_pos z]
          refine zx_T.t (i := .istore 4) (k := 2) (ls' := [(4, .int (zI (zc_gv op a))), (0, .ref 20), (1, .int (zI (op))), (2, .int (zI (a))), (3, .int (zI (t)))]) (st' := []) (pc := 128) rfl rfl rfl rfl ?_
          refine zx_T.l (i := .iload 4) (k := 2) (v := .int (zI (zc_gv op a))) (pc := 130) rfl rfl rfl ?_
          refine zr_i1 (x := zc_gv op a) (t := 139) (pc := 132) rfl rfl (by omega) (by omega) (fun (c21 : ¬ (zc_gv op a) = 0) => ?_) (fun (c21 : ¬ (¬ (zc_gv op a) = 0)) => ?_)
          · refine zx_T.l (i := .aload_n 0) (k := 1) (v := .ref 20) (pc := 139) rfl rfl rfl ?_
            refine zx_T.l (i := .iload 4) (k := 2) (v := .int (zI (zc_gv op a))) (pc := 140) rfl rfl rfl ?_
            refine zw_iv (b := 20) (cj := 123) (q' := zp_m123) (As := [.int (zI (zc_gv op a))]) (rest := []) (pc := 142) rfl rfl rfl rfl rfl rfl rfl (Nat.le_of_ble_eq_true rfl) rfl (Nat.le_of_ble_eq_true rfl) hI2 ((zm_push_20 (h := h2) hI2 (k := zc_gv op a) (by omega) (by omega)).up (Nat.le_of_ble_eq_true rfl)) ?_
            rintro r22 h25 ⟨ih25, w26, v23, r22q, x24⟩
            subst r22q
            try dsimp only at x24
            have pX := x24.1; rw [show zv_a h2 21 = zv_a h 21 from funext (fun q => zv_wa hw rfl q)] at pX
            show zx_T zp_P 2 zp_m21 145 [(4, .int (zI (zc_gv op a))), (0, .ref 20), (1, .int (zI (op))), (2, .int (zI (a))), (3, .int (zI (t)))] [.int (zI (v23))] h25 _
            exact zr_ir (x := v23) (pc := 145) rfl rfl rfl ⟨ih25, ((hw.wd rfl : zb_W [(20, 1), (21, 0)] h _).tr (w26.wd rfl)), _, rfl, by dsimp only; exact ⟨by rw [zc_ex_0 (hq.trans (zc_take_e (by omega))) rfl, if_neg (show ¬ zc_gv op a = 0 by omega)]; exact pX, by omega, by omega⟩⟩
          · refine zx_T.s (i := .iconst 0) (k := 1) (st' := [.int (zI (0))]) (pc := 135) rfl rfl ?_
            refine zx_T.j (i := .goto 9) (k := 3) (pc' := 145) (st' := [.int (zI (0))]) (pc := 136) rfl rfl rfl rfl rfl ?_
            exact zr_ir (x := 0) (pc := 145) rfl rfl rfl ⟨hI2, (hw.wd rfl : zb_W [(20, 1), (21, 0)] h _), _, rfl, by dsimp only; exact ⟨by rw [zc_ex_0 (hq.trans (zc_take_e (by omega))) rfl, if_pos (show zc_gv op a = 0 by omega)]; exact ⟨rfl, rfl, fun j j0 => zv_wa (hw.wd rfl : zb_W [(20, 1)] h _) rfl j⟩, by omega, by omega⟩⟩
        · refine zx_T.l (i := .iload_n 2) (k := 1) (v := .int (zI (a))) (pc := 119) rfl rfl rfl ?_
          refine zx_T.j (i := .goto 8) (k := 3) (pc' := 128) (st' := [.int (zI (a))]) (pc := 120) rfl rfl rfl rfl rfl ?_
          have gv : op = 21 → zc_gv op a = a := fun z => by unfold zc_gv; rw [if_pos z]
          refine zx_T.t (i := .istore 4) (k := 2) (ls' := [(4, .int (zI (a))), (0, .ref 20), (1, .int (zI (op))), (2, .int (zI (a))), (3, .int (zI (t)))]) (st' := []) (pc := 128) rfl rfl rfl rfl ?_
          refine zx_T.l (i := .iload 4) (k := 2) (v := .int (zI (a))) (pc := 130) rfl rfl rfl ?_
          refine zr_i1 (x := a) (t := 139) (pc := 132) rfl rfl (by omega) (by omega) (fun (c29 : ¬ a = 0) => ?_) (fun (c29 : ¬ (¬ a = 0)) => ?_)
          · refine zx_T.l (i := .aload_n 0) (k := 1) (v := .ref 20) (pc := 139) rfl rfl rfl ?_
            refine zx_T.l (i := .iload 4) (k := 2) (v := .int (zI (a))) (pc := 140) rfl rfl rfl ?_
            refine zw_iv (b := 20) (cj := 123) (q' := zp_m123) (As := [.int (zI (a))]) (rest := []) (pc := 142) rfl rfl rfl rfl rfl rfl rfl (Nat.le_of_ble_eq_true rfl) rfl (Nat.le_of_ble_eq_true rfl) hI2 ((zm_push_20 (h := h2) hI2 (k := a) (by omega) (by omega)).up (Nat.le_of_ble_eq_true rfl)) ?_
            rintro r30 h33 ⟨ih33, w34, v31, r30q, x32⟩
            subst r30q
            try dsimp only at x32
            have pX := x32.1; rw [show zv_a h2 21 = zv_a h 21 from funext (fun q => zv_wa hw rfl q)] at pX; rw [show zs_push a = zs_push (zc_gv op a) from by rw [show zc_gv op a = a from (by unfold zc_gv; rw [if_pos (by omega)])]] at pX
            show zx_T zp_P 2 zp_m21 145 [(4, .int (zI (a))), (0, .ref 20), (1, .int (zI (op))), (2, .int (zI (a))), (3, .int (zI (t)))] [.int (zI (v31))] h33 _
            exact zr_ir (x := v31) (pc := 145) rfl rfl rfl ⟨ih33, ((hw.wd rfl : zb_W [(20, 1), (21, 0)] h _).tr (w34.wd rfl)), _, rfl, by dsimp only; exact ⟨by rw [zc_ex_0 (hq.trans (zc_take_e (by omega))) rfl, if_neg (show ¬ zc_gv op a = 0 by omega)]; exact pX, by omega, by omega⟩⟩
          · refine zx_T.s (i := .iconst 0) (k := 1) (st' := [.int (zI (0))]) (pc := 135) rfl rfl ?_
            refine zx_T.j (i := .goto 9) (k := 3) (pc' := 145) (st' := [.int (zI (0))]) (pc := 136) rfl rfl rfl rfl rfl ?_
            exact zr_ir (x := 0) (pc := 145) rfl rfl rfl ⟨hI2, (hw.wd rfl : zb_W [(20, 1), (21, 0)] h _), _, rfl, by dsimp only; exact ⟨by rw [zc_ex_0 (hq.trans (zc_take_e (by omega))) rfl, if_pos (show zc_gv op a = 0 by omega)]; exact ⟨rfl, rfl, fun j j0 => zv_wa (hw.wd rfl : zb_W [(20, 1)] h _) rfl j⟩, by omega, by omega⟩⟩
      · refine zx_T.l (i := .aload_n 0) (k := 1) (v := .ref 20) (pc := 41) rfl rfl rfl ?_
        refine zx_T.s (i := .iconst 0) (k := 1) (st' := [.int (zI (0)), .ref 20]) (pc := 42) rfl rfl ?_
        refine zw_iv (b := 20) (cj := 120) (q' := zp_m120) (As := [.int (zI (0))]) (rest := []) (pc := 43) rfl rfl rfl rfl rfl rfl rfl (Nat.le_of_ble_eq_true rfl) rfl (Nat.le_of_ble_eq_true rfl) hI2 ((zm_kindDown_20 (h := h2) hI2 (d := 0) (by omega) (by omega)).up (Nat.le_of_ble_eq_true rfl)) ?_
        rintro r37 h40 ⟨h40q, v38, r37q, x39⟩
        subst h40q r37q
        try dsimp only at x39
        have kD := x39.1
        show zx_T zp_P 2 zp_m21 46 [(0, .ref 20), (1, .int (zI (op))), (2, .int (zI (a))), (3, .int (zI (t))), (4, .int (zI (i)))] [.int (zI (v38))] h2 _
        refine zx_T.t (i := .istore 5) (k := 2) (ls' := [(5, .int (zI (v38))), (0, .ref 20), (1, .int (zI (op))), (2, .int (zI (a))), (3, .int (zI (t))), (4, .int (zI (i)))]) (st' := []) (pc := 46) rfl rfl rfl rfl ?_
        refine zx_T.l (i := .iload 5) (k := 2) (v := .int (zI (v38))) (pc := 48) rfl rfl rfl ?_
        refine zx_T.s (i := .iconst (-1)) (k := 1) (st' := [.int (zI ((-1))), .int (zI (v38))]) (pc := 50) rfl rfl ?_
        refine zr_i2 (x := v38) (y := (-1)) (t := 56) (pc := 51) rfl rfl (by omega) (by omega) (by omega) (by omega) (fun (c41 : ¬ v38 = (-1)) => ?_) (fun (c41 : ¬ (¬ v38 = (-1))) => ?_)
        · rw [show zv_a h2 21 = zv_a h 21 from funext (fun q => zv_wa hw rfl q)] at kD
          have tz := zk (zv_f h2 20 1 + 7) (by omega) (by omega)
          rw [show zv_f h2 20 1 + 7 - 0 = zv_f h2 20 1 + 7 by omega] at kD
          have tn : (4 - i).toNat = (3 - i).toNat + 1 := by omega
          have kv : v38 = zv_a h 21 (zv_f h2 20 1 + 7) := by omega
          refine zx_T.l (i := .iload_n 3) (k := 1) (v := .int (zI (t))) (pc := 56) rfl rfl rfl ?_
          refine zx_T.s (i := .bipush 15) (k := 2) (st' := [.int (zI (15)), .int (zI (t))]) (pc := 57) rfl rfl ?_
          refine zw_and (x := t) (e := t % 16) (pc := 59) rfl (by omega) (by omega) rfl ?_
          refine zx_T.t (i := .istore 6) (k := 2) (ls' := [(6, .int (zI (t % 16))), (5, .int (zI (v38))), (0, .ref 20), (1, .int (zI (op))), (2, .int (zI (a))), (3, .int (zI (t))), (4, .int (zI (i)))]) (st' := []) (pc := 60) rfl rfl rfl rfl ?_
          refine zx_T.l (i := .iload 6) (k := 2) (v := .int (zI (t % 16))) (pc := 62) rfl rfl rfl ?_
          refine zx_T.s (i := .iconst 4) (k := 1) (st' := [.int (zI (4)), .int (zI (t % 16))]) (pc := 64) rfl rfl ?_
          refine zr_i2 (x := t % 16) (y := 4) (t := 82) (pc := 65) rfl rfl (by omega) (by omega) (by omega) (by omega) (fun (c42 : ¬ (t % 16) = 4) => ?_) (fun (c42 : ¬ (¬ (t % 16) = 4)) => ?_)
          · refine zx_T.l (i := .iload 5) (k := 2) (v := .int (zI (v38))) (pc := 82) rfl rfl rfl ?_
            refine zx_T.l (i := .iload 6) (k := 2) (v := .int (zI (t % 16))) (pc := 84) rfl rfl rfl ?_
            refine zr_is (cj := 49) (q' := zp_m49) (As := [.int (zI (v38)), .int (zI (t % 16))]) (rest := []) (pc := 86) rfl rfl rfl rfl rfl rfl (Nat.le_of_ble_eq_true rfl) rfl (Nat.le_of_ble_eq_true rfl) rfl ((zm_goesAsF (h := h2) hI2 (a := v38) (b := t % 16) (by omega) (by omega) (by omega) (by omega)).up (Nat.le_of_ble_eq_true rfl)) ?_
            rintro r43 h46 ⟨h46q, v44, r43q, x45⟩
            subst h46q r43q
            try dsimp only at x45
            have gA := x45.1
            show zx_T zp_P 2 zp_m21 89 [(6, .int (zI (t % 16))), (5, .int (zI (v38))), (0, .ref 20), (1, .int (zI (op))), (2, .int (zI (a))), (3, .int (zI (t))), (4, .int (zI (i)))] [.int (zI (v44))] h2 _
            refine zx_T.t (i := .istore 7) (k := 2) (ls' := [(7, .int (zI (v44))), (6, .int (zI (t % 16))), (5, .int (zI (v38))), (0, .ref 20), (1, .int (zI (op))), (2, .int (zI (a))), (3, .int (zI (t))), (4, .int (zI (i)))]) (st' := []) (pc := 89) rfl rfl rfl rfl ?_
            refine zx_T.l (i := .iload 7) (k := 2) (v := .int (zI (v44))) (pc := 91) rfl rfl rfl ?_
            refine zr_i1 (x := v44) (t := 98) (pc := 93) rfl rfl (by omega) (by omega) (fun (c47 : ¬ v44 = 0) => ?_) (fun (c47 : ¬ (¬ v44 = 0)) => ?_)
            · refine zx_T.l (i := .aload_n 0) (k := 1) (v := .ref 20) (pc := 98) rfl rfl rfl ?_
              refine zx_T.s (i := .iconst 1) (k := 1) (st' := [.int (zI (1)), .ref 20]) (pc := 99) rfl rfl ?_
              refine zw_iv (b := 20) (cj := 122) (q' := zp_m122) (As := [.int (zI (1))]) (rest := []) (pc := 100) rfl rfl rfl rfl rfl rfl rfl (Nat.le_of_ble_eq_true rfl) rfl (Nat.le_of_ble_eq_true rfl) hI2 ((zm_drop_20 (h := h2) hI2 (n := 1) (by omega) (by omega)).up (Nat.le_of_ble_eq_true rfl)) ?_
              rintro r48 h51 ⟨ih51, w52, r48q, x50⟩
              subst r48q
              try dsimp only at x50
              show zx_T zp_P 2 zp_m21 103 [(7, .int (zI (v44))), (6, .int (zI (t % 16))), (5, .int (zI (v38))), (0, .ref 20), (1, .int (zI (op))), (2, .int (zI (a))), (3, .int (zI (t))), (4, .int (zI (i)))] [] h51 _
              refine zx_T.l (i := .iload_n 3) (k := 1) (v := .int (zI (t))) (pc := 103) rfl rfl rfl ?_
              refine zx_T.s (i := .iconst 4) (k := 1) (st' := [.int (zI (4)), .int (zI (t))]) (pc := 104) rfl rfl ?_
              refine zw_ushr (x := t) (e := t / 16) (pc := 105) rfl (by omega) (by omega) rfl ?_
              refine zx_T.t (i := .istore_n 3) (k := 1) (ls' := [(3, .int (zI (t / 16))), (7, .int (zI (v44))), (6, .int (zI (t % 16))), (5, .int (zI (v38))), (0, .ref 20), (1, .int (zI (op))), (2, .int (zI (a))), (4, .int (zI (i)))]) (st' := []) (pc := 106) rfl rfl rfl rfl ?_
              refine zr_inc (x := i) (n := 1) (y := i + 1) (ls' := [(4, .int (zI (i + 1))), (3, .int (zI (t / 16))), (7, .int (zI (v44))), (6, .int (zI (t % 16))), (5, .int (zI (v38))), (0, .ref 20), (1, .int (zI (op))), (2, .int (zI (a)))]) (pc := 107) rfl rfl rfl (by omega) rfl ?_
              refine zx_T.j (i := .goto (-79)) (k := 3) (pc' := 31) (st' := []) (pc := 110) rfl rfl rfl rfl rfl ?_
              refine zx_T.lk (ls' := [(0, .ref 20), (1, .int (zI (op))), (2, .int (zI (a))), (3, .int (zI (t / 16))), (4, .int (zI (i + 1)))]) rfl ⟨rfl, rfl, rfl, rfl, rfl, trivial⟩ ?_
              exact ih (h2 := h51) (t := t / 16) (i := i + 1) ih51 (by omega) (by omega) (by omega) (by omega) ((hw.wd rfl : zb_W [(20, 1)] h _).tr (w52.wd rfl)) (by omega) (hq.trans (by rw [tn, zc_take_s (by omega) (by omega) (zc_fit_a (by first | exact Or.inl ⟨by omega, by omega⟩ | (rw [← kv]; exact Or.inr ⟨by omega, (gA.resolve_right (fun z => absurd z.1 (by omega))).2⟩))), show (4 - (i + 1)).toNat = (3 - i).toNat by omega, show zv_f h2 20 1 - 1 = zv_f h51 20 1 by omega])) (by omega)
            · refine zx_T.s (i := .iconst 1) (k := 1) (st' := [.int (zI (1))]) (pc := 96) rfl rfl ?_
              exact zr_ir (x := 1) (pc := 97) rfl rfl rfl ⟨hI2, (hw.wd rfl : zb_W [(20, 1), (21, 0)] h _), _, rfl, by dsimp only; exact ⟨by rw [zc_ex_f (hq.trans (by rw [tn, zc_take_1 (by omega) (by omega) (zc_fit_b (by first | exact Or.inl ⟨by omega, by omega⟩ | (rw [← kv]; exact Or.inr ⟨by omega, (gA.resolve_left (fun z => absurd z.1 (by omega))).2⟩)))])) (show ¬ (1 : Int) = 0 by decide)]; exact ⟨rfl, rfl, fun j j0 => zv_wa (hw.wd rfl : zb_W [(20, 1)] h _) rfl j⟩, by omega, by omega⟩⟩
          · refine zx_T.l (i := .iload 5) (k := 2) (v := .int (zI (v38))) (pc := 68) rfl rfl rfl ?_
            refine zx_T.s (i := .iconst 4) (k := 1) (st' := [.int (zI (4)), .int (zI (v38))]) (pc := 70) rfl rfl ?_
            refine zr_i2 (x := v38) (y := 4) (t := 78) (pc := 71) rfl rfl (by omega) (by omega) (by omega) (by omega) (fun (c55 : v38 < 4) => ?_) (fun (c55 : ¬ (v38 < 4)) => ?_)
            · refine zx_T.s (i := .iconst 0) (k := 1) (st' := [.int (zI (0))]) (pc := 78) rfl rfl ?_
              refine zx_T.j (i := .goto 10) (k := 3) (pc' := 89) (st' := [.int (zI (0))]) (pc := 79) rfl rfl rfl rfl rfl ?_
              refine zx_T.t (i := .istore 7) (k := 2) (ls' := [(7, .int (zI (0))), (6, .int (zI (t % 16))), (5, .int (zI (v38))), (0, .ref 20), (1, .int (zI (op))), (2, .int (zI (a))), (3, .int (zI (t))), (4, .int (zI (i)))]) (st' := []) (pc := 89) rfl rfl rfl rfl ?_
              refine zx_T.l (i := .iload 7) (k := 2) (v := .int (zI (0))) (pc := 91) rfl rfl rfl ?_
              refine zr_i1 (x := 0) (t := 98) (pc := 93) rfl rfl (by omega) (by omega) (fun (c56 : ¬ 0 = 0) => absurd c56 (by decide)) (fun _ => ?_)
              refine zx_T.s (i := .iconst 1) (k := 1) (st' := [.int (zI (1))]) (pc := 96) rfl rfl ?_
              exact zr_ir (x := 1) (pc := 97) rfl rfl rfl ⟨hI2, (hw.wd rfl : zb_W [(20, 1), (21, 0)] h _), _, rfl, by dsimp only; exact ⟨by rw [zc_ex_f (hq.trans (by rw [tn, zc_take_1 (by omega) (by omega) (zc_fit_b (by first | exact Or.inl ⟨by omega, by omega⟩ | (rw [← kv]; exact Or.inr ⟨by omega, (gA.resolve_left (fun z => absurd z.1 (by omega))).2⟩)))])) (show ¬ (1 : Int) = 0 by decide)]; exact ⟨rfl, rfl, fun j j0 => zv_wa (hw.wd rfl : zb_W [(20, 1)] h _) rfl j⟩, by omega, by omega⟩⟩
            · refine zx_T.s (i := .iconst 1) (k := 1) (st' := [.int (zI (1))]) (pc := 74) rfl rfl ?_
              refine zx_T.j (i := .goto 14) (k := 3) (pc' := 89) (st' := [.int (zI (1))]) (pc := 75) rfl rfl rfl rfl rfl ?_
              refine zx_T.t (i := .istore 7) (k := 2) (ls' := [(7, .int (zI (1))), (6, .int (zI (t % 16))), (5, .int (zI (v38))), (0, .ref 20), (1, .int (zI (op))), (2, .int (zI (a))), (3, .int (zI (t))), (4, .int (zI (i)))]) (st' := []) (pc := 89) rfl rfl rfl rfl ?_
              refine zx_T.l (i := .iload 7) (k := 2) (v := .int (zI (1))) (pc := 91) rfl rfl rfl ?_
              refine zr_i1 (x := 1) (t := 98) (pc := 93) rfl rfl (by omega) (by omega) (fun _ => ?_) (fun (c58 : ¬ (¬ 1 = 0)) => absurd (by decide) c58)
              refine zx_T.l (i := .aload_n 0) (k := 1) (v := .ref 20) (pc := 98) rfl rfl rfl ?_
              refine zx_T.s (i := .iconst 1) (k := 1) (st' := [.int (zI (1)), .ref 20]) (pc := 99) rfl rfl ?_
              refine zw_iv (b := 20) (cj := 122) (q' := zp_m122) (As := [.int (zI (1))]) (rest := []) (pc := 100) rfl rfl rfl rfl rfl rfl rfl (Nat.le_of_ble_eq_true rfl) rfl (Nat.le_of_ble_eq_true rfl) hI2 ((zm_drop_20 (h := h2) hI2 (n := 1) (by omega) (by omega)).up (Nat.le_of_ble_eq_true rfl)) ?_
              rintro r59 h62 ⟨ih62, w63, r59q, x61⟩
              subst r59q
              try dsimp only at x61
              show zx_T zp_P 2 zp_m21 103 [(7, .int (zI (1))), (6, .int (zI (t % 16))), (5, .int (zI (v38))), (0, .ref 20), (1, .int (zI (op))), (2, .int (zI (a))), (3, .int (zI (t))), (4, .int (zI (i)))] [] h62 _
              refine zx_T.l (i := .iload_n 3) (k := 1) (v := .int (zI (t))) (pc := 103) rfl rfl rfl ?_
              refine zx_T.s (i := .iconst 4) (k := 1) (st' := [.int (zI (4)), .int (zI (t))]) (pc := 104) rfl rfl ?_
              refine zw_ushr (x := t) (e := t / 16) (pc := 105) rfl (by omega) (by omega) rfl ?_
              refine zx_T.t (i := .istore_n 3) (k := 1) (ls' := [(3, .int (zI (t / 16))), (7, .int (zI (1))), (6, .int (zI (t % 16))), (5, .int (zI (v38))), (0, .ref 20), (1, .int (zI (op))), (2, .int (zI (a))), (4, .int (zI (i)))]) (st' := []) (pc := 106) rfl rfl rfl rfl ?_
              refine zr_inc (x := i) (n := 1) (y := i + 1) (ls' := [(4, .int (zI (i + 1))), (3, .int (zI (t / 16))), (7, .int (zI (1))), (6, .int (zI (t % 16))), (5, .int (zI (v38))), (0, .ref 20), (1, .int (zI (op))), (2, .int (zI (a)))]) (pc := 107) rfl rfl rfl (by omega) rfl ?_
              refine zx_T.j (i := .goto (-79)) (k := 3) (pc' := 31) (st' := []) (pc := 110) rfl rfl rfl rfl rfl ?_
              refine zx_T.lk (ls' := [(0, .ref 20), (1, .int (zI (op))), (2, .int (zI (a))), (3, .int (zI (t / 16))), (4, .int (zI (i + 1)))]) rfl ⟨rfl, rfl, rfl, rfl, rfl, trivial⟩ ?_
              exact ih (h2 := h62) (t := t / 16) (i := i + 1) ih62 (by omega) (by omega) (by omega) (by omega) ((hw.wd rfl : zb_W [(20, 1)] h _).tr (w63.wd rfl)) (by omega) (hq.trans (by rw [tn, zc_take_s (by omega) (by omega) (zc_fit_a (by first | exact Or.inl ⟨by omega, by omega⟩ | (rw [← kv]; exact Or.inr ⟨by omega, (gA.resolve_right (fun z => absurd z.1 (by omega))).2⟩))), show (4 - (i + 1)).toNat = (3 - i).toNat by omega, show zv_f h2 20 1 - 1 = zv_f h62 20 1 by omega])) (by omega)
        · refine zx_T.s (i := .iconst 2) (k := 1) (st' := [.int (zI (2))]) (pc := 54) rfl rfl ?_
          exact zr_ir (x := 2) (pc := 55) rfl rfl rfl ⟨hI2, (hw.wd rfl : zb_W [(20, 1), (21, 0)] h _), _, rfl, by dsimp only; rw [show zv_a h2 21 = zv_a h 21 from funext (fun q => zv_wa hw rfl q)] at kD; have tz := zk (zv_f h2 20 1 + 7); rw [show zv_f h2 20 1 + 7 - 0 = zv_f h2 20 1 + 7 by omega] at kD; exact ⟨by rw [zc_ex_f (hq.trans (by rw [show (4 - i).toNat = (3 - i).toNat + 1 by omega, zc_take_2 (by omega) (by omega)])) (show ¬ (2 : Int) = 0 by decide)]; exact ⟨rfl, rfl, fun j j0 => zv_wa (hw.wd rfl : zb_W [(20, 1)] h _) rfl j⟩, by omega, by omega⟩⟩
set_option maxRecDepth 100000 in
set_option maxHeartbeats 4000000 in
theorem zm_exchangeE_20 {h : zx_H} (hI : zb_I zc_H h) {op : Int} {a : Int} (op1 : 0 ≤ op) (op2 : op ≤ 28) (a1 : -2147483648 ≤ a) (a2 : a ≤ 2147483647) (ca : op = 21 → 5 ≤ a ∧ a ≤ 8) (zk : zk_in (zv_f h 20 1) (zv_a h 21)) : zx_T zp_P 2 zp_m21 0 [(0, .ref 20), (1, .int (zI (op))), (2, .int (zI (a)))] [] h (zr_R [(20, 1), (21, 0)] h (fun e h' => zt_eq (e, zv_f h' 20 1, zv_a h' 21) (zc_ex (zc_tk op) (zc_gv op a) (0, zv_f h 20 1, zv_a h 21)) ∧ 0 ≤ e ∧ e ≤ 3)) := by
  have hS := zw_ri hI (a := 20) (k := 1) rfl
  have hT := zw_tkr op1 op2
  have hG : ¬ op = 21 → _ := fun z => zw_gvr (a := a) op1 op2 z
  refine zx_T.l (i := .iload_n 1) (k := 1) (v := .int (zI (op))) (pc := 0) rfl rfl rfl ?_
  refine zr_i1 (x := op) (t := 20) (pc := 1) rfl rfl (by omega) (by omega) (fun (c66 : op < 0) => False.elim (by omega)) (fun (c66 : ¬ (op < 0)) => ?_)
  refine zx_T.l (i := .iload_n 1) (k := 1) (v := .int (zI (op))) (pc := 4) rfl rfl rfl ?_
  refine zw_gs (k := 1000000) (pc := 5) rfl rfl ?_
  refine zw_sl (e := 29) (pc := 8) rfl hI rfl rfl rfl ?_
  refine zr_i2 (x := op) (y := 29) (t := 20) (pc := 9) rfl rfl (by omega) (by omega) (by omega) (by omega) (fun (c67 : 29 ≤ op) => False.elim (by omega)) (fun (c67 : ¬ (29 ≤ op)) => ?_)
  refine zx_T.l (i := .iload_n 1) (k := 1) (v := .int (zI (op))) (pc := 12) rfl rfl rfl ?_
  refine zw_gs (k := 1000001) (pc := 13) rfl rfl ?_
  refine zw_sl (e := 29) (pc := 16) rfl hI rfl rfl rfl ?_
  refine zr_i2 (x := op) (y := 29) (t := 22) (pc := 17) rfl rfl (by omega) (by omega) (by omega) (by omega) (fun (c68 : op < 29) => ?_) (fun (c68 : ¬ (op < 29)) => False.elim (by omega))
  refine zw_gs (k := 1000000) (pc := 22) rfl rfl ?_
  refine zx_T.l (i := .iload_n 1) (k := 1) (v := .int (zI (op))) (pc := 25) rfl rfl rfl ?_
  refine zw_sa (n := 29) (e := zc_tk op) (pc := 26) rfl hI rfl rfl rfl (by omega) (by omega) (zw_tk (by omega) (by omega)) ?_
  refine zx_T.t (i := .istore_n 3) (k := 1) (ls' := [(3, .int (zI (zc_tk op))), (0, .ref 20), (1, .int (zI (op))), (2, .int (zI (a)))]) (st' := []) (pc := 27) rfl rfl rfl rfl ?_
  refine zx_T.s (i := .iconst 0) (k := 1) (st' := [.int (zI (0))]) (pc := 28) rfl rfl ?_
  refine zx_T.t (i := .istore 4) (k := 2) (ls' := [(4, .int (zI (0))), (3, .int (zI (zc_tk op))), (0, .ref 20), (1, .int (zI (op))), (2, .int (zI (a)))]) (st' := []) (pc := 29) rfl rfl rfl rfl ?_
  refine zx_T.lk (ls' := [(0, .ref 20), (1, .int (zI (op))), (2, .int (zI (a))), (3, .int (zI (zc_tk op))), (4, .int (zI (0)))]) rfl ⟨rfl, rfl, rfl, rfl, rfl, trivial⟩ ?_
  exact zm_exchangeE_20_L (h := h) hI (op := op) (a := a) op1 op2 a1 a2 ca zk ((4 - 0 : Int).toNat + 1) (h2 := h) (t := zc_tk op) (i := 0) hI (by omega) (by omega) (by omega) (by omega) zb_W.rf (by omega) rfl (Nat.lt_succ_self _)
