/-! ===== 97t: the reference, method by method (by program) ===== -/
set_option maxRecDepth 100000 in
set_option maxHeartbeats 4000000 in
theorem zm_storeE_23 {h : zx_H} (hI : zb_I zc_H h) {a : Int} (a1 : -2147483648 ≤ a) (a2 : a ≤ 2147483647) (zk : zk_in (zv_f h 23 1) (zv_a h 24)) (t2 : 1 ≤ zv_f h 23 1 → ¬ zv_a h 24 (zv_f h 23 1 + 7) = 2 ∧ (zv_a h 24 (zv_f h 23 1 + 7) = 3 → 2 ≤ zv_f h 23 1)) : zx_T zp_P 1 zp_m23 0 [(0, .ref 23), (1, .int (zI (a)))] [] h (zr_R [(23, 1), (24, 0)] h (fun e h' => zt_eq (e, zv_f h' 23 1, zv_a h' 24) (zc_store a (0, zv_f h 23 1, zv_a h 24)) ∧ 0 ≤ e ∧ e ≤ 4)) := by
  have hS := zw_ri hI (a := 23) (k := 1) rfl
  refine zx_T.l (i := .aload_n 0) (k := 1) (v := .ref 23) (pc := 0) rfl rfl rfl ?_
  refine zx_T.s (i := .iconst 0) (k := 1) (st' := [.int (zI (0)), .ref 23]) (pc := 1) rfl rfl ?_
  refine zw_iv (b := 23) (cj := 120) (q' := zp_m120) (As := [.int (zI (0))]) (rest := []) (pc := 2) rfl rfl rfl rfl rfl rfl rfl (Nat.le_of_ble_eq_true rfl) rfl (Nat.le_of_ble_eq_true rfl) hI ((zm_kindDown_23 (h := h) hI (d := 0) (by omega) (by omega)).up (Nat.le_of_ble_eq_true rfl)) ?_
  rintro r1 h4 ⟨h4q, v2, r1q, x3⟩
  subst h4q r1q
  try dsimp only at x3
  have kD := x3.1
  show zx_T zp_P 1 zp_m23 5 [(0, .ref 23), (1, .int (zI (a)))] [.int (zI (v2))] h _
  refine zx_T.t (i := .istore_n 2) (k := 1) (ls' := [(2, .int (zI (v2))), (0, .ref 23), (1, .int (zI (a)))]) (st' := []) (pc := 5) rfl rfl rfl rfl ?_
  refine zx_T.l (i := .iload_n 2) (k := 1) (v := .int (zI (v2))) (pc := 6) rfl rfl rfl ?_
  refine zx_T.s (i := .iconst (-1)) (k := 1) (st' := [.int (zI ((-1))), .int (zI (v2))]) (pc := 7) rfl rfl ?_
  refine zr_i2 (x := v2) (y := (-1)) (t := 13) (pc := 8) rfl rfl (by omega) (by omega) (by omega) (by omega) (fun (c5 : ¬ v2 = (-1)) => ?_) (fun (c5 : ¬ (¬ v2 = (-1))) => ?_)
  · refine zx_T.l (i := .iload_n 2) (k := 1) (v := .int (zI (v2))) (pc := 13) rfl rfl rfl ?_
    refine zr_i1 (x := v2) (t := 19) (pc := 14) rfl rfl (by omega) (by omega) (fun (c6 : ¬ v2 = 0) => ?_) (fun (c6 : ¬ (¬ v2 = 0)) => ?_)
    · refine zx_T.l (i := .aload_n 0) (k := 1) (v := .ref 23) (pc := 19) rfl rfl rfl ?_
      refine zx_T.l (i := .iload_n 2) (k := 1) (v := .int (zI (v2))) (pc := 20) rfl rfl rfl ?_
      refine zx_T.s (i := .iconst 3) (k := 1) (st' := [.int (zI (3)), .int (zI (v2)), .ref 23]) (pc := 21) rfl rfl ?_
      refine zr_i2 (x := v2) (y := 3) (t := 29) (pc := 22) rfl rfl (by omega) (by omega) (by omega) (by omega) (fun (c7 : ¬ v2 = 3) => ?_) (fun (c7 : ¬ (¬ v2 = 3)) => ?_)
      · refine zx_T.s (i := .iconst 1) (k := 1) (st' := [.int (zI (1)), .ref 23]) (pc := 29) rfl rfl ?_
        refine zw_iv (b := 23) (cj := 122) (q' := zp_m122) (As := [.int (zI (1))]) (rest := []) (pc := 30) rfl rfl rfl rfl rfl rfl rfl (Nat.le_of_ble_eq_true rfl) rfl (Nat.le_of_ble_eq_true rfl) hI ((zm_drop_23 (h := h) hI (n := 1) (by omega) (by omega)).up (Nat.le_of_ble_eq_true rfl)) ?_
        rintro r8 h11 ⟨ih11, w12, r8q, x10⟩
        subst r8q
        try dsimp only at x10
        show zx_T zp_P 1 zp_m23 33 [(2, .int (zI (v2))), (0, .ref 23), (1, .int (zI (a)))] [] h11 _
        refine zx_T.l (i := .aload_n 0) (k := 1) (v := .ref 23) (pc := 33) rfl rfl rfl ?_
        refine zx_T.l (i := .iload_n 1) (k := 1) (v := .int (zI (a))) (pc := 34) rfl rfl rfl ?_
        refine zx_T.l (i := .iload_n 2) (k := 1) (v := .int (zI (v2))) (pc := 35) rfl rfl rfl ?_
        refine zx_T.s (i := .iconst 3) (k := 1) (st' := [.int (zI (3)), .int (zI (v2)), .int (zI (a)), .ref 23]) (pc := 36) rfl rfl ?_
        refine zr_i2 (x := v2) (y := 3) (t := 44) (pc := 37) rfl rfl (by omega) (by omega) (by omega) (by omega) (fun (c13 : ¬ v2 = 3) => ?_) (fun (c13 : ¬ (¬ v2 = 3)) => False.elim (by omega))
        refine zx_T.l (i := .iload_n 2) (k := 1) (v := .int (zI (v2))) (pc := 44) rfl rfl rfl ?_
        refine zw_iv (b := 23) (cj := 124) (q' := zp_m124) (As := [.int (zI (a)), .int (zI (v2))]) (rest := []) (pc := 45) rfl rfl rfl rfl rfl rfl rfl (Nat.le_of_ble_eq_true rfl) rfl (Nat.le_of_ble_eq_true rfl) ih11 ((zm_store_23 (h := h11) ih11 (a := a) (k := v2) (by omega) (by omega) (by omega) (by omega)).up (Nat.le_of_ble_eq_true rfl)) ?_
        rintro r14 h17 ⟨ih17, w18, v15, r14q, x16⟩
        subst r14q
        try dsimp only at x16
        have sO := x16; simp only [show zv_a h11 24 = zv_a h 24 from funext (fun q => zv_wa w12 rfl q)] at sO; have sE : 0 ≤ v15 ∧ v15 ≤ 4 := (by omega); have tz := zk (zv_f h 23 1 + 7); rw [show zv_f h 23 1 + 7 - 0 = zv_f h 23 1 + 7 by omega] at kD; have wd : zs_wd v2 = 1 := (by unfold zs_wd; split <;> omega); have kV : v2 = zv_a h 24 (zv_f h 23 1 + 7) := (by omega)
        show zx_T zp_P 1 zp_m23 48 [(2, .int (zI (v2))), (0, .ref 23), (1, .int (zI (a)))] [.int (zI (v15))] h17 _
        have y19 : zv_f h17 23 1 = zv_f h11 23 1 := (zv_wf w18 rfl)
        have a24 : ∀ j, 0 ≤ j → zv_a h17 24 j = zv_a h17 24 j := fun j hj => rfl
        exact zr_ir (x := v15) (pc := 48) rfl rfl rfl ⟨ih17, ((w12.wd rfl : zb_W [(23, 1), (24, 0)] h _).tr (w18.wd rfl)), _, rfl, by dsimp only; exact ⟨zc_store_c (by rcases sO with sO | sO <;> (have so1 := sO.1; first | exact Or.inr (Or.inr (Or.inl ⟨by omega, by omega, by omega, by omega, by omega, fun j j0 => by first | exact sO.2.2 j j0 | (rw [sO.2.2 j j0, kV])⟩)) | exact Or.inr (Or.inr (Or.inr (Or.inl ⟨by omega, by omega, by omega, by omega, by omega, fun j j0 => by first | exact sO.2.2 j j0 | (rw [sO.2.2 j j0, kV])⟩))) | exact Or.inr (Or.inr (Or.inr (Or.inr (Or.inl ⟨by omega, by omega, by omega, by omega, by omega, by omega, fun j j0 => by first | exact sO.2.2 j j0 | (rw [sO.2.2 j j0, kV])⟩)))) | exact Or.inr (Or.inr (Or.inr (Or.inr (Or.inr ⟨by omega, by omega, by omega, by omega, by omega, by omega, fun j j0 => by first | exact sO.2.2 j j0 | (rw [sO.2.2 j j0, kV])⟩)))))), by omega, by omega⟩⟩
      · refine zx_T.s (i := .iconst 2) (k := 1) (st' := [.int (zI (2)), .ref 23]) (pc := 25) rfl rfl ?_
        refine zx_T.j (i := .goto 4) (k := 3) (pc' := 30) (st' := [.int (zI (2)), .ref 23]) (pc := 26) rfl rfl rfl rfl rfl ?_
        refine zw_iv (b := 23) (cj := 122) (q' := zp_m122) (As := [.int (zI (2))]) (rest := []) (pc := 30) rfl rfl rfl rfl rfl rfl rfl (Nat.le_of_ble_eq_true rfl) rfl (Nat.le_of_ble_eq_true rfl) hI ((zm_drop_23 (h := h) hI (n := 2) (by omega) (by omega)).up (Nat.le_of_ble_eq_true rfl)) ?_
        rintro r21 h24 ⟨ih24, w25, r21q, x23⟩
        subst r21q
        try dsimp only at x23
        show zx_T zp_P 1 zp_m23 33 [(2, .int (zI (v2))), (0, .ref 23), (1, .int (zI (a)))] [] h24 _
        refine zx_T.l (i := .aload_n 0) (k := 1) (v := .ref 23) (pc := 33) rfl rfl rfl ?_
        refine zx_T.l (i := .iload_n 1) (k := 1) (v := .int (zI (a))) (pc := 34) rfl rfl rfl ?_
        refine zx_T.l (i := .iload_n 2) (k := 1) (v := .int (zI (v2))) (pc := 35) rfl rfl rfl ?_
        refine zx_T.s (i := .iconst 3) (k := 1) (st' := [.int (zI (3)), .int (zI (v2)), .int (zI (a)), .ref 23]) (pc := 36) rfl rfl ?_
        refine zr_i2 (x := v2) (y := 3) (t := 44) (pc := 37) rfl rfl (by omega) (by omega) (by omega) (by omega) (fun (c26 : ¬ v2 = 3) => False.elim (by omega)) (fun (c26 : ¬ (¬ v2 = 3)) => ?_)
        refine zx_T.s (i := .iconst 2) (k := 1) (st' := [.int (zI (2)), .int (zI (a)), .ref 23]) (pc := 40) rfl rfl ?_
        refine zx_T.j (i := .goto 4) (k := 3) (pc' := 45) (st' := [.int (zI (2)), .int (zI (a)), .ref 23]) (pc := 41) rfl rfl rfl rfl rfl ?_
        refine zw_iv (b := 23) (cj := 124) (q' := zp_m124) (As := [.int (zI (a)), .int (zI (2))]) (rest := []) (pc := 45) rfl rfl rfl rfl rfl rfl rfl (Nat.le_of_ble_eq_true rfl) rfl (Nat.le_of_ble_eq_true rfl) ih24 ((zm_store_23 (h := h24) ih24 (a := a) (k := 2) (by omega) (by omega) (by omega) (by omega)).up (Nat.le_of_ble_eq_true rfl)) ?_
        rintro r27 h30 ⟨ih30, w31, v28, r27q, x29⟩
        subst r27q
        try dsimp only at x29
        have sO := x29; simp only [show zv_a h24 24 = zv_a h 24 from funext (fun q => zv_wa w25 rfl q)] at sO; have sE : 0 ≤ v28 ∧ v28 ≤ 4 := (by omega); have tz := zk (zv_f h 23 1 + 7); rw [show zv_f h 23 1 + 7 - 0 = zv_f h 23 1 + 7 by omega] at kD; have wd : zs_wd 2 = 2 := (by unfold zs_wd; split <;> omega)
        show zx_T zp_P 1 zp_m23 48 [(2, .int (zI (v2))), (0, .ref 23), (1, .int (zI (a)))] [.int (zI (v28))] h30 _
        have y32 : zv_f h30 23 1 = zv_f h24 23 1 := (zv_wf w31 rfl)
        have a24 : ∀ j, 0 ≤ j → zv_a h30 24 j = zv_a h30 24 j := fun j hj => rfl
        exact zr_ir (x := v28) (pc := 48) rfl rfl rfl ⟨ih30, ((w25.wd rfl : zb_W [(23, 1), (24, 0)] h _).tr (w31.wd rfl)), _, rfl, by dsimp only; exact ⟨zc_store_c (by rcases sO with sO | sO <;> (have so1 := sO.1; first | exact Or.inr (Or.inr (Or.inl ⟨by omega, by omega, by omega, by omega, by omega, fun j j0 => by first | exact sO.2.2 j j0 | (rw [sO.2.2 j j0, kV])⟩)) | exact Or.inr (Or.inr (Or.inr (Or.inl ⟨by omega, by omega, by omega, by omega, by omega, fun j j0 => by first | exact sO.2.2 j j0 | (rw [sO.2.2 j j0, kV])⟩))) | exact Or.inr (Or.inr (Or.inr (Or.inr (Or.inl ⟨by omega, by omega, by omega, by omega, by omega, by omega, fun j j0 => by first | exact sO.2.2 j j0 | (rw [sO.2.2 j j0, kV])⟩)))) | exact Or.inr (Or.inr (Or.inr (Or.inr (Or.inr ⟨by omega, by omega, by omega, by omega, by omega, by omega, fun j j0 => by first | exact sO.2.2 j j0 | (rw [sO.2.2 j j0, kV])⟩)))))), by omega, by omega⟩⟩
    · refine zx_T.s (i := .iconst 1) (k := 1) (st' := [.int (zI (1))]) (pc := 17) rfl rfl ?_
      have a24 : ∀ j, 0 ≤ j → zv_a h 24 j = zv_a h 24 j := fun j hj => rfl
      exact zr_ir (x := 1) (pc := 18) rfl rfl rfl ⟨hI, zb_W.rf, _, rfl, by dsimp only; have tz := zk (zv_f h 23 1 + 7); rw [show zv_f h 23 1 + 7 - 0 = zv_f h 23 1 + 7 by omega] at kD; exact ⟨zc_store_c (by first | exact Or.inl ⟨by omega, by omega, by omega, a24⟩ | exact Or.inr (Or.inl ⟨by omega, by omega, by omega, by omega, a24⟩)), by omega, by omega⟩⟩
  · refine zx_T.s (i := .iconst 2) (k := 1) (st' := [.int (zI (2))]) (pc := 11) rfl rfl ?_
    have a24 : ∀ j, 0 ≤ j → zv_a h 24 j = zv_a h 24 j := fun j hj => rfl
    exact zr_ir (x := 2) (pc := 12) rfl rfl rfl ⟨hI, zb_W.rf, _, rfl, by dsimp only; have tz := zk (zv_f h 23 1 + 7); rw [show zv_f h 23 1 + 7 - 0 = zv_f h 23 1 + 7 by omega] at kD; exact ⟨zc_store_c (by first | exact Or.inl ⟨by omega, by omega, by omega, a24⟩ | exact Or.inr (Or.inl ⟨by omega, by omega, by omega, by omega, a24⟩)), by omega, by omega⟩⟩

set_option maxRecDepth 100000 in
set_option maxHeartbeats 4000000 in
theorem zm_exchangeE_23_L {h : zx_H} (hI : zb_I zc_H h) {op : Int} {a : Int} (op1 : 0 ≤ op) (op2 : op ≤ 28) (a1 : -2147483648 ≤ a) (a2 : a ≤ 2147483647) (ca : op = 21 → 5 ≤ a ∧ a ≤ 8) (zk : zk_in (zv_f h 23 1) (zv_a h 24)) (n : Nat) : (∀ {h2 : zx_H} {t : Int} {i : Int} (hI2 : zb_I zc_H h2) (i1 : 0 ≤ i) (i2 : i ≤ 4) (t1 : 0 ≤ t) (t2b : t ≤ 8995) (hw : zb_W [(23, 1)] h h2) (sl : zv_f h2 23 1 ≤ zv_f h 23 1) (hq : zc_take 4 (zc_tk op) (0, zv_f h 23 1, zv_a h 24) = zc_take (4 - i).toNat t (0, zv_f h2 23 1, zv_a h 24)), (4 - i : Int).toNat < n → zx_T zp_P 2 zp_m21 31 [(0, .ref 23), (1, .int (zI (op))), (2, .int (zI (a))), (3, .int (zI (t))), (4, .int (zI (i)))] [] h2 (zr_R [(23, 1), (24, 0)] h (fun e h' => zt_eq (e, zv_f h' 23 1, zv_a h' 24) (zc_ex (zc_tk op) (zc_gv op a) (0, zv_f h 23 1, zv_a h 24)) ∧ 0 ≤ e ∧ e ≤ 3))) := by
  induction n with
  | zero => exact fun _ _ _ _ _ _ _ _ hm => absurd hm (Nat.not_lt_zero _)
  | succ n ih =>
    intro h2 t i hI2 i1 i2 t1 t2b hw sl hq hm
    have hS := zw_ri hI (a := 23) (k := 1) rfl
    have hT := zw_tkr op1 op2
    have hG : ¬ op = 21 → _ := fun z => zw_gvr (a := a) op1 op2 z
    have hS2 := zw_ri hI2 (a := 23) (k := 1) rfl
    refine zx_T.l (i := .iload 4) (k := 2) (v := .int (zI (i))) (pc := 31) rfl rfl rfl ?_
    refine zx_T.s (i := .iconst 4) (k := 1) (st' := [.int (zI (4)), .int (zI (i))]) (pc := 33) rfl rfl ?_
    refine zr_i2 (x := i) (y := 4) (t := 113) (pc := 34) rfl rfl (by omega) (by omega) (by omega) (by omega) (fun (c1 : 4 ≤ i) => ?_) (fun (c1 : ¬ (4 ≤ i)) => ?_)
    · refine zx_T.l (i := .iload_n 1) (k := 1) (v := .int (zI (op))) (pc := 113) rfl rfl rfl ?_
      refine zx_T.s (i := .bipush 21) (k := 2) (st' := [.int (zI (21)), .int (zI (op))]) (pc := 114) rfl rfl ?_
      refine zr_i2 (x := op) (y := 21) (t := 123) (pc := 116) rfl rfl (by omega) (by omega) (by omega) (by omega) (fun (c2 : ¬ op = 21) => ?_) (fun (c2 : ¬ (¬ op = 21)) => ?_)
      · refine zw_gs (k := 1000001) (pc := 123) rfl rfl ?_
        refine zx_T.l (i := .iload_n 1) (k := 1) (v := .int (zI (op))) (pc := 126) rfl rfl rfl ?_
        refine zw_sa (n := 29) (e := zc_gv op a) (pc := 127) rfl hI2 rfl rfl rfl (by omega) (by omega) (zw_gv (a := a) (by omega) (by omega) (by omega)) ?_
        have gv : op = 21 → zc_gv op a = a := fun z => by unfold zc_gv; rw [if_pos z]
        refine zx_T.t (i := .istore 4) (k := 2) (ls' := [(4, .int (zI (zc_gv op a))), (0, .ref 23), (1, .int (zI (op))), (2, .int (zI (a))), (3, .int (zI (t)))]) (st' := []) (pc := 128) rfl rfl rfl rfl ?_
        refine zx_T.l (i := .iload 4) (k := 2) (v := .int (zI (zc_gv op a))) (pc := 130) rfl rfl rfl ?_
        refine zr_i1 (x := zc_gv op a) (t := 139) (pc := 132) rfl rfl (by omega) (by omega) (fun (c3 : ¬ (zc_gv op a) = 0) => ?_) (fun (c3 : ¬ (¬ (zc_gv op a) = 0)) => ?_)
        · refine zx_T.l (i := .aload_n 0) (k := 1) (v := .ref 23) (pc := 139) rfl rfl rfl ?_
          refine zx_T.l (i := .iload 4) (k := 2) (v := .int (zI (zc_gv op a))) (pc := 140) rfl rfl rfl ?_
          refine zw_iv (b := 23) (cj := 123) (q' := zp_m123) (As := [.int (zI (zc_gv op a))]) (rest := []) (pc := 142) rfl rfl rfl rfl rfl rfl rfl (Nat.le_of_ble_eq_true rfl) rfl (Nat.le_of_ble_eq_true rfl) hI2 ((zm_push_23 (h := h2) hI2 (k := zc_gv op a) (by omega) (by omega)).up (Nat.le_of_ble_eq_true rfl)) ?_
          rintro r4 h7 ⟨ih7, w8, v5, r4q, x6⟩
          subst r4q
          try dsimp only at x6
          have pX := x6.1; rw [show zv_a h2 24 = zv_a h 24 from funext (fun q => zv_wa hw rfl q)] at pX
          show zx_T zp_P 2 zp_m21 145 [(4, .int (zI (zc_gv op a))), (0, .ref 23), (1, .int (zI (op))), (2, .int (zI (a))), (3, .int (zI (t)))] [.int (zI (v5))] h7 _
          exact zr_ir (x := v5) (pc := 145) rfl rfl rfl ⟨ih7, ((hw.wd rfl : zb_W [(23, 1), (24, 0)] h _).tr (w8.wd rfl)), _, rfl, by dsimp only; exact ⟨by rw [zc_ex_0 (hq.trans (zc_take_e (by omega))) rfl, if_neg (show ¬ zc_gv op a = 0 by omega)]; exact pX, by omega, by omega⟩⟩
        · refine zx_T.s (i := .iconst 0) (k := 1) (st' := [.int (zI (0))]) (pc := 135) rfl rfl ?_
          refine zx_T.j (i := .goto 9) (k := 3) (pc' := 145) (st' := [.int (zI (0))]) (pc := 136) rfl rfl rfl rfl rfl ?_
          exact zr_ir (x := 0) (pc := 145) rfl rfl rfl ⟨hI2, (hw.wd rfl : zb_W [(23, 1), (24, 0)] h _), _, rfl, by dsimp only; exact ⟨by rw [zc_ex_0 (hq.trans (zc_take_e (by omega))) rfl, if_pos (show zc_gv op a = 0 by omega)]; exact ⟨rfl, rfl, fun j j0 => zv_wa (hw.wd rfl : zb_W [(23, 1)] h _) rfl j⟩, by omega, by omega⟩⟩
      · refine zx_T.l (i := .iload_n 2) (k := 1) (v := .int (zI (a))) (pc := 119) rfl rfl rfl ?_
        refine zx_T.j (i := .goto 8) (k := 3) (pc' := 128) (st' := [.int (zI (a))]) (pc := 120) rfl rfl rfl rfl rfl ?_
        have gv : op = 21 → zc_gv op a = a := fun z => by unfold zc_gv; rw [if_pos z]
        refine zx_T.t (i := .istore 4) (k := 2) (ls' := [(4, .int (zI (a))), (0, .ref 23), (1, .int (zI (op))), (2, .int (zI (a))), (3, .int (zI (t)))]) (st' := []) (pc := 128) rfl rfl rfl rfl ?_
        refine zx_T.l (i := .iload 4) (k := 2) (v := .int (zI (a))) (pc := 130) rfl rfl rfl ?_
        refine zr_i1 (x := a) (t := 139) (pc := 132) rfl rfl (by omega) (by omega) (fun (c11 : ¬ a = 0) => ?_) (fun (c11 : ¬ (¬ a = 0)) => ?_)
        · refine zx_T.l (i := .aload_n 0) (k := 1) (v := .ref 23) (pc := 139) rfl rfl rfl ?_
          refine zx_T.l (i := .iload 4) (k := 2) (v := .int (zI (a))) (pc := 140) rfl rfl rfl ?_
          refine zw_iv (b := 23) (cj := 123) (q' := zp_m123) (As := [.int (zI (a))]) (rest := []) (pc := 142) rfl rfl rfl rfl rfl rfl rfl (Nat.le_of_ble_eq_true rfl) rfl (Nat.le_of_ble_eq_true rfl) hI2 ((zm_push_23 (h := h2) hI2 (k := a) (by omega) (by omega)).up (Nat.le_of_ble_eq_true rfl)) ?_
          rintro r12 h15 ⟨ih15, w16, v13, r12q, x14⟩
          subst r12q
          try dsimp only at x14
          have pX := x14.1; rw [show zv_a h2 24 = zv_a h 24 from funext (fun q => zv_wa hw rfl q)] at pX; rw [show zs_push a = zs_push (zc_gv op a) from by rw [show zc_gv op a = a from (by unfold zc_gv; rw [if_pos (by omega)])]] at pX
          show zx_T zp_P 2 zp_m21 145 [(4, .int (zI (a))), (0, .ref 23), (1, .int (zI (op))), (2, .int (zI (a))), (3, .int (zI (t)))] [.int (zI (v13))] h15 _
          exact zr_ir (x := v13) (pc := 145) rfl rfl rfl ⟨ih15, ((hw.wd rfl : zb_W [(23, 1), (24, 0)] h _).tr (w16.wd rfl)), _, rfl, by dsimp only; exact ⟨by rw [zc_ex_0 (hq.trans (zc_take_e (by omega))) rfl, if_neg (show ¬ zc_gv op a = 0 by omega)]; exact pX, by omega, by omega⟩⟩
        · refine zx_T.s (i := .iconst 0) (k := 1) (st' := [.int (zI (0))]) (pc := 135) rfl rfl ?_
          refine zx_T.j (i := .goto 9) (k := 3) (pc' := 145) (st' := [.int (zI (0))]) (pc := 136) rfl rfl rfl rfl rfl ?_
          exact zr_ir (x := 0) (pc := 145) rfl rfl rfl ⟨hI2, (hw.wd rfl : zb_W [(23, 1), (24, 0)] h _), _, rfl, by dsimp only; exact ⟨by rw [zc_ex_0 (hq.trans (zc_take_e (by omega))) rfl, if_pos (show zc_gv op a = 0 by omega)]; exact ⟨rfl, rfl, fun j j0 => zv_wa (hw.wd rfl : zb_W [(23, 1)] h _) rfl j⟩, by omega, by omega⟩⟩
    · refine zx_T.l (i := .iload_n 3) (k := 1) (v := .int (zI (t))) (pc := 37) rfl rfl rfl ?_
      refine zr_i1 (x := t) (t := 113) (pc := 38) rfl rfl (by omega) (by omega) (fun (c19 : t = 0) => ?_) (fun (c19 : ¬ (t = 0)) => ?_)
      · refine zx_T.l (i := .iload_n 1) (k := 1) (v := .int (zI (op))) (pc := 113) rfl rfl rfl ?_
        refine zx_T.s (i := .bipush 21) (k := 2) (st' := [.int (zI (21)), .int (zI (op))]) (pc := 114) rfl rfl ?_
        refine zr_i2 (x := op) (y := 21) (t := 123) (pc := 116) rfl rfl (by omega) (by omega) (by omega) (by omega) (fun (c20 : ¬ op = 21) => ?_) (fun (c20 : ¬ (¬ op = 21)) => ?_)
        · refine zw_gs (k := 1000001) (pc := 123) rfl rfl ?_
          refine zx_T.l (i := .iload_n 1) (k := 1) (v := .int (zI (op))) (pc := 126) rfl rfl rfl ?_
          refine zw_sa (n := 29) (e := zc_gv op a) (pc := 127) rfl hI2 rfl rfl rfl (by omega) (by omega) (zw_gv (a := a) (by omega) (by omega) (by omega)) ?_
          have gv : op = 21 → zc_gv op a = a := fun z => by unfold zc_gv; rw [if_pos z]
          refine zx_T.t (i := .istore 4) (k := 2) (ls' := [(4, .int (zI (zc_gv op a))), (0, .ref 23), (1, .int (zI (op))), (2, .int (zI (a))), (3, .int (zI (t)))]) (st' := []) (pc := 128) rfl rfl rfl rfl ?_
          refine zx_T.l (i := .iload 4) (k := 2) (v := .int (zI (zc_gv op a))) (pc := 130) rfl rfl rfl ?_
          refine zr_i1 (x := zc_gv op a) (t := 139) (pc := 132) rfl rfl (by omega) (by omega) (fun (c21 : ¬ (zc_gv op a) = 0) => ?_) (fun (c21 : ¬ (¬ (zc_gv op a) = 0)) => ?_)
          · refine zx_T.l (i := .aload_n 0) (k := 1) (v := .ref 23) (pc := 139) rfl rfl rfl ?_
            refine zx_T.l (i := .iload 4) (k := 2) (v := .int (zI (zc_gv op a))) (pc := 140) rfl rfl rfl ?_
            refine zw_iv (b := 23) (cj := 123) (q' := zp_m123) (As := [.int (zI (zc_gv op a))]) (rest := []) (pc := 142) rfl rfl rfl rfl rfl rfl rfl (Nat.le_of_ble_eq_true rfl) rfl (Nat.le_of_ble_eq_true rfl) hI2 ((zm_push_23 (h := h2) hI2 (k := zc_gv op a) (by omega) (by omega)).up (Nat.le_of_ble_eq_true rfl)) ?_
            rintro r22 h25 ⟨ih25, w26, v23, r22q, x24⟩
            subst r22q
            try dsimp only at x24
            have pX := x24.1; rw [show zv_a h2 24 = zv_a h 24 from funext (fun q => zv_wa hw rfl q)] at pX
            show zx_T zp_P 2 zp_m21 145 [(4, .int (zI (zc_gv op a))), (0, .ref 23), (1, .int (zI (op))), (2, .int (zI (a))), (3, .int (zI (t)))] [.int (zI (v23))] h25 _
            exact zr_ir (x := v23) (pc := 145) rfl rfl rfl ⟨ih25, ((hw.wd rfl : zb_W [(23, 1), (24, 0)] h _).tr (w26.wd rfl)), _, rfl, by dsimp only; exact ⟨by rw [zc_ex_0 (hq.trans (zc_take_e (by omega))) rfl, if_neg (show ¬ zc_gv op a = 0 by omega)]; exact pX, by omega, by omega⟩⟩
          · refine zx_T.s (i := .iconst 0) (k := 1) (st' := [.int (zI (0))]) (pc := 135) rfl rfl ?_
            refine zx_T.j (i := .goto 9) (k := 3) (pc' := 145) (st' := [.int (zI (0))]) (pc := 136) rfl rfl rfl rfl rfl ?_
            exact zr_ir (x := 0) (pc := 145) rfl rfl rfl ⟨hI2, (hw.wd rfl : zb_W [(23, 1), (24, 0)] h _), _, rfl, by dsimp only; exact ⟨by rw [zc_ex_0 (hq.trans (zc_take_e (by omega))) rfl, if_pos (show zc_gv op a = 0 by omega)]; exact ⟨rfl, rfl, fun j j0 => zv_wa (hw.wd rfl : zb_W [(23, 1)] h _) rfl j⟩, by omega, by omega⟩⟩
        · refine zx_T.l (i := .iload_n 2) (k := 1) (v := .int (zI (a))) (pc := 119) rfl rfl rfl ?_
          refine zx_T.j (i := .goto 8) (k := 3) (pc' := 128) (st' := [.int (zI (a))]) (pc := 120) rfl rfl rfl rfl rfl ?_
          have gv : op = 21 → zc_gv op a = a := fun z => by unfold zc_gv; rw [if_pos z]
          refine zx_T.t (i := .istore 4) (k := 2) (ls' := [(4, .int (zI (a))), (0, .ref 23), (1, .int (zI (op))), (2, .int (zI (a))), (3, .int (zI (t)))]) (st' := []) (pc := 128) rfl rfl rfl rfl ?_
          refine zx_T.l (i := .iload 4) (k := 2) (v := .int (zI (a))) (pc := 130) rfl rfl rfl ?_
          refine zr_i1 (x := a) (t := 139) (pc := 132) rfl rfl (by omega) (by omega) (fun (c29 : ¬ a = 0) => ?_) (fun (c29 : ¬ (¬ a = 0)) => ?_)
          · refine zx_T.l (i := .aload_n 0) (k := 1) (v := .ref 23) (pc := 139) rfl rfl rfl ?_
            refine zx_T.l (i := .iload 4) (k := 2) (v := .int (zI (a))) (pc := 140) rfl rfl rfl ?_
            refine zw_iv (b := 23) (cj := 123) (q' := zp_m123) (As := [.int (zI (a))]) (rest := []) (pc := 142) rfl rfl rfl rfl rfl rfl rfl (Nat.le_of_ble_eq_true rfl) rfl (Nat.le_of_ble_eq_true rfl) hI2 ((zm_push_23 (h := h2) hI2 (k := a) (by omega) (by omega)).up (Nat.le_of_ble_eq_true rfl)) ?_
            rintro r30 h33 ⟨ih33, w34, v31, r30q, x32⟩
            subst r30q
            try dsimp only at x32
            have pX := x32.1; rw [show zv_a h2 24 = zv_a h 24 from funext (fun q => zv_wa hw rfl q)] at pX; rw [show zs_push a = zs_push (zc_gv op a) from by rw [show zc_gv op a = a from (by unfold zc_gv; rw [if_pos (by omega)])]] at pX
            show zx_T zp_P 2 zp_m21 145 [(4, .int (zI (a))), (0, .ref 23), (1, .int (zI (op))), (2, .int (zI (a))), (3, .int (zI (t)))] [.int (zI (v31))] h33 _
            exact zr_ir (x := v31) (pc := 145) rfl rfl rfl ⟨ih33, ((hw.wd rfl : zb_W [(23, 1), (24, 0)] h _).tr (w34.wd rfl)), _, rfl, by dsimp only; exact ⟨by rw [zc_ex_0 (hq.trans (zc_take_e (by omega))) rfl, if_neg (show ¬ zc_gv op a = 0 by omega)]; exact pX, by omega, by omega⟩⟩
          · refine zx_T.s (i := .iconst 0) (k := 1) (st' := [.int (zI (0))]) (pc := 135) rfl rfl ?_
            refine zx_T.j (i := .goto 9) (k := 3) (pc' := 145) (st' := [.int (zI (0))]) (pc := 136) rfl rfl rfl rfl rfl ?_
            exact zr_ir (x := 0) (pc := 145) rfl rfl rfl ⟨hI2, (hw.wd rfl : zb_W [(23, 1), (24, 0)] h _), _, rfl, by dsimp only; exact ⟨by rw [zc_ex_0 (hq.trans (zc_take_e (by omega))) rfl, if_pos (show zc_gv op a = 0 by omega)]; exact ⟨rfl, rfl, fun j j0 => zv_wa (hw.wd rfl : zb_W [(23, 1)] h _) rfl j⟩, by omega, by omega⟩⟩
      · refine zx_T.l (i := .aload_n 0) (k := 1) (v := .ref 23) (pc := 41) rfl rfl rfl ?_
        refine zx_T.s (i := .iconst 0) (k := 1) (st' := [.int (zI (0)), .ref 23]) (pc := 42) rfl rfl ?_
        refine zw_iv (b := 23) (cj := 120) (q' := zp_m120) (As := [.int (zI (0))]) (rest := []) (pc := 43) rfl rfl rfl rfl rfl rfl rfl (Nat.le_of_ble_eq_true rfl) rfl (Nat.le_of_ble_eq_true rfl) hI2 ((zm_kindDown_23 (h := h2) hI2 (d := 0) (by omega) (by omega)).up (Nat.le_of_ble_eq_true rfl)) ?_
        rintro r37 h40 ⟨h40q, v38, r37q, x39⟩
        subst h40q r37q
        try dsimp only at x39
        have kD := x39.1
        show zx_T zp_P 2 zp_m21 46 [(0, .ref 23), (1, .int (zI (op))), (2, .int (zI (a))), (3, .int (zI (t))), (4, .int (zI (i)))] [.int (zI (v38))] h2 _
        refine zx_T.t (i := .istore 5) (k := 2) (ls' := [(5, .int (zI (v38))), (0, .ref 23), (1, .int (zI (op))), (2, .int (zI (a))), (3, .int (zI (t))), (4, .int (zI (i)))]) (st' := []) (pc := 46) rfl rfl rfl rfl ?_
        refine zx_T.l (i := .iload 5) (k := 2) (v := .int (zI (v38))) (pc := 48) rfl rfl rfl ?_
        refine zx_T.s (i := .iconst (-1)) (k := 1) (st' := [.int (zI ((-1))), .int (zI (v38))]) (pc := 50) rfl rfl ?_
        refine zr_i2 (x := v38) (y := (-1)) (t := 56) (pc := 51) rfl rfl (by omega) (by omega) (by omega) (by omega) (fun (c41 : ¬ v38 = (-1)) => ?_) (fun (c41 : ¬ (¬ v38 = (-1))) => ?_)
        · rw [show zv_a h2 24 = zv_a h 24 from funext (fun q => zv_wa hw rfl q)] at kD
          have tz := zk (zv_f h2 23 1 + 7) (by omega) (by omega)
          rw [show zv_f h2 23 1 + 7 - 0 = zv_f h2 23 1 + 7 by omega] at kD
          have tn : (4 - i).toNat = (3 - i).toNat + 1 := by omega
          have kv : v38 = zv_a h 24 (zv_f h2 23 1 + 7) := by omega
          refine zx_T.l (i := .iload_n 3) (k := 1) (v := .int (zI (t))) (pc := 56) rfl rfl rfl ?_
          refine zx_T.s (i := .bipush 15) (k := 2) (st' := [.int (zI (15)), .int (zI (t))]) (pc := 57) rfl rfl ?_
          refine zw_and (x := t) (e := t % 16) (pc := 59) rfl (by omega) (by omega) rfl ?_
          refine zx_T.t (i := .istore 6) (k := 2) (ls' := [(6, .int (zI (t % 16))), (5, .int (zI (v38))), (0, .ref 23), (1, .int (zI (op))), (2, .int (zI (a))), (3, .int (zI (t))), (4, .int (zI (i)))]) (st' := []) (pc := 60) rfl rfl rfl rfl ?_
          refine zx_T.l (i := .iload 6) (k := 2) (v := .int (zI (t % 16))) (pc := 62) rfl rfl rfl ?_
          refine zx_T.s (i := .iconst 4) (k := 1) (st' := [.int (zI (4)), .int (zI (t % 16))]) (pc := 64) rfl rfl ?_
          refine zr_i2 (x := t % 16) (y := 4) (t := 82) (pc := 65) rfl rfl (by omega) (by omega) (by omega) (by omega) (fun (c42 : ¬ (t % 16) = 4) => ?_) (fun (c42 : ¬ (¬ (t % 16) = 4)) => ?_)
          · refine zx_T.l (i := .iload 5) (k := 2) (v := .int (zI (v38))) (pc := 82) rfl rfl rfl ?_
            refine zx_T.l (i := .iload 6) (k := 2) (v := .int (zI (t % 16))) (pc := 84) rfl rfl rfl ?_
            refine zr_is (cj := 49) (q' := zp_m49) (As := [.int (zI (v38)), .int (zI (t % 16))]) (rest := []) (pc := 86) rfl rfl rfl rfl rfl rfl (Nat.le_of_ble_eq_true rfl) rfl (Nat.le_of_ble_eq_true rfl) rfl ((zm_goesAsF (h := h2) hI2 (a := v38) (b := t % 16) (by omega) (by omega) (by omega) (by omega)).up (Nat.le_of_ble_eq_true rfl)) ?_
            rintro r43 h46 ⟨h46q, v44, r43q, x45⟩
            subst h46q r43q
            try dsimp only at x45
            have gA := x45.1
            show zx_T zp_P 2 zp_m21 89 [(6, .int (zI (t % 16))), (5, .int (zI (v38))), (0, .ref 23), (1, .int (zI (op))), (2, .int (zI (a))), (3, .int (zI (t))), (4, .int (zI (i)))] [.int (zI (v44))] h2 _
            refine zx_T.t (i := .istore 7) (k := 2) (ls' := [(7, .int (zI (v44))), (6, .int (zI (t % 16))), (5, .int (zI (v38))), (0, .ref 23), (1, .int (zI (op))), (2, .int (zI (a))), (3, .int (zI (t))), (4, .int (zI (i)))]) (st' := []) (pc := 89) rfl rfl rfl rfl ?_
            refine zx_T.l (i := .iload 7) (k := 2) (v := .int (zI (v44))) (pc := 91) rfl rfl rfl ?_
            refine zr_i1 (x := v44) (t := 98) (pc := 93) rfl rfl (by omega) (by omega) (fun (c47 : ¬ v44 = 0) => ?_) (fun (c47 : ¬ (¬ v44 = 0)) => ?_)
            · refine zx_T.l (i := .aload_n 0) (k := 1) (v := .ref 23) (pc := 98) rfl rfl rfl ?_
              refine zx_T.s (i := .iconst 1) (k := 1) (st' := [.int (zI (1)), .ref 23]) (pc := 99) rfl rfl ?_
              refine zw_iv (b := 23) (cj := 122) (q' := zp_m122) (As := [.int (zI (1))]) (rest := []) (pc := 100) rfl rfl rfl rfl rfl rfl rfl (Nat.le_of_ble_eq_true rfl) rfl (Nat.le_of_ble_eq_true rfl) hI2 ((zm_drop_23 (h := h2) hI2 (n := 1) (by omega) (by omega)).up (Nat.le_of_ble_eq_true rfl)) ?_
              rintro r48 h51 ⟨ih51, w52, r48q, x50⟩
              subst r48q
              try dsimp only at x50
              show zx_T zp_P 2 zp_m21 103 [(7, .int (zI (v44))), (6, .int (zI (t % 16))), (5, .int (zI (v38))), (0, .ref 23), (1, .int (zI (op))), (2, .int (zI (a))), (3, .int (zI (t))), (4, .int (zI (i)))] [] h51 _
              refine zx_T.l (i := .iload_n 3) (k := 1) (v := .int (zI (t))) (pc := 103) rfl rfl rfl ?_
              refine zx_T.s (i := .iconst 4) (k := 1) (st' := [.int (zI (4)), .int (zI (t))]) (pc := 104) rfl rfl ?_
              refine zw_ushr (x := t) (e := t / 16) (pc := 105) rfl (by omega) (by omega) rfl ?_
              refine zx_T.t (i := .istore_n 3) (k := 1) (ls' := [(3, .int (zI (t / 16))), (7, .int (zI (v44))), (6, .int (zI (t % 16))), (5, .int (zI (v38))), (0, .ref 23), (1, .int (zI (op))), (2, .int (zI (a))), (4, .int (zI (i)))]) (st' := []) (pc := 106) rfl rfl rfl rfl ?_
              refine zr_inc (x := i) (n := 1) (y := i + 1) (ls' := [(4, .int (zI (i + 1))), (3, .int (zI (t / 16))), (7, .int (zI (v44))), (6, .int (zI (t % 16))), (5, .int (zI (v38))), (0, .ref 23), (1, .int (zI (op))), (2, .int (zI (a)))]) (pc := 107) rfl rfl rfl (by omega) rfl ?_
              refine zx_T.j (i := .goto (-79)) (k := 3) (pc' := 31) (st' := []) (pc := 110) rfl rfl rfl rfl rfl ?_
              refine zx_T.lk (ls' := [(0, .ref 23), (1, .int (zI (op))), (2, .int (zI (a))), (3, .int (zI (t / 16))), (4, .int (zI (i + 1)))]) rfl ⟨rfl, rfl, rfl, rfl, rfl, trivial⟩ ?_
              exact ih (h2 := h51) (t := t / 16) (i := i + 1) ih51 (by omega) (by omega) (by omega) (by omega) ((hw.wd rfl : zb_W [(23, 1)] h _).tr (w52.wd rfl)) (by omega) (hq.trans (by rw [tn, zc_take_s (by omega) (by omega) (zc_fit_a (by first | exact Or.inl ⟨by omega, by omega⟩ | (rw [← kv]; exact Or.inr ⟨by omega, (gA.resolve_right (fun z => absurd z.1 (by omega))).2⟩))), show (4 - (i + 1)).toNat = (3 - i).toNat by omega, show zv_f h2 23 1 - 1 = zv_f h51 23 1 by omega])) (by omega)
            · refine zx_T.s (i := .iconst 1) (k := 1) (st' := [.int (zI (1))]) (pc := 96) rfl rfl ?_
              exact zr_ir (x := 1) (pc := 97) rfl rfl rfl ⟨hI2, (hw.wd rfl : zb_W [(23, 1), (24, 0)] h _), _, rfl, by dsimp only; exact ⟨by rw [zc_ex_f (hq.trans (by rw [tn, zc_take_1 (by omega) (by omega) (zc_fit_b (by first | exact Or.inl ⟨by omega, by omega⟩ | (rw [← kv]; exact Or.inr ⟨by omega, (gA.resolve_left (fun z => absurd z.1 (by omega))).2⟩)))])) (show ¬ (1 : Int) = 0 by decide)]; exact ⟨rfl, rfl, fun j j0 => zv_wa (hw.wd rfl : zb_W [(23, 1)] h _) rfl j⟩, by omega, by omega⟩⟩
          · refine zx_T.l (i := .iload 5) (k := 2) (v := .int (zI (v38))) (pc := 68) rfl rfl rfl ?_
            refine zx_T.s (i := .iconst 4) (k := 1) (st' := [.int (zI (4)), .int (zI (v38))]) (pc := 70) rfl rfl ?_
            refine zr_i2 (x := v38) (y := 4) (t := 78) (pc := 71) rfl rfl (by omega) (by omega) (by omega) (by omega) (fun (c55 : v38 < 4) => ?_) (fun (c55 : ¬ (v38 < 4)) => ?_)
            · refine zx_T.s (i := .iconst 0) (k := 1) (st' := [.int (zI (0))]) (pc := 78) rfl rfl ?_
              refine zx_T.j (i := .goto 10) (k := 3) (pc' := 89) (st' := [.int (zI (0))]) (pc := 79) rfl rfl rfl rfl rfl ?_
              refine zx_T.t (i := .istore 7) (k := 2) (ls' := [(7, .int (zI (0))), (6, .int (zI (t % 16))), (5, .int (zI (v38))), (0, .ref 23), (1, .int (zI (op))), (2, .int (zI (a))), (3, .int (zI (t))), (4, .int (zI (i)))]) (st' := []) (pc := 89) rfl rfl rfl rfl ?_
              refine zx_T.l (i := .iload 7) (k := 2) (v := .int (zI (0))) (pc := 91) rfl rfl rfl ?_
              refine zr_i1 (x := 0) (t := 98) (pc := 93) rfl rfl (by omega) (by omega) (fun (c56 : ¬ 0 = 0) => absurd c56 (by decide)) (fun _ => ?_)
              refine zx_T.s (i := .iconst 1) (k := 1) (st' := [.int (zI (1))]) (pc := 96) rfl rfl ?_
              exact zr_ir (x := 1) (pc := 97) rfl rfl rfl ⟨hI2, (hw.wd rfl : zb_W [(23, 1), (24, 0)] h _), _, rfl, by dsimp only; exact ⟨by rw [zc_ex_f (hq.trans (by rw [tn, zc_take_1 (by omega) (by omega) (zc_fit_b (by first | exact Or.inl ⟨by omega, by omega⟩ | (rw [← kv]; exact Or.inr ⟨by omega, (gA.resolve_left (fun z => absurd z.1 (by omega))).2⟩)))])) (show ¬ (1 : Int) = 0 by decide)]; exact ⟨rfl, rfl, fun j j0 => zv_wa (hw.wd rfl : zb_W [(23, 1)] h _) rfl j⟩, by omega, by omega⟩⟩
            · refine zx_T.s (i := .iconst 1) (k := 1) (st' := [.int (zI (1))]) (pc := 74) rfl rfl ?_
              refine zx_T.j (i := .goto 14) (k := 3) (pc' := 89) (st' := [.int (zI (1))]) (pc := 75) rfl rfl rfl rfl rfl ?_
              refine zx_T.t (i := .istore 7) (k := 2) (ls' := [(7, .int (zI (1))), (6, .int (zI (t % 16))), (5, .int (zI (v38))), (0, .ref 23), (1, .int (zI (op))), (2, .int (zI (a))), (3, .int (zI (t))), (4, .int (zI (i)))]) (st' := []) (pc := 89) rfl rfl rfl rfl ?_
              refine zx_T.l (i := .iload 7) (k := 2) (v := .int (zI (1))) (pc := 91) rfl rfl rfl ?_
              refine zr_i1 (x := 1) (t := 98) (pc := 93) rfl rfl (by omega) (by omega) (fun _ => ?_) (fun (c58 : ¬ (¬ 1 = 0)) => absurd (by decide) c58)
              refine zx_T.l (i := .aload_n 0) (k := 1) (v := .ref 23) (pc := 98) rfl rfl rfl ?_
              refine zx_T.s (i := .iconst 1) (k := 1) (st' := [.int (zI (1)), .ref 23]) (pc := 99) rfl rfl ?_
              refine zw_iv (b := 23) (cj := 122) (q' := zp_m122) (As := [.int (zI (1))]) (rest := []) (pc := 100) rfl rfl rfl rfl rfl rfl rfl (Nat.le_of_ble_eq_true rfl) rfl (Nat.le_of_ble_eq_true rfl) hI2 ((zm_drop_23 (h := h2) hI2 (n := 1) (by omega) (by omega)).up (Nat.le_of_ble_eq_true rfl)) ?_
              rintro r59 h62 ⟨ih62, w63, r59q, x61⟩
              subst r59q
              try dsimp only at x61
              show zx_T zp_P 2 zp_m21 103 [(7, .int (zI (1))), (6, .int (zI (t % 16))), (5, .int (zI (v38))), (0, .ref 23), (1, .int (zI (op))), (2, .int (zI (a))), (3, .int (zI (t))), (4, .int (zI (i)))] [] h62 _
              refine zx_T.l (i := .iload_n 3) (k := 1) (v := .int (zI (t))) (pc := 103) rfl rfl rfl ?_
              refine zx_T.s (i := .iconst 4) (k := 1) (st' := [.int (zI (4)), .int (zI (t))]) (pc := 104) rfl rfl ?_
              refine zw_ushr (x := t) (e := t / 16) (pc := 105) rfl (by omega) (by omega) rfl ?_
              refine zx_T.t (i := .istore_n 3) (k := 1) (ls' := [(3, .int (zI (t / 16))), (7, .int (zI (1))), (6, .int (zI (t % 16))), (5, .int (zI (v38))), (0, .ref 23), (1, .int (zI (op))), (2, .int (zI (a))), (4, .int (zI (i)))]) (st' := []) (pc := 106) rfl rfl rfl rfl ?_
              refine zr_inc (x := i) (n := 1) (y := i + 1) (ls' := [(4, .int (zI (i + 1))), (3, .int (zI (t / 16))), (7, .int (zI (1))), (6, .int (zI (t % 16))), (5, .int (zI (v38))), (0, .ref 23), (1, .int (zI (op))), (2, .int (zI (a)))]) (pc := 107) rfl rfl rfl (by omega) rfl ?_
              refine zx_T.j (i := .goto (-79)) (k := 3) (pc' := 31) (st' := []) (pc := 110) rfl rfl rfl rfl rfl ?_
              refine zx_T.lk (ls' := [(0, .ref 23), (1, .int (zI (op))), (2, .int (zI (a))), (3, .int (zI (t / 16))), (4, .int (zI (i + 1)))]) rfl ⟨rfl, rfl, rfl, rfl, rfl, trivial⟩ ?_
              exact ih (h2 := h62) (t := t / 16) (i := i + 1) ih62 (by omega) (by omega) (by omega) (by omega) ((hw.wd rfl : zb_W [(23, 1)] h _).tr (w63.wd rfl)) (by omega) (hq.trans (by rw [tn, zc_take_s (by omega) (by omega) (zc_fit_a (by first | exact Or.inl ⟨by omega, by omega⟩ | (rw [← kv]; exact Or.inr ⟨by omega, (gA.resolve_right (fun z => absurd z.1 (by omega))).2⟩))), show (4 - (i + 1)).toNat = (3 - i).toNat by omega, show zv_f h2 23 1 - 1 = zv_f h62 23 1 by omega])) (by omega)
        · refine zx_T.s (i := .iconst 2) (k := 1) (st' := [.int (zI (2))]) (pc := 54) rfl rfl ?_
          exact zr_ir (x := 2) (pc := 55) rfl rfl rfl ⟨hI2, (hw.wd rfl : zb_W [(23, 1), (24, 0)] h _), _, rfl, by dsimp only; rw [show zv_a h2 24 = zv_a h 24 from funext (fun q => zv_wa hw rfl q)] at kD; have tz := zk (zv_f h2 23 1 + 7); rw [show zv_f h2 23 1 + 7 - 0 = zv_f h2 23 1 + 7 by omega] at kD; exact ⟨by rw [zc_ex_f (hq.trans (by rw [show (4 - i).toNat = (3 - i).toNat + 1 by omega, zc_take_2 (by omega) (by omega)])) (show ¬ (2 : Int) = 0 by decide)]; exact ⟨rfl, rfl, fun j j0 => zv_wa (hw.wd rfl : zb_W [(23, 1)] h _) rfl j⟩, by omega, by omega⟩⟩
set_option maxRecDepth 100000 in
set_option maxHeartbeats 4000000 in
theorem zm_exchangeE_23 {h : zx_H} (hI : zb_I zc_H h) {op : Int} {a : Int} (op1 : 0 ≤ op) (op2 : op ≤ 28) (a1 : -2147483648 ≤ a) (a2 : a ≤ 2147483647) (ca : op = 21 → 5 ≤ a ∧ a ≤ 8) (zk : zk_in (zv_f h 23 1) (zv_a h 24)) : zx_T zp_P 2 zp_m21 0 [(0, .ref 23), (1, .int (zI (op))), (2, .int (zI (a)))] [] h (zr_R [(23, 1), (24, 0)] h (fun e h' => zt_eq (e, zv_f h' 23 1, zv_a h' 24) (zc_ex (zc_tk op) (zc_gv op a) (0, zv_f h 23 1, zv_a h 24)) ∧ 0 ≤ e ∧ e ≤ 3)) := by
  have hS := zw_ri hI (a := 23) (k := 1) rfl
  have hT := zw_tkr op1 op2
  have hG : ¬ op = 21 → _ := fun z => zw_gvr (a := a) op1 op2 z
  refine zx_T.l (i := .iload_n 1) (k := 1) (v := .int (zI (op))) (pc := 0) rfl rfl rfl ?_
  refine zr_i1 (x := op) (t := 20) (pc := 1) rfl rfl (by omega) (by omega) (fun (c66 : op < 0) => False.elim (by omega)) (fun (c66 : ¬ (op < 0)) => ?_)
  refine zx_T.l (i := .iload_n 1) (k := 1) (v := .int (zI (op))) (pc := 4) rfl rfl rfl ?_
  refine zw_gs (k := 1000000) (pc := 5) rfl rfl ?_
  refine zw_sl (e := 29) (pc := 8) rfl hI rfl rfl rfl ?_
  refine zr_i2 (x := op) (y := 29) (t := 20) (pc := 9) rfl rfl (by omega) (by omega) (by omega) (by omega) (fun (c67 : 29 ≤ op) => False.elim (by omega)) (fun (c67 : ¬ (29 ≤ op)) => ?_)
  refine zx_T.l (i := .iload_n 1) (k := 1) (v := .int (zI (op))) (pc := 12) rfl rfl rfl ?_
  refine zw_gs (k := 1000001) (pc := 13) rfl rfl ?_
  refine zw_sl (e := 29) (pc := 16) rfl hI rfl rfl rfl ?_
  refine zr_i2 (x := op) (y := 29) (t := 22) (pc := 17) rfl rfl (by omega) (by omega) (by omega) (by omega) (fun (c68 : op < 29) => ?_) (fun (c68 : ¬ (op < 29)) => False.elim (by omega))
  refine zw_gs (k := 1000000) (pc := 22) rfl rfl ?_
  refine zx_T.l (i := .iload_n 1) (k := 1) (v := .int (zI (op))) (pc := 25) rfl rfl rfl ?_
  refine zw_sa (n := 29) (e := zc_tk op) (pc := 26) rfl hI rfl rfl rfl (by omega) (by omega) (zw_tk (by omega) (by omega)) ?_
  refine zx_T.t (i := .istore_n 3) (k := 1) (ls' := [(3, .int (zI (zc_tk op))), (0, .ref 23), (1, .int (zI (op))), (2, .int (zI (a)))]) (st' := []) (pc := 27) rfl rfl rfl rfl ?_
  refine zx_T.s (i := .iconst 0) (k := 1) (st' := [.int (zI (0))]) (pc := 28) rfl rfl ?_
  refine zx_T.t (i := .istore 4) (k := 2) (ls' := [(4, .int (zI (0))), (3, .int (zI (zc_tk op))), (0, .ref 23), (1, .int (zI (op))), (2, .int (zI (a)))]) (st' := []) (pc := 29) rfl rfl rfl rfl ?_
  refine zx_T.lk (ls' := [(0, .ref 23), (1, .int (zI (op))), (2, .int (zI (a))), (3, .int (zI (zc_tk op))), (4, .int (zI (0)))]) rfl ⟨rfl, rfl, rfl, rfl, rfl, trivial⟩ ?_
  exact zm_exchangeE_23_L (h := h) hI (op := op) (a := a) op1 op2 a1 a2 ca zk ((4 - 0 : Int).toNat + 1) (h2 := h) (t := zc_tk op) (i := 0) hI (by omega) (by omega) (by omega) (by omega) zb_W.rf (by omega) rfl (Nat.lt_succ_self _)

set_option maxRecDepth 100000 in
set_option maxHeartbeats 4000000 in
theorem zm_applyE_23 {h : zx_H} (hI : zb_I zc_H h) {op : Int} {a : Int} (op1 : 0 ≤ op) (op2 : op ≤ 28) (a1 : -2147483648 ≤ a) (a2 : a ≤ 2147483647) (ca : op = 21 → 5 ≤ a ∧ a ≤ 8) (zk : zk_in (zv_f h 23 1) (zv_a h 24)) (t2 : 1 ≤ zv_f h 23 1 → ¬ zv_a h 24 (zv_f h 23 1 + 7) = 2 ∧ (zv_a h 24 (zv_f h 23 1 + 7) = 3 → 2 ≤ zv_f h 23 1)) : zx_T zp_P 3 zp_m20 0 [(0, .ref 23), (1, .int (zI (op))), (2, .int (zI (a)))] [] h (zr_R [(23, 1), (24, 0)] h (fun e h' => zt_eq (e, zv_f h' 23 1, zv_a h' 24) (zc_ap op a (0, zv_f h 23 1, zv_a h 24)) ∧ 0 ≤ e ∧ e ≤ 4)) := by
  refine zx_T.l (i := .iload_n 1) (k := 1) (v := .int (zI (op))) (pc := 0) rfl rfl rfl ?_
  have c1 : op = 0 ∨ op = 1 ∨ op = 2 ∨ op = 3 ∨ op = 4 ∨ op = 5 ∨ op = 6 ∨ op = 7 ∨ op = 8 ∨ op = 9 ∨ op = 10 ∨ op = 11 ∨ op = 12 ∨ op = 13 ∨ op = 14 ∨ op = 15 ∨ op = 16 ∨ op = 17 ∨ op = 18 ∨ op = 19 ∨ op = 20 ∨ op = 21 ∨ op = 22 ∨ op = 23 ∨ op = 24 ∨ op = 25 ∨ op = 26 ∨ op = 27 ∨ op = 28 := by omega
  rcases c1 with c1 | c1 | c1 | c1 | c1 | c1 | c1 | c1 | c1 | c1 | c1 | c1 | c1 | c1 | c1 | c1 | c1 | c1 | c1 | c1 | c1 | c1 | c1 | c1 | c1 | c1 | c1 | c1 | c1
  · refine zr_sw (i := .lookupswitch 79 #[(8, 51), (9, 57), (10, 63), (11, 68), (28, 73)]) (len := 51) (t := 80) (x := op) (k := 0) (pc := 1) rfl c1 rfl rfl rfl rfl ?_
    refine zx_T.l (i := .aload_n 0) (k := 1) (v := .ref 23) (pc := 80) rfl rfl rfl ?_
    refine zx_T.l (i := .iload_n 1) (k := 1) (v := .int (zI (op))) (pc := 81) rfl rfl rfl ?_
    refine zx_T.l (i := .iload_n 2) (k := 1) (v := .int (zI (a))) (pc := 82) rfl rfl rfl ?_
    refine zr_is (cj := 21) (q' := zp_m21) (As := [.ref 23, .int (zI (op)), .int (zI (a))]) (rest := []) (pc := 83) rfl rfl rfl rfl rfl rfl (Nat.le_of_ble_eq_true rfl) rfl (Nat.le_of_ble_eq_true rfl) rfl ((zm_exchangeE_23 (h := h) hI (op := op) (a := a) (by omega) (by omega) (by omega) (by omega) ca zk).up (Nat.le_of_ble_eq_true rfl)) ?_
    rintro r2 h5 ⟨ih5, w6, v3, r2q, x4⟩
    subst r2q
    try dsimp only at x4
    have aE := x4
    show zx_T zp_P 3 zp_m20 86 [(0, .ref 23), (1, .int (zI (op))), (2, .int (zI (a)))] [.int (zI (v3))] h5 _
    exact zr_ir (x := v3) (pc := 86) rfl rfl rfl ⟨ih5, (w6.wd rfl : zb_W [(23, 1), (24, 0)] h _), _, rfl, by dsimp only; exact ⟨by rw [zc_apd (by omega)]; exact aE.1, by omega, by omega⟩⟩
  · refine zr_sw (i := .lookupswitch 79 #[(8, 51), (9, 57), (10, 63), (11, 68), (28, 73)]) (len := 51) (t := 80) (x := op) (k := 1) (pc := 1) rfl c1 rfl rfl rfl rfl ?_
    refine zx_T.l (i := .aload_n 0) (k := 1) (v := .ref 23) (pc := 80) rfl rfl rfl ?_
    refine zx_T.l (i := .iload_n 1) (k := 1) (v := .int (zI (op))) (pc := 81) rfl rfl rfl ?_
    refine zx_T.l (i := .iload_n 2) (k := 1) (v := .int (zI (a))) (pc := 82) rfl rfl rfl ?_
    refine zr_is (cj := 21) (q' := zp_m21) (As := [.ref 23, .int (zI (op)), .int (zI (a))]) (rest := []) (pc := 83) rfl rfl rfl rfl rfl rfl (Nat.le_of_ble_eq_true rfl) rfl (Nat.le_of_ble_eq_true rfl) rfl ((zm_exchangeE_23 (h := h) hI (op := op) (a := a) (by omega) (by omega) (by omega) (by omega) ca zk).up (Nat.le_of_ble_eq_true rfl)) ?_
    rintro r7 h10 ⟨ih10, w11, v8, r7q, x9⟩
    subst r7q
    try dsimp only at x9
    have aE := x9
    show zx_T zp_P 3 zp_m20 86 [(0, .ref 23), (1, .int (zI (op))), (2, .int (zI (a)))] [.int (zI (v8))] h10 _
    exact zr_ir (x := v8) (pc := 86) rfl rfl rfl ⟨ih10, (w11.wd rfl : zb_W [(23, 1), (24, 0)] h _), _, rfl, by dsimp only; exact ⟨by rw [zc_apd (by omega)]; exact aE.1, by omega, by omega⟩⟩
  · refine zr_sw (i := .lookupswitch 79 #[(8, 51), (9, 57), (10, 63), (11, 68), (28, 73)]) (len := 51) (t := 80) (x := op) (k := 2) (pc := 1) rfl c1 rfl rfl rfl rfl ?_
    refine zx_T.l (i := .aload_n 0) (k := 1) (v := .ref 23) (pc := 80) rfl rfl rfl ?_
    refine zx_T.l (i := .iload_n 1) (k := 1) (v := .int (zI (op))) (pc := 81) rfl rfl rfl ?_
    refine zx_T.l (i := .iload_n 2) (k := 1) (v := .int (zI (a))) (pc := 82) rfl rfl rfl ?_
    refine zr_is (cj := 21) (q' := zp_m21) (As := [.ref 23, .int (zI (op)), .int (zI (a))]) (rest := []) (pc := 83) rfl rfl rfl rfl rfl rfl (Nat.le_of_ble_eq_true rfl) rfl (Nat.le_of_ble_eq_true rfl) rfl ((zm_exchangeE_23 (h := h) hI (op := op) (a := a) (by omega) (by omega) (by omega) (by omega) ca zk).up (Nat.le_of_ble_eq_true rfl)) ?_
    rintro r12 h15 ⟨ih15, w16, v13, r12q, x14⟩
    subst r12q
    try dsimp only at x14
    have aE := x14
    show zx_T zp_P 3 zp_m20 86 [(0, .ref 23), (1, .int (zI (op))), (2, .int (zI (a)))] [.int (zI (v13))] h15 _
    exact zr_ir (x := v13) (pc := 86) rfl rfl rfl ⟨ih15, (w16.wd rfl : zb_W [(23, 1), (24, 0)] h _), _, rfl, by dsimp only; exact ⟨by rw [zc_apd (by omega)]; exact aE.1, by omega, by omega⟩⟩
  · refine zr_sw (i := .lookupswitch 79 #[(8, 51), (9, 57), (10, 63), (11, 68), (28, 73)]) (len := 51) (t := 80) (x := op) (k := 3) (pc := 1) rfl c1 rfl rfl rfl rfl ?_
    refine zx_T.l (i := .aload_n 0) (k := 1) (v := .ref 23) (pc := 80) rfl rfl rfl ?_
    refine zx_T.l (i := .iload_n 1) (k := 1) (v := .int (zI (op))) (pc := 81) rfl rfl rfl ?_
    refine zx_T.l (i := .iload_n 2) (k := 1) (v := .int (zI (a))) (pc := 82) rfl rfl rfl ?_
    refine zr_is (cj := 21) (q' := zp_m21) (As := [.ref 23, .int (zI (op)), .int (zI (a))]) (rest := []) (pc := 83) rfl rfl rfl rfl rfl rfl (Nat.le_of_ble_eq_true rfl) rfl (Nat.le_of_ble_eq_true rfl) rfl ((zm_exchangeE_23 (h := h) hI (op := op) (a := a) (by omega) (by omega) (by omega) (by omega) ca zk).up (Nat.le_of_ble_eq_true rfl)) ?_
    rintro r17 h20 ⟨ih20, w21, v18, r17q, x19⟩
    subst r17q
    try dsimp only at x19
    have aE := x19
    show zx_T zp_P 3 zp_m20 86 [(0, .ref 23), (1, .int (zI (op))), (2, .int (zI (a)))] [.int (zI (v18))] h20 _
    exact zr_ir (x := v18) (pc := 86) rfl rfl rfl ⟨ih20, (w21.wd rfl : zb_W [(23, 1), (24, 0)] h _), _, rfl, by dsimp only; exact ⟨by rw [zc_apd (by omega)]; exact aE.1, by omega, by omega⟩⟩
  · refine zr_sw (i := .lookupswitch 79 #[(8, 51), (9, 57), (10, 63), (11, 68), (28, 73)]) (len := 51) (t := 80) (x := op) (k := 4) (pc := 1) rfl c1 rfl rfl rfl rfl ?_
    refine zx_T.l (i := .aload_n 0) (k := 1) (v := .ref 23) (pc := 80) rfl rfl rfl ?_
    refine zx_T.l (i := .iload_n 1) (k := 1) (v := .int (zI (op))) (pc := 81) rfl rfl rfl ?_
    refine zx_T.l (i := .iload_n 2) (k := 1) (v := .int (zI (a))) (pc := 82) rfl rfl rfl ?_
    refine zr_is (cj := 21) (q' := zp_m21) (As := [.ref 23, .int (zI (op)), .int (zI (a))]) (rest := []) (pc := 83) rfl rfl rfl rfl rfl rfl (Nat.le_of_ble_eq_true rfl) rfl (Nat.le_of_ble_eq_true rfl) rfl ((zm_exchangeE_23 (h := h) hI (op := op) (a := a) (by omega) (by omega) (by omega) (by omega) ca zk).up (Nat.le_of_ble_eq_true rfl)) ?_
    rintro r22 h25 ⟨ih25, w26, v23, r22q, x24⟩
    subst r22q
    try dsimp only at x24
    have aE := x24
    show zx_T zp_P 3 zp_m20 86 [(0, .ref 23), (1, .int (zI (op))), (2, .int (zI (a)))] [.int (zI (v23))] h25 _
    exact zr_ir (x := v23) (pc := 86) rfl rfl rfl ⟨ih25, (w26.wd rfl : zb_W [(23, 1), (24, 0)] h _), _, rfl, by dsimp only; exact ⟨by rw [zc_apd (by omega)]; exact aE.1, by omega, by omega⟩⟩
  · refine zr_sw (i := .lookupswitch 79 #[(8, 51), (9, 57), (10, 63), (11, 68), (28, 73)]) (len := 51) (t := 80) (x := op) (k := 5) (pc := 1) rfl c1 rfl rfl rfl rfl ?_
    refine zx_T.l (i := .aload_n 0) (k := 1) (v := .ref 23) (pc := 80) rfl rfl rfl ?_
    refine zx_T.l (i := .iload_n 1) (k := 1) (v := .int (zI (op))) (pc := 81) rfl rfl rfl ?_
    refine zx_T.l (i := .iload_n 2) (k := 1) (v := .int (zI (a))) (pc := 82) rfl rfl rfl ?_
    refine zr_is (cj := 21) (q' := zp_m21) (As := [.ref 23, .int (zI (op)), .int (zI (a))]) (rest := []) (pc := 83) rfl rfl rfl rfl rfl rfl (Nat.le_of_ble_eq_true rfl) rfl (Nat.le_of_ble_eq_true rfl) rfl ((zm_exchangeE_23 (h := h) hI (op := op) (a := a) (by omega) (by omega) (by omega) (by omega) ca zk).up (Nat.le_of_ble_eq_true rfl)) ?_
    rintro r27 h30 ⟨ih30, w31, v28, r27q, x29⟩
    subst r27q
    try dsimp only at x29
    have aE := x29
    show zx_T zp_P 3 zp_m20 86 [(0, .ref 23), (1, .int (zI (op))), (2, .int (zI (a)))] [.int (zI (v28))] h30 _
    exact zr_ir (x := v28) (pc := 86) rfl rfl rfl ⟨ih30, (w31.wd rfl : zb_W [(23, 1), (24, 0)] h _), _, rfl, by dsimp only; exact ⟨by rw [zc_apd (by omega)]; exact aE.1, by omega, by omega⟩⟩
  · refine zr_sw (i := .lookupswitch 79 #[(8, 51), (9, 57), (10, 63), (11, 68), (28, 73)]) (len := 51) (t := 80) (x := op) (k := 6) (pc := 1) rfl c1 rfl rfl rfl rfl ?_
    refine zx_T.l (i := .aload_n 0) (k := 1) (v := .ref 23) (pc := 80) rfl rfl rfl ?_
    refine zx_T.l (i := .iload_n 1) (k := 1) (v := .int (zI (op))) (pc := 81) rfl rfl rfl ?_
    refine zx_T.l (i := .iload_n 2) (k := 1) (v := .int (zI (a))) (pc := 82) rfl rfl rfl ?_
    refine zr_is (cj := 21) (q' := zp_m21) (As := [.ref 23, .int (zI (op)), .int (zI (a))]) (rest := []) (pc := 83) rfl rfl rfl rfl rfl rfl (Nat.le_of_ble_eq_true rfl) rfl (Nat.le_of_ble_eq_true rfl) rfl ((zm_exchangeE_23 (h := h) hI (op := op) (a := a) (by omega) (by omega) (by omega) (by omega) ca zk).up (Nat.le_of_ble_eq_true rfl)) ?_
    rintro r32 h35 ⟨ih35, w36, v33, r32q, x34⟩
    subst r32q
    try dsimp only at x34
    have aE := x34
    show zx_T zp_P 3 zp_m20 86 [(0, .ref 23), (1, .int (zI (op))), (2, .int (zI (a)))] [.int (zI (v33))] h35 _
    exact zr_ir (x := v33) (pc := 86) rfl rfl rfl ⟨ih35, (w36.wd rfl : zb_W [(23, 1), (24, 0)] h _), _, rfl, by dsimp only; exact ⟨by rw [zc_apd (by omega)]; exact aE.1, by omega, by omega⟩⟩
  · refine zr_sw (i := .lookupswitch 79 #[(8, 51), (9, 57), (10, 63), (11, 68), (28, 73)]) (len := 51) (t := 80) (x := op) (k := 7) (pc := 1) rfl c1 rfl rfl rfl rfl ?_
    refine zx_T.l (i := .aload_n 0) (k := 1) (v := .ref 23) (pc := 80) rfl rfl rfl ?_
    refine zx_T.l (i := .iload_n 1) (k := 1) (v := .int (zI (op))) (pc := 81) rfl rfl rfl ?_
    refine zx_T.l (i := .iload_n 2) (k := 1) (v := .int (zI (a))) (pc := 82) rfl rfl rfl ?_
    refine zr_is (cj := 21) (q' := zp_m21) (As := [.ref 23, .int (zI (op)), .int (zI (a))]) (rest := []) (pc := 83) rfl rfl rfl rfl rfl rfl (Nat.le_of_ble_eq_true rfl) rfl (Nat.le_of_ble_eq_true rfl) rfl ((zm_exchangeE_23 (h := h) hI (op := op) (a := a) (by omega) (by omega) (by omega) (by omega) ca zk).up (Nat.le_of_ble_eq_true rfl)) ?_
    rintro r37 h40 ⟨ih40, w41, v38, r37q, x39⟩
    subst r37q
    try dsimp only at x39
    have aE := x39
    show zx_T zp_P 3 zp_m20 86 [(0, .ref 23), (1, .int (zI (op))), (2, .int (zI (a)))] [.int (zI (v38))] h40 _
    exact zr_ir (x := v38) (pc := 86) rfl rfl rfl ⟨ih40, (w41.wd rfl : zb_W [(23, 1), (24, 0)] h _), _, rfl, by dsimp only; exact ⟨by rw [zc_apd (by omega)]; exact aE.1, by omega, by omega⟩⟩
  · refine zr_sw (i := .lookupswitch 79 #[(8, 51), (9, 57), (10, 63), (11, 68), (28, 73)]) (len := 51) (t := 52) (x := op) (k := 8) (pc := 1) rfl c1 rfl rfl rfl rfl ?_
    refine zx_T.l (i := .aload_n 0) (k := 1) (v := .ref 23) (pc := 52) rfl rfl rfl ?_
    refine zx_T.l (i := .iload_n 2) (k := 1) (v := .int (zI (a))) (pc := 53) rfl rfl rfl ?_
    refine zr_is (cj := 22) (q' := zp_m22) (As := [.ref 23, .int (zI (a))]) (rest := []) (pc := 54) rfl rfl rfl rfl rfl rfl (Nat.le_of_ble_eq_true rfl) rfl (Nat.le_of_ble_eq_true rfl) rfl ((zm_loadE_23 (h := h) hI (a := a) (by omega) (by omega) zk).up (Nat.le_of_ble_eq_true rfl)) ?_
    rintro r42 h45 ⟨ih45, w46, v43, r42q, x44⟩
    subst r42q
    try dsimp only at x44
    have aE := x44
    show zx_T zp_P 3 zp_m20 57 [(0, .ref 23), (1, .int (zI (op))), (2, .int (zI (a)))] [.int (zI (v43))] h45 _
    exact zr_ir (x := v43) (pc := 57) rfl rfl rfl ⟨ih45, (w46.wd rfl : zb_W [(23, 1), (24, 0)] h _), _, rfl, by dsimp only; exact ⟨by rw [zc_ap8 (by omega)]; exact aE.1, by omega, by omega⟩⟩
  · refine zr_sw (i := .lookupswitch 79 #[(8, 51), (9, 57), (10, 63), (11, 68), (28, 73)]) (len := 51) (t := 58) (x := op) (k := 9) (pc := 1) rfl c1 rfl rfl rfl rfl ?_
    refine zx_T.l (i := .aload_n 0) (k := 1) (v := .ref 23) (pc := 58) rfl rfl rfl ?_
    refine zx_T.l (i := .iload_n 2) (k := 1) (v := .int (zI (a))) (pc := 59) rfl rfl rfl ?_
    refine zr_is (cj := 23) (q' := zp_m23) (As := [.ref 23, .int (zI (a))]) (rest := []) (pc := 60) rfl rfl rfl rfl rfl rfl (Nat.le_of_ble_eq_true rfl) rfl (Nat.le_of_ble_eq_true rfl) rfl ((zm_storeE_23 (h := h) hI (a := a) (by omega) (by omega) zk t2).up (Nat.le_of_ble_eq_true rfl)) ?_
    rintro r47 h50 ⟨ih50, w51, v48, r47q, x49⟩
    subst r47q
    try dsimp only at x49
    have aE := x49
    show zx_T zp_P 3 zp_m20 63 [(0, .ref 23), (1, .int (zI (op))), (2, .int (zI (a)))] [.int (zI (v48))] h50 _
    exact zr_ir (x := v48) (pc := 63) rfl rfl rfl ⟨ih50, (w51.wd rfl : zb_W [(23, 1), (24, 0)] h _), _, rfl, by dsimp only; exact ⟨by rw [zc_ap9 (by omega)]; exact aE.1, by omega, by omega⟩⟩
  · refine zr_sw (i := .lookupswitch 79 #[(8, 51), (9, 57), (10, 63), (11, 68), (28, 73)]) (len := 51) (t := 64) (x := op) (k := 10) (pc := 1) rfl c1 rfl rfl rfl rfl ?_
    refine zx_T.l (i := .aload_n 0) (k := 1) (v := .ref 23) (pc := 64) rfl rfl rfl ?_
    refine zr_is (cj := 24) (q' := zp_m24) (As := [.ref 23]) (rest := []) (pc := 65) rfl rfl rfl rfl rfl rfl (Nat.le_of_ble_eq_true rfl) rfl (Nat.le_of_ble_eq_true rfl) rfl ((zm_popE_23 (h := h) hI  zk).up (Nat.le_of_ble_eq_true rfl)) ?_
    rintro r52 h55 ⟨ih55, w56, v53, r52q, x54⟩
    subst r52q
    try dsimp only at x54
    have aE := x54
    show zx_T zp_P 3 zp_m20 68 [(0, .ref 23), (1, .int (zI (op))), (2, .int (zI (a)))] [.int (zI (v53))] h55 _
    exact zr_ir (x := v53) (pc := 68) rfl rfl rfl ⟨ih55, (w56.wd rfl : zb_W [(23, 1), (24, 0)] h _), _, rfl, by dsimp only; exact ⟨by rw [zc_ap10 (by omega)]; exact aE.1, by omega, by omega⟩⟩
  · refine zr_sw (i := .lookupswitch 79 #[(8, 51), (9, 57), (10, 63), (11, 68), (28, 73)]) (len := 51) (t := 69) (x := op) (k := 11) (pc := 1) rfl c1 rfl rfl rfl rfl ?_
    refine zx_T.l (i := .aload_n 0) (k := 1) (v := .ref 23) (pc := 69) rfl rfl rfl ?_
    refine zr_is (cj := 25) (q' := zp_m25) (As := [.ref 23]) (rest := []) (pc := 70) rfl rfl rfl rfl rfl rfl (Nat.le_of_ble_eq_true rfl) rfl (Nat.le_of_ble_eq_true rfl) rfl ((zm_pop2E_23 (h := h) hI  zk).up (Nat.le_of_ble_eq_true rfl)) ?_
    rintro r57 h60 ⟨ih60, w61, v58, r57q, x59⟩
    subst r57q
    try dsimp only at x59
    have aE := x59
    show zx_T zp_P 3 zp_m20 73 [(0, .ref 23), (1, .int (zI (op))), (2, .int (zI (a)))] [.int (zI (v58))] h60 _
    exact zr_ir (x := v58) (pc := 73) rfl rfl rfl ⟨ih60, (w61.wd rfl : zb_W [(23, 1), (24, 0)] h _), _, rfl, by dsimp only; exact ⟨by rw [zc_ap11 (by omega)]; exact aE.1, by omega, by omega⟩⟩
  · refine zr_sw (i := .lookupswitch 79 #[(8, 51), (9, 57), (10, 63), (11, 68), (28, 73)]) (len := 51) (t := 80) (x := op) (k := 12) (pc := 1) rfl c1 rfl rfl rfl rfl ?_
    refine zx_T.l (i := .aload_n 0) (k := 1) (v := .ref 23) (pc := 80) rfl rfl rfl ?_
    refine zx_T.l (i := .iload_n 1) (k := 1) (v := .int (zI (op))) (pc := 81) rfl rfl rfl ?_
    refine zx_T.l (i := .iload_n 2) (k := 1) (v := .int (zI (a))) (pc := 82) rfl rfl rfl ?_
    refine zr_is (cj := 21) (q' := zp_m21) (As := [.ref 23, .int (zI (op)), .int (zI (a))]) (rest := []) (pc := 83) rfl rfl rfl rfl rfl rfl (Nat.le_of_ble_eq_true rfl) rfl (Nat.le_of_ble_eq_true rfl) rfl ((zm_exchangeE_23 (h := h) hI (op := op) (a := a) (by omega) (by omega) (by omega) (by omega) ca zk).up (Nat.le_of_ble_eq_true rfl)) ?_
    rintro r62 h65 ⟨ih65, w66, v63, r62q, x64⟩
    subst r62q
    try dsimp only at x64
    have aE := x64
    show zx_T zp_P 3 zp_m20 86 [(0, .ref 23), (1, .int (zI (op))), (2, .int (zI (a)))] [.int (zI (v63))] h65 _
    exact zr_ir (x := v63) (pc := 86) rfl rfl rfl ⟨ih65, (w66.wd rfl : zb_W [(23, 1), (24, 0)] h _), _, rfl, by dsimp only; exact ⟨by rw [zc_apd (by omega)]; exact aE.1, by omega, by omega⟩⟩
  · refine zr_sw (i := .lookupswitch 79 #[(8, 51), (9, 57), (10, 63), (11, 68), (28, 73)]) (len := 51) (t := 80) (x := op) (k := 13) (pc := 1) rfl c1 rfl rfl rfl rfl ?_
    refine zx_T.l (i := .aload_n 0) (k := 1) (v := .ref 23) (pc := 80) rfl rfl rfl ?_
    refine zx_T.l (i := .iload_n 1) (k := 1) (v := .int (zI (op))) (pc := 81) rfl rfl rfl ?_
    refine zx_T.l (i := .iload_n 2) (k := 1) (v := .int (zI (a))) (pc := 82) rfl rfl rfl ?_
    refine zr_is (cj := 21) (q' := zp_m21) (As := [.ref 23, .int (zI (op)), .int (zI (a))]) (rest := []) (pc := 83) rfl rfl rfl rfl rfl rfl (Nat.le_of_ble_eq_true rfl) rfl (Nat.le_of_ble_eq_true rfl) rfl ((zm_exchangeE_23 (h := h) hI (op := op) (a := a) (by omega) (by omega) (by omega) (by omega) ca zk).up (Nat.le_of_ble_eq_true rfl)) ?_
    rintro r67 h70 ⟨ih70, w71, v68, r67q, x69⟩
    subst r67q
    try dsimp only at x69
    have aE := x69
    show zx_T zp_P 3 zp_m20 86 [(0, .ref 23), (1, .int (zI (op))), (2, .int (zI (a)))] [.int (zI (v68))] h70 _
    exact zr_ir (x := v68) (pc := 86) rfl rfl rfl ⟨ih70, (w71.wd rfl : zb_W [(23, 1), (24, 0)] h _), _, rfl, by dsimp only; exact ⟨by rw [zc_apd (by omega)]; exact aE.1, by omega, by omega⟩⟩
  · refine zr_sw (i := .lookupswitch 79 #[(8, 51), (9, 57), (10, 63), (11, 68), (28, 73)]) (len := 51) (t := 80) (x := op) (k := 14) (pc := 1) rfl c1 rfl rfl rfl rfl ?_
    refine zx_T.l (i := .aload_n 0) (k := 1) (v := .ref 23) (pc := 80) rfl rfl rfl ?_
    refine zx_T.l (i := .iload_n 1) (k := 1) (v := .int (zI (op))) (pc := 81) rfl rfl rfl ?_
    refine zx_T.l (i := .iload_n 2) (k := 1) (v := .int (zI (a))) (pc := 82) rfl rfl rfl ?_
    refine zr_is (cj := 21) (q' := zp_m21) (As := [.ref 23, .int (zI (op)), .int (zI (a))]) (rest := []) (pc := 83) rfl rfl rfl rfl rfl rfl (Nat.le_of_ble_eq_true rfl) rfl (Nat.le_of_ble_eq_true rfl) rfl ((zm_exchangeE_23 (h := h) hI (op := op) (a := a) (by omega) (by omega) (by omega) (by omega) ca zk).up (Nat.le_of_ble_eq_true rfl)) ?_
    rintro r72 h75 ⟨ih75, w76, v73, r72q, x74⟩
    subst r72q
    try dsimp only at x74
    have aE := x74
    show zx_T zp_P 3 zp_m20 86 [(0, .ref 23), (1, .int (zI (op))), (2, .int (zI (a)))] [.int (zI (v73))] h75 _
    exact zr_ir (x := v73) (pc := 86) rfl rfl rfl ⟨ih75, (w76.wd rfl : zb_W [(23, 1), (24, 0)] h _), _, rfl, by dsimp only; exact ⟨by rw [zc_apd (by omega)]; exact aE.1, by omega, by omega⟩⟩
  · refine zr_sw (i := .lookupswitch 79 #[(8, 51), (9, 57), (10, 63), (11, 68), (28, 73)]) (len := 51) (t := 80) (x := op) (k := 15) (pc := 1) rfl c1 rfl rfl rfl rfl ?_
    refine zx_T.l (i := .aload_n 0) (k := 1) (v := .ref 23) (pc := 80) rfl rfl rfl ?_
    refine zx_T.l (i := .iload_n 1) (k := 1) (v := .int (zI (op))) (pc := 81) rfl rfl rfl ?_
    refine zx_T.l (i := .iload_n 2) (k := 1) (v := .int (zI (a))) (pc := 82) rfl rfl rfl ?_
    refine zr_is (cj := 21) (q' := zp_m21) (As := [.ref 23, .int (zI (op)), .int (zI (a))]) (rest := []) (pc := 83) rfl rfl rfl rfl rfl rfl (Nat.le_of_ble_eq_true rfl) rfl (Nat.le_of_ble_eq_true rfl) rfl ((zm_exchangeE_23 (h := h) hI (op := op) (a := a) (by omega) (by omega) (by omega) (by omega) ca zk).up (Nat.le_of_ble_eq_true rfl)) ?_
    rintro r77 h80 ⟨ih80, w81, v78, r77q, x79⟩
    subst r77q
    try dsimp only at x79
    have aE := x79
    show zx_T zp_P 3 zp_m20 86 [(0, .ref 23), (1, .int (zI (op))), (2, .int (zI (a)))] [.int (zI (v78))] h80 _
    exact zr_ir (x := v78) (pc := 86) rfl rfl rfl ⟨ih80, (w81.wd rfl : zb_W [(23, 1), (24, 0)] h _), _, rfl, by dsimp only; exact ⟨by rw [zc_apd (by omega)]; exact aE.1, by omega, by omega⟩⟩
  · refine zr_sw (i := .lookupswitch 79 #[(8, 51), (9, 57), (10, 63), (11, 68), (28, 73)]) (len := 51) (t := 80) (x := op) (k := 16) (pc := 1) rfl c1 rfl rfl rfl rfl ?_
    refine zx_T.l (i := .aload_n 0) (k := 1) (v := .ref 23) (pc := 80) rfl rfl rfl ?_
    refine zx_T.l (i := .iload_n 1) (k := 1) (v := .int (zI (op))) (pc := 81) rfl rfl rfl ?_
    refine zx_T.l (i := .iload_n 2) (k := 1) (v := .int (zI (a))) (pc := 82) rfl rfl rfl ?_
    refine zr_is (cj := 21) (q' := zp_m21) (As := [.ref 23, .int (zI (op)), .int (zI (a))]) (rest := []) (pc := 83) rfl rfl rfl rfl rfl rfl (Nat.le_of_ble_eq_true rfl) rfl (Nat.le_of_ble_eq_true rfl) rfl ((zm_exchangeE_23 (h := h) hI (op := op) (a := a) (by omega) (by omega) (by omega) (by omega) ca zk).up (Nat.le_of_ble_eq_true rfl)) ?_
    rintro r82 h85 ⟨ih85, w86, v83, r82q, x84⟩
    subst r82q
    try dsimp only at x84
    have aE := x84
    show zx_T zp_P 3 zp_m20 86 [(0, .ref 23), (1, .int (zI (op))), (2, .int (zI (a)))] [.int (zI (v83))] h85 _
    exact zr_ir (x := v83) (pc := 86) rfl rfl rfl ⟨ih85, (w86.wd rfl : zb_W [(23, 1), (24, 0)] h _), _, rfl, by dsimp only; exact ⟨by rw [zc_apd (by omega)]; exact aE.1, by omega, by omega⟩⟩
  · refine zr_sw (i := .lookupswitch 79 #[(8, 51), (9, 57), (10, 63), (11, 68), (28, 73)]) (len := 51) (t := 80) (x := op) (k := 17) (pc := 1) rfl c1 rfl rfl rfl rfl ?_
    refine zx_T.l (i := .aload_n 0) (k := 1) (v := .ref 23) (pc := 80) rfl rfl rfl ?_
    refine zx_T.l (i := .iload_n 1) (k := 1) (v := .int (zI (op))) (pc := 81) rfl rfl rfl ?_
    refine zx_T.l (i := .iload_n 2) (k := 1) (v := .int (zI (a))) (pc := 82) rfl rfl rfl ?_
    refine zr_is (cj := 21) (q' := zp_m21) (As := [.ref 23, .int (zI (op)), .int (zI (a))]) (rest := []) (pc := 83) rfl rfl rfl rfl rfl rfl (Nat.le_of_ble_eq_true rfl) rfl (Nat.le_of_ble_eq_true rfl) rfl ((zm_exchangeE_23 (h := h) hI (op := op) (a := a) (by omega) (by omega) (by omega) (by omega) ca zk).up (Nat.le_of_ble_eq_true rfl)) ?_
    rintro r87 h90 ⟨ih90, w91, v88, r87q, x89⟩
    subst r87q
    try dsimp only at x89
    have aE := x89
    show zx_T zp_P 3 zp_m20 86 [(0, .ref 23), (1, .int (zI (op))), (2, .int (zI (a)))] [.int (zI (v88))] h90 _
    exact zr_ir (x := v88) (pc := 86) rfl rfl rfl ⟨ih90, (w91.wd rfl : zb_W [(23, 1), (24, 0)] h _), _, rfl, by dsimp only; exact ⟨by rw [zc_apd (by omega)]; exact aE.1, by omega, by omega⟩⟩
  · refine zr_sw (i := .lookupswitch 79 #[(8, 51), (9, 57), (10, 63), (11, 68), (28, 73)]) (len := 51) (t := 80) (x := op) (k := 18) (pc := 1) rfl c1 rfl rfl rfl rfl ?_
    refine zx_T.l (i := .aload_n 0) (k := 1) (v := .ref 23) (pc := 80) rfl rfl rfl ?_
    refine zx_T.l (i := .iload_n 1) (k := 1) (v := .int (zI (op))) (pc := 81) rfl rfl rfl ?_
    refine zx_T.l (i := .iload_n 2) (k := 1) (v := .int (zI (a))) (pc := 82) rfl rfl rfl ?_
    refine zr_is (cj := 21) (q' := zp_m21) (As := [.ref 23, .int (zI (op)), .int (zI (a))]) (rest := []) (pc := 83) rfl rfl rfl rfl rfl rfl (Nat.le_of_ble_eq_true rfl) rfl (Nat.le_of_ble_eq_true rfl) rfl ((zm_exchangeE_23 (h := h) hI (op := op) (a := a) (by omega) (by omega) (by omega) (by omega) ca zk).up (Nat.le_of_ble_eq_true rfl)) ?_
    rintro r92 h95 ⟨ih95, w96, v93, r92q, x94⟩
    subst r92q
    try dsimp only at x94
    have aE := x94
    show zx_T zp_P 3 zp_m20 86 [(0, .ref 23), (1, .int (zI (op))), (2, .int (zI (a)))] [.int (zI (v93))] h95 _
    exact zr_ir (x := v93) (pc := 86) rfl rfl rfl ⟨ih95, (w96.wd rfl : zb_W [(23, 1), (24, 0)] h _), _, rfl, by dsimp only; exact ⟨by rw [zc_apd (by omega)]; exact aE.1, by omega, by omega⟩⟩
  · refine zr_sw (i := .lookupswitch 79 #[(8, 51), (9, 57), (10, 63), (11, 68), (28, 73)]) (len := 51) (t := 80) (x := op) (k := 19) (pc := 1) rfl c1 rfl rfl rfl rfl ?_
    refine zx_T.l (i := .aload_n 0) (k := 1) (v := .ref 23) (pc := 80) rfl rfl rfl ?_
    refine zx_T.l (i := .iload_n 1) (k := 1) (v := .int (zI (op))) (pc := 81) rfl rfl rfl ?_
    refine zx_T.l (i := .iload_n 2) (k := 1) (v := .int (zI (a))) (pc := 82) rfl rfl rfl ?_
    refine zr_is (cj := 21) (q' := zp_m21) (As := [.ref 23, .int (zI (op)), .int (zI (a))]) (rest := []) (pc := 83) rfl rfl rfl rfl rfl rfl (Nat.le_of_ble_eq_true rfl) rfl (Nat.le_of_ble_eq_true rfl) rfl ((zm_exchangeE_23 (h := h) hI (op := op) (a := a) (by omega) (by omega) (by omega) (by omega) ca zk).up (Nat.le_of_ble_eq_true rfl)) ?_
    rintro r97 h100 ⟨ih100, w101, v98, r97q, x99⟩
    subst r97q
    try dsimp only at x99
    have aE := x99
    show zx_T zp_P 3 zp_m20 86 [(0, .ref 23), (1, .int (zI (op))), (2, .int (zI (a)))] [.int (zI (v98))] h100 _
    exact zr_ir (x := v98) (pc := 86) rfl rfl rfl ⟨ih100, (w101.wd rfl : zb_W [(23, 1), (24, 0)] h _), _, rfl, by dsimp only; exact ⟨by rw [zc_apd (by omega)]; exact aE.1, by omega, by omega⟩⟩
  · refine zr_sw (i := .lookupswitch 79 #[(8, 51), (9, 57), (10, 63), (11, 68), (28, 73)]) (len := 51) (t := 80) (x := op) (k := 20) (pc := 1) rfl c1 rfl rfl rfl rfl ?_
    refine zx_T.l (i := .aload_n 0) (k := 1) (v := .ref 23) (pc := 80) rfl rfl rfl ?_
    refine zx_T.l (i := .iload_n 1) (k := 1) (v := .int (zI (op))) (pc := 81) rfl rfl rfl ?_
    refine zx_T.l (i := .iload_n 2) (k := 1) (v := .int (zI (a))) (pc := 82) rfl rfl rfl ?_
    refine zr_is (cj := 21) (q' := zp_m21) (As := [.ref 23, .int (zI (op)), .int (zI (a))]) (rest := []) (pc := 83) rfl rfl rfl rfl rfl rfl (Nat.le_of_ble_eq_true rfl) rfl (Nat.le_of_ble_eq_true rfl) rfl ((zm_exchangeE_23 (h := h) hI (op := op) (a := a) (by omega) (by omega) (by omega) (by omega) ca zk).up (Nat.le_of_ble_eq_true rfl)) ?_
    rintro r102 h105 ⟨ih105, w106, v103, r102q, x104⟩
    subst r102q
    try dsimp only at x104
    have aE := x104
    show zx_T zp_P 3 zp_m20 86 [(0, .ref 23), (1, .int (zI (op))), (2, .int (zI (a)))] [.int (zI (v103))] h105 _
    exact zr_ir (x := v103) (pc := 86) rfl rfl rfl ⟨ih105, (w106.wd rfl : zb_W [(23, 1), (24, 0)] h _), _, rfl, by dsimp only; exact ⟨by rw [zc_apd (by omega)]; exact aE.1, by omega, by omega⟩⟩
  · refine zr_sw (i := .lookupswitch 79 #[(8, 51), (9, 57), (10, 63), (11, 68), (28, 73)]) (len := 51) (t := 80) (x := op) (k := 21) (pc := 1) rfl c1 rfl rfl rfl rfl ?_
    refine zx_T.l (i := .aload_n 0) (k := 1) (v := .ref 23) (pc := 80) rfl rfl rfl ?_
    refine zx_T.l (i := .iload_n 1) (k := 1) (v := .int (zI (op))) (pc := 81) rfl rfl rfl ?_
    refine zx_T.l (i := .iload_n 2) (k := 1) (v := .int (zI (a))) (pc := 82) rfl rfl rfl ?_
    refine zr_is (cj := 21) (q' := zp_m21) (As := [.ref 23, .int (zI (op)), .int (zI (a))]) (rest := []) (pc := 83) rfl rfl rfl rfl rfl rfl (Nat.le_of_ble_eq_true rfl) rfl (Nat.le_of_ble_eq_true rfl) rfl ((zm_exchangeE_23 (h := h) hI (op := op) (a := a) (by omega) (by omega) (by omega) (by omega) ca zk).up (Nat.le_of_ble_eq_true rfl)) ?_
    rintro r107 h110 ⟨ih110, w111, v108, r107q, x109⟩
    subst r107q
    try dsimp only at x109
    have aE := x109
    show zx_T zp_P 3 zp_m20 86 [(0, .ref 23), (1, .int (zI (op))), (2, .int (zI (a)))] [.int (zI (v108))] h110 _
    exact zr_ir (x := v108) (pc := 86) rfl rfl rfl ⟨ih110, (w111.wd rfl : zb_W [(23, 1), (24, 0)] h _), _, rfl, by dsimp only; exact ⟨by rw [zc_apd (by omega)]; exact aE.1, by omega, by omega⟩⟩
  · refine zr_sw (i := .lookupswitch 79 #[(8, 51), (9, 57), (10, 63), (11, 68), (28, 73)]) (len := 51) (t := 80) (x := op) (k := 22) (pc := 1) rfl c1 rfl rfl rfl rfl ?_
    refine zx_T.l (i := .aload_n 0) (k := 1) (v := .ref 23) (pc := 80) rfl rfl rfl ?_
    refine zx_T.l (i := .iload_n 1) (k := 1) (v := .int (zI (op))) (pc := 81) rfl rfl rfl ?_
    refine zx_T.l (i := .iload_n 2) (k := 1) (v := .int (zI (a))) (pc := 82) rfl rfl rfl ?_
    refine zr_is (cj := 21) (q' := zp_m21) (As := [.ref 23, .int (zI (op)), .int (zI (a))]) (rest := []) (pc := 83) rfl rfl rfl rfl rfl rfl (Nat.le_of_ble_eq_true rfl) rfl (Nat.le_of_ble_eq_true rfl) rfl ((zm_exchangeE_23 (h := h) hI (op := op) (a := a) (by omega) (by omega) (by omega) (by omega) ca zk).up (Nat.le_of_ble_eq_true rfl)) ?_
    rintro r112 h115 ⟨ih115, w116, v113, r112q, x114⟩
    subst r112q
    try dsimp only at x114
    have aE := x114
    show zx_T zp_P 3 zp_m20 86 [(0, .ref 23), (1, .int (zI (op))), (2, .int (zI (a)))] [.int (zI (v113))] h115 _
    exact zr_ir (x := v113) (pc := 86) rfl rfl rfl ⟨ih115, (w116.wd rfl : zb_W [(23, 1), (24, 0)] h _), _, rfl, by dsimp only; exact ⟨by rw [zc_apd (by omega)]; exact aE.1, by omega, by omega⟩⟩
  · refine zr_sw (i := .lookupswitch 79 #[(8, 51), (9, 57), (10, 63), (11, 68), (28, 73)]) (len := 51) (t := 80) (x := op) (k := 23) (pc := 1) rfl c1 rfl rfl rfl rfl ?_
    refine zx_T.l (i := .aload_n 0) (k := 1) (v := .ref 23) (pc := 80) rfl rfl rfl ?_
    refine zx_T.l (i := .iload_n 1) (k := 1) (v := .int (zI (op))) (pc := 81) rfl rfl rfl ?_
    refine zx_T.l (i := .iload_n 2) (k := 1) (v := .int (zI (a))) (pc := 82) rfl rfl rfl ?_
    refine zr_is (cj := 21) (q' := zp_m21) (As := [.ref 23, .int (zI (op)), .int (zI (a))]) (rest := []) (pc := 83) rfl rfl rfl rfl rfl rfl (Nat.le_of_ble_eq_true rfl) rfl (Nat.le_of_ble_eq_true rfl) rfl ((zm_exchangeE_23 (h := h) hI (op := op) (a := a) (by omega) (by omega) (by omega) (by omega) ca zk).up (Nat.le_of_ble_eq_true rfl)) ?_
    rintro r117 h120 ⟨ih120, w121, v118, r117q, x119⟩
    subst r117q
    try dsimp only at x119
    have aE := x119
    show zx_T zp_P 3 zp_m20 86 [(0, .ref 23), (1, .int (zI (op))), (2, .int (zI (a)))] [.int (zI (v118))] h120 _
    exact zr_ir (x := v118) (pc := 86) rfl rfl rfl ⟨ih120, (w121.wd rfl : zb_W [(23, 1), (24, 0)] h _), _, rfl, by dsimp only; exact ⟨by rw [zc_apd (by omega)]; exact aE.1, by omega, by omega⟩⟩
  · refine zr_sw (i := .lookupswitch 79 #[(8, 51), (9, 57), (10, 63), (11, 68), (28, 73)]) (len := 51) (t := 80) (x := op) (k := 24) (pc := 1) rfl c1 rfl rfl rfl rfl ?_
    refine zx_T.l (i := .aload_n 0) (k := 1) (v := .ref 23) (pc := 80) rfl rfl rfl ?_
    refine zx_T.l (i := .iload_n 1) (k := 1) (v := .int (zI (op))) (pc := 81) rfl rfl rfl ?_
    refine zx_T.l (i := .iload_n 2) (k := 1) (v := .int (zI (a))) (pc := 82) rfl rfl rfl ?_
    refine zr_is (cj := 21) (q' := zp_m21) (As := [.ref 23, .int (zI (op)), .int (zI (a))]) (rest := []) (pc := 83) rfl rfl rfl rfl rfl rfl (Nat.le_of_ble_eq_true rfl) rfl (Nat.le_of_ble_eq_true rfl) rfl ((zm_exchangeE_23 (h := h) hI (op := op) (a := a) (by omega) (by omega) (by omega) (by omega) ca zk).up (Nat.le_of_ble_eq_true rfl)) ?_
    rintro r122 h125 ⟨ih125, w126, v123, r122q, x124⟩
    subst r122q
    try dsimp only at x124
    have aE := x124
    show zx_T zp_P 3 zp_m20 86 [(0, .ref 23), (1, .int (zI (op))), (2, .int (zI (a)))] [.int (zI (v123))] h125 _
    exact zr_ir (x := v123) (pc := 86) rfl rfl rfl ⟨ih125, (w126.wd rfl : zb_W [(23, 1), (24, 0)] h _), _, rfl, by dsimp only; exact ⟨by rw [zc_apd (by omega)]; exact aE.1, by omega, by omega⟩⟩
  · refine zr_sw (i := .lookupswitch 79 #[(8, 51), (9, 57), (10, 63), (11, 68), (28, 73)]) (len := 51) (t := 80) (x := op) (k := 25) (pc := 1) rfl c1 rfl rfl rfl rfl ?_
    refine zx_T.l (i := .aload_n 0) (k := 1) (v := .ref 23) (pc := 80) rfl rfl rfl ?_
    refine zx_T.l (i := .iload_n 1) (k := 1) (v := .int (zI (op))) (pc := 81) rfl rfl rfl ?_
    refine zx_T.l (i := .iload_n 2) (k := 1) (v := .int (zI (a))) (pc := 82) rfl rfl rfl ?_
    refine zr_is (cj := 21) (q' := zp_m21) (As := [.ref 23, .int (zI (op)), .int (zI (a))]) (rest := []) (pc := 83) rfl rfl rfl rfl rfl rfl (Nat.le_of_ble_eq_true rfl) rfl (Nat.le_of_ble_eq_true rfl) rfl ((zm_exchangeE_23 (h := h) hI (op := op) (a := a) (by omega) (by omega) (by omega) (by omega) ca zk).up (Nat.le_of_ble_eq_true rfl)) ?_
    rintro r127 h130 ⟨ih130, w131, v128, r127q, x129⟩
    subst r127q
    try dsimp only at x129
    have aE := x129
    show zx_T zp_P 3 zp_m20 86 [(0, .ref 23), (1, .int (zI (op))), (2, .int (zI (a)))] [.int (zI (v128))] h130 _
    exact zr_ir (x := v128) (pc := 86) rfl rfl rfl ⟨ih130, (w131.wd rfl : zb_W [(23, 1), (24, 0)] h _), _, rfl, by dsimp only; exact ⟨by rw [zc_apd (by omega)]; exact aE.1, by omega, by omega⟩⟩
  · refine zr_sw (i := .lookupswitch 79 #[(8, 51), (9, 57), (10, 63), (11, 68), (28, 73)]) (len := 51) (t := 80) (x := op) (k := 26) (pc := 1) rfl c1 rfl rfl rfl rfl ?_
    refine zx_T.l (i := .aload_n 0) (k := 1) (v := .ref 23) (pc := 80) rfl rfl rfl ?_
    refine zx_T.l (i := .iload_n 1) (k := 1) (v := .int (zI (op))) (pc := 81) rfl rfl rfl ?_
    refine zx_T.l (i := .iload_n 2) (k := 1) (v := .int (zI (a))) (pc := 82) rfl rfl rfl ?_
    refine zr_is (cj := 21) (q' := zp_m21) (As := [.ref 23, .int (zI (op)), .int (zI (a))]) (rest := []) (pc := 83) rfl rfl rfl rfl rfl rfl (Nat.le_of_ble_eq_true rfl) rfl (Nat.le_of_ble_eq_true rfl) rfl ((zm_exchangeE_23 (h := h) hI (op := op) (a := a) (by omega) (by omega) (by omega) (by omega) ca zk).up (Nat.le_of_ble_eq_true rfl)) ?_
    rintro r132 h135 ⟨ih135, w136, v133, r132q, x134⟩
    subst r132q
    try dsimp only at x134
    have aE := x134
    show zx_T zp_P 3 zp_m20 86 [(0, .ref 23), (1, .int (zI (op))), (2, .int (zI (a)))] [.int (zI (v133))] h135 _
    exact zr_ir (x := v133) (pc := 86) rfl rfl rfl ⟨ih135, (w136.wd rfl : zb_W [(23, 1), (24, 0)] h _), _, rfl, by dsimp only; exact ⟨by rw [zc_apd (by omega)]; exact aE.1, by omega, by omega⟩⟩
  · refine zr_sw (i := .lookupswitch 79 #[(8, 51), (9, 57), (10, 63), (11, 68), (28, 73)]) (len := 51) (t := 80) (x := op) (k := 27) (pc := 1) rfl c1 rfl rfl rfl rfl ?_
    refine zx_T.l (i := .aload_n 0) (k := 1) (v := .ref 23) (pc := 80) rfl rfl rfl ?_
    refine zx_T.l (i := .iload_n 1) (k := 1) (v := .int (zI (op))) (pc := 81) rfl rfl rfl ?_
    refine zx_T.l (i := .iload_n 2) (k := 1) (v := .int (zI (a))) (pc := 82) rfl rfl rfl ?_
    refine zr_is (cj := 21) (q' := zp_m21) (As := [.ref 23, .int (zI (op)), .int (zI (a))]) (rest := []) (pc := 83) rfl rfl rfl rfl rfl rfl (Nat.le_of_ble_eq_true rfl) rfl (Nat.le_of_ble_eq_true rfl) rfl ((zm_exchangeE_23 (h := h) hI (op := op) (a := a) (by omega) (by omega) (by omega) (by omega) ca zk).up (Nat.le_of_ble_eq_true rfl)) ?_
    rintro r137 h140 ⟨ih140, w141, v138, r137q, x139⟩
    subst r137q
    try dsimp only at x139
    have aE := x139
    show zx_T zp_P 3 zp_m20 86 [(0, .ref 23), (1, .int (zI (op))), (2, .int (zI (a)))] [.int (zI (v138))] h140 _
    exact zr_ir (x := v138) (pc := 86) rfl rfl rfl ⟨ih140, (w141.wd rfl : zb_W [(23, 1), (24, 0)] h _), _, rfl, by dsimp only; exact ⟨by rw [zc_apd (by omega)]; exact aE.1, by omega, by omega⟩⟩
  · refine zr_sw (i := .lookupswitch 79 #[(8, 51), (9, 57), (10, 63), (11, 68), (28, 73)]) (len := 51) (t := 74) (x := op) (k := 28) (pc := 1) rfl c1 rfl rfl rfl rfl ?_
    refine zx_T.l (i := .aload_n 0) (k := 1) (v := .ref 23) (pc := 74) rfl rfl rfl ?_
    refine zx_T.l (i := .iload_n 2) (k := 1) (v := .int (zI (a))) (pc := 75) rfl rfl rfl ?_
    refine zr_is (cj := 26) (q' := zp_m26) (As := [.ref 23, .int (zI (a))]) (rest := []) (pc := 76) rfl rfl rfl rfl rfl rfl (Nat.le_of_ble_eq_true rfl) rfl (Nat.le_of_ble_eq_true rfl) rfl ((zm_incE_23 (h := h) hI (a := a) (by omega) (by omega) zk).up (Nat.le_of_ble_eq_true rfl)) ?_
    rintro r142 h145 ⟨h145q, v143, r142q, x144⟩
    subst h145q r142q
    try dsimp only at x144
    have aE := x144
    show zx_T zp_P 3 zp_m20 79 [(0, .ref 23), (1, .int (zI (op))), (2, .int (zI (a)))] [.int (zI (v143))] h _
    exact zr_ir (x := v143) (pc := 79) rfl rfl rfl ⟨hI, zb_W.rf, _, rfl, by dsimp only; exact ⟨by rw [zc_ap28 (by omega)]; exact aE.1, by omega, by omega⟩⟩
