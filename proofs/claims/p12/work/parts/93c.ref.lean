/-! ===== 93c: the reference, method by method (by program) ===== -/
set_option maxRecDepth 100000 in
set_option maxHeartbeats 4000000 in
theorem zm_applyE_20 {h : zx_H} (hI : zb_I zc_H h) {op : Int} {a : Int} (op1 : 0 ≤ op) (op2 : op ≤ 28) (a1 : -2147483648 ≤ a) (a2 : a ≤ 2147483647) (ca : op = 21 → 5 ≤ a ∧ a ≤ 8) (zk : zk_in (zv_f h 20 1) (zv_a h 21)) (t2 : 1 ≤ zv_f h 20 1 → ¬ zv_a h 21 (zv_f h 20 1 + 7) = 2 ∧ (zv_a h 21 (zv_f h 20 1 + 7) = 3 → 2 ≤ zv_f h 20 1)) : zx_T zp_P 3 zp_m20 0 [(0, .ref 20), (1, .int (zI (op))), (2, .int (zI (a)))] [] h (zr_R [(20, 1), (21, 0)] h (fun e h' => zt_eq (e, zv_f h' 20 1, zv_a h' 21) (zc_ap op a (0, zv_f h 20 1, zv_a h 21)) ∧ 0 ≤ e ∧ e ≤ 4)) := by
  refine zx_T.l (i := .iload_n 1) (k := 1) (v := .int (zI (op))) (pc := 0) rfl rfl rfl ?_
  have c1 : op = 0 ∨ op = 1 ∨ op = 2 ∨ op = 3 ∨ op = 4 ∨ op = 5 ∨ op = 6 ∨ op = 7 ∨ op = 8 ∨ op = 9 ∨ op = 10 ∨ op = 11 ∨ op = 12 ∨ op = 13 ∨ op = 14 ∨ op = 15 ∨ op = 16 ∨ op = 17 ∨ op = 18 ∨ op = 19 ∨ op = 20 ∨ op = 21 ∨ op = 22 ∨ op = 23 ∨ op = 24 ∨ op = 25 ∨ op = 26 ∨ op = 27 ∨ op = 28 := by omega
  rcases c1 with c1 | c1 | c1 | c1 | c1 | c1 | c1 | c1 | c1 | c1 | c1 | c1 | c1 | c1 | c1 | c1 | c1 | c1 | c1 | c1 | c1 | c1 | c1 | c1 | c1 | c1 | c1 | c1 | c1
  · refine zr_sw (i := .lookupswitch 79 #[(8, 51), (9, 57), (10, 63), (11, 68), (28, 73)]) (len := 51) (t := 80) (x := op) (k := 0) (pc := 1) rfl c1 rfl rfl rfl rfl ?_
    refine zx_T.l (i := .aload_n 0) (k := 1) (v := .ref 20) (pc := 80) rfl rfl rfl ?_
    refine zx_T.l (i := .iload_n 1) (k := 1) (v := .int (zI (op))) (pc := 81) rfl rfl rfl ?_
    refine zx_T.l (i := .iload_n 2) (k := 1) (v := .int (zI (a))) (pc := 82) rfl rfl rfl ?_
    refine zr_is (cj := 21) (q' := zp_m21) (As := [.ref 20, .int (zI (op)), .int (zI (a))]) (rest := []) (pc := 83) rfl rfl rfl rfl rfl rfl (Nat.le_of_ble_eq_true rfl) rfl (Nat.le_of_ble_eq_true rfl) rfl ((zm_exchangeE_20 (h := h) hI (op := op) (a := a) (by omega) (by omega) (by omega) (by omega) ca zk).up (Nat.le_of_ble_eq_true rfl)) ?_
    rintro r2 h5 ⟨ih5, w6, v3, r2q, x4⟩
    subst r2q
    try dsimp only at x4
    have aE := x4
    show zx_T zp_P 3 zp_m20 86 [(0, .ref 20), (1, .int (zI (op))), (2, .int (zI (a)))] [.int (zI (v3))] h5 _
    exact zr_ir (x := v3) (pc := 86) rfl rfl rfl ⟨ih5, (w6.wd rfl : zb_W [(20, 1), (21, 0)] h _), _, rfl, by dsimp only; exact ⟨by rw [zc_apd (by omega)]; exact aE.1, by omega, by omega⟩⟩
  · refine zr_sw (i := .lookupswitch 79 #[(8, 51), (9, 57), (10, 63), (11, 68), (28, 73)]) (len := 51) (t := 80) (x := op) (k := 1) (pc := 1) rfl c1 rfl rfl rfl rfl ?_
    refine zx_T.l (i := .aload_n 0) (k := 1) (v := .ref 20) (pc := 80) rfl rfl rfl ?_
    refine zx_T.l (i := .iload_n 1) (k := 1) (v := .int (zI (op))) (pc := 81) rfl rfl rfl ?_
    refine zx_T.l (i := .iload_n 2) (k := 1) (v := .int (zI (a))) (pc := 82) rfl rfl rfl ?_
    refine zr_is (cj := 21) (q' := zp_m21) (As := [.ref 20, .int (zI (op)), .int (zI (a))]) (rest := []) (pc := 83) rfl rfl rfl rfl rfl rfl (Nat.le_of_ble_eq_true rfl) rfl (Nat.le_of_ble_eq_true rfl) rfl ((zm_exchangeE_20 (h := h) hI (op := op) (a := a) (by omega) (by omega) (by omega) (by omega) ca zk).up (Nat.le_of_ble_eq_true rfl)) ?_
    rintro r7 h10 ⟨ih10, w11, v8, r7q, x9⟩
    subst r7q
    try dsimp only at x9
    have aE := x9
    show zx_T zp_P 3 zp_m20 86 [(0, .ref 20), (1, .int (zI (op))), (2, .int (zI (a)))] [.int (zI (v8))] h10 _
    exact zr_ir (x := v8) (pc := 86) rfl rfl rfl ⟨ih10, (w11.wd rfl : zb_W [(20, 1), (21, 0)] h _), _, rfl, by dsimp only; exact ⟨by rw [zc_apd (by omega)]; exact aE.1, by omega, by omega⟩⟩
  · refine zr_sw (i := .lookupswitch 79 #[(8, 51), (9, 57), (10, 63), (11, 68), (28, 73)]) (len := 51) (t := 80) (x := op) (k := 2) (pc := 1) rfl c1 rfl rfl rfl rfl ?_
    refine zx_T.l (i := .aload_n 0) (k := 1) (v := .ref 20) (pc := 80) rfl rfl rfl ?_
    refine zx_T.l (i := .iload_n 1) (k := 1) (v := .int (zI (op))) (pc := 81) rfl rfl rfl ?_
    refine zx_T.l (i := .iload_n 2) (k := 1) (v := .int (zI (a))) (pc := 82) rfl rfl rfl ?_
    refine zr_is (cj := 21) (q' := zp_m21) (As := [.ref 20, .int (zI (op)), .int (zI (a))]) (rest := []) (pc := 83) rfl rfl rfl rfl rfl rfl (Nat.le_of_ble_eq_true rfl) rfl (Nat.le_of_ble_eq_true rfl) rfl ((zm_exchangeE_20 (h := h) hI (op := op) (a := a) (by omega) (by omega) (by omega) (by omega) ca zk).up (Nat.le_of_ble_eq_true rfl)) ?_
    rintro r12 h15 ⟨ih15, w16, v13, r12q, x14⟩
    subst r12q
    try dsimp only at x14
    have aE := x14
    show zx_T zp_P 3 zp_m20 86 [(0, .ref 20), (1, .int (zI (op))), (2, .int (zI (a)))] [.int (zI (v13))] h15 _
    exact zr_ir (x := v13) (pc := 86) rfl rfl rfl ⟨ih15, (w16.wd rfl : zb_W [(20, 1), (21, 0)] h _), _, rfl, by dsimp only; exact ⟨by rw [zc_apd (by omega)]; exact aE.1, by omega, by omega⟩⟩
  · refine zr_sw (i := .lookupswitch 79 #[(8, 51), (9, 57), (10, 63), (11, 68), (28, 73)]) (len := 51) (t := 80) (x := op) (k := 3) (pc := 1) rfl c1 rfl rfl rfl rfl ?_
    refine zx_T.l (i := .aload_n 0) (k := 1) (v := .ref 20) (pc := 80) rfl rfl rfl ?_
    refine zx_T.l (i := .iload_n 1) (k := 1) (v := .int (zI (op))) (pc := 81) rfl rfl rfl ?_
    refine zx_T.l (i := .iload_n 2) (k := 1) (v := .int (zI (a))) (pc := 82) rfl rfl rfl ?_
    refine zr_is (cj := 21) (q' := zp_m21) (As := [.ref 20, .int (zI (op)), .int (zI (a))]) (rest := []) (pc := 83) rfl rfl rfl rfl rfl rfl (Nat.le_of_ble_eq_true rfl) rfl (Nat.le_of_ble_eq_true rfl) rfl ((zm_exchangeE_20 (h := h) hI (op := op) (a := a) (by omega) (by omega) (by omega) (by omega) ca zk).up (Nat.le_of_ble_eq_true rfl)) ?_
    rintro r17 h20 ⟨ih20, w21, v18, r17q, x19⟩
    subst r17q
    try dsimp only at x19
    have aE := x19
    show zx_T zp_P 3 zp_m20 86 [(0, .ref 20), (1, .int (zI (op))), (2, .int (zI (a)))] [.int (zI (v18))] h20 _
    exact zr_ir (x := v18) (pc := 86) rfl rfl rfl ⟨ih20, (w21.wd rfl : zb_W [(20, 1), (21, 0)] h _), _, rfl, by dsimp only; exact ⟨by rw [zc_apd (by omega)]; exact aE.1, by omega, by omega⟩⟩
  · refine zr_sw (i := .lookupswitch 79 #[(8, 51), (9, 57), (10, 63), (11, 68), (28, 73)]) (len := 51) (t := 80) (x := op) (k := 4) (pc := 1) rfl c1 rfl rfl rfl rfl ?_
    refine zx_T.l (i := .aload_n 0) (k := 1) (v := .ref 20) (pc := 80) rfl rfl rfl ?_
    refine zx_T.l (i := .iload_n 1) (k := 1) (v := .int (zI (op))) (pc := 81) rfl rfl rfl ?_
    refine zx_T.l (i := .iload_n 2) (k := 1) (v := .int (zI (a))) (pc := 82) rfl rfl rfl ?_
    refine zr_is (cj := 21) (q' := zp_m21) (As := [.ref 20, .int (zI (op)), .int (zI (a))]) (rest := []) (pc := 83) rfl rfl rfl rfl rfl rfl (Nat.le_of_ble_eq_true rfl) rfl (Nat.le_of_ble_eq_true rfl) rfl ((zm_exchangeE_20 (h := h) hI (op := op) (a := a) (by omega) (by omega) (by omega) (by omega) ca zk).up (Nat.le_of_ble_eq_true rfl)) ?_
    rintro r22 h25 ⟨ih25, w26, v23, r22q, x24⟩
    subst r22q
    try dsimp only at x24
    have aE := x24
    show zx_T zp_P 3 zp_m20 86 [(0, .ref 20), (1, .int (zI (op))), (2, .int (zI (a)))] [.int (zI (v23))] h25 _
    exact zr_ir (x := v23) (pc := 86) rfl rfl rfl ⟨ih25, (w26.wd rfl : zb_W [(20, 1), (21, 0)] h _), _, rfl, by dsimp only; exact ⟨by rw [zc_apd (by omega)]; exact aE.1, by omega, by omega⟩⟩
  · refine zr_sw (i := .lookupswitch 79 #[(8, 51), (9, 57), (10, 63), (11, 68), (28, 73)]) (len := 51) (t := 80) (x := op) (k := 5) (pc := 1) rfl c1 rfl rfl rfl rfl ?_
    refine zx_T.l (i := .aload_n 0) (k := 1) (v := .ref 20) (pc := 80) rfl rfl rfl ?_
    refine zx_T.l (i := .iload_n 1) (k := 1) (v := .int (zI (op))) (pc := 81) rfl rfl rfl ?_
    refine zx_T.l (i := .iload_n 2) (k := 1) (v := .int (zI (a))) (pc := 82) rfl rfl rfl ?_
    refine zr_is (cj := 21) (q' := zp_m21) (As := [.ref 20, .int (zI (op)), .int (zI (a))]) (rest := []) (pc := 83) rfl rfl rfl rfl rfl rfl (Nat.le_of_ble_eq_true rfl) rfl (Nat.le_of_ble_eq_true rfl) rfl ((zm_exchangeE_20 (h := h) hI (op := op) (a := a) (by omega) (by omega) (by omega) (by omega) ca zk).up (Nat.le_of_ble_eq_true rfl)) ?_
    rintro r27 h30 ⟨ih30, w31, v28, r27q, x29⟩
    subst r27q
    try dsimp only at x29
    have aE := x29
    show zx_T zp_P 3 zp_m20 86 [(0, .ref 20), (1, .int (zI (op))), (2, .int (zI (a)))] [.int (zI (v28))] h30 _
    exact zr_ir (x := v28) (pc := 86) rfl rfl rfl ⟨ih30, (w31.wd rfl : zb_W [(20, 1), (21, 0)] h _), _, rfl, by dsimp only; exact ⟨by rw [zc_apd (by omega)]; exact aE.1, by omega, by omega⟩⟩
  · refine zr_sw (i := .lookupswitch 79 #[(8, 51), (9, 57), (10, 63), (11, 68), (28, 73)]) (len := 51) (t := 80) (x := op) (k := 6) (pc := 1) rfl c1 rfl rfl rfl rfl ?_
    refine zx_T.l (i := .aload_n 0) (k := 1) (v := .ref 20) (pc := 80) rfl rfl rfl ?_
    refine zx_T.l (i := .iload_n 1) (k := 1) (v := .int (zI (op))) (pc := 81) rfl rfl rfl ?_
    refine zx_T.l (i := .iload_n 2) (k := 1) (v := .int (zI (a))) (pc := 82) rfl rfl rfl ?_
    refine zr_is (cj := 21) (q' := zp_m21) (As := [.ref 20, .int (zI (op)), .int (zI (a))]) (rest := []) (pc := 83) rfl rfl rfl rfl rfl rfl (Nat.le_of_ble_eq_true rfl) rfl (Nat.le_of_ble_eq_true rfl) rfl ((zm_exchangeE_20 (h := h) hI (op := op) (a := a) (by omega) (by omega) (by omega) (by omega) ca zk).up (Nat.le_of_ble_eq_true rfl)) ?_
    rintro r32 h35 ⟨ih35, w36, v33, r32q, x34⟩
    subst r32q
    try dsimp only at x34
    have aE := x34
    show zx_T zp_P 3 zp_m20 86 [(0, .ref 20), (1, .int (zI (op))), (2, .int (zI (a)))] [.int (zI (v33))] h35 _
    exact zr_ir (x := v33) (pc := 86) rfl rfl rfl ⟨ih35, (w36.wd rfl : zb_W [(20, 1), (21, 0)] h _), _, rfl, by dsimp only; exact ⟨by rw [zc_apd (by omega)]; exact aE.1, by omega, by omega⟩⟩
  · refine zr_sw (i := .lookupswitch 79 #[(8, 51), (9, 57), (10, 63), (11, 68), (28, 73)]) (len := 51) (t := 80) (x := op) (k := 7) (pc := 1) rfl c1 rfl rfl rfl rfl ?_
    refine zx_T.l (i := .aload_n 0) (k := 1) (v := .ref 20) (pc := 80) rfl rfl rfl ?_
    refine zx_T.l (i := .iload_n 1) (k := 1) (v := .int (zI (op))) (pc := 81) rfl rfl rfl ?_
    refine zx_T.l (i := .iload_n 2) (k := 1) (v := .int (zI (a))) (pc := 82) rfl rfl rfl ?_
    refine zr_is (cj := 21) (q' := zp_m21) (As := [.ref 20, .int (zI (op)), .int (zI (a))]) (rest := []) (pc := 83) rfl rfl rfl rfl rfl rfl (Nat.le_of_ble_eq_true rfl) rfl (Nat.le_of_ble_eq_true rfl) rfl ((zm_exchangeE_20 (h := h) hI (op := op) (a := a) (by omega) (by omega) (by omega) (by omega) ca zk).up (Nat.le_of_ble_eq_true rfl)) ?_
    rintro r37 h40 ⟨ih40, w41, v38, r37q, x39⟩
    subst r37q
    try dsimp only at x39
    have aE := x39
    show zx_T zp_P 3 zp_m20 86 [(0, .ref 20), (1, .int (zI (op))), (2, .int (zI (a)))] [.int (zI (v38))] h40 _
    exact zr_ir (x := v38) (pc := 86) rfl rfl rfl ⟨ih40, (w41.wd rfl : zb_W [(20, 1), (21, 0)] h _), _, rfl, by dsimp only; exact ⟨by rw [zc_apd (by omega)]; exact aE.1, by omega, by omega⟩⟩
  · refine zr_sw (i := .lookupswitch 79 #[(8, 51), (9, 57), (10, 63), (11, 68), (28, 73)]) (len := 51) (t := 52) (x := op) (k := 8) (pc := 1) rfl c1 rfl rfl rfl rfl ?_
    refine zx_T.l (i := .aload_n 0) (k := 1) (v := .ref 20) (pc := 52) rfl rfl rfl ?_
    refine zx_T.l (i := .iload_n 2) (k := 1) (v := .int (zI (a))) (pc := 53) rfl rfl rfl ?_
    refine zr_is (cj := 22) (q' := zp_m22) (As := [.ref 20, .int (zI (a))]) (rest := []) (pc := 54) rfl rfl rfl rfl rfl rfl (Nat.le_of_ble_eq_true rfl) rfl (Nat.le_of_ble_eq_true rfl) rfl ((zm_loadE_20 (h := h) hI (a := a) (by omega) (by omega) zk).up (Nat.le_of_ble_eq_true rfl)) ?_
    rintro r42 h45 ⟨ih45, w46, v43, r42q, x44⟩
    subst r42q
    try dsimp only at x44
    have aE := x44
    show zx_T zp_P 3 zp_m20 57 [(0, .ref 20), (1, .int (zI (op))), (2, .int (zI (a)))] [.int (zI (v43))] h45 _
    exact zr_ir (x := v43) (pc := 57) rfl rfl rfl ⟨ih45, (w46.wd rfl : zb_W [(20, 1), (21, 0)] h _), _, rfl, by dsimp only; exact ⟨by rw [zc_ap8 (by omega)]; exact aE.1, by omega, by omega⟩⟩
  · refine zr_sw (i := .lookupswitch 79 #[(8, 51), (9, 57), (10, 63), (11, 68), (28, 73)]) (len := 51) (t := 58) (x := op) (k := 9) (pc := 1) rfl c1 rfl rfl rfl rfl ?_
    refine zx_T.l (i := .aload_n 0) (k := 1) (v := .ref 20) (pc := 58) rfl rfl rfl ?_
    refine zx_T.l (i := .iload_n 2) (k := 1) (v := .int (zI (a))) (pc := 59) rfl rfl rfl ?_
    refine zr_is (cj := 23) (q' := zp_m23) (As := [.ref 20, .int (zI (a))]) (rest := []) (pc := 60) rfl rfl rfl rfl rfl rfl (Nat.le_of_ble_eq_true rfl) rfl (Nat.le_of_ble_eq_true rfl) rfl ((zm_storeE_20 (h := h) hI (a := a) (by omega) (by omega) zk t2).up (Nat.le_of_ble_eq_true rfl)) ?_
    rintro r47 h50 ⟨ih50, w51, v48, r47q, x49⟩
    subst r47q
    try dsimp only at x49
    have aE := x49
    show zx_T zp_P 3 zp_m20 63 [(0, .ref 20), (1, .int (zI (op))), (2, .int (zI (a)))] [.int (zI (v48))] h50 _
    exact zr_ir (x := v48) (pc := 63) rfl rfl rfl ⟨ih50, (w51.wd rfl : zb_W [(20, 1), (21, 0)] h _), _, rfl, by dsimp only; exact ⟨by rw [zc_ap9 (by omega)]; exact aE.1, by omega, by omega⟩⟩
  · refine zr_sw (i := .lookupswitch 79 #[(8, 51), (9, 57), (10, 63), (11, 68), (28, 73)]) (len := 51) (t := 64) (x := op) (k := 10) (pc := 1) rfl c1 rfl rfl rfl rfl ?_
    refine zx_T.l (i := .aload_n 0) (k := 1) (v := .ref 20) (pc := 64) rfl rfl rfl ?_
    refine zr_is (cj := 24) (q' := zp_m24) (As := [.ref 20]) (rest := []) (pc := 65) rfl rfl rfl rfl rfl rfl (Nat.le_of_ble_eq_true rfl) rfl (Nat.le_of_ble_eq_true rfl) rfl ((zm_popE_20 (h := h) hI  zk).up (Nat.le_of_ble_eq_true rfl)) ?_
    rintro r52 h55 ⟨ih55, w56, v53, r52q, x54⟩
    subst r52q
    try dsimp only at x54
    have aE := x54
    show zx_T zp_P 3 zp_m20 68 [(0, .ref 20), (1, .int (zI (op))), (2, .int (zI (a)))] [.int (zI (v53))] h55 _
    exact zr_ir (x := v53) (pc := 68) rfl rfl rfl ⟨ih55, (w56.wd rfl : zb_W [(20, 1), (21, 0)] h _), _, rfl, by dsimp only; exact ⟨by rw [zc_ap10 (by omega)]; exact aE.1, by omega, by omega⟩⟩
  · refine zr_sw (i := .lookupswitch 79 #[(8, 51), (9, 57), (10, 63), (11, 68), (28, 73)]) (len := 51) (t := 69) (x := op) (k := 11) (pc := 1) rfl c1 rfl rfl rfl rfl ?_
    refine zx_T.l (i := .aload_n 0) (k := 1) (v := .ref 20) (pc := 69) rfl rfl rfl ?_
    refine zr_is (cj := 25) (q' := zp_m25) (As := [.ref 20]) (rest := []) (pc := 70) rfl rfl rfl rfl rfl rfl (Nat.le_of_ble_eq_true rfl) rfl (Nat.le_of_ble_eq_true rfl) rfl ((zm_pop2E_20 (h := h) hI  zk).up (Nat.le_of_ble_eq_true rfl)) ?_
    rintro r57 h60 ⟨ih60, w61, v58, r57q, x59⟩
    subst r57q
    try dsimp only at x59
    have aE := x59
    show zx_T zp_P 3 zp_m20 73 [(0, .ref 20), (1, .int (zI (op))), (2, .int (zI (a)))] [.int (zI (v58))] h60 _
    exact zr_ir (x := v58) (pc := 73) rfl rfl rfl ⟨ih60, (w61.wd rfl : zb_W [(20, 1), (21, 0)] h _), _, rfl, by dsimp only; exact ⟨by rw [zc_ap11 (by omega)]; exact aE.1, by omega, by omega⟩⟩
  · refine zr_sw (i := .lookupswitch 79 #[(8, 51), (9, 57), (10, 63), (11, 68), (28, 73)]) (len := 51) (t := 80) (x := op) (k := 12) (pc := 1) rfl c1 rfl rfl rfl rfl ?_
    refine zx_T.l (i := .aload_n 0) (k := 1) (v := .ref 20) (pc := 80) rfl rfl rfl ?_
    refine zx_T.l (i := .iload_n 1) (k := 1) (v := .int (zI (op))) (pc := 81) rfl rfl rfl ?_
    refine zx_T.l (i := .iload_n 2) (k := 1) (v := .int (zI (a))) (pc := 82) rfl rfl rfl ?_
    refine zr_is (cj := 21) (q' := zp_m21) (As := [.ref 20, .int (zI (op)), .int (zI (a))]) (rest := []) (pc := 83) rfl rfl rfl rfl rfl rfl (Nat.le_of_ble_eq_true rfl) rfl (Nat.le_of_ble_eq_true rfl) rfl ((zm_exchangeE_20 (h := h) hI (op := op) (a := a) (by omega) (by omega) (by omega) (by omega) ca zk).up (Nat.le_of_ble_eq_true rfl)) ?_
    rintro r62 h65 ⟨ih65, w66, v63, r62q, x64⟩
    subst r62q
    try dsimp only at x64
    have aE := x64
    show zx_T zp_P 3 zp_m20 86 [(0, .ref 20), (1, .int (zI (op))), (2, .int (zI (a)))] [.int (zI (v63))] h65 _
    exact zr_ir (x := v63) (pc := 86) rfl rfl rfl ⟨ih65, (w66.wd rfl : zb_W [(20, 1), (21, 0)] h _), _, rfl, by dsimp only; exact ⟨by rw [zc_apd (by omega)]; exact aE.1, by omega, by omega⟩⟩
  · refine zr_sw (i := .lookupswitch 79 #[(8, 51), (9, 57), (10, 63), (11, 68), (28, 73)]) (len := 51) (t := 80) (x := op) (k := 13) (pc := 1) rfl c1 rfl rfl rfl rfl ?_
    refine zx_T.l (i := .aload_n 0) (k := 1) (v := .ref 20) (pc := 80) rfl rfl rfl ?_
    refine zx_T.l (i := .iload_n 1) (k := 1) (v := .int (zI (op))) (pc := 81) rfl rfl rfl ?_
    refine zx_T.l (i := .iload_n 2) (k := 1) (v := .int (zI (a))) (pc := 82) rfl rfl rfl ?_
    refine zr_is (cj := 21) (q' := zp_m21) (As := [.ref 20, .int (zI (op)), .int (zI (a))]) (rest := []) (pc := 83) rfl rfl rfl rfl rfl rfl (Nat.le_of_ble_eq_true rfl) rfl (Nat.le_of_ble_eq_true rfl) rfl ((zm_exchangeE_20 (h := h) hI (op := op) (a := a) (by omega) (by omega) (by omega) (by omega) ca zk).up (Nat.le_of_ble_eq_true rfl)) ?_
    rintro r67 h70 ⟨ih70, w71, v68, r67q, x69⟩
    subst r67q
    try dsimp only at x69
    have aE := x69
    show zx_T zp_P 3 zp_m20 86 [(0, .ref 20), (1, .int (zI (op))), (2, .int (zI (a)))] [.int (zI (v68))] h70 _
    exact zr_ir (x := v68) (pc := 86) rfl rfl rfl ⟨ih70, (w71.wd rfl : zb_W [(20, 1), (21, 0)] h _), _, rfl, by dsimp only; exact ⟨by rw [zc_apd (by omega)]; exact aE.1, by omega, by omega⟩⟩
  · refine zr_sw (i := .lookupswitch 79 #[(8, 51), (9, 57), (10, 63), (11, 68), (28, 73)]) (len := 51) (t := 80) (x := op) (k := 14) (pc := 1) rfl c1 rfl rfl rfl rfl ?_
    refine zx_T.l (i := .aload_n 0) (k := 1) (v := .ref 20) (pc := 80) rfl rfl rfl ?_
    refine zx_T.l (i := .iload_n 1) (k := 1) (v := .int (zI (op))) (pc := 81) rfl rfl rfl ?_
    refine zx_T.l (i := .iload_n 2) (k := 1) (v := .int (zI (a))) (pc := 82) rfl rfl rfl ?_
    refine zr_is (cj := 21) (q' := zp_m21) (As := [.ref 20, .int (zI (op)), .int (zI (a))]) (rest := []) (pc := 83) rfl rfl rfl rfl rfl rfl (Nat.le_of_ble_eq_true rfl) rfl (Nat.le_of_ble_eq_true rfl) rfl ((zm_exchangeE_20 (h := h) hI (op := op) (a := a) (by omega) (by omega) (by omega) (by omega) ca zk).up (Nat.le_of_ble_eq_true rfl)) ?_
    rintro r72 h75 ⟨ih75, w76, v73, r72q, x74⟩
    subst r72q
    try dsimp only at x74
    have aE := x74
    show zx_T zp_P 3 zp_m20 86 [(0, .ref 20), (1, .int (zI (op))), (2, .int (zI (a)))] [.int (zI (v73))] h75 _
    exact zr_ir (x := v73) (pc := 86) rfl rfl rfl ⟨ih75, (w76.wd rfl : zb_W [(20, 1), (21, 0)] h _), _, rfl, by dsimp only; exact ⟨by rw [zc_apd (by omega)]; exact aE.1, by omega, by omega⟩⟩
  · refine zr_sw (i := .lookupswitch 79 #[(8, 51), (9, 57), (10, 63), (11, 68), (28, 73)]) (len := 51) (t := 80) (x := op) (k := 15) (pc := 1) rfl c1 rfl rfl rfl rfl ?_
    refine zx_T.l (i := .aload_n 0) (k := 1) (v := .ref 20) (pc := 80) rfl rfl rfl ?_
    refine zx_T.l (i := .iload_n 1) (k := 1) (v := .int (zI (op))) (pc := 81) rfl rfl rfl ?_
    refine zx_T.l (i := .iload_n 2) (k := 1) (v := .int (zI (a))) (pc := 82) rfl rfl rfl ?_
    refine zr_is (cj := 21) (q' := zp_m21) (As := [.ref 20, .int (zI (op)), .int (zI (a))]) (rest := []) (pc := 83) rfl rfl rfl rfl rfl rfl (Nat.le_of_ble_eq_true rfl) rfl (Nat.le_of_ble_eq_true rfl) rfl ((zm_exchangeE_20 (h := h) hI (op := op) (a := a) (by omega) (by omega) (by omega) (by omega) ca zk).up (Nat.le_of_ble_eq_true rfl)) ?_
    rintro r77 h80 ⟨ih80, w81, v78, r77q, x79⟩
    subst r77q
    try dsimp only at x79
    have aE := x79
    show zx_T zp_P 3 zp_m20 86 [(0, .ref 20), (1, .int (zI (op))), (2, .int (zI (a)))] [.int (zI (v78))] h80 _
    exact zr_ir (x := v78) (pc := 86) rfl rfl rfl ⟨ih80, (w81.wd rfl : zb_W [(20, 1), (21, 0)] h _), _, rfl, by dsimp only; exact ⟨by rw [zc_apd (by omega)]; exact aE.1, by omega, by omega⟩⟩
  · refine zr_sw (i := .lookupswitch 79 #[(8, 51), (9, 57), (10, 63), (11, 68), (28, 73)]) (len := 51) (t := 80) (x := op) (k := 16) (pc := 1) rfl c1 rfl rfl rfl rfl ?_
    refine zx_T.l (i := .aload_n 0) (k := 1) (v := .ref 20) (pc := 80) rfl rfl rfl ?_
    refine zx_T.l (i := .iload_n 1) (k := 1) (v := .int (zI (op))) (pc := 81) rfl rfl rfl ?_
    refine zx_T.l (i := .iload_n 2) (k := 1) (v := .int (zI (a))) (pc := 82) rfl rfl rfl ?_
    refine zr_is (cj := 21) (q' := zp_m21) (As := [.ref 20, .int (zI (op)), .int (zI (a))]) (rest := []) (pc := 83) rfl rfl rfl rfl rfl rfl (Nat.le_of_ble_eq_true rfl) rfl (Nat.le_of_ble_eq_true rfl) rfl ((zm_exchangeE_20 (h := h) hI (op := op) (a := a) (by omega) (by omega) (by omega) (by omega) ca zk).up (Nat.le_of_ble_eq_true rfl)) ?_
    rintro r82 h85 ⟨ih85, w86, v83, r82q, x84⟩
    subst r82q
    try dsimp only at x84
    have aE := x84
    show zx_T zp_P 3 zp_m20 86 [(0, .ref 20), (1, .int (zI (op))), (2, .int (zI (a)))] [.int (zI (v83))] h85 _
    exact zr_ir (x := v83) (pc := 86) rfl rfl rfl ⟨ih85, (w86.wd rfl : zb_W [(20, 1), (21, 0)] h _), _, rfl, by dsimp only; exact ⟨by rw [zc_apd (by omega)]; exact aE.1, by omega, by omega⟩⟩
  · refine zr_sw (i := .lookupswitch 79 #[(8, 51), (9, 57), (10, 63), (11, 68), (28, 73)]) (len := 51) (t := 80) (x := op) (k := 17) (pc := 1) rfl c1 rfl rfl rfl rfl ?_
    refine zx_T.l (i := .aload_n 0) (k := 1) (v := .ref 20) (pc := 80) rfl rfl rfl ?_
    refine zx_T.l (i := .iload_n 1) (k := 1) (v := .int (zI (op))) (pc := 81) rfl rfl rfl ?_
    refine zx_T.l (i := .iload_n 2) (k := 1) (v := .int (zI (a))) (pc := 82) rfl rfl rfl ?_
    refine zr_is (cj := 21) (q' := zp_m21) (As := [.ref 20, .int (zI (op)), .int (zI (a))]) (rest := []) (pc := 83) rfl rfl rfl rfl rfl rfl (Nat.le_of_ble_eq_true rfl) rfl (Nat.le_of_ble_eq_true rfl) rfl ((zm_exchangeE_20 (h := h) hI (op := op) (a := a) (by omega) (by omega) (by omega) (by omega) ca zk).up (Nat.le_of_ble_eq_true rfl)) ?_
    rintro r87 h90 ⟨ih90, w91, v88, r87q, x89⟩
    subst r87q
    try dsimp only at x89
    have aE := x89
    show zx_T zp_P 3 zp_m20 86 [(0, .ref 20), (1, .int (zI (op))), (2, .int (zI (a)))] [.int (zI (v88))] h90 _
    exact zr_ir (x := v88) (pc := 86) rfl rfl rfl ⟨ih90, (w91.wd rfl : zb_W [(20, 1), (21, 0)] h _), _, rfl, by dsimp only; exact ⟨by rw [zc_apd (by omega)]; exact aE.1, by omega, by omega⟩⟩
  · refine zr_sw (i := .lookupswitch 79 #[(8, 51), (9, 57), (10, 63), (11, 68), (28, 73)]) (len := 51) (t := 80) (x := op) (k := 18) (pc := 1) rfl c1 rfl rfl rfl rfl ?_
    refine zx_T.l (i := .aload_n 0) (k := 1) (v := .ref 20) (pc := 80) rfl rfl rfl ?_
    refine zx_T.l (i := .iload_n 1) (k := 1) (v := .int (zI (op))) (pc := 81) rfl rfl rfl ?_
    refine zx_T.l (i := .iload_n 2) (k := 1) (v := .int (zI (a))) (pc := 82) rfl rfl rfl ?_
    refine zr_is (cj := 21) (q' := zp_m21) (As := [.ref 20, .int (zI (op)), .int (zI (a))]) (rest := []) (pc := 83) rfl rfl rfl rfl rfl rfl (Nat.le_of_ble_eq_true rfl) rfl (Nat.le_of_ble_eq_true rfl) rfl ((zm_exchangeE_20 (h := h) hI (op := op) (a := a) (by omega) (by omega) (by omega) (by omega) ca zk).up (Nat.le_of_ble_eq_true rfl)) ?_
    rintro r92 h95 ⟨ih95, w96, v93, r92q, x94⟩
    subst r92q
    try dsimp only at x94
    have aE := x94
    show zx_T zp_P 3 zp_m20 86 [(0, .ref 20), (1, .int (zI (op))), (2, .int (zI (a)))] [.int (zI (v93))] h95 _
    exact zr_ir (x := v93) (pc := 86) rfl rfl rfl ⟨ih95, (w96.wd rfl : zb_W [(20, 1), (21, 0)] h _), _, rfl, by dsimp only; exact ⟨by rw [zc_apd (by omega)]; exact aE.1, by omega, by omega⟩⟩
  · refine zr_sw (i := .lookupswitch 79 #[(8, 51), (9, 57), (10, 63), (11, 68), (28, 73)]) (len := 51) (t := 80) (x := op) (k := 19) (pc := 1) rfl c1 rfl rfl rfl rfl ?_
    refine zx_T.l (i := .aload_n 0) (k := 1) (v := .ref 20) (pc := 80) rfl rfl rfl ?_
    refine zx_T.l (i := .iload_n 1) (k := 1) (v := .int (zI (op))) (pc := 81) rfl rfl rfl ?_
    refine zx_T.l (i := .iload_n 2) (k := 1) (v := .int (zI (a))) (pc := 82) rfl rfl rfl ?_
    refine zr_is (cj := 21) (q' := zp_m21) (As := [.ref 20, .int (zI (op)), .int (zI (a))]) (rest := []) (pc := 83) rfl rfl rfl rfl rfl rfl (Nat.le_of_ble_eq_true rfl) rfl (Nat.le_of_ble_eq_true rfl) rfl ((zm_exchangeE_20 (h := h) hI (op := op) (a := a) (by omega) (by omega) (by omega) (by omega) ca zk).up (Nat.le_of_ble_eq_true rfl)) ?_
    rintro r97 h100 ⟨ih100, w101, v98, r97q, x99⟩
    subst r97q
    try dsimp only at x99
    have aE := x99
    show zx_T zp_P 3 zp_m20 86 [(0, .ref 20), (1, .int (zI (op))), (2, .int (zI (a)))] [.int (zI (v98))] h100 _
    exact zr_ir (x := v98) (pc := 86) rfl rfl rfl ⟨ih100, (w101.wd rfl : zb_W [(20, 1), (21, 0)] h _), _, rfl, by dsimp only; exact ⟨by rw [zc_apd (by omega)]; exact aE.1, by omega, by omega⟩⟩
  · refine zr_sw (i := .lookupswitch 79 #[(8, 51), (9, 57), (10, 63), (11, 68), (28, 73)]) (len := 51) (t := 80) (x := op) (k := 20) (pc := 1) rfl c1 rfl rfl rfl rfl ?_
    refine zx_T.l (i := .aload_n 0) (k := 1) (v := .ref 20) (pc := 80) rfl rfl rfl ?_
    refine zx_T.l (i := .iload_n 1) (k := 1) (v := .int (zI (op))) (pc := 81) rfl rfl rfl ?_
    refine zx_T.l (i := .iload_n 2) (k := 1) (v := .int (zI (a))) (pc := 82) rfl rfl rfl ?_
    refine zr_is (cj := 21) (q' := zp_m21) (As := [.ref 20, .int (zI (op)), .int (zI (a))]) (rest := []) (pc := 83) rfl rfl rfl rfl rfl rfl (Nat.le_of_ble_eq_true rfl) rfl (Nat.le_of_ble_eq_true rfl) rfl ((zm_exchangeE_20 (h := h) hI (op := op) (a := a) (by omega) (by omega) (by omega) (by omega) ca zk).up (Nat.le_of_ble_eq_true rfl)) ?_
    rintro r102 h105 ⟨ih105, w106, v103, r102q, x104⟩
    subst r102q
    try dsimp only at x104
    have aE := x104
    show zx_T zp_P 3 zp_m20 86 [(0, .ref 20), (1, .int (zI (op))), (2, .int (zI (a)))] [.int (zI (v103))] h105 _
    exact zr_ir (x := v103) (pc := 86) rfl rfl rfl ⟨ih105, (w106.wd rfl : zb_W [(20, 1), (21, 0)] h _), _, rfl, by dsimp only; exact ⟨by rw [zc_apd (by omega)]; exact aE.1, by omega, by omega⟩⟩
  · refine zr_sw (i := .lookupswitch 79 #[(8, 51), (9, 57), (10, 63), (11, 68), (28, 73)]) (len := 51) (t := 80) (x := op) (k := 21) (pc := 1) rfl c1 rfl rfl rfl rfl ?_
    refine zx_T.l (i := .aload_n 0) (k := 1) (v := .ref 20) (pc := 80) rfl rfl rfl ?_
    refine zx_T.l (i := .iload_n 1) (k := 1) (v := .int (zI (op))) (pc := 81) rfl rfl rfl ?_
    refine zx_T.l (i := .iload_n 2) (k := 1) (v := .int (zI (a))) (pc := 82) rfl rfl rfl ?_
    refine zr_is (cj := 21) (q' := zp_m21) (As := [.ref 20, .int (zI (op)), .int (zI (a))]) (rest := []) (pc := 83) rfl rfl rfl rfl rfl rfl (Nat.le_of_ble_eq_true rfl) rfl (Nat.le_of_ble_eq_true rfl) rfl ((zm_exchangeE_20 (h := h) hI (op := op) (a := a) (by omega) (by omega) (by omega) (by omega) ca zk).up (Nat.le_of_ble_eq_true rfl)) ?_
    rintro r107 h110 ⟨ih110, w111, v108, r107q, x109⟩
    subst r107q
    try dsimp only at x109
    have aE := x109
    show zx_T zp_P 3 zp_m20 86 [(0, .ref 20), (1, .int (zI (op))), (2, .int (zI (a)))] [.int (zI (v108))] h110 _
    exact zr_ir (x := v108) (pc := 86) rfl rfl rfl ⟨ih110, (w111.wd rfl : zb_W [(20, 1), (21, 0)] h _), _, rfl, by dsimp only; exact ⟨by rw [zc_apd (by omega)]; exact aE.1, by omega, by omega⟩⟩
  · refine zr_sw (i := .lookupswitch 79 #[(8, 51), (9, 57), (10, 63), (11, 68), (28, 73)]) (len := 51) (t := 80) (x := op) (k := 22) (pc := 1) rfl c1 rfl rfl rfl rfl ?_
    refine zx_T.l (i := .aload_n 0) (k := 1) (v := .ref 20) (pc := 80) rfl rfl rfl ?_
    refine zx_T.l (i := .iload_n 1) (k := 1) (v := .int (zI (op))) (pc := 81) rfl rfl rfl ?_
    refine zx_T.l (i := .iload_n 2) (k := 1) (v := .int (zI (a))) (pc := 82) rfl rfl rfl ?_
    refine zr_is (cj := 21) (q' := zp_m21) (As := [.ref 20, .int (zI (op)), .int (zI (a))]) (rest := []) (pc := 83) rfl rfl rfl rfl rfl rfl (Nat.le_of_ble_eq_true rfl) rfl (Nat.le_of_ble_eq_true rfl) rfl ((zm_exchangeE_20 (h := h) hI (op := op) (a := a) (by omega) (by omega) (by omega) (by omega) ca zk).up (Nat.le_of_ble_eq_true rfl)) ?_
    rintro r112 h115 ⟨ih115, w116, v113, r112q, x114⟩
    subst r112q
    try dsimp only at x114
    have aE := x114
    show zx_T zp_P 3 zp_m20 86 [(0, .ref 20), (1, .int (zI (op))), (2, .int (zI (a)))] [.int (zI (v113))] h115 _
    exact zr_ir (x := v113) (pc := 86) rfl rfl rfl ⟨ih115, (w116.wd rfl : zb_W [(20, 1), (21, 0)] h _), _, rfl, by dsimp only; exact ⟨by rw [zc_apd (by omega)]; exact aE.1, by omega, by omega⟩⟩
  · refine zr_sw (i := .lookupswitch 79 #[(8, 51), (9, 57), (10, 63), (11, 68), (28, 73)]) (len := 51) (t := 80) (x := op) (k := 23) (pc := 1) rfl c1 rfl rfl rfl rfl ?_
    refine zx_T.l (i := .aload_n 0) (k := 1) (v := .ref 20) (pc := 80) rfl rfl rfl ?_
    refine zx_T.l (i := .iload_n 1) (k := 1) (v := .int (zI (op))) (pc := 81) rfl rfl rfl ?_
    refine zx_T.l (i := .iload_n 2) (k := 1) (v := .int (zI (a))) (pc := 82) rfl rfl rfl ?_
    refine zr_is (cj := 21) (q' := zp_m21) (As := [.ref 20, .int (zI (op)), .int (zI (a))]) (rest := []) (pc := 83) rfl rfl rfl rfl rfl rfl (Nat.le_of_ble_eq_true rfl) rfl (Nat.le_of_ble_eq_true rfl) rfl ((zm_exchangeE_20 (h := h) hI (op := op) (a := a) (by omega) (by omega) (by omega) (by omega) ca zk).up (Nat.le_of_ble_eq_true rfl)) ?_
    rintro r117 h120 ⟨ih120, w121, v118, r117q, x119⟩
    subst r117q
    try dsimp only at x119
    have aE := x119
    show zx_T zp_P 3 zp_m20 86 [(0, .ref 20), (1, .int (zI (op))), (2, .int (zI (a)))] [.int (zI (v118))] h120 _
    exact zr_ir (x := v118) (pc := 86) rfl rfl rfl ⟨ih120, (w121.wd rfl : zb_W [(20, 1), (21, 0)] h _), _, rfl, by dsimp only; exact ⟨by rw [zc_apd (by omega)]; exact aE.1, by omega, by omega⟩⟩
  · refine zr_sw (i := .lookupswitch 79 #[(8, 51), (9, 57), (10, 63), (11, 68), (28, 73)]) (len := 51) (t := 80) (x := op) (k := 24) (pc := 1) rfl c1 rfl rfl rfl rfl ?_
    refine zx_T.l (i := .aload_n 0) (k := 1) (v := .ref 20) (pc := 80) rfl rfl rfl ?_
    refine zx_T.l (i := .iload_n 1) (k := 1) (v := .int (zI (op))) (pc := 81) rfl rfl rfl ?_
    refine zx_T.l (i := .iload_n 2) (k := 1) (v := .int (zI (a))) (pc := 82) rfl rfl rfl ?_
    refine zr_is (cj := 21) (q' := zp_m21) (As := [.ref 20, .int (zI (op)), .int (zI (a))]) (rest := []) (pc := 83) rfl rfl rfl rfl rfl rfl (Nat.le_of_ble_eq_true rfl) rfl (Nat.le_of_ble_eq_true rfl) rfl ((zm_exchangeE_20 (h := h) hI (op := op) (a := a) (by omega) (by omega) (by omega) (by omega) ca zk).up (Nat.le_of_ble_eq_true rfl)) ?_
    rintro r122 h125 ⟨ih125, w126, v123, r122q, x124⟩
    subst r122q
    try dsimp only at x124
    have aE := x124
    show zx_T zp_P 3 zp_m20 86 [(0, .ref 20), (1, .int (zI (op))), (2, .int (zI (a)))] [.int (zI (v123))] h125 _
    exact zr_ir (x := v123) (pc := 86) rfl rfl rfl ⟨ih125, (w126.wd rfl : zb_W [(20, 1), (21, 0)] h _), _, rfl, by dsimp only; exact ⟨by rw [zc_apd (by omega)]; exact aE.1, by omega, by omega⟩⟩
  · refine zr_sw (i := .lookupswitch 79 #[(8, 51), (9, 57), (10, 63), (11, 68), (28, 73)]) (len := 51) (t := 80) (x := op) (k := 25) (pc := 1) rfl c1 rfl rfl rfl rfl ?_
    refine zx_T.l (i := .aload_n 0) (k := 1) (v := .ref 20) (pc := 80) rfl rfl rfl ?_
    refine zx_T.l (i := .iload_n 1) (k := 1) (v := .int (zI (op))) (pc := 81) rfl rfl rfl ?_
    refine zx_T.l (i := .iload_n 2) (k := 1) (v := .int (zI (a))) (pc := 82) rfl rfl rfl ?_
    refine zr_is (cj := 21) (q' := zp_m21) (As := [.ref 20, .int (zI (op)), .int (zI (a))]) (rest := []) (pc := 83) rfl rfl rfl rfl rfl rfl (Nat.le_of_ble_eq_true rfl) rfl (Nat.le_of_ble_eq_true rfl) rfl ((zm_exchangeE_20 (h := h) hI (op := op) (a := a) (by omega) (by omega) (by omega) (by omega) ca zk).up (Nat.le_of_ble_eq_true rfl)) ?_
    rintro r127 h130 ⟨ih130, w131, v128, r127q, x129⟩
    subst r127q
    try dsimp only at x129
    have aE := x129
    show zx_T zp_P 3 zp_m20 86 [(0, .ref 20), (1, .int (zI (op))), (2, .int (zI (a)))] [.int (zI (v128))] h130 _
    exact zr_ir (x := v128) (pc := 86) rfl rfl rfl ⟨ih130, (w131.wd rfl : zb_W [(20, 1), (21, 0)] h _), _, rfl, by dsimp only; exact ⟨by rw [zc_apd (by omega)]; exact aE.1, by omega, by omega⟩⟩
  · refine zr_sw (i := .lookupswitch 79 #[(8, 51), (9, 57), (10, 63), (11, 68), (28, 73)]) (len := 51) (t := 80) (x := op) (k := 26) (pc := 1) rfl c1 rfl rfl rfl rfl ?_
    refine zx_T.l (i := .aload_n 0) (k := 1) (v := .ref 20) (pc := 80) rfl rfl rfl ?_
    refine zx_T.l (i := .iload_n 1) (k := 1) (v := .int (zI (op))) (pc := 81) rfl rfl rfl ?_
    refine zx_T.l (i := .iload_n 2) (k := 1) (v := .int (zI (a))) (pc := 82) rfl rfl rfl ?_
    refine zr_is (cj := 21) (q' := zp_m21) (As := [.ref 20, .int (zI (op)), .int (zI (a))]) (rest := []) (pc := 83) rfl rfl rfl rfl rfl rfl (Nat.le_of_ble_eq_true rfl) rfl (Nat.le_of_ble_eq_true rfl) rfl ((zm_exchangeE_20 (h := h) hI (op := op) (a := a) (by omega) (by omega) (by omega) (by omega) ca zk).up (Nat.le_of_ble_eq_true rfl)) ?_
    rintro r132 h135 ⟨ih135, w136, v133, r132q, x134⟩
    subst r132q
    try dsimp only at x134
    have aE := x134
    show zx_T zp_P 3 zp_m20 86 [(0, .ref 20), (1, .int (zI (op))), (2, .int (zI (a)))] [.int (zI (v133))] h135 _
    exact zr_ir (x := v133) (pc := 86) rfl rfl rfl ⟨ih135, (w136.wd rfl : zb_W [(20, 1), (21, 0)] h _), _, rfl, by dsimp only; exact ⟨by rw [zc_apd (by omega)]; exact aE.1, by omega, by omega⟩⟩
  · refine zr_sw (i := .lookupswitch 79 #[(8, 51), (9, 57), (10, 63), (11, 68), (28, 73)]) (len := 51) (t := 80) (x := op) (k := 27) (pc := 1) rfl c1 rfl rfl rfl rfl ?_
    refine zx_T.l (i := .aload_n 0) (k := 1) (v := .ref 20) (pc := 80) rfl rfl rfl ?_
    refine zx_T.l (i := .iload_n 1) (k := 1) (v := .int (zI (op))) (pc := 81) rfl rfl rfl ?_
    refine zx_T.l (i := .iload_n 2) (k := 1) (v := .int (zI (a))) (pc := 82) rfl rfl rfl ?_
    refine zr_is (cj := 21) (q' := zp_m21) (As := [.ref 20, .int (zI (op)), .int (zI (a))]) (rest := []) (pc := 83) rfl rfl rfl rfl rfl rfl (Nat.le_of_ble_eq_true rfl) rfl (Nat.le_of_ble_eq_true rfl) rfl ((zm_exchangeE_20 (h := h) hI (op := op) (a := a) (by omega) (by omega) (by omega) (by omega) ca zk).up (Nat.le_of_ble_eq_true rfl)) ?_
    rintro r137 h140 ⟨ih140, w141, v138, r137q, x139⟩
    subst r137q
    try dsimp only at x139
    have aE := x139
    show zx_T zp_P 3 zp_m20 86 [(0, .ref 20), (1, .int (zI (op))), (2, .int (zI (a)))] [.int (zI (v138))] h140 _
    exact zr_ir (x := v138) (pc := 86) rfl rfl rfl ⟨ih140, (w141.wd rfl : zb_W [(20, 1), (21, 0)] h _), _, rfl, by dsimp only; exact ⟨by rw [zc_apd (by omega)]; exact aE.1, by omega, by omega⟩⟩
  · refine zr_sw (i := .lookupswitch 79 #[(8, 51), (9, 57), (10, 63), (11, 68), (28, 73)]) (len := 51) (t := 74) (x := op) (k := 28) (pc := 1) rfl c1 rfl rfl rfl rfl ?_
    refine zx_T.l (i := .aload_n 0) (k := 1) (v := .ref 20) (pc := 74) rfl rfl rfl ?_
    refine zx_T.l (i := .iload_n 2) (k := 1) (v := .int (zI (a))) (pc := 75) rfl rfl rfl ?_
    refine zr_is (cj := 26) (q' := zp_m26) (As := [.ref 20, .int (zI (a))]) (rest := []) (pc := 76) rfl rfl rfl rfl rfl rfl (Nat.le_of_ble_eq_true rfl) rfl (Nat.le_of_ble_eq_true rfl) rfl ((zm_incE_20 (h := h) hI (a := a) (by omega) (by omega) zk).up (Nat.le_of_ble_eq_true rfl)) ?_
    rintro r142 h145 ⟨h145q, v143, r142q, x144⟩
    subst h145q r142q
    try dsimp only at x144
    have aE := x144
    show zx_T zp_P 3 zp_m20 79 [(0, .ref 20), (1, .int (zI (op))), (2, .int (zI (a)))] [.int (zI (v143))] h _
    exact zr_ir (x := v143) (pc := 79) rfl rfl rfl ⟨hI, zb_W.rf, _, rfl, by dsimp only; exact ⟨by rw [zc_ap28 (by omega)]; exact aE.1, by omega, by omega⟩⟩
