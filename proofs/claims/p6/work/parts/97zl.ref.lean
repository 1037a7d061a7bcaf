/-! ===== 97zl: the reference, method by method (by program) ===== -/
set_option maxRecDepth 100000 in
set_option maxHeartbeats 4000000 in
theorem zm_mLook_L {h : zx_H} (hI : zb_I zc_H h)   (n : Nat) : (∀ {h2 : zx_H} {d : Int} (hI2 : zb_I zc_H h2) (d1 : 0 ≤ d) (d2 : d ≤ 3) (hw : zb_W [(40, 0), (39, 0)] h h2) (lk : ∀ q, 0 ≤ q → q < d → zv_a h2 40 q = (if q < zv_f h 36 1 then zv_a h 37 (zv_f h 36 1 + 7 - q) else -1) ∧ zv_b h2 39 q = zv_b h 38 (zv_f h 36 1 + 7 - q)), (10 - d : Int).toNat < n → zx_T zp_P 1 zp_m62 2 [(0, .ref 34), (1, .int (zI (d)))] [] h2 (zr_V [(40, 0), (39, 0)] h (fun h' => ∀ q, 0 ≤ q → q < 3 → zv_a h' 40 q = (if q < zv_f h 36 1 then zv_a h 37 (zv_f h 36 1 + 7 - q) else -1) ∧ zv_b h' 39 q = zv_b h 38 (zv_f h 36 1 + 7 - q)))) := by
  induction n with
  | zero => exact fun _ _ _ _ _ hm => absurd hm (Nat.not_lt_zero _)
  | succ n ih =>
    intro h2 d hI2 d1 d2 hw lk hm
    have hS := zw_ri hI (a := 36) (k := 1) rfl
    refine zx_T.l (i := .iload_n 1) (k := 1) (v := .int (zI (d))) (pc := 2) rfl rfl rfl ?_
    refine zx_T.s (i := .iconst 3) (k := 1) (st' := [.int (zI (3)), .int (zI (d))]) (pc := 3) rfl rfl ?_
    refine zr_i2 (x := d) (y := 3) (t := 51) (pc := 4) rfl rfl (by omega) (by omega) (by omega) (by omega) (fun (c1 : 3 ≤ d) => ?_) (fun (c1 : ¬ (3 ≤ d)) => ?_)
    · exact zr_vr (pc := 51) rfl rfl ⟨hI2, (hw.wd rfl : zb_W [(40, 0), (39, 0)] h _), rfl, by dsimp only; exact fun q q0 q1 => lk q q0 (by omega)⟩
    · refine zx_T.l (i := .aload_n 0) (k := 1) (v := .ref 34) (pc := 7) rfl rfl rfl ?_
      refine zw_gr (k := 5) (b := 40) (pc := 8) rfl rfl rfl hI2 ?_
      refine zx_T.l (i := .iload_n 1) (k := 1) (v := .int (zI (d))) (pc := 11) rfl rfl rfl ?_
      refine zx_T.l (i := .aload_n 0) (k := 1) (v := .ref 34) (pc := 12) rfl rfl rfl ?_
      refine zw_gr (k := 2) (b := 36) (pc := 13) rfl rfl rfl hI2 ?_
      refine zx_T.l (i := .iload_n 1) (k := 1) (v := .int (zI (d))) (pc := 16) rfl rfl rfl ?_
      refine zw_iv (b := 36) (cj := 120) (q' := zp_m120) (As := [.int (zI (d))]) (rest := [.int (zI (d)), .ref 40]) (pc := 17) rfl rfl rfl rfl rfl rfl rfl (Nat.le_of_ble_eq_true rfl) rfl (Nat.le_of_ble_eq_true rfl) hI2 ((zm_kindDown_36 (h := h2) hI2 (d := d) (by omega) (by omega)).up (Nat.le_of_ble_eq_true rfl)) ?_
      rintro r2 h5 ⟨h5q, v3, r2q, x4⟩
      subst h5q r2q
      try dsimp only at x4
      have kD := x4.1; rw [show zv_f h2 36 1 = zv_f h 36 1 from zv_wf (hw.wd rfl : zb_W [(40, 0), (39, 0)] h _) rfl, show zv_a h2 37 = zv_a h 37 from funext (fun q => zv_wa (hw.wd rfl : zb_W [(40, 0), (39, 0)] h _) rfl q)] at kD
      show zx_T zp_P 1 zp_m62 20 [(0, .ref 34), (1, .int (zI (d)))] [.int (zI (v3)), .int (zI (d)), .ref 40] h2 _
      refine zr_as (n := 3) (lo := (-2147483648)) (hi := 2147483647) (e := v3) (pc := 20) rfl rfl rfl rfl hI2 (by omega) (by omega) (by omega) (by omega) (fun h6 ih6 w7 s8 => ?_)
      refine zx_T.l (i := .aload_n 0) (k := 1) (v := .ref 34) (pc := 21) rfl rfl rfl ?_
      refine zw_gr (k := 4) (b := 39) (pc := 22) rfl rfl rfl ih6 ?_
      refine zx_T.l (i := .iload_n 1) (k := 1) (v := .int (zI (d))) (pc := 25) rfl rfl rfl ?_
      refine zx_T.l (i := .aload_n 0) (k := 1) (v := .ref 34) (pc := 26) rfl rfl rfl ?_
      refine zx_T.s (i := .bipush 8) (k := 2) (st' := [.int (zI (8)), .ref 34, .int (zI (d)), .ref 39]) (pc := 27) rfl rfl ?_
      refine zx_T.l (i := .aload_n 0) (k := 1) (v := .ref 34) (pc := 29) rfl rfl rfl ?_
      refine zw_gr (k := 2) (b := 36) (pc := 30) rfl rfl rfl ih6 ?_
      refine zw_iv (b := 36) (cj := 116) (q' := zp_m116) (As := []) (rest := [.int (zI (8)), .ref 34, .int (zI (d)), .ref 39]) (pc := 33) rfl rfl rfl rfl rfl rfl rfl (Nat.le_of_ble_eq_true rfl) rfl (Nat.le_of_ble_eq_true rfl) ih6 ((zm_depth_36 (h := h6) ih6  ).up (Nat.le_of_ble_eq_true rfl)) ?_
      rintro r9 h12 ⟨h12q, v10, r9q, x11⟩
      subst h12q r9q
      try dsimp only at x11
      have dp := x11.1; rw [show zv_f h6 36 1 = zv_f h 36 1 from zv_wf ((hw.wd rfl : zb_W [(40, 0), (39, 0)] h _).tr (w7.wd rfl)) rfl] at dp
      show zx_T zp_P 1 zp_m62 36 [(0, .ref 34), (1, .int (zI (d)))] [.int (zI (v10)), .int (zI (8)), .ref 34, .int (zI (d)), .ref 39] h6 _
      refine zr_add (x := 8) (y := v10) (e := v10 + 8) (pc := 36) rfl (by omega) ?_
      refine zx_T.s (i := .iconst 1) (k := 1) (st' := [.int (zI (1)), .int (zI (v10 + 8)), .ref 34, .int (zI (d)), .ref 39]) (pc := 37) rfl rfl ?_
      refine zr_sub (x := v10 + 8) (y := 1) (e := v10 + 7) (pc := 38) rfl (by omega) ?_
      refine zx_T.l (i := .iload_n 1) (k := 1) (v := .int (zI (d))) (pc := 39) rfl rfl rfl ?_
      refine zr_sub (x := v10 + 7) (y := d) (e := v10 - d + 7) (pc := 40) rfl (by omega) ?_
      refine zw_iv (b := 34) (cj := 71) (q' := zp_m71) (As := [.int (zI (v10 - d + 7))]) (rest := [.int (zI (d)), .ref 39]) (pc := 41) rfl rfl rfl rfl rfl rfl rfl (Nat.le_of_ble_eq_true rfl) rfl (Nat.le_of_ble_eq_true rfl) ih6 ((zm_mValue (h := h6) ih6 (i := v10 - d + 7) (by omega) (by omega)).up (Nat.le_of_ble_eq_true rfl)) ?_
      rintro r13 h16 ⟨h16q, v14, r13q, x15⟩
      subst h16q r13q
      try dsimp only at x15
      have vL := x15.1; rw [show zv_b h6 38 = zv_b h 38 from funext (fun q => zv_wb ((hw.wd rfl : zb_W [(40, 0), (39, 0)] h _).tr (w7.wd rfl)) rfl q)] at vL
      show zx_T zp_P 1 zp_m62 44 [(0, .ref 34), (1, .int (zI (d)))] [.long (zL (v14)), .int (zI (d)), .ref 39] h6 _
      refine zr_ls2 (n := 3) (e := v14) (pc := 44) rfl rfl rfl ih6 (by omega) (by omega) (by omega) (by omega) (fun h17 ih17 w18 s19 => ?_)
      refine zr_inc (x := d) (n := 1) (y := d + 1) (ls' := [(1, .int (zI (d + 1))), (0, .ref 34)]) (pc := 45) rfl rfl rfl (by omega) rfl ?_
      refine zx_T.j (i := .goto (-46)) (k := 3) (pc' := 2) (st' := []) (pc := 48) rfl rfl rfl rfl rfl ?_
      have a40 : ∀ j, 0 ≤ j → zv_a h17 40 j = if j = d then v3 else zv_a h2 40 j := fun j hj => by rw [zv_wa w18 rfl j, s8 j hj]
      have b39 : ∀ j, 0 ≤ j → zv_b h17 39 j = if j = d then v14 else zv_b h2 39 j := fun j hj => by rw [s19 j hj, zv_wb w7 rfl j]
      refine zx_T.lk (ls' := [(0, .ref 34), (1, .int (zI (d + 1)))]) rfl ⟨rfl, rfl, trivial⟩ ?_
      exact ih (h2 := h17) (d := d + 1) ih17 (by omega) (by omega) (((hw.wd rfl : zb_W [(40, 0), (39, 0)] h _).tr (w7.wd rfl)).tr (w18.wd rfl)) (fun q q0 q1 => by rw [a40 q q0, b39 q q0]; by_cases z : q = d; (rw [if_pos z, if_pos z]; subst z; refine ⟨by split <;> omega, ?_⟩; rcases vL with y | y; (rw [y.2]; congr 1; omega); (exfalso; omega)); (rw [if_neg z, if_neg z]; exact lk q q0 (by omega))) (by omega)
set_option maxRecDepth 100000 in
set_option maxHeartbeats 4000000 in
theorem zm_mLook {h : zx_H} (hI : zb_I zc_H h)   : zx_T zp_P 1 zp_m62 0 [(0, .ref 34)] [] h (zr_V [(40, 0), (39, 0)] h (fun h' => ∀ q, 0 ≤ q → q < 3 → zv_a h' 40 q = (if q < zv_f h 36 1 then zv_a h 37 (zv_f h 36 1 + 7 - q) else -1) ∧ zv_b h' 39 q = zv_b h 38 (zv_f h 36 1 + 7 - q))) := by
  have hS := zw_ri hI (a := 36) (k := 1) rfl
  refine zx_T.s (i := .iconst 0) (k := 1) (st' := [.int (zI (0))]) (pc := 0) rfl rfl ?_
  refine zx_T.t (i := .istore_n 1) (k := 1) (ls' := [(1, .int (zI (0))), (0, .ref 34)]) (st' := []) (pc := 1) rfl rfl rfl rfl ?_
  have a40 : ∀ j, 0 ≤ j → zv_a h 40 j = zv_a h 40 j := fun j hj => rfl
  have b39 : ∀ j, 0 ≤ j → zv_b h 39 j = zv_b h 39 j := fun j hj => rfl
  refine zx_T.lk (ls' := [(0, .ref 34), (1, .int (zI (0)))]) rfl ⟨rfl, rfl, trivial⟩ ?_
  exact zm_mLook_L (h := h) hI   ((10 - 0 : Int).toNat + 1) (h2 := h) (d := 0) hI (by omega) (by omega) zb_W.rf (fun q q0 q1 => absurd q1 (by omega)) (Nat.lt_succ_self _)

set_option maxRecDepth 100000 in
set_option maxHeartbeats 4000000 in
theorem zm_mRefusalOf {h : zx_H} (hI : zb_I zc_H h) {op : Int} {a : Int} (op1 : 0 ≤ op) (op2 : op ≤ 28) (a1 : -2147483648 ≤ a) (a2 : a ≤ 2147483647) (kz : op = 21 → 0 ≤ zv_a h 40 0 ∧ zv_a h 40 0 ≤ 8) : zx_T zp_P 1 zp_m64 0 [(0, .ref 34), (1, .int (zI (op))), (2, .int (zI (a)))] [] h (zr_P h (fun e => zk_rf op a (zv_a h 40) (zv_b h 39) (zv_f h 41 2) (zv_a h 42) e ∧ 0 ≤ e ∧ e ≤ 6)) := by
  refine zx_T.l (i := .iload_n 1) (k := 1) (v := .int (zI (op))) (pc := 0) rfl rfl rfl ?_
  have c1 : op = 7 ∨ op = 13 ∨ op = 17 ∨ op = 18 ∨ op = 19 ∨ op = 20 ∨ op = 21 ∨ op = 22 ∨ op = 0 ∨ op = 1 ∨ op = 2 ∨ op = 3 ∨ op = 4 ∨ op = 5 ∨ op = 6 ∨ op = 8 ∨ op = 9 ∨ op = 10 ∨ op = 11 ∨ op = 12 ∨ op = 14 ∨ op = 15 ∨ op = 16 ∨ op = 23 ∨ op = 24 ∨ op = 25 ∨ op = 26 ∨ op = 27 ∨ op = 28 := by omega
  rcases c1 with c1 | c1 | c1 | c1 | c1 | c1 | c1 | c1 | c1 | c1 | c1 | c1 | c1 | c1 | c1 | c1 | c1 | c1 | c1 | c1 | c1 | c1 | c1 | c1 | c1 | c1 | c1 | c1 | c1
  · refine zr_sw (i := .tableswitch 237 7 22 #[79, 237, 237, 237, 237, 237, 108, 237, 237, 237, 122, 162, 202, 202, 218, 202]) (len := 79) (t := 80) (x := op) (k := 7) (pc := 1) rfl c1 rfl rfl rfl rfl ?_
    refine zx_T.l (i := .aload_n 0) (k := 1) (v := .ref 34) (pc := 80) rfl rfl rfl ?_
    refine zx_T.s (i := .iconst 0) (k := 1) (st' := [.int (zI (0)), .ref 34]) (pc := 81) rfl rfl ?_
    refine zw_iv (b := 34) (cj := 63) (q' := zp_m63) (As := [.int (zI (0))]) (rest := []) (pc := 82) rfl rfl rfl rfl rfl rfl rfl (Nat.le_of_ble_eq_true rfl) rfl (Nat.le_of_ble_eq_true rfl) hI ((zm_mTakenInt (h := h) hI (d := 0) (by omega) (by omega)).up (Nat.le_of_ble_eq_true rfl)) ?_
    rintro r2 h5 ⟨h5q, v3, r2q, x4⟩
    subst h5q r2q
    try dsimp only at x4
    have t0_82 := (x4).1
    show zx_T zp_P 1 zp_m64 85 [(0, .ref 34), (1, .int (zI (op))), (2, .int (zI (a)))] [.int (zI (v3))] h _
    refine zr_i1 (x := v3) (t := 92) (pc := 85) rfl rfl (by omega) (by omega) (fun (c6 : 0 ≤ v3) => ?_) (fun (c6 : ¬ (0 ≤ v3)) => ?_)
    · refine zx_T.l (i := .aload_n 0) (k := 1) (v := .ref 34) (pc := 92) rfl rfl rfl ?_
      refine zx_T.s (i := .iconst 0) (k := 1) (st' := [.int (zI (0)), .ref 34]) (pc := 93) rfl rfl ?_
      refine zw_iv (b := 34) (cj := 63) (q' := zp_m63) (As := [.int (zI (0))]) (rest := []) (pc := 94) rfl rfl rfl rfl rfl rfl rfl (Nat.le_of_ble_eq_true rfl) rfl (Nat.le_of_ble_eq_true rfl) hI ((zm_mTakenInt (h := h) hI (d := 0) (by omega) (by omega)).up (Nat.le_of_ble_eq_true rfl)) ?_
      rintro r7 h10 ⟨h10q, v8, r7q, x9⟩
      subst h10q r7q
      try dsimp only at x9
      have t0_94 := (x9).1
      show zx_T zp_P 1 zp_m64 97 [(0, .ref 34), (1, .int (zI (op))), (2, .int (zI (a)))] [.int (zI (v8))] h _
      refine zx_T.s (i := .bipush 20) (k := 2) (st' := [.int (zI (20)), .int (zI (v8))]) (pc := 97) rfl rfl ?_
      refine zr_i2 (x := v8) (y := 20) (t := 107) (pc := 99) rfl rfl (by omega) (by omega) (by omega) (by omega) (fun (c11 : v8 ≤ 20) => ?_) (fun (c11 : ¬ (v8 ≤ 20)) => ?_)
      · refine zx_T.s (i := .iconst 0) (k := 1) (st' := [.int (zI (0))]) (pc := 107) rfl rfl ?_
        exact zr_ir (x := 0) (pc := 108) rfl rfl rfl ⟨rfl, _, rfl, by dsimp only; exact ⟨⟨fun z => by first | (exfalso; omega) | omega, fun z => by first | (exfalso; omega) | omega, fun z => by first | (exfalso; omega) | (unfold zk_hc; first | omega | (rw [← t1_143, ← t0_148]; omega)), fun z => by first | (exfalso; omega) | (unfold zk_hc; first | omega | (rw [← t2_183, ← t1_188]; omega)), fun z => by first | (exfalso; omega) | omega, fun z => by first | (exfalso; omega) | (rcases gX with gX | gX; exact Or.inl ⟨gX.2, by omega⟩; exact absurd gX.1 (by omega)), fun z => by first | (exfalso; omega) | omega⟩, by omega, by omega⟩⟩
      · refine zx_T.s (i := .bipush 6) (k := 2) (st' := [.int (zI (6))]) (pc := 102) rfl rfl ?_
        refine zx_T.j (i := .goto 4) (k := 3) (pc' := 108) (st' := [.int (zI (6))]) (pc := 104) rfl rfl rfl rfl rfl ?_
        exact zr_ir (x := 6) (pc := 108) rfl rfl rfl ⟨rfl, _, rfl, by dsimp only; exact ⟨⟨fun z => by first | (exfalso; omega) | omega, fun z => by first | (exfalso; omega) | omega, fun z => by first | (exfalso; omega) | (unfold zk_hc; first | omega | (rw [← t1_143, ← t0_148]; omega)), fun z => by first | (exfalso; omega) | (unfold zk_hc; first | omega | (rw [← t2_183, ← t1_188]; omega)), fun z => by first | (exfalso; omega) | omega, fun z => by first | (exfalso; omega) | (rcases gX with gX | gX; exact absurd gX.1 (by omega); exact Or.inr ⟨gX.2, by omega⟩), fun z => by first | (exfalso; omega) | omega⟩, by omega, by omega⟩⟩
    · refine zx_T.s (i := .iconst 3) (k := 1) (st' := [.int (zI (3))]) (pc := 88) rfl rfl ?_
      refine zx_T.j (i := .goto 19) (k := 3) (pc' := 108) (st' := [.int (zI (3))]) (pc := 89) rfl rfl rfl rfl rfl ?_
      exact zr_ir (x := 3) (pc := 108) rfl rfl rfl ⟨rfl, _, rfl, by dsimp only; exact ⟨⟨fun z => by first | (exfalso; omega) | omega, fun z => by first | (exfalso; omega) | omega, fun z => by first | (exfalso; omega) | (unfold zk_hc; first | omega | (rw [← t1_143, ← t0_148]; omega)), fun z => by first | (exfalso; omega) | (unfold zk_hc; first | omega | (rw [← t2_183, ← t1_188]; omega)), fun z => by first | (exfalso; omega) | omega, fun z => by first | (exfalso; omega) | (rcases gX with gX | gX; exact absurd gX.1 (by omega); exact Or.inr ⟨gX.2, by omega⟩), fun z => by first | (exfalso; omega) | omega⟩, by omega, by omega⟩⟩
  · refine zr_sw (i := .tableswitch 237 7 22 #[79, 237, 237, 237, 237, 237, 108, 237, 237, 237, 122, 162, 202, 202, 218, 202]) (len := 79) (t := 109) (x := op) (k := 13) (pc := 1) rfl c1 rfl rfl rfl rfl ?_
    refine zx_T.l (i := .aload_n 0) (k := 1) (v := .ref 34) (pc := 109) rfl rfl rfl ?_
    refine zx_T.s (i := .iconst 0) (k := 1) (st' := [.int (zI (0)), .ref 34]) (pc := 110) rfl rfl ?_
    refine zw_iv (b := 34) (cj := 63) (q' := zp_m63) (As := [.int (zI (0))]) (rest := []) (pc := 111) rfl rfl rfl rfl rfl rfl rfl (Nat.le_of_ble_eq_true rfl) rfl (Nat.le_of_ble_eq_true rfl) hI ((zm_mTakenInt (h := h) hI (d := 0) (by omega) (by omega)).up (Nat.le_of_ble_eq_true rfl)) ?_
    rintro r12 h15 ⟨h15q, v13, r12q, x14⟩
    subst h15q r12q
    try dsimp only at x14
    have t0_111 := (x14).1
    show zx_T zp_P 1 zp_m64 114 [(0, .ref 34), (1, .int (zI (op))), (2, .int (zI (a)))] [.int (zI (v13))] h _
    refine zr_i1 (x := v13) (t := 121) (pc := 114) rfl rfl (by omega) (by omega) (fun (c16 : ¬ v13 = 0) => ?_) (fun (c16 : ¬ (¬ v13 = 0)) => ?_)
    · refine zx_T.s (i := .iconst 0) (k := 1) (st' := [.int (zI (0))]) (pc := 121) rfl rfl ?_
      exact zr_ir (x := 0) (pc := 122) rfl rfl rfl ⟨rfl, _, rfl, by dsimp only; exact ⟨⟨fun z => by first | (exfalso; omega) | omega, fun z => by first | (exfalso; omega) | omega, fun z => by first | (exfalso; omega) | (unfold zk_hc; first | omega | (rw [← t1_143, ← t0_148]; omega)), fun z => by first | (exfalso; omega) | (unfold zk_hc; first | omega | (rw [← t2_183, ← t1_188]; omega)), fun z => by first | (exfalso; omega) | omega, fun z => by first | (exfalso; omega) | (rcases gX with gX | gX; exact Or.inl ⟨gX.2, by omega⟩; exact absurd gX.1 (by omega)), fun z => by first | (exfalso; omega) | omega⟩, by omega, by omega⟩⟩
    · refine zx_T.s (i := .iconst 5) (k := 1) (st' := [.int (zI (5))]) (pc := 117) rfl rfl ?_
      refine zx_T.j (i := .goto 4) (k := 3) (pc' := 122) (st' := [.int (zI (5))]) (pc := 118) rfl rfl rfl rfl rfl ?_
      exact zr_ir (x := 5) (pc := 122) rfl rfl rfl ⟨rfl, _, rfl, by dsimp only; exact ⟨⟨fun z => by first | (exfalso; omega) | omega, fun z => by first | (exfalso; omega) | omega, fun z => by first | (exfalso; omega) | (unfold zk_hc; first | omega | (rw [← t1_143, ← t0_148]; omega)), fun z => by first | (exfalso; omega) | (unfold zk_hc; first | omega | (rw [← t2_183, ← t1_188]; omega)), fun z => by first | (exfalso; omega) | omega, fun z => by first | (exfalso; omega) | (rcases gX with gX | gX; exact absurd gX.1 (by omega); exact Or.inr ⟨gX.2, by omega⟩), fun z => by first | (exfalso; omega) | omega⟩, by omega, by omega⟩⟩
  · refine zr_sw (i := .tableswitch 237 7 22 #[79, 237, 237, 237, 237, 237, 108, 237, 237, 237, 122, 162, 202, 202, 218, 202]) (len := 79) (t := 123) (x := op) (k := 17) (pc := 1) rfl c1 rfl rfl rfl rfl ?_
    refine zx_T.l (i := .aload_n 0) (k := 1) (v := .ref 34) (pc := 123) rfl rfl rfl ?_
    refine zw_gr (k := 5) (b := 40) (pc := 124) rfl rfl rfl hI ?_
    refine zx_T.s (i := .iconst 1) (k := 1) (st' := [.int (zI (1)), .ref 40]) (pc := 127) rfl rfl ?_
    refine zr_al (n := 3) (lo := (-2147483648)) (hi := 2147483647) (e := zv_a h 40 1) (pc := 128) rfl rfl rfl hI (by omega) (by omega) rfl (fun g17a g17b => ?_)
    refine zx_T.s (i := .iconst 4) (k := 1) (st' := [.int (zI (4)), .int (zI (zv_a h 40 1))]) (pc := 129) rfl rfl ?_
    refine zr_i2 (x := zv_a h 40 1) (y := 4) (t := 137) (pc := 130) rfl rfl (by omega) (by omega) (by omega) (by omega) (fun (c18 : ¬ (zv_a h 40 1) = 4) => ?_) (fun (c18 : ¬ (¬ (zv_a h 40 1) = 4)) => ?_)
    · refine zx_T.l (i := .aload_n 0) (k := 1) (v := .ref 34) (pc := 137) rfl rfl rfl ?_
      refine zw_gr (k := 6) (b := 41) (pc := 138) rfl rfl rfl hI ?_
      refine zx_T.l (i := .aload_n 0) (k := 1) (v := .ref 34) (pc := 141) rfl rfl rfl ?_
      refine zx_T.s (i := .iconst 1) (k := 1) (st' := [.int (zI (1)), .ref 34, .ref 41]) (pc := 142) rfl rfl ?_
      refine zw_iv (b := 34) (cj := 63) (q' := zp_m63) (As := [.int (zI (1))]) (rest := [.ref 41]) (pc := 143) rfl rfl rfl rfl rfl rfl rfl (Nat.le_of_ble_eq_true rfl) rfl (Nat.le_of_ble_eq_true rfl) hI ((zm_mTakenInt (h := h) hI (d := 1) (by omega) (by omega)).up (Nat.le_of_ble_eq_true rfl)) ?_
      rintro r19 h22 ⟨h22q, v20, r19q, x21⟩
      subst h22q r19q
      try dsimp only at x21
      have t1_143 := (x21).1
      show zx_T zp_P 1 zp_m64 146 [(0, .ref 34), (1, .int (zI (op))), (2, .int (zI (a)))] [.int (zI (v20)), .ref 41] h _
      refine zx_T.l (i := .aload_n 0) (k := 1) (v := .ref 34) (pc := 146) rfl rfl rfl ?_
      refine zx_T.s (i := .iconst 0) (k := 1) (st' := [.int (zI (0)), .ref 34, .int (zI (v20)), .ref 41]) (pc := 147) rfl rfl ?_
      refine zw_iv (b := 34) (cj := 63) (q' := zp_m63) (As := [.int (zI (0))]) (rest := [.int (zI (v20)), .ref 41]) (pc := 148) rfl rfl rfl rfl rfl rfl rfl (Nat.le_of_ble_eq_true rfl) rfl (Nat.le_of_ble_eq_true rfl) hI ((zm_mTakenInt (h := h) hI (d := 0) (by omega) (by omega)).up (Nat.le_of_ble_eq_true rfl)) ?_
      rintro r23 h26 ⟨h26q, v24, r23q, x25⟩
      subst h26q r23q
      try dsimp only at x25
      have t0_148 := (x25).1
      show zx_T zp_P 1 zp_m64 151 [(0, .ref 34), (1, .int (zI (op))), (2, .int (zI (a)))] [.int (zI (v24)), .int (zI (v20)), .ref 41] h _
      refine zw_iv (b := 41) (cj := 112) (q' := zp_m112) (As := [.int (zI (v20)), .int (zI (v24))]) (rest := []) (pc := 151) rfl rfl rfl rfl rfl rfl rfl (Nat.le_of_ble_eq_true rfl) rfl (Nat.le_of_ble_eq_true rfl) hI ((zm_rHasCell (h := h) hI (r := v20) (i := v24) (by omega) (by omega) (by omega) (by omega)).up (Nat.le_of_ble_eq_true rfl)) ?_
      rintro r27 h30 ⟨h30q, v28, r27q, x29⟩
      subst h30q r27q
      try dsimp only at x29
      have hX := x29
      show zx_T zp_P 1 zp_m64 154 [(0, .ref 34), (1, .int (zI (op))), (2, .int (zI (a)))] [.int (zI (v28))] h _
      refine zr_i1 (x := v28) (t := 161) (pc := 154) rfl rfl (by omega) (by omega) (fun (c31 : v28 = 0) => ?_) (fun (c31 : ¬ (v28 = 0)) => ?_)
      · refine zx_T.s (i := .iconst 2) (k := 1) (st' := [.int (zI (2))]) (pc := 161) rfl rfl ?_
        exact zr_ir (x := 2) (pc := 162) rfl rfl rfl ⟨rfl, _, rfl, by dsimp only; exact ⟨⟨fun z => by first | (exfalso; omega) | omega, fun z => by first | (exfalso; omega) | omega, fun z => by first | (exfalso; omega) | (unfold zk_hc; first | omega | (rw [← t1_143, ← t0_148]; omega)), fun z => by first | (exfalso; omega) | (unfold zk_hc; first | omega | (rw [← t2_183, ← t1_188]; omega)), fun z => by first | (exfalso; omega) | omega, fun z => by first | (exfalso; omega) | (rcases gX with gX | gX; exact absurd gX.1 (by omega); exact Or.inr ⟨gX.2, by omega⟩), fun z => by first | (exfalso; omega) | omega⟩, by omega, by omega⟩⟩
      · refine zx_T.s (i := .iconst 0) (k := 1) (st' := [.int (zI (0))]) (pc := 157) rfl rfl ?_
        refine zx_T.j (i := .goto 4) (k := 3) (pc' := 162) (st' := [.int (zI (0))]) (pc := 158) rfl rfl rfl rfl rfl ?_
        exact zr_ir (x := 0) (pc := 162) rfl rfl rfl ⟨rfl, _, rfl, by dsimp only; exact ⟨⟨fun z => by first | (exfalso; omega) | omega, fun z => by first | (exfalso; omega) | omega, fun z => by first | (exfalso; omega) | (unfold zk_hc; first | omega | (rw [← t1_143, ← t0_148]; omega)), fun z => by first | (exfalso; omega) | (unfold zk_hc; first | omega | (rw [← t2_183, ← t1_188]; omega)), fun z => by first | (exfalso; omega) | omega, fun z => by first | (exfalso; omega) | (rcases gX with gX | gX; exact Or.inl ⟨gX.2, by omega⟩; exact absurd gX.1 (by omega)), fun z => by first | (exfalso; omega) | omega⟩, by omega, by omega⟩⟩
    · refine zx_T.s (i := .iconst 1) (k := 1) (st' := [.int (zI (1))]) (pc := 133) rfl rfl ?_
      refine zx_T.j (i := .goto 28) (k := 3) (pc' := 162) (st' := [.int (zI (1))]) (pc := 134) rfl rfl rfl rfl rfl ?_
      exact zr_ir (x := 1) (pc := 162) rfl rfl rfl ⟨rfl, _, rfl, by dsimp only; exact ⟨⟨fun z => by first | (exfalso; omega) | omega, fun z => by first | (exfalso; omega) | omega, fun z => by first | (exfalso; omega) | (unfold zk_hc; first | omega | (rw [← t1_143, ← t0_148]; omega)), fun z => by first | (exfalso; omega) | (unfold zk_hc; first | omega | (rw [← t2_183, ← t1_188]; omega)), fun z => by first | (exfalso; omega) | omega, fun z => by first | (exfalso; omega) | (rcases gX with gX | gX; exact absurd gX.1 (by omega); exact Or.inr ⟨gX.2, by omega⟩), fun z => by first | (exfalso; omega) | omega⟩, by omega, by omega⟩⟩
  · refine zr_sw (i := .tableswitch 237 7 22 #[79, 237, 237, 237, 237, 237, 108, 237, 237, 237, 122, 162, 202, 202, 218, 202]) (len := 79) (t := 163) (x := op) (k := 18) (pc := 1) rfl c1 rfl rfl rfl rfl ?_
    refine zx_T.l (i := .aload_n 0) (k := 1) (v := .ref 34) (pc := 163) rfl rfl rfl ?_
    refine zw_gr (k := 5) (b := 40) (pc := 164) rfl rfl rfl hI ?_
    refine zx_T.s (i := .iconst 2) (k := 1) (st' := [.int (zI (2)), .ref 40]) (pc := 167) rfl rfl ?_
    refine zr_al (n := 3) (lo := (-2147483648)) (hi := 2147483647) (e := zv_a h 40 2) (pc := 168) rfl rfl rfl hI (by omega) (by omega) rfl (fun g32a g32b => ?_)
    refine zx_T.s (i := .iconst 4) (k := 1) (st' := [.int (zI (4)), .int (zI (zv_a h 40 2))]) (pc := 169) rfl rfl ?_
    refine zr_i2 (x := zv_a h 40 2) (y := 4) (t := 177) (pc := 170) rfl rfl (by omega) (by omega) (by omega) (by omega) (fun (c33 : ¬ (zv_a h 40 2) = 4) => ?_) (fun (c33 : ¬ (¬ (zv_a h 40 2) = 4)) => ?_)
    · refine zx_T.l (i := .aload_n 0) (k := 1) (v := .ref 34) (pc := 177) rfl rfl rfl ?_
      refine zw_gr (k := 6) (b := 41) (pc := 178) rfl rfl rfl hI ?_
      refine zx_T.l (i := .aload_n 0) (k := 1) (v := .ref 34) (pc := 181) rfl rfl rfl ?_
      refine zx_T.s (i := .iconst 2) (k := 1) (st' := [.int (zI (2)), .ref 34, .ref 41]) (pc := 182) rfl rfl ?_
      refine zw_iv (b := 34) (cj := 63) (q' := zp_m63) (As := [.int (zI (2))]) (rest := [.ref 41]) (pc := 183) rfl rfl rfl rfl rfl rfl rfl (Nat.le_of_ble_eq_true rfl) rfl (Nat.le_of_ble_eq_true rfl) hI ((zm_mTakenInt (h := h) hI (d := 2) (by omega) (by omega)).up (Nat.le_of_ble_eq_true rfl)) ?_
      rintro r34 h37 ⟨h37q, v35, r34q, x36⟩
      subst h37q r34q
      try dsimp only at x36
      have t2_183 := (x36).1
      show zx_T zp_P 1 zp_m64 186 [(0, .ref 34), (1, .int (zI (op))), (2, .int (zI (a)))] [.int (zI (v35)), .ref 41] h _
      refine zx_T.l (i := .aload_n 0) (k := 1) (v := .ref 34) (pc := 186) rfl rfl rfl ?_
      refine zx_T.s (i := .iconst 1) (k := 1) (st' := [.int (zI (1)), .ref 34, .int (zI (v35)), .ref 41]) (pc := 187) rfl rfl ?_
      refine zw_iv (b := 34) (cj := 63) (q' := zp_m63) (As := [.int (zI (1))]) (rest := [.int (zI (v35)), .ref 41]) (pc := 188) rfl rfl rfl rfl rfl rfl rfl (Nat.le_of_ble_eq_true rfl) rfl (Nat.le_of_ble_eq_true rfl) hI ((zm_mTakenInt (h := h) hI (d := 1) (by omega) (by omega)).up (Nat.le_of_ble_eq_true rfl)) ?_
      rintro r38 h41 ⟨h41q, v39, r38q, x40⟩
      subst h41q r38q
      try dsimp only at x40
      have t1_188 := (x40).1
      show zx_T zp_P 1 zp_m64 191 [(0, .ref 34), (1, .int (zI (op))), (2, .int (zI (a)))] [.int (zI (v39)), .int (zI (v35)), .ref 41] h _
      refine zw_iv (b := 41) (cj := 112) (q' := zp_m112) (As := [.int (zI (v35)), .int (zI (v39))]) (rest := []) (pc := 191) rfl rfl rfl rfl rfl rfl rfl (Nat.le_of_ble_eq_true rfl) rfl (Nat.le_of_ble_eq_true rfl) hI ((zm_rHasCell (h := h) hI (r := v35) (i := v39) (by omega) (by omega) (by omega) (by omega)).up (Nat.le_of_ble_eq_true rfl)) ?_
      rintro r42 h45 ⟨h45q, v43, r42q, x44⟩
      subst h45q r42q
      try dsimp only at x44
      have hX := x44
      show zx_T zp_P 1 zp_m64 194 [(0, .ref 34), (1, .int (zI (op))), (2, .int (zI (a)))] [.int (zI (v43))] h _
      refine zr_i1 (x := v43) (t := 201) (pc := 194) rfl rfl (by omega) (by omega) (fun (c46 : v43 = 0) => ?_) (fun (c46 : ¬ (v43 = 0)) => ?_)
      · refine zx_T.s (i := .iconst 2) (k := 1) (st' := [.int (zI (2))]) (pc := 201) rfl rfl ?_
        exact zr_ir (x := 2) (pc := 202) rfl rfl rfl ⟨rfl, _, rfl, by dsimp only; exact ⟨⟨fun z => by first | (exfalso; omega) | omega, fun z => by first | (exfalso; omega) | omega, fun z => by first | (exfalso; omega) | (unfold zk_hc; first | omega | (rw [← t1_143, ← t0_148]; omega)), fun z => by first | (exfalso; omega) | (unfold zk_hc; first | omega | (rw [← t2_183, ← t1_188]; omega)), fun z => by first | (exfalso; omega) | omega, fun z => by first | (exfalso; omega) | (rcases gX with gX | gX; exact absurd gX.1 (by omega); exact Or.inr ⟨gX.2, by omega⟩), fun z => by first | (exfalso; omega) | omega⟩, by omega, by omega⟩⟩
      · refine zx_T.s (i := .iconst 0) (k := 1) (st' := [.int (zI (0))]) (pc := 197) rfl rfl ?_
        refine zx_T.j (i := .goto 4) (k := 3) (pc' := 202) (st' := [.int (zI (0))]) (pc := 198) rfl rfl rfl rfl rfl ?_
        exact zr_ir (x := 0) (pc := 202) rfl rfl rfl ⟨rfl, _, rfl, by dsimp only; exact ⟨⟨fun z => by first | (exfalso; omega) | omega, fun z => by first | (exfalso; omega) | omega, fun z => by first | (exfalso; omega) | (unfold zk_hc; first | omega | (rw [← t1_143, ← t0_148]; omega)), fun z => by first | (exfalso; omega) | (unfold zk_hc; first | omega | (rw [← t2_183, ← t1_188]; omega)), fun z => by first | (exfalso; omega) | omega, fun z => by first | (exfalso; omega) | (rcases gX with gX | gX; exact Or.inl ⟨gX.2, by omega⟩; exact absurd gX.1 (by omega)), fun z => by first | (exfalso; omega) | omega⟩, by omega, by omega⟩⟩
    · refine zx_T.s (i := .iconst 1) (k := 1) (st' := [.int (zI (1))]) (pc := 173) rfl rfl ?_
      refine zx_T.j (i := .goto 28) (k := 3) (pc' := 202) (st' := [.int (zI (1))]) (pc := 174) rfl rfl rfl rfl rfl ?_
      exact zr_ir (x := 1) (pc := 202) rfl rfl rfl ⟨rfl, _, rfl, by dsimp only; exact ⟨⟨fun z => by first | (exfalso; omega) | omega, fun z => by first | (exfalso; omega) | omega, fun z => by first | (exfalso; omega) | (unfold zk_hc; first | omega | (rw [← t1_143, ← t0_148]; omega)), fun z => by first | (exfalso; omega) | (unfold zk_hc; first | omega | (rw [← t2_183, ← t1_188]; omega)), fun z => by first | (exfalso; omega) | omega, fun z => by first | (exfalso; omega) | (rcases gX with gX | gX; exact absurd gX.1 (by omega); exact Or.inr ⟨gX.2, by omega⟩), fun z => by first | (exfalso; omega) | omega⟩, by omega, by omega⟩⟩
  · refine zr_sw (i := .tableswitch 237 7 22 #[79, 237, 237, 237, 237, 237, 108, 237, 237, 237, 122, 162, 202, 202, 218, 202]) (len := 79) (t := 203) (x := op) (k := 19) (pc := 1) rfl c1 rfl rfl rfl rfl ?_
    refine zx_T.l (i := .aload_n 0) (k := 1) (v := .ref 34) (pc := 203) rfl rfl rfl ?_
    refine zw_gr (k := 5) (b := 40) (pc := 204) rfl rfl rfl hI ?_
    refine zx_T.s (i := .iconst 0) (k := 1) (st' := [.int (zI (0)), .ref 40]) (pc := 207) rfl rfl ?_
    refine zr_al (n := 3) (lo := (-2147483648)) (hi := 2147483647) (e := zv_a h 40 0) (pc := 208) rfl rfl rfl hI (by omega) (by omega) rfl (fun g47a g47b => ?_)
    refine zx_T.s (i := .iconst 4) (k := 1) (st' := [.int (zI (4)), .int (zI (zv_a h 40 0))]) (pc := 209) rfl rfl ?_
    refine zr_i2 (x := zv_a h 40 0) (y := 4) (t := 217) (pc := 210) rfl rfl (by omega) (by omega) (by omega) (by omega) (fun (c48 : ¬ (zv_a h 40 0) = 4) => ?_) (fun (c48 : ¬ (¬ (zv_a h 40 0) = 4)) => ?_)
    · refine zx_T.s (i := .iconst 0) (k := 1) (st' := [.int (zI (0))]) (pc := 217) rfl rfl ?_
      exact zr_ir (x := 0) (pc := 218) rfl rfl rfl ⟨rfl, _, rfl, by dsimp only; exact ⟨⟨fun z => by first | (exfalso; omega) | omega, fun z => by first | (exfalso; omega) | omega, fun z => by first | (exfalso; omega) | (unfold zk_hc; first | omega | (rw [← t1_143, ← t0_148]; omega)), fun z => by first | (exfalso; omega) | (unfold zk_hc; first | omega | (rw [← t2_183, ← t1_188]; omega)), fun z => by first | (exfalso; omega) | omega, fun z => by first | (exfalso; omega) | (rcases gX with gX | gX; exact Or.inl ⟨gX.2, by omega⟩; exact absurd gX.1 (by omega)), fun z => by first | (exfalso; omega) | omega⟩, by omega, by omega⟩⟩
    · refine zx_T.s (i := .iconst 1) (k := 1) (st' := [.int (zI (1))]) (pc := 213) rfl rfl ?_
      refine zx_T.j (i := .goto 4) (k := 3) (pc' := 218) (st' := [.int (zI (1))]) (pc := 214) rfl rfl rfl rfl rfl ?_
      exact zr_ir (x := 1) (pc := 218) rfl rfl rfl ⟨rfl, _, rfl, by dsimp only; exact ⟨⟨fun z => by first | (exfalso; omega) | omega, fun z => by first | (exfalso; omega) | omega, fun z => by first | (exfalso; omega) | (unfold zk_hc; first | omega | (rw [← t1_143, ← t0_148]; omega)), fun z => by first | (exfalso; omega) | (unfold zk_hc; first | omega | (rw [← t2_183, ← t1_188]; omega)), fun z => by first | (exfalso; omega) | omega, fun z => by first | (exfalso; omega) | (rcases gX with gX | gX; exact absurd gX.1 (by omega); exact Or.inr ⟨gX.2, by omega⟩), fun z => by first | (exfalso; omega) | omega⟩, by omega, by omega⟩⟩
  · refine zr_sw (i := .tableswitch 237 7 22 #[79, 237, 237, 237, 237, 237, 108, 237, 237, 237, 122, 162, 202, 202, 218, 202]) (len := 79) (t := 203) (x := op) (k := 20) (pc := 1) rfl c1 rfl rfl rfl rfl ?_
    refine zx_T.l (i := .aload_n 0) (k := 1) (v := .ref 34) (pc := 203) rfl rfl rfl ?_
    refine zw_gr (k := 5) (b := 40) (pc := 204) rfl rfl rfl hI ?_
    refine zx_T.s (i := .iconst 0) (k := 1) (st' := [.int (zI (0)), .ref 40]) (pc := 207) rfl rfl ?_
    refine zr_al (n := 3) (lo := (-2147483648)) (hi := 2147483647) (e := zv_a h 40 0) (pc := 208) rfl rfl rfl hI (by omega) (by omega) rfl (fun g49a g49b => ?_)
    refine zx_T.s (i := .iconst 4) (k := 1) (st' := [.int (zI (4)), .int (zI (zv_a h 40 0))]) (pc := 209) rfl rfl ?_
    refine zr_i2 (x := zv_a h 40 0) (y := 4) (t := 217) (pc := 210) rfl rfl (by omega) (by omega) (by omega) (by omega) (fun (c50 : ¬ (zv_a h 40 0) = 4) => ?_) (fun (c50 : ¬ (¬ (zv_a h 40 0) = 4)) => ?_)
    · refine zx_T.s (i := .iconst 0) (k := 1) (st' := [.int (zI (0))]) (pc := 217) rfl rfl ?_
      exact zr_ir (x := 0) (pc := 218) rfl rfl rfl ⟨rfl, _, rfl, by dsimp only; exact ⟨⟨fun z => by first | (exfalso; omega) | omega, fun z => by first | (exfalso; omega) | omega, fun z => by first | (exfalso; omega) | (unfold zk_hc; first | omega | (rw [← t1_143, ← t0_148]; omega)), fun z => by first | (exfalso; omega) | (unfold zk_hc; first | omega | (rw [← t2_183, ← t1_188]; omega)), fun z => by first | (exfalso; omega) | omega, fun z => by first | (exfalso; omega) | (rcases gX with gX | gX; exact Or.inl ⟨gX.2, by omega⟩; exact absurd gX.1 (by omega)), fun z => by first | (exfalso; omega) | omega⟩, by omega, by omega⟩⟩
    · refine zx_T.s (i := .iconst 1) (k := 1) (st' := [.int (zI (1))]) (pc := 213) rfl rfl ?_
      refine zx_T.j (i := .goto 4) (k := 3) (pc' := 218) (st' := [.int (zI (1))]) (pc := 214) rfl rfl rfl rfl rfl ?_
      exact zr_ir (x := 1) (pc := 218) rfl rfl rfl ⟨rfl, _, rfl, by dsimp only; exact ⟨⟨fun z => by first | (exfalso; omega) | omega, fun z => by first | (exfalso; omega) | omega, fun z => by first | (exfalso; omega) | (unfold zk_hc; first | omega | (rw [← t1_143, ← t0_148]; omega)), fun z => by first | (exfalso; omega) | (unfold zk_hc; first | omega | (rw [← t2_183, ← t1_188]; omega)), fun z => by first | (exfalso; omega) | omega, fun z => by first | (exfalso; omega) | (rcases gX with gX | gX; exact absurd gX.1 (by omega); exact Or.inr ⟨gX.2, by omega⟩), fun z => by first | (exfalso; omega) | omega⟩, by omega, by omega⟩⟩
  · refine zr_sw (i := .tableswitch 237 7 22 #[79, 237, 237, 237, 237, 237, 108, 237, 237, 237, 122, 162, 202, 202, 218, 202]) (len := 79) (t := 219) (x := op) (k := 21) (pc := 1) rfl c1 rfl rfl rfl rfl ?_
    refine zx_T.l (i := .aload_n 0) (k := 1) (v := .ref 34) (pc := 219) rfl rfl rfl ?_
    refine zw_gr (k := 5) (b := 40) (pc := 220) rfl rfl rfl hI ?_
    refine zx_T.s (i := .iconst 0) (k := 1) (st' := [.int (zI (0)), .ref 40]) (pc := 223) rfl rfl ?_
    refine zr_al (n := 3) (lo := (-2147483648)) (hi := 2147483647) (e := zv_a h 40 0) (pc := 224) rfl rfl rfl hI (by omega) (by omega) rfl (fun g51a g51b => ?_)
    refine zx_T.l (i := .iload_n 2) (k := 1) (v := .int (zI (a))) (pc := 225) rfl rfl rfl ?_
    refine zr_is (cj := 49) (q' := zp_m49) (As := [.int (zI (zv_a h 40 0)), .int (zI (a))]) (rest := []) (pc := 226) rfl rfl rfl rfl rfl rfl (Nat.le_of_ble_eq_true rfl) rfl (Nat.le_of_ble_eq_true rfl) rfl ((zm_goesAsF (h := h) hI (a := zv_a h 40 0) (b := a) (by omega) (by omega) (by omega) (by omega)).up (Nat.le_of_ble_eq_true rfl)) ?_
    rintro r52 h55 ⟨h55q, v53, r52q, x54⟩
    subst h55q r52q
    try dsimp only at x54
    have gX := x54.1
    show zx_T zp_P 1 zp_m64 229 [(0, .ref 34), (1, .int (zI (op))), (2, .int (zI (a)))] [.int (zI (v53))] h _
    refine zr_i1 (x := v53) (t := 236) (pc := 229) rfl rfl (by omega) (by omega) (fun (c56 : v53 = 0) => ?_) (fun (c56 : ¬ (v53 = 0)) => ?_)
    · refine zx_T.s (i := .iconst 4) (k := 1) (st' := [.int (zI (4))]) (pc := 236) rfl rfl ?_
      exact zr_ir (x := 4) (pc := 237) rfl rfl rfl ⟨rfl, _, rfl, by dsimp only; exact ⟨⟨fun z => by first | (exfalso; omega) | omega, fun z => by first | (exfalso; omega) | omega, fun z => by first | (exfalso; omega) | (unfold zk_hc; first | omega | (rw [← t1_143, ← t0_148]; omega)), fun z => by first | (exfalso; omega) | (unfold zk_hc; first | omega | (rw [← t2_183, ← t1_188]; omega)), fun z => by first | (exfalso; omega) | omega, fun z => by first | (exfalso; omega) | (rcases gX with gX | gX; exact absurd gX.1 (by omega); exact Or.inr ⟨gX.2, by omega⟩), fun z => by first | (exfalso; omega) | omega⟩, by omega, by omega⟩⟩
    · refine zx_T.s (i := .iconst 0) (k := 1) (st' := [.int (zI (0))]) (pc := 232) rfl rfl ?_
      refine zx_T.j (i := .goto 4) (k := 3) (pc' := 237) (st' := [.int (zI (0))]) (pc := 233) rfl rfl rfl rfl rfl ?_
      exact zr_ir (x := 0) (pc := 237) rfl rfl rfl ⟨rfl, _, rfl, by dsimp only; exact ⟨⟨fun z => by first | (exfalso; omega) | omega, fun z => by first | (exfalso; omega) | omega, fun z => by first | (exfalso; omega) | (unfold zk_hc; first | omega | (rw [← t1_143, ← t0_148]; omega)), fun z => by first | (exfalso; omega) | (unfold zk_hc; first | omega | (rw [← t2_183, ← t1_188]; omega)), fun z => by first | (exfalso; omega) | omega, fun z => by first | (exfalso; omega) | (rcases gX with gX | gX; exact Or.inl ⟨gX.2, by omega⟩; exact absurd gX.1 (by omega)), fun z => by first | (exfalso; omega) | omega⟩, by omega, by omega⟩⟩
  · refine zr_sw (i := .tableswitch 237 7 22 #[79, 237, 237, 237, 237, 237, 108, 237, 237, 237, 122, 162, 202, 202, 218, 202]) (len := 79) (t := 203) (x := op) (k := 22) (pc := 1) rfl c1 rfl rfl rfl rfl ?_
    refine zx_T.l (i := .aload_n 0) (k := 1) (v := .ref 34) (pc := 203) rfl rfl rfl ?_
    refine zw_gr (k := 5) (b := 40) (pc := 204) rfl rfl rfl hI ?_
    refine zx_T.s (i := .iconst 0) (k := 1) (st' := [.int (zI (0)), .ref 40]) (pc := 207) rfl rfl ?_
    refine zr_al (n := 3) (lo := (-2147483648)) (hi := 2147483647) (e := zv_a h 40 0) (pc := 208) rfl rfl rfl hI (by omega) (by omega) rfl (fun g57a g57b => ?_)
    refine zx_T.s (i := .iconst 4) (k := 1) (st' := [.int (zI (4)), .int (zI (zv_a h 40 0))]) (pc := 209) rfl rfl ?_
    refine zr_i2 (x := zv_a h 40 0) (y := 4) (t := 217) (pc := 210) rfl rfl (by omega) (by omega) (by omega) (by omega) (fun (c58 : ¬ (zv_a h 40 0) = 4) => ?_) (fun (c58 : ¬ (¬ (zv_a h 40 0) = 4)) => ?_)
    · refine zx_T.s (i := .iconst 0) (k := 1) (st' := [.int (zI (0))]) (pc := 217) rfl rfl ?_
      exact zr_ir (x := 0) (pc := 218) rfl rfl rfl ⟨rfl, _, rfl, by dsimp only; exact ⟨⟨fun z => by first | (exfalso; omega) | omega, fun z => by first | (exfalso; omega) | omega, fun z => by first | (exfalso; omega) | (unfold zk_hc; first | omega | (rw [← t1_143, ← t0_148]; omega)), fun z => by first | (exfalso; omega) | (unfold zk_hc; first | omega | (rw [← t2_183, ← t1_188]; omega)), fun z => by first | (exfalso; omega) | omega, fun z => by first | (exfalso; omega) | (rcases gX with gX | gX; exact Or.inl ⟨gX.2, by omega⟩; exact absurd gX.1 (by omega)), fun z => by first | (exfalso; omega) | omega⟩, by omega, by omega⟩⟩
    · refine zx_T.s (i := .iconst 1) (k := 1) (st' := [.int (zI (1))]) (pc := 213) rfl rfl ?_
      refine zx_T.j (i := .goto 4) (k := 3) (pc' := 218) (st' := [.int (zI (1))]) (pc := 214) rfl rfl rfl rfl rfl ?_
      exact zr_ir (x := 1) (pc := 218) rfl rfl rfl ⟨rfl, _, rfl, by dsimp only; exact ⟨⟨fun z => by first | (exfalso; omega) | omega, fun z => by first | (exfalso; omega) | omega, fun z => by first | (exfalso; omega) | (unfold zk_hc; first | omega | (rw [← t1_143, ← t0_148]; omega)), fun z => by first | (exfalso; omega) | (unfold zk_hc; first | omega | (rw [← t2_183, ← t1_188]; omega)), fun z => by first | (exfalso; omega) | omega, fun z => by first | (exfalso; omega) | (rcases gX with gX | gX; exact absurd gX.1 (by omega); exact Or.inr ⟨gX.2, by omega⟩), fun z => by first | (exfalso; omega) | omega⟩, by omega, by omega⟩⟩
  · refine zr_sw (i := .tableswitch 237 7 22 #[79, 237, 237, 237, 237, 237, 108, 237, 237, 237, 122, 162, 202, 202, 218, 202]) (len := 79) (t := 238) (x := op) (k := 0) (pc := 1) rfl c1 rfl rfl rfl rfl ?_
    refine zx_T.s (i := .iconst 0) (k := 1) (st' := [.int (zI (0))]) (pc := 238) rfl rfl ?_
    exact zr_ir (x := 0) (pc := 239) rfl rfl rfl ⟨rfl, _, rfl, by dsimp only; exact ⟨⟨fun z => by first | (exfalso; omega) | omega, fun z => by first | (exfalso; omega) | omega, fun z => by first | (exfalso; omega) | (unfold zk_hc; first | omega | (rw [← t1_143, ← t0_148]; omega)), fun z => by first | (exfalso; omega) | (unfold zk_hc; first | omega | (rw [← t2_183, ← t1_188]; omega)), fun z => by first | (exfalso; omega) | omega, fun z => by first | (exfalso; omega) | (rcases gX with gX | gX; exact Or.inl ⟨gX.2, by omega⟩; exact absurd gX.1 (by omega)), fun z => by first | (exfalso; omega) | omega⟩, by omega, by omega⟩⟩
  · refine zr_sw (i := .tableswitch 237 7 22 #[79, 237, 237, 237, 237, 237, 108, 237, 237, 237, 122, 162, 202, 202, 218, 202]) (len := 79) (t := 238) (x := op) (k := 1) (pc := 1) rfl c1 rfl rfl rfl rfl ?_
    refine zx_T.s (i := .iconst 0) (k := 1) (st' := [.int (zI (0))]) (pc := 238) rfl rfl ?_
    exact zr_ir (x := 0) (pc := 239) rfl rfl rfl ⟨rfl, _, rfl, by dsimp only; exact ⟨⟨fun z => by first | (exfalso; omega) | omega, fun z => by first | (exfalso; omega) | omega, fun z => by first | (exfalso; omega) | (unfold zk_hc; first | omega | (rw [← t1_143, ← t0_148]; omega)), fun z => by first | (exfalso; omega) | (unfold zk_hc; first | omega | (rw [← t2_183, ← t1_188]; omega)), fun z => by first | (exfalso; omega) | omega, fun z => by first | (exfalso; omega) | (rcases gX with gX | gX; exact Or.inl ⟨gX.2, by omega⟩; exact absurd gX.1 (by omega)), fun z => by first | (exfalso; omega) | omega⟩, by omega, by omega⟩⟩
  · refine zr_sw (i := .tableswitch 237 7 22 #[79, 237, 237, 237, 237, 237, 108, 237, 237, 237, 122, 162, 202, 202, 218, 202]) (len := 79) (t := 238) (x := op) (k := 2) (pc := 1) rfl c1 rfl rfl rfl rfl ?_
    refine zx_T.s (i := .iconst 0) (k := 1) (st' := [.int (zI (0))]) (pc := 238) rfl rfl ?_
    exact zr_ir (x := 0) (pc := 239) rfl rfl rfl ⟨rfl, _, rfl, by dsimp only; exact ⟨⟨fun z => by first | (exfalso; omega) | omega, fun z => by first | (exfalso; omega) | omega, fun z => by first | (exfalso; omega) | (unfold zk_hc; first | omega | (rw [← t1_143, ← t0_148]; omega)), fun z => by first | (exfalso; omega) | (unfold zk_hc; first | omega | (rw [← t2_183, ← t1_188]; omega)), fun z => by first | (exfalso; omega) | omega, fun z => by first | (exfalso; omega) | (rcases gX with gX | gX; exact Or.inl ⟨gX.2, by omega⟩; exact absurd gX.1 (by omega)), fun z => by first | (exfalso; omega) | omega⟩, by omega, by omega⟩⟩
  · refine zr_sw (i := .tableswitch 237 7 22 #[79, 237, 237, 237, 237, 237, 108, 237, 237, 237, 122, 162, 202, 202, 218, 202]) (len := 79) (t := 238) (x := op) (k := 3) (pc := 1) rfl c1 rfl rfl rfl rfl ?_
    refine zx_T.s (i := .iconst 0) (k := 1) (st' := [.int (zI (0))]) (pc := 238) rfl rfl ?_
    exact zr_ir (x := 0) (pc := 239) rfl rfl rfl ⟨rfl, _, rfl, by dsimp only; exact ⟨⟨fun z => by first | (exfalso; omega) | omega, fun z => by first | (exfalso; omega) | omega, fun z => by first | (exfalso; omega) | (unfold zk_hc; first | omega | (rw [← t1_143, ← t0_148]; omega)), fun z => by first | (exfalso; omega) | (unfold zk_hc; first | omega | (rw [← t2_183, ← t1_188]; omega)), fun z => by first | (exfalso; omega) | omega, fun z => by first | (exfalso; omega) | (rcases gX with gX | gX; exact Or.inl ⟨gX.2, by omega⟩; exact absurd gX.1 (by omega)), fun z => by first | (exfalso; omega) | omega⟩, by omega, by omega⟩⟩
  · refine zr_sw (i := .tableswitch 237 7 22 #[79, 237, 237, 237, 237, 237, 108, 237, 237, 237, 122, 162, 202, 202, 218, 202]) (len := 79) (t := 238) (x := op) (k := 4) (pc := 1) rfl c1 rfl rfl rfl rfl ?_
    refine zx_T.s (i := .iconst 0) (k := 1) (st' := [.int (zI (0))]) (pc := 238) rfl rfl ?_
    exact zr_ir (x := 0) (pc := 239) rfl rfl rfl ⟨rfl, _, rfl, by dsimp only; exact ⟨⟨fun z => by first | (exfalso; omega) | omega, fun z => by first | (exfalso; omega) | omega, fun z => by first | (exfalso; omega) | (unfold zk_hc; first | omega | (rw [← t1_143, ← t0_148]; omega)), fun z => by first | (exfalso; omega) | (unfold zk_hc; first | omega | (rw [← t2_183, ← t1_188]; omega)), fun z => by first | (exfalso; omega) | omega, fun z => by first | (exfalso; omega) | (rcases gX with gX | gX; exact Or.inl ⟨gX.2, by omega⟩; exact absurd gX.1 (by omega)), fun z => by first | (exfalso; omega) | omega⟩, by omega, by omega⟩⟩
  · refine zr_sw (i := .tableswitch 237 7 22 #[79, 237, 237, 237, 237, 237, 108, 237, 237, 237, 122, 162, 202, 202, 218, 202]) (len := 79) (t := 238) (x := op) (k := 5) (pc := 1) rfl c1 rfl rfl rfl rfl ?_
    refine zx_T.s (i := .iconst 0) (k := 1) (st' := [.int (zI (0))]) (pc := 238) rfl rfl ?_
    exact zr_ir (x := 0) (pc := 239) rfl rfl rfl ⟨rfl, _, rfl, by dsimp only; exact ⟨⟨fun z => by first | (exfalso; omega) | omega, fun z => by first | (exfalso; omega) | omega, fun z => by first | (exfalso; omega) | (unfold zk_hc; first | omega | (rw [← t1_143, ← t0_148]; omega)), fun z => by first | (exfalso; omega) | (unfold zk_hc; first | omega | (rw [← t2_183, ← t1_188]; omega)), fun z => by first | (exfalso; omega) | omega, fun z => by first | (exfalso; omega) | (rcases gX with gX | gX; exact Or.inl ⟨gX.2, by omega⟩; exact absurd gX.1 (by omega)), fun z => by first | (exfalso; omega) | omega⟩, by omega, by omega⟩⟩
  · refine zr_sw (i := .tableswitch 237 7 22 #[79, 237, 237, 237, 237, 237, 108, 237, 237, 237, 122, 162, 202, 202, 218, 202]) (len := 79) (t := 238) (x := op) (k := 6) (pc := 1) rfl c1 rfl rfl rfl rfl ?_
    refine zx_T.s (i := .iconst 0) (k := 1) (st' := [.int (zI (0))]) (pc := 238) rfl rfl ?_
    exact zr_ir (x := 0) (pc := 239) rfl rfl rfl ⟨rfl, _, rfl, by dsimp only; exact ⟨⟨fun z => by first | (exfalso; omega) | omega, fun z => by first | (exfalso; omega) | omega, fun z => by first | (exfalso; omega) | (unfold zk_hc; first | omega | (rw [← t1_143, ← t0_148]; omega)), fun z => by first | (exfalso; omega) | (unfold zk_hc; first | omega | (rw [← t2_183, ← t1_188]; omega)), fun z => by first | (exfalso; omega) | omega, fun z => by first | (exfalso; omega) | (rcases gX with gX | gX; exact Or.inl ⟨gX.2, by omega⟩; exact absurd gX.1 (by omega)), fun z => by first | (exfalso; omega) | omega⟩, by omega, by omega⟩⟩
  · refine zr_sw (i := .tableswitch 237 7 22 #[79, 237, 237, 237, 237, 237, 108, 237, 237, 237, 122, 162, 202, 202, 218, 202]) (len := 79) (t := 238) (x := op) (k := 8) (pc := 1) rfl c1 rfl rfl rfl rfl ?_
    refine zx_T.s (i := .iconst 0) (k := 1) (st' := [.int (zI (0))]) (pc := 238) rfl rfl ?_
    exact zr_ir (x := 0) (pc := 239) rfl rfl rfl ⟨rfl, _, rfl, by dsimp only; exact ⟨⟨fun z => by first | (exfalso; omega) | omega, fun z => by first | (exfalso; omega) | omega, fun z => by first | (exfalso; omega) | (unfold zk_hc; first | omega | (rw [← t1_143, ← t0_148]; omega)), fun z => by first | (exfalso; omega) | (unfold zk_hc; first | omega | (rw [← t2_183, ← t1_188]; omega)), fun z => by first | (exfalso; omega) | omega, fun z => by first | (exfalso; omega) | (rcases gX with gX | gX; exact Or.inl ⟨gX.2, by omega⟩; exact absurd gX.1 (by omega)), fun z => by first | (exfalso; omega) | omega⟩, by omega, by omega⟩⟩
  · refine zr_sw (i := .tableswitch 237 7 22 #[79, 237, 237, 237, 237, 237, 108, 237, 237, 237, 122, 162, 202, 202, 218, 202]) (len := 79) (t := 238) (x := op) (k := 9) (pc := 1) rfl c1 rfl rfl rfl rfl ?_
    refine zx_T.s (i := .iconst 0) (k := 1) (st' := [.int (zI (0))]) (pc := 238) rfl rfl ?_
    exact zr_ir (x := 0) (pc := 239) rfl rfl rfl ⟨rfl, _, rfl, by dsimp only; exact ⟨⟨fun z => by first | (exfalso; omega) | omega, fun z => by first | (exfalso; omega) | omega, fun z => by first | (exfalso; omega) | (unfold zk_hc; first | omega | (rw [← t1_143, ← t0_148]; omega)), fun z => by first | (exfalso; omega) | (unfold zk_hc; first | omega | (rw [← t2_183, ← t1_188]; omega)), fun z => by first | (exfalso; omega) | omega, fun z => by first | (exfalso; omega) | (rcases gX with gX | gX; exact Or.inl ⟨gX.2, by omega⟩; exact absurd gX.1 (by omega)), fun z => by first | (exfalso; omega) | omega⟩, by omega, by omega⟩⟩
  · refine zr_sw (i := .tableswitch 237 7 22 #[79, 237, 237, 237, 237, 237, 108, 237, 237, 237, 122, 162, 202, 202, 218, 202]) (len := 79) (t := 238) (x := op) (k := 10) (pc := 1) rfl c1 rfl rfl rfl rfl ?_
    refine zx_T.s (i := .iconst 0) (k := 1) (st' := [.int (zI (0))]) (pc := 238) rfl rfl ?_
    exact zr_ir (x := 0) (pc := 239) rfl rfl rfl ⟨rfl, _, rfl, by dsimp only; exact ⟨⟨fun z => by first | (exfalso; omega) | omega, fun z => by first | (exfalso; omega) | omega, fun z => by first | (exfalso; omega) | (unfold zk_hc; first | omega | (rw [← t1_143, ← t0_148]; omega)), fun z => by first | (exfalso; omega) | (unfold zk_hc; first | omega | (rw [← t2_183, ← t1_188]; omega)), fun z => by first | (exfalso; omega) | omega, fun z => by first | (exfalso; omega) | (rcases gX with gX | gX; exact Or.inl ⟨gX.2, by omega⟩; exact absurd gX.1 (by omega)), fun z => by first | (exfalso; omega) | omega⟩, by omega, by omega⟩⟩
  · refine zr_sw (i := .tableswitch 237 7 22 #[79, 237, 237, 237, 237, 237, 108, 237, 237, 237, 122, 162, 202, 202, 218, 202]) (len := 79) (t := 238) (x := op) (k := 11) (pc := 1) rfl c1 rfl rfl rfl rfl ?_
    refine zx_T.s (i := .iconst 0) (k := 1) (st' := [.int (zI (0))]) (pc := 238) rfl rfl ?_
    exact zr_ir (x := 0) (pc := 239) rfl rfl rfl ⟨rfl, _, rfl, by dsimp only; exact ⟨⟨fun z => by first | (exfalso; omega) | omega, fun z => by first | (exfalso; omega) | omega, fun z => by first | (exfalso; omega) | (unfold zk_hc; first | omega | (rw [← t1_143, ← t0_148]; omega)), fun z => by first | (exfalso; omega) | (unfold zk_hc; first | omega | (rw [← t2_183, ← t1_188]; omega)), fun z => by first | (exfalso; omega) | omega, fun z => by first | (exfalso; omega) | (rcases gX with gX | gX; exact Or.inl ⟨gX.2, by omega⟩; exact absurd gX.1 (by omega)), fun z => by first | (exfalso; omega) | omega⟩, by omega, by omega⟩⟩
  · refine zr_sw (i := .tableswitch 237 7 22 #[79, 237, 237, 237, 237, 237, 108, 237, 237, 237, 122, 162, 202, 202, 218, 202]) (len := 79) (t := 238) (x := op) (k := 12) (pc := 1) rfl c1 rfl rfl rfl rfl ?_
    refine zx_T.s (i := .iconst 0) (k := 1) (st' := [.int (zI (0))]) (pc := 238) rfl rfl ?_
    exact zr_ir (x := 0) (pc := 239) rfl rfl rfl ⟨rfl, _, rfl, by dsimp only; exact ⟨⟨fun z => by first | (exfalso; omega) | omega, fun z => by first | (exfalso; omega) | omega, fun z => by first | (exfalso; omega) | (unfold zk_hc; first | omega | (rw [← t1_143, ← t0_148]; omega)), fun z => by first | (exfalso; omega) | (unfold zk_hc; first | omega | (rw [← t2_183, ← t1_188]; omega)), fun z => by first | (exfalso; omega) | omega, fun z => by first | (exfalso; omega) | (rcases gX with gX | gX; exact Or.inl ⟨gX.2, by omega⟩; exact absurd gX.1 (by omega)), fun z => by first | (exfalso; omega) | omega⟩, by omega, by omega⟩⟩
  · refine zr_sw (i := .tableswitch 237 7 22 #[79, 237, 237, 237, 237, 237, 108, 237, 237, 237, 122, 162, 202, 202, 218, 202]) (len := 79) (t := 238) (x := op) (k := 14) (pc := 1) rfl c1 rfl rfl rfl rfl ?_
    refine zx_T.s (i := .iconst 0) (k := 1) (st' := [.int (zI (0))]) (pc := 238) rfl rfl ?_
    exact zr_ir (x := 0) (pc := 239) rfl rfl rfl ⟨rfl, _, rfl, by dsimp only; exact ⟨⟨fun z => by first | (exfalso; omega) | omega, fun z => by first | (exfalso; omega) | omega, fun z => by first | (exfalso; omega) | (unfold zk_hc; first | omega | (rw [← t1_143, ← t0_148]; omega)), fun z => by first | (exfalso; omega) | (unfold zk_hc; first | omega | (rw [← t2_183, ← t1_188]; omega)), fun z => by first | (exfalso; omega) | omega, fun z => by first | (exfalso; omega) | (rcases gX with gX | gX; exact Or.inl ⟨gX.2, by omega⟩; exact absurd gX.1 (by omega)), fun z => by first | (exfalso; omega) | omega⟩, by omega, by omega⟩⟩
  · refine zr_sw (i := .tableswitch 237 7 22 #[79, 237, 237, 237, 237, 237, 108, 237, 237, 237, 122, 162, 202, 202, 218, 202]) (len := 79) (t := 238) (x := op) (k := 15) (pc := 1) rfl c1 rfl rfl rfl rfl ?_
    refine zx_T.s (i := .iconst 0) (k := 1) (st' := [.int (zI (0))]) (pc := 238) rfl rfl ?_
    exact zr_ir (x := 0) (pc := 239) rfl rfl rfl ⟨rfl, _, rfl, by dsimp only; exact ⟨⟨fun z => by first | (exfalso; omega) | omega, fun z => by first | (exfalso; omega) | omega, fun z => by first | (exfalso; omega) | (unfold zk_hc; first | omega | (rw [← t1_143, ← t0_148]; omega)), fun z => by first | (exfalso; omega) | (unfold zk_hc; first | omega | (rw [← t2_183, ← t1_188]; omega)), fun z => by first | (exfalso; omega) | omega, fun z => by first | (exfalso; omega) | (rcases gX with gX | gX; exact Or.inl ⟨gX.2, by omega⟩; exact absurd gX.1 (by omega)), fun z => by first | (exfalso; omega) | omega⟩, by omega, by omega⟩⟩
  · refine zr_sw (i := .tableswitch 237 7 22 #[79, 237, 237, 237, 237, 237, 108, 237, 237, 237, 122, 162, 202, 202, 218, 202]) (len := 79) (t := 238) (x := op) (k := 16) (pc := 1) rfl c1 rfl rfl rfl rfl ?_
    refine zx_T.s (i := .iconst 0) (k := 1) (st' := [.int (zI (0))]) (pc := 238) rfl rfl ?_
    exact zr_ir (x := 0) (pc := 239) rfl rfl rfl ⟨rfl, _, rfl, by dsimp only; exact ⟨⟨fun z => by first | (exfalso; omega) | omega, fun z => by first | (exfalso; omega) | omega, fun z => by first | (exfalso; omega) | (unfold zk_hc; first | omega | (rw [← t1_143, ← t0_148]; omega)), fun z => by first | (exfalso; omega) | (unfold zk_hc; first | omega | (rw [← t2_183, ← t1_188]; omega)), fun z => by first | (exfalso; omega) | omega, fun z => by first | (exfalso; omega) | (rcases gX with gX | gX; exact Or.inl ⟨gX.2, by omega⟩; exact absurd gX.1 (by omega)), fun z => by first | (exfalso; omega) | omega⟩, by omega, by omega⟩⟩
  · refine zr_sw (i := .tableswitch 237 7 22 #[79, 237, 237, 237, 237, 237, 108, 237, 237, 237, 122, 162, 202, 202, 218, 202]) (len := 79) (t := 238) (x := op) (k := 23) (pc := 1) rfl c1 rfl rfl rfl rfl ?_
    refine zx_T.s (i := .iconst 0) (k := 1) (st' := [.int (zI (0))]) (pc := 238) rfl rfl ?_
    exact zr_ir (x := 0) (pc := 239) rfl rfl rfl ⟨rfl, _, rfl, by dsimp only; exact ⟨⟨fun z => by first | (exfalso; omega) | omega, fun z => by first | (exfalso; omega) | omega, fun z => by first | (exfalso; omega) | (unfold zk_hc; first | omega | (rw [← t1_143, ← t0_148]; omega)), fun z => by first | (exfalso; omega) | (unfold zk_hc; first | omega | (rw [← t2_183, ← t1_188]; omega)), fun z => by first | (exfalso; omega) | omega, fun z => by first | (exfalso; omega) | (rcases gX with gX | gX; exact Or.inl ⟨gX.2, by omega⟩; exact absurd gX.1 (by omega)), fun z => by first | (exfalso; omega) | omega⟩, by omega, by omega⟩⟩
  · refine zr_sw (i := .tableswitch 237 7 22 #[79, 237, 237, 237, 237, 237, 108, 237, 237, 237, 122, 162, 202, 202, 218, 202]) (len := 79) (t := 238) (x := op) (k := 24) (pc := 1) rfl c1 rfl rfl rfl rfl ?_
    refine zx_T.s (i := .iconst 0) (k := 1) (st' := [.int (zI (0))]) (pc := 238) rfl rfl ?_
    exact zr_ir (x := 0) (pc := 239) rfl rfl rfl ⟨rfl, _, rfl, by dsimp only; exact ⟨⟨fun z => by first | (exfalso; omega) | omega, fun z => by first | (exfalso; omega) | omega, fun z => by first | (exfalso; omega) | (unfold zk_hc; first | omega | (rw [← t1_143, ← t0_148]; omega)), fun z => by first | (exfalso; omega) | (unfold zk_hc; first | omega | (rw [← t2_183, ← t1_188]; omega)), fun z => by first | (exfalso; omega) | omega, fun z => by first | (exfalso; omega) | (rcases gX with gX | gX; exact Or.inl ⟨gX.2, by omega⟩; exact absurd gX.1 (by omega)), fun z => by first | (exfalso; omega) | omega⟩, by omega, by omega⟩⟩
  · refine zr_sw (i := .tableswitch 237 7 22 #[79, 237, 237, 237, 237, 237, 108, 237, 237, 237, 122, 162, 202, 202, 218, 202]) (len := 79) (t := 238) (x := op) (k := 25) (pc := 1) rfl c1 rfl rfl rfl rfl ?_
    refine zx_T.s (i := .iconst 0) (k := 1) (st' := [.int (zI (0))]) (pc := 238) rfl rfl ?_
    exact zr_ir (x := 0) (pc := 239) rfl rfl rfl ⟨rfl, _, rfl, by dsimp only; exact ⟨⟨fun z => by first | (exfalso; omega) | omega, fun z => by first | (exfalso; omega) | omega, fun z => by first | (exfalso; omega) | (unfold zk_hc; first | omega | (rw [← t1_143, ← t0_148]; omega)), fun z => by first | (exfalso; omega) | (unfold zk_hc; first | omega | (rw [← t2_183, ← t1_188]; omega)), fun z => by first | (exfalso; omega) | omega, fun z => by first | (exfalso; omega) | (rcases gX with gX | gX; exact Or.inl ⟨gX.2, by omega⟩; exact absurd gX.1 (by omega)), fun z => by first | (exfalso; omega) | omega⟩, by omega, by omega⟩⟩
  · refine zr_sw (i := .tableswitch 237 7 22 #[79, 237, 237, 237, 237, 237, 108, 237, 237, 237, 122, 162, 202, 202, 218, 202]) (len := 79) (t := 238) (x := op) (k := 26) (pc := 1) rfl c1 rfl rfl rfl rfl ?_
    refine zx_T.s (i := .iconst 0) (k := 1) (st' := [.int (zI (0))]) (pc := 238) rfl rfl ?_
    exact zr_ir (x := 0) (pc := 239) rfl rfl rfl ⟨rfl, _, rfl, by dsimp only; exact ⟨⟨fun z => by first | (exfalso; omega) | omega, fun z => by first | (exfalso; omega) | omega, fun z => by first | (exfalso; omega) | (unfold zk_hc; first | omega | (rw [← t1_143, ← t0_148]; omega)), fun z => by first | (exfalso; omega) | (unfold zk_hc; first | omega | (rw [← t2_183, ← t1_188]; omega)), fun z => by first | (exfalso; omega) | omega, fun z => by first | (exfalso; omega) | (rcases gX with gX | gX; exact Or.inl ⟨gX.2, by omega⟩; exact absurd gX.1 (by omega)), fun z => by first | (exfalso; omega) | omega⟩, by omega, by omega⟩⟩
  · refine zr_sw (i := .tableswitch 237 7 22 #[79, 237, 237, 237, 237, 237, 108, 237, 237, 237, 122, 162, 202, 202, 218, 202]) (len := 79) (t := 238) (x := op) (k := 27) (pc := 1) rfl c1 rfl rfl rfl rfl ?_
    refine zx_T.s (i := .iconst 0) (k := 1) (st' := [.int (zI (0))]) (pc := 238) rfl rfl ?_
    exact zr_ir (x := 0) (pc := 239) rfl rfl rfl ⟨rfl, _, rfl, by dsimp only; exact ⟨⟨fun z => by first | (exfalso; omega) | omega, fun z => by first | (exfalso; omega) | omega, fun z => by first | (exfalso; omega) | (unfold zk_hc; first | omega | (rw [← t1_143, ← t0_148]; omega)), fun z => by first | (exfalso; omega) | (unfold zk_hc; first | omega | (rw [← t2_183, ← t1_188]; omega)), fun z => by first | (exfalso; omega) | omega, fun z => by first | (exfalso; omega) | (rcases gX with gX | gX; exact Or.inl ⟨gX.2, by omega⟩; exact absurd gX.1 (by omega)), fun z => by first | (exfalso; omega) | omega⟩, by omega, by omega⟩⟩
  · refine zr_sw (i := .tableswitch 237 7 22 #[79, 237, 237, 237, 237, 237, 108, 237, 237, 237, 122, 162, 202, 202, 218, 202]) (len := 79) (t := 238) (x := op) (k := 28) (pc := 1) rfl c1 rfl rfl rfl rfl ?_
    refine zx_T.s (i := .iconst 0) (k := 1) (st' := [.int (zI (0))]) (pc := 238) rfl rfl ?_
    exact zr_ir (x := 0) (pc := 239) rfl rfl rfl ⟨rfl, _, rfl, by dsimp only; exact ⟨⟨fun z => by first | (exfalso; omega) | omega, fun z => by first | (exfalso; omega) | omega, fun z => by first | (exfalso; omega) | (unfold zk_hc; first | omega | (rw [← t1_143, ← t0_148]; omega)), fun z => by first | (exfalso; omega) | (unfold zk_hc; first | omega | (rw [← t2_183, ← t1_188]; omega)), fun z => by first | (exfalso; omega) | omega, fun z => by first | (exfalso; omega) | (rcases gX with gX | gX; exact Or.inl ⟨gX.2, by omega⟩; exact absurd gX.1 (by omega)), fun z => by first | (exfalso; omega) | omega⟩, by omega, by omega⟩⟩

set_option maxRecDepth 100000 in
set_option maxHeartbeats 4000000 in
theorem zm_mRaise {h : zx_H} (hI : zb_I zc_H h) {k : Int} {c : Int} (k1 : 0 ≤ k) (k2 : k ≤ 8) (c1 : -9223372036854775808 ≤ c) (c2 : c ≤ 9223372036854775807) : zx_T zp_P 3 zp_m65 0 [(0, .ref 34), (1, .int (zI (k))), (2, .long (zL (c)))] [] h (zr_V [(36, 1), (37, 0), (38, 0), (34, 9), (34, 12), (34, 8), (34, 11), (34, 13)] h (fun h' => ∃ t, zk_tk (zv_f h 1 8) (zv_a h 5) (zv_a h 6) (zv_a h 8) (zv_f h 34 9) k t ∧ ((t = -1 ∧ zv_fl h' 34 13 = c ∧ zv_f h' 34 11 = 1 ∧ zv_f h' 34 8 = 1 ∧ zv_f h' 34 12 = zv_f h 34 12 ∧ zv_f h' 34 9 = zv_f h 34 9) ∨ (0 ≤ t ∧ zv_f h' 36 1 = 1 ∧ zk_lc 8 (zv_a h 37) (zv_a h' 37) k ∧ zk_lc 8 (zv_b h 38) (zv_b h' 38) c ∧ zv_f h' 34 11 = zv_f h 34 11 ∧ zv_fl h' 34 13 = zv_fl h 34 13 ∧ (((0 ≤ zv_a h 7 t ∧ zv_a h 7 t < zv_f h 1 3) ∧ zv_f h' 34 9 = zv_a h 7 t ∧ zv_f h' 34 12 = zv_f h 34 12 ∧ zv_f h' 34 8 = zv_f h 34 8) ∨ (¬ (0 ≤ zv_a h 7 t ∧ zv_a h 7 t < zv_f h 1 3) ∧ zv_f h' 34 9 = zv_f h 34 9 ∧ zv_f h' 34 12 = 7 ∧ zv_f h' 34 8 = 1)))))) := by
  have hH := zw_ri hI (a := 1) (k := 8) rfl
  refine zx_T.l (i := .aload_n 0) (k := 1) (v := .ref 34) (pc := 0) rfl rfl rfl ?_
  refine zw_gr (k := 0) (b := 1) (pc := 1) rfl rfl rfl hI ?_
  refine zx_T.l (i := .aload_n 0) (k := 1) (v := .ref 34) (pc := 4) rfl rfl rfl ?_
  refine zw_gi (k := 9) (lo := (-2147483648)) (hi := 2147483647) (e := zv_f h 34 9) (pc := 5) rfl rfl rfl hI rfl (fun g1a g1b => ?_)
  refine zx_T.l (i := .iload_n 1) (k := 1) (v := .int (zI (k))) (pc := 8) rfl rfl rfl ?_
  refine zw_iv (b := 1) (cj := 18) (q' := zp_m18) (As := [.int (zI (zv_f h 34 9)), .int (zI (k))]) (rest := []) (pc := 9) rfl rfl rfl rfl rfl rfl rfl (Nat.le_of_ble_eq_true rfl) rfl (Nat.le_of_ble_eq_true rfl) hI ((zm_cTaker (h := h) hI (p := zv_f h 34 9) (k := k) (by omega) (by omega) (by omega) (by omega)).up (Nat.le_of_ble_eq_true rfl)) ?_
  rintro r2 h5 ⟨h5q, v3, r2q, x4⟩
  subst h5q r2q
  try dsimp only at x4
  have tK := x4
  have tL : v3 = -1 ∨ (0 ≤ v3 ∧ v3 < zv_f h 1 8) := (by rcases tK.1 with z | z; exact Or.inl z.1; exact Or.inr z.1)
  show zx_T zp_P 3 zp_m65 12 [(0, .ref 34), (1, .int (zI (k))), (2, .long (zL (c)))] [.int (zI (v3))] h _
  refine zx_T.t (i := .istore 4) (k := 2) (ls' := [(4, .int (zI (v3))), (0, .ref 34), (1, .int (zI (k))), (2, .long (zL (c)))]) (st' := []) (pc := 12) rfl rfl rfl rfl ?_
  refine zx_T.l (i := .iload 4) (k := 2) (v := .int (zI (v3))) (pc := 14) rfl rfl rfl ?_
  refine zx_T.s (i := .iconst (-1)) (k := 1) (st' := [.int (zI ((-1))), .int (zI (v3))]) (pc := 16) rfl rfl ?_
  refine zr_i2 (x := v3) (y := (-1)) (t := 31) (pc := 17) rfl rfl (by omega) (by omega) (by omega) (by omega) (fun (c6 : ¬ v3 = (-1)) => ?_) (fun (c6 : ¬ (¬ v3 = (-1))) => ?_)
  · refine zx_T.l (i := .aload_n 0) (k := 1) (v := .ref 34) (pc := 31) rfl rfl rfl ?_
    refine zw_gr (k := 2) (b := 36) (pc := 32) rfl rfl rfl hI ?_
    refine zx_T.l (i := .iload_n 1) (k := 1) (v := .int (zI (k))) (pc := 35) rfl rfl rfl ?_
    refine zw_iv (b := 36) (cj := 121) (q' := zp_m121) (As := [.int (zI (k))]) (rest := []) (pc := 36) rfl rfl rfl rfl rfl rfl rfl (Nat.le_of_ble_eq_true rfl) rfl (Nat.le_of_ble_eq_true rfl) hI ((zm_leaveAlone_36 (h := h) hI (k := k) (by omega) (by omega)).up (Nat.le_of_ble_eq_true rfl)) ?_
    rintro r7 h10 ⟨ih10, w11, r7q, x9⟩
    subst r7q
    try dsimp only at x9
    have lA := x9
    show zx_T zp_P 3 zp_m65 39 [(4, .int (zI (v3))), (0, .ref 34), (1, .int (zI (k))), (2, .long (zL (c)))] [] h10 _
    refine zx_T.l (i := .aload_n 0) (k := 1) (v := .ref 34) (pc := 39) rfl rfl rfl ?_
    refine zx_T.s (i := .bipush 8) (k := 2) (st' := [.int (zI (8)), .ref 34]) (pc := 40) rfl rfl ?_
    refine zx_T.l (i := .lload_n 2) (k := 1) (v := .long (zL (c))) (pc := 42) rfl rfl rfl ?_
    refine zw_iv (b := 34) (cj := 72) (q' := zp_m72) (As := [.int (zI (8)), .long (zL (c))]) (rest := []) (pc := 43) rfl rfl rfl rfl rfl rfl rfl (Nat.le_of_ble_eq_true rfl) rfl (Nat.le_of_ble_eq_true rfl) ih10 ((zm_mSetValue (h := h10) ih10 (i := 8) (v := c) (by omega) (by omega) (by omega) (by omega)).up (Nat.le_of_ble_eq_true rfl)) ?_
    rintro r12 h15 ⟨ih15, w16, r12q, x14⟩
    subst r12q
    try dsimp only at x14
    have sV := x14; rw [show zv_b h10 38 = zv_b h 38 from funext (fun q => zv_wb (w11.wd rfl : zb_W [(36, 1), (37, 0)] h _) rfl q)] at sV
    show zx_T zp_P 3 zp_m65 46 [(4, .int (zI (v3))), (0, .ref 34), (1, .int (zI (k))), (2, .long (zL (c)))] [] h15 _
    refine zx_T.l (i := .aload_n 0) (k := 1) (v := .ref 34) (pc := 46) rfl rfl rfl ?_
    refine zx_T.l (i := .aload_n 0) (k := 1) (v := .ref 34) (pc := 47) rfl rfl rfl ?_
    refine zw_gr (k := 0) (b := 1) (pc := 48) rfl rfl rfl ih15 ?_
    refine zx_T.l (i := .iload 4) (k := 2) (v := .int (zI (v3))) (pc := 51) rfl rfl rfl ?_
    have y17 : zv_f h15 1 8 = zv_f h 1 8 := ((zv_wf w16 rfl).trans (zv_wf w11 rfl))
    refine zw_iv (b := 1) (cj := 16) (q' := zp_m16) (As := [.int (zI (v3))]) (rest := [.ref 34]) (pc := 53) rfl rfl rfl rfl rfl rfl rfl (Nat.le_of_ble_eq_true rfl) rfl (Nat.le_of_ble_eq_true rfl) ih15 ((zm_cHandlerAt (h := h15) ih15 (t := v3) (by omega) (by omega)).up (Nat.le_of_ble_eq_true rfl)) ?_
    rintro r18 h21 ⟨h21q, v19, r18q, x20⟩
    subst h21q r18q
    try dsimp only at x20
    have hA := x20.1; rw [show zv_a h15 7 = zv_a h 7 from funext (fun q => zv_wa ((w11.wd rfl : zb_W [(36, 1), (37, 0), (38, 0)] h _).tr (w16.wd rfl)) rfl q)] at hA
    show zx_T zp_P 3 zp_m65 56 [(4, .int (zI (v3))), (0, .ref 34), (1, .int (zI (k))), (2, .long (zL (c)))] [.int (zI (v19)), .ref 34] h15 _
    refine zw_iv (b := 34) (cj := 70) (q' := zp_m70) (As := [.int (zI (v19))]) (rest := []) (pc := 56) rfl rfl rfl rfl rfl rfl rfl (Nat.le_of_ble_eq_true rfl) rfl (Nat.le_of_ble_eq_true rfl) ih15 ((zm_mGoTo (h := h15) ih15 (q := v19) (by omega) (by omega)).up (Nat.le_of_ble_eq_true rfl)) ?_
    rintro r22 h25 ⟨ih25, w26, r22q, x24⟩
    subst r22q
    try dsimp only at x24
    have gT := x24; rw [show zv_f h15 1 3 = zv_f h 1 3 from zv_wf ((w11.wd rfl : zb_W [(36, 1), (37, 0), (38, 0)] h _).tr (w16.wd rfl)) rfl, show zv_f h15 34 9 = zv_f h 34 9 from zv_wf ((w11.wd rfl : zb_W [(36, 1), (37, 0), (38, 0)] h _).tr (w16.wd rfl)) rfl, show zv_f h15 34 12 = zv_f h 34 12 from zv_wf ((w11.wd rfl : zb_W [(36, 1), (37, 0), (38, 0)] h _).tr (w16.wd rfl)) rfl, show zv_f h15 34 8 = zv_f h 34 8 from zv_wf ((w11.wd rfl : zb_W [(36, 1), (37, 0), (38, 0)] h _).tr (w16.wd rfl)) rfl] at gT
    show zx_T zp_P 3 zp_m65 59 [(4, .int (zI (v3))), (0, .ref 34), (1, .int (zI (k))), (2, .long (zL (c)))] [] h25 _
    have y27 : zv_f h25 36 1 = zv_f h10 36 1 := ((zv_wf w26 rfl).trans (zv_wf w16 rfl))
    have a37 : ∀ j, 0 ≤ j → zv_a h25 37 j = zv_a h10 37 j := fun j hj => by rw [zv_wa w26 rfl j, zv_wa w16 rfl j]
    have b38 : ∀ j, 0 ≤ j → zv_b h25 38 j = zv_b h15 38 j := fun j hj => by rw [zv_wb w26 rfl j]
    have y33 : zv_f h25 34 11 = zv_f h 34 11 := ((zv_wf w26 rfl).trans ((zv_wf w16 rfl).trans (zv_wf w11 rfl)))
    exact zr_vr (pc := 59) rfl rfl ⟨ih25, (((w11.wd rfl : zb_W [(36, 1), (37, 0), (38, 0), (34, 9), (34, 12), (34, 8), (34, 11), (34, 13)] h _).tr (w16.wd rfl)).tr (w26.wd rfl)), rfl, by dsimp only; refine ⟨_, tK.1, Or.inr ⟨by omega, by omega, fun j j0 => by rw [a37 j j0]; exact lA.2 j j0, fun j j0 => by rw [b38 j j0]; exact sV j j0, by omega, ((zv_wfl w26 rfl).trans ((zv_wfl w16 rfl).trans (zv_wfl w11 rfl))), ?_⟩⟩; rw [← hA]; exact gT⟩
  · refine zx_T.l (i := .aload_n 0) (k := 1) (v := .ref 34) (pc := 20) rfl rfl rfl ?_
    refine zx_T.l (i := .lload_n 2) (k := 1) (v := .long (zL (c))) (pc := 21) rfl rfl rfl ?_
    refine zw_pl2 (k := 13) (e := c) (pc := 22) rfl rfl rfl rfl hI (by omega) (by omega) (fun h34 ih34 w35 e36 => ?_)
    refine zx_T.l (i := .aload_n 0) (k := 1) (v := .ref 34) (pc := 25) rfl rfl rfl ?_
    refine zx_T.s (i := .iconst 1) (k := 1) (st' := [.int (zI (1)), .ref 34]) (pc := 26) rfl rfl ?_
    refine zw_iv (b := 34) (cj := 60) (q' := zp_m60) (As := [.int (zI (1))]) (rest := []) (pc := 27) rfl rfl rfl rfl rfl rfl rfl (Nat.le_of_ble_eq_true rfl) rfl (Nat.le_of_ble_eq_true rfl) ih34 ((zm_mFinish (h := h34) ih34 (f := 1) (by omega) (by omega)).up (Nat.le_of_ble_eq_true rfl)) ?_
    rintro r37 h40 ⟨ih40, w41, r37q, x39⟩
    subst r37q
    try dsimp only at x39
    show zx_T zp_P 3 zp_m65 30 [(4, .int (zI (v3))), (0, .ref 34), (1, .int (zI (k))), (2, .long (zL (c)))] [] h40 _
    have y42 : zv_f h40 36 1 = zv_f h 36 1 := ((zv_wf w41 rfl).trans (zv_wf w35 rfl))
    have a37 : ∀ j, 0 ≤ j → zv_a h40 37 j = zv_a h 37 j := fun j hj => by rw [zv_wa w41 rfl j, zv_wa w35 rfl j]
    have b38 : ∀ j, 0 ≤ j → zv_b h40 38 j = zv_b h 38 j := fun j hj => by rw [zv_wb w41 rfl j, zv_wb w35 rfl j]
    have y45 : zv_f h40 34 9 = zv_f h 34 9 := ((zv_wf w41 rfl).trans (zv_wf w35 rfl))
    have y46 : zv_f h40 34 12 = zv_f h 34 12 := ((zv_wf w41 rfl).trans (zv_wf w35 rfl))
    exact zr_vr (pc := 30) rfl rfl ⟨ih40, ((w35.wd rfl : zb_W [(36, 1), (37, 0), (38, 0), (34, 9), (34, 12), (34, 8), (34, 11), (34, 13)] h _).tr (w41.wd rfl)), rfl, by dsimp only; exact ⟨_, tK.1, Or.inl ⟨by omega, ((zv_wfl w41 rfl).trans e36), by omega, by omega, by omega, by omega⟩⟩⟩

set_option maxRecDepth 100000 in
set_option maxHeartbeats 4000000 in
theorem zm_mReckon {h : zx_H} (hI : zb_I zc_H h) {op : Int} (op1 : 0 ≤ op) (op2 : op ≤ 28) : zx_T zp_P 3 zp_m67 0 [(0, .ref 34), (1, .int (zI (op)))] [] h (zr_V [(38, 0), (43, 0)] h (fun h' => zk_rk op (zv_f h 36 1) (zv_f h 41 2) (zv_b h 39) (zv_b h 38) (zv_a h 42) (zv_a h 43) (zv_b h' 38) (zv_a h' 43))) := by
  have hS := zw_ri hI (a := 36) (k := 1) rfl
  have hN9 := zw_ri hI (a := 41) (k := 2) rfl
  refine zx_T.l (i := .iload_n 1) (k := 1) (v := .int (zI (op))) (pc := 0) rfl rfl rfl ?_
  have c1 : op = 12 ∨ op = 13 ∨ op = 14 ∨ op = 15 ∨ op = 16 ∨ op = 17 ∨ op = 18 ∨ op = 19 ∨ op = 20 ∨ op = 0 ∨ op = 1 ∨ op = 2 ∨ op = 3 ∨ op = 4 ∨ op = 5 ∨ op = 6 ∨ op = 7 ∨ op = 8 ∨ op = 9 ∨ op = 10 ∨ op = 11 ∨ op = 21 ∨ op = 22 ∨ op = 23 ∨ op = 24 ∨ op = 25 ∨ op = 26 ∨ op = 27 ∨ op = 28 := by omega
  rcases c1 with c1 | c1 | c1 | c1 | c1 | c1 | c1 | c1 | c1 | c1 | c1 | c1 | c1 | c1 | c1 | c1 | c1 | c1 | c1 | c1 | c1 | c1 | c1 | c1 | c1 | c1 | c1 | c1 | c1
  · refine zr_sw (i := .tableswitch 217 12 20 #[51, 70, 101, 121, 134, 147, 172, 197, 134]) (len := 51) (t := 52) (x := op) (k := 12) (pc := 1) rfl c1 rfl rfl rfl rfl ?_
    refine zx_T.l (i := .aload_n 0) (k := 1) (v := .ref 34) (pc := 52) rfl rfl rfl ?_
    refine zx_T.l (i := .aload_n 0) (k := 1) (v := .ref 34) (pc := 53) rfl rfl rfl ?_
    refine zx_T.s (i := .iconst 1) (k := 1) (st' := [.int (zI (1)), .ref 34, .ref 34]) (pc := 54) rfl rfl ?_
    refine zw_iv (b := 34) (cj := 63) (q' := zp_m63) (As := [.int (zI (1))]) (rest := [.ref 34]) (pc := 55) rfl rfl rfl rfl rfl rfl rfl (Nat.le_of_ble_eq_true rfl) rfl (Nat.le_of_ble_eq_true rfl) hI ((zm_mTakenInt (h := h) hI (d := 1) (by omega) (by omega)).up (Nat.le_of_ble_eq_true rfl)) ?_
    rintro r2 h5 ⟨h5q, v3, r2q, x4⟩
    subst h5q r2q
    try dsimp only at x4
    have t1_55 := (x4).1
    show zx_T zp_P 3 zp_m67 58 [(0, .ref 34), (1, .int (zI (op)))] [.int (zI (v3)), .ref 34] h _
    refine zx_T.l (i := .aload_n 0) (k := 1) (v := .ref 34) (pc := 58) rfl rfl rfl ?_
    refine zx_T.s (i := .iconst 0) (k := 1) (st' := [.int (zI (0)), .ref 34, .int (zI (v3)), .ref 34]) (pc := 59) rfl rfl ?_
    refine zw_iv (b := 34) (cj := 63) (q' := zp_m63) (As := [.int (zI (0))]) (rest := [.int (zI (v3)), .ref 34]) (pc := 60) rfl rfl rfl rfl rfl rfl rfl (Nat.le_of_ble_eq_true rfl) rfl (Nat.le_of_ble_eq_true rfl) hI ((zm_mTakenInt (h := h) hI (d := 0) (by omega) (by omega)).up (Nat.le_of_ble_eq_true rfl)) ?_
    rintro r6 h9 ⟨h9q, v7, r6q, x8⟩
    subst h9q r6q
    try dsimp only at x8
    have t0_60 := (x8).1
    show zx_T zp_P 3 zp_m67 63 [(0, .ref 34), (1, .int (zI (op)))] [.int (zI (v7)), .int (zI (v3)), .ref 34] h _
    refine zr_add (x := v3) (y := v7) (e := v3 + v7) (pc := 63) rfl (by omega) ?_
    refine zr_n32 (x := v3 + v7) (fun z10a z10b => ?_)
    refine zr_i2l (pc := 64) rfl (by omega) (by omega) ?_
    refine zw_iv (b := 34) (cj := 68) (q' := zp_m68) (As := [.long (zL (zi32 (v3 + v7)))]) (rest := []) (pc := 65) rfl rfl rfl rfl rfl rfl rfl (Nat.le_of_ble_eq_true rfl) rfl (Nat.le_of_ble_eq_true rfl) hI ((zm_mLeave (h := h) hI (v := zi32 (v3 + v7)) (by omega) (by omega)).up (Nat.le_of_ble_eq_true rfl)) ?_
    rintro r11 h14 ⟨ih14, w15, r11q, x13⟩
    subst r11q
    try dsimp only at x13
    have lV := x13
    show zx_T zp_P 3 zp_m67 68 [(0, .ref 34), (1, .int (zI (op)))] [] h14 _
    refine zx_T.j (i := .goto 150) (k := 3) (pc' := 218) (st' := []) (pc := 68) rfl rfl rfl rfl rfl ?_
    have b38 : ∀ j, 0 ≤ j → zv_b h14 38 j = zv_b h14 38 j := fun j hj => rfl
    have a43 : ∀ j, 0 ≤ j → zv_a h14 43 j = zv_a h 43 j := fun j hj => by rw [zv_wa w15 rfl j]
    exact zr_vr (pc := 218) rfl rfl ⟨ih14, (w15.wd rfl : zb_W [(38, 0), (43, 0)] h _), rfl, by dsimp only; exact ⟨fun z => by first | (exfalso; omega) | (exact fun j j0 => by rw [b38 j j0, lV j j0, t1_55, t0_60]; first | done | rw [Int.add_comm (zi32 (zv_b h 39 0))]), fun z => by first | (exfalso; omega) | intro zz; first | (exfalso; omega) | (exact fun j j0 => by rw [b38 j j0, lV j j0, t1_86, t0_91]), fun z => by first | (exfalso; omega) | (exact fun j j0 => by rw [b38 j j0, lV j j0]; first | done | rw [Int.add_comm (zv_b h 39 0)]), fun z => by first | (exfalso; omega) | (exact fun j j0 => by rw [b38 j j0, lV j j0, t0_125]), fun z => by first | (exfalso; omega) | (exact fun j j0 => by rw [b38 j j0, lV j j0]), fun z => by first | (exfalso; omega) | (intro zz; exact fun j j0 => by rw [b38 j j0, lV j j0]; rcases cX with y | y; (rw [y.2, t1_155, t0_160]); (exfalso; apply y.1; unfold zk_hc at zz; rw [t1_155, t0_160]; exact zz)), fun z => by first | (exfalso; omega) | (exact ⟨fun j j0 => b38 j j0, fun zz => fun j j0 => by rw [a43 j j0]; rcases cX with y | y; (rw [y.2 j j0, t2_179, t1_184, t0_189]); (exfalso; apply y.1; unfold zk_hc at zz; rw [t2_179, t1_184]; exact zz)⟩), fun z => by first | (exfalso; omega) | (intro zz; exact fun j j0 => by rw [b38 j j0, lV j j0]; rcases cX with y | y; (rw [y.2, t0_205]); (exfalso; apply y.1; rw [t0_205]; exact zz)), fun z => by first | (exfalso; omega) | exact fun j j0 => b38 j j0, fun z => by first | (exfalso; omega) | exact fun j j0 => a43 j j0⟩⟩
  · refine zr_sw (i := .tableswitch 217 12 20 #[51, 70, 101, 121, 134, 147, 172, 197, 134]) (len := 51) (t := 71) (x := op) (k := 13) (pc := 1) rfl c1 rfl rfl rfl rfl ?_
    refine zx_T.l (i := .aload_n 0) (k := 1) (v := .ref 34) (pc := 71) rfl rfl rfl ?_
    refine zx_T.l (i := .aload_n 0) (k := 1) (v := .ref 34) (pc := 72) rfl rfl rfl ?_
    refine zx_T.s (i := .iconst 0) (k := 1) (st' := [.int (zI (0)), .ref 34, .ref 34]) (pc := 73) rfl rfl ?_
    refine zw_iv (b := 34) (cj := 63) (q' := zp_m63) (As := [.int (zI (0))]) (rest := [.ref 34]) (pc := 74) rfl rfl rfl rfl rfl rfl rfl (Nat.le_of_ble_eq_true rfl) rfl (Nat.le_of_ble_eq_true rfl) hI ((zm_mTakenInt (h := h) hI (d := 0) (by omega) (by omega)).up (Nat.le_of_ble_eq_true rfl)) ?_
    rintro r18 h21 ⟨h21q, v19, r18q, x20⟩
    subst h21q r18q
    try dsimp only at x20
    have t0_74 := (x20).1
    show zx_T zp_P 3 zp_m67 77 [(0, .ref 34), (1, .int (zI (op)))] [.int (zI (v19)), .ref 34] h _
    refine zr_i1 (x := v19) (t := 84) (pc := 77) rfl rfl (by omega) (by omega) (fun (c22 : ¬ v19 = 0) => ?_) (fun (c22 : ¬ (¬ v19 = 0)) => ?_)
    · refine zx_T.l (i := .aload_n 0) (k := 1) (v := .ref 34) (pc := 84) rfl rfl rfl ?_
      refine zx_T.s (i := .iconst 1) (k := 1) (st' := [.int (zI (1)), .ref 34, .ref 34]) (pc := 85) rfl rfl ?_
      refine zw_iv (b := 34) (cj := 63) (q' := zp_m63) (As := [.int (zI (1))]) (rest := [.ref 34]) (pc := 86) rfl rfl rfl rfl rfl rfl rfl (Nat.le_of_ble_eq_true rfl) rfl (Nat.le_of_ble_eq_true rfl) hI ((zm_mTakenInt (h := h) hI (d := 1) (by omega) (by omega)).up (Nat.le_of_ble_eq_true rfl)) ?_
      rintro r23 h26 ⟨h26q, v24, r23q, x25⟩
      subst h26q r23q
      try dsimp only at x25
      have t1_86 := (x25).1
      show zx_T zp_P 3 zp_m67 89 [(0, .ref 34), (1, .int (zI (op)))] [.int (zI (v24)), .ref 34] h _
      refine zx_T.l (i := .aload_n 0) (k := 1) (v := .ref 34) (pc := 89) rfl rfl rfl ?_
      refine zx_T.s (i := .iconst 0) (k := 1) (st' := [.int (zI (0)), .ref 34, .int (zI (v24)), .ref 34]) (pc := 90) rfl rfl ?_
      refine zw_iv (b := 34) (cj := 63) (q' := zp_m63) (As := [.int (zI (0))]) (rest := [.int (zI (v24)), .ref 34]) (pc := 91) rfl rfl rfl rfl rfl rfl rfl (Nat.le_of_ble_eq_true rfl) rfl (Nat.le_of_ble_eq_true rfl) hI ((zm_mTakenInt (h := h) hI (d := 0) (by omega) (by omega)).up (Nat.le_of_ble_eq_true rfl)) ?_
      rintro r27 h30 ⟨h30q, v28, r27q, x29⟩
      subst h30q r27q
      try dsimp only at x29
      have t0_91 := (x29).1
      show zx_T zp_P 3 zp_m67 94 [(0, .ref 34), (1, .int (zI (op)))] [.int (zI (v28)), .int (zI (v24)), .ref 34] h _
      refine zr_div32 (x := v24) (y := v28) (pc := 94) rfl (by omega) (by omega) (by omega) (by omega) (by omega) (fun z31a z31b => ?_)
      refine zr_i2l (pc := 95) rfl (by omega) (by omega) ?_
      refine zw_iv (b := 34) (cj := 68) (q' := zp_m68) (As := [.long (zL (zi32 (Int.tdiv v24 v28)))]) (rest := []) (pc := 96) rfl rfl rfl rfl rfl rfl rfl (Nat.le_of_ble_eq_true rfl) rfl (Nat.le_of_ble_eq_true rfl) hI ((zm_mLeave (h := h) hI (v := zi32 (Int.tdiv v24 v28)) (by omega) (by omega)).up (Nat.le_of_ble_eq_true rfl)) ?_
      rintro r32 h35 ⟨ih35, w36, r32q, x34⟩
      subst r32q
      try dsimp only at x34
      have lV := x34
      show zx_T zp_P 3 zp_m67 99 [(0, .ref 34), (1, .int (zI (op)))] [] h35 _
      refine zx_T.j (i := .goto 119) (k := 3) (pc' := 218) (st' := []) (pc := 99) rfl rfl rfl rfl rfl ?_
      have b38 : ∀ j, 0 ≤ j → zv_b h35 38 j = zv_b h35 38 j := fun j hj => rfl
      have a43 : ∀ j, 0 ≤ j → zv_a h35 43 j = zv_a h 43 j := fun j hj => by rw [zv_wa w36 rfl j]
      exact zr_vr (pc := 218) rfl rfl ⟨ih35, (w36.wd rfl : zb_W [(38, 0), (43, 0)] h _), rfl, by dsimp only; exact ⟨fun z => by first | (exfalso; omega) | (exact fun j j0 => by rw [b38 j j0, lV j j0, t1_55, t0_60]; first | done | rw [Int.add_comm (zi32 (zv_b h 39 0))]), fun z => by first | (exfalso; omega) | intro zz; first | (exfalso; omega) | (exact fun j j0 => by rw [b38 j j0, lV j j0, t1_86, t0_91]), fun z => by first | (exfalso; omega) | (exact fun j j0 => by rw [b38 j j0, lV j j0]; first | done | rw [Int.add_comm (zv_b h 39 0)]), fun z => by first | (exfalso; omega) | (exact fun j j0 => by rw [b38 j j0, lV j j0, t0_125]), fun z => by first | (exfalso; omega) | (exact fun j j0 => by rw [b38 j j0, lV j j0]), fun z => by first | (exfalso; omega) | (intro zz; exact fun j j0 => by rw [b38 j j0, lV j j0]; rcases cX with y | y; (rw [y.2, t1_155, t0_160]); (exfalso; apply y.1; unfold zk_hc at zz; rw [t1_155, t0_160]; exact zz)), fun z => by first | (exfalso; omega) | (exact ⟨fun j j0 => b38 j j0, fun zz => fun j j0 => by rw [a43 j j0]; rcases cX with y | y; (rw [y.2 j j0, t2_179, t1_184, t0_189]); (exfalso; apply y.1; unfold zk_hc at zz; rw [t2_179, t1_184]; exact zz)⟩), fun z => by first | (exfalso; omega) | (intro zz; exact fun j j0 => by rw [b38 j j0, lV j j0]; rcases cX with y | y; (rw [y.2, t0_205]); (exfalso; apply y.1; rw [t0_205]; exact zz)), fun z => by first | (exfalso; omega) | exact fun j j0 => b38 j j0, fun z => by first | (exfalso; omega) | exact fun j j0 => a43 j j0⟩⟩
    · refine zx_T.s (i := .lconst 0) (k := 1) (st' := [.long (zL (0)), .ref 34]) (pc := 80) rfl rfl ?_
      refine zx_T.j (i := .goto 15) (k := 3) (pc' := 96) (st' := [.long (zL (0)), .ref 34]) (pc := 81) rfl rfl rfl rfl rfl ?_
      refine zw_iv (b := 34) (cj := 68) (q' := zp_m68) (As := [.long (zL (0))]) (rest := []) (pc := 96) rfl rfl rfl rfl rfl rfl rfl (Nat.le_of_ble_eq_true rfl) rfl (Nat.le_of_ble_eq_true rfl) hI ((zm_mLeave (h := h) hI (v := 0) (by omega) (by omega)).up (Nat.le_of_ble_eq_true rfl)) ?_
      rintro r39 h42 ⟨ih42, w43, r39q, x41⟩
      subst r39q
      try dsimp only at x41
      have lV := x41
      show zx_T zp_P 3 zp_m67 99 [(0, .ref 34), (1, .int (zI (op)))] [] h42 _
      refine zx_T.j (i := .goto 119) (k := 3) (pc' := 218) (st' := []) (pc := 99) rfl rfl rfl rfl rfl ?_
      have b38 : ∀ j, 0 ≤ j → zv_b h42 38 j = zv_b h42 38 j := fun j hj => rfl
      have a43 : ∀ j, 0 ≤ j → zv_a h42 43 j = zv_a h 43 j := fun j hj => by rw [zv_wa w43 rfl j]
      exact zr_vr (pc := 218) rfl rfl ⟨ih42, (w43.wd rfl : zb_W [(38, 0), (43, 0)] h _), rfl, by dsimp only; exact ⟨fun z => by first | (exfalso; omega) | (exact fun j j0 => by rw [b38 j j0, lV j j0, t1_55, t0_60]; first | done | rw [Int.add_comm (zi32 (zv_b h 39 0))]), fun z => by first | (exfalso; omega) | intro zz; first | (exfalso; omega) | (exact fun j j0 => by rw [b38 j j0, lV j j0, t1_86, t0_91]), fun z => by first | (exfalso; omega) | (exact fun j j0 => by rw [b38 j j0, lV j j0]; first | done | rw [Int.add_comm (zv_b h 39 0)]), fun z => by first | (exfalso; omega) | (exact fun j j0 => by rw [b38 j j0, lV j j0, t0_125]), fun z => by first | (exfalso; omega) | (exact fun j j0 => by rw [b38 j j0, lV j j0]), fun z => by first | (exfalso; omega) | (intro zz; exact fun j j0 => by rw [b38 j j0, lV j j0]; rcases cX with y | y; (rw [y.2, t1_155, t0_160]); (exfalso; apply y.1; unfold zk_hc at zz; rw [t1_155, t0_160]; exact zz)), fun z => by first | (exfalso; omega) | (exact ⟨fun j j0 => b38 j j0, fun zz => fun j j0 => by rw [a43 j j0]; rcases cX with y | y; (rw [y.2 j j0, t2_179, t1_184, t0_189]); (exfalso; apply y.1; unfold zk_hc at zz; rw [t2_179, t1_184]; exact zz)⟩), fun z => by first | (exfalso; omega) | (intro zz; exact fun j j0 => by rw [b38 j j0, lV j j0]; rcases cX with y | y; (rw [y.2, t0_205]); (exfalso; apply y.1; rw [t0_205]; exact zz)), fun z => by first | (exfalso; omega) | exact fun j j0 => b38 j j0, fun z => by first | (exfalso; omega) | exact fun j j0 => a43 j j0⟩⟩
  · refine zr_sw (i := .tableswitch 217 12 20 #[51, 70, 101, 121, 134, 147, 172, 197, 134]) (len := 51) (t := 102) (x := op) (k := 14) (pc := 1) rfl c1 rfl rfl rfl rfl ?_
    refine zx_T.l (i := .aload_n 0) (k := 1) (v := .ref 34) (pc := 102) rfl rfl rfl ?_
    refine zx_T.l (i := .aload_n 0) (k := 1) (v := .ref 34) (pc := 103) rfl rfl rfl ?_
    refine zw_gr (k := 4) (b := 39) (pc := 104) rfl rfl rfl hI ?_
    refine zx_T.s (i := .iconst 2) (k := 1) (st' := [.int (zI (2)), .ref 39, .ref 34]) (pc := 107) rfl rfl ?_
    have g46 := zv_rb (h := h) 39 2
    refine zr_ll (n := 3) (e := zv_b h 39 2) (pc := 108) rfl rfl rfl hI (by omega) (by omega) rfl ?_
    refine zx_T.l (i := .aload_n 0) (k := 1) (v := .ref 34) (pc := 109) rfl rfl rfl ?_
    refine zw_gr (k := 4) (b := 39) (pc := 110) rfl rfl rfl hI ?_
    refine zx_T.s (i := .iconst 0) (k := 1) (st' := [.int (zI (0)), .ref 39, .long (zL (zv_b h 39 2)), .ref 34]) (pc := 113) rfl rfl ?_
    have g47 := zv_rb (h := h) 39 0
    refine zr_ll (n := 3) (e := zv_b h 39 0) (pc := 114) rfl rfl rfl hI (by omega) (by omega) rfl ?_
    refine zr_ladd (x := zv_b h 39 2) (y := zv_b h 39 0) (e := zv_b h 39 0 + zv_b h 39 2) (pc := 115) rfl (by omega) ?_
    refine zr_n64 (x := zv_b h 39 0 + zv_b h 39 2) (fun z48a z48b => ?_)
    refine zw_iv (b := 34) (cj := 68) (q' := zp_m68) (As := [.long (zL (zi64 (zv_b h 39 0 + zv_b h 39 2)))]) (rest := []) (pc := 116) rfl rfl rfl rfl rfl rfl rfl (Nat.le_of_ble_eq_true rfl) rfl (Nat.le_of_ble_eq_true rfl) hI ((zm_mLeave (h := h) hI (v := zi64 (zv_b h 39 0 + zv_b h 39 2)) (by omega) (by omega)).up (Nat.le_of_ble_eq_true rfl)) ?_
    rintro r49 h52 ⟨ih52, w53, r49q, x51⟩
    subst r49q
    try dsimp only at x51
    have lV := x51
    show zx_T zp_P 3 zp_m67 119 [(0, .ref 34), (1, .int (zI (op)))] [] h52 _
    refine zx_T.j (i := .goto 99) (k := 3) (pc' := 218) (st' := []) (pc := 119) rfl rfl rfl rfl rfl ?_
    have b38 : ∀ j, 0 ≤ j → zv_b h52 38 j = zv_b h52 38 j := fun j hj => rfl
    have a43 : ∀ j, 0 ≤ j → zv_a h52 43 j = zv_a h 43 j := fun j hj => by rw [zv_wa w53 rfl j]
    exact zr_vr (pc := 218) rfl rfl ⟨ih52, (w53.wd rfl : zb_W [(38, 0), (43, 0)] h _), rfl, by dsimp only; exact ⟨fun z => by first | (exfalso; omega) | (exact fun j j0 => by rw [b38 j j0, lV j j0, t1_55, t0_60]; first | done | rw [Int.add_comm (zi32 (zv_b h 39 0))]), fun z => by first | (exfalso; omega) | intro zz; first | (exfalso; omega) | (exact fun j j0 => by rw [b38 j j0, lV j j0, t1_86, t0_91]), fun z => by first | (exfalso; omega) | (exact fun j j0 => by rw [b38 j j0, lV j j0]; first | done | rw [Int.add_comm (zv_b h 39 0)]), fun z => by first | (exfalso; omega) | (exact fun j j0 => by rw [b38 j j0, lV j j0, t0_125]), fun z => by first | (exfalso; omega) | (exact fun j j0 => by rw [b38 j j0, lV j j0]), fun z => by first | (exfalso; omega) | (intro zz; exact fun j j0 => by rw [b38 j j0, lV j j0]; rcases cX with y | y; (rw [y.2, t1_155, t0_160]); (exfalso; apply y.1; unfold zk_hc at zz; rw [t1_155, t0_160]; exact zz)), fun z => by first | (exfalso; omega) | (exact ⟨fun j j0 => b38 j j0, fun zz => fun j j0 => by rw [a43 j j0]; rcases cX with y | y; (rw [y.2 j j0, t2_179, t1_184, t0_189]); (exfalso; apply y.1; unfold zk_hc at zz; rw [t2_179, t1_184]; exact zz)⟩), fun z => by first | (exfalso; omega) | (intro zz; exact fun j j0 => by rw [b38 j j0, lV j j0]; rcases cX with y | y; (rw [y.2, t0_205]); (exfalso; apply y.1; rw [t0_205]; exact zz)), fun z => by first | (exfalso; omega) | exact fun j j0 => b38 j j0, fun z => by first | (exfalso; omega) | exact fun j j0 => a43 j j0⟩⟩
  · refine zr_sw (i := .tableswitch 217 12 20 #[51, 70, 101, 121, 134, 147, 172, 197, 134]) (len := 51) (t := 122) (x := op) (k := 15) (pc := 1) rfl c1 rfl rfl rfl rfl ?_
    refine zx_T.l (i := .aload_n 0) (k := 1) (v := .ref 34) (pc := 122) rfl rfl rfl ?_
    refine zx_T.l (i := .aload_n 0) (k := 1) (v := .ref 34) (pc := 123) rfl rfl rfl ?_
    refine zx_T.s (i := .iconst 0) (k := 1) (st' := [.int (zI (0)), .ref 34, .ref 34]) (pc := 124) rfl rfl ?_
    refine zw_iv (b := 34) (cj := 63) (q' := zp_m63) (As := [.int (zI (0))]) (rest := [.ref 34]) (pc := 125) rfl rfl rfl rfl rfl rfl rfl (Nat.le_of_ble_eq_true rfl) rfl (Nat.le_of_ble_eq_true rfl) hI ((zm_mTakenInt (h := h) hI (d := 0) (by omega) (by omega)).up (Nat.le_of_ble_eq_true rfl)) ?_
    rintro r56 h59 ⟨h59q, v57, r56q, x58⟩
    subst h59q r56q
    try dsimp only at x58
    have t0_125 := (x58).1
    show zx_T zp_P 3 zp_m67 128 [(0, .ref 34), (1, .int (zI (op)))] [.int (zI (v57)), .ref 34] h _
    refine zr_i2l (pc := 128) rfl (by omega) (by omega) ?_
    refine zw_iv (b := 34) (cj := 68) (q' := zp_m68) (As := [.long (zL (v57))]) (rest := []) (pc := 129) rfl rfl rfl rfl rfl rfl rfl (Nat.le_of_ble_eq_true rfl) rfl (Nat.le_of_ble_eq_true rfl) hI ((zm_mLeave (h := h) hI (v := v57) (by omega) (by omega)).up (Nat.le_of_ble_eq_true rfl)) ?_
    rintro r60 h63 ⟨ih63, w64, r60q, x62⟩
    subst r60q
    try dsimp only at x62
    have lV := x62
    show zx_T zp_P 3 zp_m67 132 [(0, .ref 34), (1, .int (zI (op)))] [] h63 _
    refine zx_T.j (i := .goto 86) (k := 3) (pc' := 218) (st' := []) (pc := 132) rfl rfl rfl rfl rfl ?_
    have b38 : ∀ j, 0 ≤ j → zv_b h63 38 j = zv_b h63 38 j := fun j hj => rfl
    have a43 : ∀ j, 0 ≤ j → zv_a h63 43 j = zv_a h 43 j := fun j hj => by rw [zv_wa w64 rfl j]
    exact zr_vr (pc := 218) rfl rfl ⟨ih63, (w64.wd rfl : zb_W [(38, 0), (43, 0)] h _), rfl, by dsimp only; exact ⟨fun z => by first | (exfalso; omega) | (exact fun j j0 => by rw [b38 j j0, lV j j0, t1_55, t0_60]; first | done | rw [Int.add_comm (zi32 (zv_b h 39 0))]), fun z => by first | (exfalso; omega) | intro zz; first | (exfalso; omega) | (exact fun j j0 => by rw [b38 j j0, lV j j0, t1_86, t0_91]), fun z => by first | (exfalso; omega) | (exact fun j j0 => by rw [b38 j j0, lV j j0]; first | done | rw [Int.add_comm (zv_b h 39 0)]), fun z => by first | (exfalso; omega) | (exact fun j j0 => by rw [b38 j j0, lV j j0, t0_125]), fun z => by first | (exfalso; omega) | (exact fun j j0 => by rw [b38 j j0, lV j j0]), fun z => by first | (exfalso; omega) | (intro zz; exact fun j j0 => by rw [b38 j j0, lV j j0]; rcases cX with y | y; (rw [y.2, t1_155, t0_160]); (exfalso; apply y.1; unfold zk_hc at zz; rw [t1_155, t0_160]; exact zz)), fun z => by first | (exfalso; omega) | (exact ⟨fun j j0 => b38 j j0, fun zz => fun j j0 => by rw [a43 j j0]; rcases cX with y | y; (rw [y.2 j j0, t2_179, t1_184, t0_189]); (exfalso; apply y.1; unfold zk_hc at zz; rw [t2_179, t1_184]; exact zz)⟩), fun z => by first | (exfalso; omega) | (intro zz; exact fun j j0 => by rw [b38 j j0, lV j j0]; rcases cX with y | y; (rw [y.2, t0_205]); (exfalso; apply y.1; rw [t0_205]; exact zz)), fun z => by first | (exfalso; omega) | exact fun j j0 => b38 j j0, fun z => by first | (exfalso; omega) | exact fun j j0 => a43 j j0⟩⟩
  · refine zr_sw (i := .tableswitch 217 12 20 #[51, 70, 101, 121, 134, 147, 172, 197, 134]) (len := 51) (t := 135) (x := op) (k := 16) (pc := 1) rfl c1 rfl rfl rfl rfl ?_
    refine zx_T.l (i := .aload_n 0) (k := 1) (v := .ref 34) (pc := 135) rfl rfl rfl ?_
    refine zx_T.l (i := .aload_n 0) (k := 1) (v := .ref 34) (pc := 136) rfl rfl rfl ?_
    refine zw_gr (k := 4) (b := 39) (pc := 137) rfl rfl rfl hI ?_
    refine zx_T.s (i := .iconst 0) (k := 1) (st' := [.int (zI (0)), .ref 39, .ref 34]) (pc := 140) rfl rfl ?_
    have g67 := zv_rb (h := h) 39 0
    refine zr_ll (n := 3) (e := zv_b h 39 0) (pc := 141) rfl rfl rfl hI (by omega) (by omega) rfl ?_
    refine zw_iv (b := 34) (cj := 68) (q' := zp_m68) (As := [.long (zL (zv_b h 39 0))]) (rest := []) (pc := 142) rfl rfl rfl rfl rfl rfl rfl (Nat.le_of_ble_eq_true rfl) rfl (Nat.le_of_ble_eq_true rfl) hI ((zm_mLeave (h := h) hI (v := zv_b h 39 0) (by omega) (by omega)).up (Nat.le_of_ble_eq_true rfl)) ?_
    rintro r68 h71 ⟨ih71, w72, r68q, x70⟩
    subst r68q
    try dsimp only at x70
    have lV := x70
    show zx_T zp_P 3 zp_m67 145 [(0, .ref 34), (1, .int (zI (op)))] [] h71 _
    refine zx_T.j (i := .goto 73) (k := 3) (pc' := 218) (st' := []) (pc := 145) rfl rfl rfl rfl rfl ?_
    have b38 : ∀ j, 0 ≤ j → zv_b h71 38 j = zv_b h71 38 j := fun j hj => rfl
    have a43 : ∀ j, 0 ≤ j → zv_a h71 43 j = zv_a h 43 j := fun j hj => by rw [zv_wa w72 rfl j]
    exact zr_vr (pc := 218) rfl rfl ⟨ih71, (w72.wd rfl : zb_W [(38, 0), (43, 0)] h _), rfl, by dsimp only; exact ⟨fun z => by first | (exfalso; omega) | (exact fun j j0 => by rw [b38 j j0, lV j j0, t1_55, t0_60]; first | done | rw [Int.add_comm (zi32 (zv_b h 39 0))]), fun z => by first | (exfalso; omega) | intro zz; first | (exfalso; omega) | (exact fun j j0 => by rw [b38 j j0, lV j j0, t1_86, t0_91]), fun z => by first | (exfalso; omega) | (exact fun j j0 => by rw [b38 j j0, lV j j0]; first | done | rw [Int.add_comm (zv_b h 39 0)]), fun z => by first | (exfalso; omega) | (exact fun j j0 => by rw [b38 j j0, lV j j0, t0_125]), fun z => by first | (exfalso; omega) | (exact fun j j0 => by rw [b38 j j0, lV j j0]), fun z => by first | (exfalso; omega) | (intro zz; exact fun j j0 => by rw [b38 j j0, lV j j0]; rcases cX with y | y; (rw [y.2, t1_155, t0_160]); (exfalso; apply y.1; unfold zk_hc at zz; rw [t1_155, t0_160]; exact zz)), fun z => by first | (exfalso; omega) | (exact ⟨fun j j0 => b38 j j0, fun zz => fun j j0 => by rw [a43 j j0]; rcases cX with y | y; (rw [y.2 j j0, t2_179, t1_184, t0_189]); (exfalso; apply y.1; unfold zk_hc at zz; rw [t2_179, t1_184]; exact zz)⟩), fun z => by first | (exfalso; omega) | (intro zz; exact fun j j0 => by rw [b38 j j0, lV j j0]; rcases cX with y | y; (rw [y.2, t0_205]); (exfalso; apply y.1; rw [t0_205]; exact zz)), fun z => by first | (exfalso; omega) | exact fun j j0 => b38 j j0, fun z => by first | (exfalso; omega) | exact fun j j0 => a43 j j0⟩⟩
  · refine zr_sw (i := .tableswitch 217 12 20 #[51, 70, 101, 121, 134, 147, 172, 197, 134]) (len := 51) (t := 148) (x := op) (k := 17) (pc := 1) rfl c1 rfl rfl rfl rfl ?_
    refine zx_T.l (i := .aload_n 0) (k := 1) (v := .ref 34) (pc := 148) rfl rfl rfl ?_
    refine zx_T.l (i := .aload_n 0) (k := 1) (v := .ref 34) (pc := 149) rfl rfl rfl ?_
    refine zw_gr (k := 6) (b := 41) (pc := 150) rfl rfl rfl hI ?_
    refine zx_T.l (i := .aload_n 0) (k := 1) (v := .ref 34) (pc := 153) rfl rfl rfl ?_
    refine zx_T.s (i := .iconst 1) (k := 1) (st' := [.int (zI (1)), .ref 34, .ref 41, .ref 34]) (pc := 154) rfl rfl ?_
    refine zw_iv (b := 34) (cj := 63) (q' := zp_m63) (As := [.int (zI (1))]) (rest := [.ref 41, .ref 34]) (pc := 155) rfl rfl rfl rfl rfl rfl rfl (Nat.le_of_ble_eq_true rfl) rfl (Nat.le_of_ble_eq_true rfl) hI ((zm_mTakenInt (h := h) hI (d := 1) (by omega) (by omega)).up (Nat.le_of_ble_eq_true rfl)) ?_
    rintro r75 h78 ⟨h78q, v76, r75q, x77⟩
    subst h78q r75q
    try dsimp only at x77
    have t1_155 := (x77).1
    show zx_T zp_P 3 zp_m67 158 [(0, .ref 34), (1, .int (zI (op)))] [.int (zI (v76)), .ref 41, .ref 34] h _
    refine zx_T.l (i := .aload_n 0) (k := 1) (v := .ref 34) (pc := 158) rfl rfl rfl ?_
    refine zx_T.s (i := .iconst 0) (k := 1) (st' := [.int (zI (0)), .ref 34, .int (zI (v76)), .ref 41, .ref 34]) (pc := 159) rfl rfl ?_
    refine zw_iv (b := 34) (cj := 63) (q' := zp_m63) (As := [.int (zI (0))]) (rest := [.int (zI (v76)), .ref 41, .ref 34]) (pc := 160) rfl rfl rfl rfl rfl rfl rfl (Nat.le_of_ble_eq_true rfl) rfl (Nat.le_of_ble_eq_true rfl) hI ((zm_mTakenInt (h := h) hI (d := 0) (by omega) (by omega)).up (Nat.le_of_ble_eq_true rfl)) ?_
    rintro r79 h82 ⟨h82q, v80, r79q, x81⟩
    subst h82q r79q
    try dsimp only at x81
    have t0_160 := (x81).1
    show zx_T zp_P 3 zp_m67 163 [(0, .ref 34), (1, .int (zI (op)))] [.int (zI (v80)), .int (zI (v76)), .ref 41, .ref 34] h _
    refine zw_iv (b := 41) (cj := 113) (q' := zp_m113) (As := [.int (zI (v76)), .int (zI (v80))]) (rest := [.ref 34]) (pc := 163) rfl rfl rfl rfl rfl rfl rfl (Nat.le_of_ble_eq_true rfl) rfl (Nat.le_of_ble_eq_true rfl) hI ((zm_rCell (h := h) hI (r := v76) (i := v80) (by omega) (by omega) (by omega) (by omega)).up (Nat.le_of_ble_eq_true rfl)) ?_
    rintro r83 h86 ⟨h86q, v84, r83q, x85⟩
    subst h86q r83q
    try dsimp only at x85
    have cX := x85.1
    show zx_T zp_P 3 zp_m67 166 [(0, .ref 34), (1, .int (zI (op)))] [.int (zI (v84)), .ref 34] h _
    refine zr_i2l (pc := 166) rfl (by omega) (by omega) ?_
    refine zw_iv (b := 34) (cj := 68) (q' := zp_m68) (As := [.long (zL (v84))]) (rest := []) (pc := 167) rfl rfl rfl rfl rfl rfl rfl (Nat.le_of_ble_eq_true rfl) rfl (Nat.le_of_ble_eq_true rfl) hI ((zm_mLeave (h := h) hI (v := v84) (by omega) (by omega)).up (Nat.le_of_ble_eq_true rfl)) ?_
    rintro r87 h90 ⟨ih90, w91, r87q, x89⟩
    subst r87q
    try dsimp only at x89
    have lV := x89
    show zx_T zp_P 3 zp_m67 170 [(0, .ref 34), (1, .int (zI (op)))] [] h90 _
    refine zx_T.j (i := .goto 48) (k := 3) (pc' := 218) (st' := []) (pc := 170) rfl rfl rfl rfl rfl ?_
    have b38 : ∀ j, 0 ≤ j → zv_b h90 38 j = zv_b h90 38 j := fun j hj => rfl
    have a43 : ∀ j, 0 ≤ j → zv_a h90 43 j = zv_a h 43 j := fun j hj => by rw [zv_wa w91 rfl j]
    exact zr_vr (pc := 218) rfl rfl ⟨ih90, (w91.wd rfl : zb_W [(38, 0), (43, 0)] h _), rfl, by dsimp only; exact ⟨fun z => by first | (exfalso; omega) | (exact fun j j0 => by rw [b38 j j0, lV j j0, t1_55, t0_60]; first | done | rw [Int.add_comm (zi32 (zv_b h 39 0))]), fun z => by first | (exfalso; omega) | intro zz; first | (exfalso; omega) | (exact fun j j0 => by rw [b38 j j0, lV j j0, t1_86, t0_91]), fun z => by first | (exfalso; omega) | (exact fun j j0 => by rw [b38 j j0, lV j j0]; first | done | rw [Int.add_comm (zv_b h 39 0)]), fun z => by first | (exfalso; omega) | (exact fun j j0 => by rw [b38 j j0, lV j j0, t0_125]), fun z => by first | (exfalso; omega) | (exact fun j j0 => by rw [b38 j j0, lV j j0]), fun z => by first | (exfalso; omega) | (intro zz; exact fun j j0 => by rw [b38 j j0, lV j j0]; rcases cX with y | y; (rw [y.2, t1_155, t0_160]); (exfalso; apply y.1; unfold zk_hc at zz; rw [t1_155, t0_160]; exact zz)), fun z => by first | (exfalso; omega) | (exact ⟨fun j j0 => b38 j j0, fun zz => fun j j0 => by rw [a43 j j0]; rcases cX with y | y; (rw [y.2 j j0, t2_179, t1_184, t0_189]); (exfalso; apply y.1; unfold zk_hc at zz; rw [t2_179, t1_184]; exact zz)⟩), fun z => by first | (exfalso; omega) | (intro zz; exact fun j j0 => by rw [b38 j j0, lV j j0]; rcases cX with y | y; (rw [y.2, t0_205]); (exfalso; apply y.1; rw [t0_205]; exact zz)), fun z => by first | (exfalso; omega) | exact fun j j0 => b38 j j0, fun z => by first | (exfalso; omega) | exact fun j j0 => a43 j j0⟩⟩
  · refine zr_sw (i := .tableswitch 217 12 20 #[51, 70, 101, 121, 134, 147, 172, 197, 134]) (len := 51) (t := 173) (x := op) (k := 18) (pc := 1) rfl c1 rfl rfl rfl rfl ?_
    refine zx_T.l (i := .aload_n 0) (k := 1) (v := .ref 34) (pc := 173) rfl rfl rfl ?_
    refine zw_gr (k := 6) (b := 41) (pc := 174) rfl rfl rfl hI ?_
    refine zx_T.l (i := .aload_n 0) (k := 1) (v := .ref 34) (pc := 177) rfl rfl rfl ?_
    refine zx_T.s (i := .iconst 2) (k := 1) (st' := [.int (zI (2)), .ref 34, .ref 41]) (pc := 178) rfl rfl ?_
    refine zw_iv (b := 34) (cj := 63) (q' := zp_m63) (As := [.int (zI (2))]) (rest := [.ref 41]) (pc := 179) rfl rfl rfl rfl rfl rfl rfl (Nat.le_of_ble_eq_true rfl) rfl (Nat.le_of_ble_eq_true rfl) hI ((zm_mTakenInt (h := h) hI (d := 2) (by omega) (by omega)).up (Nat.le_of_ble_eq_true rfl)) ?_
    rintro r94 h97 ⟨h97q, v95, r94q, x96⟩
    subst h97q r94q
    try dsimp only at x96
    have t2_179 := (x96).1
    show zx_T zp_P 3 zp_m67 182 [(0, .ref 34), (1, .int (zI (op)))] [.int (zI (v95)), .ref 41] h _
    refine zx_T.l (i := .aload_n 0) (k := 1) (v := .ref 34) (pc := 182) rfl rfl rfl ?_
    refine zx_T.s (i := .iconst 1) (k := 1) (st' := [.int (zI (1)), .ref 34, .int (zI (v95)), .ref 41]) (pc := 183) rfl rfl ?_
    refine zw_iv (b := 34) (cj := 63) (q' := zp_m63) (As := [.int (zI (1))]) (rest := [.int (zI (v95)), .ref 41]) (pc := 184) rfl rfl rfl rfl rfl rfl rfl (Nat.le_of_ble_eq_true rfl) rfl (Nat.le_of_ble_eq_true rfl) hI ((zm_mTakenInt (h := h) hI (d := 1) (by omega) (by omega)).up (Nat.le_of_ble_eq_true rfl)) ?_
    rintro r98 h101 ⟨h101q, v99, r98q, x100⟩
    subst h101q r98q
    try dsimp only at x100
    have t1_184 := (x100).1
    show zx_T zp_P 3 zp_m67 187 [(0, .ref 34), (1, .int (zI (op)))] [.int (zI (v99)), .int (zI (v95)), .ref 41] h _
    refine zx_T.l (i := .aload_n 0) (k := 1) (v := .ref 34) (pc := 187) rfl rfl rfl ?_
    refine zx_T.s (i := .iconst 0) (k := 1) (st' := [.int (zI (0)), .ref 34, .int (zI (v99)), .int (zI (v95)), .ref 41]) (pc := 188) rfl rfl ?_
    refine zw_iv (b := 34) (cj := 63) (q' := zp_m63) (As := [.int (zI (0))]) (rest := [.int (zI (v99)), .int (zI (v95)), .ref 41]) (pc := 189) rfl rfl rfl rfl rfl rfl rfl (Nat.le_of_ble_eq_true rfl) rfl (Nat.le_of_ble_eq_true rfl) hI ((zm_mTakenInt (h := h) hI (d := 0) (by omega) (by omega)).up (Nat.le_of_ble_eq_true rfl)) ?_
    rintro r102 h105 ⟨h105q, v103, r102q, x104⟩
    subst h105q r102q
    try dsimp only at x104
    have t0_189 := (x104).1
    show zx_T zp_P 3 zp_m67 192 [(0, .ref 34), (1, .int (zI (op)))] [.int (zI (v103)), .int (zI (v99)), .int (zI (v95)), .ref 41] h _
    refine zw_iv (b := 41) (cj := 114) (q' := zp_m114) (As := [.int (zI (v95)), .int (zI (v99)), .int (zI (v103))]) (rest := []) (pc := 192) rfl rfl rfl rfl rfl rfl rfl (Nat.le_of_ble_eq_true rfl) rfl (Nat.le_of_ble_eq_true rfl) hI ((zm_rSetCell (h := h) hI (r := v95) (i := v99) (v := v103) (by omega) (by omega) (by omega) (by omega) (by omega) (by omega)).up (Nat.le_of_ble_eq_true rfl)) ?_
    rintro r106 h109 ⟨ih109, w110, r106q, x108⟩
    subst r106q
    try dsimp only at x108
    have cX := x108
    show zx_T zp_P 3 zp_m67 195 [(0, .ref 34), (1, .int (zI (op)))] [] h109 _
    refine zx_T.j (i := .goto 23) (k := 3) (pc' := 218) (st' := []) (pc := 195) rfl rfl rfl rfl rfl ?_
    have b38 : ∀ j, 0 ≤ j → zv_b h109 38 j = zv_b h 38 j := fun j hj => by rw [zv_wb w110 rfl j]
    have a43 : ∀ j, 0 ≤ j → zv_a h109 43 j = zv_a h109 43 j := fun j hj => rfl
    exact zr_vr (pc := 218) rfl rfl ⟨ih109, (w110.wd rfl : zb_W [(38, 0), (43, 0)] h _), rfl, by dsimp only; exact ⟨fun z => by first | (exfalso; omega) | (exact fun j j0 => by rw [b38 j j0, lV j j0, t1_55, t0_60]; first | done | rw [Int.add_comm (zi32 (zv_b h 39 0))]), fun z => by first | (exfalso; omega) | intro zz; first | (exfalso; omega) | (exact fun j j0 => by rw [b38 j j0, lV j j0, t1_86, t0_91]), fun z => by first | (exfalso; omega) | (exact fun j j0 => by rw [b38 j j0, lV j j0]; first | done | rw [Int.add_comm (zv_b h 39 0)]), fun z => by first | (exfalso; omega) | (exact fun j j0 => by rw [b38 j j0, lV j j0, t0_125]), fun z => by first | (exfalso; omega) | (exact fun j j0 => by rw [b38 j j0, lV j j0]), fun z => by first | (exfalso; omega) | (intro zz; exact fun j j0 => by rw [b38 j j0, lV j j0]; rcases cX with y | y; (rw [y.2, t1_155, t0_160]); (exfalso; apply y.1; unfold zk_hc at zz; rw [t1_155, t0_160]; exact zz)), fun z => by first | (exfalso; omega) | (exact ⟨fun j j0 => b38 j j0, fun zz => fun j j0 => by rw [a43 j j0]; rcases cX with y | y; (rw [y.2 j j0, t2_179, t1_184, t0_189]); (exfalso; apply y.1; unfold zk_hc at zz; rw [t2_179, t1_184]; exact zz)⟩), fun z => by first | (exfalso; omega) | (intro zz; exact fun j j0 => by rw [b38 j j0, lV j j0]; rcases cX with y | y; (rw [y.2, t0_205]); (exfalso; apply y.1; rw [t0_205]; exact zz)), fun z => by first | (exfalso; omega) | exact fun j j0 => b38 j j0, fun z => by first | (exfalso; omega) | exact fun j j0 => a43 j j0⟩⟩
  · refine zr_sw (i := .tableswitch 217 12 20 #[51, 70, 101, 121, 134, 147, 172, 197, 134]) (len := 51) (t := 198) (x := op) (k := 19) (pc := 1) rfl c1 rfl rfl rfl rfl ?_
    refine zx_T.l (i := .aload_n 0) (k := 1) (v := .ref 34) (pc := 198) rfl rfl rfl ?_
    refine zx_T.l (i := .aload_n 0) (k := 1) (v := .ref 34) (pc := 199) rfl rfl rfl ?_
    refine zw_gr (k := 6) (b := 41) (pc := 200) rfl rfl rfl hI ?_
    refine zx_T.l (i := .aload_n 0) (k := 1) (v := .ref 34) (pc := 203) rfl rfl rfl ?_
    refine zx_T.s (i := .iconst 0) (k := 1) (st' := [.int (zI (0)), .ref 34, .ref 41, .ref 34]) (pc := 204) rfl rfl ?_
    refine zw_iv (b := 34) (cj := 63) (q' := zp_m63) (As := [.int (zI (0))]) (rest := [.ref 41, .ref 34]) (pc := 205) rfl rfl rfl rfl rfl rfl rfl (Nat.le_of_ble_eq_true rfl) rfl (Nat.le_of_ble_eq_true rfl) hI ((zm_mTakenInt (h := h) hI (d := 0) (by omega) (by omega)).up (Nat.le_of_ble_eq_true rfl)) ?_
    rintro r113 h116 ⟨h116q, v114, r113q, x115⟩
    subst h116q r113q
    try dsimp only at x115
    have t0_205 := (x115).1
    show zx_T zp_P 3 zp_m67 208 [(0, .ref 34), (1, .int (zI (op)))] [.int (zI (v114)), .ref 41, .ref 34] h _
    refine zw_iv (b := 41) (cj := 111) (q' := zp_m111) (As := [.int (zI (v114))]) (rest := [.ref 34]) (pc := 208) rfl rfl rfl rfl rfl rfl rfl (Nat.le_of_ble_eq_true rfl) rfl (Nat.le_of_ble_eq_true rfl) hI ((zm_rLengthOf (h := h) hI (r := v114) (by omega) (by omega)).up (Nat.le_of_ble_eq_true rfl)) ?_
    rintro r117 h120 ⟨h120q, v118, r117q, x119⟩
    subst h120q r117q
    try dsimp only at x119
    have cX := x119.1
    show zx_T zp_P 3 zp_m67 211 [(0, .ref 34), (1, .int (zI (op)))] [.int (zI (v118)), .ref 34] h _
    refine zr_i2l (pc := 211) rfl (by omega) (by omega) ?_
    refine zw_iv (b := 34) (cj := 68) (q' := zp_m68) (As := [.long (zL (v118))]) (rest := []) (pc := 212) rfl rfl rfl rfl rfl rfl rfl (Nat.le_of_ble_eq_true rfl) rfl (Nat.le_of_ble_eq_true rfl) hI ((zm_mLeave (h := h) hI (v := v118) (by omega) (by omega)).up (Nat.le_of_ble_eq_true rfl)) ?_
    rintro r121 h124 ⟨ih124, w125, r121q, x123⟩
    subst r121q
    try dsimp only at x123
    have lV := x123
    show zx_T zp_P 3 zp_m67 215 [(0, .ref 34), (1, .int (zI (op)))] [] h124 _
    refine zx_T.j (i := .goto 3) (k := 3) (pc' := 218) (st' := []) (pc := 215) rfl rfl rfl rfl rfl ?_
    have b38 : ∀ j, 0 ≤ j → zv_b h124 38 j = zv_b h124 38 j := fun j hj => rfl
    have a43 : ∀ j, 0 ≤ j → zv_a h124 43 j = zv_a h 43 j := fun j hj => by rw [zv_wa w125 rfl j]
    exact zr_vr (pc := 218) rfl rfl ⟨ih124, (w125.wd rfl : zb_W [(38, 0), (43, 0)] h _), rfl, by dsimp only; exact ⟨fun z => by first | (exfalso; omega) | (exact fun j j0 => by rw [b38 j j0, lV j j0, t1_55, t0_60]; first | done | rw [Int.add_comm (zi32 (zv_b h 39 0))]), fun z => by first | (exfalso; omega) | intro zz; first | (exfalso; omega) | (exact fun j j0 => by rw [b38 j j0, lV j j0, t1_86, t0_91]), fun z => by first | (exfalso; omega) | (exact fun j j0 => by rw [b38 j j0, lV j j0]; first | done | rw [Int.add_comm (zv_b h 39 0)]), fun z => by first | (exfalso; omega) | (exact fun j j0 => by rw [b38 j j0, lV j j0, t0_125]), fun z => by first | (exfalso; omega) | (exact fun j j0 => by rw [b38 j j0, lV j j0]), fun z => by first | (exfalso; omega) | (intro zz; exact fun j j0 => by rw [b38 j j0, lV j j0]; rcases cX with y | y; (rw [y.2, t1_155, t0_160]); (exfalso; apply y.1; unfold zk_hc at zz; rw [t1_155, t0_160]; exact zz)), fun z => by first | (exfalso; omega) | (exact ⟨fun j j0 => b38 j j0, fun zz => fun j j0 => by rw [a43 j j0]; rcases cX with y | y; (rw [y.2 j j0, t2_179, t1_184, t0_189]); (exfalso; apply y.1; unfold zk_hc at zz; rw [t2_179, t1_184]; exact zz)⟩), fun z => by first | (exfalso; omega) | (intro zz; exact fun j j0 => by rw [b38 j j0, lV j j0]; rcases cX with y | y; (rw [y.2, t0_205]); (exfalso; apply y.1; rw [t0_205]; exact zz)), fun z => by first | (exfalso; omega) | exact fun j j0 => b38 j j0, fun z => by first | (exfalso; omega) | exact fun j j0 => a43 j j0⟩⟩
  · refine zr_sw (i := .tableswitch 217 12 20 #[51, 70, 101, 121, 134, 147, 172, 197, 134]) (len := 51) (t := 135) (x := op) (k := 20) (pc := 1) rfl c1 rfl rfl rfl rfl ?_
    refine zx_T.l (i := .aload_n 0) (k := 1) (v := .ref 34) (pc := 135) rfl rfl rfl ?_
    refine zx_T.l (i := .aload_n 0) (k := 1) (v := .ref 34) (pc := 136) rfl rfl rfl ?_
    refine zw_gr (k := 4) (b := 39) (pc := 137) rfl rfl rfl hI ?_
    refine zx_T.s (i := .iconst 0) (k := 1) (st' := [.int (zI (0)), .ref 39, .ref 34]) (pc := 140) rfl rfl ?_
    have g128 := zv_rb (h := h) 39 0
    refine zr_ll (n := 3) (e := zv_b h 39 0) (pc := 141) rfl rfl rfl hI (by omega) (by omega) rfl ?_
    refine zw_iv (b := 34) (cj := 68) (q' := zp_m68) (As := [.long (zL (zv_b h 39 0))]) (rest := []) (pc := 142) rfl rfl rfl rfl rfl rfl rfl (Nat.le_of_ble_eq_true rfl) rfl (Nat.le_of_ble_eq_true rfl) hI ((zm_mLeave (h := h) hI (v := zv_b h 39 0) (by omega) (by omega)).up (Nat.le_of_ble_eq_true rfl)) ?_
    rintro r129 h132 ⟨ih132, w133, r129q, x131⟩
    subst r129q
    try dsimp only at x131
    have lV := x131
    show zx_T zp_P 3 zp_m67 145 [(0, .ref 34), (1, .int (zI (op)))] [] h132 _
    refine zx_T.j (i := .goto 73) (k := 3) (pc' := 218) (st' := []) (pc := 145) rfl rfl rfl rfl rfl ?_
    have b38 : ∀ j, 0 ≤ j → zv_b h132 38 j = zv_b h132 38 j := fun j hj => rfl
    have a43 : ∀ j, 0 ≤ j → zv_a h132 43 j = zv_a h 43 j := fun j hj => by rw [zv_wa w133 rfl j]
    exact zr_vr (pc := 218) rfl rfl ⟨ih132, (w133.wd rfl : zb_W [(38, 0), (43, 0)] h _), rfl, by dsimp only; exact ⟨fun z => by first | (exfalso; omega) | (exact fun j j0 => by rw [b38 j j0, lV j j0, t1_55, t0_60]; first | done | rw [Int.add_comm (zi32 (zv_b h 39 0))]), fun z => by first | (exfalso; omega) | intro zz; first | (exfalso; omega) | (exact fun j j0 => by rw [b38 j j0, lV j j0, t1_86, t0_91]), fun z => by first | (exfalso; omega) | (exact fun j j0 => by rw [b38 j j0, lV j j0]; first | done | rw [Int.add_comm (zv_b h 39 0)]), fun z => by first | (exfalso; omega) | (exact fun j j0 => by rw [b38 j j0, lV j j0, t0_125]), fun z => by first | (exfalso; omega) | (exact fun j j0 => by rw [b38 j j0, lV j j0]), fun z => by first | (exfalso; omega) | (intro zz; exact fun j j0 => by rw [b38 j j0, lV j j0]; rcases cX with y | y; (rw [y.2, t1_155, t0_160]); (exfalso; apply y.1; unfold zk_hc at zz; rw [t1_155, t0_160]; exact zz)), fun z => by first | (exfalso; omega) | (exact ⟨fun j j0 => b38 j j0, fun zz => fun j j0 => by rw [a43 j j0]; rcases cX with y | y; (rw [y.2 j j0, t2_179, t1_184, t0_189]); (exfalso; apply y.1; unfold zk_hc at zz; rw [t2_179, t1_184]; exact zz)⟩), fun z => by first | (exfalso; omega) | (intro zz; exact fun j j0 => by rw [b38 j j0, lV j j0]; rcases cX with y | y; (rw [y.2, t0_205]); (exfalso; apply y.1; rw [t0_205]; exact zz)), fun z => by first | (exfalso; omega) | exact fun j j0 => b38 j j0, fun z => by first | (exfalso; omega) | exact fun j j0 => a43 j j0⟩⟩
  · refine zr_sw (i := .tableswitch 217 12 20 #[51, 70, 101, 121, 134, 147, 172, 197, 134]) (len := 51) (t := 218) (x := op) (k := 0) (pc := 1) rfl c1 rfl rfl rfl rfl ?_
    have b38 : ∀ j, 0 ≤ j → zv_b h 38 j = zv_b h 38 j := fun j hj => rfl
    have a43 : ∀ j, 0 ≤ j → zv_a h 43 j = zv_a h 43 j := fun j hj => rfl
    exact zr_vr (pc := 218) rfl rfl ⟨hI, zb_W.rf, rfl, by dsimp only; exact ⟨fun z => by first | (exfalso; omega) | (exact fun j j0 => by rw [b38 j j0, lV j j0, t1_55, t0_60]; first | done | rw [Int.add_comm (zi32 (zv_b h 39 0))]), fun z => by first | (exfalso; omega) | intro zz; first | (exfalso; omega) | (exact fun j j0 => by rw [b38 j j0, lV j j0, t1_86, t0_91]), fun z => by first | (exfalso; omega) | (exact fun j j0 => by rw [b38 j j0, lV j j0]; first | done | rw [Int.add_comm (zv_b h 39 0)]), fun z => by first | (exfalso; omega) | (exact fun j j0 => by rw [b38 j j0, lV j j0, t0_125]), fun z => by first | (exfalso; omega) | (exact fun j j0 => by rw [b38 j j0, lV j j0]), fun z => by first | (exfalso; omega) | (intro zz; exact fun j j0 => by rw [b38 j j0, lV j j0]; rcases cX with y | y; (rw [y.2, t1_155, t0_160]); (exfalso; apply y.1; unfold zk_hc at zz; rw [t1_155, t0_160]; exact zz)), fun z => by first | (exfalso; omega) | (exact ⟨fun j j0 => b38 j j0, fun zz => fun j j0 => by rw [a43 j j0]; rcases cX with y | y; (rw [y.2 j j0, t2_179, t1_184, t0_189]); (exfalso; apply y.1; unfold zk_hc at zz; rw [t2_179, t1_184]; exact zz)⟩), fun z => by first | (exfalso; omega) | (intro zz; exact fun j j0 => by rw [b38 j j0, lV j j0]; rcases cX with y | y; (rw [y.2, t0_205]); (exfalso; apply y.1; rw [t0_205]; exact zz)), fun z => by first | (exfalso; omega) | exact fun j j0 => b38 j j0, fun z => by first | (exfalso; omega) | exact fun j j0 => a43 j j0⟩⟩
  · refine zr_sw (i := .tableswitch 217 12 20 #[51, 70, 101, 121, 134, 147, 172, 197, 134]) (len := 51) (t := 218) (x := op) (k := 1) (pc := 1) rfl c1 rfl rfl rfl rfl ?_
    have b38 : ∀ j, 0 ≤ j → zv_b h 38 j = zv_b h 38 j := fun j hj => rfl
    have a43 : ∀ j, 0 ≤ j → zv_a h 43 j = zv_a h 43 j := fun j hj => rfl
    exact zr_vr (pc := 218) rfl rfl ⟨hI, zb_W.rf, rfl, by dsimp only; exact ⟨fun z => by first | (exfalso; omega) | (exact fun j j0 => by rw [b38 j j0, lV j j0, t1_55, t0_60]; first | done | rw [Int.add_comm (zi32 (zv_b h 39 0))]), fun z => by first | (exfalso; omega) | intro zz; first | (exfalso; omega) | (exact fun j j0 => by rw [b38 j j0, lV j j0, t1_86, t0_91]), fun z => by first | (exfalso; omega) | (exact fun j j0 => by rw [b38 j j0, lV j j0]; first | done | rw [Int.add_comm (zv_b h 39 0)]), fun z => by first | (exfalso; omega) | (exact fun j j0 => by rw [b38 j j0, lV j j0, t0_125]), fun z => by first | (exfalso; omega) | (exact fun j j0 => by rw [b38 j j0, lV j j0]), fun z => by first | (exfalso; omega) | (intro zz; exact fun j j0 => by rw [b38 j j0, lV j j0]; rcases cX with y | y; (rw [y.2, t1_155, t0_160]); (exfalso; apply y.1; unfold zk_hc at zz; rw [t1_155, t0_160]; exact zz)), fun z => by first | (exfalso; omega) | (exact ⟨fun j j0 => b38 j j0, fun zz => fun j j0 => by rw [a43 j j0]; rcases cX with y | y; (rw [y.2 j j0, t2_179, t1_184, t0_189]); (exfalso; apply y.1; unfold zk_hc at zz; rw [t2_179, t1_184]; exact zz)⟩), fun z => by first | (exfalso; omega) | (intro zz; exact fun j j0 => by rw [b38 j j0, lV j j0]; rcases cX with y | y; (rw [y.2, t0_205]); (exfalso; apply y.1; rw [t0_205]; exact zz)), fun z => by first | (exfalso; omega) | exact fun j j0 => b38 j j0, fun z => by first | (exfalso; omega) | exact fun j j0 => a43 j j0⟩⟩
  · refine zr_sw (i := .tableswitch 217 12 20 #[51, 70, 101, 121, 134, 147, 172, 197, 134]) (len := 51) (t := 218) (x := op) (k := 2) (pc := 1) rfl c1 rfl rfl rfl rfl ?_
    have b38 : ∀ j, 0 ≤ j → zv_b h 38 j = zv_b h 38 j := fun j hj => rfl
    have a43 : ∀ j, 0 ≤ j → zv_a h 43 j = zv_a h 43 j := fun j hj => rfl
    exact zr_vr (pc := 218) rfl rfl ⟨hI, zb_W.rf, rfl, by dsimp only; exact ⟨fun z => by first | (exfalso; omega) | (exact fun j j0 => by rw [b38 j j0, lV j j0, t1_55, t0_60]; first | done | rw [Int.add_comm (zi32 (zv_b h 39 0))]), fun z => by first | (exfalso; omega) | intro zz; first | (exfalso; omega) | (exact fun j j0 => by rw [b38 j j0, lV j j0, t1_86, t0_91]), fun z => by first | (exfalso; omega) | (exact fun j j0 => by rw [b38 j j0, lV j j0]; first | done | rw [Int.add_comm (zv_b h 39 0)]), fun z => by first | (exfalso; omega) | (exact fun j j0 => by rw [b38 j j0, lV j j0, t0_125]), fun z => by first | (exfalso; omega) | (exact fun j j0 => by rw [b38 j j0, lV j j0]), fun z => by first | (exfalso; omega) | (intro zz; exact fun j j0 => by rw [b38 j j0, lV j j0]; rcases cX with y | y; (rw [y.2, t1_155, t0_160]); (exfalso; apply y.1; unfold zk_hc at zz; rw [t1_155, t0_160]; exact zz)), fun z => by first | (exfalso; omega) | (exact ⟨fun j j0 => b38 j j0, fun zz => fun j j0 => by rw [a43 j j0]; rcases cX with y | y; (rw [y.2 j j0, t2_179, t1_184, t0_189]); (exfalso; apply y.1; unfold zk_hc at zz; rw [t2_179, t1_184]; exact zz)⟩), fun z => by first | (exfalso; omega) | (intro zz; exact fun j j0 => by rw [b38 j j0, lV j j0]; rcases cX with y | y; (rw [y.2, t0_205]); (exfalso; apply y.1; rw [t0_205]; exact zz)), fun z => by first | (exfalso; omega) | exact fun j j0 => b38 j j0, fun z => by first | (exfalso; omega) | exact fun j j0 => a43 j j0⟩⟩
  · refine zr_sw (i := .tableswitch 217 12 20 #[51, 70, 101, 121, 134, 147, 172, 197, 134]) (len := 51) (t := 218) (x := op) (k := 3) (pc := 1) rfl c1 rfl rfl rfl rfl ?_
    have b38 : ∀ j, 0 ≤ j → zv_b h 38 j = zv_b h 38 j := fun j hj => rfl
    have a43 : ∀ j, 0 ≤ j → zv_a h 43 j = zv_a h 43 j := fun j hj => rfl
    exact zr_vr (pc := 218) rfl rfl ⟨hI, zb_W.rf, rfl, by dsimp only; exact ⟨fun z => by first | (exfalso; omega) | (exact fun j j0 => by rw [b38 j j0, lV j j0, t1_55, t0_60]; first | done | rw [Int.add_comm (zi32 (zv_b h 39 0))]), fun z => by first | (exfalso; omega) | intro zz; first | (exfalso; omega) | (exact fun j j0 => by rw [b38 j j0, lV j j0, t1_86, t0_91]), fun z => by first | (exfalso; omega) | (exact fun j j0 => by rw [b38 j j0, lV j j0]; first | done | rw [Int.add_comm (zv_b h 39 0)]), fun z => by first | (exfalso; omega) | (exact fun j j0 => by rw [b38 j j0, lV j j0, t0_125]), fun z => by first | (exfalso; omega) | (exact fun j j0 => by rw [b38 j j0, lV j j0]), fun z => by first | (exfalso; omega) | (intro zz; exact fun j j0 => by rw [b38 j j0, lV j j0]; rcases cX with y | y; (rw [y.2, t1_155, t0_160]); (exfalso; apply y.1; unfold zk_hc at zz; rw [t1_155, t0_160]; exact zz)), fun z => by first | (exfalso; omega) | (exact ⟨fun j j0 => b38 j j0, fun zz => fun j j0 => by rw [a43 j j0]; rcases cX with y | y; (rw [y.2 j j0, t2_179, t1_184, t0_189]); (exfalso; apply y.1; unfold zk_hc at zz; rw [t2_179, t1_184]; exact zz)⟩), fun z => by first | (exfalso; omega) | (intro zz; exact fun j j0 => by rw [b38 j j0, lV j j0]; rcases cX with y | y; (rw [y.2, t0_205]); (exfalso; apply y.1; rw [t0_205]; exact zz)), fun z => by first | (exfalso; omega) | exact fun j j0 => b38 j j0, fun z => by first | (exfalso; omega) | exact fun j j0 => a43 j j0⟩⟩
  · refine zr_sw (i := .tableswitch 217 12 20 #[51, 70, 101, 121, 134, 147, 172, 197, 134]) (len := 51) (t := 218) (x := op) (k := 4) (pc := 1) rfl c1 rfl rfl rfl rfl ?_
    have b38 : ∀ j, 0 ≤ j → zv_b h 38 j = zv_b h 38 j := fun j hj => rfl
    have a43 : ∀ j, 0 ≤ j → zv_a h 43 j = zv_a h 43 j := fun j hj => rfl
    exact zr_vr (pc := 218) rfl rfl ⟨hI, zb_W.rf, rfl, by dsimp only; exact ⟨fun z => by first | (exfalso; omega) | (exact fun j j0 => by rw [b38 j j0, lV j j0, t1_55, t0_60]; first | done | rw [Int.add_comm (zi32 (zv_b h 39 0))]), fun z => by first | (exfalso; omega) | intro zz; first | (exfalso; omega) | (exact fun j j0 => by rw [b38 j j0, lV j j0, t1_86, t0_91]), fun z => by first | (exfalso; omega) | (exact fun j j0 => by rw [b38 j j0, lV j j0]; first | done | rw [Int.add_comm (zv_b h 39 0)]), fun z => by first | (exfalso; omega) | (exact fun j j0 => by rw [b38 j j0, lV j j0, t0_125]), fun z => by first | (exfalso; omega) | (exact fun j j0 => by rw [b38 j j0, lV j j0]), fun z => by first | (exfalso; omega) | (intro zz; exact fun j j0 => by rw [b38 j j0, lV j j0]; rcases cX with y | y; (rw [y.2, t1_155, t0_160]); (exfalso; apply y.1; unfold zk_hc at zz; rw [t1_155, t0_160]; exact zz)), fun z => by first | (exfalso; omega) | (exact ⟨fun j j0 => b38 j j0, fun zz => fun j j0 => by rw [a43 j j0]; rcases cX with y | y; (rw [y.2 j j0, t2_179, t1_184, t0_189]); (exfalso; apply y.1; unfold zk_hc at zz; rw [t2_179, t1_184]; exact zz)⟩), fun z => by first | (exfalso; omega) | (intro zz; exact fun j j0 => by rw [b38 j j0, lV j j0]; rcases cX with y | y; (rw [y.2, t0_205]); (exfalso; apply y.1; rw [t0_205]; exact zz)), fun z => by first | (exfalso; omega) | exact fun j j0 => b38 j j0, fun z => by first | (exfalso; omega) | exact fun j j0 => a43 j j0⟩⟩
  · refine zr_sw (i := .tableswitch 217 12 20 #[51, 70, 101, 121, 134, 147, 172, 197, 134]) (len := 51) (t := 218) (x := op) (k := 5) (pc := 1) rfl c1 rfl rfl rfl rfl ?_
    have b38 : ∀ j, 0 ≤ j → zv_b h 38 j = zv_b h 38 j := fun j hj => rfl
    have a43 : ∀ j, 0 ≤ j → zv_a h 43 j = zv_a h 43 j := fun j hj => rfl
    exact zr_vr (pc := 218) rfl rfl ⟨hI, zb_W.rf, rfl, by dsimp only; exact ⟨fun z => by first | (exfalso; omega) | (exact fun j j0 => by rw [b38 j j0, lV j j0, t1_55, t0_60]; first | done | rw [Int.add_comm (zi32 (zv_b h 39 0))]), fun z => by first | (exfalso; omega) | intro zz; first | (exfalso; omega) | (exact fun j j0 => by rw [b38 j j0, lV j j0, t1_86, t0_91]), fun z => by first | (exfalso; omega) | (exact fun j j0 => by rw [b38 j j0, lV j j0]; first | done | rw [Int.add_comm (zv_b h 39 0)]), fun z => by first | (exfalso; omega) | (exact fun j j0 => by rw [b38 j j0, lV j j0, t0_125]), fun z => by first | (exfalso; omega) | (exact fun j j0 => by rw [b38 j j0, lV j j0]), fun z => by first | (exfalso; omega) | (intro zz; exact fun j j0 => by rw [b38 j j0, lV j j0]; rcases cX with y | y; (rw [y.2, t1_155, t0_160]); (exfalso; apply y.1; unfold zk_hc at zz; rw [t1_155, t0_160]; exact zz)), fun z => by first | (exfalso; omega) | (exact ⟨fun j j0 => b38 j j0, fun zz => fun j j0 => by rw [a43 j j0]; rcases cX with y | y; (rw [y.2 j j0, t2_179, t1_184, t0_189]); (exfalso; apply y.1; unfold zk_hc at zz; rw [t2_179, t1_184]; exact zz)⟩), fun z => by first | (exfalso; omega) | (intro zz; exact fun j j0 => by rw [b38 j j0, lV j j0]; rcases cX with y | y; (rw [y.2, t0_205]); (exfalso; apply y.1; rw [t0_205]; exact zz)), fun z => by first | (exfalso; omega) | exact fun j j0 => b38 j j0, fun z => by first | (exfalso; omega) | exact fun j j0 => a43 j j0⟩⟩
  · refine zr_sw (i := .tableswitch 217 12 20 #[51, 70, 101, 121, 134, 147, 172, 197, 134]) (len := 51) (t := 218) (x := op) (k := 6) (pc := 1) rfl c1 rfl rfl rfl rfl ?_
    have b38 : ∀ j, 0 ≤ j → zv_b h 38 j = zv_b h 38 j := fun j hj => rfl
    have a43 : ∀ j, 0 ≤ j → zv_a h 43 j = zv_a h 43 j := fun j hj => rfl
    exact zr_vr (pc := 218) rfl rfl ⟨hI, zb_W.rf, rfl, by dsimp only; exact ⟨fun z => by first | (exfalso; omega) | (exact fun j j0 => by rw [b38 j j0, lV j j0, t1_55, t0_60]; first | done | rw [Int.add_comm (zi32 (zv_b h 39 0))]), fun z => by first | (exfalso; omega) | intro zz; first | (exfalso; omega) | (exact fun j j0 => by rw [b38 j j0, lV j j0, t1_86, t0_91]), fun z => by first | (exfalso; omega) | (exact fun j j0 => by rw [b38 j j0, lV j j0]; first | done | rw [Int.add_comm (zv_b h 39 0)]), fun z => by first | (exfalso; omega) | (exact fun j j0 => by rw [b38 j j0, lV j j0, t0_125]), fun z => by first | (exfalso; omega) | (exact fun j j0 => by rw [b38 j j0, lV j j0]), fun z => by first | (exfalso; omega) | (intro zz; exact fun j j0 => by rw [b38 j j0, lV j j0]; rcases cX with y | y; (rw [y.2, t1_155, t0_160]); (exfalso; apply y.1; unfold zk_hc at zz; rw [t1_155, t0_160]; exact zz)), fun z => by first | (exfalso; omega) | (exact ⟨fun j j0 => b38 j j0, fun zz => fun j j0 => by rw [a43 j j0]; rcases cX with y | y; (rw [y.2 j j0, t2_179, t1_184, t0_189]); (exfalso; apply y.1; unfold zk_hc at zz; rw [t2_179, t1_184]; exact zz)⟩), fun z => by first | (exfalso; omega) | (intro zz; exact fun j j0 => by rw [b38 j j0, lV j j0]; rcases cX with y | y; (rw [y.2, t0_205]); (exfalso; apply y.1; rw [t0_205]; exact zz)), fun z => by first | (exfalso; omega) | exact fun j j0 => b38 j j0, fun z => by first | (exfalso; omega) | exact fun j j0 => a43 j j0⟩⟩
  · refine zr_sw (i := .tableswitch 217 12 20 #[51, 70, 101, 121, 134, 147, 172, 197, 134]) (len := 51) (t := 218) (x := op) (k := 7) (pc := 1) rfl c1 rfl rfl rfl rfl ?_
    have b38 : ∀ j, 0 ≤ j → zv_b h 38 j = zv_b h 38 j := fun j hj => rfl
    have a43 : ∀ j, 0 ≤ j → zv_a h 43 j = zv_a h 43 j := fun j hj => rfl
    exact zr_vr (pc := 218) rfl rfl ⟨hI, zb_W.rf, rfl, by dsimp only; exact ⟨fun z => by first | (exfalso; omega) | (exact fun j j0 => by rw [b38 j j0, lV j j0, t1_55, t0_60]; first | done | rw [Int.add_comm (zi32 (zv_b h 39 0))]), fun z => by first | (exfalso; omega) | intro zz; first | (exfalso; omega) | (exact fun j j0 => by rw [b38 j j0, lV j j0, t1_86, t0_91]), fun z => by first | (exfalso; omega) | (exact fun j j0 => by rw [b38 j j0, lV j j0]; first | done | rw [Int.add_comm (zv_b h 39 0)]), fun z => by first | (exfalso; omega) | (exact fun j j0 => by rw [b38 j j0, lV j j0, t0_125]), fun z => by first | (exfalso; omega) | (exact fun j j0 => by rw [b38 j j0, lV j j0]), fun z => by first | (exfalso; omega) | (intro zz; exact fun j j0 => by rw [b38 j j0, lV j j0]; rcases cX with y | y; (rw [y.2, t1_155, t0_160]); (exfalso; apply y.1; unfold zk_hc at zz; rw [t1_155, t0_160]; exact zz)), fun z => by first | (exfalso; omega) | (exact ⟨fun j j0 => b38 j j0, fun zz => fun j j0 => by rw [a43 j j0]; rcases cX with y | y; (rw [y.2 j j0, t2_179, t1_184, t0_189]); (exfalso; apply y.1; unfold zk_hc at zz; rw [t2_179, t1_184]; exact zz)⟩), fun z => by first | (exfalso; omega) | (intro zz; exact fun j j0 => by rw [b38 j j0, lV j j0]; rcases cX with y | y; (rw [y.2, t0_205]); (exfalso; apply y.1; rw [t0_205]; exact zz)), fun z => by first | (exfalso; omega) | exact fun j j0 => b38 j j0, fun z => by first | (exfalso; omega) | exact fun j j0 => a43 j j0⟩⟩
  · refine zr_sw (i := .tableswitch 217 12 20 #[51, 70, 101, 121, 134, 147, 172, 197, 134]) (len := 51) (t := 218) (x := op) (k := 8) (pc := 1) rfl c1 rfl rfl rfl rfl ?_
    have b38 : ∀ j, 0 ≤ j → zv_b h 38 j = zv_b h 38 j := fun j hj => rfl
    have a43 : ∀ j, 0 ≤ j → zv_a h 43 j = zv_a h 43 j := fun j hj => rfl
    exact zr_vr (pc := 218) rfl rfl ⟨hI, zb_W.rf, rfl, by dsimp only; exact ⟨fun z => by first | (exfalso; omega) | (exact fun j j0 => by rw [b38 j j0, lV j j0, t1_55, t0_60]; first | done | rw [Int.add_comm (zi32 (zv_b h 39 0))]), fun z => by first | (exfalso; omega) | intro zz; first | (exfalso; omega) | (exact fun j j0 => by rw [b38 j j0, lV j j0, t1_86, t0_91]), fun z => by first | (exfalso; omega) | (exact fun j j0 => by rw [b38 j j0, lV j j0]; first | done | rw [Int.add_comm (zv_b h 39 0)]), fun z => by first | (exfalso; omega) | (exact fun j j0 => by rw [b38 j j0, lV j j0, t0_125]), fun z => by first | (exfalso; omega) | (exact fun j j0 => by rw [b38 j j0, lV j j0]), fun z => by first | (exfalso; omega) | (intro zz; exact fun j j0 => by rw [b38 j j0, lV j j0]; rcases cX with y | y; (rw [y.2, t1_155, t0_160]); (exfalso; apply y.1; unfold zk_hc at zz; rw [t1_155, t0_160]; exact zz)), fun z => by first | (exfalso; omega) | (exact ⟨fun j j0 => b38 j j0, fun zz => fun j j0 => by rw [a43 j j0]; rcases cX with y | y; (rw [y.2 j j0, t2_179, t1_184, t0_189]); (exfalso; apply y.1; unfold zk_hc at zz; rw [t2_179, t1_184]; exact zz)⟩), fun z => by first | (exfalso; omega) | (intro zz; exact fun j j0 => by rw [b38 j j0, lV j j0]; rcases cX with y | y; (rw [y.2, t0_205]); (exfalso; apply y.1; rw [t0_205]; exact zz)), fun z => by first | (exfalso; omega) | exact fun j j0 => b38 j j0, fun z => by first | (exfalso; omega) | exact fun j j0 => a43 j j0⟩⟩
  · refine zr_sw (i := .tableswitch 217 12 20 #[51, 70, 101, 121, 134, 147, 172, 197, 134]) (len := 51) (t := 218) (x := op) (k := 9) (pc := 1) rfl c1 rfl rfl rfl rfl ?_
    have b38 : ∀ j, 0 ≤ j → zv_b h 38 j = zv_b h 38 j := fun j hj => rfl
    have a43 : ∀ j, 0 ≤ j → zv_a h 43 j = zv_a h 43 j := fun j hj => rfl
    exact zr_vr (pc := 218) rfl rfl ⟨hI, zb_W.rf, rfl, by dsimp only; exact ⟨fun z => by first | (exfalso; omega) | (exact fun j j0 => by rw [b38 j j0, lV j j0, t1_55, t0_60]; first | done | rw [Int.add_comm (zi32 (zv_b h 39 0))]), fun z => by first | (exfalso; omega) | intro zz; first | (exfalso; omega) | (exact fun j j0 => by rw [b38 j j0, lV j j0, t1_86, t0_91]), fun z => by first | (exfalso; omega) | (exact fun j j0 => by rw [b38 j j0, lV j j0]; first | done | rw [Int.add_comm (zv_b h 39 0)]), fun z => by first | (exfalso; omega) | (exact fun j j0 => by rw [b38 j j0, lV j j0, t0_125]), fun z => by first | (exfalso; omega) | (exact fun j j0 => by rw [b38 j j0, lV j j0]), fun z => by first | (exfalso; omega) | (intro zz; exact fun j j0 => by rw [b38 j j0, lV j j0]; rcases cX with y | y; (rw [y.2, t1_155, t0_160]); (exfalso; apply y.1; unfold zk_hc at zz; rw [t1_155, t0_160]; exact zz)), fun z => by first | (exfalso; omega) | (exact ⟨fun j j0 => b38 j j0, fun zz => fun j j0 => by rw [a43 j j0]; rcases cX with y | y; (rw [y.2 j j0, t2_179, t1_184, t0_189]); (exfalso; apply y.1; unfold zk_hc at zz; rw [t2_179, t1_184]; exact zz)⟩), fun z => by first | (exfalso; omega) | (intro zz; exact fun j j0 => by rw [b38 j j0, lV j j0]; rcases cX with y | y; (rw [y.2, t0_205]); (exfalso; apply y.1; rw [t0_205]; exact zz)), fun z => by first | (exfalso; omega) | exact fun j j0 => b38 j j0, fun z => by first | (exfalso; omega) | exact fun j j0 => a43 j j0⟩⟩
  · refine zr_sw (i := .tableswitch 217 12 20 #[51, 70, 101, 121, 134, 147, 172, 197, 134]) (len := 51) (t := 218) (x := op) (k := 10) (pc := 1) rfl c1 rfl rfl rfl rfl ?_
    have b38 : ∀ j, 0 ≤ j → zv_b h 38 j = zv_b h 38 j := fun j hj => rfl
    have a43 : ∀ j, 0 ≤ j → zv_a h 43 j = zv_a h 43 j := fun j hj => rfl
    exact zr_vr (pc := 218) rfl rfl ⟨hI, zb_W.rf, rfl, by dsimp only; exact ⟨fun z => by first | (exfalso; omega) | (exact fun j j0 => by rw [b38 j j0, lV j j0, t1_55, t0_60]; first | done | rw [Int.add_comm (zi32 (zv_b h 39 0))]), fun z => by first | (exfalso; omega) | intro zz; first | (exfalso; omega) | (exact fun j j0 => by rw [b38 j j0, lV j j0, t1_86, t0_91]), fun z => by first | (exfalso; omega) | (exact fun j j0 => by rw [b38 j j0, lV j j0]; first | done | rw [Int.add_comm (zv_b h 39 0)]), fun z => by first | (exfalso; omega) | (exact fun j j0 => by rw [b38 j j0, lV j j0, t0_125]), fun z => by first | (exfalso; omega) | (exact fun j j0 => by rw [b38 j j0, lV j j0]), fun z => by first | (exfalso; omega) | (intro zz; exact fun j j0 => by rw [b38 j j0, lV j j0]; rcases cX with y | y; (rw [y.2, t1_155, t0_160]); (exfalso; apply y.1; unfold zk_hc at zz; rw [t1_155, t0_160]; exact zz)), fun z => by first | (exfalso; omega) | (exact ⟨fun j j0 => b38 j j0, fun zz => fun j j0 => by rw [a43 j j0]; rcases cX with y | y; (rw [y.2 j j0, t2_179, t1_184, t0_189]); (exfalso; apply y.1; unfold zk_hc at zz; rw [t2_179, t1_184]; exact zz)⟩), fun z => by first | (exfalso; omega) | (intro zz; exact fun j j0 => by rw [b38 j j0, lV j j0]; rcases cX with y | y; (rw [y.2, t0_205]); (exfalso; apply y.1; rw [t0_205]; exact zz)), fun z => by first | (exfalso; omega) | exact fun j j0 => b38 j j0, fun z => by first | (exfalso; omega) | exact fun j j0 => a43 j j0⟩⟩
  · refine zr_sw (i := .tableswitch 217 12 20 #[51, 70, 101, 121, 134, 147, 172, 197, 134]) (len := 51) (t := 218) (x := op) (k := 11) (pc := 1) rfl c1 rfl rfl rfl rfl ?_
    have b38 : ∀ j, 0 ≤ j → zv_b h 38 j = zv_b h 38 j := fun j hj => rfl
    have a43 : ∀ j, 0 ≤ j → zv_a h 43 j = zv_a h 43 j := fun j hj => rfl
    exact zr_vr (pc := 218) rfl rfl ⟨hI, zb_W.rf, rfl, by dsimp only; exact ⟨fun z => by first | (exfalso; omega) | (exact fun j j0 => by rw [b38 j j0, lV j j0, t1_55, t0_60]; first | done | rw [Int.add_comm (zi32 (zv_b h 39 0))]), fun z => by first | (exfalso; omega) | intro zz; first | (exfalso; omega) | (exact fun j j0 => by rw [b38 j j0, lV j j0, t1_86, t0_91]), fun z => by first | (exfalso; omega) | (exact fun j j0 => by rw [b38 j j0, lV j j0]; first | done | rw [Int.add_comm (zv_b h 39 0)]), fun z => by first | (exfalso; omega) | (exact fun j j0 => by rw [b38 j j0, lV j j0, t0_125]), fun z => by first | (exfalso; omega) | (exact fun j j0 => by rw [b38 j j0, lV j j0]), fun z => by first | (exfalso; omega) | (intro zz; exact fun j j0 => by rw [b38 j j0, lV j j0]; rcases cX with y | y; (rw [y.2, t1_155, t0_160]); (exfalso; apply y.1; unfold zk_hc at zz; rw [t1_155, t0_160]; exact zz)), fun z => by first | (exfalso; omega) | (exact ⟨fun j j0 => b38 j j0, fun zz => fun j j0 => by rw [a43 j j0]; rcases cX with y | y; (rw [y.2 j j0, t2_179, t1_184, t0_189]); (exfalso; apply y.1; unfold zk_hc at zz; rw [t2_179, t1_184]; exact zz)⟩), fun z => by first | (exfalso; omega) | (intro zz; exact fun j j0 => by rw [b38 j j0, lV j j0]; rcases cX with y | y; (rw [y.2, t0_205]); (exfalso; apply y.1; rw [t0_205]; exact zz)), fun z => by first | (exfalso; omega) | exact fun j j0 => b38 j j0, fun z => by first | (exfalso; omega) | exact fun j j0 => a43 j j0⟩⟩
  · refine zr_sw (i := .tableswitch 217 12 20 #[51, 70, 101, 121, 134, 147, 172, 197, 134]) (len := 51) (t := 218) (x := op) (k := 21) (pc := 1) rfl c1 rfl rfl rfl rfl ?_
    have b38 : ∀ j, 0 ≤ j → zv_b h 38 j = zv_b h 38 j := fun j hj => rfl
    have a43 : ∀ j, 0 ≤ j → zv_a h 43 j = zv_a h 43 j := fun j hj => rfl
    exact zr_vr (pc := 218) rfl rfl ⟨hI, zb_W.rf, rfl, by dsimp only; exact ⟨fun z => by first | (exfalso; omega) | (exact fun j j0 => by rw [b38 j j0, lV j j0, t1_55, t0_60]; first | done | rw [Int.add_comm (zi32 (zv_b h 39 0))]), fun z => by first | (exfalso; omega) | intro zz; first | (exfalso; omega) | (exact fun j j0 => by rw [b38 j j0, lV j j0, t1_86, t0_91]), fun z => by first | (exfalso; omega) | (exact fun j j0 => by rw [b38 j j0, lV j j0]; first | done | rw [Int.add_comm (zv_b h 39 0)]), fun z => by first | (exfalso; omega) | (exact fun j j0 => by rw [b38 j j0, lV j j0, t0_125]), fun z => by first | (exfalso; omega) | (exact fun j j0 => by rw [b38 j j0, lV j j0]), fun z => by first | (exfalso; omega) | (intro zz; exact fun j j0 => by rw [b38 j j0, lV j j0]; rcases cX with y | y; (rw [y.2, t1_155, t0_160]); (exfalso; apply y.1; unfold zk_hc at zz; rw [t1_155, t0_160]; exact zz)), fun z => by first | (exfalso; omega) | (exact ⟨fun j j0 => b38 j j0, fun zz => fun j j0 => by rw [a43 j j0]; rcases cX with y | y; (rw [y.2 j j0, t2_179, t1_184, t0_189]); (exfalso; apply y.1; unfold zk_hc at zz; rw [t2_179, t1_184]; exact zz)⟩), fun z => by first | (exfalso; omega) | (intro zz; exact fun j j0 => by rw [b38 j j0, lV j j0]; rcases cX with y | y; (rw [y.2, t0_205]); (exfalso; apply y.1; rw [t0_205]; exact zz)), fun z => by first | (exfalso; omega) | exact fun j j0 => b38 j j0, fun z => by first | (exfalso; omega) | exact fun j j0 => a43 j j0⟩⟩
  · refine zr_sw (i := .tableswitch 217 12 20 #[51, 70, 101, 121, 134, 147, 172, 197, 134]) (len := 51) (t := 218) (x := op) (k := 22) (pc := 1) rfl c1 rfl rfl rfl rfl ?_
    have b38 : ∀ j, 0 ≤ j → zv_b h 38 j = zv_b h 38 j := fun j hj => rfl
    have a43 : ∀ j, 0 ≤ j → zv_a h 43 j = zv_a h 43 j := fun j hj => rfl
    exact zr_vr (pc := 218) rfl rfl ⟨hI, zb_W.rf, rfl, by dsimp only; exact ⟨fun z => by first | (exfalso; omega) | (exact fun j j0 => by rw [b38 j j0, lV j j0, t1_55, t0_60]; first | done | rw [Int.add_comm (zi32 (zv_b h 39 0))]), fun z => by first | (exfalso; omega) | intro zz; first | (exfalso; omega) | (exact fun j j0 => by rw [b38 j j0, lV j j0, t1_86, t0_91]), fun z => by first | (exfalso; omega) | (exact fun j j0 => by rw [b38 j j0, lV j j0]; first | done | rw [Int.add_comm (zv_b h 39 0)]), fun z => by first | (exfalso; omega) | (exact fun j j0 => by rw [b38 j j0, lV j j0, t0_125]), fun z => by first | (exfalso; omega) | (exact fun j j0 => by rw [b38 j j0, lV j j0]), fun z => by first | (exfalso; omega) | (intro zz; exact fun j j0 => by rw [b38 j j0, lV j j0]; rcases cX with y | y; (rw [y.2, t1_155, t0_160]); (exfalso; apply y.1; unfold zk_hc at zz; rw [t1_155, t0_160]; exact zz)), fun z => by first | (exfalso; omega) | (exact ⟨fun j j0 => b38 j j0, fun zz => fun j j0 => by rw [a43 j j0]; rcases cX with y | y; (rw [y.2 j j0, t2_179, t1_184, t0_189]); (exfalso; apply y.1; unfold zk_hc at zz; rw [t2_179, t1_184]; exact zz)⟩), fun z => by first | (exfalso; omega) | (intro zz; exact fun j j0 => by rw [b38 j j0, lV j j0]; rcases cX with y | y; (rw [y.2, t0_205]); (exfalso; apply y.1; rw [t0_205]; exact zz)), fun z => by first | (exfalso; omega) | exact fun j j0 => b38 j j0, fun z => by first | (exfalso; omega) | exact fun j j0 => a43 j j0⟩⟩
  · refine zr_sw (i := .tableswitch 217 12 20 #[51, 70, 101, 121, 134, 147, 172, 197, 134]) (len := 51) (t := 218) (x := op) (k := 23) (pc := 1) rfl c1 rfl rfl rfl rfl ?_
    have b38 : ∀ j, 0 ≤ j → zv_b h 38 j = zv_b h 38 j := fun j hj => rfl
    have a43 : ∀ j, 0 ≤ j → zv_a h 43 j = zv_a h 43 j := fun j hj => rfl
    exact zr_vr (pc := 218) rfl rfl ⟨hI, zb_W.rf, rfl, by dsimp only; exact ⟨fun z => by first | (exfalso; omega) | (exact fun j j0 => by rw [b38 j j0, lV j j0, t1_55, t0_60]; first | done | rw [Int.add_comm (zi32 (zv_b h 39 0))]), fun z => by first | (exfalso; omega) | intro zz; first | (exfalso; omega) | (exact fun j j0 => by rw [b38 j j0, lV j j0, t1_86, t0_91]), fun z => by first | (exfalso; omega) | (exact fun j j0 => by rw [b38 j j0, lV j j0]; first | done | rw [Int.add_comm (zv_b h 39 0)]), fun z => by first | (exfalso; omega) | (exact fun j j0 => by rw [b38 j j0, lV j j0, t0_125]), fun z => by first | (exfalso; omega) | (exact fun j j0 => by rw [b38 j j0, lV j j0]), fun z => by first | (exfalso; omega) | (intro zz; exact fun j j0 => by rw [b38 j j0, lV j j0]; rcases cX with y | y; (rw [y.2, t1_155, t0_160]); (exfalso; apply y.1; unfold zk_hc at zz; rw [t1_155, t0_160]; exact zz)), fun z => by first | (exfalso; omega) | (exact ⟨fun j j0 => b38 j j0, fun zz => fun j j0 => by rw [a43 j j0]; rcases cX with y | y; (rw [y.2 j j0, t2_179, t1_184, t0_189]); (exfalso; apply y.1; unfold zk_hc at zz; rw [t2_179, t1_184]; exact zz)⟩), fun z => by first | (exfalso; omega) | (intro zz; exact fun j j0 => by rw [b38 j j0, lV j j0]; rcases cX with y | y; (rw [y.2, t0_205]); (exfalso; apply y.1; rw [t0_205]; exact zz)), fun z => by first | (exfalso; omega) | exact fun j j0 => b38 j j0, fun z => by first | (exfalso; omega) | exact fun j j0 => a43 j j0⟩⟩
  · refine zr_sw (i := .tableswitch 217 12 20 #[51, 70, 101, 121, 134, 147, 172, 197, 134]) (len := 51) (t := 218) (x := op) (k := 24) (pc := 1) rfl c1 rfl rfl rfl rfl ?_
    have b38 : ∀ j, 0 ≤ j → zv_b h 38 j = zv_b h 38 j := fun j hj => rfl
    have a43 : ∀ j, 0 ≤ j → zv_a h 43 j = zv_a h 43 j := fun j hj => rfl
    exact zr_vr (pc := 218) rfl rfl ⟨hI, zb_W.rf, rfl, by dsimp only; exact ⟨fun z => by first | (exfalso; omega) | (exact fun j j0 => by rw [b38 j j0, lV j j0, t1_55, t0_60]; first | done | rw [Int.add_comm (zi32 (zv_b h 39 0))]), fun z => by first | (exfalso; omega) | intro zz; first | (exfalso; omega) | (exact fun j j0 => by rw [b38 j j0, lV j j0, t1_86, t0_91]), fun z => by first | (exfalso; omega) | (exact fun j j0 => by rw [b38 j j0, lV j j0]; first | done | rw [Int.add_comm (zv_b h 39 0)]), fun z => by first | (exfalso; omega) | (exact fun j j0 => by rw [b38 j j0, lV j j0, t0_125]), fun z => by first | (exfalso; omega) | (exact fun j j0 => by rw [b38 j j0, lV j j0]), fun z => by first | (exfalso; omega) | (intro zz; exact fun j j0 => by rw [b38 j j0, lV j j0]; rcases cX with y | y; (rw [y.2, t1_155, t0_160]); (exfalso; apply y.1; unfold zk_hc at zz; rw [t1_155, t0_160]; exact zz)), fun z => by first | (exfalso; omega) | (exact ⟨fun j j0 => b38 j j0, fun zz => fun j j0 => by rw [a43 j j0]; rcases cX with y | y; (rw [y.2 j j0, t2_179, t1_184, t0_189]); (exfalso; apply y.1; unfold zk_hc at zz; rw [t2_179, t1_184]; exact zz)⟩), fun z => by first | (exfalso; omega) | (intro zz; exact fun j j0 => by rw [b38 j j0, lV j j0]; rcases cX with y | y; (rw [y.2, t0_205]); (exfalso; apply y.1; rw [t0_205]; exact zz)), fun z => by first | (exfalso; omega) | exact fun j j0 => b38 j j0, fun z => by first | (exfalso; omega) | exact fun j j0 => a43 j j0⟩⟩
  · refine zr_sw (i := .tableswitch 217 12 20 #[51, 70, 101, 121, 134, 147, 172, 197, 134]) (len := 51) (t := 218) (x := op) (k := 25) (pc := 1) rfl c1 rfl rfl rfl rfl ?_
    have b38 : ∀ j, 0 ≤ j → zv_b h 38 j = zv_b h 38 j := fun j hj => rfl
    have a43 : ∀ j, 0 ≤ j → zv_a h 43 j = zv_a h 43 j := fun j hj => rfl
    exact zr_vr (pc := 218) rfl rfl ⟨hI, zb_W.rf, rfl, by dsimp only; exact ⟨fun z => by first | (exfalso; omega) | (exact fun j j0 => by rw [b38 j j0, lV j j0, t1_55, t0_60]; first | done | rw [Int.add_comm (zi32 (zv_b h 39 0))]), fun z => by first | (exfalso; omega) | intro zz; first | (exfalso; omega) | (exact fun j j0 => by rw [b38 j j0, lV j j0, t1_86, t0_91]), fun z => by first | (exfalso; omega) | (exact fun j j0 => by rw [b38 j j0, lV j j0]; first | done | rw [Int.add_comm (zv_b h 39 0)]), fun z => by first | (exfalso; omega) | (exact fun j j0 => by rw [b38 j j0, lV j j0, t0_125]), fun z => by first | (exfalso; omega) | (exact fun j j0 => by rw [b38 j j0, lV j j0]), fun z => by first | (exfalso; omega) | (intro zz; exact fun j j0 => by rw [b38 j j0, lV j j0]; rcases cX with y | y; (rw [y.2, t1_155, t0_160]); (exfalso; apply y.1; unfold zk_hc at zz; rw [t1_155, t0_160]; exact zz)), fun z => by first | (exfalso; omega) | (exact ⟨fun j j0 => b38 j j0, fun zz => fun j j0 => by rw [a43 j j0]; rcases cX with y | y; (rw [y.2 j j0, t2_179, t1_184, t0_189]); (exfalso; apply y.1; unfold zk_hc at zz; rw [t2_179, t1_184]; exact zz)⟩), fun z => by first | (exfalso; omega) | (intro zz; exact fun j j0 => by rw [b38 j j0, lV j j0]; rcases cX with y | y; (rw [y.2, t0_205]); (exfalso; apply y.1; rw [t0_205]; exact zz)), fun z => by first | (exfalso; omega) | exact fun j j0 => b38 j j0, fun z => by first | (exfalso; omega) | exact fun j j0 => a43 j j0⟩⟩
  · refine zr_sw (i := .tableswitch 217 12 20 #[51, 70, 101, 121, 134, 147, 172, 197, 134]) (len := 51) (t := 218) (x := op) (k := 26) (pc := 1) rfl c1 rfl rfl rfl rfl ?_
    have b38 : ∀ j, 0 ≤ j → zv_b h 38 j = zv_b h 38 j := fun j hj => rfl
    have a43 : ∀ j, 0 ≤ j → zv_a h 43 j = zv_a h 43 j := fun j hj => rfl
    exact zr_vr (pc := 218) rfl rfl ⟨hI, zb_W.rf, rfl, by dsimp only; exact ⟨fun z => by first | (exfalso; omega) | (exact fun j j0 => by rw [b38 j j0, lV j j0, t1_55, t0_60]; first | done | rw [Int.add_comm (zi32 (zv_b h 39 0))]), fun z => by first | (exfalso; omega) | intro zz; first | (exfalso; omega) | (exact fun j j0 => by rw [b38 j j0, lV j j0, t1_86, t0_91]), fun z => by first | (exfalso; omega) | (exact fun j j0 => by rw [b38 j j0, lV j j0]; first | done | rw [Int.add_comm (zv_b h 39 0)]), fun z => by first | (exfalso; omega) | (exact fun j j0 => by rw [b38 j j0, lV j j0, t0_125]), fun z => by first | (exfalso; omega) | (exact fun j j0 => by rw [b38 j j0, lV j j0]), fun z => by first | (exfalso; omega) | (intro zz; exact fun j j0 => by rw [b38 j j0, lV j j0]; rcases cX with y | y; (rw [y.2, t1_155, t0_160]); (exfalso; apply y.1; unfold zk_hc at zz; rw [t1_155, t0_160]; exact zz)), fun z => by first | (exfalso; omega) | (exact ⟨fun j j0 => b38 j j0, fun zz => fun j j0 => by rw [a43 j j0]; rcases cX with y | y; (rw [y.2 j j0, t2_179, t1_184, t0_189]); (exfalso; apply y.1; unfold zk_hc at zz; rw [t2_179, t1_184]; exact zz)⟩), fun z => by first | (exfalso; omega) | (intro zz; exact fun j j0 => by rw [b38 j j0, lV j j0]; rcases cX with y | y; (rw [y.2, t0_205]); (exfalso; apply y.1; rw [t0_205]; exact zz)), fun z => by first | (exfalso; omega) | exact fun j j0 => b38 j j0, fun z => by first | (exfalso; omega) | exact fun j j0 => a43 j j0⟩⟩
  · refine zr_sw (i := .tableswitch 217 12 20 #[51, 70, 101, 121, 134, 147, 172, 197, 134]) (len := 51) (t := 218) (x := op) (k := 27) (pc := 1) rfl c1 rfl rfl rfl rfl ?_
    have b38 : ∀ j, 0 ≤ j → zv_b h 38 j = zv_b h 38 j := fun j hj => rfl
    have a43 : ∀ j, 0 ≤ j → zv_a h 43 j = zv_a h 43 j := fun j hj => rfl
    exact zr_vr (pc := 218) rfl rfl ⟨hI, zb_W.rf, rfl, by dsimp only; exact ⟨fun z => by first | (exfalso; omega) | (exact fun j j0 => by rw [b38 j j0, lV j j0, t1_55, t0_60]; first | done | rw [Int.add_comm (zi32 (zv_b h 39 0))]), fun z => by first | (exfalso; omega) | intro zz; first | (exfalso; omega) | (exact fun j j0 => by rw [b38 j j0, lV j j0, t1_86, t0_91]), fun z => by first | (exfalso; omega) | (exact fun j j0 => by rw [b38 j j0, lV j j0]; first | done | rw [Int.add_comm (zv_b h 39 0)]), fun z => by first | (exfalso; omega) | (exact fun j j0 => by rw [b38 j j0, lV j j0, t0_125]), fun z => by first | (exfalso; omega) | (exact fun j j0 => by rw [b38 j j0, lV j j0]), fun z => by first | (exfalso; omega) | (intro zz; exact fun j j0 => by rw [b38 j j0, lV j j0]; rcases cX with y | y; (rw [y.2, t1_155, t0_160]); (exfalso; apply y.1; unfold zk_hc at zz; rw [t1_155, t0_160]; exact zz)), fun z => by first | (exfalso; omega) | (exact ⟨fun j j0 => b38 j j0, fun zz => fun j j0 => by rw [a43 j j0]; rcases cX with y | y; (rw [y.2 j j0, t2_179, t1_184, t0_189]); (exfalso; apply y.1; unfold zk_hc at zz; rw [t2_179, t1_184]; exact zz)⟩), fun z => by first | (exfalso; omega) | (intro zz; exact fun j j0 => by rw [b38 j j0, lV j j0]; rcases cX with y | y; (rw [y.2, t0_205]); (exfalso; apply y.1; rw [t0_205]; exact zz)), fun z => by first | (exfalso; omega) | exact fun j j0 => b38 j j0, fun z => by first | (exfalso; omega) | exact fun j j0 => a43 j j0⟩⟩
  · refine zr_sw (i := .tableswitch 217 12 20 #[51, 70, 101, 121, 134, 147, 172, 197, 134]) (len := 51) (t := 218) (x := op) (k := 28) (pc := 1) rfl c1 rfl rfl rfl rfl ?_
    have b38 : ∀ j, 0 ≤ j → zv_b h 38 j = zv_b h 38 j := fun j hj => rfl
    have a43 : ∀ j, 0 ≤ j → zv_a h 43 j = zv_a h 43 j := fun j hj => rfl
    exact zr_vr (pc := 218) rfl rfl ⟨hI, zb_W.rf, rfl, by dsimp only; exact ⟨fun z => by first | (exfalso; omega) | (exact fun j j0 => by rw [b38 j j0, lV j j0, t1_55, t0_60]; first | done | rw [Int.add_comm (zi32 (zv_b h 39 0))]), fun z => by first | (exfalso; omega) | intro zz; first | (exfalso; omega) | (exact fun j j0 => by rw [b38 j j0, lV j j0, t1_86, t0_91]), fun z => by first | (exfalso; omega) | (exact fun j j0 => by rw [b38 j j0, lV j j0]; first | done | rw [Int.add_comm (zv_b h 39 0)]), fun z => by first | (exfalso; omega) | (exact fun j j0 => by rw [b38 j j0, lV j j0, t0_125]), fun z => by first | (exfalso; omega) | (exact fun j j0 => by rw [b38 j j0, lV j j0]), fun z => by first | (exfalso; omega) | (intro zz; exact fun j j0 => by rw [b38 j j0, lV j j0]; rcases cX with y | y; (rw [y.2, t1_155, t0_160]); (exfalso; apply y.1; unfold zk_hc at zz; rw [t1_155, t0_160]; exact zz)), fun z => by first | (exfalso; omega) | (exact ⟨fun j j0 => b38 j j0, fun zz => fun j j0 => by rw [a43 j j0]; rcases cX with y | y; (rw [y.2 j j0, t2_179, t1_184, t0_189]); (exfalso; apply y.1; unfold zk_hc at zz; rw [t2_179, t1_184]; exact zz)⟩), fun z => by first | (exfalso; omega) | (intro zz; exact fun j j0 => by rw [b38 j j0, lV j j0]; rcases cX with y | y; (rw [y.2, t0_205]); (exfalso; apply y.1; rw [t0_205]; exact zz)), fun z => by first | (exfalso; omega) | exact fun j j0 => b38 j j0, fun z => by first | (exfalso; omega) | exact fun j j0 => a43 j j0⟩⟩

set_option maxRecDepth 100000 in
set_option maxHeartbeats 4000000 in
theorem zm_mWork {h : zx_H} (hI : zb_I zc_H h) {op : Int} {a : Int} (op1 : 0 ≤ op) (op2 : op ≤ 28) (a1 : -2147483648 ≤ a) (a2 : a ≤ 2147483647) (pl : (0 ≤ zv_f h 34 9 ∧ zv_f h 34 9 < zv_f h 1 3)) (la : (op = 8 ∨ op = 9 ∨ op = 28) → 0 ≤ a ∧ a ≤ 7) (ca : op = 21 → 1 ≤ zv_f h 36 1) : zx_T zp_P 4 zp_m66 0 [(0, .ref 34), (1, .int (zI (op))), (2, .int (zI (a)))] [] h (zr_V [(38, 0), (42, 0), (43, 0), (41, 2), (37, 0)] h (fun h' => zk_wk op a (zv_a h 4 (zv_f h 34 9)) (zv_f h 36 1) (zv_f h 41 2) (zv_b h 39) (zv_b h 38) (zv_a h 42) (zv_a h 43) (zv_f h' 41 2) (zv_b h' 38) (zv_a h' 42) (zv_a h' 43) ∧ (¬ op = 21 → zk_sm (zv_a h 37) (zv_a h' 37)) ∧ (op = 21 → 1 ≤ zv_f h 36 1 → zk_lc (zv_f h 36 1 + 7) (zv_a h 37) (zv_a h' 37) (zv_a h 40 0)))) := by
  have hS := zw_ri hI (a := 36) (k := 1) rfl
  have hN9 := zw_ri hI (a := 41) (k := 2) rfl
  have hC := zw_ri hI (a := 1) (k := 3) rfl
  refine zx_T.l (i := .iload_n 1) (k := 1) (v := .int (zI (op))) (pc := 0) rfl rfl rfl ?_
  have c1 : op = 0 ∨ op = 1 ∨ op = 2 ∨ op = 3 ∨ op = 4 ∨ op = 5 ∨ op = 6 ∨ op = 7 ∨ op = 8 ∨ op = 9 ∨ op = 10 ∨ op = 11 ∨ op = 12 ∨ op = 13 ∨ op = 14 ∨ op = 15 ∨ op = 16 ∨ op = 17 ∨ op = 18 ∨ op = 19 ∨ op = 20 ∨ op = 21 ∨ op = 22 ∨ op = 23 ∨ op = 24 ∨ op = 25 ∨ op = 26 ∨ op = 27 ∨ op = 28 := by omega
  rcases c1 with c1 | c1 | c1 | c1 | c1 | c1 | c1 | c1 | c1 | c1 | c1 | c1 | c1 | c1 | c1 | c1 | c1 | c1 | c1 | c1 | c1 | c1 | c1 | c1 | c1 | c1 | c1 | c1 | c1
  · refine zr_sw (i := .tableswitch 245 1 28 #[127, 127, 136, 136, 136, 127, 144, 164, 176, 245, 245, 245, 245, 245, 245, 245, 245, 245, 245, 245, 190, 245, 245, 245, 245, 245, 245, 218]) (len := 127) (t := 246) (x := op) (k := 0) (pc := 1) rfl c1 rfl rfl rfl rfl ?_
    refine zx_T.l (i := .aload_n 0) (k := 1) (v := .ref 34) (pc := 246) rfl rfl rfl ?_
    refine zx_T.l (i := .iload_n 1) (k := 1) (v := .int (zI (op))) (pc := 247) rfl rfl rfl ?_
    refine zw_iv (b := 34) (cj := 67) (q' := zp_m67) (As := [.int (zI (op))]) (rest := []) (pc := 248) rfl rfl rfl rfl rfl rfl rfl (Nat.le_of_ble_eq_true rfl) rfl (Nat.le_of_ble_eq_true rfl) hI ((zm_mReckon (h := h) hI (op := op) (by omega) (by omega)).up (Nat.le_of_ble_eq_true rfl)) ?_
    rintro r2 h5 ⟨ih5, w6, r2q, x4⟩
    subst r2q
    try dsimp only at x4
    have rK := x4
    show zx_T zp_P 4 zp_m66 251 [(0, .ref 34), (1, .int (zI (op))), (2, .int (zI (a)))] [] h5 _
    have b38 : ∀ j, 0 ≤ j → zv_b h5 38 j = zv_b h5 38 j := fun j hj => rfl
    have a43 : ∀ j, 0 ≤ j → zv_a h5 43 j = zv_a h5 43 j := fun j hj => rfl
    have a42 : ∀ j, 0 ≤ j → zv_a h5 42 j = zv_a h 42 j := fun j hj => by rw [zv_wa w6 rfl j]
    have a37 : ∀ j, 0 ≤ j → zv_a h5 37 j = zv_a h 37 j := fun j hj => by rw [zv_wa w6 rfl j]
    have y11 : zv_f h5 41 2 = zv_f h 41 2 := (zv_wf w6 rfl)
    exact zr_vr (pc := 251) rfl rfl ⟨ih5, (w6.wd rfl : zb_W [(38, 0), (42, 0), (43, 0), (41, 2), (37, 0)] h _), rfl, by dsimp only; exact ⟨⟨fun z => by first | (exfalso; omega) | (exact fun j j0 => by rw [b38 j j0, lV j j0]), fun z => by first | (exfalso; omega) | (exact fun j j0 => by rw [b38 j j0, lV j j0]), fun z => by first | (exfalso; omega) | (intro zz; rcases aX with y | y; (exfalso; apply y.1; rw [t0_152]; exact zz); (refine ⟨fun j j0 => by rw [b38 j j0, lV j j0, y.2.1], by omega, fun j j0 => by rw [a42 j j0, y.2.2.2.1 j j0, t0_152], fun j j0 => by rw [a43 j j0, y.2.2.2.2 j j0, t0_152]⟩)), fun z => by first | (exfalso; omega) | (intro zz; exact fun j j0 => by rw [b38 j j0, lV j j0]; rcases vX with y | y; (rw [y.2]); (exfalso; omega)), fun z => by first | (exfalso; omega) | (intro zz; exact fun j j0 => by rw [b38 j j0]; exact sV j j0), fun z => by first | (exfalso; omega) | (intro zz; exact fun j j0 => by rw [b38 j j0, sV j j0]; rcases vX with y | y; (rw [← y.2, sc]; first | rfl | rw [Int.add_comm]); (exfalso; omega)), fun z => by first | (exfalso; omega) | (exact rK.2.2.2.2.2.2.2.2.1 (by omega)), fun z => by first | (exfalso; omega) | exact ⟨by omega, fun j j0 => a42 j j0⟩, fun z => by first | (exfalso; omega) | (exact rK.2.2.2.2.2.2.2.2.2 (by omega)), fun z => by first | (exfalso; omega) | omega⟩, fun z => fun j j0 => a37 j j0, fun z => absurd z (by omega)⟩⟩
  · refine zr_sw (i := .tableswitch 245 1 28 #[127, 127, 136, 136, 136, 127, 144, 164, 176, 245, 245, 245, 245, 245, 245, 245, 245, 245, 245, 245, 190, 245, 245, 245, 245, 245, 245, 218]) (len := 127) (t := 128) (x := op) (k := 1) (pc := 1) rfl c1 rfl rfl rfl rfl ?_
    refine zx_T.l (i := .aload_n 0) (k := 1) (v := .ref 34) (pc := 128) rfl rfl rfl ?_
    refine zx_T.l (i := .iload_n 2) (k := 1) (v := .int (zI (a))) (pc := 129) rfl rfl rfl ?_
    refine zr_i2l (pc := 130) rfl (by omega) (by omega) ?_
    refine zw_iv (b := 34) (cj := 68) (q' := zp_m68) (As := [.long (zL (a))]) (rest := []) (pc := 131) rfl rfl rfl rfl rfl rfl rfl (Nat.le_of_ble_eq_true rfl) rfl (Nat.le_of_ble_eq_true rfl) hI ((zm_mLeave (h := h) hI (v := a) (by omega) (by omega)).up (Nat.le_of_ble_eq_true rfl)) ?_
    rintro r12 h15 ⟨ih15, w16, r12q, x14⟩
    subst r12q
    try dsimp only at x14
    have lV := x14
    show zx_T zp_P 4 zp_m66 134 [(0, .ref 34), (1, .int (zI (op))), (2, .int (zI (a)))] [] h15 _
    refine zx_T.j (i := .goto 117) (k := 3) (pc' := 251) (st' := []) (pc := 134) rfl rfl rfl rfl rfl ?_
    have b38 : ∀ j, 0 ≤ j → zv_b h15 38 j = zv_b h15 38 j := fun j hj => rfl
    have a43 : ∀ j, 0 ≤ j → zv_a h15 43 j = zv_a h 43 j := fun j hj => by rw [zv_wa w16 rfl j]
    have a42 : ∀ j, 0 ≤ j → zv_a h15 42 j = zv_a h 42 j := fun j hj => by rw [zv_wa w16 rfl j]
    have a37 : ∀ j, 0 ≤ j → zv_a h15 37 j = zv_a h 37 j := fun j hj => by rw [zv_wa w16 rfl j]
    have y21 : zv_f h15 41 2 = zv_f h 41 2 := (zv_wf w16 rfl)
    exact zr_vr (pc := 251) rfl rfl ⟨ih15, (w16.wd rfl : zb_W [(38, 0), (42, 0), (43, 0), (41, 2), (37, 0)] h _), rfl, by dsimp only; exact ⟨⟨fun z => by first | (exfalso; omega) | (exact fun j j0 => by rw [b38 j j0, lV j j0]), fun z => by first | (exfalso; omega) | (exact fun j j0 => by rw [b38 j j0, lV j j0]), fun z => by first | (exfalso; omega) | (intro zz; rcases aX with y | y; (exfalso; apply y.1; rw [t0_152]; exact zz); (refine ⟨fun j j0 => by rw [b38 j j0, lV j j0, y.2.1], by omega, fun j j0 => by rw [a42 j j0, y.2.2.2.1 j j0, t0_152], fun j j0 => by rw [a43 j j0, y.2.2.2.2 j j0, t0_152]⟩)), fun z => by first | (exfalso; omega) | (intro zz; exact fun j j0 => by rw [b38 j j0, lV j j0]; rcases vX with y | y; (rw [y.2]); (exfalso; omega)), fun z => by first | (exfalso; omega) | (intro zz; exact fun j j0 => by rw [b38 j j0]; exact sV j j0), fun z => by first | (exfalso; omega) | (intro zz; exact fun j j0 => by rw [b38 j j0, sV j j0]; rcases vX with y | y; (rw [← y.2, sc]; first | rfl | rw [Int.add_comm]); (exfalso; omega)), fun z => by first | (exfalso; omega) | (exact fun j j0 => b38 j j0), fun z => by first | (exfalso; omega) | exact ⟨by omega, fun j j0 => a42 j j0⟩, fun z => by first | (exfalso; omega) | (exact fun j j0 => a43 j j0), fun z => by first | (exfalso; omega) | omega⟩, fun z => fun j j0 => a37 j j0, fun z => absurd z (by omega)⟩⟩
  · refine zr_sw (i := .tableswitch 245 1 28 #[127, 127, 136, 136, 136, 127, 144, 164, 176, 245, 245, 245, 245, 245, 245, 245, 245, 245, 245, 245, 190, 245, 245, 245, 245, 245, 245, 218]) (len := 127) (t := 128) (x := op) (k := 2) (pc := 1) rfl c1 rfl rfl rfl rfl ?_
    refine zx_T.l (i := .aload_n 0) (k := 1) (v := .ref 34) (pc := 128) rfl rfl rfl ?_
    refine zx_T.l (i := .iload_n 2) (k := 1) (v := .int (zI (a))) (pc := 129) rfl rfl rfl ?_
    refine zr_i2l (pc := 130) rfl (by omega) (by omega) ?_
    refine zw_iv (b := 34) (cj := 68) (q' := zp_m68) (As := [.long (zL (a))]) (rest := []) (pc := 131) rfl rfl rfl rfl rfl rfl rfl (Nat.le_of_ble_eq_true rfl) rfl (Nat.le_of_ble_eq_true rfl) hI ((zm_mLeave (h := h) hI (v := a) (by omega) (by omega)).up (Nat.le_of_ble_eq_true rfl)) ?_
    rintro r22 h25 ⟨ih25, w26, r22q, x24⟩
    subst r22q
    try dsimp only at x24
    have lV := x24
    show zx_T zp_P 4 zp_m66 134 [(0, .ref 34), (1, .int (zI (op))), (2, .int (zI (a)))] [] h25 _
    refine zx_T.j (i := .goto 117) (k := 3) (pc' := 251) (st' := []) (pc := 134) rfl rfl rfl rfl rfl ?_
    have b38 : ∀ j, 0 ≤ j → zv_b h25 38 j = zv_b h25 38 j := fun j hj => rfl
    have a43 : ∀ j, 0 ≤ j → zv_a h25 43 j = zv_a h 43 j := fun j hj => by rw [zv_wa w26 rfl j]
    have a42 : ∀ j, 0 ≤ j → zv_a h25 42 j = zv_a h 42 j := fun j hj => by rw [zv_wa w26 rfl j]
    have a37 : ∀ j, 0 ≤ j → zv_a h25 37 j = zv_a h 37 j := fun j hj => by rw [zv_wa w26 rfl j]
    have y31 : zv_f h25 41 2 = zv_f h 41 2 := (zv_wf w26 rfl)
    exact zr_vr (pc := 251) rfl rfl ⟨ih25, (w26.wd rfl : zb_W [(38, 0), (42, 0), (43, 0), (41, 2), (37, 0)] h _), rfl, by dsimp only; exact ⟨⟨fun z => by first | (exfalso; omega) | (exact fun j j0 => by rw [b38 j j0, lV j j0]), fun z => by first | (exfalso; omega) | (exact fun j j0 => by rw [b38 j j0, lV j j0]), fun z => by first | (exfalso; omega) | (intro zz; rcases aX with y | y; (exfalso; apply y.1; rw [t0_152]; exact zz); (refine ⟨fun j j0 => by rw [b38 j j0, lV j j0, y.2.1], by omega, fun j j0 => by rw [a42 j j0, y.2.2.2.1 j j0, t0_152], fun j j0 => by rw [a43 j j0, y.2.2.2.2 j j0, t0_152]⟩)), fun z => by first | (exfalso; omega) | (intro zz; exact fun j j0 => by rw [b38 j j0, lV j j0]; rcases vX with y | y; (rw [y.2]); (exfalso; omega)), fun z => by first | (exfalso; omega) | (intro zz; exact fun j j0 => by rw [b38 j j0]; exact sV j j0), fun z => by first | (exfalso; omega) | (intro zz; exact fun j j0 => by rw [b38 j j0, sV j j0]; rcases vX with y | y; (rw [← y.2, sc]; first | rfl | rw [Int.add_comm]); (exfalso; omega)), fun z => by first | (exfalso; omega) | (exact fun j j0 => b38 j j0), fun z => by first | (exfalso; omega) | exact ⟨by omega, fun j j0 => a42 j j0⟩, fun z => by first | (exfalso; omega) | (exact fun j j0 => a43 j j0), fun z => by first | (exfalso; omega) | omega⟩, fun z => fun j j0 => a37 j j0, fun z => absurd z (by omega)⟩⟩
  · refine zr_sw (i := .tableswitch 245 1 28 #[127, 127, 136, 136, 136, 127, 144, 164, 176, 245, 245, 245, 245, 245, 245, 245, 245, 245, 245, 245, 190, 245, 245, 245, 245, 245, 245, 218]) (len := 127) (t := 137) (x := op) (k := 3) (pc := 1) rfl c1 rfl rfl rfl rfl ?_
    refine zx_T.l (i := .aload_n 0) (k := 1) (v := .ref 34) (pc := 137) rfl rfl rfl ?_
    refine zx_T.s (i := .lconst 0) (k := 1) (st' := [.long (zL (0)), .ref 34]) (pc := 138) rfl rfl ?_
    refine zw_iv (b := 34) (cj := 68) (q' := zp_m68) (As := [.long (zL (0))]) (rest := []) (pc := 139) rfl rfl rfl rfl rfl rfl rfl (Nat.le_of_ble_eq_true rfl) rfl (Nat.le_of_ble_eq_true rfl) hI ((zm_mLeave (h := h) hI (v := 0) (by omega) (by omega)).up (Nat.le_of_ble_eq_true rfl)) ?_
    rintro r32 h35 ⟨ih35, w36, r32q, x34⟩
    subst r32q
    try dsimp only at x34
    have lV := x34
    show zx_T zp_P 4 zp_m66 142 [(0, .ref 34), (1, .int (zI (op))), (2, .int (zI (a)))] [] h35 _
    refine zx_T.j (i := .goto 109) (k := 3) (pc' := 251) (st' := []) (pc := 142) rfl rfl rfl rfl rfl ?_
    have b38 : ∀ j, 0 ≤ j → zv_b h35 38 j = zv_b h35 38 j := fun j hj => rfl
    have a43 : ∀ j, 0 ≤ j → zv_a h35 43 j = zv_a h 43 j := fun j hj => by rw [zv_wa w36 rfl j]
    have a42 : ∀ j, 0 ≤ j → zv_a h35 42 j = zv_a h 42 j := fun j hj => by rw [zv_wa w36 rfl j]
    have a37 : ∀ j, 0 ≤ j → zv_a h35 37 j = zv_a h 37 j := fun j hj => by rw [zv_wa w36 rfl j]
    have y41 : zv_f h35 41 2 = zv_f h 41 2 := (zv_wf w36 rfl)
    exact zr_vr (pc := 251) rfl rfl ⟨ih35, (w36.wd rfl : zb_W [(38, 0), (42, 0), (43, 0), (41, 2), (37, 0)] h _), rfl, by dsimp only; exact ⟨⟨fun z => by first | (exfalso; omega) | (exact fun j j0 => by rw [b38 j j0, lV j j0]), fun z => by first | (exfalso; omega) | (exact fun j j0 => by rw [b38 j j0, lV j j0]), fun z => by first | (exfalso; omega) | (intro zz; rcases aX with y | y; (exfalso; apply y.1; rw [t0_152]; exact zz); (refine ⟨fun j j0 => by rw [b38 j j0, lV j j0, y.2.1], by omega, fun j j0 => by rw [a42 j j0, y.2.2.2.1 j j0, t0_152], fun j j0 => by rw [a43 j j0, y.2.2.2.2 j j0, t0_152]⟩)), fun z => by first | (exfalso; omega) | (intro zz; exact fun j j0 => by rw [b38 j j0, lV j j0]; rcases vX with y | y; (rw [y.2]); (exfalso; omega)), fun z => by first | (exfalso; omega) | (intro zz; exact fun j j0 => by rw [b38 j j0]; exact sV j j0), fun z => by first | (exfalso; omega) | (intro zz; exact fun j j0 => by rw [b38 j j0, sV j j0]; rcases vX with y | y; (rw [← y.2, sc]; first | rfl | rw [Int.add_comm]); (exfalso; omega)), fun z => by first | (exfalso; omega) | (exact fun j j0 => b38 j j0), fun z => by first | (exfalso; omega) | exact ⟨by omega, fun j j0 => a42 j j0⟩, fun z => by first | (exfalso; omega) | (exact fun j j0 => a43 j j0), fun z => by first | (exfalso; omega) | omega⟩, fun z => fun j j0 => a37 j j0, fun z => absurd z (by omega)⟩⟩
  · refine zr_sw (i := .tableswitch 245 1 28 #[127, 127, 136, 136, 136, 127, 144, 164, 176, 245, 245, 245, 245, 245, 245, 245, 245, 245, 245, 245, 190, 245, 245, 245, 245, 245, 245, 218]) (len := 127) (t := 137) (x := op) (k := 4) (pc := 1) rfl c1 rfl rfl rfl rfl ?_
    refine zx_T.l (i := .aload_n 0) (k := 1) (v := .ref 34) (pc := 137) rfl rfl rfl ?_
    refine zx_T.s (i := .lconst 0) (k := 1) (st' := [.long (zL (0)), .ref 34]) (pc := 138) rfl rfl ?_
    refine zw_iv (b := 34) (cj := 68) (q' := zp_m68) (As := [.long (zL (0))]) (rest := []) (pc := 139) rfl rfl rfl rfl rfl rfl rfl (Nat.le_of_ble_eq_true rfl) rfl (Nat.le_of_ble_eq_true rfl) hI ((zm_mLeave (h := h) hI (v := 0) (by omega) (by omega)).up (Nat.le_of_ble_eq_true rfl)) ?_
    rintro r42 h45 ⟨ih45, w46, r42q, x44⟩
    subst r42q
    try dsimp only at x44
    have lV := x44
    show zx_T zp_P 4 zp_m66 142 [(0, .ref 34), (1, .int (zI (op))), (2, .int (zI (a)))] [] h45 _
    refine zx_T.j (i := .goto 109) (k := 3) (pc' := 251) (st' := []) (pc := 142) rfl rfl rfl rfl rfl ?_
    have b38 : ∀ j, 0 ≤ j → zv_b h45 38 j = zv_b h45 38 j := fun j hj => rfl
    have a43 : ∀ j, 0 ≤ j → zv_a h45 43 j = zv_a h 43 j := fun j hj => by rw [zv_wa w46 rfl j]
    have a42 : ∀ j, 0 ≤ j → zv_a h45 42 j = zv_a h 42 j := fun j hj => by rw [zv_wa w46 rfl j]
    have a37 : ∀ j, 0 ≤ j → zv_a h45 37 j = zv_a h 37 j := fun j hj => by rw [zv_wa w46 rfl j]
    have y51 : zv_f h45 41 2 = zv_f h 41 2 := (zv_wf w46 rfl)
    exact zr_vr (pc := 251) rfl rfl ⟨ih45, (w46.wd rfl : zb_W [(38, 0), (42, 0), (43, 0), (41, 2), (37, 0)] h _), rfl, by dsimp only; exact ⟨⟨fun z => by first | (exfalso; omega) | (exact fun j j0 => by rw [b38 j j0, lV j j0]), fun z => by first | (exfalso; omega) | (exact fun j j0 => by rw [b38 j j0, lV j j0]), fun z => by first | (exfalso; omega) | (intro zz; rcases aX with y | y; (exfalso; apply y.1; rw [t0_152]; exact zz); (refine ⟨fun j j0 => by rw [b38 j j0, lV j j0, y.2.1], by omega, fun j j0 => by rw [a42 j j0, y.2.2.2.1 j j0, t0_152], fun j j0 => by rw [a43 j j0, y.2.2.2.2 j j0, t0_152]⟩)), fun z => by first | (exfalso; omega) | (intro zz; exact fun j j0 => by rw [b38 j j0, lV j j0]; rcases vX with y | y; (rw [y.2]); (exfalso; omega)), fun z => by first | (exfalso; omega) | (intro zz; exact fun j j0 => by rw [b38 j j0]; exact sV j j0), fun z => by first | (exfalso; omega) | (intro zz; exact fun j j0 => by rw [b38 j j0, sV j j0]; rcases vX with y | y; (rw [← y.2, sc]; first | rfl | rw [Int.add_comm]); (exfalso; omega)), fun z => by first | (exfalso; omega) | (exact fun j j0 => b38 j j0), fun z => by first | (exfalso; omega) | exact ⟨by omega, fun j j0 => a42 j j0⟩, fun z => by first | (exfalso; omega) | (exact fun j j0 => a43 j j0), fun z => by first | (exfalso; omega) | omega⟩, fun z => fun j j0 => a37 j j0, fun z => absurd z (by omega)⟩⟩
  · refine zr_sw (i := .tableswitch 245 1 28 #[127, 127, 136, 136, 136, 127, 144, 164, 176, 245, 245, 245, 245, 245, 245, 245, 245, 245, 245, 245, 190, 245, 245, 245, 245, 245, 245, 218]) (len := 127) (t := 137) (x := op) (k := 5) (pc := 1) rfl c1 rfl rfl rfl rfl ?_
    refine zx_T.l (i := .aload_n 0) (k := 1) (v := .ref 34) (pc := 137) rfl rfl rfl ?_
    refine zx_T.s (i := .lconst 0) (k := 1) (st' := [.long (zL (0)), .ref 34]) (pc := 138) rfl rfl ?_
    refine zw_iv (b := 34) (cj := 68) (q' := zp_m68) (As := [.long (zL (0))]) (rest := []) (pc := 139) rfl rfl rfl rfl rfl rfl rfl (Nat.le_of_ble_eq_true rfl) rfl (Nat.le_of_ble_eq_true rfl) hI ((zm_mLeave (h := h) hI (v := 0) (by omega) (by omega)).up (Nat.le_of_ble_eq_true rfl)) ?_
    rintro r52 h55 ⟨ih55, w56, r52q, x54⟩
    subst r52q
    try dsimp only at x54
    have lV := x54
    show zx_T zp_P 4 zp_m66 142 [(0, .ref 34), (1, .int (zI (op))), (2, .int (zI (a)))] [] h55 _
    refine zx_T.j (i := .goto 109) (k := 3) (pc' := 251) (st' := []) (pc := 142) rfl rfl rfl rfl rfl ?_
    have b38 : ∀ j, 0 ≤ j → zv_b h55 38 j = zv_b h55 38 j := fun j hj => rfl
    have a43 : ∀ j, 0 ≤ j → zv_a h55 43 j = zv_a h 43 j := fun j hj => by rw [zv_wa w56 rfl j]
    have a42 : ∀ j, 0 ≤ j → zv_a h55 42 j = zv_a h 42 j := fun j hj => by rw [zv_wa w56 rfl j]
    have a37 : ∀ j, 0 ≤ j → zv_a h55 37 j = zv_a h 37 j := fun j hj => by rw [zv_wa w56 rfl j]
    have y61 : zv_f h55 41 2 = zv_f h 41 2 := (zv_wf w56 rfl)
    exact zr_vr (pc := 251) rfl rfl ⟨ih55, (w56.wd rfl : zb_W [(38, 0), (42, 0), (43, 0), (41, 2), (37, 0)] h _), rfl, by dsimp only; exact ⟨⟨fun z => by first | (exfalso; omega) | (exact fun j j0 => by rw [b38 j j0, lV j j0]), fun z => by first | (exfalso; omega) | (exact fun j j0 => by rw [b38 j j0, lV j j0]), fun z => by first | (exfalso; omega) | (intro zz; rcases aX with y | y; (exfalso; apply y.1; rw [t0_152]; exact zz); (refine ⟨fun j j0 => by rw [b38 j j0, lV j j0, y.2.1], by omega, fun j j0 => by rw [a42 j j0, y.2.2.2.1 j j0, t0_152], fun j j0 => by rw [a43 j j0, y.2.2.2.2 j j0, t0_152]⟩)), fun z => by first | (exfalso; omega) | (intro zz; exact fun j j0 => by rw [b38 j j0, lV j j0]; rcases vX with y | y; (rw [y.2]); (exfalso; omega)), fun z => by first | (exfalso; omega) | (intro zz; exact fun j j0 => by rw [b38 j j0]; exact sV j j0), fun z => by first | (exfalso; omega) | (intro zz; exact fun j j0 => by rw [b38 j j0, sV j j0]; rcases vX with y | y; (rw [← y.2, sc]; first | rfl | rw [Int.add_comm]); (exfalso; omega)), fun z => by first | (exfalso; omega) | (exact fun j j0 => b38 j j0), fun z => by first | (exfalso; omega) | exact ⟨by omega, fun j j0 => a42 j j0⟩, fun z => by first | (exfalso; omega) | (exact fun j j0 => a43 j j0), fun z => by first | (exfalso; omega) | omega⟩, fun z => fun j j0 => a37 j j0, fun z => absurd z (by omega)⟩⟩
  · refine zr_sw (i := .tableswitch 245 1 28 #[127, 127, 136, 136, 136, 127, 144, 164, 176, 245, 245, 245, 245, 245, 245, 245, 245, 245, 245, 245, 190, 245, 245, 245, 245, 245, 245, 218]) (len := 127) (t := 128) (x := op) (k := 6) (pc := 1) rfl c1 rfl rfl rfl rfl ?_
    refine zx_T.l (i := .aload_n 0) (k := 1) (v := .ref 34) (pc := 128) rfl rfl rfl ?_
    refine zx_T.l (i := .iload_n 2) (k := 1) (v := .int (zI (a))) (pc := 129) rfl rfl rfl ?_
    refine zr_i2l (pc := 130) rfl (by omega) (by omega) ?_
    refine zw_iv (b := 34) (cj := 68) (q' := zp_m68) (As := [.long (zL (a))]) (rest := []) (pc := 131) rfl rfl rfl rfl rfl rfl rfl (Nat.le_of_ble_eq_true rfl) rfl (Nat.le_of_ble_eq_true rfl) hI ((zm_mLeave (h := h) hI (v := a) (by omega) (by omega)).up (Nat.le_of_ble_eq_true rfl)) ?_
    rintro r62 h65 ⟨ih65, w66, r62q, x64⟩
    subst r62q
    try dsimp only at x64
    have lV := x64
    show zx_T zp_P 4 zp_m66 134 [(0, .ref 34), (1, .int (zI (op))), (2, .int (zI (a)))] [] h65 _
    refine zx_T.j (i := .goto 117) (k := 3) (pc' := 251) (st' := []) (pc := 134) rfl rfl rfl rfl rfl ?_
    have b38 : ∀ j, 0 ≤ j → zv_b h65 38 j = zv_b h65 38 j := fun j hj => rfl
    have a43 : ∀ j, 0 ≤ j → zv_a h65 43 j = zv_a h 43 j := fun j hj => by rw [zv_wa w66 rfl j]
    have a42 : ∀ j, 0 ≤ j → zv_a h65 42 j = zv_a h 42 j := fun j hj => by rw [zv_wa w66 rfl j]
    have a37 : ∀ j, 0 ≤ j → zv_a h65 37 j = zv_a h 37 j := fun j hj => by rw [zv_wa w66 rfl j]
    have y71 : zv_f h65 41 2 = zv_f h 41 2 := (zv_wf w66 rfl)
    exact zr_vr (pc := 251) rfl rfl ⟨ih65, (w66.wd rfl : zb_W [(38, 0), (42, 0), (43, 0), (41, 2), (37, 0)] h _), rfl, by dsimp only; exact ⟨⟨fun z => by first | (exfalso; omega) | (exact fun j j0 => by rw [b38 j j0, lV j j0]), fun z => by first | (exfalso; omega) | (exact fun j j0 => by rw [b38 j j0, lV j j0]), fun z => by first | (exfalso; omega) | (intro zz; rcases aX with y | y; (exfalso; apply y.1; rw [t0_152]; exact zz); (refine ⟨fun j j0 => by rw [b38 j j0, lV j j0, y.2.1], by omega, fun j j0 => by rw [a42 j j0, y.2.2.2.1 j j0, t0_152], fun j j0 => by rw [a43 j j0, y.2.2.2.2 j j0, t0_152]⟩)), fun z => by first | (exfalso; omega) | (intro zz; exact fun j j0 => by rw [b38 j j0, lV j j0]; rcases vX with y | y; (rw [y.2]); (exfalso; omega)), fun z => by first | (exfalso; omega) | (intro zz; exact fun j j0 => by rw [b38 j j0]; exact sV j j0), fun z => by first | (exfalso; omega) | (intro zz; exact fun j j0 => by rw [b38 j j0, sV j j0]; rcases vX with y | y; (rw [← y.2, sc]; first | rfl | rw [Int.add_comm]); (exfalso; omega)), fun z => by first | (exfalso; omega) | (exact fun j j0 => b38 j j0), fun z => by first | (exfalso; omega) | exact ⟨by omega, fun j j0 => a42 j j0⟩, fun z => by first | (exfalso; omega) | (exact fun j j0 => a43 j j0), fun z => by first | (exfalso; omega) | omega⟩, fun z => fun j j0 => a37 j j0, fun z => absurd z (by omega)⟩⟩
  · refine zr_sw (i := .tableswitch 245 1 28 #[127, 127, 136, 136, 136, 127, 144, 164, 176, 245, 245, 245, 245, 245, 245, 245, 245, 245, 245, 245, 190, 245, 245, 245, 245, 245, 245, 218]) (len := 127) (t := 145) (x := op) (k := 7) (pc := 1) rfl c1 rfl rfl rfl rfl ?_
    refine zx_T.l (i := .aload_n 0) (k := 1) (v := .ref 34) (pc := 145) rfl rfl rfl ?_
    refine zx_T.l (i := .aload_n 0) (k := 1) (v := .ref 34) (pc := 146) rfl rfl rfl ?_
    refine zw_gr (k := 6) (b := 41) (pc := 147) rfl rfl rfl hI ?_
    refine zx_T.l (i := .aload_n 0) (k := 1) (v := .ref 34) (pc := 150) rfl rfl rfl ?_
    refine zx_T.s (i := .iconst 0) (k := 1) (st' := [.int (zI (0)), .ref 34, .ref 41, .ref 34]) (pc := 151) rfl rfl ?_
    refine zw_iv (b := 34) (cj := 63) (q' := zp_m63) (As := [.int (zI (0))]) (rest := [.ref 41, .ref 34]) (pc := 152) rfl rfl rfl rfl rfl rfl rfl (Nat.le_of_ble_eq_true rfl) rfl (Nat.le_of_ble_eq_true rfl) hI ((zm_mTakenInt (h := h) hI (d := 0) (by omega) (by omega)).up (Nat.le_of_ble_eq_true rfl)) ?_
    rintro r72 h75 ⟨h75q, v73, r72q, x74⟩
    subst h75q r72q
    try dsimp only at x74
    have t0_152 := (x74).1
    show zx_T zp_P 4 zp_m66 155 [(0, .ref 34), (1, .int (zI (op))), (2, .int (zI (a)))] [.int (zI (v73)), .ref 41, .ref 34] h _
    refine zw_iv (b := 41) (cj := 110) (q' := zp_m110) (As := [.int (zI (v73))]) (rest := [.ref 34]) (pc := 155) rfl rfl rfl rfl rfl rfl rfl (Nat.le_of_ble_eq_true rfl) rfl (Nat.le_of_ble_eq_true rfl) hI ((zm_rAdd (h := h) hI (m := v73) (by omega) (by omega)).up (Nat.le_of_ble_eq_true rfl)) ?_
    rintro r76 h79 ⟨ih79, w80, v77, r76q, x78⟩
    subst r76q
    try dsimp only at x78
    have aX := x78
    show zx_T zp_P 4 zp_m66 158 [(0, .ref 34), (1, .int (zI (op))), (2, .int (zI (a)))] [.int (zI (v77)), .ref 34] h79 _
    refine zr_i2l (pc := 158) rfl (by omega) (by omega) ?_
    refine zw_iv (b := 34) (cj := 68) (q' := zp_m68) (As := [.long (zL (v77))]) (rest := []) (pc := 159) rfl rfl rfl rfl rfl rfl rfl (Nat.le_of_ble_eq_true rfl) rfl (Nat.le_of_ble_eq_true rfl) ih79 ((zm_mLeave (h := h79) ih79 (v := v77) (by omega) (by omega)).up (Nat.le_of_ble_eq_true rfl)) ?_
    rintro r81 h84 ⟨ih84, w85, r81q, x83⟩
    subst r81q
    try dsimp only at x83
    have lV := x83; rw [show zv_b h79 38 = zv_b h 38 from funext (fun q => zv_wb (w80.wd rfl : zb_W [(42, 0), (43, 0), (41, 2)] h _) rfl q), show zv_f h79 36 1 = zv_f h 36 1 from zv_wf (w80.wd rfl : zb_W [(42, 0), (43, 0), (41, 2)] h _) rfl] at lV
    show zx_T zp_P 4 zp_m66 162 [(0, .ref 34), (1, .int (zI (op))), (2, .int (zI (a)))] [] h84 _
    refine zx_T.j (i := .goto 89) (k := 3) (pc' := 251) (st' := []) (pc := 162) rfl rfl rfl rfl rfl ?_
    have b38 : ∀ j, 0 ≤ j → zv_b h84 38 j = zv_b h84 38 j := fun j hj => rfl
    have a43 : ∀ j, 0 ≤ j → zv_a h84 43 j = zv_a h79 43 j := fun j hj => by rw [zv_wa w85 rfl j]
    have a42 : ∀ j, 0 ≤ j → zv_a h84 42 j = zv_a h79 42 j := fun j hj => by rw [zv_wa w85 rfl j]
    have a37 : ∀ j, 0 ≤ j → zv_a h84 37 j = zv_a h 37 j := fun j hj => by rw [zv_wa w85 rfl j, zv_wa w80 rfl j]
    have y90 : zv_f h84 41 2 = zv_f h79 41 2 := (zv_wf w85 rfl)
    exact zr_vr (pc := 251) rfl rfl ⟨ih84, ((w80.wd rfl : zb_W [(38, 0), (42, 0), (43, 0), (41, 2), (37, 0)] h _).tr (w85.wd rfl)), rfl, by dsimp only; exact ⟨⟨fun z => by first | (exfalso; omega) | (exact fun j j0 => by rw [b38 j j0, lV j j0]), fun z => by first | (exfalso; omega) | (exact fun j j0 => by rw [b38 j j0, lV j j0]), fun z => by first | (exfalso; omega) | (intro zz; rcases aX with y | y; (exfalso; apply y.1; rw [t0_152]; exact zz); (refine ⟨fun j j0 => by rw [b38 j j0, lV j j0, y.2.1], by omega, fun j j0 => by rw [a42 j j0, y.2.2.2.1 j j0, t0_152], fun j j0 => by rw [a43 j j0, y.2.2.2.2 j j0, t0_152]⟩)), fun z => by first | (exfalso; omega) | (intro zz; exact fun j j0 => by rw [b38 j j0, lV j j0]; rcases vX with y | y; (rw [y.2]); (exfalso; omega)), fun z => by first | (exfalso; omega) | (intro zz; exact fun j j0 => by rw [b38 j j0]; exact sV j j0), fun z => by first | (exfalso; omega) | (intro zz; exact fun j j0 => by rw [b38 j j0, sV j j0]; rcases vX with y | y; (rw [← y.2, sc]; first | rfl | rw [Int.add_comm]); (exfalso; omega)), fun z => by first | (exfalso; omega) | (exact fun j j0 => b38 j j0), fun z => by first | (exfalso; omega) | exact ⟨by omega, fun j j0 => a42 j j0⟩, fun z => by first | (exfalso; omega) | (exact fun j j0 => a43 j j0), fun z => by first | (exfalso; omega) | omega⟩, fun z => fun j j0 => a37 j j0, fun z => absurd z (by omega)⟩⟩
  · refine zr_sw (i := .tableswitch 245 1 28 #[127, 127, 136, 136, 136, 127, 144, 164, 176, 245, 245, 245, 245, 245, 245, 245, 245, 245, 245, 245, 190, 245, 245, 245, 245, 245, 245, 218]) (len := 127) (t := 165) (x := op) (k := 8) (pc := 1) rfl c1 rfl rfl rfl rfl ?_
    refine zx_T.l (i := .aload_n 0) (k := 1) (v := .ref 34) (pc := 165) rfl rfl rfl ?_
    refine zx_T.l (i := .aload_n 0) (k := 1) (v := .ref 34) (pc := 166) rfl rfl rfl ?_
    refine zx_T.l (i := .iload_n 2) (k := 1) (v := .int (zI (a))) (pc := 167) rfl rfl rfl ?_
    refine zw_iv (b := 34) (cj := 71) (q' := zp_m71) (As := [.int (zI (a))]) (rest := [.ref 34]) (pc := 168) rfl rfl rfl rfl rfl rfl rfl (Nat.le_of_ble_eq_true rfl) rfl (Nat.le_of_ble_eq_true rfl) hI ((zm_mValue (h := h) hI (i := a) (by omega) (by omega)).up (Nat.le_of_ble_eq_true rfl)) ?_
    rintro r91 h94 ⟨h94q, v92, r91q, x93⟩
    subst h94q r91q
    try dsimp only at x93
    have vX := x93.1
    show zx_T zp_P 4 zp_m66 171 [(0, .ref 34), (1, .int (zI (op))), (2, .int (zI (a)))] [.long (zL (v92)), .ref 34] h _
    refine zw_iv (b := 34) (cj := 68) (q' := zp_m68) (As := [.long (zL (v92))]) (rest := []) (pc := 171) rfl rfl rfl rfl rfl rfl rfl (Nat.le_of_ble_eq_true rfl) rfl (Nat.le_of_ble_eq_true rfl) hI ((zm_mLeave (h := h) hI (v := v92) (by omega) (by omega)).up (Nat.le_of_ble_eq_true rfl)) ?_
    rintro r95 h98 ⟨ih98, w99, r95q, x97⟩
    subst r95q
    try dsimp only at x97
    have lV := x97
    show zx_T zp_P 4 zp_m66 174 [(0, .ref 34), (1, .int (zI (op))), (2, .int (zI (a)))] [] h98 _
    refine zx_T.j (i := .goto 77) (k := 3) (pc' := 251) (st' := []) (pc := 174) rfl rfl rfl rfl rfl ?_
    have b38 : ∀ j, 0 ≤ j → zv_b h98 38 j = zv_b h98 38 j := fun j hj => rfl
    have a43 : ∀ j, 0 ≤ j → zv_a h98 43 j = zv_a h 43 j := fun j hj => by rw [zv_wa w99 rfl j]
    have a42 : ∀ j, 0 ≤ j → zv_a h98 42 j = zv_a h 42 j := fun j hj => by rw [zv_wa w99 rfl j]
    have a37 : ∀ j, 0 ≤ j → zv_a h98 37 j = zv_a h 37 j := fun j hj => by rw [zv_wa w99 rfl j]
    have y104 : zv_f h98 41 2 = zv_f h 41 2 := (zv_wf w99 rfl)
    exact zr_vr (pc := 251) rfl rfl ⟨ih98, (w99.wd rfl : zb_W [(38, 0), (42, 0), (43, 0), (41, 2), (37, 0)] h _), rfl, by dsimp only; exact ⟨⟨fun z => by first | (exfalso; omega) | (exact fun j j0 => by rw [b38 j j0, lV j j0]), fun z => by first | (exfalso; omega) | (exact fun j j0 => by rw [b38 j j0, lV j j0]), fun z => by first | (exfalso; omega) | (intro zz; rcases aX with y | y; (exfalso; apply y.1; rw [t0_152]; exact zz); (refine ⟨fun j j0 => by rw [b38 j j0, lV j j0, y.2.1], by omega, fun j j0 => by rw [a42 j j0, y.2.2.2.1 j j0, t0_152], fun j j0 => by rw [a43 j j0, y.2.2.2.2 j j0, t0_152]⟩)), fun z => by first | (exfalso; omega) | (intro zz; exact fun j j0 => by rw [b38 j j0, lV j j0]; rcases vX with y | y; (rw [y.2]); (exfalso; omega)), fun z => by first | (exfalso; omega) | (intro zz; exact fun j j0 => by rw [b38 j j0]; exact sV j j0), fun z => by first | (exfalso; omega) | (intro zz; exact fun j j0 => by rw [b38 j j0, sV j j0]; rcases vX with y | y; (rw [← y.2, sc]; first | rfl | rw [Int.add_comm]); (exfalso; omega)), fun z => by first | (exfalso; omega) | (exact fun j j0 => b38 j j0), fun z => by first | (exfalso; omega) | exact ⟨by omega, fun j j0 => a42 j j0⟩, fun z => by first | (exfalso; omega) | (exact fun j j0 => a43 j j0), fun z => by first | (exfalso; omega) | omega⟩, fun z => fun j j0 => a37 j j0, fun z => absurd z (by omega)⟩⟩
  · refine zr_sw (i := .tableswitch 245 1 28 #[127, 127, 136, 136, 136, 127, 144, 164, 176, 245, 245, 245, 245, 245, 245, 245, 245, 245, 245, 245, 190, 245, 245, 245, 245, 245, 245, 218]) (len := 127) (t := 177) (x := op) (k := 9) (pc := 1) rfl c1 rfl rfl rfl rfl ?_
    refine zx_T.l (i := .aload_n 0) (k := 1) (v := .ref 34) (pc := 177) rfl rfl rfl ?_
    refine zx_T.l (i := .iload_n 2) (k := 1) (v := .int (zI (a))) (pc := 178) rfl rfl rfl ?_
    refine zx_T.l (i := .aload_n 0) (k := 1) (v := .ref 34) (pc := 179) rfl rfl rfl ?_
    refine zw_gr (k := 4) (b := 39) (pc := 180) rfl rfl rfl hI ?_
    refine zx_T.s (i := .iconst 0) (k := 1) (st' := [.int (zI (0)), .ref 39, .int (zI (a)), .ref 34]) (pc := 183) rfl rfl ?_
    have g105 := zv_rb (h := h) 39 0
    refine zr_ll (n := 3) (e := zv_b h 39 0) (pc := 184) rfl rfl rfl hI (by omega) (by omega) rfl ?_
    refine zw_iv (b := 34) (cj := 72) (q' := zp_m72) (As := [.int (zI (a)), .long (zL (zv_b h 39 0))]) (rest := []) (pc := 185) rfl rfl rfl rfl rfl rfl rfl (Nat.le_of_ble_eq_true rfl) rfl (Nat.le_of_ble_eq_true rfl) hI ((zm_mSetValue (h := h) hI (i := a) (v := zv_b h 39 0) (by omega) (by omega) (by omega) (by omega)).up (Nat.le_of_ble_eq_true rfl)) ?_
    rintro r106 h109 ⟨ih109, w110, r106q, x108⟩
    subst r106q
    try dsimp only at x108
    have sV := x108
    show zx_T zp_P 4 zp_m66 188 [(0, .ref 34), (1, .int (zI (op))), (2, .int (zI (a)))] [] h109 _
    refine zx_T.j (i := .goto 63) (k := 3) (pc' := 251) (st' := []) (pc := 188) rfl rfl rfl rfl rfl ?_
    have b38 : ∀ j, 0 ≤ j → zv_b h109 38 j = zv_b h109 38 j := fun j hj => rfl
    have a43 : ∀ j, 0 ≤ j → zv_a h109 43 j = zv_a h 43 j := fun j hj => by rw [zv_wa w110 rfl j]
    have a42 : ∀ j, 0 ≤ j → zv_a h109 42 j = zv_a h 42 j := fun j hj => by rw [zv_wa w110 rfl j]
    have a37 : ∀ j, 0 ≤ j → zv_a h109 37 j = zv_a h 37 j := fun j hj => by rw [zv_wa w110 rfl j]
    have y115 : zv_f h109 41 2 = zv_f h 41 2 := (zv_wf w110 rfl)
    exact zr_vr (pc := 251) rfl rfl ⟨ih109, (w110.wd rfl : zb_W [(38, 0), (42, 0), (43, 0), (41, 2), (37, 0)] h _), rfl, by dsimp only; exact ⟨⟨fun z => by first | (exfalso; omega) | (exact fun j j0 => by rw [b38 j j0, lV j j0]), fun z => by first | (exfalso; omega) | (exact fun j j0 => by rw [b38 j j0, lV j j0]), fun z => by first | (exfalso; omega) | (intro zz; rcases aX with y | y; (exfalso; apply y.1; rw [t0_152]; exact zz); (refine ⟨fun j j0 => by rw [b38 j j0, lV j j0, y.2.1], by omega, fun j j0 => by rw [a42 j j0, y.2.2.2.1 j j0, t0_152], fun j j0 => by rw [a43 j j0, y.2.2.2.2 j j0, t0_152]⟩)), fun z => by first | (exfalso; omega) | (intro zz; exact fun j j0 => by rw [b38 j j0, lV j j0]; rcases vX with y | y; (rw [y.2]); (exfalso; omega)), fun z => by first | (exfalso; omega) | (intro zz; exact fun j j0 => by rw [b38 j j0]; exact sV j j0), fun z => by first | (exfalso; omega) | (intro zz; exact fun j j0 => by rw [b38 j j0, sV j j0]; rcases vX with y | y; (rw [← y.2, sc]; first | rfl | rw [Int.add_comm]); (exfalso; omega)), fun z => by first | (exfalso; omega) | (exact fun j j0 => b38 j j0), fun z => by first | (exfalso; omega) | exact ⟨by omega, fun j j0 => a42 j j0⟩, fun z => by first | (exfalso; omega) | (exact fun j j0 => a43 j j0), fun z => by first | (exfalso; omega) | omega⟩, fun z => fun j j0 => a37 j j0, fun z => absurd z (by omega)⟩⟩
  · refine zr_sw (i := .tableswitch 245 1 28 #[127, 127, 136, 136, 136, 127, 144, 164, 176, 245, 245, 245, 245, 245, 245, 245, 245, 245, 245, 245, 190, 245, 245, 245, 245, 245, 245, 218]) (len := 127) (t := 246) (x := op) (k := 10) (pc := 1) rfl c1 rfl rfl rfl rfl ?_
    refine zx_T.l (i := .aload_n 0) (k := 1) (v := .ref 34) (pc := 246) rfl rfl rfl ?_
    refine zx_T.l (i := .iload_n 1) (k := 1) (v := .int (zI (op))) (pc := 247) rfl rfl rfl ?_
    refine zw_iv (b := 34) (cj := 67) (q' := zp_m67) (As := [.int (zI (op))]) (rest := []) (pc := 248) rfl rfl rfl rfl rfl rfl rfl (Nat.le_of_ble_eq_true rfl) rfl (Nat.le_of_ble_eq_true rfl) hI ((zm_mReckon (h := h) hI (op := op) (by omega) (by omega)).up (Nat.le_of_ble_eq_true rfl)) ?_
    rintro r116 h119 ⟨ih119, w120, r116q, x118⟩
    subst r116q
    try dsimp only at x118
    have rK := x118
    show zx_T zp_P 4 zp_m66 251 [(0, .ref 34), (1, .int (zI (op))), (2, .int (zI (a)))] [] h119 _
    have b38 : ∀ j, 0 ≤ j → zv_b h119 38 j = zv_b h119 38 j := fun j hj => rfl
    have a43 : ∀ j, 0 ≤ j → zv_a h119 43 j = zv_a h119 43 j := fun j hj => rfl
    have a42 : ∀ j, 0 ≤ j → zv_a h119 42 j = zv_a h 42 j := fun j hj => by rw [zv_wa w120 rfl j]
    have a37 : ∀ j, 0 ≤ j → zv_a h119 37 j = zv_a h 37 j := fun j hj => by rw [zv_wa w120 rfl j]
    have y125 : zv_f h119 41 2 = zv_f h 41 2 := (zv_wf w120 rfl)
    exact zr_vr (pc := 251) rfl rfl ⟨ih119, (w120.wd rfl : zb_W [(38, 0), (42, 0), (43, 0), (41, 2), (37, 0)] h _), rfl, by dsimp only; exact ⟨⟨fun z => by first | (exfalso; omega) | (exact fun j j0 => by rw [b38 j j0, lV j j0]), fun z => by first | (exfalso; omega) | (exact fun j j0 => by rw [b38 j j0, lV j j0]), fun z => by first | (exfalso; omega) | (intro zz; rcases aX with y | y; (exfalso; apply y.1; rw [t0_152]; exact zz); (refine ⟨fun j j0 => by rw [b38 j j0, lV j j0, y.2.1], by omega, fun j j0 => by rw [a42 j j0, y.2.2.2.1 j j0, t0_152], fun j j0 => by rw [a43 j j0, y.2.2.2.2 j j0, t0_152]⟩)), fun z => by first | (exfalso; omega) | (intro zz; exact fun j j0 => by rw [b38 j j0, lV j j0]; rcases vX with y | y; (rw [y.2]); (exfalso; omega)), fun z => by first | (exfalso; omega) | (intro zz; exact fun j j0 => by rw [b38 j j0]; exact sV j j0), fun z => by first | (exfalso; omega) | (intro zz; exact fun j j0 => by rw [b38 j j0, sV j j0]; rcases vX with y | y; (rw [← y.2, sc]; first | rfl | rw [Int.add_comm]); (exfalso; omega)), fun z => by first | (exfalso; omega) | (exact rK.2.2.2.2.2.2.2.2.1 (by omega)), fun z => by first | (exfalso; omega) | exact ⟨by omega, fun j j0 => a42 j j0⟩, fun z => by first | (exfalso; omega) | (exact rK.2.2.2.2.2.2.2.2.2 (by omega)), fun z => by first | (exfalso; omega) | omega⟩, fun z => fun j j0 => a37 j j0, fun z => absurd z (by omega)⟩⟩
  · refine zr_sw (i := .tableswitch 245 1 28 #[127, 127, 136, 136, 136, 127, 144, 164, 176, 245, 245, 245, 245, 245, 245, 245, 245, 245, 245, 245, 190, 245, 245, 245, 245, 245, 245, 218]) (len := 127) (t := 246) (x := op) (k := 11) (pc := 1) rfl c1 rfl rfl rfl rfl ?_
    refine zx_T.l (i := .aload_n 0) (k := 1) (v := .ref 34) (pc := 246) rfl rfl rfl ?_
    refine zx_T.l (i := .iload_n 1) (k := 1) (v := .int (zI (op))) (pc := 247) rfl rfl rfl ?_
    refine zw_iv (b := 34) (cj := 67) (q' := zp_m67) (As := [.int (zI (op))]) (rest := []) (pc := 248) rfl rfl rfl rfl rfl rfl rfl (Nat.le_of_ble_eq_true rfl) rfl (Nat.le_of_ble_eq_true rfl) hI ((zm_mReckon (h := h) hI (op := op) (by omega) (by omega)).up (Nat.le_of_ble_eq_true rfl)) ?_
    rintro r126 h129 ⟨ih129, w130, r126q, x128⟩
    subst r126q
    try dsimp only at x128
    have rK := x128
    show zx_T zp_P 4 zp_m66 251 [(0, .ref 34), (1, .int (zI (op))), (2, .int (zI (a)))] [] h129 _
    have b38 : ∀ j, 0 ≤ j → zv_b h129 38 j = zv_b h129 38 j := fun j hj => rfl
    have a43 : ∀ j, 0 ≤ j → zv_a h129 43 j = zv_a h129 43 j := fun j hj => rfl
    have a42 : ∀ j, 0 ≤ j → zv_a h129 42 j = zv_a h 42 j := fun j hj => by rw [zv_wa w130 rfl j]
    have a37 : ∀ j, 0 ≤ j → zv_a h129 37 j = zv_a h 37 j := fun j hj => by rw [zv_wa w130 rfl j]
    have y135 : zv_f h129 41 2 = zv_f h 41 2 := (zv_wf w130 rfl)
    exact zr_vr (pc := 251) rfl rfl ⟨ih129, (w130.wd rfl : zb_W [(38, 0), (42, 0), (43, 0), (41, 2), (37, 0)] h _), rfl, by dsimp only; exact ⟨⟨fun z => by first | (exfalso; omega) | (exact fun j j0 => by rw [b38 j j0, lV j j0]), fun z => by first | (exfalso; omega) | (exact fun j j0 => by rw [b38 j j0, lV j j0]), fun z => by first | (exfalso; omega) | (intro zz; rcases aX with y | y; (exfalso; apply y.1; rw [t0_152]; exact zz); (refine ⟨fun j j0 => by rw [b38 j j0, lV j j0, y.2.1], by omega, fun j j0 => by rw [a42 j j0, y.2.2.2.1 j j0, t0_152], fun j j0 => by rw [a43 j j0, y.2.2.2.2 j j0, t0_152]⟩)), fun z => by first | (exfalso; omega) | (intro zz; exact fun j j0 => by rw [b38 j j0, lV j j0]; rcases vX with y | y; (rw [y.2]); (exfalso; omega)), fun z => by first | (exfalso; omega) | (intro zz; exact fun j j0 => by rw [b38 j j0]; exact sV j j0), fun z => by first | (exfalso; omega) | (intro zz; exact fun j j0 => by rw [b38 j j0, sV j j0]; rcases vX with y | y; (rw [← y.2, sc]; first | rfl | rw [Int.add_comm]); (exfalso; omega)), fun z => by first | (exfalso; omega) | (exact rK.2.2.2.2.2.2.2.2.1 (by omega)), fun z => by first | (exfalso; omega) | exact ⟨by omega, fun j j0 => a42 j j0⟩, fun z => by first | (exfalso; omega) | (exact rK.2.2.2.2.2.2.2.2.2 (by omega)), fun z => by first | (exfalso; omega) | omega⟩, fun z => fun j j0 => a37 j j0, fun z => absurd z (by omega)⟩⟩
  · refine zr_sw (i := .tableswitch 245 1 28 #[127, 127, 136, 136, 136, 127, 144, 164, 176, 245, 245, 245, 245, 245, 245, 245, 245, 245, 245, 245, 190, 245, 245, 245, 245, 245, 245, 218]) (len := 127) (t := 246) (x := op) (k := 12) (pc := 1) rfl c1 rfl rfl rfl rfl ?_
    refine zx_T.l (i := .aload_n 0) (k := 1) (v := .ref 34) (pc := 246) rfl rfl rfl ?_
    refine zx_T.l (i := .iload_n 1) (k := 1) (v := .int (zI (op))) (pc := 247) rfl rfl rfl ?_
    refine zw_iv (b := 34) (cj := 67) (q' := zp_m67) (As := [.int (zI (op))]) (rest := []) (pc := 248) rfl rfl rfl rfl rfl rfl rfl (Nat.le_of_ble_eq_true rfl) rfl (Nat.le_of_ble_eq_true rfl) hI ((zm_mReckon (h := h) hI (op := op) (by omega) (by omega)).up (Nat.le_of_ble_eq_true rfl)) ?_
    rintro r136 h139 ⟨ih139, w140, r136q, x138⟩
    subst r136q
    try dsimp only at x138
    have rK := x138
    show zx_T zp_P 4 zp_m66 251 [(0, .ref 34), (1, .int (zI (op))), (2, .int (zI (a)))] [] h139 _
    have b38 : ∀ j, 0 ≤ j → zv_b h139 38 j = zv_b h139 38 j := fun j hj => rfl
    have a43 : ∀ j, 0 ≤ j → zv_a h139 43 j = zv_a h139 43 j := fun j hj => rfl
    have a42 : ∀ j, 0 ≤ j → zv_a h139 42 j = zv_a h 42 j := fun j hj => by rw [zv_wa w140 rfl j]
    have a37 : ∀ j, 0 ≤ j → zv_a h139 37 j = zv_a h 37 j := fun j hj => by rw [zv_wa w140 rfl j]
    have y145 : zv_f h139 41 2 = zv_f h 41 2 := (zv_wf w140 rfl)
    exact zr_vr (pc := 251) rfl rfl ⟨ih139, (w140.wd rfl : zb_W [(38, 0), (42, 0), (43, 0), (41, 2), (37, 0)] h _), rfl, by dsimp only; exact ⟨⟨fun z => by first | (exfalso; omega) | (exact fun j j0 => by rw [b38 j j0, lV j j0]), fun z => by first | (exfalso; omega) | (exact fun j j0 => by rw [b38 j j0, lV j j0]), fun z => by first | (exfalso; omega) | (intro zz; rcases aX with y | y; (exfalso; apply y.1; rw [t0_152]; exact zz); (refine ⟨fun j j0 => by rw [b38 j j0, lV j j0, y.2.1], by omega, fun j j0 => by rw [a42 j j0, y.2.2.2.1 j j0, t0_152], fun j j0 => by rw [a43 j j0, y.2.2.2.2 j j0, t0_152]⟩)), fun z => by first | (exfalso; omega) | (intro zz; exact fun j j0 => by rw [b38 j j0, lV j j0]; rcases vX with y | y; (rw [y.2]); (exfalso; omega)), fun z => by first | (exfalso; omega) | (intro zz; exact fun j j0 => by rw [b38 j j0]; exact sV j j0), fun z => by first | (exfalso; omega) | (intro zz; exact fun j j0 => by rw [b38 j j0, sV j j0]; rcases vX with y | y; (rw [← y.2, sc]; first | rfl | rw [Int.add_comm]); (exfalso; omega)), fun z => by first | (exfalso; omega) | (exact rK.2.2.2.2.2.2.2.2.1 (by omega)), fun z => by first | (exfalso; omega) | exact ⟨by omega, fun j j0 => a42 j j0⟩, fun z => by first | (exfalso; omega) | (exact rK.2.2.2.2.2.2.2.2.2 (by omega)), fun z => by first | (exfalso; omega) | exact rK⟩, fun z => fun j j0 => a37 j j0, fun z => absurd z (by omega)⟩⟩
  · refine zr_sw (i := .tableswitch 245 1 28 #[127, 127, 136, 136, 136, 127, 144, 164, 176, 245, 245, 245, 245, 245, 245, 245, 245, 245, 245, 245, 190, 245, 245, 245, 245, 245, 245, 218]) (len := 127) (t := 246) (x := op) (k := 13) (pc := 1) rfl c1 rfl rfl rfl rfl ?_
    refine zx_T.l (i := .aload_n 0) (k := 1) (v := .ref 34) (pc := 246) rfl rfl rfl ?_
    refine zx_T.l (i := .iload_n 1) (k := 1) (v := .int (zI (op))) (pc := 247) rfl rfl rfl ?_
    refine zw_iv (b := 34) (cj := 67) (q' := zp_m67) (As := [.int (zI (op))]) (rest := []) (pc := 248) rfl rfl rfl rfl rfl rfl rfl (Nat.le_of_ble_eq_true rfl) rfl (Nat.le_of_ble_eq_true rfl) hI ((zm_mReckon (h := h) hI (op := op) (by omega) (by omega)).up (Nat.le_of_ble_eq_true rfl)) ?_
    rintro r146 h149 ⟨ih149, w150, r146q, x148⟩
    subst r146q
    try dsimp only at x148
    have rK := x148
    show zx_T zp_P 4 zp_m66 251 [(0, .ref 34), (1, .int (zI (op))), (2, .int (zI (a)))] [] h149 _
    have b38 : ∀ j, 0 ≤ j → zv_b h149 38 j = zv_b h149 38 j := fun j hj => rfl
    have a43 : ∀ j, 0 ≤ j → zv_a h149 43 j = zv_a h149 43 j := fun j hj => rfl
    have a42 : ∀ j, 0 ≤ j → zv_a h149 42 j = zv_a h 42 j := fun j hj => by rw [zv_wa w150 rfl j]
    have a37 : ∀ j, 0 ≤ j → zv_a h149 37 j = zv_a h 37 j := fun j hj => by rw [zv_wa w150 rfl j]
    have y155 : zv_f h149 41 2 = zv_f h 41 2 := (zv_wf w150 rfl)
    exact zr_vr (pc := 251) rfl rfl ⟨ih149, (w150.wd rfl : zb_W [(38, 0), (42, 0), (43, 0), (41, 2), (37, 0)] h _), rfl, by dsimp only; exact ⟨⟨fun z => by first | (exfalso; omega) | (exact fun j j0 => by rw [b38 j j0, lV j j0]), fun z => by first | (exfalso; omega) | (exact fun j j0 => by rw [b38 j j0, lV j j0]), fun z => by first | (exfalso; omega) | (intro zz; rcases aX with y | y; (exfalso; apply y.1; rw [t0_152]; exact zz); (refine ⟨fun j j0 => by rw [b38 j j0, lV j j0, y.2.1], by omega, fun j j0 => by rw [a42 j j0, y.2.2.2.1 j j0, t0_152], fun j j0 => by rw [a43 j j0, y.2.2.2.2 j j0, t0_152]⟩)), fun z => by first | (exfalso; omega) | (intro zz; exact fun j j0 => by rw [b38 j j0, lV j j0]; rcases vX with y | y; (rw [y.2]); (exfalso; omega)), fun z => by first | (exfalso; omega) | (intro zz; exact fun j j0 => by rw [b38 j j0]; exact sV j j0), fun z => by first | (exfalso; omega) | (intro zz; exact fun j j0 => by rw [b38 j j0, sV j j0]; rcases vX with y | y; (rw [← y.2, sc]; first | rfl | rw [Int.add_comm]); (exfalso; omega)), fun z => by first | (exfalso; omega) | (exact rK.2.2.2.2.2.2.2.2.1 (by omega)), fun z => by first | (exfalso; omega) | exact ⟨by omega, fun j j0 => a42 j j0⟩, fun z => by first | (exfalso; omega) | (exact rK.2.2.2.2.2.2.2.2.2 (by omega)), fun z => by first | (exfalso; omega) | exact rK⟩, fun z => fun j j0 => a37 j j0, fun z => absurd z (by omega)⟩⟩
  · refine zr_sw (i := .tableswitch 245 1 28 #[127, 127, 136, 136, 136, 127, 144, 164, 176, 245, 245, 245, 245, 245, 245, 245, 245, 245, 245, 245, 190, 245, 245, 245, 245, 245, 245, 218]) (len := 127) (t := 246) (x := op) (k := 14) (pc := 1) rfl c1 rfl rfl rfl rfl ?_
    refine zx_T.l (i := .aload_n 0) (k := 1) (v := .ref 34) (pc := 246) rfl rfl rfl ?_
    refine zx_T.l (i := .iload_n 1) (k := 1) (v := .int (zI (op))) (pc := 247) rfl rfl rfl ?_
    refine zw_iv (b := 34) (cj := 67) (q' := zp_m67) (As := [.int (zI (op))]) (rest := []) (pc := 248) rfl rfl rfl rfl rfl rfl rfl (Nat.le_of_ble_eq_true rfl) rfl (Nat.le_of_ble_eq_true rfl) hI ((zm_mReckon (h := h) hI (op := op) (by omega) (by omega)).up (Nat.le_of_ble_eq_true rfl)) ?_
    rintro r156 h159 ⟨ih159, w160, r156q, x158⟩
    subst r156q
    try dsimp only at x158
    have rK := x158
    show zx_T zp_P 4 zp_m66 251 [(0, .ref 34), (1, .int (zI (op))), (2, .int (zI (a)))] [] h159 _
    have b38 : ∀ j, 0 ≤ j → zv_b h159 38 j = zv_b h159 38 j := fun j hj => rfl
    have a43 : ∀ j, 0 ≤ j → zv_a h159 43 j = zv_a h159 43 j := fun j hj => rfl
    have a42 : ∀ j, 0 ≤ j → zv_a h159 42 j = zv_a h 42 j := fun j hj => by rw [zv_wa w160 rfl j]
    have a37 : ∀ j, 0 ≤ j → zv_a h159 37 j = zv_a h 37 j := fun j hj => by rw [zv_wa w160 rfl j]
    have y165 : zv_f h159 41 2 = zv_f h 41 2 := (zv_wf w160 rfl)
    exact zr_vr (pc := 251) rfl rfl ⟨ih159, (w160.wd rfl : zb_W [(38, 0), (42, 0), (43, 0), (41, 2), (37, 0)] h _), rfl, by dsimp only; exact ⟨⟨fun z => by first | (exfalso; omega) | (exact fun j j0 => by rw [b38 j j0, lV j j0]), fun z => by first | (exfalso; omega) | (exact fun j j0 => by rw [b38 j j0, lV j j0]), fun z => by first | (exfalso; omega) | (intro zz; rcases aX with y | y; (exfalso; apply y.1; rw [t0_152]; exact zz); (refine ⟨fun j j0 => by rw [b38 j j0, lV j j0, y.2.1], by omega, fun j j0 => by rw [a42 j j0, y.2.2.2.1 j j0, t0_152], fun j j0 => by rw [a43 j j0, y.2.2.2.2 j j0, t0_152]⟩)), fun z => by first | (exfalso; omega) | (intro zz; exact fun j j0 => by rw [b38 j j0, lV j j0]; rcases vX with y | y; (rw [y.2]); (exfalso; omega)), fun z => by first | (exfalso; omega) | (intro zz; exact fun j j0 => by rw [b38 j j0]; exact sV j j0), fun z => by first | (exfalso; omega) | (intro zz; exact fun j j0 => by rw [b38 j j0, sV j j0]; rcases vX with y | y; (rw [← y.2, sc]; first | rfl | rw [Int.add_comm]); (exfalso; omega)), fun z => by first | (exfalso; omega) | (exact rK.2.2.2.2.2.2.2.2.1 (by omega)), fun z => by first | (exfalso; omega) | exact ⟨by omega, fun j j0 => a42 j j0⟩, fun z => by first | (exfalso; omega) | (exact rK.2.2.2.2.2.2.2.2.2 (by omega)), fun z => by first | (exfalso; omega) | exact rK⟩, fun z => fun j j0 => a37 j j0, fun z => absurd z (by omega)⟩⟩
  · refine zr_sw (i := .tableswitch 245 1 28 #[127, 127, 136, 136, 136, 127, 144, 164, 176, 245, 245, 245, 245, 245, 245, 245, 245, 245, 245, 245, 190, 245, 245, 245, 245, 245, 245, 218]) (len := 127) (t := 246) (x := op) (k := 15) (pc := 1) rfl c1 rfl rfl rfl rfl ?_
    refine zx_T.l (i := .aload_n 0) (k := 1) (v := .ref 34) (pc := 246) rfl rfl rfl ?_
    refine zx_T.l (i := .iload_n 1) (k := 1) (v := .int (zI (op))) (pc := 247) rfl rfl rfl ?_
    refine zw_iv (b := 34) (cj := 67) (q' := zp_m67) (As := [.int (zI (op))]) (rest := []) (pc := 248) rfl rfl rfl rfl rfl rfl rfl (Nat.le_of_ble_eq_true rfl) rfl (Nat.le_of_ble_eq_true rfl) hI ((zm_mReckon (h := h) hI (op := op) (by omega) (by omega)).up (Nat.le_of_ble_eq_true rfl)) ?_
    rintro r166 h169 ⟨ih169, w170, r166q, x168⟩
    subst r166q
    try dsimp only at x168
    have rK := x168
    show zx_T zp_P 4 zp_m66 251 [(0, .ref 34), (1, .int (zI (op))), (2, .int (zI (a)))] [] h169 _
    have b38 : ∀ j, 0 ≤ j → zv_b h169 38 j = zv_b h169 38 j := fun j hj => rfl
    have a43 : ∀ j, 0 ≤ j → zv_a h169 43 j = zv_a h169 43 j := fun j hj => rfl
    have a42 : ∀ j, 0 ≤ j → zv_a h169 42 j = zv_a h 42 j := fun j hj => by rw [zv_wa w170 rfl j]
    have a37 : ∀ j, 0 ≤ j → zv_a h169 37 j = zv_a h 37 j := fun j hj => by rw [zv_wa w170 rfl j]
    have y175 : zv_f h169 41 2 = zv_f h 41 2 := (zv_wf w170 rfl)
    exact zr_vr (pc := 251) rfl rfl ⟨ih169, (w170.wd rfl : zb_W [(38, 0), (42, 0), (43, 0), (41, 2), (37, 0)] h _), rfl, by dsimp only; exact ⟨⟨fun z => by first | (exfalso; omega) | (exact fun j j0 => by rw [b38 j j0, lV j j0]), fun z => by first | (exfalso; omega) | (exact fun j j0 => by rw [b38 j j0, lV j j0]), fun z => by first | (exfalso; omega) | (intro zz; rcases aX with y | y; (exfalso; apply y.1; rw [t0_152]; exact zz); (refine ⟨fun j j0 => by rw [b38 j j0, lV j j0, y.2.1], by omega, fun j j0 => by rw [a42 j j0, y.2.2.2.1 j j0, t0_152], fun j j0 => by rw [a43 j j0, y.2.2.2.2 j j0, t0_152]⟩)), fun z => by first | (exfalso; omega) | (intro zz; exact fun j j0 => by rw [b38 j j0, lV j j0]; rcases vX with y | y; (rw [y.2]); (exfalso; omega)), fun z => by first | (exfalso; omega) | (intro zz; exact fun j j0 => by rw [b38 j j0]; exact sV j j0), fun z => by first | (exfalso; omega) | (intro zz; exact fun j j0 => by rw [b38 j j0, sV j j0]; rcases vX with y | y; (rw [← y.2, sc]; first | rfl | rw [Int.add_comm]); (exfalso; omega)), fun z => by first | (exfalso; omega) | (exact rK.2.2.2.2.2.2.2.2.1 (by omega)), fun z => by first | (exfalso; omega) | exact ⟨by omega, fun j j0 => a42 j j0⟩, fun z => by first | (exfalso; omega) | (exact rK.2.2.2.2.2.2.2.2.2 (by omega)), fun z => by first | (exfalso; omega) | exact rK⟩, fun z => fun j j0 => a37 j j0, fun z => absurd z (by omega)⟩⟩
  · refine zr_sw (i := .tableswitch 245 1 28 #[127, 127, 136, 136, 136, 127, 144, 164, 176, 245, 245, 245, 245, 245, 245, 245, 245, 245, 245, 245, 190, 245, 245, 245, 245, 245, 245, 218]) (len := 127) (t := 246) (x := op) (k := 16) (pc := 1) rfl c1 rfl rfl rfl rfl ?_
    refine zx_T.l (i := .aload_n 0) (k := 1) (v := .ref 34) (pc := 246) rfl rfl rfl ?_
    refine zx_T.l (i := .iload_n 1) (k := 1) (v := .int (zI (op))) (pc := 247) rfl rfl rfl ?_
    refine zw_iv (b := 34) (cj := 67) (q' := zp_m67) (As := [.int (zI (op))]) (rest := []) (pc := 248) rfl rfl rfl rfl rfl rfl rfl (Nat.le_of_ble_eq_true rfl) rfl (Nat.le_of_ble_eq_true rfl) hI ((zm_mReckon (h := h) hI (op := op) (by omega) (by omega)).up (Nat.le_of_ble_eq_true rfl)) ?_
    rintro r176 h179 ⟨ih179, w180, r176q, x178⟩
    subst r176q
    try dsimp only at x178
    have rK := x178
    show zx_T zp_P 4 zp_m66 251 [(0, .ref 34), (1, .int (zI (op))), (2, .int (zI (a)))] [] h179 _
    have b38 : ∀ j, 0 ≤ j → zv_b h179 38 j = zv_b h179 38 j := fun j hj => rfl
    have a43 : ∀ j, 0 ≤ j → zv_a h179 43 j = zv_a h179 43 j := fun j hj => rfl
    have a42 : ∀ j, 0 ≤ j → zv_a h179 42 j = zv_a h 42 j := fun j hj => by rw [zv_wa w180 rfl j]
    have a37 : ∀ j, 0 ≤ j → zv_a h179 37 j = zv_a h 37 j := fun j hj => by rw [zv_wa w180 rfl j]
    have y185 : zv_f h179 41 2 = zv_f h 41 2 := (zv_wf w180 rfl)
    exact zr_vr (pc := 251) rfl rfl ⟨ih179, (w180.wd rfl : zb_W [(38, 0), (42, 0), (43, 0), (41, 2), (37, 0)] h _), rfl, by dsimp only; exact ⟨⟨fun z => by first | (exfalso; omega) | (exact fun j j0 => by rw [b38 j j0, lV j j0]), fun z => by first | (exfalso; omega) | (exact fun j j0 => by rw [b38 j j0, lV j j0]), fun z => by first | (exfalso; omega) | (intro zz; rcases aX with y | y; (exfalso; apply y.1; rw [t0_152]; exact zz); (refine ⟨fun j j0 => by rw [b38 j j0, lV j j0, y.2.1], by omega, fun j j0 => by rw [a42 j j0, y.2.2.2.1 j j0, t0_152], fun j j0 => by rw [a43 j j0, y.2.2.2.2 j j0, t0_152]⟩)), fun z => by first | (exfalso; omega) | (intro zz; exact fun j j0 => by rw [b38 j j0, lV j j0]; rcases vX with y | y; (rw [y.2]); (exfalso; omega)), fun z => by first | (exfalso; omega) | (intro zz; exact fun j j0 => by rw [b38 j j0]; exact sV j j0), fun z => by first | (exfalso; omega) | (intro zz; exact fun j j0 => by rw [b38 j j0, sV j j0]; rcases vX with y | y; (rw [← y.2, sc]; first | rfl | rw [Int.add_comm]); (exfalso; omega)), fun z => by first | (exfalso; omega) | (exact rK.2.2.2.2.2.2.2.2.1 (by omega)), fun z => by first | (exfalso; omega) | exact ⟨by omega, fun j j0 => a42 j j0⟩, fun z => by first | (exfalso; omega) | (exact rK.2.2.2.2.2.2.2.2.2 (by omega)), fun z => by first | (exfalso; omega) | exact rK⟩, fun z => fun j j0 => a37 j j0, fun z => absurd z (by omega)⟩⟩
  · refine zr_sw (i := .tableswitch 245 1 28 #[127, 127, 136, 136, 136, 127, 144, 164, 176, 245, 245, 245, 245, 245, 245, 245, 245, 245, 245, 245, 190, 245, 245, 245, 245, 245, 245, 218]) (len := 127) (t := 246) (x := op) (k := 17) (pc := 1) rfl c1 rfl rfl rfl rfl ?_
    refine zx_T.l (i := .aload_n 0) (k := 1) (v := .ref 34) (pc := 246) rfl rfl rfl ?_
    refine zx_T.l (i := .iload_n 1) (k := 1) (v := .int (zI (op))) (pc := 247) rfl rfl rfl ?_
    refine zw_iv (b := 34) (cj := 67) (q' := zp_m67) (As := [.int (zI (op))]) (rest := []) (pc := 248) rfl rfl rfl rfl rfl rfl rfl (Nat.le_of_ble_eq_true rfl) rfl (Nat.le_of_ble_eq_true rfl) hI ((zm_mReckon (h := h) hI (op := op) (by omega) (by omega)).up (Nat.le_of_ble_eq_true rfl)) ?_
    rintro r186 h189 ⟨ih189, w190, r186q, x188⟩
    subst r186q
    try dsimp only at x188
    have rK := x188
    show zx_T zp_P 4 zp_m66 251 [(0, .ref 34), (1, .int (zI (op))), (2, .int (zI (a)))] [] h189 _
    have b38 : ∀ j, 0 ≤ j → zv_b h189 38 j = zv_b h189 38 j := fun j hj => rfl
    have a43 : ∀ j, 0 ≤ j → zv_a h189 43 j = zv_a h189 43 j := fun j hj => rfl
    have a42 : ∀ j, 0 ≤ j → zv_a h189 42 j = zv_a h 42 j := fun j hj => by rw [zv_wa w190 rfl j]
    have a37 : ∀ j, 0 ≤ j → zv_a h189 37 j = zv_a h 37 j := fun j hj => by rw [zv_wa w190 rfl j]
    have y195 : zv_f h189 41 2 = zv_f h 41 2 := (zv_wf w190 rfl)
    exact zr_vr (pc := 251) rfl rfl ⟨ih189, (w190.wd rfl : zb_W [(38, 0), (42, 0), (43, 0), (41, 2), (37, 0)] h _), rfl, by dsimp only; exact ⟨⟨fun z => by first | (exfalso; omega) | (exact fun j j0 => by rw [b38 j j0, lV j j0]), fun z => by first | (exfalso; omega) | (exact fun j j0 => by rw [b38 j j0, lV j j0]), fun z => by first | (exfalso; omega) | (intro zz; rcases aX with y | y; (exfalso; apply y.1; rw [t0_152]; exact zz); (refine ⟨fun j j0 => by rw [b38 j j0, lV j j0, y.2.1], by omega, fun j j0 => by rw [a42 j j0, y.2.2.2.1 j j0, t0_152], fun j j0 => by rw [a43 j j0, y.2.2.2.2 j j0, t0_152]⟩)), fun z => by first | (exfalso; omega) | (intro zz; exact fun j j0 => by rw [b38 j j0, lV j j0]; rcases vX with y | y; (rw [y.2]); (exfalso; omega)), fun z => by first | (exfalso; omega) | (intro zz; exact fun j j0 => by rw [b38 j j0]; exact sV j j0), fun z => by first | (exfalso; omega) | (intro zz; exact fun j j0 => by rw [b38 j j0, sV j j0]; rcases vX with y | y; (rw [← y.2, sc]; first | rfl | rw [Int.add_comm]); (exfalso; omega)), fun z => by first | (exfalso; omega) | (exact rK.2.2.2.2.2.2.2.2.1 (by omega)), fun z => by first | (exfalso; omega) | exact ⟨by omega, fun j j0 => a42 j j0⟩, fun z => by first | (exfalso; omega) | (exact rK.2.2.2.2.2.2.2.2.2 (by omega)), fun z => by first | (exfalso; omega) | exact rK⟩, fun z => fun j j0 => a37 j j0, fun z => absurd z (by omega)⟩⟩
  · refine zr_sw (i := .tableswitch 245 1 28 #[127, 127, 136, 136, 136, 127, 144, 164, 176, 245, 245, 245, 245, 245, 245, 245, 245, 245, 245, 245, 190, 245, 245, 245, 245, 245, 245, 218]) (len := 127) (t := 246) (x := op) (k := 18) (pc := 1) rfl c1 rfl rfl rfl rfl ?_
    refine zx_T.l (i := .aload_n 0) (k := 1) (v := .ref 34) (pc := 246) rfl rfl rfl ?_
    refine zx_T.l (i := .iload_n 1) (k := 1) (v := .int (zI (op))) (pc := 247) rfl rfl rfl ?_
    refine zw_iv (b := 34) (cj := 67) (q' := zp_m67) (As := [.int (zI (op))]) (rest := []) (pc := 248) rfl rfl rfl rfl rfl rfl rfl (Nat.le_of_ble_eq_true rfl) rfl (Nat.le_of_ble_eq_true rfl) hI ((zm_mReckon (h := h) hI (op := op) (by omega) (by omega)).up (Nat.le_of_ble_eq_true rfl)) ?_
    rintro r196 h199 ⟨ih199, w200, r196q, x198⟩
    subst r196q
    try dsimp only at x198
    have rK := x198
    show zx_T zp_P 4 zp_m66 251 [(0, .ref 34), (1, .int (zI (op))), (2, .int (zI (a)))] [] h199 _
    have b38 : ∀ j, 0 ≤ j → zv_b h199 38 j = zv_b h199 38 j := fun j hj => rfl
    have a43 : ∀ j, 0 ≤ j → zv_a h199 43 j = zv_a h199 43 j := fun j hj => rfl
    have a42 : ∀ j, 0 ≤ j → zv_a h199 42 j = zv_a h 42 j := fun j hj => by rw [zv_wa w200 rfl j]
    have a37 : ∀ j, 0 ≤ j → zv_a h199 37 j = zv_a h 37 j := fun j hj => by rw [zv_wa w200 rfl j]
    have y205 : zv_f h199 41 2 = zv_f h 41 2 := (zv_wf w200 rfl)
    exact zr_vr (pc := 251) rfl rfl ⟨ih199, (w200.wd rfl : zb_W [(38, 0), (42, 0), (43, 0), (41, 2), (37, 0)] h _), rfl, by dsimp only; exact ⟨⟨fun z => by first | (exfalso; omega) | (exact fun j j0 => by rw [b38 j j0, lV j j0]), fun z => by first | (exfalso; omega) | (exact fun j j0 => by rw [b38 j j0, lV j j0]), fun z => by first | (exfalso; omega) | (intro zz; rcases aX with y | y; (exfalso; apply y.1; rw [t0_152]; exact zz); (refine ⟨fun j j0 => by rw [b38 j j0, lV j j0, y.2.1], by omega, fun j j0 => by rw [a42 j j0, y.2.2.2.1 j j0, t0_152], fun j j0 => by rw [a43 j j0, y.2.2.2.2 j j0, t0_152]⟩)), fun z => by first | (exfalso; omega) | (intro zz; exact fun j j0 => by rw [b38 j j0, lV j j0]; rcases vX with y | y; (rw [y.2]); (exfalso; omega)), fun z => by first | (exfalso; omega) | (intro zz; exact fun j j0 => by rw [b38 j j0]; exact sV j j0), fun z => by first | (exfalso; omega) | (intro zz; exact fun j j0 => by rw [b38 j j0, sV j j0]; rcases vX with y | y; (rw [← y.2, sc]; first | rfl | rw [Int.add_comm]); (exfalso; omega)), fun z => by first | (exfalso; omega) | (exact rK.2.2.2.2.2.2.2.2.1 (by omega)), fun z => by first | (exfalso; omega) | exact ⟨by omega, fun j j0 => a42 j j0⟩, fun z => by first | (exfalso; omega) | (exact rK.2.2.2.2.2.2.2.2.2 (by omega)), fun z => by first | (exfalso; omega) | exact rK⟩, fun z => fun j j0 => a37 j j0, fun z => absurd z (by omega)⟩⟩
  · refine zr_sw (i := .tableswitch 245 1 28 #[127, 127, 136, 136, 136, 127, 144, 164, 176, 245, 245, 245, 245, 245, 245, 245, 245, 245, 245, 245, 190, 245, 245, 245, 245, 245, 245, 218]) (len := 127) (t := 246) (x := op) (k := 19) (pc := 1) rfl c1 rfl rfl rfl rfl ?_
    refine zx_T.l (i := .aload_n 0) (k := 1) (v := .ref 34) (pc := 246) rfl rfl rfl ?_
    refine zx_T.l (i := .iload_n 1) (k := 1) (v := .int (zI (op))) (pc := 247) rfl rfl rfl ?_
    refine zw_iv (b := 34) (cj := 67) (q' := zp_m67) (As := [.int (zI (op))]) (rest := []) (pc := 248) rfl rfl rfl rfl rfl rfl rfl (Nat.le_of_ble_eq_true rfl) rfl (Nat.le_of_ble_eq_true rfl) hI ((zm_mReckon (h := h) hI (op := op) (by omega) (by omega)).up (Nat.le_of_ble_eq_true rfl)) ?_
    rintro r206 h209 ⟨ih209, w210, r206q, x208⟩
    subst r206q
    try dsimp only at x208
    have rK := x208
    show zx_T zp_P 4 zp_m66 251 [(0, .ref 34), (1, .int (zI (op))), (2, .int (zI (a)))] [] h209 _
    have b38 : ∀ j, 0 ≤ j → zv_b h209 38 j = zv_b h209 38 j := fun j hj => rfl
    have a43 : ∀ j, 0 ≤ j → zv_a h209 43 j = zv_a h209 43 j := fun j hj => rfl
    have a42 : ∀ j, 0 ≤ j → zv_a h209 42 j = zv_a h 42 j := fun j hj => by rw [zv_wa w210 rfl j]
    have a37 : ∀ j, 0 ≤ j → zv_a h209 37 j = zv_a h 37 j := fun j hj => by rw [zv_wa w210 rfl j]
    have y215 : zv_f h209 41 2 = zv_f h 41 2 := (zv_wf w210 rfl)
    exact zr_vr (pc := 251) rfl rfl ⟨ih209, (w210.wd rfl : zb_W [(38, 0), (42, 0), (43, 0), (41, 2), (37, 0)] h _), rfl, by dsimp only; exact ⟨⟨fun z => by first | (exfalso; omega) | (exact fun j j0 => by rw [b38 j j0, lV j j0]), fun z => by first | (exfalso; omega) | (exact fun j j0 => by rw [b38 j j0, lV j j0]), fun z => by first | (exfalso; omega) | (intro zz; rcases aX with y | y; (exfalso; apply y.1; rw [t0_152]; exact zz); (refine ⟨fun j j0 => by rw [b38 j j0, lV j j0, y.2.1], by omega, fun j j0 => by rw [a42 j j0, y.2.2.2.1 j j0, t0_152], fun j j0 => by rw [a43 j j0, y.2.2.2.2 j j0, t0_152]⟩)), fun z => by first | (exfalso; omega) | (intro zz; exact fun j j0 => by rw [b38 j j0, lV j j0]; rcases vX with y | y; (rw [y.2]); (exfalso; omega)), fun z => by first | (exfalso; omega) | (intro zz; exact fun j j0 => by rw [b38 j j0]; exact sV j j0), fun z => by first | (exfalso; omega) | (intro zz; exact fun j j0 => by rw [b38 j j0, sV j j0]; rcases vX with y | y; (rw [← y.2, sc]; first | rfl | rw [Int.add_comm]); (exfalso; omega)), fun z => by first | (exfalso; omega) | (exact rK.2.2.2.2.2.2.2.2.1 (by omega)), fun z => by first | (exfalso; omega) | exact ⟨by omega, fun j j0 => a42 j j0⟩, fun z => by first | (exfalso; omega) | (exact rK.2.2.2.2.2.2.2.2.2 (by omega)), fun z => by first | (exfalso; omega) | exact rK⟩, fun z => fun j j0 => a37 j j0, fun z => absurd z (by omega)⟩⟩
  · refine zr_sw (i := .tableswitch 245 1 28 #[127, 127, 136, 136, 136, 127, 144, 164, 176, 245, 245, 245, 245, 245, 245, 245, 245, 245, 245, 245, 190, 245, 245, 245, 245, 245, 245, 218]) (len := 127) (t := 246) (x := op) (k := 20) (pc := 1) rfl c1 rfl rfl rfl rfl ?_
    refine zx_T.l (i := .aload_n 0) (k := 1) (v := .ref 34) (pc := 246) rfl rfl rfl ?_
    refine zx_T.l (i := .iload_n 1) (k := 1) (v := .int (zI (op))) (pc := 247) rfl rfl rfl ?_
    refine zw_iv (b := 34) (cj := 67) (q' := zp_m67) (As := [.int (zI (op))]) (rest := []) (pc := 248) rfl rfl rfl rfl rfl rfl rfl (Nat.le_of_ble_eq_true rfl) rfl (Nat.le_of_ble_eq_true rfl) hI ((zm_mReckon (h := h) hI (op := op) (by omega) (by omega)).up (Nat.le_of_ble_eq_true rfl)) ?_
    rintro r216 h219 ⟨ih219, w220, r216q, x218⟩
    subst r216q
    try dsimp only at x218
    have rK := x218
    show zx_T zp_P 4 zp_m66 251 [(0, .ref 34), (1, .int (zI (op))), (2, .int (zI (a)))] [] h219 _
    have b38 : ∀ j, 0 ≤ j → zv_b h219 38 j = zv_b h219 38 j := fun j hj => rfl
    have a43 : ∀ j, 0 ≤ j → zv_a h219 43 j = zv_a h219 43 j := fun j hj => rfl
    have a42 : ∀ j, 0 ≤ j → zv_a h219 42 j = zv_a h 42 j := fun j hj => by rw [zv_wa w220 rfl j]
    have a37 : ∀ j, 0 ≤ j → zv_a h219 37 j = zv_a h 37 j := fun j hj => by rw [zv_wa w220 rfl j]
    have y225 : zv_f h219 41 2 = zv_f h 41 2 := (zv_wf w220 rfl)
    exact zr_vr (pc := 251) rfl rfl ⟨ih219, (w220.wd rfl : zb_W [(38, 0), (42, 0), (43, 0), (41, 2), (37, 0)] h _), rfl, by dsimp only; exact ⟨⟨fun z => by first | (exfalso; omega) | (exact fun j j0 => by rw [b38 j j0, lV j j0]), fun z => by first | (exfalso; omega) | (exact fun j j0 => by rw [b38 j j0, lV j j0]), fun z => by first | (exfalso; omega) | (intro zz; rcases aX with y | y; (exfalso; apply y.1; rw [t0_152]; exact zz); (refine ⟨fun j j0 => by rw [b38 j j0, lV j j0, y.2.1], by omega, fun j j0 => by rw [a42 j j0, y.2.2.2.1 j j0, t0_152], fun j j0 => by rw [a43 j j0, y.2.2.2.2 j j0, t0_152]⟩)), fun z => by first | (exfalso; omega) | (intro zz; exact fun j j0 => by rw [b38 j j0, lV j j0]; rcases vX with y | y; (rw [y.2]); (exfalso; omega)), fun z => by first | (exfalso; omega) | (intro zz; exact fun j j0 => by rw [b38 j j0]; exact sV j j0), fun z => by first | (exfalso; omega) | (intro zz; exact fun j j0 => by rw [b38 j j0, sV j j0]; rcases vX with y | y; (rw [← y.2, sc]; first | rfl | rw [Int.add_comm]); (exfalso; omega)), fun z => by first | (exfalso; omega) | (exact rK.2.2.2.2.2.2.2.2.1 (by omega)), fun z => by first | (exfalso; omega) | exact ⟨by omega, fun j j0 => a42 j j0⟩, fun z => by first | (exfalso; omega) | (exact rK.2.2.2.2.2.2.2.2.2 (by omega)), fun z => by first | (exfalso; omega) | exact rK⟩, fun z => fun j j0 => a37 j j0, fun z => absurd z (by omega)⟩⟩
  · refine zr_sw (i := .tableswitch 245 1 28 #[127, 127, 136, 136, 136, 127, 144, 164, 176, 245, 245, 245, 245, 245, 245, 245, 245, 245, 245, 245, 190, 245, 245, 245, 245, 245, 245, 218]) (len := 127) (t := 191) (x := op) (k := 21) (pc := 1) rfl c1 rfl rfl rfl rfl ?_
    refine zx_T.l (i := .aload_n 0) (k := 1) (v := .ref 34) (pc := 191) rfl rfl rfl ?_
    refine zw_gr (k := 2) (b := 36) (pc := 192) rfl rfl rfl hI ?_
    refine zx_T.s (i := .bipush 8) (k := 2) (st' := [.int (zI (8)), .ref 36]) (pc := 195) rfl rfl ?_
    refine zx_T.l (i := .aload_n 0) (k := 1) (v := .ref 34) (pc := 197) rfl rfl rfl ?_
    refine zw_gr (k := 2) (b := 36) (pc := 198) rfl rfl rfl hI ?_
    refine zw_iv (b := 36) (cj := 116) (q' := zp_m116) (As := []) (rest := [.int (zI (8)), .ref 36]) (pc := 201) rfl rfl rfl rfl rfl rfl rfl (Nat.le_of_ble_eq_true rfl) rfl (Nat.le_of_ble_eq_true rfl) hI ((zm_depth_36 (h := h) hI  ).up (Nat.le_of_ble_eq_true rfl)) ?_
    rintro r226 h229 ⟨h229q, v227, r226q, x228⟩
    subst h229q r226q
    try dsimp only at x228
    show zx_T zp_P 4 zp_m66 204 [(0, .ref 34), (1, .int (zI (op))), (2, .int (zI (a)))] [.int (zI (v227)), .int (zI (8)), .ref 36] h _
    refine zr_add (x := 8) (y := v227) (e := v227 + 8) (pc := 204) rfl (by omega) ?_
    refine zx_T.s (i := .iconst 1) (k := 1) (st' := [.int (zI (1)), .int (zI (v227 + 8)), .ref 36]) (pc := 205) rfl rfl ?_
    refine zr_sub (x := v227 + 8) (y := 1) (e := v227 + 7) (pc := 206) rfl (by omega) ?_
    refine zx_T.l (i := .aload_n 0) (k := 1) (v := .ref 34) (pc := 207) rfl rfl rfl ?_
    refine zw_gr (k := 5) (b := 40) (pc := 208) rfl rfl rfl hI ?_
    refine zx_T.s (i := .iconst 0) (k := 1) (st' := [.int (zI (0)), .ref 40, .int (zI (v227 + 7)), .ref 36]) (pc := 211) rfl rfl ?_
    refine zr_al (n := 3) (lo := (-2147483648)) (hi := 2147483647) (e := zv_a h 40 0) (pc := 212) rfl rfl rfl hI (by omega) (by omega) rfl (fun g230a g230b => ?_)
    refine zw_iv (b := 36) (cj := 119) (q' := zp_m119) (As := [.int (zI (v227 + 7)), .int (zI (zv_a h 40 0))]) (rest := []) (pc := 213) rfl rfl rfl rfl rfl rfl rfl (Nat.le_of_ble_eq_true rfl) rfl (Nat.le_of_ble_eq_true rfl) hI ((zm_setKind_36 (h := h) hI (i := v227 + 7) (k := zv_a h 40 0) (by omega) (by omega) (by omega) (by omega)).up (Nat.le_of_ble_eq_true rfl)) ?_
    rintro r231 h234 ⟨ih234, w235, r231q, x233⟩
    subst r231q
    try dsimp only at x233
    have sk1 := x233
    have sK := x233
    show zx_T zp_P 4 zp_m66 216 [(0, .ref 34), (1, .int (zI (op))), (2, .int (zI (a)))] [] h234 _
    refine zx_T.j (i := .goto 35) (k := 3) (pc' := 251) (st' := []) (pc := 216) rfl rfl rfl rfl rfl ?_
    have b38 : ∀ j, 0 ≤ j → zv_b h234 38 j = zv_b h 38 j := fun j hj => by rw [zv_wb w235 rfl j]
    have a43 : ∀ j, 0 ≤ j → zv_a h234 43 j = zv_a h 43 j := fun j hj => by rw [zv_wa w235 rfl j]
    have a42 : ∀ j, 0 ≤ j → zv_a h234 42 j = zv_a h 42 j := fun j hj => by rw [zv_wa w235 rfl j]
    have a37 : ∀ j, 0 ≤ j → zv_a h234 37 j = zv_a h234 37 j := fun j hj => rfl
    have y240 : zv_f h234 41 2 = zv_f h 41 2 := (zv_wf w235 rfl)
    exact zr_vr (pc := 251) rfl rfl ⟨ih234, (w235.wd rfl : zb_W [(38, 0), (42, 0), (43, 0), (41, 2), (37, 0)] h _), rfl, by dsimp only; exact ⟨⟨fun z => by first | (exfalso; omega) | (exact fun j j0 => by rw [b38 j j0, lV j j0]), fun z => by first | (exfalso; omega) | (exact fun j j0 => by rw [b38 j j0, lV j j0]), fun z => by first | (exfalso; omega) | (intro zz; rcases aX with y | y; (exfalso; apply y.1; rw [t0_152]; exact zz); (refine ⟨fun j j0 => by rw [b38 j j0, lV j j0, y.2.1], by omega, fun j j0 => by rw [a42 j j0, y.2.2.2.1 j j0, t0_152], fun j j0 => by rw [a43 j j0, y.2.2.2.2 j j0, t0_152]⟩)), fun z => by first | (exfalso; omega) | (intro zz; exact fun j j0 => by rw [b38 j j0, lV j j0]; rcases vX with y | y; (rw [y.2]); (exfalso; omega)), fun z => by first | (exfalso; omega) | (intro zz; exact fun j j0 => by rw [b38 j j0]; exact sV j j0), fun z => by first | (exfalso; omega) | (intro zz; exact fun j j0 => by rw [b38 j j0, sV j j0]; rcases vX with y | y; (rw [← y.2, sc]; first | rfl | rw [Int.add_comm]); (exfalso; omega)), fun z => by first | (exfalso; omega) | (exact fun j j0 => b38 j j0), fun z => by first | (exfalso; omega) | exact ⟨by omega, fun j j0 => a42 j j0⟩, fun z => by first | (exfalso; omega) | (exact fun j j0 => a43 j j0), fun z => by first | (exfalso; omega) | omega⟩, fun z => absurd (by omega) z, fun z zz => fun j j0 => by rw [a37 j j0, sK j j0]; by_cases y : j = zv_f h 36 1 + 7; rw [if_pos (by omega), if_pos y]; rw [if_neg (by omega), if_neg y]⟩⟩
  · refine zr_sw (i := .tableswitch 245 1 28 #[127, 127, 136, 136, 136, 127, 144, 164, 176, 245, 245, 245, 245, 245, 245, 245, 245, 245, 245, 245, 190, 245, 245, 245, 245, 245, 245, 218]) (len := 127) (t := 246) (x := op) (k := 22) (pc := 1) rfl c1 rfl rfl rfl rfl ?_
    refine zx_T.l (i := .aload_n 0) (k := 1) (v := .ref 34) (pc := 246) rfl rfl rfl ?_
    refine zx_T.l (i := .iload_n 1) (k := 1) (v := .int (zI (op))) (pc := 247) rfl rfl rfl ?_
    refine zw_iv (b := 34) (cj := 67) (q' := zp_m67) (As := [.int (zI (op))]) (rest := []) (pc := 248) rfl rfl rfl rfl rfl rfl rfl (Nat.le_of_ble_eq_true rfl) rfl (Nat.le_of_ble_eq_true rfl) hI ((zm_mReckon (h := h) hI (op := op) (by omega) (by omega)).up (Nat.le_of_ble_eq_true rfl)) ?_
    rintro r241 h244 ⟨ih244, w245, r241q, x243⟩
    subst r241q
    try dsimp only at x243
    have rK := x243
    show zx_T zp_P 4 zp_m66 251 [(0, .ref 34), (1, .int (zI (op))), (2, .int (zI (a)))] [] h244 _
    have b38 : ∀ j, 0 ≤ j → zv_b h244 38 j = zv_b h244 38 j := fun j hj => rfl
    have a43 : ∀ j, 0 ≤ j → zv_a h244 43 j = zv_a h244 43 j := fun j hj => rfl
    have a42 : ∀ j, 0 ≤ j → zv_a h244 42 j = zv_a h 42 j := fun j hj => by rw [zv_wa w245 rfl j]
    have a37 : ∀ j, 0 ≤ j → zv_a h244 37 j = zv_a h 37 j := fun j hj => by rw [zv_wa w245 rfl j]
    have y250 : zv_f h244 41 2 = zv_f h 41 2 := (zv_wf w245 rfl)
    exact zr_vr (pc := 251) rfl rfl ⟨ih244, (w245.wd rfl : zb_W [(38, 0), (42, 0), (43, 0), (41, 2), (37, 0)] h _), rfl, by dsimp only; exact ⟨⟨fun z => by first | (exfalso; omega) | (exact fun j j0 => by rw [b38 j j0, lV j j0]), fun z => by first | (exfalso; omega) | (exact fun j j0 => by rw [b38 j j0, lV j j0]), fun z => by first | (exfalso; omega) | (intro zz; rcases aX with y | y; (exfalso; apply y.1; rw [t0_152]; exact zz); (refine ⟨fun j j0 => by rw [b38 j j0, lV j j0, y.2.1], by omega, fun j j0 => by rw [a42 j j0, y.2.2.2.1 j j0, t0_152], fun j j0 => by rw [a43 j j0, y.2.2.2.2 j j0, t0_152]⟩)), fun z => by first | (exfalso; omega) | (intro zz; exact fun j j0 => by rw [b38 j j0, lV j j0]; rcases vX with y | y; (rw [y.2]); (exfalso; omega)), fun z => by first | (exfalso; omega) | (intro zz; exact fun j j0 => by rw [b38 j j0]; exact sV j j0), fun z => by first | (exfalso; omega) | (intro zz; exact fun j j0 => by rw [b38 j j0, sV j j0]; rcases vX with y | y; (rw [← y.2, sc]; first | rfl | rw [Int.add_comm]); (exfalso; omega)), fun z => by first | (exfalso; omega) | (exact rK.2.2.2.2.2.2.2.2.1 (by omega)), fun z => by first | (exfalso; omega) | exact ⟨by omega, fun j j0 => a42 j j0⟩, fun z => by first | (exfalso; omega) | (exact rK.2.2.2.2.2.2.2.2.2 (by omega)), fun z => by first | (exfalso; omega) | omega⟩, fun z => fun j j0 => a37 j j0, fun z => absurd z (by omega)⟩⟩
  · refine zr_sw (i := .tableswitch 245 1 28 #[127, 127, 136, 136, 136, 127, 144, 164, 176, 245, 245, 245, 245, 245, 245, 245, 245, 245, 245, 245, 190, 245, 245, 245, 245, 245, 245, 218]) (len := 127) (t := 246) (x := op) (k := 23) (pc := 1) rfl c1 rfl rfl rfl rfl ?_
    refine zx_T.l (i := .aload_n 0) (k := 1) (v := .ref 34) (pc := 246) rfl rfl rfl ?_
    refine zx_T.l (i := .iload_n 1) (k := 1) (v := .int (zI (op))) (pc := 247) rfl rfl rfl ?_
    refine zw_iv (b := 34) (cj := 67) (q' := zp_m67) (As := [.int (zI (op))]) (rest := []) (pc := 248) rfl rfl rfl rfl rfl rfl rfl (Nat.le_of_ble_eq_true rfl) rfl (Nat.le_of_ble_eq_true rfl) hI ((zm_mReckon (h := h) hI (op := op) (by omega) (by omega)).up (Nat.le_of_ble_eq_true rfl)) ?_
    rintro r251 h254 ⟨ih254, w255, r251q, x253⟩
    subst r251q
    try dsimp only at x253
    have rK := x253
    show zx_T zp_P 4 zp_m66 251 [(0, .ref 34), (1, .int (zI (op))), (2, .int (zI (a)))] [] h254 _
    have b38 : ∀ j, 0 ≤ j → zv_b h254 38 j = zv_b h254 38 j := fun j hj => rfl
    have a43 : ∀ j, 0 ≤ j → zv_a h254 43 j = zv_a h254 43 j := fun j hj => rfl
    have a42 : ∀ j, 0 ≤ j → zv_a h254 42 j = zv_a h 42 j := fun j hj => by rw [zv_wa w255 rfl j]
    have a37 : ∀ j, 0 ≤ j → zv_a h254 37 j = zv_a h 37 j := fun j hj => by rw [zv_wa w255 rfl j]
    have y260 : zv_f h254 41 2 = zv_f h 41 2 := (zv_wf w255 rfl)
    exact zr_vr (pc := 251) rfl rfl ⟨ih254, (w255.wd rfl : zb_W [(38, 0), (42, 0), (43, 0), (41, 2), (37, 0)] h _), rfl, by dsimp only; exact ⟨⟨fun z => by first | (exfalso; omega) | (exact fun j j0 => by rw [b38 j j0, lV j j0]), fun z => by first | (exfalso; omega) | (exact fun j j0 => by rw [b38 j j0, lV j j0]), fun z => by first | (exfalso; omega) | (intro zz; rcases aX with y | y; (exfalso; apply y.1; rw [t0_152]; exact zz); (refine ⟨fun j j0 => by rw [b38 j j0, lV j j0, y.2.1], by omega, fun j j0 => by rw [a42 j j0, y.2.2.2.1 j j0, t0_152], fun j j0 => by rw [a43 j j0, y.2.2.2.2 j j0, t0_152]⟩)), fun z => by first | (exfalso; omega) | (intro zz; exact fun j j0 => by rw [b38 j j0, lV j j0]; rcases vX with y | y; (rw [y.2]); (exfalso; omega)), fun z => by first | (exfalso; omega) | (intro zz; exact fun j j0 => by rw [b38 j j0]; exact sV j j0), fun z => by first | (exfalso; omega) | (intro zz; exact fun j j0 => by rw [b38 j j0, sV j j0]; rcases vX with y | y; (rw [← y.2, sc]; first | rfl | rw [Int.add_comm]); (exfalso; omega)), fun z => by first | (exfalso; omega) | (exact rK.2.2.2.2.2.2.2.2.1 (by omega)), fun z => by first | (exfalso; omega) | exact ⟨by omega, fun j j0 => a42 j j0⟩, fun z => by first | (exfalso; omega) | (exact rK.2.2.2.2.2.2.2.2.2 (by omega)), fun z => by first | (exfalso; omega) | omega⟩, fun z => fun j j0 => a37 j j0, fun z => absurd z (by omega)⟩⟩
  · refine zr_sw (i := .tableswitch 245 1 28 #[127, 127, 136, 136, 136, 127, 144, 164, 176, 245, 245, 245, 245, 245, 245, 245, 245, 245, 245, 245, 190, 245, 245, 245, 245, 245, 245, 218]) (len := 127) (t := 246) (x := op) (k := 24) (pc := 1) rfl c1 rfl rfl rfl rfl ?_
    refine zx_T.l (i := .aload_n 0) (k := 1) (v := .ref 34) (pc := 246) rfl rfl rfl ?_
    refine zx_T.l (i := .iload_n 1) (k := 1) (v := .int (zI (op))) (pc := 247) rfl rfl rfl ?_
    refine zw_iv (b := 34) (cj := 67) (q' := zp_m67) (As := [.int (zI (op))]) (rest := []) (pc := 248) rfl rfl rfl rfl rfl rfl rfl (Nat.le_of_ble_eq_true rfl) rfl (Nat.le_of_ble_eq_true rfl) hI ((zm_mReckon (h := h) hI (op := op) (by omega) (by omega)).up (Nat.le_of_ble_eq_true rfl)) ?_
    rintro r261 h264 ⟨ih264, w265, r261q, x263⟩
    subst r261q
    try dsimp only at x263
    have rK := x263
    show zx_T zp_P 4 zp_m66 251 [(0, .ref 34), (1, .int (zI (op))), (2, .int (zI (a)))] [] h264 _
    have b38 : ∀ j, 0 ≤ j → zv_b h264 38 j = zv_b h264 38 j := fun j hj => rfl
    have a43 : ∀ j, 0 ≤ j → zv_a h264 43 j = zv_a h264 43 j := fun j hj => rfl
    have a42 : ∀ j, 0 ≤ j → zv_a h264 42 j = zv_a h 42 j := fun j hj => by rw [zv_wa w265 rfl j]
    have a37 : ∀ j, 0 ≤ j → zv_a h264 37 j = zv_a h 37 j := fun j hj => by rw [zv_wa w265 rfl j]
    have y270 : zv_f h264 41 2 = zv_f h 41 2 := (zv_wf w265 rfl)
    exact zr_vr (pc := 251) rfl rfl ⟨ih264, (w265.wd rfl : zb_W [(38, 0), (42, 0), (43, 0), (41, 2), (37, 0)] h _), rfl, by dsimp only; exact ⟨⟨fun z => by first | (exfalso; omega) | (exact fun j j0 => by rw [b38 j j0, lV j j0]), fun z => by first | (exfalso; omega) | (exact fun j j0 => by rw [b38 j j0, lV j j0]), fun z => by first | (exfalso; omega) | (intro zz; rcases aX with y | y; (exfalso; apply y.1; rw [t0_152]; exact zz); (refine ⟨fun j j0 => by rw [b38 j j0, lV j j0, y.2.1], by omega, fun j j0 => by rw [a42 j j0, y.2.2.2.1 j j0, t0_152], fun j j0 => by rw [a43 j j0, y.2.2.2.2 j j0, t0_152]⟩)), fun z => by first | (exfalso; omega) | (intro zz; exact fun j j0 => by rw [b38 j j0, lV j j0]; rcases vX with y | y; (rw [y.2]); (exfalso; omega)), fun z => by first | (exfalso; omega) | (intro zz; exact fun j j0 => by rw [b38 j j0]; exact sV j j0), fun z => by first | (exfalso; omega) | (intro zz; exact fun j j0 => by rw [b38 j j0, sV j j0]; rcases vX with y | y; (rw [← y.2, sc]; first | rfl | rw [Int.add_comm]); (exfalso; omega)), fun z => by first | (exfalso; omega) | (exact rK.2.2.2.2.2.2.2.2.1 (by omega)), fun z => by first | (exfalso; omega) | exact ⟨by omega, fun j j0 => a42 j j0⟩, fun z => by first | (exfalso; omega) | (exact rK.2.2.2.2.2.2.2.2.2 (by omega)), fun z => by first | (exfalso; omega) | omega⟩, fun z => fun j j0 => a37 j j0, fun z => absurd z (by omega)⟩⟩
  · refine zr_sw (i := .tableswitch 245 1 28 #[127, 127, 136, 136, 136, 127, 144, 164, 176, 245, 245, 245, 245, 245, 245, 245, 245, 245, 245, 245, 190, 245, 245, 245, 245, 245, 245, 218]) (len := 127) (t := 246) (x := op) (k := 25) (pc := 1) rfl c1 rfl rfl rfl rfl ?_
    refine zx_T.l (i := .aload_n 0) (k := 1) (v := .ref 34) (pc := 246) rfl rfl rfl ?_
    refine zx_T.l (i := .iload_n 1) (k := 1) (v := .int (zI (op))) (pc := 247) rfl rfl rfl ?_
    refine zw_iv (b := 34) (cj := 67) (q' := zp_m67) (As := [.int (zI (op))]) (rest := []) (pc := 248) rfl rfl rfl rfl rfl rfl rfl (Nat.le_of_ble_eq_true rfl) rfl (Nat.le_of_ble_eq_true rfl) hI ((zm_mReckon (h := h) hI (op := op) (by omega) (by omega)).up (Nat.le_of_ble_eq_true rfl)) ?_
    rintro r271 h274 ⟨ih274, w275, r271q, x273⟩
    subst r271q
    try dsimp only at x273
    have rK := x273
    show zx_T zp_P 4 zp_m66 251 [(0, .ref 34), (1, .int (zI (op))), (2, .int (zI (a)))] [] h274 _
    have b38 : ∀ j, 0 ≤ j → zv_b h274 38 j = zv_b h274 38 j := fun j hj => rfl
    have a43 : ∀ j, 0 ≤ j → zv_a h274 43 j = zv_a h274 43 j := fun j hj => rfl
    have a42 : ∀ j, 0 ≤ j → zv_a h274 42 j = zv_a h 42 j := fun j hj => by rw [zv_wa w275 rfl j]
    have a37 : ∀ j, 0 ≤ j → zv_a h274 37 j = zv_a h 37 j := fun j hj => by rw [zv_wa w275 rfl j]
    have y280 : zv_f h274 41 2 = zv_f h 41 2 := (zv_wf w275 rfl)
    exact zr_vr (pc := 251) rfl rfl ⟨ih274, (w275.wd rfl : zb_W [(38, 0), (42, 0), (43, 0), (41, 2), (37, 0)] h _), rfl, by dsimp only; exact ⟨⟨fun z => by first | (exfalso; omega) | (exact fun j j0 => by rw [b38 j j0, lV j j0]), fun z => by first | (exfalso; omega) | (exact fun j j0 => by rw [b38 j j0, lV j j0]), fun z => by first | (exfalso; omega) | (intro zz; rcases aX with y | y; (exfalso; apply y.1; rw [t0_152]; exact zz); (refine ⟨fun j j0 => by rw [b38 j j0, lV j j0, y.2.1], by omega, fun j j0 => by rw [a42 j j0, y.2.2.2.1 j j0, t0_152], fun j j0 => by rw [a43 j j0, y.2.2.2.2 j j0, t0_152]⟩)), fun z => by first | (exfalso; omega) | (intro zz; exact fun j j0 => by rw [b38 j j0, lV j j0]; rcases vX with y | y; (rw [y.2]); (exfalso; omega)), fun z => by first | (exfalso; omega) | (intro zz; exact fun j j0 => by rw [b38 j j0]; exact sV j j0), fun z => by first | (exfalso; omega) | (intro zz; exact fun j j0 => by rw [b38 j j0, sV j j0]; rcases vX with y | y; (rw [← y.2, sc]; first | rfl | rw [Int.add_comm]); (exfalso; omega)), fun z => by first | (exfalso; omega) | (exact rK.2.2.2.2.2.2.2.2.1 (by omega)), fun z => by first | (exfalso; omega) | exact ⟨by omega, fun j j0 => a42 j j0⟩, fun z => by first | (exfalso; omega) | (exact rK.2.2.2.2.2.2.2.2.2 (by omega)), fun z => by first | (exfalso; omega) | omega⟩, fun z => fun j j0 => a37 j j0, fun z => absurd z (by omega)⟩⟩
  · refine zr_sw (i := .tableswitch 245 1 28 #[127, 127, 136, 136, 136, 127, 144, 164, 176, 245, 245, 245, 245, 245, 245, 245, 245, 245, 245, 245, 190, 245, 245, 245, 245, 245, 245, 218]) (len := 127) (t := 246) (x := op) (k := 26) (pc := 1) rfl c1 rfl rfl rfl rfl ?_
    refine zx_T.l (i := .aload_n 0) (k := 1) (v := .ref 34) (pc := 246) rfl rfl rfl ?_
    refine zx_T.l (i := .iload_n 1) (k := 1) (v := .int (zI (op))) (pc := 247) rfl rfl rfl ?_
    refine zw_iv (b := 34) (cj := 67) (q' := zp_m67) (As := [.int (zI (op))]) (rest := []) (pc := 248) rfl rfl rfl rfl rfl rfl rfl (Nat.le_of_ble_eq_true rfl) rfl (Nat.le_of_ble_eq_true rfl) hI ((zm_mReckon (h := h) hI (op := op) (by omega) (by omega)).up (Nat.le_of_ble_eq_true rfl)) ?_
    rintro r281 h284 ⟨ih284, w285, r281q, x283⟩
    subst r281q
    try dsimp only at x283
    have rK := x283
    show zx_T zp_P 4 zp_m66 251 [(0, .ref 34), (1, .int (zI (op))), (2, .int (zI (a)))] [] h284 _
    have b38 : ∀ j, 0 ≤ j → zv_b h284 38 j = zv_b h284 38 j := fun j hj => rfl
    have a43 : ∀ j, 0 ≤ j → zv_a h284 43 j = zv_a h284 43 j := fun j hj => rfl
    have a42 : ∀ j, 0 ≤ j → zv_a h284 42 j = zv_a h 42 j := fun j hj => by rw [zv_wa w285 rfl j]
    have a37 : ∀ j, 0 ≤ j → zv_a h284 37 j = zv_a h 37 j := fun j hj => by rw [zv_wa w285 rfl j]
    have y290 : zv_f h284 41 2 = zv_f h 41 2 := (zv_wf w285 rfl)
    exact zr_vr (pc := 251) rfl rfl ⟨ih284, (w285.wd rfl : zb_W [(38, 0), (42, 0), (43, 0), (41, 2), (37, 0)] h _), rfl, by dsimp only; exact ⟨⟨fun z => by first | (exfalso; omega) | (exact fun j j0 => by rw [b38 j j0, lV j j0]), fun z => by first | (exfalso; omega) | (exact fun j j0 => by rw [b38 j j0, lV j j0]), fun z => by first | (exfalso; omega) | (intro zz; rcases aX with y | y; (exfalso; apply y.1; rw [t0_152]; exact zz); (refine ⟨fun j j0 => by rw [b38 j j0, lV j j0, y.2.1], by omega, fun j j0 => by rw [a42 j j0, y.2.2.2.1 j j0, t0_152], fun j j0 => by rw [a43 j j0, y.2.2.2.2 j j0, t0_152]⟩)), fun z => by first | (exfalso; omega) | (intro zz; exact fun j j0 => by rw [b38 j j0, lV j j0]; rcases vX with y | y; (rw [y.2]); (exfalso; omega)), fun z => by first | (exfalso; omega) | (intro zz; exact fun j j0 => by rw [b38 j j0]; exact sV j j0), fun z => by first | (exfalso; omega) | (intro zz; exact fun j j0 => by rw [b38 j j0, sV j j0]; rcases vX with y | y; (rw [← y.2, sc]; first | rfl | rw [Int.add_comm]); (exfalso; omega)), fun z => by first | (exfalso; omega) | (exact rK.2.2.2.2.2.2.2.2.1 (by omega)), fun z => by first | (exfalso; omega) | exact ⟨by omega, fun j j0 => a42 j j0⟩, fun z => by first | (exfalso; omega) | (exact rK.2.2.2.2.2.2.2.2.2 (by omega)), fun z => by first | (exfalso; omega) | omega⟩, fun z => fun j j0 => a37 j j0, fun z => absurd z (by omega)⟩⟩
  · refine zr_sw (i := .tableswitch 245 1 28 #[127, 127, 136, 136, 136, 127, 144, 164, 176, 245, 245, 245, 245, 245, 245, 245, 245, 245, 245, 245, 190, 245, 245, 245, 245, 245, 245, 218]) (len := 127) (t := 246) (x := op) (k := 27) (pc := 1) rfl c1 rfl rfl rfl rfl ?_
    refine zx_T.l (i := .aload_n 0) (k := 1) (v := .ref 34) (pc := 246) rfl rfl rfl ?_
    refine zx_T.l (i := .iload_n 1) (k := 1) (v := .int (zI (op))) (pc := 247) rfl rfl rfl ?_
    refine zw_iv (b := 34) (cj := 67) (q' := zp_m67) (As := [.int (zI (op))]) (rest := []) (pc := 248) rfl rfl rfl rfl rfl rfl rfl (Nat.le_of_ble_eq_true rfl) rfl (Nat.le_of_ble_eq_true rfl) hI ((zm_mReckon (h := h) hI (op := op) (by omega) (by omega)).up (Nat.le_of_ble_eq_true rfl)) ?_
    rintro r291 h294 ⟨ih294, w295, r291q, x293⟩
    subst r291q
    try dsimp only at x293
    have rK := x293
    show zx_T zp_P 4 zp_m66 251 [(0, .ref 34), (1, .int (zI (op))), (2, .int (zI (a)))] [] h294 _
    have b38 : ∀ j, 0 ≤ j → zv_b h294 38 j = zv_b h294 38 j := fun j hj => rfl
    have a43 : ∀ j, 0 ≤ j → zv_a h294 43 j = zv_a h294 43 j := fun j hj => rfl
    have a42 : ∀ j, 0 ≤ j → zv_a h294 42 j = zv_a h 42 j := fun j hj => by rw [zv_wa w295 rfl j]
    have a37 : ∀ j, 0 ≤ j → zv_a h294 37 j = zv_a h 37 j := fun j hj => by rw [zv_wa w295 rfl j]
    have y300 : zv_f h294 41 2 = zv_f h 41 2 := (zv_wf w295 rfl)
    exact zr_vr (pc := 251) rfl rfl ⟨ih294, (w295.wd rfl : zb_W [(38, 0), (42, 0), (43, 0), (41, 2), (37, 0)] h _), rfl, by dsimp only; exact ⟨⟨fun z => by first | (exfalso; omega) | (exact fun j j0 => by rw [b38 j j0, lV j j0]), fun z => by first | (exfalso; omega) | (exact fun j j0 => by rw [b38 j j0, lV j j0]), fun z => by first | (exfalso; omega) | (intro zz; rcases aX with y | y; (exfalso; apply y.1; rw [t0_152]; exact zz); (refine ⟨fun j j0 => by rw [b38 j j0, lV j j0, y.2.1], by omega, fun j j0 => by rw [a42 j j0, y.2.2.2.1 j j0, t0_152], fun j j0 => by rw [a43 j j0, y.2.2.2.2 j j0, t0_152]⟩)), fun z => by first | (exfalso; omega) | (intro zz; exact fun j j0 => by rw [b38 j j0, lV j j0]; rcases vX with y | y; (rw [y.2]); (exfalso; omega)), fun z => by first | (exfalso; omega) | (intro zz; exact fun j j0 => by rw [b38 j j0]; exact sV j j0), fun z => by first | (exfalso; omega) | (intro zz; exact fun j j0 => by rw [b38 j j0, sV j j0]; rcases vX with y | y; (rw [← y.2, sc]; first | rfl | rw [Int.add_comm]); (exfalso; omega)), fun z => by first | (exfalso; omega) | (exact rK.2.2.2.2.2.2.2.2.1 (by omega)), fun z => by first | (exfalso; omega) | exact ⟨by omega, fun j j0 => a42 j j0⟩, fun z => by first | (exfalso; omega) | (exact rK.2.2.2.2.2.2.2.2.2 (by omega)), fun z => by first | (exfalso; omega) | omega⟩, fun z => fun j j0 => a37 j j0, fun z => absurd z (by omega)⟩⟩
  · refine zr_sw (i := .tableswitch 245 1 28 #[127, 127, 136, 136, 136, 127, 144, 164, 176, 245, 245, 245, 245, 245, 245, 245, 245, 245, 245, 245, 190, 245, 245, 245, 245, 245, 245, 218]) (len := 127) (t := 219) (x := op) (k := 28) (pc := 1) rfl c1 rfl rfl rfl rfl ?_
    refine zx_T.l (i := .aload_n 0) (k := 1) (v := .ref 34) (pc := 219) rfl rfl rfl ?_
    refine zx_T.l (i := .iload_n 2) (k := 1) (v := .int (zI (a))) (pc := 220) rfl rfl rfl ?_
    refine zx_T.l (i := .aload_n 0) (k := 1) (v := .ref 34) (pc := 221) rfl rfl rfl ?_
    refine zx_T.l (i := .iload_n 2) (k := 1) (v := .int (zI (a))) (pc := 222) rfl rfl rfl ?_
    refine zw_iv (b := 34) (cj := 71) (q' := zp_m71) (As := [.int (zI (a))]) (rest := [.int (zI (a)), .ref 34]) (pc := 223) rfl rfl rfl rfl rfl rfl rfl (Nat.le_of_ble_eq_true rfl) rfl (Nat.le_of_ble_eq_true rfl) hI ((zm_mValue (h := h) hI (i := a) (by omega) (by omega)).up (Nat.le_of_ble_eq_true rfl)) ?_
    rintro r301 h304 ⟨h304q, v302, r301q, x303⟩
    subst h304q r301q
    try dsimp only at x303
    have vX := x303.1
    show zx_T zp_P 4 zp_m66 226 [(0, .ref 34), (1, .int (zI (op))), (2, .int (zI (a)))] [.long (zL (v302)), .int (zI (a)), .ref 34] h _
    refine zr_l2i (pc := 226) rfl ?_
    refine zr_n32 (x := v302) (fun z305a z305b => ?_)
    refine zx_T.l (i := .aload_n 0) (k := 1) (v := .ref 34) (pc := 227) rfl rfl rfl ?_
    refine zw_gr (k := 0) (b := 1) (pc := 228) rfl rfl rfl hI ?_
    refine zx_T.l (i := .aload_n 0) (k := 1) (v := .ref 34) (pc := 231) rfl rfl rfl ?_
    refine zw_gi (k := 9) (lo := (-2147483648)) (hi := 2147483647) (e := zv_f h 34 9) (pc := 232) rfl rfl rfl hI rfl (fun g306a g306b => ?_)
    refine zw_iv (b := 1) (cj := 10) (q' := zp_m10) (As := [.int (zI (zv_f h 34 9))]) (rest := [.int (zI (zi32 v302)), .int (zI (a)), .ref 34]) (pc := 235) rfl rfl rfl rfl rfl rfl rfl (Nat.le_of_ble_eq_true rfl) rfl (Nat.le_of_ble_eq_true rfl) hI ((zm_cSecondAt (h := h) hI (p := zv_f h 34 9) (by omega) (by omega)).up (Nat.le_of_ble_eq_true rfl)) ?_
    rintro r308 h311 ⟨h311q, v309, r308q, x310⟩
    subst h311q r308q
    try dsimp only at x310
    have sc := x310.1
    show zx_T zp_P 4 zp_m66 238 [(0, .ref 34), (1, .int (zI (op))), (2, .int (zI (a)))] [.int (zI (v309)), .int (zI (zi32 v302)), .int (zI (a)), .ref 34] h _
    refine zr_add (x := zi32 v302) (y := v309) (e := v309 + zi32 v302) (pc := 238) rfl (by omega) ?_
    refine zr_n32 (x := v309 + zi32 v302) (fun z312a z312b => ?_)
    refine zr_i2l (pc := 239) rfl (by omega) (by omega) ?_
    refine zw_iv (b := 34) (cj := 72) (q' := zp_m72) (As := [.int (zI (a)), .long (zL (zi32 (v309 + zi32 v302)))]) (rest := []) (pc := 240) rfl rfl rfl rfl rfl rfl rfl (Nat.le_of_ble_eq_true rfl) rfl (Nat.le_of_ble_eq_true rfl) hI ((zm_mSetValue (h := h) hI (i := a) (v := zi32 (v309 + zi32 v302)) (by omega) (by omega) (by omega) (by omega)).up (Nat.le_of_ble_eq_true rfl)) ?_
    rintro r313 h316 ⟨ih316, w317, r313q, x315⟩
    subst r313q
    try dsimp only at x315
    have sV := x315
    show zx_T zp_P 4 zp_m66 243 [(0, .ref 34), (1, .int (zI (op))), (2, .int (zI (a)))] [] h316 _
    refine zx_T.j (i := .goto 8) (k := 3) (pc' := 251) (st' := []) (pc := 243) rfl rfl rfl rfl rfl ?_
    have b38 : ∀ j, 0 ≤ j → zv_b h316 38 j = zv_b h316 38 j := fun j hj => rfl
    have a43 : ∀ j, 0 ≤ j → zv_a h316 43 j = zv_a h 43 j := fun j hj => by rw [zv_wa w317 rfl j]
    have a42 : ∀ j, 0 ≤ j → zv_a h316 42 j = zv_a h 42 j := fun j hj => by rw [zv_wa w317 rfl j]
    have a37 : ∀ j, 0 ≤ j → zv_a h316 37 j = zv_a h 37 j := fun j hj => by rw [zv_wa w317 rfl j]
    have y322 : zv_f h316 41 2 = zv_f h 41 2 := (zv_wf w317 rfl)
    exact zr_vr (pc := 251) rfl rfl ⟨ih316, (w317.wd rfl : zb_W [(38, 0), (42, 0), (43, 0), (41, 2), (37, 0)] h _), rfl, by dsimp only; exact ⟨⟨fun z => by first | (exfalso; omega) | (exact fun j j0 => by rw [b38 j j0, lV j j0]), fun z => by first | (exfalso; omega) | (exact fun j j0 => by rw [b38 j j0, lV j j0]), fun z => by first | (exfalso; omega) | (intro zz; rcases aX with y | y; (exfalso; apply y.1; rw [t0_152]; exact zz); (refine ⟨fun j j0 => by rw [b38 j j0, lV j j0, y.2.1], by omega, fun j j0 => by rw [a42 j j0, y.2.2.2.1 j j0, t0_152], fun j j0 => by rw [a43 j j0, y.2.2.2.2 j j0, t0_152]⟩)), fun z => by first | (exfalso; omega) | (intro zz; exact fun j j0 => by rw [b38 j j0, lV j j0]; rcases vX with y | y; (rw [y.2]); (exfalso; omega)), fun z => by first | (exfalso; omega) | (intro zz; exact fun j j0 => by rw [b38 j j0]; exact sV j j0), fun z => by first | (exfalso; omega) | (intro zz; exact fun j j0 => by rw [b38 j j0, sV j j0]; rcases vX with y | y; (rw [← y.2, sc]; first | rfl | rw [Int.add_comm]); (exfalso; omega)), fun z => by first | (exfalso; omega) | (exact fun j j0 => b38 j j0), fun z => by first | (exfalso; omega) | exact ⟨by omega, fun j j0 => a42 j j0⟩, fun z => by first | (exfalso; omega) | (exact fun j j0 => a43 j j0), fun z => by first | (exfalso; omega) | omega⟩, fun z => fun j j0 => a37 j j0, fun z => absurd z (by omega)⟩⟩

def zk_gfh (h h' : zx_H) (op a : Int) : Prop := ((op = 24 ∨ (op = 25 ∧ zi32 (zv_b h 39 0) = 0) ∨ (op = 26 ∧ zv_a h 40 0 = 4) ∨ (op = 27 ∧ zi32 (zv_b h 39 0) = 0)) → (((0 ≤ a ∧ a < zv_f h 1 3) ∧ zv_f h' 34 9 = a ∧ zv_f h' 34 12 = zv_f h 34 12 ∧ zv_f h' 34 8 = zv_f h 34 8) ∨ (¬ (0 ≤ a ∧ a < zv_f h 1 3) ∧ zv_f h' 34 9 = zv_f h 34 9 ∧ zv_f h' 34 12 = 7 ∧ zv_f h' 34 8 = 1))) ∧ ((op = 27 ∧ zi32 (zv_b h 39 0) = 1) → (((0 ≤ zv_a h 4 (zv_f h 34 9) ∧ zv_a h 4 (zv_f h 34 9) < zv_f h 1 3) ∧ zv_f h' 34 9 = zv_a h 4 (zv_f h 34 9) ∧ zv_f h' 34 12 = zv_f h 34 12 ∧ zv_f h' 34 8 = zv_f h 34 8) ∨ (¬ (0 ≤ zv_a h 4 (zv_f h 34 9) ∧ zv_a h 4 (zv_f h 34 9) < zv_f h 1 3) ∧ zv_f h' 34 9 = zv_f h 34 9 ∧ zv_f h' 34 12 = 7 ∧ zv_f h' 34 8 = 1))) ∧ (¬ (op = 24 ∨ (op = 25 ∧ zi32 (zv_b h 39 0) = 0) ∨ (op = 26 ∧ zv_a h 40 0 = 4) ∨ (op = 27 ∧ (zi32 (zv_b h 39 0) = 0 ∨ zi32 (zv_b h 39 0) = 1))) → ((zv_f h 34 9 + 1 < zv_f h 1 3 ∧ zv_f h' 34 9 = zv_f h 34 9 + 1 ∧ zv_f h' 34 12 = zv_f h 34 12 ∧ zv_f h' 34 8 = zv_f h 34 8) ∨ (¬ zv_f h 34 9 + 1 < zv_f h 1 3 ∧ zv_f h' 34 9 = zv_f h 34 9 ∧ zv_f h' 34 12 = 6 ∧ zv_f h' 34 8 = 1)))

set_option maxRecDepth 100000 in
set_option maxHeartbeats 4000000 in
theorem zm_mGoFrom {h : zx_H} (hI : zb_I zc_H h) {op : Int} {a : Int} (op1 : 0 ≤ op) (op2 : op ≤ 28) (a1 : -2147483648 ≤ a) (a2 : a ≤ 2147483647) (pl : (0 ≤ zv_f h 34 9 ∧ zv_f h 34 9 < zv_f h 1 3)) : zx_T zp_P 2 zp_m69 0 [(0, .ref 34), (1, .int (zI (op))), (2, .int (zI (a)))] [] h (zr_V [(34, 9), (34, 12), (34, 8)] h (fun h' => zk_gfh h h' op a)) := by
  have hC := zw_ri hI (a := 1) (k := 3) rfl
  refine zx_T.l (i := .iload_n 1) (k := 1) (v := .int (zI (op))) (pc := 0) rfl rfl rfl ?_
  refine zx_T.s (i := .bipush 25) (k := 2) (st' := [.int (zI (25)), .int (zI (op))]) (pc := 1) rfl rfl ?_
  refine zr_i2 (x := op) (y := 25) (t := 18) (pc := 3) rfl rfl (by omega) (by omega) (by omega) (by omega) (fun (c1 : ¬ op = 25) => ?_) (fun (c1 : ¬ (¬ op = 25)) => ?_)
  · refine zx_T.s (i := .iconst 0) (k := 1) (st' := [.int (zI (0))]) (pc := 18) rfl rfl ?_
    refine zx_T.t (i := .istore_n 3) (k := 1) (ls' := [(3, .int (zI (0))), (0, .ref 34), (1, .int (zI (op))), (2, .int (zI (a)))]) (st' := []) (pc := 19) rfl rfl rfl rfl ?_
    refine zx_T.l (i := .iload_n 1) (k := 1) (v := .int (zI (op))) (pc := 20) rfl rfl rfl ?_
    refine zx_T.s (i := .bipush 26) (k := 2) (st' := [.int (zI (26)), .int (zI (op))]) (pc := 21) rfl rfl ?_
    refine zr_i2 (x := op) (y := 26) (t := 40) (pc := 23) rfl rfl (by omega) (by omega) (by omega) (by omega) (fun (c2 : ¬ op = 26) => ?_) (fun (c2 : ¬ (¬ op = 26)) => ?_)
    · refine zx_T.s (i := .iconst 0) (k := 1) (st' := [.int (zI (0))]) (pc := 40) rfl rfl ?_
      refine zx_T.t (i := .istore 4) (k := 2) (ls' := [(4, .int (zI (0))), (3, .int (zI (0))), (0, .ref 34), (1, .int (zI (op))), (2, .int (zI (a)))]) (st' := []) (pc := 41) rfl rfl rfl rfl ?_
      refine zx_T.l (i := .iload_n 1) (k := 1) (v := .int (zI (op))) (pc := 43) rfl rfl rfl ?_
      refine zx_T.s (i := .bipush 24) (k := 2) (st' := [.int (zI (24)), .int (zI (op))]) (pc := 44) rfl rfl ?_
      refine zr_i2 (x := op) (y := 24) (t := 72) (pc := 46) rfl rfl (by omega) (by omega) (by omega) (by omega) (fun (c3 : op = 24) => ?_) (fun (c3 : ¬ (op = 24)) => ?_)
      · refine zx_T.l (i := .aload_n 0) (k := 1) (v := .ref 34) (pc := 72) rfl rfl rfl ?_
        refine zx_T.l (i := .iload_n 2) (k := 1) (v := .int (zI (a))) (pc := 73) rfl rfl rfl ?_
        refine zw_iv (b := 34) (cj := 70) (q' := zp_m70) (As := [.int (zI (a))]) (rest := []) (pc := 74) rfl rfl rfl rfl rfl rfl rfl (Nat.le_of_ble_eq_true rfl) rfl (Nat.le_of_ble_eq_true rfl) hI ((zm_mGoTo (h := h) hI (q := a) (by omega) (by omega)).up (Nat.le_of_ble_eq_true rfl)) ?_
        rintro r4 h7 ⟨ih7, w8, r4q, x6⟩
        subst r4q
        try dsimp only at x6
        have gT := x6
        show zx_T zp_P 2 zp_m69 77 [(4, .int (zI (0))), (3, .int (zI (0))), (0, .ref 34), (1, .int (zI (op))), (2, .int (zI (a)))] [] h7 _
        refine zx_T.j (i := .goto 71) (k := 3) (pc' := 148) (st' := []) (pc := 77) rfl rfl rfl rfl rfl ?_
        exact zr_vr (pc := 148) rfl rfl ⟨ih7, (w8.wd rfl : zb_W [(34, 9), (34, 12), (34, 8)] h _), rfl, by dsimp only; exact ⟨fun z => by first | (exfalso; omega) | exact gT, fun z => by first | (exfalso; omega) | exact gT, fun z => by omega⟩⟩
      · refine zx_T.l (i := .iload_n 3) (k := 1) (v := .int (zI (0))) (pc := 49) rfl rfl rfl ?_
        refine zr_i1 (x := 0) (t := 72) (pc := 50) rfl rfl (by omega) (by omega) (fun (c12 : ¬ 0 = 0) => absurd c12 (by decide)) (fun _ => ?_)
        refine zx_T.l (i := .iload 4) (k := 2) (v := .int (zI (0))) (pc := 53) rfl rfl rfl ?_
        refine zr_i1 (x := 0) (t := 72) (pc := 55) rfl rfl (by omega) (by omega) (fun (c13 : ¬ 0 = 0) => absurd c13 (by decide)) (fun _ => ?_)
        refine zx_T.l (i := .iload_n 1) (k := 1) (v := .int (zI (op))) (pc := 58) rfl rfl rfl ?_
        refine zx_T.s (i := .bipush 27) (k := 2) (st' := [.int (zI (27)), .int (zI (op))]) (pc := 59) rfl rfl ?_
        refine zr_i2 (x := op) (y := 27) (t := 80) (pc := 61) rfl rfl (by omega) (by omega) (by omega) (by omega) (fun (c14 : ¬ op = 27) => ?_) (fun (c14 : ¬ (¬ op = 27)) => ?_)
        · refine zx_T.l (i := .iload_n 1) (k := 1) (v := .int (zI (op))) (pc := 80) rfl rfl rfl ?_
          refine zx_T.s (i := .bipush 27) (k := 2) (st' := [.int (zI (27)), .int (zI (op))]) (pc := 81) rfl rfl ?_
          refine zr_i2 (x := op) (y := 27) (t := 113) (pc := 83) rfl rfl (by omega) (by omega) (by omega) (by omega) (fun (c15 : ¬ op = 27) => ?_) (fun (c15 : ¬ (¬ op = 27)) => False.elim (by omega))
          refine zx_T.l (i := .aload_n 0) (k := 1) (v := .ref 34) (pc := 113) rfl rfl rfl ?_
          refine zw_gr (k := 0) (b := 1) (pc := 114) rfl rfl rfl hI ?_
          refine zx_T.l (i := .aload_n 0) (k := 1) (v := .ref 34) (pc := 117) rfl rfl rfl ?_
          refine zw_gi (k := 9) (lo := (-2147483648)) (hi := 2147483647) (e := zv_f h 34 9) (pc := 118) rfl rfl rfl hI rfl (fun g16a g16b => ?_)
          refine zx_T.s (i := .iconst 1) (k := 1) (st' := [.int (zI (1)), .int (zI (zv_f h 34 9)), .ref 1]) (pc := 121) rfl rfl ?_
          refine zr_add (x := zv_f h 34 9) (y := 1) (e := zv_f h 34 9 + 1) (pc := 122) rfl (by omega) ?_
          refine zw_iv (b := 1) (cj := 7) (q' := zp_m7) (As := [.int (zI (zv_f h 34 9 + 1))]) (rest := []) (pc := 123) rfl rfl rfl rfl rfl rfl rfl (Nat.le_of_ble_eq_true rfl) rfl (Nat.le_of_ble_eq_true rfl) hI ((zm_cHasPlace (h := h) hI (p := zv_f h 34 9 + 1) (by omega) (by omega)).up (Nat.le_of_ble_eq_true rfl)) ?_
          rintro r18 h21 ⟨h21q, v19, r18q, x20⟩
          subst h21q r18q
          try dsimp only at x20
          show zx_T zp_P 2 zp_m69 126 [(4, .int (zI (0))), (3, .int (zI (0))), (0, .ref 34), (1, .int (zI (op))), (2, .int (zI (a)))] [.int (zI (v19))] h _
          refine zr_i1 (x := v19) (t := 142) (pc := 126) rfl rfl (by omega) (by omega) (fun (c22 : v19 = 0) => ?_) (fun (c22 : ¬ (v19 = 0)) => ?_)
          · refine zx_T.l (i := .aload_n 0) (k := 1) (v := .ref 34) (pc := 142) rfl rfl rfl ?_
            refine zx_T.s (i := .bipush 6) (k := 2) (st' := [.int (zI (6)), .ref 34]) (pc := 143) rfl rfl ?_
            refine zw_iv (b := 34) (cj := 59) (q' := zp_m59) (As := [.int (zI (6))]) (rest := []) (pc := 145) rfl rfl rfl rfl rfl rfl rfl (Nat.le_of_ble_eq_true rfl) rfl (Nat.le_of_ble_eq_true rfl) hI ((zm_mRefuse (h := h) hI (f := 6) (by omega) (by omega)).up (Nat.le_of_ble_eq_true rfl)) ?_
            rintro r23 h26 ⟨ih26, w27, r23q, x25⟩
            subst r23q
            try dsimp only at x25
            show zx_T zp_P 2 zp_m69 148 [(4, .int (zI (0))), (3, .int (zI (0))), (0, .ref 34), (1, .int (zI (op))), (2, .int (zI (a)))] [] h26 _
            have y28 : zv_f h26 34 9 = zv_f h 34 9 := (zv_wf w27 rfl)
            exact zr_vr (pc := 148) rfl rfl ⟨ih26, (w27.wd rfl : zb_W [(34, 9), (34, 12), (34, 8)] h _), rfl, by dsimp only; exact ⟨fun z => by first | (exfalso; omega) | exact gT, fun z => by first | (exfalso; omega) | exact gT, fun z => by omega⟩⟩
          · refine zx_T.l (i := .aload_n 0) (k := 1) (v := .ref 34) (pc := 129) rfl rfl rfl ?_
            refine zx_T.s (i := .dup) (k := 1) (st' := [.ref 34, .ref 34]) (pc := 130) rfl rfl ?_
            refine zw_gi (k := 9) (lo := (-2147483648)) (hi := 2147483647) (e := zv_f h 34 9) (pc := 131) rfl rfl rfl hI rfl (fun g31a g31b => ?_)
            refine zx_T.s (i := .iconst 1) (k := 1) (st' := [.int (zI (1)), .int (zI (zv_f h 34 9)), .ref 34]) (pc := 134) rfl rfl ?_
            refine zr_add (x := zv_f h 34 9) (y := 1) (e := zv_f h 34 9 + 1) (pc := 135) rfl (by omega) ?_
            refine zw_pi (k := 9) (lo := (-2147483648)) (hi := 2147483647) (e := zv_f h 34 9 + 1) (pc := 136) rfl rfl rfl rfl rfl rfl hI (by omega) (by omega) (fun h32 ih32 w33 e34 => ?_)
            refine zx_T.j (i := .goto 9) (k := 3) (pc' := 148) (st' := []) (pc := 139) rfl rfl rfl rfl rfl ?_
            have y35 : zv_f h32 34 9 = zv_f h 34 9 + 1 := e34
            have y36 : zv_f h32 34 12 = zv_f h 34 12 := (zv_wf w33 rfl)
            have y37 : zv_f h32 34 8 = zv_f h 34 8 := (zv_wf w33 rfl)
            exact zr_vr (pc := 148) rfl rfl ⟨ih32, (w33.wd rfl : zb_W [(34, 9), (34, 12), (34, 8)] h _), rfl, by dsimp only; exact ⟨fun z => by first | (exfalso; omega) | exact gT, fun z => by first | (exfalso; omega) | exact gT, fun z => by omega⟩⟩
        · refine zx_T.l (i := .aload_n 0) (k := 1) (v := .ref 34) (pc := 64) rfl rfl rfl ?_
          refine zx_T.s (i := .iconst 0) (k := 1) (st' := [.int (zI (0)), .ref 34]) (pc := 65) rfl rfl ?_
          refine zw_iv (b := 34) (cj := 63) (q' := zp_m63) (As := [.int (zI (0))]) (rest := []) (pc := 66) rfl rfl rfl rfl rfl rfl rfl (Nat.le_of_ble_eq_true rfl) rfl (Nat.le_of_ble_eq_true rfl) hI ((zm_mTakenInt (h := h) hI (d := 0) (by omega) (by omega)).up (Nat.le_of_ble_eq_true rfl)) ?_
          rintro r38 h41 ⟨h41q, v39, r38q, x40⟩
          subst h41q r38q
          try dsimp only at x40
          have t0_66 := (x40).1
          show zx_T zp_P 2 zp_m69 69 [(4, .int (zI (0))), (3, .int (zI (0))), (0, .ref 34), (1, .int (zI (op))), (2, .int (zI (a)))] [.int (zI (v39))] h _
          refine zr_i1 (x := v39) (t := 80) (pc := 69) rfl rfl (by omega) (by omega) (fun (c42 : ¬ v39 = 0) => ?_) (fun (c42 : ¬ (¬ v39 = 0)) => ?_)
          · refine zx_T.l (i := .iload_n 1) (k := 1) (v := .int (zI (op))) (pc := 80) rfl rfl rfl ?_
            refine zx_T.s (i := .bipush 27) (k := 2) (st' := [.int (zI (27)), .int (zI (op))]) (pc := 81) rfl rfl ?_
            refine zr_i2 (x := op) (y := 27) (t := 113) (pc := 83) rfl rfl (by omega) (by omega) (by omega) (by omega) (fun (c43 : ¬ op = 27) => False.elim (by omega)) (fun (c43 : ¬ (¬ op = 27)) => ?_)
            refine zx_T.l (i := .aload_n 0) (k := 1) (v := .ref 34) (pc := 86) rfl rfl rfl ?_
            refine zx_T.s (i := .iconst 0) (k := 1) (st' := [.int (zI (0)), .ref 34]) (pc := 87) rfl rfl ?_
            refine zw_iv (b := 34) (cj := 63) (q' := zp_m63) (As := [.int (zI (0))]) (rest := []) (pc := 88) rfl rfl rfl rfl rfl rfl rfl (Nat.le_of_ble_eq_true rfl) rfl (Nat.le_of_ble_eq_true rfl) hI ((zm_mTakenInt (h := h) hI (d := 0) (by omega) (by omega)).up (Nat.le_of_ble_eq_true rfl)) ?_
            rintro r44 h47 ⟨h47q, v45, r44q, x46⟩
            subst h47q r44q
            try dsimp only at x46
            have t0_88 := (x46).1
            show zx_T zp_P 2 zp_m69 91 [(4, .int (zI (0))), (3, .int (zI (0))), (0, .ref 34), (1, .int (zI (op))), (2, .int (zI (a)))] [.int (zI (v45))] h _
            refine zx_T.s (i := .iconst 1) (k := 1) (st' := [.int (zI (1)), .int (zI (v45))]) (pc := 91) rfl rfl ?_
            refine zr_i2 (x := v45) (y := 1) (t := 113) (pc := 92) rfl rfl (by omega) (by omega) (by omega) (by omega) (fun (c48 : ¬ v45 = 1) => ?_) (fun (c48 : ¬ (¬ v45 = 1)) => ?_)
            · refine zx_T.l (i := .aload_n 0) (k := 1) (v := .ref 34) (pc := 113) rfl rfl rfl ?_
              refine zw_gr (k := 0) (b := 1) (pc := 114) rfl rfl rfl hI ?_
              refine zx_T.l (i := .aload_n 0) (k := 1) (v := .ref 34) (pc := 117) rfl rfl rfl ?_
              refine zw_gi (k := 9) (lo := (-2147483648)) (hi := 2147483647) (e := zv_f h 34 9) (pc := 118) rfl rfl rfl hI rfl (fun g49a g49b => ?_)
              refine zx_T.s (i := .iconst 1) (k := 1) (st' := [.int (zI (1)), .int (zI (zv_f h 34 9)), .ref 1]) (pc := 121) rfl rfl ?_
              refine zr_add (x := zv_f h 34 9) (y := 1) (e := zv_f h 34 9 + 1) (pc := 122) rfl (by omega) ?_
              refine zw_iv (b := 1) (cj := 7) (q' := zp_m7) (As := [.int (zI (zv_f h 34 9 + 1))]) (rest := []) (pc := 123) rfl rfl rfl rfl rfl rfl rfl (Nat.le_of_ble_eq_true rfl) rfl (Nat.le_of_ble_eq_true rfl) hI ((zm_cHasPlace (h := h) hI (p := zv_f h 34 9 + 1) (by omega) (by omega)).up (Nat.le_of_ble_eq_true rfl)) ?_
              rintro r51 h54 ⟨h54q, v52, r51q, x53⟩
              subst h54q r51q
              try dsimp only at x53
              show zx_T zp_P 2 zp_m69 126 [(4, .int (zI (0))), (3, .int (zI (0))), (0, .ref 34), (1, .int (zI (op))), (2, .int (zI (a)))] [.int (zI (v52))] h _
              refine zr_i1 (x := v52) (t := 142) (pc := 126) rfl rfl (by omega) (by omega) (fun (c55 : v52 = 0) => ?_) (fun (c55 : ¬ (v52 = 0)) => ?_)
              · refine zx_T.l (i := .aload_n 0) (k := 1) (v := .ref 34) (pc := 142) rfl rfl rfl ?_
                refine zx_T.s (i := .bipush 6) (k := 2) (st' := [.int (zI (6)), .ref 34]) (pc := 143) rfl rfl ?_
                refine zw_iv (b := 34) (cj := 59) (q' := zp_m59) (As := [.int (zI (6))]) (rest := []) (pc := 145) rfl rfl rfl rfl rfl rfl rfl (Nat.le_of_ble_eq_true rfl) rfl (Nat.le_of_ble_eq_true rfl) hI ((zm_mRefuse (h := h) hI (f := 6) (by omega) (by omega)).up (Nat.le_of_ble_eq_true rfl)) ?_
                rintro r56 h59 ⟨ih59, w60, r56q, x58⟩
                subst r56q
                try dsimp only at x58
                show zx_T zp_P 2 zp_m69 148 [(4, .int (zI (0))), (3, .int (zI (0))), (0, .ref 34), (1, .int (zI (op))), (2, .int (zI (a)))] [] h59 _
                have y61 : zv_f h59 34 9 = zv_f h 34 9 := (zv_wf w60 rfl)
                exact zr_vr (pc := 148) rfl rfl ⟨ih59, (w60.wd rfl : zb_W [(34, 9), (34, 12), (34, 8)] h _), rfl, by dsimp only; exact ⟨fun z => by first | (exfalso; omega) | exact gT, fun z => by first | (exfalso; omega) | exact gT, fun z => by omega⟩⟩
              · refine zx_T.l (i := .aload_n 0) (k := 1) (v := .ref 34) (pc := 129) rfl rfl rfl ?_
                refine zx_T.s (i := .dup) (k := 1) (st' := [.ref 34, .ref 34]) (pc := 130) rfl rfl ?_
                refine zw_gi (k := 9) (lo := (-2147483648)) (hi := 2147483647) (e := zv_f h 34 9) (pc := 131) rfl rfl rfl hI rfl (fun g64a g64b => ?_)
                refine zx_T.s (i := .iconst 1) (k := 1) (st' := [.int (zI (1)), .int (zI (zv_f h 34 9)), .ref 34]) (pc := 134) rfl rfl ?_
                refine zr_add (x := zv_f h 34 9) (y := 1) (e := zv_f h 34 9 + 1) (pc := 135) rfl (by omega) ?_
                refine zw_pi (k := 9) (lo := (-2147483648)) (hi := 2147483647) (e := zv_f h 34 9 + 1) (pc := 136) rfl rfl rfl rfl rfl rfl hI (by omega) (by omega) (fun h65 ih65 w66 e67 => ?_)
                refine zx_T.j (i := .goto 9) (k := 3) (pc' := 148) (st' := []) (pc := 139) rfl rfl rfl rfl rfl ?_
                have y68 : zv_f h65 34 9 = zv_f h 34 9 + 1 := e67
                have y69 : zv_f h65 34 12 = zv_f h 34 12 := (zv_wf w66 rfl)
                have y70 : zv_f h65 34 8 = zv_f h 34 8 := (zv_wf w66 rfl)
                exact zr_vr (pc := 148) rfl rfl ⟨ih65, (w66.wd rfl : zb_W [(34, 9), (34, 12), (34, 8)] h _), rfl, by dsimp only; exact ⟨fun z => by first | (exfalso; omega) | exact gT, fun z => by first | (exfalso; omega) | exact gT, fun z => by omega⟩⟩
            · refine zx_T.l (i := .aload_n 0) (k := 1) (v := .ref 34) (pc := 95) rfl rfl rfl ?_
              refine zx_T.l (i := .aload_n 0) (k := 1) (v := .ref 34) (pc := 96) rfl rfl rfl ?_
              refine zw_gr (k := 0) (b := 1) (pc := 97) rfl rfl rfl hI ?_
              refine zx_T.l (i := .aload_n 0) (k := 1) (v := .ref 34) (pc := 100) rfl rfl rfl ?_
              refine zw_gi (k := 9) (lo := (-2147483648)) (hi := 2147483647) (e := zv_f h 34 9) (pc := 101) rfl rfl rfl hI rfl (fun g71a g71b => ?_)
              refine zw_iv (b := 1) (cj := 10) (q' := zp_m10) (As := [.int (zI (zv_f h 34 9))]) (rest := [.ref 34]) (pc := 104) rfl rfl rfl rfl rfl rfl rfl (Nat.le_of_ble_eq_true rfl) rfl (Nat.le_of_ble_eq_true rfl) hI ((zm_cSecondAt (h := h) hI (p := zv_f h 34 9) (by omega) (by omega)).up (Nat.le_of_ble_eq_true rfl)) ?_
              rintro r73 h76 ⟨h76q, v74, r73q, x75⟩
              subst h76q r73q
              try dsimp only at x75
              have sc := x75.1
              show zx_T zp_P 2 zp_m69 107 [(4, .int (zI (0))), (3, .int (zI (0))), (0, .ref 34), (1, .int (zI (op))), (2, .int (zI (a)))] [.int (zI (v74)), .ref 34] h _
              refine zw_iv (b := 34) (cj := 70) (q' := zp_m70) (As := [.int (zI (v74))]) (rest := []) (pc := 107) rfl rfl rfl rfl rfl rfl rfl (Nat.le_of_ble_eq_true rfl) rfl (Nat.le_of_ble_eq_true rfl) hI ((zm_mGoTo (h := h) hI (q := v74) (by omega) (by omega)).up (Nat.le_of_ble_eq_true rfl)) ?_
              rintro r77 h80 ⟨ih80, w81, r77q, x79⟩
              subst r77q
              try dsimp only at x79
              have gT := x79; rw [sc] at gT
              show zx_T zp_P 2 zp_m69 110 [(4, .int (zI (0))), (3, .int (zI (0))), (0, .ref 34), (1, .int (zI (op))), (2, .int (zI (a)))] [] h80 _
              refine zx_T.j (i := .goto 38) (k := 3) (pc' := 148) (st' := []) (pc := 110) rfl rfl rfl rfl rfl ?_
              exact zr_vr (pc := 148) rfl rfl ⟨ih80, (w81.wd rfl : zb_W [(34, 9), (34, 12), (34, 8)] h _), rfl, by dsimp only; exact ⟨fun z => by first | (exfalso; omega) | exact gT, fun z => by first | (exfalso; omega) | exact gT, fun z => by omega⟩⟩
          · refine zx_T.l (i := .aload_n 0) (k := 1) (v := .ref 34) (pc := 72) rfl rfl rfl ?_
            refine zx_T.l (i := .iload_n 2) (k := 1) (v := .int (zI (a))) (pc := 73) rfl rfl rfl ?_
            refine zw_iv (b := 34) (cj := 70) (q' := zp_m70) (As := [.int (zI (a))]) (rest := []) (pc := 74) rfl rfl rfl rfl rfl rfl rfl (Nat.le_of_ble_eq_true rfl) rfl (Nat.le_of_ble_eq_true rfl) hI ((zm_mGoTo (h := h) hI (q := a) (by omega) (by omega)).up (Nat.le_of_ble_eq_true rfl)) ?_
            rintro r85 h88 ⟨ih88, w89, r85q, x87⟩
            subst r85q
            try dsimp only at x87
            have gT := x87
            show zx_T zp_P 2 zp_m69 77 [(4, .int (zI (0))), (3, .int (zI (0))), (0, .ref 34), (1, .int (zI (op))), (2, .int (zI (a)))] [] h88 _
            refine zx_T.j (i := .goto 71) (k := 3) (pc' := 148) (st' := []) (pc := 77) rfl rfl rfl rfl rfl ?_
            exact zr_vr (pc := 148) rfl rfl ⟨ih88, (w89.wd rfl : zb_W [(34, 9), (34, 12), (34, 8)] h _), rfl, by dsimp only; exact ⟨fun z => by first | (exfalso; omega) | exact gT, fun z => by first | (exfalso; omega) | exact gT, fun z => by omega⟩⟩
    · refine zx_T.l (i := .aload_n 0) (k := 1) (v := .ref 34) (pc := 26) rfl rfl rfl ?_
      refine zw_gr (k := 5) (b := 40) (pc := 27) rfl rfl rfl hI ?_
      refine zx_T.s (i := .iconst 0) (k := 1) (st' := [.int (zI (0)), .ref 40]) (pc := 30) rfl rfl ?_
      refine zr_al (n := 3) (lo := (-2147483648)) (hi := 2147483647) (e := zv_a h 40 0) (pc := 31) rfl rfl rfl hI (by omega) (by omega) rfl (fun g93a g93b => ?_)
      refine zx_T.s (i := .iconst 4) (k := 1) (st' := [.int (zI (4)), .int (zI (zv_a h 40 0))]) (pc := 32) rfl rfl ?_
      refine zr_i2 (x := zv_a h 40 0) (y := 4) (t := 40) (pc := 33) rfl rfl (by omega) (by omega) (by omega) (by omega) (fun (c94 : ¬ (zv_a h 40 0) = 4) => ?_) (fun (c94 : ¬ (¬ (zv_a h 40 0) = 4)) => ?_)
      · refine zx_T.s (i := .iconst 0) (k := 1) (st' := [.int (zI (0))]) (pc := 40) rfl rfl ?_
        refine zx_T.t (i := .istore 4) (k := 2) (ls' := [(4, .int (zI (0))), (3, .int (zI (0))), (0, .ref 34), (1, .int (zI (op))), (2, .int (zI (a)))]) (st' := []) (pc := 41) rfl rfl rfl rfl ?_
        refine zx_T.l (i := .iload_n 1) (k := 1) (v := .int (zI (op))) (pc := 43) rfl rfl rfl ?_
        refine zx_T.s (i := .bipush 24) (k := 2) (st' := [.int (zI (24)), .int (zI (op))]) (pc := 44) rfl rfl ?_
        refine zr_i2 (x := op) (y := 24) (t := 72) (pc := 46) rfl rfl (by omega) (by omega) (by omega) (by omega) (fun (c95 : op = 24) => False.elim (by omega)) (fun (c95 : ¬ (op = 24)) => ?_)
        refine zx_T.l (i := .iload_n 3) (k := 1) (v := .int (zI (0))) (pc := 49) rfl rfl rfl ?_
        refine zr_i1 (x := 0) (t := 72) (pc := 50) rfl rfl (by omega) (by omega) (fun (c96 : ¬ 0 = 0) => absurd c96 (by decide)) (fun _ => ?_)
        refine zx_T.l (i := .iload 4) (k := 2) (v := .int (zI (0))) (pc := 53) rfl rfl rfl ?_
        refine zr_i1 (x := 0) (t := 72) (pc := 55) rfl rfl (by omega) (by omega) (fun (c97 : ¬ 0 = 0) => absurd c97 (by decide)) (fun _ => ?_)
        refine zx_T.l (i := .iload_n 1) (k := 1) (v := .int (zI (op))) (pc := 58) rfl rfl rfl ?_
        refine zx_T.s (i := .bipush 27) (k := 2) (st' := [.int (zI (27)), .int (zI (op))]) (pc := 59) rfl rfl ?_
        refine zr_i2 (x := op) (y := 27) (t := 80) (pc := 61) rfl rfl (by omega) (by omega) (by omega) (by omega) (fun (c98 : ¬ op = 27) => ?_) (fun (c98 : ¬ (¬ op = 27)) => False.elim (by omega))
        refine zx_T.l (i := .iload_n 1) (k := 1) (v := .int (zI (op))) (pc := 80) rfl rfl rfl ?_
        refine zx_T.s (i := .bipush 27) (k := 2) (st' := [.int (zI (27)), .int (zI (op))]) (pc := 81) rfl rfl ?_
        refine zr_i2 (x := op) (y := 27) (t := 113) (pc := 83) rfl rfl (by omega) (by omega) (by omega) (by omega) (fun (c99 : ¬ op = 27) => ?_) (fun (c99 : ¬ (¬ op = 27)) => False.elim (by omega))
        refine zx_T.l (i := .aload_n 0) (k := 1) (v := .ref 34) (pc := 113) rfl rfl rfl ?_
        refine zw_gr (k := 0) (b := 1) (pc := 114) rfl rfl rfl hI ?_
        refine zx_T.l (i := .aload_n 0) (k := 1) (v := .ref 34) (pc := 117) rfl rfl rfl ?_
        refine zw_gi (k := 9) (lo := (-2147483648)) (hi := 2147483647) (e := zv_f h 34 9) (pc := 118) rfl rfl rfl hI rfl (fun g100a g100b => ?_)
        refine zx_T.s (i := .iconst 1) (k := 1) (st' := [.int (zI (1)), .int (zI (zv_f h 34 9)), .ref 1]) (pc := 121) rfl rfl ?_
        refine zr_add (x := zv_f h 34 9) (y := 1) (e := zv_f h 34 9 + 1) (pc := 122) rfl (by omega) ?_
        refine zw_iv (b := 1) (cj := 7) (q' := zp_m7) (As := [.int (zI (zv_f h 34 9 + 1))]) (rest := []) (pc := 123) rfl rfl rfl rfl rfl rfl rfl (Nat.le_of_ble_eq_true rfl) rfl (Nat.le_of_ble_eq_true rfl) hI ((zm_cHasPlace (h := h) hI (p := zv_f h 34 9 + 1) (by omega) (by omega)).up (Nat.le_of_ble_eq_true rfl)) ?_
        rintro r102 h105 ⟨h105q, v103, r102q, x104⟩
        subst h105q r102q
        try dsimp only at x104
        show zx_T zp_P 2 zp_m69 126 [(4, .int (zI (0))), (3, .int (zI (0))), (0, .ref 34), (1, .int (zI (op))), (2, .int (zI (a)))] [.int (zI (v103))] h _
        refine zr_i1 (x := v103) (t := 142) (pc := 126) rfl rfl (by omega) (by omega) (fun (c106 : v103 = 0) => ?_) (fun (c106 : ¬ (v103 = 0)) => ?_)
        · refine zx_T.l (i := .aload_n 0) (k := 1) (v := .ref 34) (pc := 142) rfl rfl rfl ?_
          refine zx_T.s (i := .bipush 6) (k := 2) (st' := [.int (zI (6)), .ref 34]) (pc := 143) rfl rfl ?_
          refine zw_iv (b := 34) (cj := 59) (q' := zp_m59) (As := [.int (zI (6))]) (rest := []) (pc := 145) rfl rfl rfl rfl rfl rfl rfl (Nat.le_of_ble_eq_true rfl) rfl (Nat.le_of_ble_eq_true rfl) hI ((zm_mRefuse (h := h) hI (f := 6) (by omega) (by omega)).up (Nat.le_of_ble_eq_true rfl)) ?_
          rintro r107 h110 ⟨ih110, w111, r107q, x109⟩
          subst r107q
          try dsimp only at x109
          show zx_T zp_P 2 zp_m69 148 [(4, .int (zI (0))), (3, .int (zI (0))), (0, .ref 34), (1, .int (zI (op))), (2, .int (zI (a)))] [] h110 _
          have y112 : zv_f h110 34 9 = zv_f h 34 9 := (zv_wf w111 rfl)
          exact zr_vr (pc := 148) rfl rfl ⟨ih110, (w111.wd rfl : zb_W [(34, 9), (34, 12), (34, 8)] h _), rfl, by dsimp only; exact ⟨fun z => by first | (exfalso; omega) | exact gT, fun z => by first | (exfalso; omega) | exact gT, fun z => by omega⟩⟩
        · refine zx_T.l (i := .aload_n 0) (k := 1) (v := .ref 34) (pc := 129) rfl rfl rfl ?_
          refine zx_T.s (i := .dup) (k := 1) (st' := [.ref 34, .ref 34]) (pc := 130) rfl rfl ?_
          refine zw_gi (k := 9) (lo := (-2147483648)) (hi := 2147483647) (e := zv_f h 34 9) (pc := 131) rfl rfl rfl hI rfl (fun g115a g115b => ?_)
          refine zx_T.s (i := .iconst 1) (k := 1) (st' := [.int (zI (1)), .int (zI (zv_f h 34 9)), .ref 34]) (pc := 134) rfl rfl ?_
          refine zr_add (x := zv_f h 34 9) (y := 1) (e := zv_f h 34 9 + 1) (pc := 135) rfl (by omega) ?_
          refine zw_pi (k := 9) (lo := (-2147483648)) (hi := 2147483647) (e := zv_f h 34 9 + 1) (pc := 136) rfl rfl rfl rfl rfl rfl hI (by omega) (by omega) (fun h116 ih116 w117 e118 => ?_)
          refine zx_T.j (i := .goto 9) (k := 3) (pc' := 148) (st' := []) (pc := 139) rfl rfl rfl rfl rfl ?_
          have y119 : zv_f h116 34 9 = zv_f h 34 9 + 1 := e118
          have y120 : zv_f h116 34 12 = zv_f h 34 12 := (zv_wf w117 rfl)
          have y121 : zv_f h116 34 8 = zv_f h 34 8 := (zv_wf w117 rfl)
          exact zr_vr (pc := 148) rfl rfl ⟨ih116, (w117.wd rfl : zb_W [(34, 9), (34, 12), (34, 8)] h _), rfl, by dsimp only; exact ⟨fun z => by first | (exfalso; omega) | exact gT, fun z => by first | (exfalso; omega) | exact gT, fun z => by omega⟩⟩
      · refine zx_T.s (i := .iconst 1) (k := 1) (st' := [.int (zI (1))]) (pc := 36) rfl rfl ?_
        refine zx_T.j (i := .goto 4) (k := 3) (pc' := 41) (st' := [.int (zI (1))]) (pc := 37) rfl rfl rfl rfl rfl ?_
        refine zx_T.t (i := .istore 4) (k := 2) (ls' := [(4, .int (zI (1))), (3, .int (zI (0))), (0, .ref 34), (1, .int (zI (op))), (2, .int (zI (a)))]) (st' := []) (pc := 41) rfl rfl rfl rfl ?_
        refine zx_T.l (i := .iload_n 1) (k := 1) (v := .int (zI (op))) (pc := 43) rfl rfl rfl ?_
        refine zx_T.s (i := .bipush 24) (k := 2) (st' := [.int (zI (24)), .int (zI (op))]) (pc := 44) rfl rfl ?_
        refine zr_i2 (x := op) (y := 24) (t := 72) (pc := 46) rfl rfl (by omega) (by omega) (by omega) (by omega) (fun (c122 : op = 24) => False.elim (by omega)) (fun (c122 : ¬ (op = 24)) => ?_)
        refine zx_T.l (i := .iload_n 3) (k := 1) (v := .int (zI (0))) (pc := 49) rfl rfl rfl ?_
        refine zr_i1 (x := 0) (t := 72) (pc := 50) rfl rfl (by omega) (by omega) (fun (c123 : ¬ 0 = 0) => absurd c123 (by decide)) (fun _ => ?_)
        refine zx_T.l (i := .iload 4) (k := 2) (v := .int (zI (1))) (pc := 53) rfl rfl rfl ?_
        refine zr_i1 (x := 1) (t := 72) (pc := 55) rfl rfl (by omega) (by omega) (fun _ => ?_) (fun (c124 : ¬ (¬ 1 = 0)) => absurd (by decide) c124)
        refine zx_T.l (i := .aload_n 0) (k := 1) (v := .ref 34) (pc := 72) rfl rfl rfl ?_
        refine zx_T.l (i := .iload_n 2) (k := 1) (v := .int (zI (a))) (pc := 73) rfl rfl rfl ?_
        refine zw_iv (b := 34) (cj := 70) (q' := zp_m70) (As := [.int (zI (a))]) (rest := []) (pc := 74) rfl rfl rfl rfl rfl rfl rfl (Nat.le_of_ble_eq_true rfl) rfl (Nat.le_of_ble_eq_true rfl) hI ((zm_mGoTo (h := h) hI (q := a) (by omega) (by omega)).up (Nat.le_of_ble_eq_true rfl)) ?_
        rintro r125 h128 ⟨ih128, w129, r125q, x127⟩
        subst r125q
        try dsimp only at x127
        have gT := x127
        show zx_T zp_P 2 zp_m69 77 [(4, .int (zI (1))), (3, .int (zI (0))), (0, .ref 34), (1, .int (zI (op))), (2, .int (zI (a)))] [] h128 _
        refine zx_T.j (i := .goto 71) (k := 3) (pc' := 148) (st' := []) (pc := 77) rfl rfl rfl rfl rfl ?_
        exact zr_vr (pc := 148) rfl rfl ⟨ih128, (w129.wd rfl : zb_W [(34, 9), (34, 12), (34, 8)] h _), rfl, by dsimp only; exact ⟨fun z => by first | (exfalso; omega) | exact gT, fun z => by first | (exfalso; omega) | exact gT, fun z => by omega⟩⟩
  · refine zx_T.l (i := .aload_n 0) (k := 1) (v := .ref 34) (pc := 6) rfl rfl rfl ?_
    refine zx_T.s (i := .iconst 0) (k := 1) (st' := [.int (zI (0)), .ref 34]) (pc := 7) rfl rfl ?_
    refine zw_iv (b := 34) (cj := 63) (q' := zp_m63) (As := [.int (zI (0))]) (rest := []) (pc := 8) rfl rfl rfl rfl rfl rfl rfl (Nat.le_of_ble_eq_true rfl) rfl (Nat.le_of_ble_eq_true rfl) hI ((zm_mTakenInt (h := h) hI (d := 0) (by omega) (by omega)).up (Nat.le_of_ble_eq_true rfl)) ?_
    rintro r133 h136 ⟨h136q, v134, r133q, x135⟩
    subst h136q r133q
    try dsimp only at x135
    have t0_8 := (x135).1
    show zx_T zp_P 2 zp_m69 11 [(0, .ref 34), (1, .int (zI (op))), (2, .int (zI (a)))] [.int (zI (v134))] h _
    refine zr_i1 (x := v134) (t := 18) (pc := 11) rfl rfl (by omega) (by omega) (fun (c137 : ¬ v134 = 0) => ?_) (fun (c137 : ¬ (¬ v134 = 0)) => ?_)
    · refine zx_T.s (i := .iconst 0) (k := 1) (st' := [.int (zI (0))]) (pc := 18) rfl rfl ?_
      refine zx_T.t (i := .istore_n 3) (k := 1) (ls' := [(3, .int (zI (0))), (0, .ref 34), (1, .int (zI (op))), (2, .int (zI (a)))]) (st' := []) (pc := 19) rfl rfl rfl rfl ?_
      refine zx_T.l (i := .iload_n 1) (k := 1) (v := .int (zI (op))) (pc := 20) rfl rfl rfl ?_
      refine zx_T.s (i := .bipush 26) (k := 2) (st' := [.int (zI (26)), .int (zI (op))]) (pc := 21) rfl rfl ?_
      refine zr_i2 (x := op) (y := 26) (t := 40) (pc := 23) rfl rfl (by omega) (by omega) (by omega) (by omega) (fun (c138 : ¬ op = 26) => ?_) (fun (c138 : ¬ (¬ op = 26)) => False.elim (by omega))
      refine zx_T.s (i := .iconst 0) (k := 1) (st' := [.int (zI (0))]) (pc := 40) rfl rfl ?_
      refine zx_T.t (i := .istore 4) (k := 2) (ls' := [(4, .int (zI (0))), (3, .int (zI (0))), (0, .ref 34), (1, .int (zI (op))), (2, .int (zI (a)))]) (st' := []) (pc := 41) rfl rfl rfl rfl ?_
      refine zx_T.l (i := .iload_n 1) (k := 1) (v := .int (zI (op))) (pc := 43) rfl rfl rfl ?_
      refine zx_T.s (i := .bipush 24) (k := 2) (st' := [.int (zI (24)), .int (zI (op))]) (pc := 44) rfl rfl ?_
      refine zr_i2 (x := op) (y := 24) (t := 72) (pc := 46) rfl rfl (by omega) (by omega) (by omega) (by omega) (fun (c139 : op = 24) => False.elim (by omega)) (fun (c139 : ¬ (op = 24)) => ?_)
      refine zx_T.l (i := .iload_n 3) (k := 1) (v := .int (zI (0))) (pc := 49) rfl rfl rfl ?_
      refine zr_i1 (x := 0) (t := 72) (pc := 50) rfl rfl (by omega) (by omega) (fun (c140 : ¬ 0 = 0) => absurd c140 (by decide)) (fun _ => ?_)
      refine zx_T.l (i := .iload 4) (k := 2) (v := .int (zI (0))) (pc := 53) rfl rfl rfl ?_
      refine zr_i1 (x := 0) (t := 72) (pc := 55) rfl rfl (by omega) (by omega) (fun (c141 : ¬ 0 = 0) => absurd c141 (by decide)) (fun _ => ?_)
      refine zx_T.l (i := .iload_n 1) (k := 1) (v := .int (zI (op))) (pc := 58) rfl rfl rfl ?_
      refine zx_T.s (i := .bipush 27) (k := 2) (st' := [.int (zI (27)), .int (zI (op))]) (pc := 59) rfl rfl ?_
      refine zr_i2 (x := op) (y := 27) (t := 80) (pc := 61) rfl rfl (by omega) (by omega) (by omega) (by omega) (fun (c142 : ¬ op = 27) => ?_) (fun (c142 : ¬ (¬ op = 27)) => False.elim (by omega))
      refine zx_T.l (i := .iload_n 1) (k := 1) (v := .int (zI (op))) (pc := 80) rfl rfl rfl ?_
      refine zx_T.s (i := .bipush 27) (k := 2) (st' := [.int (zI (27)), .int (zI (op))]) (pc := 81) rfl rfl ?_
      refine zr_i2 (x := op) (y := 27) (t := 113) (pc := 83) rfl rfl (by omega) (by omega) (by omega) (by omega) (fun (c143 : ¬ op = 27) => ?_) (fun (c143 : ¬ (¬ op = 27)) => False.elim (by omega))
      refine zx_T.l (i := .aload_n 0) (k := 1) (v := .ref 34) (pc := 113) rfl rfl rfl ?_
      refine zw_gr (k := 0) (b := 1) (pc := 114) rfl rfl rfl hI ?_
      refine zx_T.l (i := .aload_n 0) (k := 1) (v := .ref 34) (pc := 117) rfl rfl rfl ?_
      refine zw_gi (k := 9) (lo := (-2147483648)) (hi := 2147483647) (e := zv_f h 34 9) (pc := 118) rfl rfl rfl hI rfl (fun g144a g144b => ?_)
      refine zx_T.s (i := .iconst 1) (k := 1) (st' := [.int (zI (1)), .int (zI (zv_f h 34 9)), .ref 1]) (pc := 121) rfl rfl ?_
      refine zr_add (x := zv_f h 34 9) (y := 1) (e := zv_f h 34 9 + 1) (pc := 122) rfl (by omega) ?_
      refine zw_iv (b := 1) (cj := 7) (q' := zp_m7) (As := [.int (zI (zv_f h 34 9 + 1))]) (rest := []) (pc := 123) rfl rfl rfl rfl rfl rfl rfl (Nat.le_of_ble_eq_true rfl) rfl (Nat.le_of_ble_eq_true rfl) hI ((zm_cHasPlace (h := h) hI (p := zv_f h 34 9 + 1) (by omega) (by omega)).up (Nat.le_of_ble_eq_true rfl)) ?_
      rintro r146 h149 ⟨h149q, v147, r146q, x148⟩
      subst h149q r146q
      try dsimp only at x148
      show zx_T zp_P 2 zp_m69 126 [(4, .int (zI (0))), (3, .int (zI (0))), (0, .ref 34), (1, .int (zI (op))), (2, .int (zI (a)))] [.int (zI (v147))] h _
      refine zr_i1 (x := v147) (t := 142) (pc := 126) rfl rfl (by omega) (by omega) (fun (c150 : v147 = 0) => ?_) (fun (c150 : ¬ (v147 = 0)) => ?_)
      · refine zx_T.l (i := .aload_n 0) (k := 1) (v := .ref 34) (pc := 142) rfl rfl rfl ?_
        refine zx_T.s (i := .bipush 6) (k := 2) (st' := [.int (zI (6)), .ref 34]) (pc := 143) rfl rfl ?_
        refine zw_iv (b := 34) (cj := 59) (q' := zp_m59) (As := [.int (zI (6))]) (rest := []) (pc := 145) rfl rfl rfl rfl rfl rfl rfl (Nat.le_of_ble_eq_true rfl) rfl (Nat.le_of_ble_eq_true rfl) hI ((zm_mRefuse (h := h) hI (f := 6) (by omega) (by omega)).up (Nat.le_of_ble_eq_true rfl)) ?_
        rintro r151 h154 ⟨ih154, w155, r151q, x153⟩
        subst r151q
        try dsimp only at x153
        show zx_T zp_P 2 zp_m69 148 [(4, .int (zI (0))), (3, .int (zI (0))), (0, .ref 34), (1, .int (zI (op))), (2, .int (zI (a)))] [] h154 _
        have y156 : zv_f h154 34 9 = zv_f h 34 9 := (zv_wf w155 rfl)
        exact zr_vr (pc := 148) rfl rfl ⟨ih154, (w155.wd rfl : zb_W [(34, 9), (34, 12), (34, 8)] h _), rfl, by dsimp only; exact ⟨fun z => by first | (exfalso; omega) | exact gT, fun z => by first | (exfalso; omega) | exact gT, fun z => by omega⟩⟩
      · refine zx_T.l (i := .aload_n 0) (k := 1) (v := .ref 34) (pc := 129) rfl rfl rfl ?_
        refine zx_T.s (i := .dup) (k := 1) (st' := [.ref 34, .ref 34]) (pc := 130) rfl rfl ?_
        refine zw_gi (k := 9) (lo := (-2147483648)) (hi := 2147483647) (e := zv_f h 34 9) (pc := 131) rfl rfl rfl hI rfl (fun g159a g159b => ?_)
        refine zx_T.s (i := .iconst 1) (k := 1) (st' := [.int (zI (1)), .int (zI (zv_f h 34 9)), .ref 34]) (pc := 134) rfl rfl ?_
        refine zr_add (x := zv_f h 34 9) (y := 1) (e := zv_f h 34 9 + 1) (pc := 135) rfl (by omega) ?_
        refine zw_pi (k := 9) (lo := (-2147483648)) (hi := 2147483647) (e := zv_f h 34 9 + 1) (pc := 136) rfl rfl rfl rfl rfl rfl hI (by omega) (by omega) (fun h160 ih160 w161 e162 => ?_)
        refine zx_T.j (i := .goto 9) (k := 3) (pc' := 148) (st' := []) (pc := 139) rfl rfl rfl rfl rfl ?_
        have y163 : zv_f h160 34 9 = zv_f h 34 9 + 1 := e162
        have y164 : zv_f h160 34 12 = zv_f h 34 12 := (zv_wf w161 rfl)
        have y165 : zv_f h160 34 8 = zv_f h 34 8 := (zv_wf w161 rfl)
        exact zr_vr (pc := 148) rfl rfl ⟨ih160, (w161.wd rfl : zb_W [(34, 9), (34, 12), (34, 8)] h _), rfl, by dsimp only; exact ⟨fun z => by first | (exfalso; omega) | exact gT, fun z => by first | (exfalso; omega) | exact gT, fun z => by omega⟩⟩
    · refine zx_T.s (i := .iconst 1) (k := 1) (st' := [.int (zI (1))]) (pc := 14) rfl rfl ?_
      refine zx_T.j (i := .goto 4) (k := 3) (pc' := 19) (st' := [.int (zI (1))]) (pc := 15) rfl rfl rfl rfl rfl ?_
      refine zx_T.t (i := .istore_n 3) (k := 1) (ls' := [(3, .int (zI (1))), (0, .ref 34), (1, .int (zI (op))), (2, .int (zI (a)))]) (st' := []) (pc := 19) rfl rfl rfl rfl ?_
      refine zx_T.l (i := .iload_n 1) (k := 1) (v := .int (zI (op))) (pc := 20) rfl rfl rfl ?_
      refine zx_T.s (i := .bipush 26) (k := 2) (st' := [.int (zI (26)), .int (zI (op))]) (pc := 21) rfl rfl ?_
      refine zr_i2 (x := op) (y := 26) (t := 40) (pc := 23) rfl rfl (by omega) (by omega) (by omega) (by omega) (fun (c166 : ¬ op = 26) => ?_) (fun (c166 : ¬ (¬ op = 26)) => False.elim (by omega))
      refine zx_T.s (i := .iconst 0) (k := 1) (st' := [.int (zI (0))]) (pc := 40) rfl rfl ?_
      refine zx_T.t (i := .istore 4) (k := 2) (ls' := [(4, .int (zI (0))), (3, .int (zI (1))), (0, .ref 34), (1, .int (zI (op))), (2, .int (zI (a)))]) (st' := []) (pc := 41) rfl rfl rfl rfl ?_
      refine zx_T.l (i := .iload_n 1) (k := 1) (v := .int (zI (op))) (pc := 43) rfl rfl rfl ?_
      refine zx_T.s (i := .bipush 24) (k := 2) (st' := [.int (zI (24)), .int (zI (op))]) (pc := 44) rfl rfl ?_
      refine zr_i2 (x := op) (y := 24) (t := 72) (pc := 46) rfl rfl (by omega) (by omega) (by omega) (by omega) (fun (c167 : op = 24) => False.elim (by omega)) (fun (c167 : ¬ (op = 24)) => ?_)
      refine zx_T.l (i := .iload_n 3) (k := 1) (v := .int (zI (1))) (pc := 49) rfl rfl rfl ?_
      refine zr_i1 (x := 1) (t := 72) (pc := 50) rfl rfl (by omega) (by omega) (fun _ => ?_) (fun (c168 : ¬ (¬ 1 = 0)) => absurd (by decide) c168)
      refine zx_T.l (i := .aload_n 0) (k := 1) (v := .ref 34) (pc := 72) rfl rfl rfl ?_
      refine zx_T.l (i := .iload_n 2) (k := 1) (v := .int (zI (a))) (pc := 73) rfl rfl rfl ?_
      refine zw_iv (b := 34) (cj := 70) (q' := zp_m70) (As := [.int (zI (a))]) (rest := []) (pc := 74) rfl rfl rfl rfl rfl rfl rfl (Nat.le_of_ble_eq_true rfl) rfl (Nat.le_of_ble_eq_true rfl) hI ((zm_mGoTo (h := h) hI (q := a) (by omega) (by omega)).up (Nat.le_of_ble_eq_true rfl)) ?_
      rintro r169 h172 ⟨ih172, w173, r169q, x171⟩
      subst r169q
      try dsimp only at x171
      have gT := x171
      show zx_T zp_P 2 zp_m69 77 [(4, .int (zI (0))), (3, .int (zI (1))), (0, .ref 34), (1, .int (zI (op))), (2, .int (zI (a)))] [] h172 _
      refine zx_T.j (i := .goto 71) (k := 3) (pc' := 148) (st' := []) (pc := 77) rfl rfl rfl rfl rfl ?_
      exact zr_vr (pc := 148) rfl rfl ⟨ih172, (w173.wd rfl : zb_W [(34, 9), (34, 12), (34, 8)] h _), rfl, by dsimp only; exact ⟨fun z => by first | (exfalso; omega) | exact gT, fun z => by first | (exfalso; omega) | exact gT, fun z => by omega⟩⟩
