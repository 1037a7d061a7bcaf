/-! ===== 97zz2: the reference, method by method (by program) ===== -/
theorem zk_tK_0 {h : zx_H} (z : ¬ (zv_f h 34 11 = 0 ∧ zv_f h 34 12 = 0)) : zk_tK (zk_of h) = -1 := if_neg z
theorem zk_tK_1 {h : zx_H} (z : zv_f h 34 11 = 0 ∧ zv_f h 34 12 = 0) (s : ¬ 0 < zv_f h 36 1) : zk_tK (zk_of h) = -1 := (if_pos z).trans (if_neg s)
theorem zk_tK_2 {h : zx_H} (z : zv_f h 34 11 = 0 ∧ zv_f h 34 12 = 0) (s : 0 < zv_f h 36 1) (y : zv_a h 37 (zv_f h 36 1 + 7) = 3) : zk_tK (zk_of h) = 2 := (if_pos z).trans ((if_pos s).trans (if_pos y))
theorem zk_tK_3 {h : zx_H} (z : zv_f h 34 11 = 0 ∧ zv_f h 34 12 = 0) (s : 0 < zv_f h 36 1) (y : ¬ zv_a h 37 (zv_f h 36 1 + 7) = 3) : zk_tK (zk_of h) = zv_a h 37 (zv_f h 36 1 + 7) := (if_pos z).trans ((if_pos s).trans (if_neg y))
theorem zv_rfl {h : zx_H} (a k : Nat) : -9223372036854775808 ≤ zv_fl h a k ∧ zv_fl h a k ≤ 9223372036854775807 := by
  unfold zv_fl
  split
  · next f e =>
    have h1 := Int64.le_toInt f
    have h2 := Int64.toInt_lt f
    omega
  · omega
def zk_tl (r : Int) (u : zK) (s w : Int) : Int := if r = 0 then 0 else if w = 0 then zk_tK u else if w = 1 then zk_tN u else if w = 2 then u.p else if w = 3 then s else if w = 4 then u.c else 0

set_option maxRecDepth 100000 in
set_option maxHeartbeats 4000000 in
theorem zm_mHasReturned {h : zx_H} (hI : zb_I zc_H h)   : zx_T zp_P 0 zp_m74 0 [(0, .ref 34)] [] h (zr_P h (fun e => ((e = 1 ∧ (zv_f h 34 11 = 0 ∧ zv_f h 34 12 = 0)) ∨ (e = 0 ∧ ¬ (zv_f h 34 11 = 0 ∧ zv_f h 34 12 = 0))) ∧ 0 ≤ e ∧ e ≤ 1)) := by
  refine zx_T.l (i := .aload_n 0) (k := 1) (v := .ref 34) (pc := 0) rfl rfl rfl ?_
  refine zw_gi (k := 11) (lo := (-2147483648)) (hi := 2147483647) (e := zv_f h 34 11) (pc := 1) rfl rfl rfl hI rfl (fun g1a g1b => ?_)
  refine zr_i1 (x := zv_f h 34 11) (t := 18) (pc := 4) rfl rfl (by omega) (by omega) (fun (c2 : ¬ (zv_f h 34 11) = 0) => ?_) (fun (c2 : ¬ (¬ (zv_f h 34 11) = 0)) => ?_)
  · refine zx_T.s (i := .iconst 0) (k := 1) (st' := [.int (zI (0))]) (pc := 18) rfl rfl ?_
    exact zr_ir (x := 0) (pc := 19) rfl rfl (zr_nb (by omega) (by omega)) ⟨rfl, _, rfl, by dsimp only; exact ⟨by omega, by omega, by omega⟩⟩
  · refine zx_T.l (i := .aload_n 0) (k := 1) (v := .ref 34) (pc := 7) rfl rfl rfl ?_
    refine zw_gi (k := 12) (lo := (-2147483648)) (hi := 2147483647) (e := zv_f h 34 12) (pc := 8) rfl rfl rfl hI rfl (fun g3a g3b => ?_)
    refine zr_i1 (x := zv_f h 34 12) (t := 18) (pc := 11) rfl rfl (by omega) (by omega) (fun (c4 : ¬ (zv_f h 34 12) = 0) => ?_) (fun (c4 : ¬ (¬ (zv_f h 34 12) = 0)) => ?_)
    · refine zx_T.s (i := .iconst 0) (k := 1) (st' := [.int (zI (0))]) (pc := 18) rfl rfl ?_
      exact zr_ir (x := 0) (pc := 19) rfl rfl (zr_nb (by omega) (by omega)) ⟨rfl, _, rfl, by dsimp only; exact ⟨by omega, by omega, by omega⟩⟩
    · refine zx_T.s (i := .iconst 1) (k := 1) (st' := [.int (zI (1))]) (pc := 14) rfl rfl ?_
      refine zx_T.j (i := .goto 4) (k := 3) (pc' := 19) (st' := [.int (zI (1))]) (pc := 15) rfl rfl rfl rfl rfl ?_
      exact zr_ir (x := 1) (pc := 19) rfl rfl (zr_nb (by omega) (by omega)) ⟨rfl, _, rfl, by dsimp only; exact ⟨by omega, by omega, by omega⟩⟩

set_option maxRecDepth 100000 in
set_option maxHeartbeats 4000000 in
theorem zm_mTopKind {h : zx_H} (hI : zb_I zc_H h)   : zx_T zp_P 1 zp_m75 0 [(0, .ref 34)] [] h (zr_P h (fun e => e = zk_tK (zk_of h) ∧ (-2147483648) ≤ e ∧ e ≤ 2147483647)) := by
  have hS := zw_ri hI (a := 36) (k := 1) rfl
  refine zx_T.l (i := .aload_n 0) (k := 1) (v := .ref 34) (pc := 0) rfl rfl rfl ?_
  refine zw_iv (b := 34) (cj := 74) (q' := zp_m74) (As := []) (rest := []) (pc := 1) rfl rfl rfl rfl rfl rfl rfl (Nat.le_of_ble_eq_true rfl) rfl (Nat.le_of_ble_eq_true rfl) hI ((zm_mHasReturned (h := h) hI  ).up (Nat.le_of_ble_eq_true rfl)) ?_
  rintro r1 h4 ⟨h4q, v2, r1q, x3⟩
  subst h4q r1q
  try dsimp only at x3
  have hR := x3.1
  show zx_T zp_P 1 zp_m75 4 [(0, .ref 34)] [.int (zI (v2))] h _
  refine zr_i1 (x := v2) (t := 18) (pc := 4) rfl rfl (by omega) (by omega) (fun (c5 : v2 = 0) => ?_) (fun (c5 : ¬ (v2 = 0)) => ?_)
  · refine zx_T.s (i := .iconst (-1)) (k := 1) (st' := [.int (zI ((-1)))]) (pc := 18) rfl rfl ?_
    refine zx_T.t (i := .istore_n 1) (k := 1) (ls' := [(1, .int (zI ((-1)))), (0, .ref 34)]) (st' := []) (pc := 19) rfl rfl rfl rfl ?_
    refine zx_T.l (i := .iload_n 1) (k := 1) (v := .int (zI ((-1)))) (pc := 20) rfl rfl rfl ?_
    refine zx_T.s (i := .iconst 3) (k := 1) (st' := [.int (zI (3)), .int (zI ((-1)))]) (pc := 21) rfl rfl ?_
    refine zr_i2 (x := (-1)) (y := 3) (t := 29) (pc := 22) rfl rfl (by omega) (by omega) (by omega) (by omega) (fun _ => ?_) (fun (c6 : ¬ (¬ (-1) = 3)) => absurd (by decide) c6)
    refine zx_T.l (i := .iload_n 1) (k := 1) (v := .int (zI ((-1)))) (pc := 29) rfl rfl rfl ?_
    exact zr_ir (x := (-1)) (pc := 30) rfl rfl rfl ⟨rfl, _, rfl, by dsimp only; refine ⟨?_, by omega, by omega⟩; first | (have q := zk_tK_0 (h := h) (by omega); omega) | (have q := zk_tK_1 (h := h) (by omega) (by omega); omega) | (have q := zk_tK_2 (h := h) (by omega) (by omega) (by omega); omega) | (have q := zk_tK_3 (h := h) (by omega) (by omega) (by omega); omega) | (rcases kD with z | z; (have q := zk_tK_3 (h := h) (by omega) (by omega) (by omega); omega); (have q := zk_tK_1 (h := h) (by omega) (by omega); omega))⟩
  · refine zx_T.l (i := .aload_n 0) (k := 1) (v := .ref 34) (pc := 7) rfl rfl rfl ?_
    refine zw_gr (k := 2) (b := 36) (pc := 8) rfl rfl rfl hI ?_
    refine zx_T.s (i := .iconst 0) (k := 1) (st' := [.int (zI (0)), .ref 36]) (pc := 11) rfl rfl ?_
    refine zw_iv (b := 36) (cj := 120) (q' := zp_m120) (As := [.int (zI (0))]) (rest := []) (pc := 12) rfl rfl rfl rfl rfl rfl rfl (Nat.le_of_ble_eq_true rfl) rfl (Nat.le_of_ble_eq_true rfl) hI ((zm_kindDown_36 (h := h) hI (d := 0) (by omega) (by omega)).up (Nat.le_of_ble_eq_true rfl)) ?_
    rintro r7 h10 ⟨h10q, v8, r7q, x9⟩
    subst h10q r7q
    try dsimp only at x9
    have kD := x9.1; rw [show zv_f h 36 1 + 7 - 0 = zv_f h 36 1 + 7 by omega] at kD
    show zx_T zp_P 1 zp_m75 15 [(0, .ref 34)] [.int (zI (v8))] h _
    refine zx_T.j (i := .goto 4) (k := 3) (pc' := 19) (st' := [.int (zI (v8))]) (pc := 15) rfl rfl rfl rfl rfl ?_
    refine zx_T.t (i := .istore_n 1) (k := 1) (ls' := [(1, .int (zI (v8))), (0, .ref 34)]) (st' := []) (pc := 19) rfl rfl rfl rfl ?_
    refine zx_T.l (i := .iload_n 1) (k := 1) (v := .int (zI (v8))) (pc := 20) rfl rfl rfl ?_
    refine zx_T.s (i := .iconst 3) (k := 1) (st' := [.int (zI (3)), .int (zI (v8))]) (pc := 21) rfl rfl ?_
    refine zr_i2 (x := v8) (y := 3) (t := 29) (pc := 22) rfl rfl (by omega) (by omega) (by omega) (by omega) (fun (c11 : ¬ v8 = 3) => ?_) (fun (c11 : ¬ (¬ v8 = 3)) => ?_)
    · refine zx_T.l (i := .iload_n 1) (k := 1) (v := .int (zI (v8))) (pc := 29) rfl rfl rfl ?_
      exact zr_ir (x := v8) (pc := 30) rfl rfl rfl ⟨rfl, _, rfl, by dsimp only; refine ⟨?_, by omega, by omega⟩; first | (have q := zk_tK_0 (h := h) (by omega); omega) | (have q := zk_tK_1 (h := h) (by omega) (by omega); omega) | (have q := zk_tK_2 (h := h) (by omega) (by omega) (by omega); omega) | (have q := zk_tK_3 (h := h) (by omega) (by omega) (by omega); omega) | (rcases kD with z | z; (have q := zk_tK_3 (h := h) (by omega) (by omega) (by omega); omega); (have q := zk_tK_1 (h := h) (by omega) (by omega); omega))⟩
    · refine zx_T.s (i := .iconst 2) (k := 1) (st' := [.int (zI (2))]) (pc := 25) rfl rfl ?_
      refine zx_T.j (i := .goto 4) (k := 3) (pc' := 30) (st' := [.int (zI (2))]) (pc := 26) rfl rfl rfl rfl rfl ?_
      exact zr_ir (x := 2) (pc := 30) rfl rfl rfl ⟨rfl, _, rfl, by dsimp only; refine ⟨?_, by omega, by omega⟩; first | (have q := zk_tK_0 (h := h) (by omega); omega) | (have q := zk_tK_1 (h := h) (by omega) (by omega); omega) | (have q := zk_tK_2 (h := h) (by omega) (by omega) (by omega); omega) | (have q := zk_tK_3 (h := h) (by omega) (by omega) (by omega); omega) | (rcases kD with z | z; (have q := zk_tK_3 (h := h) (by omega) (by omega) (by omega); omega); (have q := zk_tK_1 (h := h) (by omega) (by omega); omega))⟩

set_option maxRecDepth 100000 in
set_option maxHeartbeats 4000000 in
theorem zm_mTopNumber {h : zx_H} (hI : zb_I zc_H h)   : zx_T zp_P 2 zp_m76 0 [(0, .ref 34)] [] h (zr_Q h (fun e => e = zk_tN (zk_of h) ∧ (-9223372036854775808) ≤ e ∧ e ≤ 9223372036854775807)) := by
  have hS := zw_ri hI (a := 36) (k := 1) rfl
  have hN9 := zw_ri hI (a := 41) (k := 2) rfl
  refine zx_T.l (i := .aload_n 0) (k := 1) (v := .ref 34) (pc := 0) rfl rfl rfl ?_
  refine zx_T.s (i := .bipush 8) (k := 2) (st' := [.int (zI (8)), .ref 34]) (pc := 1) rfl rfl ?_
  refine zx_T.l (i := .aload_n 0) (k := 1) (v := .ref 34) (pc := 3) rfl rfl rfl ?_
  refine zw_gr (k := 2) (b := 36) (pc := 4) rfl rfl rfl hI ?_
  refine zw_iv (b := 36) (cj := 116) (q' := zp_m116) (As := []) (rest := [.int (zI (8)), .ref 34]) (pc := 7) rfl rfl rfl rfl rfl rfl rfl (Nat.le_of_ble_eq_true rfl) rfl (Nat.le_of_ble_eq_true rfl) hI ((zm_depth_36 (h := h) hI  ).up (Nat.le_of_ble_eq_true rfl)) ?_
  rintro r1 h4 ⟨h4q, v2, r1q, x3⟩
  subst h4q r1q
  try dsimp only at x3
  have dP := x3.1
  show zx_T zp_P 2 zp_m76 10 [(0, .ref 34)] [.int (zI (v2)), .int (zI (8)), .ref 34] h _
  refine zr_add (x := 8) (y := v2) (e := v2 + 8) (pc := 10) rfl (by omega) ?_
  refine zx_T.s (i := .iconst 1) (k := 1) (st' := [.int (zI (1)), .int (zI (v2 + 8)), .ref 34]) (pc := 11) rfl rfl ?_
  refine zr_sub (x := v2 + 8) (y := 1) (e := v2 + 7) (pc := 12) rfl (by omega) ?_
  refine zw_iv (b := 34) (cj := 71) (q' := zp_m71) (As := [.int (zI (v2 + 7))]) (rest := []) (pc := 13) rfl rfl rfl rfl rfl rfl rfl (Nat.le_of_ble_eq_true rfl) rfl (Nat.le_of_ble_eq_true rfl) hI ((zm_mValue (h := h) hI (i := v2 + 7) (by omega) (by omega)).up (Nat.le_of_ble_eq_true rfl)) ?_
  rintro r5 h8 ⟨h8q, v6, r5q, x7⟩
  subst h8q r5q
  try dsimp only at x7
  have vX := x7.1
  show zx_T zp_P 2 zp_m76 16 [(0, .ref 34)] [.long (zL (v6))] h _
  refine zx_T.t (i := .lstore_n 1) (k := 1) (ls' := [(1, .long (zL (v6))), (0, .ref 34)]) (st' := []) (pc := 16) rfl rfl rfl rfl ?_
  refine zx_T.l (i := .aload_n 0) (k := 1) (v := .ref 34) (pc := 17) rfl rfl rfl ?_
  refine zw_iv (b := 34) (cj := 75) (q' := zp_m75) (As := []) (rest := []) (pc := 18) rfl rfl rfl rfl rfl rfl rfl (Nat.le_of_ble_eq_true rfl) rfl (Nat.le_of_ble_eq_true rfl) hI ((zm_mTopKind (h := h) hI  ).up (Nat.le_of_ble_eq_true rfl)) ?_
  rintro r9 h12 ⟨h12q, v10, r9q, x11⟩
  subst h12q r9q
  try dsimp only at x11
  have tK := x11.1
  show zx_T zp_P 2 zp_m76 21 [(1, .long (zL (v6))), (0, .ref 34)] [.int (zI (v10))] h _
  have c13 : v10 = 1 ∨ v10 = 2 ∨ v10 = 3 ∨ v10 = 4 ∨ v10 = 5 ∨ v10 = 6 ∨ v10 = 7 ∨ v10 = 8 ∨ (v10 < 1 ∨ 8 < v10) := by omega
  rcases c13 with c13 | c13 | c13 | c13 | c13 | c13 | c13 | c13 | c13
  · refine zr_sw (i := .tableswitch 60 1 8 #[47, 47, 60, 60, 60, 49, 47, 47]) (len := 47) (t := 68) (x := v10) (k := 1) (pc := 21) rfl c13 rfl rfl rfl rfl ?_
    have eV : v6 = zv_b h 38 (zv_f h 36 1 + 7) := by rcases vX with z | z; (rw [z.2]; congr 1; omega); (exfalso; omega)
    refine zx_T.l (i := .lload_n 1) (k := 1) (v := .long (zL (v6))) (pc := 68) rfl rfl rfl ?_
    exact zr_lr (x := v6) (pc := 69) rfl rfl ⟨rfl, _, rfl, by dsimp only; refine ⟨?_, by omega, by omega⟩; unfold zk_tN; first | (rw [if_pos (by omega)]; exact eV) | (rw [if_neg (by omega), if_pos (by omega)]; show _ = if 0 ≤ zi32 (zv_b h 38 (zv_f h 36 1 + 7)) ∧ zi32 (zv_b h 38 (zv_f h 36 1 + 7)) < zv_f h 41 2 then zv_a h 42 (zi32 (zv_b h 38 (zv_f h 36 1 + 7))) else 0; rw [eV] at lO; rcases lO with z | z; (rw [if_pos z.1]; exact z.2); (rw [if_neg z.1]; exact z.2)) | (rw [if_neg (by omega), if_neg (by omega)])⟩
  · refine zr_sw (i := .tableswitch 60 1 8 #[47, 47, 60, 60, 60, 49, 47, 47]) (len := 47) (t := 68) (x := v10) (k := 2) (pc := 21) rfl c13 rfl rfl rfl rfl ?_
    have eV : v6 = zv_b h 38 (zv_f h 36 1 + 7) := by rcases vX with z | z; (rw [z.2]; congr 1; omega); (exfalso; omega)
    refine zx_T.l (i := .lload_n 1) (k := 1) (v := .long (zL (v6))) (pc := 68) rfl rfl rfl ?_
    exact zr_lr (x := v6) (pc := 69) rfl rfl ⟨rfl, _, rfl, by dsimp only; refine ⟨?_, by omega, by omega⟩; unfold zk_tN; first | (rw [if_pos (by omega)]; exact eV) | (rw [if_neg (by omega), if_pos (by omega)]; show _ = if 0 ≤ zi32 (zv_b h 38 (zv_f h 36 1 + 7)) ∧ zi32 (zv_b h 38 (zv_f h 36 1 + 7)) < zv_f h 41 2 then zv_a h 42 (zi32 (zv_b h 38 (zv_f h 36 1 + 7))) else 0; rw [eV] at lO; rcases lO with z | z; (rw [if_pos z.1]; exact z.2); (rw [if_neg z.1]; exact z.2)) | (rw [if_neg (by omega), if_neg (by omega)])⟩
  · refine zr_sw (i := .tableswitch 60 1 8 #[47, 47, 60, 60, 60, 49, 47, 47]) (len := 47) (t := 81) (x := v10) (k := 3) (pc := 21) rfl c13 rfl rfl rfl rfl ?_
    refine zx_T.s (i := .lconst 0) (k := 1) (st' := [.long (zL (0))]) (pc := 81) rfl rfl ?_
    exact zr_lr (x := 0) (pc := 82) rfl rfl ⟨rfl, _, rfl, by dsimp only; refine ⟨?_, by omega, by omega⟩; unfold zk_tN; first | (rw [if_pos (by omega)]; exact eV) | (rw [if_neg (by omega), if_pos (by omega)]; show _ = if 0 ≤ zi32 (zv_b h 38 (zv_f h 36 1 + 7)) ∧ zi32 (zv_b h 38 (zv_f h 36 1 + 7)) < zv_f h 41 2 then zv_a h 42 (zi32 (zv_b h 38 (zv_f h 36 1 + 7))) else 0; rw [eV] at lO; rcases lO with z | z; (rw [if_pos z.1]; exact z.2); (rw [if_neg z.1]; exact z.2)) | (rw [if_neg (by omega), if_neg (by omega)])⟩
  · refine zr_sw (i := .tableswitch 60 1 8 #[47, 47, 60, 60, 60, 49, 47, 47]) (len := 47) (t := 81) (x := v10) (k := 4) (pc := 21) rfl c13 rfl rfl rfl rfl ?_
    refine zx_T.s (i := .lconst 0) (k := 1) (st' := [.long (zL (0))]) (pc := 81) rfl rfl ?_
    exact zr_lr (x := 0) (pc := 82) rfl rfl ⟨rfl, _, rfl, by dsimp only; refine ⟨?_, by omega, by omega⟩; unfold zk_tN; first | (rw [if_pos (by omega)]; exact eV) | (rw [if_neg (by omega), if_pos (by omega)]; show _ = if 0 ≤ zi32 (zv_b h 38 (zv_f h 36 1 + 7)) ∧ zi32 (zv_b h 38 (zv_f h 36 1 + 7)) < zv_f h 41 2 then zv_a h 42 (zi32 (zv_b h 38 (zv_f h 36 1 + 7))) else 0; rw [eV] at lO; rcases lO with z | z; (rw [if_pos z.1]; exact z.2); (rw [if_neg z.1]; exact z.2)) | (rw [if_neg (by omega), if_neg (by omega)])⟩
  · refine zr_sw (i := .tableswitch 60 1 8 #[47, 47, 60, 60, 60, 49, 47, 47]) (len := 47) (t := 81) (x := v10) (k := 5) (pc := 21) rfl c13 rfl rfl rfl rfl ?_
    refine zx_T.s (i := .lconst 0) (k := 1) (st' := [.long (zL (0))]) (pc := 81) rfl rfl ?_
    exact zr_lr (x := 0) (pc := 82) rfl rfl ⟨rfl, _, rfl, by dsimp only; refine ⟨?_, by omega, by omega⟩; unfold zk_tN; first | (rw [if_pos (by omega)]; exact eV) | (rw [if_neg (by omega), if_pos (by omega)]; show _ = if 0 ≤ zi32 (zv_b h 38 (zv_f h 36 1 + 7)) ∧ zi32 (zv_b h 38 (zv_f h 36 1 + 7)) < zv_f h 41 2 then zv_a h 42 (zi32 (zv_b h 38 (zv_f h 36 1 + 7))) else 0; rw [eV] at lO; rcases lO with z | z; (rw [if_pos z.1]; exact z.2); (rw [if_neg z.1]; exact z.2)) | (rw [if_neg (by omega), if_neg (by omega)])⟩
  · refine zr_sw (i := .tableswitch 60 1 8 #[47, 47, 60, 60, 60, 49, 47, 47]) (len := 47) (t := 70) (x := v10) (k := 6) (pc := 21) rfl c13 rfl rfl rfl rfl ?_
    have eV : v6 = zv_b h 38 (zv_f h 36 1 + 7) := by rcases vX with z | z; (rw [z.2]; congr 1; omega); (exfalso; omega)
    refine zx_T.l (i := .aload_n 0) (k := 1) (v := .ref 34) (pc := 70) rfl rfl rfl ?_
    refine zw_gr (k := 6) (b := 41) (pc := 71) rfl rfl rfl hI ?_
    refine zx_T.l (i := .lload_n 1) (k := 1) (v := .long (zL (v6))) (pc := 74) rfl rfl rfl ?_
    refine zr_l2i (pc := 75) rfl ?_
    refine zr_n32 (x := v6) (fun z14a z14b => ?_)
    refine zw_iv (b := 41) (cj := 111) (q' := zp_m111) (As := [.int (zI (zi32 v6))]) (rest := []) (pc := 76) rfl rfl rfl rfl rfl rfl rfl (Nat.le_of_ble_eq_true rfl) rfl (Nat.le_of_ble_eq_true rfl) hI ((zm_rLengthOf (h := h) hI (r := zi32 v6) (by omega) (by omega)).up (Nat.le_of_ble_eq_true rfl)) ?_
    rintro r15 h18 ⟨h18q, v16, r15q, x17⟩
    subst h18q r15q
    try dsimp only at x17
    have lO := x17.1
    show zx_T zp_P 2 zp_m76 79 [(1, .long (zL (v6))), (0, .ref 34)] [.int (zI (v16))] h _
    refine zr_i2l (pc := 79) rfl (by omega) (by omega) ?_
    exact zr_lr (x := v16) (pc := 80) rfl rfl ⟨rfl, _, rfl, by dsimp only; refine ⟨?_, by omega, by omega⟩; unfold zk_tN; first | (rw [if_pos (by omega)]; exact eV) | (rw [if_neg (by omega), if_pos (by omega)]; show _ = if 0 ≤ zi32 (zv_b h 38 (zv_f h 36 1 + 7)) ∧ zi32 (zv_b h 38 (zv_f h 36 1 + 7)) < zv_f h 41 2 then zv_a h 42 (zi32 (zv_b h 38 (zv_f h 36 1 + 7))) else 0; rw [eV] at lO; rcases lO with z | z; (rw [if_pos z.1]; exact z.2); (rw [if_neg z.1]; exact z.2)) | (rw [if_neg (by omega), if_neg (by omega)])⟩
  · refine zr_sw (i := .tableswitch 60 1 8 #[47, 47, 60, 60, 60, 49, 47, 47]) (len := 47) (t := 68) (x := v10) (k := 7) (pc := 21) rfl c13 rfl rfl rfl rfl ?_
    have eV : v6 = zv_b h 38 (zv_f h 36 1 + 7) := by rcases vX with z | z; (rw [z.2]; congr 1; omega); (exfalso; omega)
    refine zx_T.l (i := .lload_n 1) (k := 1) (v := .long (zL (v6))) (pc := 68) rfl rfl rfl ?_
    exact zr_lr (x := v6) (pc := 69) rfl rfl ⟨rfl, _, rfl, by dsimp only; refine ⟨?_, by omega, by omega⟩; unfold zk_tN; first | (rw [if_pos (by omega)]; exact eV) | (rw [if_neg (by omega), if_pos (by omega)]; show _ = if 0 ≤ zi32 (zv_b h 38 (zv_f h 36 1 + 7)) ∧ zi32 (zv_b h 38 (zv_f h 36 1 + 7)) < zv_f h 41 2 then zv_a h 42 (zi32 (zv_b h 38 (zv_f h 36 1 + 7))) else 0; rw [eV] at lO; rcases lO with z | z; (rw [if_pos z.1]; exact z.2); (rw [if_neg z.1]; exact z.2)) | (rw [if_neg (by omega), if_neg (by omega)])⟩
  · refine zr_sw (i := .tableswitch 60 1 8 #[47, 47, 60, 60, 60, 49, 47, 47]) (len := 47) (t := 68) (x := v10) (k := 8) (pc := 21) rfl c13 rfl rfl rfl rfl ?_
    have eV : v6 = zv_b h 38 (zv_f h 36 1 + 7) := by rcases vX with z | z; (rw [z.2]; congr 1; omega); (exfalso; omega)
    refine zx_T.l (i := .lload_n 1) (k := 1) (v := .long (zL (v6))) (pc := 68) rfl rfl rfl ?_
    exact zr_lr (x := v6) (pc := 69) rfl rfl ⟨rfl, _, rfl, by dsimp only; refine ⟨?_, by omega, by omega⟩; unfold zk_tN; first | (rw [if_pos (by omega)]; exact eV) | (rw [if_neg (by omega), if_pos (by omega)]; show _ = if 0 ≤ zi32 (zv_b h 38 (zv_f h 36 1 + 7)) ∧ zi32 (zv_b h 38 (zv_f h 36 1 + 7)) < zv_f h 41 2 then zv_a h 42 (zi32 (zv_b h 38 (zv_f h 36 1 + 7))) else 0; rw [eV] at lO; rcases lO with z | z; (rw [if_pos z.1]; exact z.2); (rw [if_neg z.1]; exact z.2)) | (rw [if_neg (by omega), if_neg (by omega)])⟩
  · refine zw_swd (t := 81) (x := v10) (pc := 21) rfl c13 (by omega) (by omega) rfl ?_
    refine zx_T.s (i := .lconst 0) (k := 1) (st' := [.long (zL (0))]) (pc := 81) rfl rfl ?_
    exact zr_lr (x := 0) (pc := 82) rfl rfl ⟨rfl, _, rfl, by dsimp only; refine ⟨?_, by omega, by omega⟩; unfold zk_tN; first | (rw [if_pos (by omega)]; exact eV) | (rw [if_neg (by omega), if_pos (by omega)]; show _ = if 0 ≤ zi32 (zv_b h 38 (zv_f h 36 1 + 7)) ∧ zi32 (zv_b h 38 (zv_f h 36 1 + 7)) < zv_f h 41 2 then zv_a h 42 (zi32 (zv_b h 38 (zv_f h 36 1 + 7))) else 0; rw [eV] at lO; rcases lO with z | z; (rw [if_pos z.1]; exact z.2); (rw [if_neg z.1]; exact z.2)) | (rw [if_neg (by omega), if_neg (by omega)])⟩

set_option maxRecDepth 100000 in
set_option maxHeartbeats 4000000 in
theorem zm_mTell {h : zx_H} (hI : zb_I zc_H h) {w : Int} (w1 : -2147483648 ≤ w) (w2 : w ≤ 2147483647) : zx_T zp_P 3 zp_m73 0 [(0, .ref 34), (1, .int (zI (w)))] [] h (zr_Q h (fun e => e = zk_tl (zv_f h 34 7) (zk_of h) (zv_f h 34 10) w ∧ (-9223372036854775808) ≤ e ∧ e ≤ 9223372036854775807)) := by
  have rl9 := zv_rfl (h := h) 34 13
  refine zx_T.l (i := .aload_n 0) (k := 1) (v := .ref 34) (pc := 0) rfl rfl rfl ?_
  refine zw_gi (k := 7) (lo := 0) (hi := 1) (e := zv_f h 34 7) (pc := 1) rfl rfl rfl hI rfl (fun g1a g1b => ?_)
  refine zr_i1 (x := zv_f h 34 7) (t := 9) (pc := 4) rfl rfl (by omega) (by omega) (fun (c2 : ¬ (zv_f h 34 7) = 0) => ?_) (fun (c2 : ¬ (¬ (zv_f h 34 7) = 0)) => ?_)
  · refine zx_T.l (i := .iload_n 1) (k := 1) (v := .int (zI (w))) (pc := 9) rfl rfl rfl ?_
    have c3 : w = 0 ∨ w = 1 ∨ w = 2 ∨ w = 3 ∨ w = 4 ∨ (w < 0 ∨ 4 < w) := by omega
    rcases c3 with c3 | c3 | c3 | c3 | c3 | c3
    · refine zr_sw (i := .tableswitch 62 0 4 #[34, 40, 45, 51, 57]) (len := 34) (t := 44) (x := w) (k := 0) (pc := 10) rfl c3 rfl rfl rfl rfl ?_
      refine zx_T.l (i := .aload_n 0) (k := 1) (v := .ref 34) (pc := 44) rfl rfl rfl ?_
      refine zw_iv (b := 34) (cj := 75) (q' := zp_m75) (As := []) (rest := []) (pc := 45) rfl rfl rfl rfl rfl rfl rfl (Nat.le_of_ble_eq_true rfl) rfl (Nat.le_of_ble_eq_true rfl) hI ((zm_mTopKind (h := h) hI  ).up (Nat.le_of_ble_eq_true rfl)) ?_
      rintro r4 h7 ⟨h7q, v5, r4q, x6⟩
      subst h7q r4q
      try dsimp only at x6
      have tK9 := x6.1
      show zx_T zp_P 3 zp_m73 48 [(0, .ref 34), (1, .int (zI (w)))] [.int (zI (v5))] h _
      refine zr_i2l (pc := 48) rfl (by omega) (by omega) ?_
      exact zr_lr (x := v5) (pc := 49) rfl rfl ⟨rfl, _, rfl, by dsimp only; refine ⟨?_, by omega, by omega⟩; unfold zk_tl; first | (rw [if_pos (by omega)]) | (rw [if_neg (by omega)]; first | (rw [if_pos (by omega)]; first | exact tK9 | rfl) | (rw [if_neg (by omega)]; first | (rw [if_pos (by omega)]; first | exact tN9 | rfl) | (rw [if_neg (by omega)]; first | (rw [if_pos (by omega)]; rfl) | (rw [if_neg (by omega)]; first | (rw [if_pos (by omega)]) | (rw [if_neg (by omega)]; first | (rw [if_pos (by omega)]; rfl) | (rw [if_neg (by omega)]))))))⟩
    · refine zr_sw (i := .tableswitch 62 0 4 #[34, 40, 45, 51, 57]) (len := 34) (t := 50) (x := w) (k := 1) (pc := 10) rfl c3 rfl rfl rfl rfl ?_
      refine zx_T.l (i := .aload_n 0) (k := 1) (v := .ref 34) (pc := 50) rfl rfl rfl ?_
      refine zw_iv (b := 34) (cj := 76) (q' := zp_m76) (As := []) (rest := []) (pc := 51) rfl rfl rfl rfl rfl rfl rfl (Nat.le_of_ble_eq_true rfl) rfl (Nat.le_of_ble_eq_true rfl) hI ((zm_mTopNumber (h := h) hI  ).up (Nat.le_of_ble_eq_true rfl)) ?_
      rintro r8 h11 ⟨h11q, v9, r8q, x10⟩
      subst h11q r8q
      try dsimp only at x10
      have tN9 := x10.1
      show zx_T zp_P 3 zp_m73 54 [(0, .ref 34), (1, .int (zI (w)))] [.long (zL (v9))] h _
      exact zr_lr (x := v9) (pc := 54) rfl rfl ⟨rfl, _, rfl, by dsimp only; refine ⟨?_, by omega, by omega⟩; unfold zk_tl; first | (rw [if_pos (by omega)]) | (rw [if_neg (by omega)]; first | (rw [if_pos (by omega)]; first | exact tK9 | rfl) | (rw [if_neg (by omega)]; first | (rw [if_pos (by omega)]; first | exact tN9 | rfl) | (rw [if_neg (by omega)]; first | (rw [if_pos (by omega)]; rfl) | (rw [if_neg (by omega)]; first | (rw [if_pos (by omega)]) | (rw [if_neg (by omega)]; first | (rw [if_pos (by omega)]; rfl) | (rw [if_neg (by omega)]))))))⟩
    · refine zr_sw (i := .tableswitch 62 0 4 #[34, 40, 45, 51, 57]) (len := 34) (t := 55) (x := w) (k := 2) (pc := 10) rfl c3 rfl rfl rfl rfl ?_
      refine zx_T.l (i := .aload_n 0) (k := 1) (v := .ref 34) (pc := 55) rfl rfl rfl ?_
      refine zw_gi (k := 9) (lo := (-2147483648)) (hi := 2147483647) (e := zv_f h 34 9) (pc := 56) rfl rfl rfl hI rfl (fun g12a g12b => ?_)
      refine zr_i2l (pc := 59) rfl (by omega) (by omega) ?_
      exact zr_lr (x := zv_f h 34 9) (pc := 60) rfl rfl ⟨rfl, _, rfl, by dsimp only; refine ⟨?_, by omega, by omega⟩; unfold zk_tl; first | (rw [if_pos (by omega)]) | (rw [if_neg (by omega)]; first | (rw [if_pos (by omega)]; first | exact tK9 | rfl) | (rw [if_neg (by omega)]; first | (rw [if_pos (by omega)]; first | exact tN9 | rfl) | (rw [if_neg (by omega)]; first | (rw [if_pos (by omega)]; rfl) | (rw [if_neg (by omega)]; first | (rw [if_pos (by omega)]) | (rw [if_neg (by omega)]; first | (rw [if_pos (by omega)]; rfl) | (rw [if_neg (by omega)]))))))⟩
    · refine zr_sw (i := .tableswitch 62 0 4 #[34, 40, 45, 51, 57]) (len := 34) (t := 61) (x := w) (k := 3) (pc := 10) rfl c3 rfl rfl rfl rfl ?_
      refine zx_T.l (i := .aload_n 0) (k := 1) (v := .ref 34) (pc := 61) rfl rfl rfl ?_
      refine zw_gi (k := 10) (lo := 0) (hi := 300) (e := zv_f h 34 10) (pc := 62) rfl rfl rfl hI rfl (fun g13a g13b => ?_)
      refine zr_i2l (pc := 65) rfl (by omega) (by omega) ?_
      exact zr_lr (x := zv_f h 34 10) (pc := 66) rfl rfl ⟨rfl, _, rfl, by dsimp only; refine ⟨?_, by omega, by omega⟩; unfold zk_tl; first | (rw [if_pos (by omega)]) | (rw [if_neg (by omega)]; first | (rw [if_pos (by omega)]; first | exact tK9 | rfl) | (rw [if_neg (by omega)]; first | (rw [if_pos (by omega)]; first | exact tN9 | rfl) | (rw [if_neg (by omega)]; first | (rw [if_pos (by omega)]; rfl) | (rw [if_neg (by omega)]; first | (rw [if_pos (by omega)]) | (rw [if_neg (by omega)]; first | (rw [if_pos (by omega)]; rfl) | (rw [if_neg (by omega)]))))))⟩
    · refine zr_sw (i := .tableswitch 62 0 4 #[34, 40, 45, 51, 57]) (len := 34) (t := 67) (x := w) (k := 4) (pc := 10) rfl c3 rfl rfl rfl rfl ?_
      refine zx_T.l (i := .aload_n 0) (k := 1) (v := .ref 34) (pc := 67) rfl rfl rfl ?_
      refine zw_gl (k := 13) (e := zv_fl h 34 13) (pc := 68) rfl rfl rfl hI rfl ?_
      exact zr_lr (x := zv_fl h 34 13) (pc := 71) rfl rfl ⟨rfl, _, rfl, by dsimp only; refine ⟨?_, by omega, by omega⟩; unfold zk_tl; first | (rw [if_pos (by omega)]) | (rw [if_neg (by omega)]; first | (rw [if_pos (by omega)]; first | exact tK9 | rfl) | (rw [if_neg (by omega)]; first | (rw [if_pos (by omega)]; first | exact tN9 | rfl) | (rw [if_neg (by omega)]; first | (rw [if_pos (by omega)]; rfl) | (rw [if_neg (by omega)]; first | (rw [if_pos (by omega)]) | (rw [if_neg (by omega)]; first | (rw [if_pos (by omega)]; rfl) | (rw [if_neg (by omega)]))))))⟩
    · refine zw_swd (t := 72) (x := w) (pc := 10) rfl c3 (by omega) (by omega) rfl ?_
      refine zx_T.s (i := .lconst 0) (k := 1) (st' := [.long (zL (0))]) (pc := 72) rfl rfl ?_
      exact zr_lr (x := 0) (pc := 73) rfl rfl ⟨rfl, _, rfl, by dsimp only; refine ⟨?_, by omega, by omega⟩; unfold zk_tl; first | (rw [if_pos (by omega)]) | (rw [if_neg (by omega)]; first | (rw [if_pos (by omega)]; first | exact tK9 | rfl) | (rw [if_neg (by omega)]; first | (rw [if_pos (by omega)]; first | exact tN9 | rfl) | (rw [if_neg (by omega)]; first | (rw [if_pos (by omega)]; rfl) | (rw [if_neg (by omega)]; first | (rw [if_pos (by omega)]) | (rw [if_neg (by omega)]; first | (rw [if_pos (by omega)]; rfl) | (rw [if_neg (by omega)]))))))⟩
  · refine zx_T.s (i := .lconst 0) (k := 1) (st' := [.long (zL (0))]) (pc := 7) rfl rfl ?_
    exact zr_lr (x := 0) (pc := 8) rfl rfl ⟨rfl, _, rfl, by dsimp only; refine ⟨?_, by omega, by omega⟩; unfold zk_tl; first | (rw [if_pos (by omega)]) | (rw [if_neg (by omega)]; first | (rw [if_pos (by omega)]; first | exact tK9 | rfl) | (rw [if_neg (by omega)]; first | (rw [if_pos (by omega)]; first | exact tN9 | rfl) | (rw [if_neg (by omega)]; first | (rw [if_pos (by omega)]; rfl) | (rw [if_neg (by omega)]; first | (rw [if_pos (by omega)]) | (rw [if_neg (by omega)]; first | (rw [if_pos (by omega)]; rfl) | (rw [if_neg (by omega)]))))))⟩

set_option maxRecDepth 100000 in
set_option maxHeartbeats 4000000 in
theorem zm_cToldX {h : zx_H} (hI : zb_I zc_H h) {w : Int} (w1 : -2147483648 ≤ w) (w2 : w ≤ 2147483647) : zx_T zp_P 4 zp_m150 0 [(0, .ref 0), (1, .int (zI (w)))] [] h (zr_Q h (fun e => e = zk_tl (zv_f h 34 7) (zk_of h) (zv_f h 34 10) w ∧ (-9223372036854775808) ≤ e ∧ e ≤ 9223372036854775807)) := by
  refine zx_T.l (i := .aload_n 0) (k := 1) (v := .ref 0) (pc := 0) rfl rfl rfl ?_
  refine zw_gr (k := 5) (b := 34) (pc := 1) rfl rfl rfl hI ?_
  refine zx_T.l (i := .iload_n 1) (k := 1) (v := .int (zI (w))) (pc := 4) rfl rfl rfl ?_
  refine zw_iv (b := 34) (cj := 73) (q' := zp_m73) (As := [.int (zI (w))]) (rest := []) (pc := 5) rfl rfl rfl rfl rfl rfl rfl (Nat.le_of_ble_eq_true rfl) rfl (Nat.le_of_ble_eq_true rfl) hI ((zm_mTell (h := h) hI (w := w) (by omega) (by omega)).up (Nat.le_of_ble_eq_true rfl)) ?_
  rintro r1 h4 ⟨h4q, v2, r1q, x3⟩
  subst h4q r1q
  try dsimp only at x3
  have tL := x3
  show zx_T zp_P 4 zp_m150 8 [(0, .ref 0), (1, .int (zI (w)))] [.long (zL (v2))] h _
  exact zr_lr (x := v2) (pc := 8) rfl rfl ⟨rfl, _, rfl, by dsimp only; exact tL⟩

set_option maxRecDepth 100000 in
set_option maxHeartbeats 4000000 in
theorem zm_cFaultX {h : zx_H} (hI : zb_I zc_H h)   : zx_T zp_P 0 zp_m140 0 [(0, .ref 0)] [] h (zr_P h (fun e => e = zv_f h 0 6)) := by
  refine zx_T.l (i := .aload_n 0) (k := 1) (v := .ref 0) (pc := 0) rfl rfl rfl ?_
  refine zw_gi (k := 6) (lo := (-2147483648)) (hi := 2147483647) (e := zv_f h 0 6) (pc := 1) rfl rfl rfl hI rfl (fun g1a g1b => ?_)
  exact zr_ir (x := zv_f h 0 6) (pc := 4) rfl rfl rfl ⟨rfl, _, rfl, by dsimp only; skip⟩

set_option maxRecDepth 100000 in
set_option maxHeartbeats 4000000 in
theorem zm_faultX {h : zx_H} (hI : zb_I zc_H h)   : zx_T zp_P 0 zp_m199 0 [(0, .ref 44)] [] h (zr_R [(44, 0)] h (fun e h' => e = zv_i h 14)) := by
  refine zx_T.l (i := .aload_n 0) (k := 1) (v := .ref 44) (pc := 0) rfl rfl rfl ?_
  refine zx_T.s (i := .iconst 0) (k := 1) (st' := [.int (zI (0)), .ref 44]) (pc := 1) rfl rfl ?_
  refine zr_pi (k := 0) (lo := (-2147483648)) (hi := 2147483647) (e := 0) (pc := 2) rfl rfl rfl rfl rfl rfl hI (by omega) (by omega) (fun h1 ih1 w2 e3 => ?_)
  refine zx_T.l (i := .aload_n 0) (k := 1) (v := .ref 44) (pc := 5) rfl rfl rfl ?_
  refine zr_gi (k := 14) (lo := (-2147483648)) (hi := 2147483647) (e := zv_i h 14) (pc := 6) rfl rfl rfl ih1 (zv_wi w2 rfl) (fun g4a g4b => ?_)
  exact zr_ir (x := zv_i h 14) (pc := 9) rfl rfl rfl ⟨ih1, (w2.wd rfl : zb_W [(44, 0)] h _), _, rfl, by dsimp only; skip⟩
