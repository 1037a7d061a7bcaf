/-! ===== 94: the reference, method by method (by program) ===== -/
set_option maxRecDepth 100000 in
set_option maxHeartbeats 4000000 in
theorem zm_cHandlers {h : zx_H} (hI : zb_I zc_H h)   : zx_T zp_P 0 zp_m5 0 [(0, .ref 1)] [] h (zr_P h (fun e => e = zv_f h 1 8 ∧ 0 ≤ e ∧ e ≤ 6)) := by
  refine zx_T.l (i := .aload_n 0) (k := 1) (v := .ref 1) (pc := 0) rfl rfl rfl ?_
  refine zw_gi (k := 8) (lo := 0) (hi := 6) (e := zv_f h 1 8) (pc := 1) rfl rfl rfl hI rfl (fun g1a g1b => ?_)
  exact zr_ir (x := zv_f h 1 8) (pc := 4) rfl rfl rfl ⟨rfl, _, rfl, by dsimp only; exact ⟨rfl, by omega, by omega⟩⟩

set_option maxRecDepth 100000 in
set_option maxHeartbeats 4000000 in
theorem zm_cFilled {h : zx_H} (hI : zb_I zc_H h)   : zx_T zp_P 0 zp_m6 0 [(0, .ref 1)] [] h (zr_P h (fun e => e = zv_f h 1 10 ∧ 0 ≤ e ∧ e ≤ 8)) := by
  refine zx_T.l (i := .aload_n 0) (k := 1) (v := .ref 1) (pc := 0) rfl rfl rfl ?_
  refine zw_gi (k := 10) (lo := 0) (hi := 8) (e := zv_f h 1 10) (pc := 1) rfl rfl rfl hI rfl (fun g1a g1b => ?_)
  exact zr_ir (x := zv_f h 1 10) (pc := 4) rfl rfl rfl ⟨rfl, _, rfl, by dsimp only; exact ⟨rfl, by omega, by omega⟩⟩

set_option maxRecDepth 100000 in
set_option maxHeartbeats 4000000 in
theorem zm_cHasPlace {h : zx_H} (hI : zb_I zc_H h) {p : Int} (p1 : -2147483648 ≤ p) (p2 : p ≤ 2147483647) : zx_T zp_P 0 zp_m7 0 [(0, .ref 1), (1, .int (zI (p)))] [] h (zr_P h (fun e => (e = 1 ∧ 0 ≤ p ∧ p < zv_f h 1 3) ∨ (e = 0 ∧ ¬ (0 ≤ p ∧ p < zv_f h 1 3)))) := by
  have hC := zw_ri hI (a := 1) (k := 3) rfl
  refine zx_T.l (i := .iload_n 1) (k := 1) (v := .int (zI (p))) (pc := 0) rfl rfl rfl ?_
  refine zr_i1 (x := p) (t := 16) (pc := 1) rfl rfl (by omega) (by omega) (fun (c1 : p < 0) => ?_) (fun (c1 : ¬ (p < 0)) => ?_)
  · refine zx_T.s (i := .iconst 0) (k := 1) (st' := [.int (zI (0))]) (pc := 16) rfl rfl ?_
    exact zr_ir (x := 0) (pc := 17) rfl rfl (zr_nb (by omega) (by omega)) ⟨rfl, _, rfl, by dsimp only; omega⟩
  · refine zx_T.l (i := .iload_n 1) (k := 1) (v := .int (zI (p))) (pc := 4) rfl rfl rfl ?_
    refine zx_T.l (i := .aload_n 0) (k := 1) (v := .ref 1) (pc := 5) rfl rfl rfl ?_
    refine zw_gi (k := 3) (lo := 0) (hi := 60) (e := zv_f h 1 3) (pc := 6) rfl rfl rfl hI rfl (fun g2a g2b => ?_)
    refine zr_i2 (x := p) (y := zv_f h 1 3) (t := 16) (pc := 9) rfl rfl (by omega) (by omega) (by omega) (by omega) (fun (c3 : (zv_f h 1 3) ≤ p) => ?_) (fun (c3 : ¬ ((zv_f h 1 3) ≤ p)) => ?_)
    · refine zx_T.s (i := .iconst 0) (k := 1) (st' := [.int (zI (0))]) (pc := 16) rfl rfl ?_
      exact zr_ir (x := 0) (pc := 17) rfl rfl (zr_nb (by omega) (by omega)) ⟨rfl, _, rfl, by dsimp only; omega⟩
    · refine zx_T.s (i := .iconst 1) (k := 1) (st' := [.int (zI (1))]) (pc := 12) rfl rfl ?_
      refine zx_T.j (i := .goto 4) (k := 3) (pc' := 17) (st' := [.int (zI (1))]) (pc := 13) rfl rfl rfl rfl rfl ?_
      exact zr_ir (x := 1) (pc := 17) rfl rfl (zr_nb (by omega) (by omega)) ⟨rfl, _, rfl, by dsimp only; omega⟩

set_option maxRecDepth 100000 in
set_option maxHeartbeats 4000000 in
theorem zm_cOpAt {h : zx_H} (hI : zb_I zc_H h) {p : Int} (p1 : 0 ≤ p) (p2 : p < zv_f h 1 3) : zx_T zp_P 1 zp_m8 0 [(0, .ref 1), (1, .int (zI (p)))] [] h (zr_P h (fun e => e = zv_a h 2 p ∧ (-2147483648) ≤ e ∧ e ≤ 2147483647)) := by
  have hC := zw_ri hI (a := 1) (k := 3) rfl
  refine zx_T.l (i := .aload_n 0) (k := 1) (v := .ref 1) (pc := 0) rfl rfl rfl ?_
  refine zx_T.l (i := .iload_n 1) (k := 1) (v := .int (zI (p))) (pc := 1) rfl rfl rfl ?_
  refine zw_iv (b := 1) (cj := 7) (q' := zp_m7) (As := [.int (zI (p))]) (rest := []) (pc := 2) rfl rfl rfl rfl rfl rfl rfl (Nat.le_of_ble_eq_true rfl) rfl (Nat.le_of_ble_eq_true rfl) hI ((zm_cHasPlace (h := h) hI (p := p) (by omega) (by omega)).up (Nat.le_of_ble_eq_true rfl)) ?_
  rintro r2 h5 ⟨h5q, v3, r2q, x4⟩
  subst h5q r2q
  try dsimp only at x4
  show zx_T zp_P 1 zp_m8 5 [(0, .ref 1), (1, .int (zI (p)))] [.int (zI (v3))] h _
  refine zr_i1 (x := v3) (t := 17) (pc := 5) rfl rfl (by omega) (by omega) (fun (c6 : v3 = 0) => ?_) (fun (c6 : ¬ (v3 = 0)) => ?_)
  · refine zx_T.s (i := .iconst 0) (k := 1) (st' := [.int (zI (0))]) (pc := 17) rfl rfl ?_
    exact zr_ir (x := 0) (pc := 18) rfl rfl rfl ⟨rfl, _, rfl, by dsimp only; omega⟩
  · refine zx_T.l (i := .aload_n 0) (k := 1) (v := .ref 1) (pc := 8) rfl rfl rfl ?_
    refine zw_gr (k := 0) (b := 2) (pc := 9) rfl rfl rfl hI ?_
    refine zx_T.l (i := .iload_n 1) (k := 1) (v := .int (zI (p))) (pc := 12) rfl rfl rfl ?_
    refine zr_al (n := 60) (lo := (-2147483648)) (hi := 2147483647) (e := zv_a h 2 p) (pc := 13) rfl rfl rfl hI (by omega) (by omega) rfl (fun g7a g7b => ?_)
    refine zx_T.j (i := .goto 4) (k := 3) (pc' := 18) (st' := [.int (zI (zv_a h 2 p))]) (pc := 14) rfl rfl rfl rfl rfl ?_
    exact zr_ir (x := zv_a h 2 p) (pc := 18) rfl rfl rfl ⟨rfl, _, rfl, by dsimp only; omega⟩

set_option maxRecDepth 100000 in
set_option maxHeartbeats 4000000 in
theorem zm_cFirstAt {h : zx_H} (hI : zb_I zc_H h) {p : Int} (p1 : 0 ≤ p) (p2 : p < zv_f h 1 3) : zx_T zp_P 1 zp_m9 0 [(0, .ref 1), (1, .int (zI (p)))] [] h (zr_P h (fun e => e = zv_a h 3 p ∧ (-2147483648) ≤ e ∧ e ≤ 2147483647)) := by
  have hC := zw_ri hI (a := 1) (k := 3) rfl
  refine zx_T.l (i := .aload_n 0) (k := 1) (v := .ref 1) (pc := 0) rfl rfl rfl ?_
  refine zx_T.l (i := .iload_n 1) (k := 1) (v := .int (zI (p))) (pc := 1) rfl rfl rfl ?_
  refine zw_iv (b := 1) (cj := 7) (q' := zp_m7) (As := [.int (zI (p))]) (rest := []) (pc := 2) rfl rfl rfl rfl rfl rfl rfl (Nat.le_of_ble_eq_true rfl) rfl (Nat.le_of_ble_eq_true rfl) hI ((zm_cHasPlace (h := h) hI (p := p) (by omega) (by omega)).up (Nat.le_of_ble_eq_true rfl)) ?_
  rintro r2 h5 ⟨h5q, v3, r2q, x4⟩
  subst h5q r2q
  try dsimp only at x4
  show zx_T zp_P 1 zp_m9 5 [(0, .ref 1), (1, .int (zI (p)))] [.int (zI (v3))] h _
  refine zr_i1 (x := v3) (t := 17) (pc := 5) rfl rfl (by omega) (by omega) (fun (c6 : v3 = 0) => ?_) (fun (c6 : ¬ (v3 = 0)) => ?_)
  · refine zx_T.s (i := .iconst 0) (k := 1) (st' := [.int (zI (0))]) (pc := 17) rfl rfl ?_
    exact zr_ir (x := 0) (pc := 18) rfl rfl rfl ⟨rfl, _, rfl, by dsimp only; omega⟩
  · refine zx_T.l (i := .aload_n 0) (k := 1) (v := .ref 1) (pc := 8) rfl rfl rfl ?_
    refine zw_gr (k := 1) (b := 3) (pc := 9) rfl rfl rfl hI ?_
    refine zx_T.l (i := .iload_n 1) (k := 1) (v := .int (zI (p))) (pc := 12) rfl rfl rfl ?_
    refine zr_al (n := 60) (lo := (-2147483648)) (hi := 2147483647) (e := zv_a h 3 p) (pc := 13) rfl rfl rfl hI (by omega) (by omega) rfl (fun g7a g7b => ?_)
    refine zx_T.j (i := .goto 4) (k := 3) (pc' := 18) (st' := [.int (zI (zv_a h 3 p))]) (pc := 14) rfl rfl rfl rfl rfl ?_
    exact zr_ir (x := zv_a h 3 p) (pc := 18) rfl rfl rfl ⟨rfl, _, rfl, by dsimp only; omega⟩

set_option maxRecDepth 100000 in
set_option maxHeartbeats 4000000 in
theorem zm_cSecondAt {h : zx_H} (hI : zb_I zc_H h) {p : Int} (p1 : 0 ≤ p) (p2 : p < zv_f h 1 3) : zx_T zp_P 1 zp_m10 0 [(0, .ref 1), (1, .int (zI (p)))] [] h (zr_P h (fun e => e = zv_a h 4 p ∧ (-2147483648) ≤ e ∧ e ≤ 2147483647)) := by
  have hC := zw_ri hI (a := 1) (k := 3) rfl
  refine zx_T.l (i := .aload_n 0) (k := 1) (v := .ref 1) (pc := 0) rfl rfl rfl ?_
  refine zx_T.l (i := .iload_n 1) (k := 1) (v := .int (zI (p))) (pc := 1) rfl rfl rfl ?_
  refine zw_iv (b := 1) (cj := 7) (q' := zp_m7) (As := [.int (zI (p))]) (rest := []) (pc := 2) rfl rfl rfl rfl rfl rfl rfl (Nat.le_of_ble_eq_true rfl) rfl (Nat.le_of_ble_eq_true rfl) hI ((zm_cHasPlace (h := h) hI (p := p) (by omega) (by omega)).up (Nat.le_of_ble_eq_true rfl)) ?_
  rintro r2 h5 ⟨h5q, v3, r2q, x4⟩
  subst h5q r2q
  try dsimp only at x4
  show zx_T zp_P 1 zp_m10 5 [(0, .ref 1), (1, .int (zI (p)))] [.int (zI (v3))] h _
  refine zr_i1 (x := v3) (t := 17) (pc := 5) rfl rfl (by omega) (by omega) (fun (c6 : v3 = 0) => ?_) (fun (c6 : ¬ (v3 = 0)) => ?_)
  · refine zx_T.s (i := .iconst 0) (k := 1) (st' := [.int (zI (0))]) (pc := 17) rfl rfl ?_
    exact zr_ir (x := 0) (pc := 18) rfl rfl rfl ⟨rfl, _, rfl, by dsimp only; omega⟩
  · refine zx_T.l (i := .aload_n 0) (k := 1) (v := .ref 1) (pc := 8) rfl rfl rfl ?_
    refine zw_gr (k := 2) (b := 4) (pc := 9) rfl rfl rfl hI ?_
    refine zx_T.l (i := .iload_n 1) (k := 1) (v := .int (zI (p))) (pc := 12) rfl rfl rfl ?_
    refine zr_al (n := 60) (lo := (-2147483648)) (hi := 2147483647) (e := zv_a h 4 p) (pc := 13) rfl rfl rfl hI (by omega) (by omega) rfl (fun g7a g7b => ?_)
    refine zx_T.j (i := .goto 4) (k := 3) (pc' := 18) (st' := [.int (zI (zv_a h 4 p))]) (pc := 14) rfl rfl rfl rfl rfl ?_
    exact zr_ir (x := zv_a h 4 p) (pc := 18) rfl rfl rfl ⟨rfl, _, rfl, by dsimp only; omega⟩

set_option maxRecDepth 100000 in
set_option maxHeartbeats 4000000 in
theorem zm_cGoesOn {h : zx_H} (hI : zb_I zc_H h) {p : Int} (p1 : 0 ≤ p) (p2 : p < zv_f h 1 3) : zx_T zp_P 2 zp_m11 0 [(0, .ref 1), (1, .int (zI (p)))] [] h (zr_P h (fun e => (e = 1 ∧ (zv_a h 2 p < 22 ∨ 24 < zv_a h 2 p)) ∨ (e = 0 ∧ 22 ≤ zv_a h 2 p ∧ zv_a h 2 p ≤ 24))) := by
  have hC := zw_ri hI (a := 1) (k := 3) rfl
  refine zx_T.l (i := .aload_n 0) (k := 1) (v := .ref 1) (pc := 0) rfl rfl rfl ?_
  refine zx_T.l (i := .iload_n 1) (k := 1) (v := .int (zI (p))) (pc := 1) rfl rfl rfl ?_
  refine zw_iv (b := 1) (cj := 8) (q' := zp_m8) (As := [.int (zI (p))]) (rest := []) (pc := 2) rfl rfl rfl rfl rfl rfl rfl (Nat.le_of_ble_eq_true rfl) rfl (Nat.le_of_ble_eq_true rfl) hI ((zm_cOpAt (h := h) hI (p := p) (by omega) (by omega)).up (Nat.le_of_ble_eq_true rfl)) ?_
  rintro r2 h5 ⟨h5q, v3, r2q, x4⟩
  subst h5q r2q
  try dsimp only at x4
  show zx_T zp_P 2 zp_m11 5 [(0, .ref 1), (1, .int (zI (p)))] [.int (zI (v3))] h _
  refine zx_T.t (i := .istore_n 2) (k := 1) (ls' := [(2, .int (zI (v3))), (0, .ref 1), (1, .int (zI (p)))]) (st' := []) (pc := 5) rfl rfl rfl rfl ?_
  refine zx_T.l (i := .iload_n 2) (k := 1) (v := .int (zI (v3))) (pc := 6) rfl rfl rfl ?_
  refine zx_T.s (i := .bipush 22) (k := 2) (st' := [.int (zI (22)), .int (zI (v3))]) (pc := 7) rfl rfl ?_
  refine zr_i2 (x := v3) (y := 22) (t := 18) (pc := 9) rfl rfl (by omega) (by omega) (by omega) (by omega) (fun (c6 : v3 < 22) => ?_) (fun (c6 : ¬ (v3 < 22)) => ?_)
  · refine zx_T.s (i := .iconst 1) (k := 1) (st' := [.int (zI (1))]) (pc := 18) rfl rfl ?_
    refine zx_T.j (i := .goto 4) (k := 3) (pc' := 23) (st' := [.int (zI (1))]) (pc := 19) rfl rfl rfl rfl rfl ?_
    exact zr_ir (x := 1) (pc := 23) rfl rfl (zr_nb (by omega) (by omega)) ⟨rfl, _, rfl, by dsimp only; omega⟩
  · refine zx_T.l (i := .iload_n 2) (k := 1) (v := .int (zI (v3))) (pc := 12) rfl rfl rfl ?_
    refine zx_T.s (i := .bipush 24) (k := 2) (st' := [.int (zI (24)), .int (zI (v3))]) (pc := 13) rfl rfl ?_
    refine zr_i2 (x := v3) (y := 24) (t := 22) (pc := 15) rfl rfl (by omega) (by omega) (by omega) (by omega) (fun (c7 : v3 ≤ 24) => ?_) (fun (c7 : ¬ (v3 ≤ 24)) => ?_)
    · refine zx_T.s (i := .iconst 0) (k := 1) (st' := [.int (zI (0))]) (pc := 22) rfl rfl ?_
      exact zr_ir (x := 0) (pc := 23) rfl rfl (zr_nb (by omega) (by omega)) ⟨rfl, _, rfl, by dsimp only; omega⟩
    · refine zx_T.s (i := .iconst 1) (k := 1) (st' := [.int (zI (1))]) (pc := 18) rfl rfl ?_
      refine zx_T.j (i := .goto 4) (k := 3) (pc' := 23) (st' := [.int (zI (1))]) (pc := 19) rfl rfl rfl rfl rfl ?_
      exact zr_ir (x := 1) (pc := 23) rfl rfl (zr_nb (by omega) (by omega)) ⟨rfl, _, rfl, by dsimp only; omega⟩

set_option maxRecDepth 100000 in
set_option maxHeartbeats 4000000 in
theorem zm_cWays {h : zx_H} (hI : zb_I zc_H h) {p : Int} (p1 : 0 ≤ p) (p2 : p < zv_f h 1 3) : zx_T zp_P 2 zp_m12 0 [(0, .ref 1), (1, .int (zI (p)))] [] h (zr_P h (fun e => (e = 2 ∧ zv_a h 2 p = 27) ∨ (e = 1 ∧ 24 ≤ zv_a h 2 p ∧ zv_a h 2 p ≤ 26) ∨ (e = 0 ∧ ¬ (24 ≤ zv_a h 2 p ∧ zv_a h 2 p ≤ 27)))) := by
  have hC := zw_ri hI (a := 1) (k := 3) rfl
  refine zx_T.l (i := .aload_n 0) (k := 1) (v := .ref 1) (pc := 0) rfl rfl rfl ?_
  refine zx_T.l (i := .iload_n 1) (k := 1) (v := .int (zI (p))) (pc := 1) rfl rfl rfl ?_
  refine zw_iv (b := 1) (cj := 8) (q' := zp_m8) (As := [.int (zI (p))]) (rest := []) (pc := 2) rfl rfl rfl rfl rfl rfl rfl (Nat.le_of_ble_eq_true rfl) rfl (Nat.le_of_ble_eq_true rfl) hI ((zm_cOpAt (h := h) hI (p := p) (by omega) (by omega)).up (Nat.le_of_ble_eq_true rfl)) ?_
  rintro r2 h5 ⟨h5q, v3, r2q, x4⟩
  subst h5q r2q
  try dsimp only at x4
  show zx_T zp_P 2 zp_m12 5 [(0, .ref 1), (1, .int (zI (p)))] [.int (zI (v3))] h _
  refine zx_T.t (i := .istore_n 2) (k := 1) (ls' := [(2, .int (zI (v3))), (0, .ref 1), (1, .int (zI (p)))]) (st' := []) (pc := 5) rfl rfl rfl rfl ?_
  refine zx_T.l (i := .iload_n 2) (k := 1) (v := .int (zI (v3))) (pc := 6) rfl rfl rfl ?_
  refine zx_T.s (i := .bipush 24) (k := 2) (st' := [.int (zI (24)), .int (zI (v3))]) (pc := 7) rfl rfl ?_
  refine zr_i2 (x := v3) (y := 24) (t := 18) (pc := 9) rfl rfl (by omega) (by omega) (by omega) (by omega) (fun (c6 : v3 < 24) => ?_) (fun (c6 : ¬ (v3 < 24)) => ?_)
  · refine zx_T.s (i := .iconst 0) (k := 1) (st' := [.int (zI (0))]) (pc := 18) rfl rfl ?_
    exact zr_ir (x := 0) (pc := 19) rfl rfl rfl ⟨rfl, _, rfl, by dsimp only; omega⟩
  · refine zx_T.l (i := .iload_n 2) (k := 1) (v := .int (zI (v3))) (pc := 12) rfl rfl rfl ?_
    refine zx_T.s (i := .bipush 27) (k := 2) (st' := [.int (zI (27)), .int (zI (v3))]) (pc := 13) rfl rfl ?_
    refine zr_i2 (x := v3) (y := 27) (t := 20) (pc := 15) rfl rfl (by omega) (by omega) (by omega) (by omega) (fun (c7 : v3 ≤ 27) => ?_) (fun (c7 : ¬ (v3 ≤ 27)) => ?_)
    · refine zx_T.l (i := .iload_n 2) (k := 1) (v := .int (zI (v3))) (pc := 20) rfl rfl rfl ?_
      refine zx_T.s (i := .bipush 27) (k := 2) (st' := [.int (zI (27)), .int (zI (v3))]) (pc := 21) rfl rfl ?_
      refine zr_i2 (x := v3) (y := 27) (t := 30) (pc := 23) rfl rfl (by omega) (by omega) (by omega) (by omega) (fun (c8 : ¬ v3 = 27) => ?_) (fun (c8 : ¬ (¬ v3 = 27)) => ?_)
      · refine zx_T.s (i := .iconst 1) (k := 1) (st' := [.int (zI (1))]) (pc := 30) rfl rfl ?_
        exact zr_ir (x := 1) (pc := 31) rfl rfl rfl ⟨rfl, _, rfl, by dsimp only; omega⟩
      · refine zx_T.s (i := .iconst 2) (k := 1) (st' := [.int (zI (2))]) (pc := 26) rfl rfl ?_
        refine zx_T.j (i := .goto 4) (k := 3) (pc' := 31) (st' := [.int (zI (2))]) (pc := 27) rfl rfl rfl rfl rfl ?_
        exact zr_ir (x := 2) (pc := 31) rfl rfl rfl ⟨rfl, _, rfl, by dsimp only; omega⟩
    · refine zx_T.s (i := .iconst 0) (k := 1) (st' := [.int (zI (0))]) (pc := 18) rfl rfl ?_
      exact zr_ir (x := 0) (pc := 19) rfl rfl rfl ⟨rfl, _, rfl, by dsimp only; omega⟩

set_option maxRecDepth 100000 in
set_option maxHeartbeats 4000000 in
theorem zm_cWay {h : zx_H} (hI : zb_I zc_H h) {p : Int} {k : Int} (p1 : 0 ≤ p) (p2 : p < zv_f h 1 3) (k1 : 0 ≤ k) (k2 : k ≤ 1) : zx_T zp_P 2 zp_m13 0 [(0, .ref 1), (1, .int (zI (p))), (2, .int (zI (k)))] [] h (zr_P h (fun e => ((k = 0 ∧ e = zv_a h 3 p) ∨ (k = 1 ∧ e = zv_a h 4 p)) ∧ (-2147483648) ≤ e ∧ e ≤ 2147483647)) := by
  have hC := zw_ri hI (a := 1) (k := 3) rfl
  refine zx_T.l (i := .iload_n 2) (k := 1) (v := .int (zI (k))) (pc := 0) rfl rfl rfl ?_
  refine zr_i1 (x := k) (t := 12) (pc := 1) rfl rfl (by omega) (by omega) (fun (c1 : ¬ k = 0) => ?_) (fun (c1 : ¬ (¬ k = 0)) => ?_)
  · refine zx_T.l (i := .aload_n 0) (k := 1) (v := .ref 1) (pc := 12) rfl rfl rfl ?_
    refine zx_T.l (i := .iload_n 1) (k := 1) (v := .int (zI (p))) (pc := 13) rfl rfl rfl ?_
    refine zw_iv (b := 1) (cj := 10) (q' := zp_m10) (As := [.int (zI (p))]) (rest := []) (pc := 14) rfl rfl rfl rfl rfl rfl rfl (Nat.le_of_ble_eq_true rfl) rfl (Nat.le_of_ble_eq_true rfl) hI ((zm_cSecondAt (h := h) hI (p := p) (by omega) (by omega)).up (Nat.le_of_ble_eq_true rfl)) ?_
    rintro r3 h6 ⟨h6q, v4, r3q, x5⟩
    subst h6q r3q
    try dsimp only at x5
    show zx_T zp_P 2 zp_m13 17 [(0, .ref 1), (1, .int (zI (p))), (2, .int (zI (k)))] [.int (zI (v4))] h _
    exact zr_ir (x := v4) (pc := 17) rfl rfl rfl ⟨rfl, _, rfl, by dsimp only; omega⟩
  · refine zx_T.l (i := .aload_n 0) (k := 1) (v := .ref 1) (pc := 4) rfl rfl rfl ?_
    refine zx_T.l (i := .iload_n 1) (k := 1) (v := .int (zI (p))) (pc := 5) rfl rfl rfl ?_
    refine zw_iv (b := 1) (cj := 9) (q' := zp_m9) (As := [.int (zI (p))]) (rest := []) (pc := 6) rfl rfl rfl rfl rfl rfl rfl (Nat.le_of_ble_eq_true rfl) rfl (Nat.le_of_ble_eq_true rfl) hI ((zm_cFirstAt (h := h) hI (p := p) (by omega) (by omega)).up (Nat.le_of_ble_eq_true rfl)) ?_
    rintro r8 h11 ⟨h11q, v9, r8q, x10⟩
    subst h11q r8q
    try dsimp only at x10
    show zx_T zp_P 2 zp_m13 9 [(0, .ref 1), (1, .int (zI (p))), (2, .int (zI (k)))] [.int (zI (v9))] h _
    refine zx_T.j (i := .goto 8) (k := 3) (pc' := 17) (st' := [.int (zI (v9))]) (pc := 9) rfl rfl rfl rfl rfl ?_
    exact zr_ir (x := v9) (pc := 17) rfl rfl rfl ⟨rfl, _, rfl, by dsimp only; omega⟩

set_option maxRecDepth 100000 in
set_option maxHeartbeats 4000000 in
theorem zm_cHasHandler {h : zx_H} (hI : zb_I zc_H h) {t : Int} (t1 : 0 ≤ t) (t2 : t < zv_f h 1 8) : zx_T zp_P 0 zp_m14 0 [(0, .ref 1), (1, .int (zI (t)))] [] h (zr_P h (fun e => 1 ≤ e ∧ e ≤ 1)) := by
  have hH := zw_ri hI (a := 1) (k := 8) rfl
  refine zx_T.l (i := .iload_n 1) (k := 1) (v := .int (zI (t))) (pc := 0) rfl rfl rfl ?_
  refine zr_i1 (x := t) (t := 16) (pc := 1) rfl rfl (by omega) (by omega) (fun (c1 : t < 0) => False.elim (by omega)) (fun (c1 : ¬ (t < 0)) => ?_)
  refine zx_T.l (i := .iload_n 1) (k := 1) (v := .int (zI (t))) (pc := 4) rfl rfl rfl ?_
  refine zx_T.l (i := .aload_n 0) (k := 1) (v := .ref 1) (pc := 5) rfl rfl rfl ?_
  refine zw_gi (k := 8) (lo := 0) (hi := 6) (e := zv_f h 1 8) (pc := 6) rfl rfl rfl hI rfl (fun g2a g2b => ?_)
  refine zr_i2 (x := t) (y := zv_f h 1 8) (t := 16) (pc := 9) rfl rfl (by omega) (by omega) (by omega) (by omega) (fun (c3 : (zv_f h 1 8) ≤ t) => ?_) (fun (c3 : ¬ ((zv_f h 1 8) ≤ t)) => ?_)
  · refine zx_T.s (i := .iconst 0) (k := 1) (st' := [.int (zI (0))]) (pc := 16) rfl rfl ?_
    exact zr_ir (x := 0) (pc := 17) rfl rfl (zr_nb (by omega) (by omega)) ⟨rfl, _, rfl, by dsimp only; omega⟩
  · refine zx_T.s (i := .iconst 1) (k := 1) (st' := [.int (zI (1))]) (pc := 12) rfl rfl ?_
    refine zx_T.j (i := .goto 4) (k := 3) (pc' := 17) (st' := [.int (zI (1))]) (pc := 13) rfl rfl rfl rfl rfl ?_
    exact zr_ir (x := 1) (pc := 17) rfl rfl (zr_nb (by omega) (by omega)) ⟨rfl, _, rfl, by dsimp only; omega⟩

set_option maxRecDepth 100000 in
set_option maxHeartbeats 4000000 in
theorem zm_cHandles {h : zx_H} (hI : zb_I zc_H h) {t : Int} {p : Int} (t1 : 0 ≤ t) (t2 : t < zv_f h 1 8) (p1 : -2147483648 ≤ p) (p2 : p ≤ 2147483647) : zx_T zp_P 1 zp_m15 0 [(0, .ref 1), (1, .int (zI (t))), (2, .int (zI (p)))] [] h (zr_P h (fun e => (e = 1 ∧ zv_a h 5 t ≤ p ∧ p < zv_a h 6 t) ∨ (e = 0 ∧ ¬ (zv_a h 5 t ≤ p ∧ p < zv_a h 6 t)))) := by
  have hH := zw_ri hI (a := 1) (k := 8) rfl
  refine zx_T.l (i := .aload_n 0) (k := 1) (v := .ref 1) (pc := 0) rfl rfl rfl ?_
  refine zx_T.l (i := .iload_n 1) (k := 1) (v := .int (zI (t))) (pc := 1) rfl rfl rfl ?_
  refine zw_iv (b := 1) (cj := 14) (q' := zp_m14) (As := [.int (zI (t))]) (rest := []) (pc := 2) rfl rfl rfl rfl rfl rfl rfl (Nat.le_of_ble_eq_true rfl) rfl (Nat.le_of_ble_eq_true rfl) hI ((zm_cHasHandler (h := h) hI (t := t) (by omega) (by omega)).up (Nat.le_of_ble_eq_true rfl)) ?_
  rintro r2 h5 ⟨h5q, v3, r2q, x4⟩
  subst h5q r2q
  try dsimp only at x4
  show zx_T zp_P 1 zp_m15 5 [(0, .ref 1), (1, .int (zI (t))), (2, .int (zI (p)))] [.int (zI (v3))] h _
  refine zr_i1 (x := v3) (t := 32) (pc := 5) rfl rfl (by omega) (by omega) (fun (c6 : v3 = 0) => False.elim (by omega)) (fun (c6 : ¬ (v3 = 0)) => ?_)
  refine zx_T.l (i := .aload_n 0) (k := 1) (v := .ref 1) (pc := 8) rfl rfl rfl ?_
  refine zw_gr (k := 4) (b := 5) (pc := 9) rfl rfl rfl hI ?_
  refine zx_T.l (i := .iload_n 1) (k := 1) (v := .int (zI (t))) (pc := 12) rfl rfl rfl ?_
  refine zr_al (n := 6) (lo := (-2147483648)) (hi := 2147483647) (e := zv_a h 5 t) (pc := 13) rfl rfl rfl hI (by omega) (by omega) rfl (fun g7a g7b => ?_)
  refine zx_T.l (i := .iload_n 2) (k := 1) (v := .int (zI (p))) (pc := 14) rfl rfl rfl ?_
  refine zr_i2 (x := zv_a h 5 t) (y := p) (t := 32) (pc := 15) rfl rfl (by omega) (by omega) (by omega) (by omega) (fun (c8 : p < (zv_a h 5 t)) => ?_) (fun (c8 : ¬ (p < (zv_a h 5 t))) => ?_)
  · refine zx_T.s (i := .iconst 0) (k := 1) (st' := [.int (zI (0))]) (pc := 32) rfl rfl ?_
    exact zr_ir (x := 0) (pc := 33) rfl rfl (zr_nb (by omega) (by omega)) ⟨rfl, _, rfl, by dsimp only; omega⟩
  · refine zx_T.l (i := .iload_n 2) (k := 1) (v := .int (zI (p))) (pc := 18) rfl rfl rfl ?_
    refine zx_T.l (i := .aload_n 0) (k := 1) (v := .ref 1) (pc := 19) rfl rfl rfl ?_
    refine zw_gr (k := 5) (b := 6) (pc := 20) rfl rfl rfl hI ?_
    refine zx_T.l (i := .iload_n 1) (k := 1) (v := .int (zI (t))) (pc := 23) rfl rfl rfl ?_
    refine zr_al (n := 6) (lo := (-2147483648)) (hi := 2147483647) (e := zv_a h 6 t) (pc := 24) rfl rfl rfl hI (by omega) (by omega) rfl (fun g9a g9b => ?_)
    refine zr_i2 (x := p) (y := zv_a h 6 t) (t := 32) (pc := 25) rfl rfl (by omega) (by omega) (by omega) (by omega) (fun (c10 : (zv_a h 6 t) ≤ p) => ?_) (fun (c10 : ¬ ((zv_a h 6 t) ≤ p)) => ?_)
    · refine zx_T.s (i := .iconst 0) (k := 1) (st' := [.int (zI (0))]) (pc := 32) rfl rfl ?_
      exact zr_ir (x := 0) (pc := 33) rfl rfl (zr_nb (by omega) (by omega)) ⟨rfl, _, rfl, by dsimp only; omega⟩
    · refine zx_T.s (i := .iconst 1) (k := 1) (st' := [.int (zI (1))]) (pc := 28) rfl rfl ?_
      refine zx_T.j (i := .goto 4) (k := 3) (pc' := 33) (st' := [.int (zI (1))]) (pc := 29) rfl rfl rfl rfl rfl ?_
      exact zr_ir (x := 1) (pc := 33) rfl rfl (zr_nb (by omega) (by omega)) ⟨rfl, _, rfl, by dsimp only; omega⟩

set_option maxRecDepth 100000 in
set_option maxHeartbeats 4000000 in
theorem zm_cHandlerAt {h : zx_H} (hI : zb_I zc_H h) {t : Int} (t1 : 0 ≤ t) (t2 : t < zv_f h 1 8) : zx_T zp_P 1 zp_m16 0 [(0, .ref 1), (1, .int (zI (t)))] [] h (zr_P h (fun e => e = zv_a h 7 t ∧ (-2147483648) ≤ e ∧ e ≤ 2147483647)) := by
  have hH := zw_ri hI (a := 1) (k := 8) rfl
  refine zx_T.l (i := .aload_n 0) (k := 1) (v := .ref 1) (pc := 0) rfl rfl rfl ?_
  refine zx_T.l (i := .iload_n 1) (k := 1) (v := .int (zI (t))) (pc := 1) rfl rfl rfl ?_
  refine zw_iv (b := 1) (cj := 14) (q' := zp_m14) (As := [.int (zI (t))]) (rest := []) (pc := 2) rfl rfl rfl rfl rfl rfl rfl (Nat.le_of_ble_eq_true rfl) rfl (Nat.le_of_ble_eq_true rfl) hI ((zm_cHasHandler (h := h) hI (t := t) (by omega) (by omega)).up (Nat.le_of_ble_eq_true rfl)) ?_
  rintro r2 h5 ⟨h5q, v3, r2q, x4⟩
  subst h5q r2q
  try dsimp only at x4
  show zx_T zp_P 1 zp_m16 5 [(0, .ref 1), (1, .int (zI (t)))] [.int (zI (v3))] h _
  refine zr_i1 (x := v3) (t := 17) (pc := 5) rfl rfl (by omega) (by omega) (fun (c6 : v3 = 0) => False.elim (by omega)) (fun (c6 : ¬ (v3 = 0)) => ?_)
  refine zx_T.l (i := .aload_n 0) (k := 1) (v := .ref 1) (pc := 8) rfl rfl rfl ?_
  refine zw_gr (k := 6) (b := 7) (pc := 9) rfl rfl rfl hI ?_
  refine zx_T.l (i := .iload_n 1) (k := 1) (v := .int (zI (t))) (pc := 12) rfl rfl rfl ?_
  refine zr_al (n := 6) (lo := (-2147483648)) (hi := 2147483647) (e := zv_a h 7 t) (pc := 13) rfl rfl rfl hI (by omega) (by omega) rfl (fun g7a g7b => ?_)
  refine zx_T.j (i := .goto 4) (k := 3) (pc' := 18) (st' := [.int (zI (zv_a h 7 t))]) (pc := 14) rfl rfl rfl rfl rfl ?_
  exact zr_ir (x := zv_a h 7 t) (pc := 18) rfl rfl rfl ⟨rfl, _, rfl, by dsimp only; omega⟩

set_option maxRecDepth 100000 in
set_option maxHeartbeats 4000000 in
theorem zm_cHandlerKind {h : zx_H} (hI : zb_I zc_H h) {t : Int} (t1 : 0 ≤ t) (t2 : t < zv_f h 1 8) : zx_T zp_P 1 zp_m17 0 [(0, .ref 1), (1, .int (zI (t)))] [] h (zr_P h (fun e => e = zv_a h 8 t ∧ (-2147483648) ≤ e ∧ e ≤ 2147483647)) := by
  have hH := zw_ri hI (a := 1) (k := 8) rfl
  refine zx_T.l (i := .aload_n 0) (k := 1) (v := .ref 1) (pc := 0) rfl rfl rfl ?_
  refine zx_T.l (i := .iload_n 1) (k := 1) (v := .int (zI (t))) (pc := 1) rfl rfl rfl ?_
  refine zw_iv (b := 1) (cj := 14) (q' := zp_m14) (As := [.int (zI (t))]) (rest := []) (pc := 2) rfl rfl rfl rfl rfl rfl rfl (Nat.le_of_ble_eq_true rfl) rfl (Nat.le_of_ble_eq_true rfl) hI ((zm_cHasHandler (h := h) hI (t := t) (by omega) (by omega)).up (Nat.le_of_ble_eq_true rfl)) ?_
  rintro r2 h5 ⟨h5q, v3, r2q, x4⟩
  subst h5q r2q
  try dsimp only at x4
  show zx_T zp_P 1 zp_m17 5 [(0, .ref 1), (1, .int (zI (t)))] [.int (zI (v3))] h _
  refine zr_i1 (x := v3) (t := 17) (pc := 5) rfl rfl (by omega) (by omega) (fun (c6 : v3 = 0) => False.elim (by omega)) (fun (c6 : ¬ (v3 = 0)) => ?_)
  refine zx_T.l (i := .aload_n 0) (k := 1) (v := .ref 1) (pc := 8) rfl rfl rfl ?_
  refine zw_gr (k := 7) (b := 8) (pc := 9) rfl rfl rfl hI ?_
  refine zx_T.l (i := .iload_n 1) (k := 1) (v := .int (zI (t))) (pc := 12) rfl rfl rfl ?_
  refine zr_al (n := 6) (lo := (-2147483648)) (hi := 2147483647) (e := zv_a h 8 t) (pc := 13) rfl rfl rfl hI (by omega) (by omega) rfl (fun g7a g7b => ?_)
  refine zx_T.j (i := .goto 4) (k := 3) (pc' := 18) (st' := [.int (zI (zv_a h 8 t))]) (pc := 14) rfl rfl rfl rfl rfl ?_
  exact zr_ir (x := zv_a h 8 t) (pc := 18) rfl rfl rfl ⟨rfl, _, rfl, by dsimp only; omega⟩

set_option maxRecDepth 100000 in
set_option maxHeartbeats 4000000 in
theorem zm_cParKind {h : zx_H} (hI : zb_I zc_H h) {i : Int} (i1 : 0 ≤ i) (i2 : i ≤ 7) : zx_T zp_P 0 zp_m19 0 [(0, .ref 1), (1, .int (zI (i)))] [] h (zr_P h (fun e => ((i < zv_f h 1 10 ∧ e = zv_a h 9 i) ∨ (¬ i < zv_f h 1 10 ∧ e = 0)) ∧ (-2147483648) ≤ e ∧ e ≤ 2147483647)) := by
  have hQ := zw_ri hI (a := 1) (k := 10) rfl
  refine zx_T.l (i := .iload_n 1) (k := 1) (v := .int (zI (i))) (pc := 0) rfl rfl rfl ?_
  refine zr_i1 (x := i) (t := 21) (pc := 1) rfl rfl (by omega) (by omega) (fun (c1 : i < 0) => False.elim (by omega)) (fun (c1 : ¬ (i < 0)) => ?_)
  refine zx_T.l (i := .iload_n 1) (k := 1) (v := .int (zI (i))) (pc := 4) rfl rfl rfl ?_
  refine zx_T.l (i := .aload_n 0) (k := 1) (v := .ref 1) (pc := 5) rfl rfl rfl ?_
  refine zw_gi (k := 10) (lo := 0) (hi := 8) (e := zv_f h 1 10) (pc := 6) rfl rfl rfl hI rfl (fun g2a g2b => ?_)
  refine zr_i2 (x := i) (y := zv_f h 1 10) (t := 21) (pc := 9) rfl rfl (by omega) (by omega) (by omega) (by omega) (fun (c3 : (zv_f h 1 10) ≤ i) => ?_) (fun (c3 : ¬ ((zv_f h 1 10) ≤ i)) => ?_)
  · refine zx_T.s (i := .iconst 0) (k := 1) (st' := [.int (zI (0))]) (pc := 21) rfl rfl ?_
    exact zr_ir (x := 0) (pc := 22) rfl rfl rfl ⟨rfl, _, rfl, by dsimp only; omega⟩
  · refine zx_T.l (i := .aload_n 0) (k := 1) (v := .ref 1) (pc := 12) rfl rfl rfl ?_
    refine zw_gr (k := 9) (b := 9) (pc := 13) rfl rfl rfl hI ?_
    refine zx_T.l (i := .iload_n 1) (k := 1) (v := .int (zI (i))) (pc := 16) rfl rfl rfl ?_
    refine zr_al (n := 8) (lo := (-2147483648)) (hi := 2147483647) (e := zv_a h 9 i) (pc := 17) rfl rfl rfl hI (by omega) (by omega) rfl (fun g4a g4b => ?_)
    refine zx_T.j (i := .goto 4) (k := 3) (pc' := 22) (st' := [.int (zI (zv_a h 9 i))]) (pc := 18) rfl rfl rfl rfl rfl ?_
    exact zr_ir (x := zv_a h 9 i) (pc := 22) rfl rfl rfl ⟨rfl, _, rfl, by dsimp only; omega⟩

set_option maxRecDepth 100000 in
set_option maxHeartbeats 4000000 in
theorem zm_begin_20_L {h : zx_H} (hI : zb_I zc_H h)   (n : Nat) : (∀ {h2 : zx_H} {k : Int} (hI2 : zb_I zc_H h2) (k1 : 0 ≤ k) (k2 : k ≤ 8) (hw : zb_W [(21, 0)] h h2) (hj : ∀ j, 0 ≤ j → j < k → zv_a h2 21 j = if j < zv_f h 1 10 then zv_a h 9 j else 0), (8 - k : Int).toNat < n → zx_T zp_P 1 zp_m115 2 [(0, .ref 20), (1, .ref 1), (2, .int (zI (k)))] [] h2 (zr_V [(20, 1), (21, 0)] h (fun h' => zv_f h' 20 1 = 0 ∧ ∀ j, 0 ≤ j → j < 8 → zv_a h' 21 j = if j < zv_f h 1 10 then zv_a h 9 j else 0))) := by
  induction n with
  | zero => exact fun _ _ _ _ _ hm => absurd hm (Nat.not_lt_zero _)
  | succ n ih =>
    intro h2 k hI2 k1 k2 hw hj hm
    have hQ := zw_ri hI (a := 1) (k := 10) rfl
    refine zx_T.l (i := .iload_n 2) (k := 1) (v := .int (zI (k))) (pc := 2) rfl rfl rfl ?_
    refine zx_T.s (i := .bipush 8) (k := 2) (st' := [.int (zI (8)), .int (zI (k))]) (pc := 3) rfl rfl ?_
    refine zr_i2 (x := k) (y := 8) (t := 25) (pc := 5) rfl rfl (by omega) (by omega) (by omega) (by omega) (fun (c1 : 8 ≤ k) => ?_) (fun (c1 : ¬ (8 ≤ k)) => ?_)
    · refine zx_T.l (i := .aload_n 0) (k := 1) (v := .ref 20) (pc := 25) rfl rfl rfl ?_
      refine zx_T.s (i := .iconst 0) (k := 1) (st' := [.int (zI (0)), .ref 20]) (pc := 26) rfl rfl ?_
      refine zw_pi (k := 1) (lo := 0) (hi := 6) (e := 0) (pc := 27) rfl rfl rfl rfl rfl rfl hI2 (by omega) (by omega) (fun h3 ih3 w4 e5 => ?_)
      have y6 : zv_f h3 20 1 = 0 := e5
      have a21 : ∀ j, 0 ≤ j → zv_a h3 21 j = zv_a h2 21 j := fun j hj => by rw [zv_wa w4 rfl j]
      exact zr_vr (pc := 30) rfl rfl ⟨ih3, ((hw.wd rfl : zb_W [(20, 1), (21, 0)] h _).tr (w4.wd rfl)), rfl, by dsimp only; exact ⟨by omega, fun j j0 j1 => by rw [a21 j j0]; exact hj j j0 (by omega)⟩⟩
    · refine zx_T.l (i := .aload_n 0) (k := 1) (v := .ref 20) (pc := 8) rfl rfl rfl ?_
      refine zw_gr (k := 0) (b := 21) (pc := 9) rfl rfl rfl hI2 ?_
      refine zx_T.l (i := .iload_n 2) (k := 1) (v := .int (zI (k))) (pc := 12) rfl rfl rfl ?_
      refine zx_T.l (i := .aload_n 1) (k := 1) (v := .ref 1) (pc := 13) rfl rfl rfl ?_
      refine zx_T.l (i := .iload_n 2) (k := 1) (v := .int (zI (k))) (pc := 14) rfl rfl rfl ?_
      refine zw_iv (b := 1) (cj := 19) (q' := zp_m19) (As := [.int (zI (k))]) (rest := [.int (zI (k)), .ref 21]) (pc := 15) rfl rfl rfl rfl rfl rfl rfl (Nat.le_of_ble_eq_true rfl) rfl (Nat.le_of_ble_eq_true rfl) hI2 ((zm_cParKind (h := h2) hI2 (i := k) (by omega) (by omega)).up (Nat.le_of_ble_eq_true rfl)) ?_
      rintro r8 h11 ⟨h11q, v9, r8q, x10⟩
      subst h11q r8q
      try dsimp only at x10
      have pK := x10.1
      rw [zv_wf hw (a := 1) (k := 10) rfl, zv_wa hw (a := 9) rfl] at pK
      show zx_T zp_P 1 zp_m115 18 [(0, .ref 20), (1, .ref 1), (2, .int (zI (k)))] [.int (zI (v9)), .int (zI (k)), .ref 21] h2 _
      refine zr_as (n := 14) (lo := (-2147483648)) (hi := 2147483647) (e := v9) (pc := 18) rfl rfl rfl rfl hI2 (by omega) (by omega) (by omega) (by omega) (fun h12 ih12 w13 s14 => ?_)
      refine zr_inc (x := k) (n := 1) (y := k + 1) (ls' := [(2, .int (zI (k + 1))), (0, .ref 20), (1, .ref 1)]) (pc := 19) rfl rfl rfl (by omega) rfl ?_
      refine zx_T.j (i := .goto (-20)) (k := 3) (pc' := 2) (st' := []) (pc := 22) rfl rfl rfl rfl rfl ?_
      have a21 : ∀ j, 0 ≤ j → zv_a h12 21 j = if j = k then v9 else zv_a h2 21 j := fun j hj => by rw [s14 j hj]
      refine zx_T.lk (ls' := [(0, .ref 20), (1, .ref 1), (2, .int (zI (k + 1)))]) rfl ⟨rfl, rfl, rfl, trivial⟩ ?_
      exact ih (h2 := h12) (k := k + 1) ih12 (by omega) (by omega) ((hw.wd rfl : zb_W [(21, 0)] h _).tr (w13.wd rfl)) (fun j j0 j1 => by rw [a21 j j0]; by_cases z : j = k; rw [if_pos z, z]; have q9 := pK; split <;> omega; rw [if_neg z]; exact hj j j0 (by omega)) (by omega)
set_option maxRecDepth 100000 in
set_option maxHeartbeats 4000000 in
theorem zm_begin_20 {h : zx_H} (hI : zb_I zc_H h)   : zx_T zp_P 1 zp_m115 0 [(0, .ref 20), (1, .ref 1)] [] h (zr_V [(20, 1), (21, 0)] h (fun h' => zv_f h' 20 1 = 0 ∧ ∀ j, 0 ≤ j → j < 8 → zv_a h' 21 j = if j < zv_f h 1 10 then zv_a h 9 j else 0)) := by
  have hQ := zw_ri hI (a := 1) (k := 10) rfl
  refine zx_T.s (i := .iconst 0) (k := 1) (st' := [.int (zI (0))]) (pc := 0) rfl rfl ?_
  refine zx_T.t (i := .istore_n 2) (k := 1) (ls' := [(2, .int (zI (0))), (0, .ref 20), (1, .ref 1)]) (st' := []) (pc := 1) rfl rfl rfl rfl ?_
  have a21 : ∀ j, 0 ≤ j → zv_a h 21 j = zv_a h 21 j := fun j hj => rfl
  refine zx_T.lk (ls' := [(0, .ref 20), (1, .ref 1), (2, .int (zI (0)))]) rfl ⟨rfl, rfl, rfl, trivial⟩ ?_
  exact zm_begin_20_L (h := h) hI   ((8 - 0 : Int).toNat + 1) (h2 := h) (k := 0) hI (by omega) (by omega) zb_W.rf (fun j j0 j1 => absurd j1 (by omega)) (Nat.lt_succ_self _)

set_option maxRecDepth 100000 in
set_option maxHeartbeats 4000000 in
theorem zm_fill_19_L {h : zx_H} (hI : zb_I zc_H h) {v : Int} (v1 : -2147483648 ≤ v) (v2 : v ≤ 2147483647) (n : Nat) : (∀ {h2 : zx_H} {k : Int} (hI2 : zb_I zc_H h2) (k1 : 0 ≤ k) (k2 : k ≤ 60) (hw : zb_W [(19, 0)] h h2) (hj : ∀ j, 0 ≤ j → j < k → zv_a h2 19 j = v), (60 - k : Int).toNat < n → zx_T zp_P 0 zp_m221 5 [(0, .ref 19), (1, .int (zI (v))), (2, .int (zI (k))), (3, .int (zI (60)))] [] h2 (zr_V [(19, 0)] h (fun h' => ∀ j, 0 ≤ j → j < 60 → zv_a h' 19 j = v))) := by
  induction n with
  | zero => exact fun _ _ _ _ _ hm => absurd hm (Nat.not_lt_zero _)
  | succ n ih =>
    intro h2 k hI2 k1 k2 hw hj hm
    refine zx_T.l (i := .iload_n 2) (k := 1) (v := .int (zI (k))) (pc := 5) rfl rfl rfl ?_
    refine zx_T.l (i := .iload_n 3) (k := 1) (v := .int (zI (60))) (pc := 6) rfl rfl rfl ?_
    refine zr_i2 (x := k) (y := 60) (t := 20) (pc := 7) rfl rfl (by omega) (by omega) (by omega) (by omega) (fun (c1 : 60 ≤ k) => ?_) (fun (c1 : ¬ (60 ≤ k)) => ?_)
    · exact zr_vr (pc := 20) rfl rfl ⟨hI2, (hw.wd rfl : zb_W [(19, 0)] h _), rfl, by dsimp only; exact fun j j0 j1 => hj j j0 (by omega)⟩
    · refine zx_T.l (i := .aload_n 0) (k := 1) (v := .ref 19) (pc := 10) rfl rfl rfl ?_
      refine zx_T.l (i := .iload_n 2) (k := 1) (v := .int (zI (k))) (pc := 11) rfl rfl rfl ?_
      refine zx_T.l (i := .iload_n 1) (k := 1) (v := .int (zI (v))) (pc := 12) rfl rfl rfl ?_
      refine zr_as (n := 60) (lo := (-2147483648)) (hi := 2147483647) (e := v) (pc := 13) rfl rfl rfl rfl hI2 (by omega) (by omega) (by omega) (by omega) (fun h3 ih3 w4 s5 => ?_)
      refine zr_inc (x := k) (n := 1) (y := k + 1) (ls' := [(2, .int (zI (k + 1))), (0, .ref 19), (1, .int (zI (v))), (3, .int (zI (60)))]) (pc := 14) rfl rfl rfl (by omega) rfl ?_
      refine zx_T.j (i := .goto (-12)) (k := 3) (pc' := 5) (st' := []) (pc := 17) rfl rfl rfl rfl rfl ?_
      have a19 : ∀ j, 0 ≤ j → zv_a h3 19 j = if j = k then v else zv_a h2 19 j := fun j hj => by rw [s5 j hj]
      refine zx_T.lk (ls' := [(0, .ref 19), (1, .int (zI (v))), (2, .int (zI (k + 1))), (3, .int (zI (60)))]) rfl ⟨rfl, rfl, rfl, rfl, trivial⟩ ?_
      exact ih (h2 := h3) (k := k + 1) ih3 (by omega) (by omega) ((hw.wd rfl : zb_W [(19, 0)] h _).tr (w4.wd rfl)) (fun j j0 j1 => by rw [a19 j j0]; by_cases z : j = k; rw [if_pos z]; rw [if_neg z]; exact hj j j0 (by omega)) (by omega)
set_option maxRecDepth 100000 in
set_option maxHeartbeats 4000000 in
theorem zm_fill_19 {h : zx_H} (hI : zb_I zc_H h) {v : Int} (v1 : -2147483648 ≤ v) (v2 : v ≤ 2147483647) : zx_T zp_P 0 zp_m221 0 [(0, .ref 19), (1, .int (zI (v)))] [] h (zr_V [(19, 0)] h (fun h' => ∀ j, 0 ≤ j → j < 60 → zv_a h' 19 j = v)) := by
  refine zx_T.s (i := .iconst 0) (k := 1) (st' := [.int (zI (0))]) (pc := 0) rfl rfl ?_
  refine zx_T.t (i := .istore_n 2) (k := 1) (ls' := [(2, .int (zI (0))), (0, .ref 19), (1, .int (zI (v)))]) (st' := []) (pc := 1) rfl rfl rfl rfl ?_
  refine zx_T.l (i := .aload_n 0) (k := 1) (v := .ref 19) (pc := 2) rfl rfl rfl ?_
  refine zw_len (e := 60) (pc := 3) rfl rfl rfl rfl hI ?_
  refine zx_T.t (i := .istore_n 3) (k := 1) (ls' := [(3, .int (zI (60))), (2, .int (zI (0))), (0, .ref 19), (1, .int (zI (v)))]) (st' := []) (pc := 4) rfl rfl rfl rfl ?_
  have a19 : ∀ j, 0 ≤ j → zv_a h 19 j = zv_a h 19 j := fun j hj => rfl
  refine zx_T.lk (ls' := [(0, .ref 19), (1, .int (zI (v))), (2, .int (zI (0))), (3, .int (zI (60)))]) rfl ⟨rfl, rfl, rfl, rfl, trivial⟩ ?_
  exact zm_fill_19_L (h := h) hI (v := v) v1 v2 ((60 - 0 : Int).toNat + 1) (h2 := h) (k := 0) hI (by omega) (by omega) zb_W.rf (fun j j0 j1 => absurd j1 (by omega)) (Nat.lt_succ_self _)

set_option maxRecDepth 100000 in
set_option maxHeartbeats 4000000 in
theorem zm_tForget_17 {h : zx_H} (hI : zb_I zc_H h)   : zx_T zp_P 1 zp_m129 0 [(0, .ref 17)] [] h (zr_V [(19, 0)] h (fun h' => ∀ j, 0 ≤ j → j < 60 → zv_a h' 19 j = -1)) := by
  refine zx_T.l (i := .aload_n 0) (k := 1) (v := .ref 17) (pc := 0) rfl rfl rfl ?_
  refine zw_gr (k := 1) (b := 19) (pc := 1) rfl rfl rfl hI ?_
  refine zx_T.s (i := .iconst (-1)) (k := 1) (st' := [.int (zI ((-1))), .ref 19]) (pc := 4) rfl rfl ?_
  refine zr_is (cj := 221) (q' := zp_m221) (As := [.ref 19, .int (zI ((-1)))]) (rest := []) (pc := 5) rfl rfl rfl rfl rfl rfl (Nat.le_of_ble_eq_true rfl) rfl (Nat.le_of_ble_eq_true rfl) rfl ((zm_fill_19 (h := h) hI (v := (-1)) (by omega) (by omega)).up (Nat.le_of_ble_eq_true rfl)) ?_
  rintro r1 h4 ⟨ih4, w5, r1q, x3⟩
  subst r1q
  try dsimp only at x3
  have fl := x3
  show zx_T zp_P 1 zp_m129 8 [(0, .ref 17)] [] h4 _
  exact zr_vr (pc := 8) rfl rfl ⟨ih4, (w5.wd rfl : zb_W [(19, 0)] h _), rfl, by dsimp only; exact fl⟩

set_option maxRecDepth 100000 in
set_option maxHeartbeats 4000000 in
theorem zm_tDepthOf_17 {h : zx_H} (hI : zb_I zc_H h) {r : Int} (r1 : 0 ≤ r) (r2 : r ≤ 59) : zx_T zp_P 0 zp_m130 0 [(0, .ref 17), (1, .int (zI (r)))] [] h (zr_P h (fun e => e = zv_a h 19 r ∧ (-2147483648) ≤ e ∧ e ≤ 2147483647)) := by
  refine zx_T.l (i := .iload_n 1) (k := 1) (v := .int (zI (r))) (pc := 0) rfl rfl rfl ?_
  refine zr_i1 (x := r) (t := 19) (pc := 1) rfl rfl (by omega) (by omega) (fun (c1 : r < 0) => False.elim (by omega)) (fun (c1 : ¬ (r < 0)) => ?_)
  refine zx_T.l (i := .iload_n 1) (k := 1) (v := .int (zI (r))) (pc := 4) rfl rfl rfl ?_
  refine zx_T.s (i := .bipush 60) (k := 2) (st' := [.int (zI (60)), .int (zI (r))]) (pc := 5) rfl rfl ?_
  refine zr_i2 (x := r) (y := 60) (t := 19) (pc := 7) rfl rfl (by omega) (by omega) (by omega) (by omega) (fun (c2 : 60 ≤ r) => False.elim (by omega)) (fun (c2 : ¬ (60 ≤ r)) => ?_)
  refine zx_T.l (i := .aload_n 0) (k := 1) (v := .ref 17) (pc := 10) rfl rfl rfl ?_
  refine zw_gr (k := 1) (b := 19) (pc := 11) rfl rfl rfl hI ?_
  refine zx_T.l (i := .iload_n 1) (k := 1) (v := .int (zI (r))) (pc := 14) rfl rfl rfl ?_
  refine zr_al (n := 60) (lo := (-2147483648)) (hi := 2147483647) (e := zv_a h 19 r) (pc := 15) rfl rfl rfl hI (by omega) (by omega) rfl (fun g3a g3b => ?_)
  refine zx_T.j (i := .goto 4) (k := 3) (pc' := 20) (st' := [.int (zI (zv_a h 19 r))]) (pc := 16) rfl rfl rfl rfl rfl ?_
  exact zr_ir (x := zv_a h 19 r) (pc := 20) rfl rfl rfl ⟨rfl, _, rfl, by dsimp only; exact ⟨rfl, by omega, by omega⟩⟩

set_option maxRecDepth 100000 in
set_option maxHeartbeats 4000000 in
theorem zm_tIsCell_17 {h : zx_H} (hI : zb_I zc_H h) {r : Int} {i : Int} (r1 : 0 ≤ r) (r2 : r ≤ 59) (i1 : 0 ≤ i) (i2 : i ≤ 13) : zx_T zp_P 0 zp_m133 0 [(0, .ref 17), (1, .int (zI (r))), (2, .int (zI (i)))] [] h (zr_P h (fun e => 1 ≤ e ∧ e ≤ 1)) := by
  refine zx_T.l (i := .iload_n 1) (k := 1) (v := .int (zI (r))) (pc := 0) rfl rfl rfl ?_
  refine zr_i1 (x := r) (t := 24) (pc := 1) rfl rfl (by omega) (by omega) (fun (c1 : r < 0) => False.elim (by omega)) (fun (c1 : ¬ (r < 0)) => ?_)
  refine zx_T.l (i := .iload_n 1) (k := 1) (v := .int (zI (r))) (pc := 4) rfl rfl rfl ?_
  refine zx_T.s (i := .bipush 60) (k := 2) (st' := [.int (zI (60)), .int (zI (r))]) (pc := 5) rfl rfl ?_
  refine zr_i2 (x := r) (y := 60) (t := 24) (pc := 7) rfl rfl (by omega) (by omega) (by omega) (by omega) (fun (c2 : 60 ≤ r) => False.elim (by omega)) (fun (c2 : ¬ (60 ≤ r)) => ?_)
  refine zx_T.l (i := .iload_n 2) (k := 1) (v := .int (zI (i))) (pc := 10) rfl rfl rfl ?_
  refine zr_i1 (x := i) (t := 24) (pc := 11) rfl rfl (by omega) (by omega) (fun (c3 : i < 0) => False.elim (by omega)) (fun (c3 : ¬ (i < 0)) => ?_)
  refine zx_T.l (i := .iload_n 2) (k := 1) (v := .int (zI (i))) (pc := 14) rfl rfl rfl ?_
  refine zx_T.s (i := .bipush 14) (k := 2) (st' := [.int (zI (14)), .int (zI (i))]) (pc := 15) rfl rfl ?_
  refine zr_i2 (x := i) (y := 14) (t := 24) (pc := 17) rfl rfl (by omega) (by omega) (by omega) (by omega) (fun (c4 : 14 ≤ i) => False.elim (by omega)) (fun (c4 : ¬ (14 ≤ i)) => ?_)
  refine zx_T.s (i := .iconst 1) (k := 1) (st' := [.int (zI (1))]) (pc := 20) rfl rfl ?_
  refine zx_T.j (i := .goto 4) (k := 3) (pc' := 25) (st' := [.int (zI (1))]) (pc := 21) rfl rfl rfl rfl rfl ?_
  exact zr_ir (x := 1) (pc := 25) rfl rfl (zr_nb (by omega) (by omega)) ⟨rfl, _, rfl, by dsimp only; omega⟩

set_option maxRecDepth 100000 in
set_option maxHeartbeats 4000000 in
theorem zm_tKindOf_17 {h : zx_H} (hI : zb_I zc_H h) {r : Int} {i : Int} (r1 : 0 ≤ r) (r2 : r ≤ 59) (i1 : 0 ≤ i) (i2 : i ≤ 13) : zx_T zp_P 1 zp_m131 0 [(0, .ref 17), (1, .int (zI (r))), (2, .int (zI (i)))] [] h (zr_P h (fun e => e = zv_a h 18 (14 * r + i) ∧ (-2147483648) ≤ e ∧ e ≤ 2147483647)) := by
  refine zx_T.l (i := .aload_n 0) (k := 1) (v := .ref 17) (pc := 0) rfl rfl rfl ?_
  refine zx_T.l (i := .iload_n 1) (k := 1) (v := .int (zI (r))) (pc := 1) rfl rfl rfl ?_
  refine zx_T.l (i := .iload_n 2) (k := 1) (v := .int (zI (i))) (pc := 2) rfl rfl rfl ?_
  refine zw_iv (b := 17) (cj := 133) (q' := zp_m133) (As := [.int (zI (r)), .int (zI (i))]) (rest := []) (pc := 3) rfl rfl rfl rfl rfl rfl rfl (Nat.le_of_ble_eq_true rfl) rfl (Nat.le_of_ble_eq_true rfl) hI ((zm_tIsCell_17 (h := h) hI (r := r) (i := i) (by omega) (by omega) (by omega) (by omega)).up (Nat.le_of_ble_eq_true rfl)) ?_
  rintro r1 h4 ⟨h4q, v2, r1q, x3⟩
  subst h4q r1q
  try dsimp only at x3
  show zx_T zp_P 1 zp_m131 6 [(0, .ref 17), (1, .int (zI (r))), (2, .int (zI (i)))] [.int (zI (v2))] h _
  refine zr_i1 (x := v2) (t := 23) (pc := 6) rfl rfl (by omega) (by omega) (fun (c5 : v2 = 0) => False.elim (by omega)) (fun (c5 : ¬ (v2 = 0)) => ?_)
  refine zx_T.l (i := .aload_n 0) (k := 1) (v := .ref 17) (pc := 9) rfl rfl rfl ?_
  refine zw_gr (k := 0) (b := 18) (pc := 10) rfl rfl rfl hI ?_
  refine zx_T.l (i := .iload_n 1) (k := 1) (v := .int (zI (r))) (pc := 13) rfl rfl rfl ?_
  refine zx_T.s (i := .bipush 14) (k := 2) (st' := [.int (zI (14)), .int (zI (r)), .ref 18]) (pc := 14) rfl rfl ?_
  refine zr_mul (x := r) (y := 14) (e := 14 * r) (pc := 16) rfl (by omega) ?_
  refine zx_T.l (i := .iload_n 2) (k := 1) (v := .int (zI (i))) (pc := 17) rfl rfl rfl ?_
  refine zr_add (x := 14 * r) (y := i) (e := 14 * r + i) (pc := 18) rfl (by omega) ?_
  refine zr_al (n := 840) (lo := (-2147483648)) (hi := 2147483647) (e := zv_a h 18 (14 * r + i)) (pc := 19) rfl rfl rfl hI (by omega) (by omega) rfl (fun g6a g6b => ?_)
  refine zx_T.j (i := .goto 4) (k := 3) (pc' := 24) (st' := [.int (zI (zv_a h 18 (14 * r + i)))]) (pc := 20) rfl rfl rfl rfl rfl ?_
  exact zr_ir (x := zv_a h 18 (14 * r + i)) (pc := 24) rfl rfl rfl ⟨rfl, _, rfl, by dsimp only; omega⟩

set_option maxRecDepth 100000 in
set_option maxHeartbeats 4000000 in
theorem zm_tSetKind_17 {h : zx_H} (hI : zb_I zc_H h) {r : Int} {i : Int} {k : Int} (r1 : 0 ≤ r) (r2 : r ≤ 59) (i1 : 0 ≤ i) (i2 : i ≤ 13) (k1 : -2147483648 ≤ k) (k2 : k ≤ 2147483647) : zx_T zp_P 1 zp_m132 0 [(0, .ref 17), (1, .int (zI (r))), (2, .int (zI (i))), (3, .int (zI (k)))] [] h (zr_V [(18, 0)] h (fun h' => ∀ j, 0 ≤ j → zv_a h' 18 j = if j = 14 * r + i then k else zv_a h 18 j)) := by
  refine zx_T.l (i := .aload_n 0) (k := 1) (v := .ref 17) (pc := 0) rfl rfl rfl ?_
  refine zx_T.l (i := .iload_n 1) (k := 1) (v := .int (zI (r))) (pc := 1) rfl rfl rfl ?_
  refine zx_T.l (i := .iload_n 2) (k := 1) (v := .int (zI (i))) (pc := 2) rfl rfl rfl ?_
  refine zw_iv (b := 17) (cj := 133) (q' := zp_m133) (As := [.int (zI (r)), .int (zI (i))]) (rest := []) (pc := 3) rfl rfl rfl rfl rfl rfl rfl (Nat.le_of_ble_eq_true rfl) rfl (Nat.le_of_ble_eq_true rfl) hI ((zm_tIsCell_17 (h := h) hI (r := r) (i := i) (by omega) (by omega) (by omega) (by omega)).up (Nat.le_of_ble_eq_true rfl)) ?_
  rintro r1 h4 ⟨h4q, v2, r1q, x3⟩
  subst h4q r1q
  try dsimp only at x3
  show zx_T zp_P 1 zp_m132 6 [(0, .ref 17), (1, .int (zI (r))), (2, .int (zI (i))), (3, .int (zI (k)))] [.int (zI (v2))] h _
  refine zr_i1 (x := v2) (t := 21) (pc := 6) rfl rfl (by omega) (by omega) (fun (c5 : v2 = 0) => False.elim (by omega)) (fun (c5 : ¬ (v2 = 0)) => ?_)
  refine zx_T.l (i := .aload_n 0) (k := 1) (v := .ref 17) (pc := 9) rfl rfl rfl ?_
  refine zw_gr (k := 0) (b := 18) (pc := 10) rfl rfl rfl hI ?_
  refine zx_T.l (i := .iload_n 1) (k := 1) (v := .int (zI (r))) (pc := 13) rfl rfl rfl ?_
  refine zx_T.s (i := .bipush 14) (k := 2) (st' := [.int (zI (14)), .int (zI (r)), .ref 18]) (pc := 14) rfl rfl ?_
  refine zr_mul (x := r) (y := 14) (e := 14 * r) (pc := 16) rfl (by omega) ?_
  refine zx_T.l (i := .iload_n 2) (k := 1) (v := .int (zI (i))) (pc := 17) rfl rfl rfl ?_
  refine zr_add (x := 14 * r) (y := i) (e := 14 * r + i) (pc := 18) rfl (by omega) ?_
  refine zx_T.l (i := .iload_n 3) (k := 1) (v := .int (zI (k))) (pc := 19) rfl rfl rfl ?_
  refine zr_as (n := 840) (lo := (-2147483648)) (hi := 2147483647) (e := k) (pc := 20) rfl rfl rfl rfl hI (by omega) (by omega) (by omega) (by omega) (fun h6 ih6 w7 s8 => ?_)
  have a18 : ∀ j, 0 ≤ j → zv_a h6 18 j = if j = 14 * r + i then k else zv_a h 18 j := fun j hj => by rw [s8 j hj]
  exact zr_vr (pc := 21) rfl rfl ⟨ih6, (w7.wd rfl : zb_W [(18, 0)] h _), rfl, by dsimp only; exact a18⟩

set_option maxRecDepth 100000 in
set_option maxHeartbeats 4000000 in
theorem zm_tWrite_17_20_L {h : zx_H} (hI : zb_I zc_H h) {r : Int} (r1 : 0 ≤ r) (r2 : r ≤ 59) (n : Nat) : (∀ {h2 : zx_H} {i : Int} (hI2 : zb_I zc_H h2) (i1 : 0 ≤ i) (i2 : i ≤ 14) (hw : zb_W [(18, 0), (19, 0)] h h2) (hd : ∀ p, 0 ≤ p → zv_a h2 19 p = if p = r then zv_f h 20 1 else zv_a h 19 p) (hj : ∀ p, 0 ≤ p → zv_a h2 18 p = if 14 * r ≤ p ∧ p < 14 * r + i then zv_a h 21 (p - 14 * r) else zv_a h 18 p), (14 - i : Int).toNat < n → zx_T zp_P 1 zp_m134 23 [(0, .ref 17), (1, .int (zI (r))), (2, .ref 20), (3, .int (zI (i)))] [] h2 (zr_V [(18, 0), (19, 0)] h (fun h' => (∀ p, 0 ≤ p → zv_a h' 19 p = if p = r then zv_f h 20 1 else zv_a h 19 p) ∧ ∀ p, 0 ≤ p → zv_a h' 18 p = if 14 * r ≤ p ∧ p < 14 * r + 14 then zv_a h 21 (p - 14 * r) else zv_a h 18 p))) := by
  induction n with
  | zero => exact fun _ _ _ _ _ _ hm => absurd hm (Nat.not_lt_zero _)
  | succ n ih =>
    intro h2 i hI2 i1 i2 hw hd hj hm
    have hS := zw_ri hI (a := 20) (k := 1) rfl
    refine zx_T.l (i := .iload_n 3) (k := 1) (v := .int (zI (i))) (pc := 23) rfl rfl rfl ?_
    refine zx_T.s (i := .bipush 14) (k := 2) (st' := [.int (zI (14)), .int (zI (i))]) (pc := 24) rfl rfl ?_
    refine zr_i2 (x := i) (y := 14) (t := 51) (pc := 26) rfl rfl (by omega) (by omega) (by omega) (by omega) (fun (c1 : 14 ≤ i) => ?_) (fun (c1 : ¬ (14 ≤ i)) => ?_)
    · exact zr_vr (pc := 51) rfl rfl ⟨hI2, (hw.wd rfl : zb_W [(18, 0), (19, 0)] h _), rfl, by dsimp only; have i9 : i = 14 := (by omega); subst i9; exact ⟨hd, hj⟩⟩
    · refine zx_T.l (i := .aload_n 0) (k := 1) (v := .ref 17) (pc := 29) rfl rfl rfl ?_
      refine zw_gr (k := 0) (b := 18) (pc := 30) rfl rfl rfl hI2 ?_
      refine zx_T.l (i := .iload_n 1) (k := 1) (v := .int (zI (r))) (pc := 33) rfl rfl rfl ?_
      refine zx_T.s (i := .bipush 14) (k := 2) (st' := [.int (zI (14)), .int (zI (r)), .ref 18]) (pc := 34) rfl rfl ?_
      refine zr_mul (x := r) (y := 14) (e := 14 * r) (pc := 36) rfl (by omega) ?_
      refine zx_T.l (i := .iload_n 3) (k := 1) (v := .int (zI (i))) (pc := 37) rfl rfl rfl ?_
      refine zr_add (x := 14 * r) (y := i) (e := 14 * r + i) (pc := 38) rfl (by omega) ?_
      refine zx_T.l (i := .aload_n 2) (k := 1) (v := .ref 20) (pc := 39) rfl rfl rfl ?_
      refine zx_T.l (i := .iload_n 3) (k := 1) (v := .int (zI (i))) (pc := 40) rfl rfl rfl ?_
      refine zw_iv (b := 20) (cj := 118) (q' := zp_m118) (As := [.int (zI (i))]) (rest := [.int (zI (14 * r + i)), .ref 18]) (pc := 41) rfl rfl rfl rfl rfl rfl rfl (Nat.le_of_ble_eq_true rfl) rfl (Nat.le_of_ble_eq_true rfl) hI2 ((zm_kindOf_20 (h := h2) hI2 (i := i) (by omega) (by omega)).up (Nat.le_of_ble_eq_true rfl)) ?_
      rintro r2 h5 ⟨h5q, v3, r2q, x4⟩
      subst h5q r2q
      try dsimp only at x4
      have kO := x4.1
      show zx_T zp_P 1 zp_m134 44 [(0, .ref 17), (1, .int (zI (r))), (2, .ref 20), (3, .int (zI (i)))] [.int (zI (v3)), .int (zI (14 * r + i)), .ref 18] h2 _
      refine zr_as (n := 840) (lo := (-2147483648)) (hi := 2147483647) (e := v3) (pc := 44) rfl rfl rfl rfl hI2 (by omega) (by omega) (by omega) (by omega) (fun h6 ih6 w7 s8 => ?_)
      refine zr_inc (x := i) (n := 1) (y := i + 1) (ls' := [(3, .int (zI (i + 1))), (0, .ref 17), (1, .int (zI (r))), (2, .ref 20)]) (pc := 45) rfl rfl rfl (by omega) rfl ?_
      refine zx_T.j (i := .goto (-25)) (k := 3) (pc' := 23) (st' := []) (pc := 48) rfl rfl rfl rfl rfl ?_
      have a18 : ∀ j, 0 ≤ j → zv_a h6 18 j = if j = 14 * r + i then v3 else zv_a h2 18 j := fun j hj => by rw [s8 j hj]
      have a19 : ∀ j, 0 ≤ j → zv_a h6 19 j = zv_a h2 19 j := fun j hj => by rw [zv_wa w7 rfl j]
      refine zx_T.lk (ls' := [(0, .ref 17), (1, .int (zI (r))), (2, .ref 20), (3, .int (zI (i + 1)))]) rfl ⟨rfl, rfl, rfl, rfl, trivial⟩ ?_
      exact ih (h2 := h6) (i := i + 1) ih6 (by omega) (by omega) ((hw.wd rfl : zb_W [(18, 0), (19, 0)] h _).tr (w7.wd rfl)) (fun p p0 => by rw [a19 p p0]; exact hd p p0) (zs_cp (row := zv_a h 21) i1 hj (fun p p0 => a18 p p0) (by rcases kO with z | z; (rw [z.2.2]; exact zv_wa hw rfl i); (exfalso; omega))) (by omega)
set_option maxRecDepth 100000 in
set_option maxHeartbeats 4000000 in
theorem zm_tWrite_17_20 {h : zx_H} (hI : zb_I zc_H h) {r : Int} (r1 : 0 ≤ r) (r2 : r ≤ 59) : zx_T zp_P 1 zp_m134 0 [(0, .ref 17), (1, .int (zI (r))), (2, .ref 20)] [] h (zr_V [(18, 0), (19, 0)] h (fun h' => (∀ p, 0 ≤ p → zv_a h' 19 p = if p = r then zv_f h 20 1 else zv_a h 19 p) ∧ ∀ p, 0 ≤ p → zv_a h' 18 p = if 14 * r ≤ p ∧ p < 14 * r + 14 then zv_a h 21 (p - 14 * r) else zv_a h 18 p)) := by
  have hS := zw_ri hI (a := 20) (k := 1) rfl
  refine zx_T.l (i := .iload_n 1) (k := 1) (v := .int (zI (r))) (pc := 0) rfl rfl rfl ?_
  refine zr_i1 (x := r) (t := 10) (pc := 1) rfl rfl (by omega) (by omega) (fun (c11 : r < 0) => False.elim (by omega)) (fun (c11 : ¬ (r < 0)) => ?_)
  refine zx_T.l (i := .iload_n 1) (k := 1) (v := .int (zI (r))) (pc := 4) rfl rfl rfl ?_
  refine zx_T.s (i := .bipush 60) (k := 2) (st' := [.int (zI (60)), .int (zI (r))]) (pc := 5) rfl rfl ?_
  refine zr_i2 (x := r) (y := 60) (t := 11) (pc := 7) rfl rfl (by omega) (by omega) (by omega) (by omega) (fun (c12 : r < 60) => ?_) (fun (c12 : ¬ (r < 60)) => False.elim (by omega))
  refine zx_T.l (i := .aload_n 0) (k := 1) (v := .ref 17) (pc := 11) rfl rfl rfl ?_
  refine zw_gr (k := 1) (b := 19) (pc := 12) rfl rfl rfl hI ?_
  refine zx_T.l (i := .iload_n 1) (k := 1) (v := .int (zI (r))) (pc := 15) rfl rfl rfl ?_
  refine zx_T.l (i := .aload_n 2) (k := 1) (v := .ref 20) (pc := 16) rfl rfl rfl ?_
  refine zw_iv (b := 20) (cj := 116) (q' := zp_m116) (As := []) (rest := [.int (zI (r)), .ref 19]) (pc := 17) rfl rfl rfl rfl rfl rfl rfl (Nat.le_of_ble_eq_true rfl) rfl (Nat.le_of_ble_eq_true rfl) hI ((zm_depth_20 (h := h) hI  ).up (Nat.le_of_ble_eq_true rfl)) ?_
  rintro r13 h16 ⟨h16q, v14, r13q, x15⟩
  subst h16q r13q
  try dsimp only at x15
  have dE := x15.1
  show zx_T zp_P 1 zp_m134 20 [(0, .ref 17), (1, .int (zI (r))), (2, .ref 20)] [.int (zI (v14)), .int (zI (r)), .ref 19] h _
  refine zr_as (n := 60) (lo := (-2147483648)) (hi := 2147483647) (e := v14) (pc := 20) rfl rfl rfl rfl hI (by omega) (by omega) (by omega) (by omega) (fun h17 ih17 w18 s19 => ?_)
  refine zx_T.s (i := .iconst 0) (k := 1) (st' := [.int (zI (0))]) (pc := 21) rfl rfl ?_
  refine zx_T.t (i := .istore_n 3) (k := 1) (ls' := [(3, .int (zI (0))), (0, .ref 17), (1, .int (zI (r))), (2, .ref 20)]) (st' := []) (pc := 22) rfl rfl rfl rfl ?_
  have a18 : ∀ j, 0 ≤ j → zv_a h17 18 j = zv_a h 18 j := fun j hj => by rw [zv_wa w18 rfl j]
  have a19 : ∀ j, 0 ≤ j → zv_a h17 19 j = if j = r then v14 else zv_a h 19 j := fun j hj => by rw [s19 j hj]
  refine zx_T.lk (ls' := [(0, .ref 17), (1, .int (zI (r))), (2, .ref 20), (3, .int (zI (0)))]) rfl ⟨rfl, rfl, rfl, rfl, trivial⟩ ?_
  exact zm_tWrite_17_20_L (h := h) hI (r := r) r1 r2 ((14 - 0 : Int).toNat + 1) (h2 := h17) (i := 0) ih17 (by omega) (by omega) (w18.wd rfl : zb_W [(18, 0), (19, 0)] h _) (fun p p0 => by rw [← dE]; exact a19 p p0) (fun p p0 => by rw [if_neg (by omega)]; exact a18 p p0) (Nat.lt_succ_self _)

set_option maxRecDepth 100000 in
set_option maxHeartbeats 4000000 in
theorem zm_tRead_17_20_L {h : zx_H} (hI : zb_I zc_H h) {r : Int} (r1 : 0 ≤ r) (r2 : r ≤ 59) (n : Nat) : (∀ {h2 : zx_H} {i : Int} (hI2 : zb_I zc_H h2) (i1 : 0 ≤ i) (i2 : i ≤ 14) (hw : zb_W [(20, 1), (21, 0)] h h2) (hd : 0 ≤ zv_a h 19 r → zv_a h 19 r ≤ 6 → zv_f h2 20 1 = zv_a h 19 r) (hj : ∀ j, 0 ≤ j → j < i → zv_a h2 21 j = zv_a h 18 (14 * r + j)), (14 - i : Int).toNat < n → zx_T zp_P 2 zp_m135 23 [(0, .ref 17), (1, .int (zI (r))), (2, .ref 20), (3, .int (zI (i)))] [] h2 (zr_V [(20, 1), (21, 0)] h (fun h' => (0 ≤ zv_a h 19 r → zv_a h 19 r ≤ 6 → zv_f h' 20 1 = zv_a h 19 r) ∧ ∀ j, 0 ≤ j → j < 14 → zv_a h' 21 j = zv_a h 18 (14 * r + j)))) := by
  induction n with
  | zero => exact fun _ _ _ _ _ _ hm => absurd hm (Nat.not_lt_zero _)
  | succ n ih =>
    intro h2 i hI2 i1 i2 hw hd hj hm
    refine zx_T.l (i := .iload_n 3) (k := 1) (v := .int (zI (i))) (pc := 23) rfl rfl rfl ?_
    refine zx_T.s (i := .bipush 14) (k := 2) (st' := [.int (zI (14)), .int (zI (i))]) (pc := 24) rfl rfl ?_
    refine zr_i2 (x := i) (y := 14) (t := 51) (pc := 26) rfl rfl (by omega) (by omega) (by omega) (by omega) (fun (c1 : 14 ≤ i) => ?_) (fun (c1 : ¬ (14 ≤ i)) => ?_)
    · exact zr_vr (pc := 51) rfl rfl ⟨hI2, (hw.wd rfl : zb_W [(20, 1), (21, 0)] h _), rfl, by dsimp only; exact ⟨hd, fun j j0 j1 => hj j j0 (by omega)⟩⟩
    · refine zx_T.l (i := .aload_n 2) (k := 1) (v := .ref 20) (pc := 29) rfl rfl rfl ?_
      refine zx_T.l (i := .iload_n 3) (k := 1) (v := .int (zI (i))) (pc := 30) rfl rfl rfl ?_
      refine zx_T.l (i := .aload_n 0) (k := 1) (v := .ref 17) (pc := 31) rfl rfl rfl ?_
      refine zw_gr (k := 0) (b := 18) (pc := 32) rfl rfl rfl hI2 ?_
      refine zx_T.l (i := .iload_n 1) (k := 1) (v := .int (zI (r))) (pc := 35) rfl rfl rfl ?_
      refine zx_T.s (i := .bipush 14) (k := 2) (st' := [.int (zI (14)), .int (zI (r)), .ref 18, .int (zI (i)), .ref 20]) (pc := 36) rfl rfl ?_
      refine zr_mul (x := r) (y := 14) (e := 14 * r) (pc := 38) rfl (by omega) ?_
      refine zx_T.l (i := .iload_n 3) (k := 1) (v := .int (zI (i))) (pc := 39) rfl rfl rfl ?_
      refine zr_add (x := 14 * r) (y := i) (e := 14 * r + i) (pc := 40) rfl (by omega) ?_
      refine zr_al (n := 840) (lo := (-2147483648)) (hi := 2147483647) (e := zv_a h 18 (14 * r + i)) (pc := 41) rfl rfl rfl hI2 (by omega) (by omega) (zv_wa hw rfl (14 * r + i)) (fun g2a g2b => ?_)
      refine zw_iv (b := 20) (cj := 119) (q' := zp_m119) (As := [.int (zI (i)), .int (zI (zv_a h 18 (14 * r + i)))]) (rest := []) (pc := 42) rfl rfl rfl rfl rfl rfl rfl (Nat.le_of_ble_eq_true rfl) rfl (Nat.le_of_ble_eq_true rfl) hI2 ((zm_setKind_20 (h := h2) hI2 (i := i) (k := zv_a h 18 (14 * r + i)) (by omega) (by omega) (by omega) (by omega)).up (Nat.le_of_ble_eq_true rfl)) ?_
      rintro r3 h6 ⟨ih6, w7, r3q, x5⟩
      subst r3q
      try dsimp only at x5
      have sk1 := x5
      show zx_T zp_P 2 zp_m135 45 [(0, .ref 17), (1, .int (zI (r))), (2, .ref 20), (3, .int (zI (i)))] [] h6 _
      refine zr_inc (x := i) (n := 1) (y := i + 1) (ls' := [(3, .int (zI (i + 1))), (0, .ref 17), (1, .int (zI (r))), (2, .ref 20)]) (pc := 45) rfl rfl rfl (by omega) rfl ?_
      refine zx_T.j (i := .goto (-25)) (k := 3) (pc' := 23) (st' := []) (pc := 48) rfl rfl rfl rfl rfl ?_
      have y8 : zv_f h6 20 1 = zv_f h2 20 1 := (zv_wf w7 rfl)
      refine zx_T.lk (ls' := [(0, .ref 17), (1, .int (zI (r))), (2, .ref 20), (3, .int (zI (i + 1)))]) rfl ⟨rfl, rfl, rfl, rfl, trivial⟩ ?_
      exact ih (h2 := h6) (i := i + 1) ih6 (by omega) (by omega) ((hw.wd rfl : zb_W [(20, 1), (21, 0)] h _).tr (w7.wd rfl)) (fun z1 z2 => by omega) (fun j j0 j1 => by rw [sk1 j j0]; by_cases z : j = i; rw [if_pos z, z]; rw [if_neg z]; exact hj j j0 (by omega)) (by omega)
set_option maxRecDepth 100000 in
set_option maxHeartbeats 4000000 in
theorem zm_tRead_17_20 {h : zx_H} (hI : zb_I zc_H h) {r : Int} (r1 : 0 ≤ r) (r2 : r ≤ 59) : zx_T zp_P 2 zp_m135 0 [(0, .ref 17), (1, .int (zI (r))), (2, .ref 20)] [] h (zr_V [(20, 1), (21, 0)] h (fun h' => (0 ≤ zv_a h 19 r → zv_a h 19 r ≤ 6 → zv_f h' 20 1 = zv_a h 19 r) ∧ ∀ j, 0 ≤ j → j < 14 → zv_a h' 21 j = zv_a h 18 (14 * r + j))) := by
  refine zx_T.l (i := .iload_n 1) (k := 1) (v := .int (zI (r))) (pc := 0) rfl rfl rfl ?_
  refine zr_i1 (x := r) (t := 10) (pc := 1) rfl rfl (by omega) (by omega) (fun (c9 : r < 0) => False.elim (by omega)) (fun (c9 : ¬ (r < 0)) => ?_)
  refine zx_T.l (i := .iload_n 1) (k := 1) (v := .int (zI (r))) (pc := 4) rfl rfl rfl ?_
  refine zx_T.s (i := .bipush 60) (k := 2) (st' := [.int (zI (60)), .int (zI (r))]) (pc := 5) rfl rfl ?_
  refine zr_i2 (x := r) (y := 60) (t := 11) (pc := 7) rfl rfl (by omega) (by omega) (by omega) (by omega) (fun (c10 : r < 60) => ?_) (fun (c10 : ¬ (r < 60)) => False.elim (by omega))
  refine zx_T.l (i := .aload_n 2) (k := 1) (v := .ref 20) (pc := 11) rfl rfl rfl ?_
  refine zx_T.l (i := .aload_n 0) (k := 1) (v := .ref 17) (pc := 12) rfl rfl rfl ?_
  refine zw_gr (k := 1) (b := 19) (pc := 13) rfl rfl rfl hI ?_
  refine zx_T.l (i := .iload_n 1) (k := 1) (v := .int (zI (r))) (pc := 16) rfl rfl rfl ?_
  refine zr_al (n := 60) (lo := (-2147483648)) (hi := 2147483647) (e := zv_a h 19 r) (pc := 17) rfl rfl rfl hI (by omega) (by omega) rfl (fun g11a g11b => ?_)
  refine zw_iv (b := 20) (cj := 117) (q' := zp_m117) (As := [.int (zI (zv_a h 19 r))]) (rest := []) (pc := 18) rfl rfl rfl rfl rfl rfl rfl (Nat.le_of_ble_eq_true rfl) rfl (Nat.le_of_ble_eq_true rfl) hI ((zm_setDepth_20 (h := h) hI (n := zv_a h 19 r) (by omega) (by omega)).up (Nat.le_of_ble_eq_true rfl)) ?_
  rintro r12 h15 ⟨ih15, w16, r12q, x14⟩
  subst r12q
  try dsimp only at x14
  show zx_T zp_P 2 zp_m135 21 [(0, .ref 17), (1, .int (zI (r))), (2, .ref 20)] [] h15 _
  refine zx_T.s (i := .iconst 0) (k := 1) (st' := [.int (zI (0))]) (pc := 21) rfl rfl ?_
  refine zx_T.t (i := .istore_n 3) (k := 1) (ls' := [(3, .int (zI (0))), (0, .ref 17), (1, .int (zI (r))), (2, .ref 20)]) (st' := []) (pc := 22) rfl rfl rfl rfl ?_
  refine zx_T.lk (ls' := [(0, .ref 17), (1, .int (zI (r))), (2, .ref 20), (3, .int (zI (0)))]) rfl ⟨rfl, rfl, rfl, rfl, trivial⟩ ?_
  exact zm_tRead_17_20_L (h := h) hI (r := r) r1 r2 ((14 - 0 : Int).toNat + 1) (h2 := h15) (i := 0) ih15 (by omega) (by omega) (w16.wd rfl : zb_W [(20, 1), (21, 0)] h _) (fun z1 z2 => by omega) (fun j j0 j1 => absurd j1 (by omega)) (Nat.lt_succ_self _)

set_option maxRecDepth 100000 in
set_option maxHeartbeats 4000000 in
theorem zm_mIsDead {h : zx_H} (hI : zb_I zc_H h) {p : Int} (p1 : 0 ≤ p) (p2 : p ≤ 59) : zx_T zp_P 1 zp_m83 0 [(0, .ref 16), (1, .int (zI (p)))] [] h (zr_P h (fun e => (e = 1 ∧ zv_a h 19 p = -1) ∨ (e = 0 ∧ ¬ zv_a h 19 p = -1))) := by
  refine zx_T.l (i := .aload_n 0) (k := 1) (v := .ref 16) (pc := 0) rfl rfl rfl ?_
  refine zw_gr (k := 2) (b := 17) (pc := 1) rfl rfl rfl hI ?_
  refine zx_T.l (i := .iload_n 1) (k := 1) (v := .int (zI (p))) (pc := 4) rfl rfl rfl ?_
  refine zw_iv (b := 17) (cj := 130) (q' := zp_m130) (As := [.int (zI (p))]) (rest := []) (pc := 5) rfl rfl rfl rfl rfl rfl rfl (Nat.le_of_ble_eq_true rfl) rfl (Nat.le_of_ble_eq_true rfl) hI ((zm_tDepthOf_17 (h := h) hI (r := p) (by omega) (by omega)).up (Nat.le_of_ble_eq_true rfl)) ?_
  rintro r1 h4 ⟨h4q, v2, r1q, x3⟩
  subst h4q r1q
  try dsimp only at x3
  show zx_T zp_P 1 zp_m83 8 [(0, .ref 16), (1, .int (zI (p)))] [.int (zI (v2))] h _
  refine zx_T.s (i := .iconst (-1)) (k := 1) (st' := [.int (zI ((-1))), .int (zI (v2))]) (pc := 8) rfl rfl ?_
  refine zr_i2 (x := v2) (y := (-1)) (t := 16) (pc := 9) rfl rfl (by omega) (by omega) (by omega) (by omega) (fun (c5 : ¬ v2 = (-1)) => ?_) (fun (c5 : ¬ (¬ v2 = (-1))) => ?_)
  · refine zx_T.s (i := .iconst 0) (k := 1) (st' := [.int (zI (0))]) (pc := 16) rfl rfl ?_
    exact zr_ir (x := 0) (pc := 17) rfl rfl (zr_nb (by omega) (by omega)) ⟨rfl, _, rfl, by dsimp only; omega⟩
  · refine zx_T.s (i := .iconst 1) (k := 1) (st' := [.int (zI (1))]) (pc := 12) rfl rfl ?_
    refine zx_T.j (i := .goto 4) (k := 3) (pc' := 17) (st' := [.int (zI (1))]) (pc := 13) rfl rfl rfl rfl rfl ?_
    exact zr_ir (x := 1) (pc := 17) rfl rfl (zr_nb (by omega) (by omega)) ⟨rfl, _, rfl, by dsimp only; omega⟩

set_option maxRecDepth 100000 in
set_option maxHeartbeats 4000000 in
theorem zm_tDepthOf_11 {h : zx_H} (hI : zb_I zc_H h) {r : Int} (r1 : 0 ≤ r) (r2 : r ≤ 59) : zx_T zp_P 0 zp_m130 0 [(0, .ref 11), (1, .int (zI (r)))] [] h (zr_P h (fun e => e = zv_a h 13 r ∧ (-2147483648) ≤ e ∧ e ≤ 2147483647)) := by
  refine zx_T.l (i := .iload_n 1) (k := 1) (v := .int (zI (r))) (pc := 0) rfl rfl rfl ?_
  refine zr_i1 (x := r) (t := 19) (pc := 1) rfl rfl (by omega) (by omega) (fun (c1 : r < 0) => False.elim (by omega)) (fun (c1 : ¬ (r < 0)) => ?_)
  refine zx_T.l (i := .iload_n 1) (k := 1) (v := .int (zI (r))) (pc := 4) rfl rfl rfl ?_
  refine zx_T.s (i := .bipush 60) (k := 2) (st' := [.int (zI (60)), .int (zI (r))]) (pc := 5) rfl rfl ?_
  refine zr_i2 (x := r) (y := 60) (t := 19) (pc := 7) rfl rfl (by omega) (by omega) (by omega) (by omega) (fun (c2 : 60 ≤ r) => False.elim (by omega)) (fun (c2 : ¬ (60 ≤ r)) => ?_)
  refine zx_T.l (i := .aload_n 0) (k := 1) (v := .ref 11) (pc := 10) rfl rfl rfl ?_
  refine zw_gr (k := 1) (b := 13) (pc := 11) rfl rfl rfl hI ?_
  refine zx_T.l (i := .iload_n 1) (k := 1) (v := .int (zI (r))) (pc := 14) rfl rfl rfl ?_
  refine zr_al (n := 60) (lo := (-2147483648)) (hi := 2147483647) (e := zv_a h 13 r) (pc := 15) rfl rfl rfl hI (by omega) (by omega) rfl (fun g3a g3b => ?_)
  refine zx_T.j (i := .goto 4) (k := 3) (pc' := 20) (st' := [.int (zI (zv_a h 13 r))]) (pc := 16) rfl rfl rfl rfl rfl ?_
  exact zr_ir (x := zv_a h 13 r) (pc := 20) rfl rfl rfl ⟨rfl, _, rfl, by dsimp only; exact ⟨rfl, by omega, by omega⟩⟩

set_option maxRecDepth 100000 in
set_option maxHeartbeats 4000000 in
theorem zm_tIsCell_11 {h : zx_H} (hI : zb_I zc_H h) {r : Int} {i : Int} (r1 : 0 ≤ r) (r2 : r ≤ 59) (i1 : 0 ≤ i) (i2 : i ≤ 13) : zx_T zp_P 0 zp_m133 0 [(0, .ref 11), (1, .int (zI (r))), (2, .int (zI (i)))] [] h (zr_P h (fun e => 1 ≤ e ∧ e ≤ 1)) := by
  refine zx_T.l (i := .iload_n 1) (k := 1) (v := .int (zI (r))) (pc := 0) rfl rfl rfl ?_
  refine zr_i1 (x := r) (t := 24) (pc := 1) rfl rfl (by omega) (by omega) (fun (c1 : r < 0) => False.elim (by omega)) (fun (c1 : ¬ (r < 0)) => ?_)
  refine zx_T.l (i := .iload_n 1) (k := 1) (v := .int (zI (r))) (pc := 4) rfl rfl rfl ?_
  refine zx_T.s (i := .bipush 60) (k := 2) (st' := [.int (zI (60)), .int (zI (r))]) (pc := 5) rfl rfl ?_
  refine zr_i2 (x := r) (y := 60) (t := 24) (pc := 7) rfl rfl (by omega) (by omega) (by omega) (by omega) (fun (c2 : 60 ≤ r) => False.elim (by omega)) (fun (c2 : ¬ (60 ≤ r)) => ?_)
  refine zx_T.l (i := .iload_n 2) (k := 1) (v := .int (zI (i))) (pc := 10) rfl rfl rfl ?_
  refine zr_i1 (x := i) (t := 24) (pc := 11) rfl rfl (by omega) (by omega) (fun (c3 : i < 0) => False.elim (by omega)) (fun (c3 : ¬ (i < 0)) => ?_)
  refine zx_T.l (i := .iload_n 2) (k := 1) (v := .int (zI (i))) (pc := 14) rfl rfl rfl ?_
  refine zx_T.s (i := .bipush 14) (k := 2) (st' := [.int (zI (14)), .int (zI (i))]) (pc := 15) rfl rfl ?_
  refine zr_i2 (x := i) (y := 14) (t := 24) (pc := 17) rfl rfl (by omega) (by omega) (by omega) (by omega) (fun (c4 : 14 ≤ i) => False.elim (by omega)) (fun (c4 : ¬ (14 ≤ i)) => ?_)
  refine zx_T.s (i := .iconst 1) (k := 1) (st' := [.int (zI (1))]) (pc := 20) rfl rfl ?_
  refine zx_T.j (i := .goto 4) (k := 3) (pc' := 25) (st' := [.int (zI (1))]) (pc := 21) rfl rfl rfl rfl rfl ?_
  exact zr_ir (x := 1) (pc := 25) rfl rfl (zr_nb (by omega) (by omega)) ⟨rfl, _, rfl, by dsimp only; omega⟩

set_option maxRecDepth 100000 in
set_option maxHeartbeats 4000000 in
theorem zm_tKindOf_11 {h : zx_H} (hI : zb_I zc_H h) {r : Int} {i : Int} (r1 : 0 ≤ r) (r2 : r ≤ 59) (i1 : 0 ≤ i) (i2 : i ≤ 13) : zx_T zp_P 1 zp_m131 0 [(0, .ref 11), (1, .int (zI (r))), (2, .int (zI (i)))] [] h (zr_P h (fun e => e = zv_a h 12 (14 * r + i) ∧ (-2147483648) ≤ e ∧ e ≤ 2147483647)) := by
  refine zx_T.l (i := .aload_n 0) (k := 1) (v := .ref 11) (pc := 0) rfl rfl rfl ?_
  refine zx_T.l (i := .iload_n 1) (k := 1) (v := .int (zI (r))) (pc := 1) rfl rfl rfl ?_
  refine zx_T.l (i := .iload_n 2) (k := 1) (v := .int (zI (i))) (pc := 2) rfl rfl rfl ?_
  refine zw_iv (b := 11) (cj := 133) (q' := zp_m133) (As := [.int (zI (r)), .int (zI (i))]) (rest := []) (pc := 3) rfl rfl rfl rfl rfl rfl rfl (Nat.le_of_ble_eq_true rfl) rfl (Nat.le_of_ble_eq_true rfl) hI ((zm_tIsCell_11 (h := h) hI (r := r) (i := i) (by omega) (by omega) (by omega) (by omega)).up (Nat.le_of_ble_eq_true rfl)) ?_
  rintro r1 h4 ⟨h4q, v2, r1q, x3⟩
  subst h4q r1q
  try dsimp only at x3
  show zx_T zp_P 1 zp_m131 6 [(0, .ref 11), (1, .int (zI (r))), (2, .int (zI (i)))] [.int (zI (v2))] h _
  refine zr_i1 (x := v2) (t := 23) (pc := 6) rfl rfl (by omega) (by omega) (fun (c5 : v2 = 0) => False.elim (by omega)) (fun (c5 : ¬ (v2 = 0)) => ?_)
  refine zx_T.l (i := .aload_n 0) (k := 1) (v := .ref 11) (pc := 9) rfl rfl rfl ?_
  refine zw_gr (k := 0) (b := 12) (pc := 10) rfl rfl rfl hI ?_
  refine zx_T.l (i := .iload_n 1) (k := 1) (v := .int (zI (r))) (pc := 13) rfl rfl rfl ?_
  refine zx_T.s (i := .bipush 14) (k := 2) (st' := [.int (zI (14)), .int (zI (r)), .ref 12]) (pc := 14) rfl rfl ?_
  refine zr_mul (x := r) (y := 14) (e := 14 * r) (pc := 16) rfl (by omega) ?_
  refine zx_T.l (i := .iload_n 2) (k := 1) (v := .int (zI (i))) (pc := 17) rfl rfl rfl ?_
  refine zr_add (x := 14 * r) (y := i) (e := 14 * r + i) (pc := 18) rfl (by omega) ?_
  refine zr_al (n := 840) (lo := (-2147483648)) (hi := 2147483647) (e := zv_a h 12 (14 * r + i)) (pc := 19) rfl rfl rfl hI (by omega) (by omega) rfl (fun g6a g6b => ?_)
  refine zx_T.j (i := .goto 4) (k := 3) (pc' := 24) (st' := [.int (zI (zv_a h 12 (14 * r + i)))]) (pc := 20) rfl rfl rfl rfl rfl ?_
  exact zr_ir (x := zv_a h 12 (14 * r + i)) (pc := 24) rfl rfl rfl ⟨rfl, _, rfl, by dsimp only; omega⟩

set_option maxRecDepth 100000 in
set_option maxHeartbeats 4000000 in
theorem zm_tSetKind_11 {h : zx_H} (hI : zb_I zc_H h) {r : Int} {i : Int} {k : Int} (r1 : 0 ≤ r) (r2 : r ≤ 59) (i1 : 0 ≤ i) (i2 : i ≤ 13) (k1 : -2147483648 ≤ k) (k2 : k ≤ 2147483647) : zx_T zp_P 1 zp_m132 0 [(0, .ref 11), (1, .int (zI (r))), (2, .int (zI (i))), (3, .int (zI (k)))] [] h (zr_V [(12, 0)] h (fun h' => ∀ j, 0 ≤ j → zv_a h' 12 j = if j = 14 * r + i then k else zv_a h 12 j)) := by
  refine zx_T.l (i := .aload_n 0) (k := 1) (v := .ref 11) (pc := 0) rfl rfl rfl ?_
  refine zx_T.l (i := .iload_n 1) (k := 1) (v := .int (zI (r))) (pc := 1) rfl rfl rfl ?_
  refine zx_T.l (i := .iload_n 2) (k := 1) (v := .int (zI (i))) (pc := 2) rfl rfl rfl ?_
  refine zw_iv (b := 11) (cj := 133) (q' := zp_m133) (As := [.int (zI (r)), .int (zI (i))]) (rest := []) (pc := 3) rfl rfl rfl rfl rfl rfl rfl (Nat.le_of_ble_eq_true rfl) rfl (Nat.le_of_ble_eq_true rfl) hI ((zm_tIsCell_11 (h := h) hI (r := r) (i := i) (by omega) (by omega) (by omega) (by omega)).up (Nat.le_of_ble_eq_true rfl)) ?_
  rintro r1 h4 ⟨h4q, v2, r1q, x3⟩
  subst h4q r1q
  try dsimp only at x3
  show zx_T zp_P 1 zp_m132 6 [(0, .ref 11), (1, .int (zI (r))), (2, .int (zI (i))), (3, .int (zI (k)))] [.int (zI (v2))] h _
  refine zr_i1 (x := v2) (t := 21) (pc := 6) rfl rfl (by omega) (by omega) (fun (c5 : v2 = 0) => False.elim (by omega)) (fun (c5 : ¬ (v2 = 0)) => ?_)
  refine zx_T.l (i := .aload_n 0) (k := 1) (v := .ref 11) (pc := 9) rfl rfl rfl ?_
  refine zw_gr (k := 0) (b := 12) (pc := 10) rfl rfl rfl hI ?_
  refine zx_T.l (i := .iload_n 1) (k := 1) (v := .int (zI (r))) (pc := 13) rfl rfl rfl ?_
  refine zx_T.s (i := .bipush 14) (k := 2) (st' := [.int (zI (14)), .int (zI (r)), .ref 12]) (pc := 14) rfl rfl ?_
  refine zr_mul (x := r) (y := 14) (e := 14 * r) (pc := 16) rfl (by omega) ?_
  refine zx_T.l (i := .iload_n 2) (k := 1) (v := .int (zI (i))) (pc := 17) rfl rfl rfl ?_
  refine zr_add (x := 14 * r) (y := i) (e := 14 * r + i) (pc := 18) rfl (by omega) ?_
  refine zx_T.l (i := .iload_n 3) (k := 1) (v := .int (zI (k))) (pc := 19) rfl rfl rfl ?_
  refine zr_as (n := 840) (lo := (-2147483648)) (hi := 2147483647) (e := k) (pc := 20) rfl rfl rfl rfl hI (by omega) (by omega) (by omega) (by omega) (fun h6 ih6 w7 s8 => ?_)
  have a12 : ∀ j, 0 ≤ j → zv_a h6 12 j = if j = 14 * r + i then k else zv_a h 12 j := fun j hj => by rw [s8 j hj]
  exact zr_vr (pc := 21) rfl rfl ⟨ih6, (w7.wd rfl : zb_W [(12, 0)] h _), rfl, by dsimp only; exact a12⟩

set_option maxRecDepth 100000 in
set_option maxHeartbeats 4000000 in
theorem zm_tWrite_11_20_L {h : zx_H} (hI : zb_I zc_H h) {r : Int} (r1 : 0 ≤ r) (r2 : r ≤ 59) (n : Nat) : (∀ {h2 : zx_H} {i : Int} (hI2 : zb_I zc_H h2) (i1 : 0 ≤ i) (i2 : i ≤ 14) (hw : zb_W [(12, 0), (13, 0)] h h2) (hd : ∀ p, 0 ≤ p → zv_a h2 13 p = if p = r then zv_f h 20 1 else zv_a h 13 p) (hj : ∀ p, 0 ≤ p → zv_a h2 12 p = if 14 * r ≤ p ∧ p < 14 * r + i then zv_a h 21 (p - 14 * r) else zv_a h 12 p), (14 - i : Int).toNat < n → zx_T zp_P 1 zp_m134 23 [(0, .ref 11), (1, .int (zI (r))), (2, .ref 20), (3, .int (zI (i)))] [] h2 (zr_V [(12, 0), (13, 0)] h (fun h' => (∀ p, 0 ≤ p → zv_a h' 13 p = if p = r then zv_f h 20 1 else zv_a h 13 p) ∧ ∀ p, 0 ≤ p → zv_a h' 12 p = if 14 * r ≤ p ∧ p < 14 * r + 14 then zv_a h 21 (p - 14 * r) else zv_a h 12 p))) := by
  induction n with
  | zero => exact fun _ _ _ _ _ _ hm => absurd hm (Nat.not_lt_zero _)
  | succ n ih =>
    intro h2 i hI2 i1 i2 hw hd hj hm
    have hS := zw_ri hI (a := 20) (k := 1) rfl
    refine zx_T.l (i := .iload_n 3) (k := 1) (v := .int (zI (i))) (pc := 23) rfl rfl rfl ?_
    refine zx_T.s (i := .bipush 14) (k := 2) (st' := [.int (zI (14)), .int (zI (i))]) (pc := 24) rfl rfl ?_
    refine zr_i2 (x := i) (y := 14) (t := 51) (pc := 26) rfl rfl (by omega) (by omega) (by omega) (by omega) (fun (c1 : 14 ≤ i) => ?_) (fun (c1 : ¬ (14 ≤ i)) => ?_)
    · exact zr_vr (pc := 51) rfl rfl ⟨hI2, (hw.wd rfl : zb_W [(12, 0), (13, 0)] h _), rfl, by dsimp only; have i9 : i = 14 := (by omega); subst i9; exact ⟨hd, hj⟩⟩
    · refine zx_T.l (i := .aload_n 0) (k := 1) (v := .ref 11) (pc := 29) rfl rfl rfl ?_
      refine zw_gr (k := 0) (b := 12) (pc := 30) rfl rfl rfl hI2 ?_
      refine zx_T.l (i := .iload_n 1) (k := 1) (v := .int (zI (r))) (pc := 33) rfl rfl rfl ?_
      refine zx_T.s (i := .bipush 14) (k := 2) (st' := [.int (zI (14)), .int (zI (r)), .ref 12]) (pc := 34) rfl rfl ?_
      refine zr_mul (x := r) (y := 14) (e := 14 * r) (pc := 36) rfl (by omega) ?_
      refine zx_T.l (i := .iload_n 3) (k := 1) (v := .int (zI (i))) (pc := 37) rfl rfl rfl ?_
      refine zr_add (x := 14 * r) (y := i) (e := 14 * r + i) (pc := 38) rfl (by omega) ?_
      refine zx_T.l (i := .aload_n 2) (k := 1) (v := .ref 20) (pc := 39) rfl rfl rfl ?_
      refine zx_T.l (i := .iload_n 3) (k := 1) (v := .int (zI (i))) (pc := 40) rfl rfl rfl ?_
      refine zw_iv (b := 20) (cj := 118) (q' := zp_m118) (As := [.int (zI (i))]) (rest := [.int (zI (14 * r + i)), .ref 12]) (pc := 41) rfl rfl rfl rfl rfl rfl rfl (Nat.le_of_ble_eq_true rfl) rfl (Nat.le_of_ble_eq_true rfl) hI2 ((zm_kindOf_20 (h := h2) hI2 (i := i) (by omega) (by omega)).up (Nat.le_of_ble_eq_true rfl)) ?_
      rintro r2 h5 ⟨h5q, v3, r2q, x4⟩
      subst h5q r2q
      try dsimp only at x4
      have kO := x4.1
      show zx_T zp_P 1 zp_m134 44 [(0, .ref 11), (1, .int (zI (r))), (2, .ref 20), (3, .int (zI (i)))] [.int (zI (v3)), .int (zI (14 * r + i)), .ref 12] h2 _
      refine zr_as (n := 840) (lo := (-2147483648)) (hi := 2147483647) (e := v3) (pc := 44) rfl rfl rfl rfl hI2 (by omega) (by omega) (by omega) (by omega) (fun h6 ih6 w7 s8 => ?_)
      refine zr_inc (x := i) (n := 1) (y := i + 1) (ls' := [(3, .int (zI (i + 1))), (0, .ref 11), (1, .int (zI (r))), (2, .ref 20)]) (pc := 45) rfl rfl rfl (by omega) rfl ?_
      refine zx_T.j (i := .goto (-25)) (k := 3) (pc' := 23) (st' := []) (pc := 48) rfl rfl rfl rfl rfl ?_
      have a12 : ∀ j, 0 ≤ j → zv_a h6 12 j = if j = 14 * r + i then v3 else zv_a h2 12 j := fun j hj => by rw [s8 j hj]
      have a13 : ∀ j, 0 ≤ j → zv_a h6 13 j = zv_a h2 13 j := fun j hj => by rw [zv_wa w7 rfl j]
      refine zx_T.lk (ls' := [(0, .ref 11), (1, .int (zI (r))), (2, .ref 20), (3, .int (zI (i + 1)))]) rfl ⟨rfl, rfl, rfl, rfl, trivial⟩ ?_
      exact ih (h2 := h6) (i := i + 1) ih6 (by omega) (by omega) ((hw.wd rfl : zb_W [(12, 0), (13, 0)] h _).tr (w7.wd rfl)) (fun p p0 => by rw [a13 p p0]; exact hd p p0) (zs_cp (row := zv_a h 21) i1 hj (fun p p0 => a12 p p0) (by rcases kO with z | z; (rw [z.2.2]; exact zv_wa hw rfl i); (exfalso; omega))) (by omega)
set_option maxRecDepth 100000 in
set_option maxHeartbeats 4000000 in
theorem zm_tWrite_11_20 {h : zx_H} (hI : zb_I zc_H h) {r : Int} (r1 : 0 ≤ r) (r2 : r ≤ 59) : zx_T zp_P 1 zp_m134 0 [(0, .ref 11), (1, .int (zI (r))), (2, .ref 20)] [] h (zr_V [(12, 0), (13, 0)] h (fun h' => (∀ p, 0 ≤ p → zv_a h' 13 p = if p = r then zv_f h 20 1 else zv_a h 13 p) ∧ ∀ p, 0 ≤ p → zv_a h' 12 p = if 14 * r ≤ p ∧ p < 14 * r + 14 then zv_a h 21 (p - 14 * r) else zv_a h 12 p)) := by
  have hS := zw_ri hI (a := 20) (k := 1) rfl
  refine zx_T.l (i := .iload_n 1) (k := 1) (v := .int (zI (r))) (pc := 0) rfl rfl rfl ?_
  refine zr_i1 (x := r) (t := 10) (pc := 1) rfl rfl (by omega) (by omega) (fun (c11 : r < 0) => False.elim (by omega)) (fun (c11 : ¬ (r < 0)) => ?_)
  refine zx_T.l (i := .iload_n 1) (k := 1) (v := .int (zI (r))) (pc := 4) rfl rfl rfl ?_
  refine zx_T.s (i := .bipush 60) (k := 2) (st' := [.int (zI (60)), .int (zI (r))]) (pc := 5) rfl rfl ?_
  refine zr_i2 (x := r) (y := 60) (t := 11) (pc := 7) rfl rfl (by omega) (by omega) (by omega) (by omega) (fun (c12 : r < 60) => ?_) (fun (c12 : ¬ (r < 60)) => False.elim (by omega))
  refine zx_T.l (i := .aload_n 0) (k := 1) (v := .ref 11) (pc := 11) rfl rfl rfl ?_
  refine zw_gr (k := 1) (b := 13) (pc := 12) rfl rfl rfl hI ?_
  refine zx_T.l (i := .iload_n 1) (k := 1) (v := .int (zI (r))) (pc := 15) rfl rfl rfl ?_
  refine zx_T.l (i := .aload_n 2) (k := 1) (v := .ref 20) (pc := 16) rfl rfl rfl ?_
  refine zw_iv (b := 20) (cj := 116) (q' := zp_m116) (As := []) (rest := [.int (zI (r)), .ref 13]) (pc := 17) rfl rfl rfl rfl rfl rfl rfl (Nat.le_of_ble_eq_true rfl) rfl (Nat.le_of_ble_eq_true rfl) hI ((zm_depth_20 (h := h) hI  ).up (Nat.le_of_ble_eq_true rfl)) ?_
  rintro r13 h16 ⟨h16q, v14, r13q, x15⟩
  subst h16q r13q
  try dsimp only at x15
  have dE := x15.1
  show zx_T zp_P 1 zp_m134 20 [(0, .ref 11), (1, .int (zI (r))), (2, .ref 20)] [.int (zI (v14)), .int (zI (r)), .ref 13] h _
  refine zr_as (n := 60) (lo := (-2147483648)) (hi := 2147483647) (e := v14) (pc := 20) rfl rfl rfl rfl hI (by omega) (by omega) (by omega) (by omega) (fun h17 ih17 w18 s19 => ?_)
  refine zx_T.s (i := .iconst 0) (k := 1) (st' := [.int (zI (0))]) (pc := 21) rfl rfl ?_
  refine zx_T.t (i := .istore_n 3) (k := 1) (ls' := [(3, .int (zI (0))), (0, .ref 11), (1, .int (zI (r))), (2, .ref 20)]) (st' := []) (pc := 22) rfl rfl rfl rfl ?_
  have a12 : ∀ j, 0 ≤ j → zv_a h17 12 j = zv_a h 12 j := fun j hj => by rw [zv_wa w18 rfl j]
  have a13 : ∀ j, 0 ≤ j → zv_a h17 13 j = if j = r then v14 else zv_a h 13 j := fun j hj => by rw [s19 j hj]
  refine zx_T.lk (ls' := [(0, .ref 11), (1, .int (zI (r))), (2, .ref 20), (3, .int (zI (0)))]) rfl ⟨rfl, rfl, rfl, rfl, trivial⟩ ?_
  exact zm_tWrite_11_20_L (h := h) hI (r := r) r1 r2 ((14 - 0 : Int).toNat + 1) (h2 := h17) (i := 0) ih17 (by omega) (by omega) (w18.wd rfl : zb_W [(12, 0), (13, 0)] h _) (fun p p0 => by rw [← dE]; exact a13 p p0) (fun p p0 => by rw [if_neg (by omega)]; exact a12 p p0) (Nat.lt_succ_self _)

set_option maxRecDepth 100000 in
set_option maxHeartbeats 4000000 in
theorem zm_tRead_11_20_L {h : zx_H} (hI : zb_I zc_H h) {r : Int} (r1 : 0 ≤ r) (r2 : r ≤ 59) (n : Nat) : (∀ {h2 : zx_H} {i : Int} (hI2 : zb_I zc_H h2) (i1 : 0 ≤ i) (i2 : i ≤ 14) (hw : zb_W [(20, 1), (21, 0)] h h2) (hd : 0 ≤ zv_a h 13 r → zv_a h 13 r ≤ 6 → zv_f h2 20 1 = zv_a h 13 r) (hj : ∀ j, 0 ≤ j → j < i → zv_a h2 21 j = zv_a h 12 (14 * r + j)), (14 - i : Int).toNat < n → zx_T zp_P 2 zp_m135 23 [(0, .ref 11), (1, .int (zI (r))), (2, .ref 20), (3, .int (zI (i)))] [] h2 (zr_V [(20, 1), (21, 0)] h (fun h' => (0 ≤ zv_a h 13 r → zv_a h 13 r ≤ 6 → zv_f h' 20 1 = zv_a h 13 r) ∧ ∀ j, 0 ≤ j → j < 14 → zv_a h' 21 j = zv_a h 12 (14 * r + j)))) := by
  induction n with
  | zero => exact fun _ _ _ _ _ _ hm => absurd hm (Nat.not_lt_zero _)
  | succ n ih =>
    intro h2 i hI2 i1 i2 hw hd hj hm
    refine zx_T.l (i := .iload_n 3) (k := 1) (v := .int (zI (i))) (pc := 23) rfl rfl rfl ?_
    refine zx_T.s (i := .bipush 14) (k := 2) (st' := [.int (zI (14)), .int (zI (i))]) (pc := 24) rfl rfl ?_
    refine zr_i2 (x := i) (y := 14) (t := 51) (pc := 26) rfl rfl (by omega) (by omega) (by omega) (by omega) (fun (c1 : 14 ≤ i) => ?_) (fun (c1 : ¬ (14 ≤ i)) => ?_)
    · exact zr_vr (pc := 51) rfl rfl ⟨hI2, (hw.wd rfl : zb_W [(20, 1), (21, 0)] h _), rfl, by dsimp only; exact ⟨hd, fun j j0 j1 => hj j j0 (by omega)⟩⟩
    · refine zx_T.l (i := .aload_n 2) (k := 1) (v := .ref 20) (pc := 29) rfl rfl rfl ?_
      refine zx_T.l (i := .iload_n 3) (k := 1) (v := .int (zI (i))) (pc := 30) rfl rfl rfl ?_
      refine zx_T.l (i := .aload_n 0) (k := 1) (v := .ref 11) (pc := 31) rfl rfl rfl ?_
      refine zw_gr (k := 0) (b := 12) (pc := 32) rfl rfl rfl hI2 ?_
      refine zx_T.l (i := .iload_n 1) (k := 1) (v := .int (zI (r))) (pc := 35) rfl rfl rfl ?_
      refine zx_T.s (i := .bipush 14) (k := 2) (st' := [.int (zI (14)), .int (zI (r)), .ref 12, .int (zI (i)), .ref 20]) (pc := 36) rfl rfl ?_
      refine zr_mul (x := r) (y := 14) (e := 14 * r) (pc := 38) rfl (by omega) ?_
      refine zx_T.l (i := .iload_n 3) (k := 1) (v := .int (zI (i))) (pc := 39) rfl rfl rfl ?_
      refine zr_add (x := 14 * r) (y := i) (e := 14 * r + i) (pc := 40) rfl (by omega) ?_
      refine zr_al (n := 840) (lo := (-2147483648)) (hi := 2147483647) (e := zv_a h 12 (14 * r + i)) (pc := 41) rfl rfl rfl hI2 (by omega) (by omega) (zv_wa hw rfl (14 * r + i)) (fun g2a g2b => ?_)
      refine zw_iv (b := 20) (cj := 119) (q' := zp_m119) (As := [.int (zI (i)), .int (zI (zv_a h 12 (14 * r + i)))]) (rest := []) (pc := 42) rfl rfl rfl rfl rfl rfl rfl (Nat.le_of_ble_eq_true rfl) rfl (Nat.le_of_ble_eq_true rfl) hI2 ((zm_setKind_20 (h := h2) hI2 (i := i) (k := zv_a h 12 (14 * r + i)) (by omega) (by omega) (by omega) (by omega)).up (Nat.le_of_ble_eq_true rfl)) ?_
      rintro r3 h6 ⟨ih6, w7, r3q, x5⟩
      subst r3q
      try dsimp only at x5
      have sk1 := x5
      show zx_T zp_P 2 zp_m135 45 [(0, .ref 11), (1, .int (zI (r))), (2, .ref 20), (3, .int (zI (i)))] [] h6 _
      refine zr_inc (x := i) (n := 1) (y := i + 1) (ls' := [(3, .int (zI (i + 1))), (0, .ref 11), (1, .int (zI (r))), (2, .ref 20)]) (pc := 45) rfl rfl rfl (by omega) rfl ?_
      refine zx_T.j (i := .goto (-25)) (k := 3) (pc' := 23) (st' := []) (pc := 48) rfl rfl rfl rfl rfl ?_
      have y8 : zv_f h6 20 1 = zv_f h2 20 1 := (zv_wf w7 rfl)
      refine zx_T.lk (ls' := [(0, .ref 11), (1, .int (zI (r))), (2, .ref 20), (3, .int (zI (i + 1)))]) rfl ⟨rfl, rfl, rfl, rfl, trivial⟩ ?_
      exact ih (h2 := h6) (i := i + 1) ih6 (by omega) (by omega) ((hw.wd rfl : zb_W [(20, 1), (21, 0)] h _).tr (w7.wd rfl)) (fun z1 z2 => by omega) (fun j j0 j1 => by rw [sk1 j j0]; by_cases z : j = i; rw [if_pos z, z]; rw [if_neg z]; exact hj j j0 (by omega)) (by omega)
set_option maxRecDepth 100000 in
set_option maxHeartbeats 4000000 in
theorem zm_tRead_11_20 {h : zx_H} (hI : zb_I zc_H h) {r : Int} (r1 : 0 ≤ r) (r2 : r ≤ 59) : zx_T zp_P 2 zp_m135 0 [(0, .ref 11), (1, .int (zI (r))), (2, .ref 20)] [] h (zr_V [(20, 1), (21, 0)] h (fun h' => (0 ≤ zv_a h 13 r → zv_a h 13 r ≤ 6 → zv_f h' 20 1 = zv_a h 13 r) ∧ ∀ j, 0 ≤ j → j < 14 → zv_a h' 21 j = zv_a h 12 (14 * r + j))) := by
  refine zx_T.l (i := .iload_n 1) (k := 1) (v := .int (zI (r))) (pc := 0) rfl rfl rfl ?_
  refine zr_i1 (x := r) (t := 10) (pc := 1) rfl rfl (by omega) (by omega) (fun (c9 : r < 0) => False.elim (by omega)) (fun (c9 : ¬ (r < 0)) => ?_)
  refine zx_T.l (i := .iload_n 1) (k := 1) (v := .int (zI (r))) (pc := 4) rfl rfl rfl ?_
  refine zx_T.s (i := .bipush 60) (k := 2) (st' := [.int (zI (60)), .int (zI (r))]) (pc := 5) rfl rfl ?_
  refine zr_i2 (x := r) (y := 60) (t := 11) (pc := 7) rfl rfl (by omega) (by omega) (by omega) (by omega) (fun (c10 : r < 60) => ?_) (fun (c10 : ¬ (r < 60)) => False.elim (by omega))
  refine zx_T.l (i := .aload_n 2) (k := 1) (v := .ref 20) (pc := 11) rfl rfl rfl ?_
  refine zx_T.l (i := .aload_n 0) (k := 1) (v := .ref 11) (pc := 12) rfl rfl rfl ?_
  refine zw_gr (k := 1) (b := 13) (pc := 13) rfl rfl rfl hI ?_
  refine zx_T.l (i := .iload_n 1) (k := 1) (v := .int (zI (r))) (pc := 16) rfl rfl rfl ?_
  refine zr_al (n := 60) (lo := (-2147483648)) (hi := 2147483647) (e := zv_a h 13 r) (pc := 17) rfl rfl rfl hI (by omega) (by omega) rfl (fun g11a g11b => ?_)
  refine zw_iv (b := 20) (cj := 117) (q' := zp_m117) (As := [.int (zI (zv_a h 13 r))]) (rest := []) (pc := 18) rfl rfl rfl rfl rfl rfl rfl (Nat.le_of_ble_eq_true rfl) rfl (Nat.le_of_ble_eq_true rfl) hI ((zm_setDepth_20 (h := h) hI (n := zv_a h 13 r) (by omega) (by omega)).up (Nat.le_of_ble_eq_true rfl)) ?_
  rintro r12 h15 ⟨ih15, w16, r12q, x14⟩
  subst r12q
  try dsimp only at x14
  show zx_T zp_P 2 zp_m135 21 [(0, .ref 11), (1, .int (zI (r))), (2, .ref 20)] [] h15 _
  refine zx_T.s (i := .iconst 0) (k := 1) (st' := [.int (zI (0))]) (pc := 21) rfl rfl ?_
  refine zx_T.t (i := .istore_n 3) (k := 1) (ls' := [(3, .int (zI (0))), (0, .ref 11), (1, .int (zI (r))), (2, .ref 20)]) (st' := []) (pc := 22) rfl rfl rfl rfl ?_
  refine zx_T.lk (ls' := [(0, .ref 11), (1, .int (zI (r))), (2, .ref 20), (3, .int (zI (0)))]) rfl ⟨rfl, rfl, rfl, rfl, trivial⟩ ?_
  exact zm_tRead_11_20_L (h := h) hI (r := r) r1 r2 ((14 - 0 : Int).toNat + 1) (h2 := h15) (i := 0) ih15 (by omega) (by omega) (w16.wd rfl : zb_W [(20, 1), (21, 0)] h _) (fun z1 z2 => by omega) (fun j j0 j1 => absurd j1 (by omega)) (Nat.lt_succ_self _)
