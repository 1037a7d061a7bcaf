/-! ===== 95: the reference, method by method (by program) ===== -/
set_option maxRecDepth 100000 in
set_option maxHeartbeats 4000000 in
theorem zm_joinAt_L {h : zx_H} (hI : zb_I zc_H h) {q : Int} (q1 : -2147483648 ≤ q) (q2 : q ≤ 2147483647) (kq : 0 ≤ q → q < zv_f h 1 3 → ¬ zv_a h 19 q = -1 → zv_a h 19 q = zv_f h 20 1 → ∀ j, 0 ≤ j → j < 8 + zv_f h 20 1 → 0 ≤ zv_a h 18 (14 * q + j) ∧ zv_a h 18 (14 * q + j) ≤ 8) (kr : zk_in (zv_f h 20 1) (zv_a h 21)) (n : Nat) : (∀ {h2 : zx_H} {i : Int} (hI2 : zb_I zc_H h2) (i1 : 0 ≤ i) (i2 : i ≤ 8 + zv_f h 20 1) (q1 : 0 ≤ q) (q2 : q < zv_f h 1 3) (re : ¬ zv_a h 19 q = -1) (sm : zv_a h 19 q = zv_f h 20 1) (hw : zb_W [(18, 0), (16, 5)] h h2) (kd : ∀ p, 0 ≤ p → zv_a h2 18 p = if 14 * q ≤ p ∧ p < 14 * q + i then (fun j => zs_jn (zv_a h 18 (14 * q + j)) (zv_a h 21 j)) (p - 14 * q) else zv_a h 18 p) (ch : zv_f h2 16 5 = 1 ↔ zv_f h 16 5 = 1 ∨ ∃ j, 0 ≤ j ∧ j < i ∧ ¬ zs_jn (zv_a h 18 (14 * q + j)) (zv_a h 21 j) = zv_a h 18 (14 * q + j)), (20 - i : Int).toNat < n → zx_T zp_P 2 zp_m91 63 [(0, .ref 16), (1, .int (zI (q))), (2, .int (zI (i)))] [] h2 (zr_R [(18, 0), (19, 0), (16, 5)] h (fun e h' => zc_J h h' q e))) := by
  induction n with
  | zero => exact fun _ _ _ _ _ _ _ _ _ _ hm => absurd hm (Nat.not_lt_zero _)
  | succ n ih =>
    intro h2 i hI2 i1 i2 q1 q2 re sm hw kd ch hm
    have hC := zw_ri hI (a := 1) (k := 3) rfl
    have hS := zw_ri hI (a := 20) (k := 1) rfl
    have d9 : zv_f h2 20 1 = zv_f h 20 1 := zv_wf hw rfl
    refine zx_T.l (i := .iload_n 2) (k := 1) (v := .int (zI (i))) (pc := 63) rfl rfl rfl ?_
    refine zx_T.s (i := .bipush 8) (k := 2) (st' := [.int (zI (8)), .int (zI (i))]) (pc := 64) rfl rfl ?_
    refine zx_T.l (i := .aload_n 0) (k := 1) (v := .ref 16) (pc := 66) rfl rfl rfl ?_
    refine zw_gr (k := 3) (b := 20) (pc := 67) rfl rfl rfl hI2 ?_
    refine zw_iv (b := 20) (cj := 116) (q' := zp_m116) (As := []) (rest := [.int (zI (8)), .int (zI (i))]) (pc := 70) rfl rfl rfl rfl rfl rfl rfl (Nat.le_of_ble_eq_true rfl) rfl (Nat.le_of_ble_eq_true rfl) hI2 ((zm_depth_20 (h := h2) hI2  ).up (Nat.le_of_ble_eq_true rfl)) ?_
    rintro r1 h4 ⟨h4q, v2, r1q, x3⟩
    subst h4q r1q
    try dsimp only at x3
    show zx_T zp_P 2 zp_m91 73 [(0, .ref 16), (1, .int (zI (q))), (2, .int (zI (i)))] [.int (zI (v2)), .int (zI (8)), .int (zI (i))] h2 _
    refine zr_add (x := 8) (y := v2) (e := v2 + 8) (pc := 73) rfl (by omega) ?_
    refine zr_i2 (x := i) (y := v2 + 8) (t := 129) (pc := 74) rfl rfl (by omega) (by omega) (by omega) (by omega) (fun (c5 : (v2 + 8) ≤ i) => ?_) (fun (c5 : ¬ ((v2 + 8) ≤ i)) => ?_)
    · refine zx_T.s (i := .iconst 0) (k := 1) (st' := [.int (zI (0))]) (pc := 129) rfl rfl ?_
      have a18 : ∀ j, 0 ≤ j → zv_a h2 18 j = zv_a h2 18 j := fun j hj => rfl
      have a19 : ∀ j, 0 ≤ j → zv_a h2 19 j = zv_a h 19 j := fun j hj => by rw [zv_wa hw rfl j]
      exact zr_ir (x := 0) (pc := 130) rfl rfl rfl ⟨hI2, (hw.wd rfl : zb_W [(18, 0), (19, 0), (16, 5)] h _), _, rfl, by dsimp only; exact Or.inr (Or.inr (Or.inr ⟨⟨q1, q2⟩, re, sm, rfl, fun p p0 => zv_wa hw rfl p, fun p p0 => by rw [kd p p0, show i = zv_f h 20 1 + 8 by omega]; dsimp only; by_cases c : 14 * q ≤ p ∧ p < 14 * q + (zv_f h 20 1 + 8); rw [if_pos c, if_pos c, show 14 * q + (p - 14 * q) = p by omega]; rw [if_neg c, if_neg c], by rw [show zv_f h 20 1 + 8 = i by omega]; exact ch⟩))⟩
    · have b0 := kd (14 * q + i) (by omega)
      rw [if_neg (by omega)] at b0
      have kb := kq q1 q2 re sm i i1 (by omega)
      have kc := kr i i1 (by omega)
      have ke9 : zv_a h2 21 i = zv_a h 21 i := zv_wa hw rfl i
      refine zx_T.l (i := .aload_n 0) (k := 1) (v := .ref 16) (pc := 77) rfl rfl rfl ?_
      refine zw_gr (k := 2) (b := 17) (pc := 78) rfl rfl rfl hI2 ?_
      refine zx_T.l (i := .iload_n 1) (k := 1) (v := .int (zI (q))) (pc := 81) rfl rfl rfl ?_
      refine zx_T.l (i := .iload_n 2) (k := 1) (v := .int (zI (i))) (pc := 82) rfl rfl rfl ?_
      refine zw_iv (b := 17) (cj := 131) (q' := zp_m131) (As := [.int (zI (q)), .int (zI (i))]) (rest := []) (pc := 83) rfl rfl rfl rfl rfl rfl rfl (Nat.le_of_ble_eq_true rfl) rfl (Nat.le_of_ble_eq_true rfl) hI2 ((zm_tKindOf_17 (h := h2) hI2 (r := q) (i := i) (by omega) (by omega) (by omega) (by omega)).up (Nat.le_of_ble_eq_true rfl)) ?_
      rintro r9 h12 ⟨h12q, v10, r9q, x11⟩
      subst h12q r9q
      try dsimp only at x11
      have tK := x11.1
      show zx_T zp_P 2 zp_m91 86 [(0, .ref 16), (1, .int (zI (q))), (2, .int (zI (i)))] [.int (zI (v10))] h2 _
      refine zx_T.t (i := .istore_n 3) (k := 1) (ls' := [(3, .int (zI (v10))), (0, .ref 16), (1, .int (zI (q))), (2, .int (zI (i)))]) (st' := []) (pc := 86) rfl rfl rfl rfl ?_
      refine zx_T.l (i := .iload_n 3) (k := 1) (v := .int (zI (v10))) (pc := 87) rfl rfl rfl ?_
      refine zx_T.l (i := .aload_n 0) (k := 1) (v := .ref 16) (pc := 88) rfl rfl rfl ?_
      refine zw_gr (k := 3) (b := 20) (pc := 89) rfl rfl rfl hI2 ?_
      refine zx_T.l (i := .iload_n 2) (k := 1) (v := .int (zI (i))) (pc := 92) rfl rfl rfl ?_
      refine zw_iv (b := 20) (cj := 118) (q' := zp_m118) (As := [.int (zI (i))]) (rest := [.int (zI (v10))]) (pc := 93) rfl rfl rfl rfl rfl rfl rfl (Nat.le_of_ble_eq_true rfl) rfl (Nat.le_of_ble_eq_true rfl) hI2 ((zm_kindOf_20 (h := h2) hI2 (i := i) (by omega) (by omega)).up (Nat.le_of_ble_eq_true rfl)) ?_
      rintro r13 h16 ⟨h16q, v14, r13q, x15⟩
      subst h16q r13q
      try dsimp only at x15
      have kO := x15.1
      show zx_T zp_P 2 zp_m91 96 [(3, .int (zI (v10))), (0, .ref 16), (1, .int (zI (q))), (2, .int (zI (i)))] [.int (zI (v14)), .int (zI (v10))] h2 _
      refine zr_is (cj := 50) (q' := zp_m50) (As := [.int (zI (v10)), .int (zI (v14))]) (rest := []) (pc := 96) rfl rfl rfl rfl rfl rfl (Nat.le_of_ble_eq_true rfl) rfl (Nat.le_of_ble_eq_true rfl) rfl ((zm_joinedC (h := h2) hI2 (a := v10) (b := v14) (by omega) (by omega) (by omega) (by omega)).up (Nat.le_of_ble_eq_true rfl)) ?_
      rintro r17 h20 ⟨h20q, v18, r17q, x19⟩
      subst h20q r17q
      try dsimp only at x19
      have jE := x19.1; have kE9 : zv_a h2 21 i = zv_a h 21 i := zv_wa hw rfl i; have b1 := kO.resolve_right (fun z => z.1 ⟨i1, by omega⟩); have jF : v18 = zs_jn (zv_a h 18 (14 * q + i)) (zv_a h 21 i) := (by rw [jE, tK, b1.2.2, b0, kE9])
      show zx_T zp_P 2 zp_m91 99 [(3, .int (zI (v10))), (0, .ref 16), (1, .int (zI (q))), (2, .int (zI (i)))] [.int (zI (v18))] h2 _
      refine zx_T.t (i := .istore 4) (k := 2) (ls' := [(4, .int (zI (v18))), (3, .int (zI (v10))), (0, .ref 16), (1, .int (zI (q))), (2, .int (zI (i)))]) (st' := []) (pc := 99) rfl rfl rfl rfl ?_
      refine zx_T.l (i := .iload 4) (k := 2) (v := .int (zI (v18))) (pc := 101) rfl rfl rfl ?_
      refine zx_T.l (i := .iload_n 3) (k := 1) (v := .int (zI (v10))) (pc := 103) rfl rfl rfl ?_
      refine zr_i2 (x := v18) (y := v10) (t := 123) (pc := 104) rfl rfl (by omega) (by omega) (by omega) (by omega) (fun (c21 : v18 = v10) => ?_) (fun (c21 : ¬ (v18 = v10)) => ?_)
      · refine zr_inc (x := i) (n := 1) (y := i + 1) (ls' := [(2, .int (zI (i + 1))), (4, .int (zI (v18))), (3, .int (zI (v10))), (0, .ref 16), (1, .int (zI (q)))]) (pc := 123) rfl rfl rfl (by omega) rfl ?_
        refine zx_T.j (i := .goto (-63)) (k := 3) (pc' := 63) (st' := []) (pc := 126) rfl rfl rfl rfl rfl ?_
        have a18 : ∀ j, 0 ≤ j → zv_a h2 18 j = zv_a h2 18 j := fun j hj => rfl
        refine zx_T.lk (ls' := [(0, .ref 16), (1, .int (zI (q))), (2, .int (zI (i + 1)))]) rfl ⟨rfl, rfl, rfl, trivial⟩ ?_
        exact ih (h2 := h2) (i := i + 1) hI2 (by omega) (by omega) (by omega) (by omega) (by omega) (by omega) (hw.wd rfl : zb_W [(18, 0), (16, 5)] h _) (zs_cp (row := (fun j => zs_jn (zv_a h 18 (14 * q + j)) (zv_a h 21 j))) (M' := zv_a h2 18) (v := zv_a h2 18 (14 * q + i)) i1 kd (fun p p0 => by by_cases z : p = 14 * q + i; rw [if_pos z, z]; rw [if_neg z]) (by omega)) (zs_chs i1 ch (by omega)) (by omega)
      · refine zx_T.l (i := .aload_n 0) (k := 1) (v := .ref 16) (pc := 107) rfl rfl rfl ?_
        refine zw_gr (k := 2) (b := 17) (pc := 108) rfl rfl rfl hI2 ?_
        refine zx_T.l (i := .iload_n 1) (k := 1) (v := .int (zI (q))) (pc := 111) rfl rfl rfl ?_
        refine zx_T.l (i := .iload_n 2) (k := 1) (v := .int (zI (i))) (pc := 112) rfl rfl rfl ?_
        refine zx_T.l (i := .iload 4) (k := 2) (v := .int (zI (v18))) (pc := 113) rfl rfl rfl ?_
        refine zw_iv (b := 17) (cj := 132) (q' := zp_m132) (As := [.int (zI (q)), .int (zI (i)), .int (zI (v18))]) (rest := []) (pc := 115) rfl rfl rfl rfl rfl rfl rfl (Nat.le_of_ble_eq_true rfl) rfl (Nat.le_of_ble_eq_true rfl) hI2 ((zm_tSetKind_17 (h := h2) hI2 (r := q) (i := i) (k := v18) (by omega) (by omega) (by omega) (by omega) (by omega) (by omega)).up (Nat.le_of_ble_eq_true rfl)) ?_
        rintro r24 h27 ⟨ih27, w28, r24q, x26⟩
        subst r24q
        try dsimp only at x26
        have ts := x26
        show zx_T zp_P 2 zp_m91 118 [(4, .int (zI (v18))), (3, .int (zI (v10))), (0, .ref 16), (1, .int (zI (q))), (2, .int (zI (i)))] [] h27 _
        refine zx_T.l (i := .aload_n 0) (k := 1) (v := .ref 16) (pc := 118) rfl rfl rfl ?_
        refine zx_T.s (i := .iconst 1) (k := 1) (st' := [.int (zI (1)), .ref 16]) (pc := 119) rfl rfl ?_
        refine zw_pi (k := 5) (lo := 0) (hi := 1) (e := 1) (pc := 120) rfl rfl rfl rfl rfl rfl ih27 (by omega) (by omega) (fun h29 ih29 w30 e31 => ?_)
        refine zr_inc (x := i) (n := 1) (y := i + 1) (ls' := [(2, .int (zI (i + 1))), (4, .int (zI (v18))), (3, .int (zI (v10))), (0, .ref 16), (1, .int (zI (q)))]) (pc := 123) rfl rfl rfl (by omega) rfl ?_
        refine zx_T.j (i := .goto (-63)) (k := 3) (pc' := 63) (st' := []) (pc := 126) rfl rfl rfl rfl rfl ?_
        have a18 : ∀ j, 0 ≤ j → zv_a h29 18 j = zv_a h27 18 j := fun j hj => by rw [zv_wa w30 rfl j]
        have y33 : zv_f h29 16 5 = 1 := e31
        refine zx_T.lk (ls' := [(0, .ref 16), (1, .int (zI (q))), (2, .int (zI (i + 1)))]) rfl ⟨rfl, rfl, rfl, trivial⟩ ?_
        exact ih (h2 := h29) (i := i + 1) ih29 (by omega) (by omega) (by omega) (by omega) (by omega) (by omega) (((hw.wd rfl : zb_W [(18, 0), (16, 5)] h _).tr (w28.wd rfl)).tr (w30.wd rfl)) (zs_cp (row := (fun j => zs_jn (zv_a h 18 (14 * q + j)) (zv_a h 21 j))) i1 kd (fun p p0 => (a18 p p0).trans (ts p p0)) (by omega)) (zs_chs i1 ch (by omega)) (by omega)
set_option maxRecDepth 100000 in
set_option maxHeartbeats 4000000 in
theorem zm_joinAt {h : zx_H} (hI : zb_I zc_H h) {q : Int} (q1 : -2147483648 ≤ q) (q2 : q ≤ 2147483647) (kq : 0 ≤ q → q < zv_f h 1 3 → ¬ zv_a h 19 q = -1 → zv_a h 19 q = zv_f h 20 1 → ∀ j, 0 ≤ j → j < 8 + zv_f h 20 1 → 0 ≤ zv_a h 18 (14 * q + j) ∧ zv_a h 18 (14 * q + j) ≤ 8) (kr : zk_in (zv_f h 20 1) (zv_a h 21)) : zx_T zp_P 2 zp_m91 0 [(0, .ref 16), (1, .int (zI (q)))] [] h (zr_R [(18, 0), (19, 0), (16, 5)] h (fun e h' => zc_J h h' q e)) := by
  have hC := zw_ri hI (a := 1) (k := 3) rfl
  have hS := zw_ri hI (a := 20) (k := 1) rfl
  refine zx_T.l (i := .aload_n 0) (k := 1) (v := .ref 16) (pc := 0) rfl rfl rfl ?_
  refine zw_gr (k := 0) (b := 1) (pc := 1) rfl rfl rfl hI ?_
  refine zx_T.l (i := .iload_n 1) (k := 1) (v := .int (zI (q))) (pc := 4) rfl rfl rfl ?_
  refine zw_iv (b := 1) (cj := 7) (q' := zp_m7) (As := [.int (zI (q))]) (rest := []) (pc := 5) rfl rfl rfl rfl rfl rfl rfl (Nat.le_of_ble_eq_true rfl) rfl (Nat.le_of_ble_eq_true rfl) hI ((zm_cHasPlace (h := h) hI (p := q) (by omega) (by omega)).up (Nat.le_of_ble_eq_true rfl)) ?_
  rintro r35 h38 ⟨h38q, v36, r35q, x37⟩
  subst h38q r35q
  try dsimp only at x37
  show zx_T zp_P 2 zp_m91 8 [(0, .ref 16), (1, .int (zI (q)))] [.int (zI (v36))] h _
  refine zr_i1 (x := v36) (t := 14) (pc := 8) rfl rfl (by omega) (by omega) (fun (c39 : ¬ v36 = 0) => ?_) (fun (c39 : ¬ (¬ v36 = 0)) => ?_)
  · refine zx_T.l (i := .aload_n 0) (k := 1) (v := .ref 16) (pc := 14) rfl rfl rfl ?_
    refine zx_T.l (i := .iload_n 1) (k := 1) (v := .int (zI (q))) (pc := 15) rfl rfl rfl ?_
    refine zw_iv (b := 16) (cj := 83) (q' := zp_m83) (As := [.int (zI (q))]) (rest := []) (pc := 16) rfl rfl rfl rfl rfl rfl rfl (Nat.le_of_ble_eq_true rfl) rfl (Nat.le_of_ble_eq_true rfl) hI ((zm_mIsDead (h := h) hI (p := q) (by omega) (by omega)).up (Nat.le_of_ble_eq_true rfl)) ?_
    rintro r40 h43 ⟨h43q, v41, r40q, x42⟩
    subst h43q r40q
    try dsimp only at x42
    show zx_T zp_P 2 zp_m91 19 [(0, .ref 16), (1, .int (zI (q)))] [.int (zI (v41))] h _
    refine zr_i1 (x := v41) (t := 41) (pc := 19) rfl rfl (by omega) (by omega) (fun (c44 : v41 = 0) => ?_) (fun (c44 : ¬ (v41 = 0)) => ?_)
    · refine zx_T.l (i := .aload_n 0) (k := 1) (v := .ref 16) (pc := 41) rfl rfl rfl ?_
      refine zw_gr (k := 2) (b := 17) (pc := 42) rfl rfl rfl hI ?_
      refine zx_T.l (i := .iload_n 1) (k := 1) (v := .int (zI (q))) (pc := 45) rfl rfl rfl ?_
      refine zw_iv (b := 17) (cj := 130) (q' := zp_m130) (As := [.int (zI (q))]) (rest := []) (pc := 46) rfl rfl rfl rfl rfl rfl rfl (Nat.le_of_ble_eq_true rfl) rfl (Nat.le_of_ble_eq_true rfl) hI ((zm_tDepthOf_17 (h := h) hI (r := q) (by omega) (by omega)).up (Nat.le_of_ble_eq_true rfl)) ?_
      rintro r45 h48 ⟨h48q, v46, r45q, x47⟩
      subst h48q r45q
      try dsimp only at x47
      show zx_T zp_P 2 zp_m91 49 [(0, .ref 16), (1, .int (zI (q)))] [.int (zI (v46))] h _
      refine zx_T.l (i := .aload_n 0) (k := 1) (v := .ref 16) (pc := 49) rfl rfl rfl ?_
      refine zw_gr (k := 3) (b := 20) (pc := 50) rfl rfl rfl hI ?_
      refine zw_iv (b := 20) (cj := 116) (q' := zp_m116) (As := []) (rest := [.int (zI (v46))]) (pc := 53) rfl rfl rfl rfl rfl rfl rfl (Nat.le_of_ble_eq_true rfl) rfl (Nat.le_of_ble_eq_true rfl) hI ((zm_depth_20 (h := h) hI  ).up (Nat.le_of_ble_eq_true rfl)) ?_
      rintro r49 h52 ⟨h52q, v50, r49q, x51⟩
      subst h52q r49q
      try dsimp only at x51
      show zx_T zp_P 2 zp_m91 56 [(0, .ref 16), (1, .int (zI (q)))] [.int (zI (v50)), .int (zI (v46))] h _
      refine zr_i2 (x := v46) (y := v50) (t := 61) (pc := 56) rfl rfl (by omega) (by omega) (by omega) (by omega) (fun (c53 : v46 = v50) => ?_) (fun (c53 : ¬ (v46 = v50)) => ?_)
      · refine zx_T.s (i := .iconst 0) (k := 1) (st' := [.int (zI (0))]) (pc := 61) rfl rfl ?_
        refine zx_T.t (i := .istore_n 2) (k := 1) (ls' := [(2, .int (zI (0))), (0, .ref 16), (1, .int (zI (q)))]) (st' := []) (pc := 62) rfl rfl rfl rfl ?_
        have a18 : ∀ j, 0 ≤ j → zv_a h 18 j = zv_a h 18 j := fun j hj => rfl
        refine zx_T.lk (ls' := [(0, .ref 16), (1, .int (zI (q))), (2, .int (zI (0)))]) rfl ⟨rfl, rfl, rfl, trivial⟩ ?_
        exact zm_joinAt_L (h := h) hI (q := q) q1 q2 kq kr ((20 - 0 : Int).toNat + 1) (h2 := h) (i := 0) hI (by omega) (by omega) (by omega) (by omega) (by omega) (by omega) zb_W.rf (fun p p0 => by rw [if_neg (by omega)]) ⟨fun z => Or.inl z, fun z => by rcases z with z | ⟨j, j0, j1, _⟩; exact z; omega⟩ (Nat.lt_succ_self _)
      · refine zx_T.s (i := .iconst 5) (k := 1) (st' := [.int (zI (5))]) (pc := 59) rfl rfl ?_
        have a18 : ∀ j, 0 ≤ j → zv_a h 18 j = zv_a h 18 j := fun j hj => rfl
        have a19 : ∀ j, 0 ≤ j → zv_a h 19 j = zv_a h 19 j := fun j hj => rfl
        exact zr_ir (x := 5) (pc := 60) rfl rfl rfl ⟨hI, zb_W.rf, _, rfl, by dsimp only; exact Or.inr (Or.inr (Or.inl ⟨by omega, by omega, by omega, rfl, fun _ _ => rfl, fun _ _ => rfl, rfl⟩))⟩
    · refine zx_T.l (i := .aload_n 0) (k := 1) (v := .ref 16) (pc := 22) rfl rfl rfl ?_
      refine zw_gr (k := 2) (b := 17) (pc := 23) rfl rfl rfl hI ?_
      refine zx_T.l (i := .iload_n 1) (k := 1) (v := .int (zI (q))) (pc := 26) rfl rfl rfl ?_
      refine zx_T.l (i := .aload_n 0) (k := 1) (v := .ref 16) (pc := 27) rfl rfl rfl ?_
      refine zw_gr (k := 3) (b := 20) (pc := 28) rfl rfl rfl hI ?_
      refine zw_iv (b := 17) (cj := 134) (q' := zp_m134) (As := [.int (zI (q)), .ref 20]) (rest := []) (pc := 31) rfl rfl rfl rfl rfl rfl rfl (Nat.le_of_ble_eq_true rfl) rfl (Nat.le_of_ble_eq_true rfl) hI ((zm_tWrite_17_20 (h := h) hI (r := q) (by omega) (by omega)).up (Nat.le_of_ble_eq_true rfl)) ?_
      rintro r59 h62 ⟨ih62, w63, r59q, x61⟩
      subst r59q
      try dsimp only at x61
      have tw1 := x61
      show zx_T zp_P 2 zp_m91 34 [(0, .ref 16), (1, .int (zI (q)))] [] h62 _
      refine zx_T.l (i := .aload_n 0) (k := 1) (v := .ref 16) (pc := 34) rfl rfl rfl ?_
      refine zx_T.s (i := .iconst 1) (k := 1) (st' := [.int (zI (1)), .ref 16]) (pc := 35) rfl rfl ?_
      refine zw_pi (k := 5) (lo := 0) (hi := 1) (e := 1) (pc := 36) rfl rfl rfl rfl rfl rfl ih62 (by omega) (by omega) (fun h64 ih64 w65 e66 => ?_)
      refine zx_T.s (i := .iconst 0) (k := 1) (st' := [.int (zI (0))]) (pc := 39) rfl rfl ?_
      have y67 : zv_f h64 16 5 = 1 := e66
      have a18 : ∀ j, 0 ≤ j → zv_a h64 18 j = zv_a h62 18 j := fun j hj => by rw [zv_wa w65 rfl j]
      have a19 : ∀ j, 0 ≤ j → zv_a h64 19 j = zv_a h62 19 j := fun j hj => by rw [zv_wa w65 rfl j]
      exact zr_ir (x := 0) (pc := 40) rfl rfl rfl ⟨ih64, ((w63.wd rfl : zb_W [(18, 0), (19, 0), (16, 5)] h _).tr (w65.wd rfl)), _, rfl, by dsimp only; exact Or.inr (Or.inl ⟨by omega, by omega, rfl, by omega, fun p p0 => by rw [a19 p p0]; exact tw1.1 p p0, fun j j0 j1 => by rw [a18 _ (by omega), tw1.2 _ (by omega), if_pos (by omega), show 14 * q + j - 14 * q = j by omega], fun p p0 p1 => by rw [a18 p p0, tw1.2 p p0, if_neg (by omega)]⟩)⟩
  · refine zx_T.s (i := .bipush 7) (k := 2) (st' := [.int (zI (7))]) (pc := 11) rfl rfl ?_
    have a18 : ∀ j, 0 ≤ j → zv_a h 18 j = zv_a h 18 j := fun j hj => rfl
    have a19 : ∀ j, 0 ≤ j → zv_a h 19 j = zv_a h 19 j := fun j hj => rfl
    exact zr_ir (x := 7) (pc := 13) rfl rfl rfl ⟨hI, zb_W.rf, _, rfl, by dsimp only; exact Or.inl ⟨by omega, rfl, fun _ _ => rfl, fun _ _ => rfl, rfl⟩⟩

set_option maxRecDepth 100000 in
set_option maxHeartbeats 4000000 in
theorem zm_workHandlers_L {h : zx_H} (hI : zb_I zc_H h) {p : Int} (p1 : 0 ≤ p) (p2 : p < zv_f h 1 3) (s : zS) (hA : zc_A h s) (hO : zs_ok (zc_Pg h) s) (hN : zs_nn s) (hR : s.R p) (hP : zP.ok (zc_Pg h)) (hQ : zP.nn (zc_Pg h)) (n : Nat) : (∀ {h2 : zx_H} {t : Int} (hI2 : zb_I zc_H h2) (t1 : 0 ≤ t) (t2 : t ≤ zv_f h 1 8) (hw : zb_W [(18, 0), (19, 0), (16, 5), (20, 1), (21, 0)] h h2) (s2 : zS) (hA2 : zc_A h2 s2) (hO2 : zs_ok (zc_Pg h) s2) (hN2 : zs_nn s2) (hR2 : s2.R p) (hq : zs_hs (zc_Pg h) p (zv_f h 1 8).toNat s = zs_hs (zc_Pg h) p (zv_f h 1 8 - t).toNat s2), (10 - t : Int).toNat < n → zx_T zp_P 3 zp_m89 2 [(0, .ref 16), (1, .int (zI (p))), (2, .int (zI (t)))] [] h2 (zr_R [(18, 0), (19, 0), (16, 5), (20, 1), (21, 0)] h (fun e h' => e = (zs_hs (zc_Pg h) p (zv_f h 1 8).toNat s).1 ∧ zc_A h' (zs_hs (zc_Pg h) p (zv_f h 1 8).toNat s).2 ∧ 0 ≤ e ∧ e ≤ 7))) := by
  induction n with
  | zero => exact fun _ _ _ _ _ _ _ _ _ _ hm => absurd hm (Nat.not_lt_zero _)
  | succ n ih =>
    intro h2 t hI2 t1 t2 hw s2 hA2 hO2 hN2 hR2 hq hm
    have hC := zw_ri hI (a := 1) (k := 3) rfl
    have hH := zw_ri hI (a := 1) (k := 8) rfl
    have d9 : zv_f h2 1 8 = zv_f h 1 8 := zv_wf hw rfl
    have d8 : zv_f h2 1 3 = zv_f h 1 3 := zv_wf hw rfl
    refine zx_T.l (i := .iload_n 2) (k := 1) (v := .int (zI (t))) (pc := 2) rfl rfl rfl ?_
    refine zx_T.l (i := .aload_n 0) (k := 1) (v := .ref 16) (pc := 3) rfl rfl rfl ?_
    refine zw_gr (k := 0) (b := 1) (pc := 4) rfl rfl rfl hI2 ?_
    refine zw_iv (b := 1) (cj := 5) (q' := zp_m5) (As := []) (rest := [.int (zI (t))]) (pc := 7) rfl rfl rfl rfl rfl rfl rfl (Nat.le_of_ble_eq_true rfl) rfl (Nat.le_of_ble_eq_true rfl) hI2 ((zm_cHandlers (h := h2) hI2  ).up (Nat.le_of_ble_eq_true rfl)) ?_
    rintro r1 h4 ⟨h4q, v2, r1q, x3⟩
    subst h4q r1q
    try dsimp only at x3
    show zx_T zp_P 3 zp_m89 10 [(0, .ref 16), (1, .int (zI (p))), (2, .int (zI (t)))] [.int (zI (v2)), .int (zI (t))] h2 _
    refine zr_i2 (x := t) (y := v2) (t := 77) (pc := 10) rfl rfl (by omega) (by omega) (by omega) (by omega) (fun (c5 : v2 ≤ t) => ?_) (fun (c5 : ¬ (v2 ≤ t)) => ?_)
    · refine zx_T.s (i := .iconst 0) (k := 1) (st' := [.int (zI (0))]) (pc := 77) rfl rfl ?_
      exact zr_ir (x := 0) (pc := 78) rfl rfl rfl ⟨hI2, (hw.wd rfl : zb_W [(18, 0), (19, 0), (16, 5), (20, 1), (21, 0)] h _), _, rfl, by dsimp only; have z9 : zs_hs (zc_Pg h) p (zv_f h 1 8).toNat s = (0, s2) := (by rw [hq, show (zv_f h 1 8 - t).toNat = 0 by omega]; rfl); rw [z9]; exact ⟨rfl, hA2, by omega, by omega⟩⟩
    · refine zx_T.l (i := .aload_n 0) (k := 1) (v := .ref 16) (pc := 13) rfl rfl rfl ?_
      refine zw_gr (k := 0) (b := 1) (pc := 14) rfl rfl rfl hI2 ?_
      refine zx_T.l (i := .iload_n 2) (k := 1) (v := .int (zI (t))) (pc := 17) rfl rfl rfl ?_
      refine zx_T.l (i := .iload_n 1) (k := 1) (v := .int (zI (p))) (pc := 18) rfl rfl rfl ?_
      have y6 : zv_f h2 1 8 = zv_f h 1 8 := (zv_wf hw rfl)
      refine zw_iv (b := 1) (cj := 15) (q' := zp_m15) (As := [.int (zI (t)), .int (zI (p))]) (rest := []) (pc := 19) rfl rfl rfl rfl rfl rfl rfl (Nat.le_of_ble_eq_true rfl) rfl (Nat.le_of_ble_eq_true rfl) hI2 ((zm_cHandles (h := h2) hI2 (t := t) (p := p) (by omega) (by omega) (by omega) (by omega)).up (Nat.le_of_ble_eq_true rfl)) ?_
      rintro r7 h10 ⟨h10q, v8, r7q, x9⟩
      subst h10q r7q
      try dsimp only at x9
      have hx := x9
      simp only [zv_wa hw (a := 5) rfl, zv_wa hw (a := 6) rfl] at hx
      show zx_T zp_P 3 zp_m89 22 [(0, .ref 16), (1, .int (zI (p))), (2, .int (zI (t)))] [.int (zI (v8))] h2 _
      refine zr_i1 (x := v8) (t := 71) (pc := 22) rfl rfl (by omega) (by omega) (fun (c11 : v8 = 0) => ?_) (fun (c11 : ¬ (v8 = 0)) => ?_)
      · refine zr_inc (x := t) (n := 1) (y := t + 1) (ls' := [(2, .int (zI (t + 1))), (0, .ref 16), (1, .int (zI (p)))]) (pc := 71) rfl rfl rfl (by omega) rfl ?_
        refine zx_T.j (i := .goto (-72)) (k := 3) (pc' := 2) (st' := []) (pc := 74) rfl rfl rfl rfl rfl ?_
        refine zx_T.lk (ls' := [(0, .ref 16), (1, .int (zI (p))), (2, .int (zI (t + 1)))]) rfl ⟨rfl, rfl, rfl, trivial⟩ ?_
        exact ih (h2 := h2) (t := t + 1) hI2 (by omega) (by omega) (hw.wd rfl : zb_W [(18, 0), (19, 0), (16, 5), (20, 1), (21, 0)] h _) s2 hA2 hO2 hN2 hR2 (hq.trans ((zs_hs_s (P := zc_Pg h) (p := p) (s := s2) (by show t < zv_f h 1 8; omega)).trans (if_neg (fun z => by have z1 : zv_a h 5 t ≤ p ∧ p < zv_a h 6 t := z; omega)))) (by omega)
      · refine zx_T.l (i := .aload_n 0) (k := 1) (v := .ref 16) (pc := 25) rfl rfl rfl ?_
        refine zw_gr (k := 2) (b := 17) (pc := 26) rfl rfl rfl hI2 ?_
        refine zx_T.l (i := .iload_n 1) (k := 1) (v := .int (zI (p))) (pc := 29) rfl rfl rfl ?_
        refine zx_T.l (i := .aload_n 0) (k := 1) (v := .ref 16) (pc := 30) rfl rfl rfl ?_
        refine zw_gr (k := 3) (b := 20) (pc := 31) rfl rfl rfl hI2 ?_
        refine zw_iv (b := 17) (cj := 135) (q' := zp_m135) (As := [.int (zI (p)), .ref 20]) (rest := []) (pc := 34) rfl rfl rfl rfl rfl rfl rfl (Nat.le_of_ble_eq_true rfl) rfl (Nat.le_of_ble_eq_true rfl) hI2 ((zm_tRead_17_20 (h := h2) hI2 (r := p) (by omega) (by omega)).up (Nat.le_of_ble_eq_true rfl)) ?_
        rintro r12 h15 ⟨ih15, w16, r12q, x14⟩
        subst r12q
        try dsimp only at x14
        have tr1 := x14
        show zx_T zp_P 3 zp_m89 37 [(0, .ref 16), (1, .int (zI (p))), (2, .int (zI (t)))] [] h15 _
        refine zx_T.l (i := .aload_n 0) (k := 1) (v := .ref 16) (pc := 37) rfl rfl rfl ?_
        refine zw_gr (k := 3) (b := 20) (pc := 38) rfl rfl rfl ih15 ?_
        refine zx_T.l (i := .aload_n 0) (k := 1) (v := .ref 16) (pc := 41) rfl rfl rfl ?_
        refine zw_gr (k := 0) (b := 1) (pc := 42) rfl rfl rfl ih15 ?_
        refine zx_T.l (i := .iload_n 2) (k := 1) (v := .int (zI (t))) (pc := 45) rfl rfl rfl ?_
        have y17 : zv_f h15 1 8 = zv_f h 1 8 := ((zv_wf w16 rfl).trans (zv_wf hw rfl))
        refine zw_iv (b := 1) (cj := 17) (q' := zp_m17) (As := [.int (zI (t))]) (rest := [.ref 20]) (pc := 46) rfl rfl rfl rfl rfl rfl rfl (Nat.le_of_ble_eq_true rfl) rfl (Nat.le_of_ble_eq_true rfl) ih15 ((zm_cHandlerKind (h := h15) ih15 (t := t) (by omega) (by omega)).up (Nat.le_of_ble_eq_true rfl)) ?_
        rintro r18 h21 ⟨h21q, v19, r18q, x20⟩
        subst h21q r18q
        try dsimp only at x20
        have hk9 : v19 = zv_a h 8 t := x20.1.trans (zv_wa ((hw.wd rfl : zb_W [(18, 0), (19, 0), (16, 5), (20, 1), (21, 0)] h _).tr (w16.wd rfl)) rfl t)
        show zx_T zp_P 3 zp_m89 49 [(0, .ref 16), (1, .int (zI (p))), (2, .int (zI (t)))] [.int (zI (v19)), .ref 20] h15 _
        refine zw_iv (b := 20) (cj := 121) (q' := zp_m121) (As := [.int (zI (v19))]) (rest := []) (pc := 49) rfl rfl rfl rfl rfl rfl rfl (Nat.le_of_ble_eq_true rfl) rfl (Nat.le_of_ble_eq_true rfl) ih15 ((zm_leaveAlone_20 (h := h15) ih15 (k := v19) (by omega) (by omega)).up (Nat.le_of_ble_eq_true rfl)) ?_
        rintro r22 h25 ⟨ih25, w26, r22q, x24⟩
        subst r22q
        try dsimp only at x24
        have lA := x24
        show zx_T zp_P 3 zp_m89 52 [(0, .ref 16), (1, .int (zI (p))), (2, .int (zI (t)))] [] h25 _
        have hPx : zc_Pg h25 = zc_Pg h := zc_Pg_g (((hw.wd rfl : zb_W [(18, 0), (19, 0), (16, 5), (20, 1), (21, 0)] h _).tr (w16.wd rfl)).tr (w26.wd rfl)) rfl
        have hO3 : zs_ok (zc_Pg h25) s2 := by rw [hPx]; exact hO2
        have hA3 := zc_A_g ((w16.wd rfl : zb_W [(20, 1), (21, 0)] h2 _).tr (w26.wd rfl)) rfl rfl rfl hA2
        have wa9 := zw_arm (k := zv_a h 8 t) (hO2.1 p hR2) (hP.2.1 t (by omega) (by show t < zv_f h 1 8; omega))
        have ka9 := zk_arm (k := zv_a h 8 t) (hN2 p hR2) (hO2.1 p hR2).2.1 (hQ.2.1 t (by omega) (by show t < zv_f h 1 8; omega))
        have w9 := (hO2.1 p hR2).2
        dsimp only at w9
        have b9 := hA2.2.1 p hR2
        have rw9 : ∀ j, 0 ≤ j → j < 8 + zv_f h25 20 1 → zv_a h25 21 j = zs_arm s2 p (zv_a h 8 t) j := fun j j0 j1 => by rw [lA.2 j j0, hk9]; unfold zs_arm; by_cases z : j = 8; rw [if_pos z, if_pos z]; rw [if_neg z, if_neg z, tr1.2 j j0 (by omega)]; exact b9.2 j j0 (by omega)
        have kr9 : zk_in (zv_f h25 20 1) (zv_a h25 21) := fun j j0 j1 => by rw [rw9 j j0 j1]; exact ka9 j j0 (by omega)
        have kq9 : ∀ q, ¬ zv_a h25 19 q = -1 → 0 ≤ q → q < 60 → zv_a h25 19 q = zv_f h25 20 1 → ∀ j, 0 ≤ j → j < 8 + zv_f h25 20 1 → 0 ≤ zv_a h25 18 (14 * q + j) ∧ zv_a h25 18 (14 * q + j) ≤ 8 := fun q z q0 q1 y j j0 j1 => zc_kq hN2 hA3 ((hA3.1 q q0 q1).1 z) j j0 (by rw [y]; exact j1)
        refine zx_T.l (i := .aload_n 0) (k := 1) (v := .ref 16) (pc := 52) rfl rfl rfl ?_
        refine zx_T.l (i := .aload_n 0) (k := 1) (v := .ref 16) (pc := 53) rfl rfl rfl ?_
        refine zw_gr (k := 0) (b := 1) (pc := 54) rfl rfl rfl ih25 ?_
        refine zx_T.l (i := .iload_n 2) (k := 1) (v := .int (zI (t))) (pc := 57) rfl rfl rfl ?_
        have y27 : zv_f h25 1 8 = zv_f h 1 8 := ((zv_wf w26 rfl).trans ((zv_wf w16 rfl).trans (zv_wf hw rfl)))
        refine zw_iv (b := 1) (cj := 16) (q' := zp_m16) (As := [.int (zI (t))]) (rest := [.ref 16]) (pc := 58) rfl rfl rfl rfl rfl rfl rfl (Nat.le_of_ble_eq_true rfl) rfl (Nat.le_of_ble_eq_true rfl) ih25 ((zm_cHandlerAt (h := h25) ih25 (t := t) (by omega) (by omega)).up (Nat.le_of_ble_eq_true rfl)) ?_
        rintro r28 h31 ⟨h31q, v29, r28q, x30⟩
        subst h31q r28q
        try dsimp only at x30
        have hq9 : v29 = zv_a h 7 t := x30.1.trans (zv_wa (((hw.wd rfl : zb_W [(18, 0), (19, 0), (16, 5), (20, 1), (21, 0)] h _).tr (w16.wd rfl)).tr (w26.wd rfl)) rfl t)
        show zx_T zp_P 3 zp_m89 61 [(0, .ref 16), (1, .int (zI (p))), (2, .int (zI (t)))] [.int (zI (v29)), .ref 16] h25 _
        have y32 : zv_f h25 1 3 = zv_f h 1 3 := ((zv_wf w26 rfl).trans ((zv_wf w16 rfl).trans (zv_wf hw rfl)))
        refine zw_iv (b := 16) (cj := 91) (q' := zp_m91) (As := [.int (zI (v29))]) (rest := []) (pc := 61) rfl rfl rfl rfl rfl rfl rfl (Nat.le_of_ble_eq_true rfl) rfl (Nat.le_of_ble_eq_true rfl) ih25 ((zm_joinAt (h := h25) ih25 (q := v29) (by omega) (by omega) (fun y1 y2 z1 z2 => kq9 v29 z1 y1 (by omega) z2) kr9).up (Nat.le_of_ble_eq_true rfl)) ?_
        rintro r33 h36 ⟨ih36, w37, v34, r33q, x35⟩
        subst r33q
        try dsimp only at x35
        have Jh36 := x35
        have rjh36 := zc_J_e x35
        have jA := zc_A_join ih25 (ρ := zs_arm s2 p (zv_a h 8 t)) hO3 hA3 rw9 Jh36; rw [hPx, lA.1, hq9] at jA
        show zx_T zp_P 3 zp_m89 64 [(0, .ref 16), (1, .int (zI (p))), (2, .int (zI (t)))] [.int (zI (v34))] h36 _
        refine zx_T.t (i := .istore_n 3) (k := 1) (ls' := [(3, .int (zI (v34))), (0, .ref 16), (1, .int (zI (p))), (2, .int (zI (t)))]) (st' := []) (pc := 64) rfl rfl rfl rfl ?_
        refine zx_T.l (i := .iload_n 3) (k := 1) (v := .int (zI (v34))) (pc := 65) rfl rfl rfl ?_
        refine zr_i1 (x := v34) (t := 71) (pc := 66) rfl rfl (by omega) (by omega) (fun (c38 : v34 = 0) => ?_) (fun (c38 : ¬ (v34 = 0)) => ?_)
        · refine zr_inc (x := t) (n := 1) (y := t + 1) (ls' := [(2, .int (zI (t + 1))), (3, .int (zI (v34))), (0, .ref 16), (1, .int (zI (p)))]) (pc := 71) rfl rfl rfl (by omega) rfl ?_
          refine zx_T.j (i := .goto (-72)) (k := 3) (pc' := 2) (st' := []) (pc := 74) rfl rfl rfl rfl rfl ?_
          refine zx_T.lk (ls' := [(0, .ref 16), (1, .int (zI (p))), (2, .int (zI (t + 1)))]) rfl ⟨rfl, rfl, rfl, trivial⟩ ?_
          exact ih (h2 := h36) (t := t + 1) ih36 (by omega) (by omega) ((((hw.wd rfl : zb_W [(18, 0), (19, 0), (16, 5), (20, 1), (21, 0)] h _).tr (w16.wd rfl)).tr (w26.wd rfl)).tr (w37.wd rfl)) (zs_join (zc_Pg h) s2 (zv_a h 7 t) (zs_arm s2 p (zv_a h 8 t)) 1).2 jA.2 (zs_ok_join hO2 wa9) (zs_nn_join hN2 ka9) (zs_join_R hR2) (hq.trans ((zs_hs_s (P := zc_Pg h) (p := p) (s := s2) (by show t < zv_f h 1 8; omega)).trans ((if_pos (show (zc_Pg h).fr t ≤ p ∧ p < (zc_Pg h).to t from (by omega : zv_a h 5 t ≤ p ∧ p < zv_a h 6 t))).trans (if_pos (jA.1.symm.trans (by omega)))))) (by omega)
        · refine zx_T.l (i := .iload_n 3) (k := 1) (v := .int (zI (v34))) (pc := 69) rfl rfl rfl ?_
          exact zr_ir (x := v34) (pc := 70) rfl rfl rfl ⟨ih36, ((((hw.wd rfl : zb_W [(18, 0), (19, 0), (16, 5), (20, 1), (21, 0)] h _).tr (w16.wd rfl)).tr (w26.wd rfl)).tr (w37.wd rfl)), _, rfl, by dsimp only; have z9 := (hq.trans ((zs_hs_s (P := zc_Pg h) (p := p) (s := s2) (by show t < zv_f h 1 8; omega)).trans ((if_pos (show (zc_Pg h).fr t ≤ p ∧ p < (zc_Pg h).to t from (by omega : zv_a h 5 t ≤ p ∧ p < zv_a h 6 t))).trans (if_neg (fun z => absurd (jA.1.trans z) (by omega)))))); rw [z9]; exact ⟨jA.1, jA.2, by omega, by omega⟩⟩
set_option maxRecDepth 100000 in
set_option maxHeartbeats 4000000 in
theorem zm_workHandlers {h : zx_H} (hI : zb_I zc_H h) {p : Int} (p1 : 0 ≤ p) (p2 : p < zv_f h 1 3) (s : zS) (hA : zc_A h s) (hO : zs_ok (zc_Pg h) s) (hN : zs_nn s) (hR : s.R p) (hP : zP.ok (zc_Pg h)) (hQ : zP.nn (zc_Pg h)) : zx_T zp_P 3 zp_m89 0 [(0, .ref 16), (1, .int (zI (p)))] [] h (zr_R [(18, 0), (19, 0), (16, 5), (20, 1), (21, 0)] h (fun e h' => e = (zs_hs (zc_Pg h) p (zv_f h 1 8).toNat s).1 ∧ zc_A h' (zs_hs (zc_Pg h) p (zv_f h 1 8).toNat s).2 ∧ 0 ≤ e ∧ e ≤ 7)) := by
  have hC := zw_ri hI (a := 1) (k := 3) rfl
  have hH := zw_ri hI (a := 1) (k := 8) rfl
  refine zx_T.s (i := .iconst 0) (k := 1) (st' := [.int (zI (0))]) (pc := 0) rfl rfl ?_
  refine zx_T.t (i := .istore_n 2) (k := 1) (ls' := [(2, .int (zI (0))), (0, .ref 16), (1, .int (zI (p)))]) (st' := []) (pc := 1) rfl rfl rfl rfl ?_
  refine zx_T.lk (ls' := [(0, .ref 16), (1, .int (zI (p))), (2, .int (zI (0)))]) rfl ⟨rfl, rfl, rfl, trivial⟩ ?_
  exact zm_workHandlers_L (h := h) hI (p := p) p1 p2 s hA hO hN hR hP hQ ((10 - 0 : Int).toNat + 1) (h2 := h) (t := 0) hI (by omega) (by omega) zb_W.rf s hA hO hN hR (by rw [Int.sub_zero]) (Nat.lt_succ_self _)
