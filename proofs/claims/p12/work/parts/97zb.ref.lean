/-! ===== 97zb: the reference, method by method (by program) ===== -/
set_option maxRecDepth 100000 in
set_option maxHeartbeats 4000000 in
theorem zm_depth_28 {h : zx_H} (hI : zb_I zc_H h)   : zx_T zp_P 0 zp_m116 0 [(0, .ref 28)] [] h (zr_P h (fun e => e = zv_f h 28 1 ∧ 0 ≤ e ∧ e ≤ 6)) := by
  refine zx_T.l (i := .aload_n 0) (k := 1) (v := .ref 28) (pc := 0) rfl rfl rfl ?_
  refine zw_gi (k := 1) (lo := 0) (hi := 6) (e := zv_f h 28 1) (pc := 1) rfl rfl rfl hI rfl (fun g1a g1b => ?_)
  exact zr_ir (x := zv_f h 28 1) (pc := 4) rfl rfl rfl ⟨rfl, _, rfl, by dsimp only; exact ⟨rfl, by omega, by omega⟩⟩

set_option maxRecDepth 100000 in
set_option maxHeartbeats 4000000 in
theorem zm_setDepth_28 {h : zx_H} (hI : zb_I zc_H h) {n : Int} (n1 : -2147483648 ≤ n) (n2 : n ≤ 2147483647) : zx_T zp_P 1 zp_m117 0 [(0, .ref 28), (1, .int (zI (n)))] [] h (zr_V [(28, 1)] h (fun h' => (n < 0 ∧ zv_f h' 28 1 = 0) ∨ (0 ≤ n ∧ n ≤ 6 ∧ zv_f h' 28 1 = n) ∨ (6 < n ∧ zv_f h' 28 1 = 6))) := by
  refine zx_T.l (i := .aload_n 0) (k := 1) (v := .ref 28) (pc := 0) rfl rfl rfl ?_
  refine zx_T.l (i := .iload_n 1) (k := 1) (v := .int (zI (n))) (pc := 1) rfl rfl rfl ?_
  refine zr_i1 (x := n) (t := 9) (pc := 2) rfl rfl (by omega) (by omega) (fun (c1 : 0 ≤ n) => ?_) (fun (c1 : ¬ (0 ≤ n)) => ?_)
  · refine zx_T.l (i := .iload_n 1) (k := 1) (v := .int (zI (n))) (pc := 9) rfl rfl rfl ?_
    refine zx_T.s (i := .bipush 6) (k := 2) (st' := [.int (zI (6)), .int (zI (n)), .ref 28]) (pc := 10) rfl rfl ?_
    refine zr_min (pc := 12) rfl rfl (Nat.le_of_ble_eq_true rfl) (by omega) (by omega) (by omega) (by omega) (fun z2 z2a => ?_)
    refine zw_pi (k := 1) (lo := 0) (hi := 6) (e := z2) (pc := 15) rfl rfl rfl rfl rfl rfl hI (by omega) (by omega) (fun h3 ih3 w4 e5 => ?_)
    have y6 : zv_f h3 28 1 = z2 := e5
    exact zr_vr (pc := 18) rfl rfl ⟨ih3, (w4.wd rfl : zb_W [(28, 1)] h _), rfl, by dsimp only; omega⟩
  · refine zx_T.s (i := .iconst 0) (k := 1) (st' := [.int (zI (0)), .ref 28]) (pc := 5) rfl rfl ?_
    refine zx_T.j (i := .goto 9) (k := 3) (pc' := 15) (st' := [.int (zI (0)), .ref 28]) (pc := 6) rfl rfl rfl rfl rfl ?_
    refine zw_pi (k := 1) (lo := 0) (hi := 6) (e := 0) (pc := 15) rfl rfl rfl rfl rfl rfl hI (by omega) (by omega) (fun h7 ih7 w8 e9 => ?_)
    have y10 : zv_f h7 28 1 = 0 := e9
    exact zr_vr (pc := 18) rfl rfl ⟨ih7, (w8.wd rfl : zb_W [(28, 1)] h _), rfl, by dsimp only; omega⟩

set_option maxRecDepth 100000 in
set_option maxHeartbeats 4000000 in
theorem zm_kindOf_28 {h : zx_H} (hI : zb_I zc_H h) {i : Int} (i1 : -2147483648 ≤ i) (i2 : i ≤ 2147483647) : zx_T zp_P 0 zp_m118 0 [(0, .ref 28), (1, .int (zI (i)))] [] h (zr_P h (fun e => ((0 ≤ i ∧ i < 14 ∧ e = zv_a h 29 i) ∨ (¬ (0 ≤ i ∧ i < 14) ∧ e = 0)) ∧ (-2147483648) ≤ e ∧ e ≤ 2147483647)) := by
  refine zx_T.l (i := .iload_n 1) (k := 1) (v := .int (zI (i))) (pc := 0) rfl rfl rfl ?_
  refine zr_i1 (x := i) (t := 19) (pc := 1) rfl rfl (by omega) (by omega) (fun (c1 : i < 0) => ?_) (fun (c1 : ¬ (i < 0)) => ?_)
  · refine zx_T.s (i := .iconst 0) (k := 1) (st' := [.int (zI (0))]) (pc := 19) rfl rfl ?_
    exact zr_ir (x := 0) (pc := 20) rfl rfl rfl ⟨rfl, _, rfl, by dsimp only; exact ⟨by first | exact Or.inl ⟨by omega, by omega, rfl⟩ | exact Or.inr ⟨by omega, rfl⟩, by omega, by omega⟩⟩
  · refine zx_T.l (i := .iload_n 1) (k := 1) (v := .int (zI (i))) (pc := 4) rfl rfl rfl ?_
    refine zx_T.s (i := .bipush 14) (k := 2) (st' := [.int (zI (14)), .int (zI (i))]) (pc := 5) rfl rfl ?_
    refine zr_i2 (x := i) (y := 14) (t := 19) (pc := 7) rfl rfl (by omega) (by omega) (by omega) (by omega) (fun (c2 : 14 ≤ i) => ?_) (fun (c2 : ¬ (14 ≤ i)) => ?_)
    · refine zx_T.s (i := .iconst 0) (k := 1) (st' := [.int (zI (0))]) (pc := 19) rfl rfl ?_
      exact zr_ir (x := 0) (pc := 20) rfl rfl rfl ⟨rfl, _, rfl, by dsimp only; exact ⟨by first | exact Or.inl ⟨by omega, by omega, rfl⟩ | exact Or.inr ⟨by omega, rfl⟩, by omega, by omega⟩⟩
    · refine zx_T.l (i := .aload_n 0) (k := 1) (v := .ref 28) (pc := 10) rfl rfl rfl ?_
      refine zw_gr (k := 0) (b := 29) (pc := 11) rfl rfl rfl hI ?_
      refine zx_T.l (i := .iload_n 1) (k := 1) (v := .int (zI (i))) (pc := 14) rfl rfl rfl ?_
      refine zr_al (n := 14) (lo := (-2147483648)) (hi := 2147483647) (e := zv_a h 29 i) (pc := 15) rfl rfl rfl hI (by omega) (by omega) rfl (fun g3a g3b => ?_)
      refine zx_T.j (i := .goto 4) (k := 3) (pc' := 20) (st' := [.int (zI (zv_a h 29 i))]) (pc := 16) rfl rfl rfl rfl rfl ?_
      exact zr_ir (x := zv_a h 29 i) (pc := 20) rfl rfl rfl ⟨rfl, _, rfl, by dsimp only; exact ⟨by first | exact Or.inl ⟨by omega, by omega, rfl⟩ | exact Or.inr ⟨by omega, rfl⟩, by omega, by omega⟩⟩

set_option maxRecDepth 100000 in
set_option maxHeartbeats 4000000 in
theorem zm_setKind_28 {h : zx_H} (hI : zb_I zc_H h) {i : Int} {k : Int} (i1 : 0 ≤ i) (i2 : i ≤ 13) (k1 : -2147483648 ≤ k) (k2 : k ≤ 2147483647) : zx_T zp_P 0 zp_m119 0 [(0, .ref 28), (1, .int (zI (i))), (2, .int (zI (k)))] [] h (zr_V [(29, 0)] h (fun h' => ∀ j, 0 ≤ j → zv_a h' 29 j = if j = i then k else zv_a h 29 j)) := by
  refine zx_T.l (i := .iload_n 1) (k := 1) (v := .int (zI (i))) (pc := 0) rfl rfl rfl ?_
  refine zr_i1 (x := i) (t := 17) (pc := 1) rfl rfl (by omega) (by omega) (fun (c1 : i < 0) => False.elim (by omega)) (fun (c1 : ¬ (i < 0)) => ?_)
  refine zx_T.l (i := .iload_n 1) (k := 1) (v := .int (zI (i))) (pc := 4) rfl rfl rfl ?_
  refine zx_T.s (i := .bipush 14) (k := 2) (st' := [.int (zI (14)), .int (zI (i))]) (pc := 5) rfl rfl ?_
  refine zr_i2 (x := i) (y := 14) (t := 17) (pc := 7) rfl rfl (by omega) (by omega) (by omega) (by omega) (fun (c2 : 14 ≤ i) => False.elim (by omega)) (fun (c2 : ¬ (14 ≤ i)) => ?_)
  refine zx_T.l (i := .aload_n 0) (k := 1) (v := .ref 28) (pc := 10) rfl rfl rfl ?_
  refine zw_gr (k := 0) (b := 29) (pc := 11) rfl rfl rfl hI ?_
  refine zx_T.l (i := .iload_n 1) (k := 1) (v := .int (zI (i))) (pc := 14) rfl rfl rfl ?_
  refine zx_T.l (i := .iload_n 2) (k := 1) (v := .int (zI (k))) (pc := 15) rfl rfl rfl ?_
  refine zr_as (n := 14) (lo := (-2147483648)) (hi := 2147483647) (e := k) (pc := 16) rfl rfl rfl rfl hI (by omega) (by omega) (by omega) (by omega) (fun h3 ih3 w4 s5 => ?_)
  have a29 : ∀ j, 0 ≤ j → zv_a h3 29 j = if j = i then k else zv_a h 29 j := fun j hj => by rw [s5 j hj]
  exact zr_vr (pc := 17) rfl rfl ⟨ih3, (w4.wd rfl : zb_W [(29, 0)] h _), rfl, by dsimp only; exact a29⟩

set_option maxRecDepth 100000 in
set_option maxHeartbeats 4000000 in
theorem zm_kindDown_28 {h : zx_H} (hI : zb_I zc_H h) {d : Int} (d1 : 0 ≤ d) (d2 : d ≤ 5) : zx_T zp_P 0 zp_m120 0 [(0, .ref 28), (1, .int (zI (d)))] [] h (zr_P h (fun e => ((d < zv_f h 28 1 ∧ e = zv_a h 29 (zv_f h 28 1 + 7 - d)) ∨ (¬ d < zv_f h 28 1 ∧ e = -1)) ∧ (-2147483648) ≤ e ∧ e ≤ 2147483647)) := by
  have hS := zw_ri hI (a := 28) (k := 1) rfl
  refine zx_T.l (i := .iload_n 1) (k := 1) (v := .int (zI (d))) (pc := 0) rfl rfl rfl ?_
  refine zr_i1 (x := d) (t := 31) (pc := 1) rfl rfl (by omega) (by omega) (fun (c1 : d < 0) => False.elim (by omega)) (fun (c1 : ¬ (d < 0)) => ?_)
  refine zx_T.l (i := .iload_n 1) (k := 1) (v := .int (zI (d))) (pc := 4) rfl rfl rfl ?_
  refine zx_T.l (i := .aload_n 0) (k := 1) (v := .ref 28) (pc := 5) rfl rfl rfl ?_
  refine zw_gi (k := 1) (lo := 0) (hi := 6) (e := zv_f h 28 1) (pc := 6) rfl rfl rfl hI rfl (fun g2a g2b => ?_)
  refine zr_i2 (x := d) (y := zv_f h 28 1) (t := 31) (pc := 9) rfl rfl (by omega) (by omega) (by omega) (by omega) (fun (c3 : (zv_f h 28 1) ≤ d) => ?_) (fun (c3 : ¬ ((zv_f h 28 1) ≤ d)) => ?_)
  · refine zx_T.s (i := .iconst (-1)) (k := 1) (st' := [.int (zI ((-1)))]) (pc := 31) rfl rfl ?_
    exact zr_ir (x := (-1)) (pc := 32) rfl rfl rfl ⟨rfl, _, rfl, by dsimp only; exact ⟨by first | exact Or.inr ⟨by omega, rfl⟩ | exact Or.inl ⟨by omega, by congr 1; omega⟩, by omega, by omega⟩⟩
  · refine zx_T.l (i := .aload_n 0) (k := 1) (v := .ref 28) (pc := 12) rfl rfl rfl ?_
    refine zw_gr (k := 0) (b := 29) (pc := 13) rfl rfl rfl hI ?_
    refine zx_T.s (i := .bipush 8) (k := 2) (st' := [.int (zI (8)), .ref 29]) (pc := 16) rfl rfl ?_
    refine zx_T.l (i := .aload_n 0) (k := 1) (v := .ref 28) (pc := 18) rfl rfl rfl ?_
    refine zw_gi (k := 1) (lo := 0) (hi := 6) (e := zv_f h 28 1) (pc := 19) rfl rfl rfl hI rfl (fun g4a g4b => ?_)
    refine zr_add (x := 8) (y := zv_f h 28 1) (e := zv_f h 28 1 + 8) (pc := 22) rfl (by omega) ?_
    refine zx_T.s (i := .iconst 1) (k := 1) (st' := [.int (zI (1)), .int (zI (zv_f h 28 1 + 8)), .ref 29]) (pc := 23) rfl rfl ?_
    refine zr_sub (x := zv_f h 28 1 + 8) (y := 1) (e := zv_f h 28 1 + 7) (pc := 24) rfl (by omega) ?_
    refine zx_T.l (i := .iload_n 1) (k := 1) (v := .int (zI (d))) (pc := 25) rfl rfl rfl ?_
    refine zr_sub (x := zv_f h 28 1 + 7) (y := d) (e := zv_f h 28 1 - d + 7) (pc := 26) rfl (by omega) ?_
    refine zr_al (n := 14) (lo := (-2147483648)) (hi := 2147483647) (e := zv_a h 29 (zv_f h 28 1 - d + 7)) (pc := 27) rfl rfl rfl hI (by omega) (by omega) rfl (fun g5a g5b => ?_)
    refine zx_T.j (i := .goto 4) (k := 3) (pc' := 32) (st' := [.int (zI (zv_a h 29 (zv_f h 28 1 - d + 7)))]) (pc := 28) rfl rfl rfl rfl rfl ?_
    exact zr_ir (x := zv_a h 29 (zv_f h 28 1 - d + 7)) (pc := 32) rfl rfl rfl ⟨rfl, _, rfl, by dsimp only; exact ⟨by first | exact Or.inr ⟨by omega, rfl⟩ | exact Or.inl ⟨by omega, by congr 1; omega⟩, by omega, by omega⟩⟩

set_option maxRecDepth 100000 in
set_option maxHeartbeats 4000000 in
theorem zm_leaveAlone_28 {h : zx_H} (hI : zb_I zc_H h) {k : Int} (k1 : -2147483648 ≤ k) (k2 : k ≤ 2147483647) : zx_T zp_P 0 zp_m121 0 [(0, .ref 28), (1, .int (zI (k)))] [] h (zr_V [(28, 1), (29, 0)] h (fun h' => zv_f h' 28 1 = 1 ∧ ∀ j, 0 ≤ j → zv_a h' 29 j = if j = 8 then k else zv_a h 29 j)) := by
  refine zx_T.l (i := .aload_n 0) (k := 1) (v := .ref 28) (pc := 0) rfl rfl rfl ?_
  refine zw_gr (k := 0) (b := 29) (pc := 1) rfl rfl rfl hI ?_
  refine zx_T.s (i := .bipush 8) (k := 2) (st' := [.int (zI (8)), .ref 29]) (pc := 4) rfl rfl ?_
  refine zx_T.l (i := .iload_n 1) (k := 1) (v := .int (zI (k))) (pc := 6) rfl rfl rfl ?_
  refine zr_as (n := 14) (lo := (-2147483648)) (hi := 2147483647) (e := k) (pc := 7) rfl rfl rfl rfl hI (by omega) (by omega) (by omega) (by omega) (fun h1 ih1 w2 s3 => ?_)
  refine zx_T.l (i := .aload_n 0) (k := 1) (v := .ref 28) (pc := 8) rfl rfl rfl ?_
  refine zx_T.s (i := .iconst 1) (k := 1) (st' := [.int (zI (1)), .ref 28]) (pc := 9) rfl rfl ?_
  refine zw_pi (k := 1) (lo := 0) (hi := 6) (e := 1) (pc := 10) rfl rfl rfl rfl rfl rfl ih1 (by omega) (by omega) (fun h4 ih4 w5 e6 => ?_)
  have y7 : zv_f h4 28 1 = 1 := e6
  have a29 : ∀ j, 0 ≤ j → zv_a h4 29 j = if j = 8 then k else zv_a h 29 j := fun j hj => by rw [zv_wa w5 rfl j, s3 j hj]
  exact zr_vr (pc := 13) rfl rfl ⟨ih4, ((w2.wd rfl : zb_W [(28, 1), (29, 0)] h _).tr (w5.wd rfl)), rfl, by dsimp only; exact ⟨by omega, a29⟩⟩

set_option maxRecDepth 100000 in
set_option maxHeartbeats 4000000 in
theorem zm_drop_28 {h : zx_H} (hI : zb_I zc_H h) {n : Int} (n1 : 0 ≤ n) (n2 : n ≤ 6) : zx_T zp_P 0 zp_m122 0 [(0, .ref 28), (1, .int (zI (n)))] [] h (zr_V [(28, 1)] h (fun h' => (n < zv_f h 28 1 ∧ zv_f h' 28 1 = zv_f h 28 1 - n) ∨ (¬ n < zv_f h 28 1 ∧ zv_f h' 28 1 = 0))) := by
  have hS := zw_ri hI (a := 28) (k := 1) rfl
  refine zx_T.l (i := .aload_n 0) (k := 1) (v := .ref 28) (pc := 0) rfl rfl rfl ?_
  refine zx_T.l (i := .iload_n 1) (k := 1) (v := .int (zI (n))) (pc := 1) rfl rfl rfl ?_
  refine zx_T.l (i := .aload_n 0) (k := 1) (v := .ref 28) (pc := 2) rfl rfl rfl ?_
  refine zw_gi (k := 1) (lo := 0) (hi := 6) (e := zv_f h 28 1) (pc := 3) rfl rfl rfl hI rfl (fun g1a g1b => ?_)
  refine zr_i2 (x := n) (y := zv_f h 28 1) (t := 18) (pc := 6) rfl rfl (by omega) (by omega) (by omega) (by omega) (fun (c2 : (zv_f h 28 1) ≤ n) => ?_) (fun (c2 : ¬ ((zv_f h 28 1) ≤ n)) => ?_)
  · refine zx_T.s (i := .iconst 0) (k := 1) (st' := [.int (zI (0)), .ref 28]) (pc := 18) rfl rfl ?_
    refine zw_pi (k := 1) (lo := 0) (hi := 6) (e := 0) (pc := 19) rfl rfl rfl rfl rfl rfl hI (by omega) (by omega) (fun h3 ih3 w4 e5 => ?_)
    have y6 : zv_f h3 28 1 = 0 := e5
    exact zr_vr (pc := 22) rfl rfl ⟨ih3, (w4.wd rfl : zb_W [(28, 1)] h _), rfl, by dsimp only; omega⟩
  · refine zx_T.l (i := .aload_n 0) (k := 1) (v := .ref 28) (pc := 9) rfl rfl rfl ?_
    refine zw_gi (k := 1) (lo := 0) (hi := 6) (e := zv_f h 28 1) (pc := 10) rfl rfl rfl hI rfl (fun g7a g7b => ?_)
    refine zx_T.l (i := .iload_n 1) (k := 1) (v := .int (zI (n))) (pc := 13) rfl rfl rfl ?_
    refine zr_sub (x := zv_f h 28 1) (y := n) (e := zv_f h 28 1 - n) (pc := 14) rfl (by omega) ?_
    refine zx_T.j (i := .goto 4) (k := 3) (pc' := 19) (st' := [.int (zI (zv_f h 28 1 - n)), .ref 28]) (pc := 15) rfl rfl rfl rfl rfl ?_
    refine zw_pi (k := 1) (lo := 0) (hi := 6) (e := zv_f h 28 1 - n) (pc := 19) rfl rfl rfl rfl rfl rfl hI (by omega) (by omega) (fun h8 ih8 w9 e10 => ?_)
    have y11 : zv_f h8 28 1 = zv_f h 28 1 - n := e10
    exact zr_vr (pc := 22) rfl rfl ⟨ih8, (w9.wd rfl : zb_W [(28, 1)] h _), rfl, by dsimp only; omega⟩

set_option maxRecDepth 100000 in
set_option maxHeartbeats 4000000 in
theorem zm_tRead_11_28_L {h : zx_H} (hI : zb_I zc_H h) {r : Int} (r1 : 0 ≤ r) (r2 : r ≤ 59) (n : Nat) : (∀ {h2 : zx_H} {i : Int} (hI2 : zb_I zc_H h2) (i1 : 0 ≤ i) (i2 : i ≤ 14) (hw : zb_W [(28, 1), (29, 0)] h h2) (hd : 0 ≤ zv_a h 13 r → zv_a h 13 r ≤ 6 → zv_f h2 28 1 = zv_a h 13 r) (hj : ∀ j, 0 ≤ j → j < i → zv_a h2 29 j = zv_a h 12 (14 * r + j)), (14 - i : Int).toNat < n → zx_T zp_P 2 zp_m135 23 [(0, .ref 11), (1, .int (zI (r))), (2, .ref 28), (3, .int (zI (i)))] [] h2 (zr_V [(28, 1), (29, 0)] h (fun h' => (0 ≤ zv_a h 13 r → zv_a h 13 r ≤ 6 → zv_f h' 28 1 = zv_a h 13 r) ∧ ∀ j, 0 ≤ j → j < 14 → zv_a h' 29 j = zv_a h 12 (14 * r + j)))) := by
  induction n with
  | zero => exact fun _ _ _ _ _ _ hm => absurd hm (Nat.not_lt_zero _)
  | succ n ih =>
    intro h2 i hI2 i1 i2 hw hd hj hm
    refine zx_T.l (i := .iload_n 3) (k := 1) (v := .int (zI (i))) (pc := 23) rfl rfl rfl ?_
    refine zx_T.s (i := .bipush 14) (k := 2) (st' := [.int (zI (14)), .int (zI (i))]) (pc := 24) rfl rfl ?_
    refine zr_i2 (x := i) (y := 14) (t := 51) (pc := 26) rfl rfl (by omega) (by omega) (by omega) (by omega) (fun (c1 : 14 ≤ i) => ?_) (fun (c1 : ¬ (14 ≤ i)) => ?_)
    · exact zr_vr (pc := 51) rfl rfl ⟨hI2, (hw.wd rfl : zb_W [(28, 1), (29, 0)] h _), rfl, by dsimp only; exact ⟨hd, fun j j0 j1 => hj j j0 (by omega)⟩⟩
    · refine zx_T.l (i := .aload_n 2) (k := 1) (v := .ref 28) (pc := 29) rfl rfl rfl ?_
      refine zx_T.l (i := .iload_n 3) (k := 1) (v := .int (zI (i))) (pc := 30) rfl rfl rfl ?_
      refine zx_T.l (i := .aload_n 0) (k := 1) (v := .ref 11) (pc := 31) rfl rfl rfl ?_
      refine zw_gr (k := 0) (b := 12) (pc := 32) rfl rfl rfl hI2 ?_
      refine zx_T.l (i := .iload_n 1) (k := 1) (v := .int (zI (r))) (pc := 35) rfl rfl rfl ?_
      refine zx_T.s (i := .bipush 14) (k := 2) (st' := [.int (zI (14)), .int (zI (r)), .ref 12, .int (zI (i)), .ref 28]) (pc := 36) rfl rfl ?_
      refine zr_mul (x := r) (y := 14) (e := 14 * r) (pc := 38) rfl (by omega) ?_
      refine zx_T.l (i := .iload_n 3) (k := 1) (v := .int (zI (i))) (pc := 39) rfl rfl rfl ?_
      refine zr_add (x := 14 * r) (y := i) (e := 14 * r + i) (pc := 40) rfl (by omega) ?_
      refine zr_al (n := 840) (lo := (-2147483648)) (hi := 2147483647) (e := zv_a h 12 (14 * r + i)) (pc := 41) rfl rfl rfl hI2 (by omega) (by omega) (zv_wa hw rfl (14 * r + i)) (fun g2a g2b => ?_)
      refine zw_iv (b := 28) (cj := 119) (q' := zp_m119) (As := [.int (zI (i)), .int (zI (zv_a h 12 (14 * r + i)))]) (rest := []) (pc := 42) rfl rfl rfl rfl rfl rfl rfl (Nat.le_of_ble_eq_true rfl) rfl (Nat.le_of_ble_eq_true rfl) hI2 ((zm_setKind_28 (h := h2) hI2 (i := i) (k := zv_a h 12 (14 * r + i)) (by omega) (by omega) (by omega) (by omega)).up (Nat.le_of_ble_eq_true rfl)) ?_
      rintro r3 h6 ⟨ih6, w7, r3q, x5⟩
      subst r3q
      try dsimp only at x5
      have sk1 := x5
      show zx_T zp_P 2 zp_m135 45 [(0, .ref 11), (1, .int (zI (r))), (2, .ref 28), (3, .int (zI (i)))] [] h6 _
      refine zr_inc (x := i) (n := 1) (y := i + 1) (ls' := [(3, .int (zI (i + 1))), (0, .ref 11), (1, .int (zI (r))), (2, .ref 28)]) (pc := 45) rfl rfl rfl (by omega) rfl ?_
      refine zx_T.j (i := .goto (-25)) (k := 3) (pc' := 23) (st' := []) (pc := 48) rfl rfl rfl rfl rfl ?_
      have y8 : zv_f h6 28 1 = zv_f h2 28 1 := (zv_wf w7 rfl)
      refine zx_T.lk (ls' := [(0, .ref 11), (1, .int (zI (r))), (2, .ref 28), (3, .int (zI (i + 1)))]) rfl ⟨rfl, rfl, rfl, rfl, trivial⟩ ?_
      exact ih (h2 := h6) (i := i + 1) ih6 (by omega) (by omega) ((hw.wd rfl : zb_W [(28, 1), (29, 0)] h _).tr (w7.wd rfl)) (fun z1 z2 => by omega) (fun j j0 j1 => by rw [sk1 j j0]; by_cases z : j = i; rw [if_pos z, z]; rw [if_neg z]; exact hj j j0 (by omega)) (by omega)
set_option maxRecDepth 100000 in
set_option maxHeartbeats 4000000 in
theorem zm_tRead_11_28 {h : zx_H} (hI : zb_I zc_H h) {r : Int} (r1 : 0 ≤ r) (r2 : r ≤ 59) : zx_T zp_P 2 zp_m135 0 [(0, .ref 11), (1, .int (zI (r))), (2, .ref 28)] [] h (zr_V [(28, 1), (29, 0)] h (fun h' => (0 ≤ zv_a h 13 r → zv_a h 13 r ≤ 6 → zv_f h' 28 1 = zv_a h 13 r) ∧ ∀ j, 0 ≤ j → j < 14 → zv_a h' 29 j = zv_a h 12 (14 * r + j))) := by
  refine zx_T.l (i := .iload_n 1) (k := 1) (v := .int (zI (r))) (pc := 0) rfl rfl rfl ?_
  refine zr_i1 (x := r) (t := 10) (pc := 1) rfl rfl (by omega) (by omega) (fun (c9 : r < 0) => False.elim (by omega)) (fun (c9 : ¬ (r < 0)) => ?_)
  refine zx_T.l (i := .iload_n 1) (k := 1) (v := .int (zI (r))) (pc := 4) rfl rfl rfl ?_
  refine zx_T.s (i := .bipush 60) (k := 2) (st' := [.int (zI (60)), .int (zI (r))]) (pc := 5) rfl rfl ?_
  refine zr_i2 (x := r) (y := 60) (t := 11) (pc := 7) rfl rfl (by omega) (by omega) (by omega) (by omega) (fun (c10 : r < 60) => ?_) (fun (c10 : ¬ (r < 60)) => False.elim (by omega))
  refine zx_T.l (i := .aload_n 2) (k := 1) (v := .ref 28) (pc := 11) rfl rfl rfl ?_
  refine zx_T.l (i := .aload_n 0) (k := 1) (v := .ref 11) (pc := 12) rfl rfl rfl ?_
  refine zw_gr (k := 1) (b := 13) (pc := 13) rfl rfl rfl hI ?_
  refine zx_T.l (i := .iload_n 1) (k := 1) (v := .int (zI (r))) (pc := 16) rfl rfl rfl ?_
  refine zr_al (n := 60) (lo := (-2147483648)) (hi := 2147483647) (e := zv_a h 13 r) (pc := 17) rfl rfl rfl hI (by omega) (by omega) rfl (fun g11a g11b => ?_)
  refine zw_iv (b := 28) (cj := 117) (q' := zp_m117) (As := [.int (zI (zv_a h 13 r))]) (rest := []) (pc := 18) rfl rfl rfl rfl rfl rfl rfl (Nat.le_of_ble_eq_true rfl) rfl (Nat.le_of_ble_eq_true rfl) hI ((zm_setDepth_28 (h := h) hI (n := zv_a h 13 r) (by omega) (by omega)).up (Nat.le_of_ble_eq_true rfl)) ?_
  rintro r12 h15 ⟨ih15, w16, r12q, x14⟩
  subst r12q
  try dsimp only at x14
  show zx_T zp_P 2 zp_m135 21 [(0, .ref 11), (1, .int (zI (r))), (2, .ref 28)] [] h15 _
  refine zx_T.s (i := .iconst 0) (k := 1) (st' := [.int (zI (0))]) (pc := 21) rfl rfl ?_
  refine zx_T.t (i := .istore_n 3) (k := 1) (ls' := [(3, .int (zI (0))), (0, .ref 11), (1, .int (zI (r))), (2, .ref 28)]) (st' := []) (pc := 22) rfl rfl rfl rfl ?_
  refine zx_T.lk (ls' := [(0, .ref 11), (1, .int (zI (r))), (2, .ref 28), (3, .int (zI (0)))]) rfl ⟨rfl, rfl, rfl, rfl, trivial⟩ ?_
  exact zm_tRead_11_28_L (h := h) hI (r := r) r1 r2 ((14 - 0 : Int).toNat + 1) (h2 := h15) (i := 0) ih15 (by omega) (by omega) (w16.wd rfl : zb_W [(28, 1), (29, 0)] h _) (fun z1 z2 => by omega) (fun j j0 j1 => absurd j1 (by omega)) (Nat.lt_succ_self _)

set_option maxRecDepth 100000 in
set_option maxHeartbeats 4000000 in
theorem zm_fRead_28 {h : zx_H} (hI : zb_I zc_H h) {f : Int} (f1 : 0 ≤ f) (f2 : f ≤ 59) : zx_T zp_P 3 zp_m36 0 [(0, .ref 10), (1, .int (zI (f))), (2, .ref 28)] [] h (zr_V [(28, 1), (29, 0)] h (fun h' => (0 ≤ zv_a h 13 f → zv_a h 13 f ≤ 6 → zv_f h' 28 1 = zv_a h 13 f) ∧ ∀ j, 0 ≤ j → j < 14 → zv_a h' 29 j = zv_a h 12 (14 * f + j))) := by
  refine zx_T.l (i := .aload_n 0) (k := 1) (v := .ref 10) (pc := 0) rfl rfl rfl ?_
  refine zw_gr (k := 0) (b := 11) (pc := 1) rfl rfl rfl hI ?_
  refine zx_T.l (i := .iload_n 1) (k := 1) (v := .int (zI (f))) (pc := 4) rfl rfl rfl ?_
  refine zx_T.l (i := .aload_n 2) (k := 1) (v := .ref 28) (pc := 5) rfl rfl rfl ?_
  refine zw_iv (b := 11) (cj := 135) (q' := zp_m135) (As := [.int (zI (f)), .ref 28]) (rest := []) (pc := 6) rfl rfl rfl rfl rfl rfl rfl (Nat.le_of_ble_eq_true rfl) rfl (Nat.le_of_ble_eq_true rfl) hI ((zm_tRead_11_28 (h := h) hI (r := f) (by omega) (by omega)).up (Nat.le_of_ble_eq_true rfl)) ?_
  rintro r1 h4 ⟨ih4, w5, r1q, x3⟩
  subst r1q
  try dsimp only at x3
  have tr1 := x3
  have rr := x3
  show zx_T zp_P 3 zp_m36 9 [(0, .ref 10), (1, .int (zI (f))), (2, .ref 28)] [] h4 _
  exact zr_vr (pc := 9) rfl rfl ⟨ih4, (w5.wd rfl : zb_W [(28, 1), (29, 0)] h _), rfl, by dsimp only; exact tr1⟩

set_option maxRecDepth 100000 in
set_option maxHeartbeats 4000000 in
theorem zm_pWrite {h : zx_H} (hI : zb_I zc_H h) {b : Int} (b1 : -2147483648 ≤ b) (b2 : b ≤ 2147483647) (pk : zv_f h 27 4 ≤ 2939) (L : List Int) (bl : zs_bl (zv_f h 27 4) (zv_a h 30) L) : zx_T zp_P 0 zp_m108 0 [(0, .ref 27), (1, .int (zI (b)))] [] h (zr_V [(30, 0), (27, 4)] h (fun h' => zs_bl (zv_f h' 27 4) (zv_a h' 30) (L ++ [b]) ∧ zv_f h' 27 4 = zv_f h 27 4 + 1)) := by
  have hP := zw_ri hI (a := 27) (k := 4) rfl
  refine zx_T.l (i := .aload_n 0) (k := 1) (v := .ref 27) (pc := 0) rfl rfl rfl ?_
  refine zw_gi (k := 4) (lo := 0) (hi := 2940) (e := zv_f h 27 4) (pc := 1) rfl rfl rfl hI rfl (fun g1a g1b => ?_)
  refine zx_T.s (i := .sipush 2940) (k := 3) (st' := [.int (zI (2940)), .int (zI (zv_f h 27 4))]) (pc := 4) rfl rfl ?_
  refine zr_i2 (x := zv_f h 27 4) (y := 2940) (t := 27) (pc := 7) rfl rfl (by omega) (by omega) (by omega) (by omega) (fun (c2 : 2940 ≤ (zv_f h 27 4)) => ?_) (fun (c2 : ¬ (2940 ≤ (zv_f h 27 4))) => ?_)
  · have a30 : ∀ j, 0 ≤ j → zv_a h 30 j = zv_a h 30 j := fun j hj => rfl
    exact zr_vr (pc := 27) rfl rfl ⟨hI, zb_W.rf, rfl, by dsimp only; exact False.elim (by omega)⟩
  · refine zx_T.l (i := .aload_n 0) (k := 1) (v := .ref 27) (pc := 10) rfl rfl rfl ?_
    refine zw_gr (k := 3) (b := 30) (pc := 11) rfl rfl rfl hI ?_
    refine zx_T.l (i := .aload_n 0) (k := 1) (v := .ref 27) (pc := 14) rfl rfl rfl ?_
    refine zx_T.s (i := .dup) (k := 1) (st' := [.ref 27, .ref 27, .ref 30]) (pc := 15) rfl rfl ?_
    refine zw_gi (k := 4) (lo := 0) (hi := 2940) (e := zv_f h 27 4) (pc := 16) rfl rfl rfl hI rfl (fun g5a g5b => ?_)
    refine zx_T.s (i := .dup_x1) (k := 1) (st' := [.int (zI (zv_f h 27 4)), .ref 27, .int (zI (zv_f h 27 4)), .ref 30]) (pc := 19) rfl rfl ?_
    refine zx_T.s (i := .iconst 1) (k := 1) (st' := [.int (zI (1)), .int (zI (zv_f h 27 4)), .ref 27, .int (zI (zv_f h 27 4)), .ref 30]) (pc := 20) rfl rfl ?_
    refine zr_add (x := zv_f h 27 4) (y := 1) (e := zv_f h 27 4 + 1) (pc := 21) rfl (by omega) ?_
    refine zw_pi (k := 4) (lo := 0) (hi := 2940) (e := zv_f h 27 4 + 1) (pc := 22) rfl rfl rfl rfl rfl rfl hI (by omega) (by omega) (fun h6 ih6 w7 e8 => ?_)
    refine zx_T.l (i := .iload_n 1) (k := 1) (v := .int (zI (b))) (pc := 25) rfl rfl rfl ?_
    refine zr_as (n := 2940) (lo := (-2147483648)) (hi := 2147483647) (e := b) (pc := 26) rfl rfl rfl rfl ih6 (by omega) (by omega) (by omega) (by omega) (fun h9 ih9 w10 s11 => ?_)
    have y12 : zv_f h9 27 4 = zv_f h 27 4 + 1 := ((zv_wf w10 rfl).trans e8)
    have a30 : ∀ j, 0 ≤ j → zv_a h9 30 j = if j = zv_f h 27 4 then b else zv_a h 30 j := fun j hj => by rw [s11 j hj, zv_wa w7 rfl j]
    exact zr_vr (pc := 27) rfl rfl ⟨ih9, ((w7.wd rfl : zb_W [(30, 0), (27, 4)] h _).tr (w10.wd rfl)), rfl, by dsimp only; refine ⟨?_, by omega⟩; rw [show zv_f h9 27 4 = zv_f h 27 4 + 1 by omega]; exact zs_bl_ap bl (fun j j0 => by rw [a30 j j0])⟩

set_option maxRecDepth 100000 in
set_option maxHeartbeats 4000000 in
theorem zm_pWriteEntry {h : zx_H} (hI : zb_I zc_H h) {k : Int} (k1 : -2147483648 ≤ k) (k2 : k ≤ 2147483647) (pk : zv_f h 27 4 ≤ 2937) (L : List Int) (bl : zs_bl (zv_f h 27 4) (zv_a h 30) L) : zx_T zp_P 1 zp_m107 0 [(0, .ref 27), (1, .int (zI (k)))] [] h (zr_V [(30, 0), (27, 4)] h (fun h' => zs_bl (zv_f h' 27 4) (zv_a h' 30) (L ++ zs_eb k) ∧ zv_f h 27 4 ≤ zv_f h' 27 4 ∧ zv_f h' 27 4 ≤ zv_f h 27 4 + 3)) := by
  have hP := zw_ri hI (a := 27) (k := 4) rfl
  refine zx_T.l (i := .iload_n 1) (k := 1) (v := .int (zI (k))) (pc := 0) rfl rfl rfl ?_
  have c1 : k = 0 ∨ k = 1 ∨ k = 2 ∨ k = 3 ∨ k = 4 ∨ (k < 0 ∨ 4 < k) := by omega
  rcases c1 with c1 | c1 | c1 | c1 | c1 | c1
  · refine zr_sw (i := .tableswitch 67 0 4 #[35, 43, 51, 67, 59]) (len := 35) (t := 36) (x := k) (k := 0) (pc := 1) rfl c1 rfl rfl rfl rfl ?_
    refine zx_T.l (i := .aload_n 0) (k := 1) (v := .ref 27) (pc := 36) rfl rfl rfl ?_
    refine zx_T.s (i := .iconst 0) (k := 1) (st' := [.int (zI (0)), .ref 27]) (pc := 37) rfl rfl ?_
    refine zw_iv (b := 27) (cj := 108) (q' := zp_m108) (As := [.int (zI (0))]) (rest := []) (pc := 38) rfl rfl rfl rfl rfl rfl rfl (Nat.le_of_ble_eq_true rfl) rfl (Nat.le_of_ble_eq_true rfl) hI ((zm_pWrite (h := h) hI (b := 0) (by omega) (by omega) (by omega) L bl).up (Nat.le_of_ble_eq_true rfl)) ?_
    rintro r3 h6 ⟨ih6, w7, r3q, x5⟩
    subst r3q
    try dsimp only at x5
    have pB1 := x5.1
    have pN1 := x5.2
    skip
    show zx_T zp_P 1 zp_m107 41 [(0, .ref 27), (1, .int (zI (k)))] [] h6 _
    refine zx_T.j (i := .goto 43) (k := 3) (pc' := 84) (st' := []) (pc := 41) rfl rfl rfl rfl rfl ?_
    exact zr_vr (pc := 84) rfl rfl ⟨ih6, (w7.wd rfl : zb_W [(30, 0), (27, 4)] h _), rfl, by dsimp only; exact ⟨by have q9 := pB1; rw [show zs_eb k = [0] from (by unfold zs_eb; (repeat' split) <;> first | omega | rfl)]; exact q9, by omega, by omega⟩⟩
  · refine zr_sw (i := .tableswitch 67 0 4 #[35, 43, 51, 67, 59]) (len := 35) (t := 44) (x := k) (k := 1) (pc := 1) rfl c1 rfl rfl rfl rfl ?_
    refine zx_T.l (i := .aload_n 0) (k := 1) (v := .ref 27) (pc := 44) rfl rfl rfl ?_
    refine zx_T.s (i := .iconst 1) (k := 1) (st' := [.int (zI (1)), .ref 27]) (pc := 45) rfl rfl ?_
    refine zw_iv (b := 27) (cj := 108) (q' := zp_m108) (As := [.int (zI (1))]) (rest := []) (pc := 46) rfl rfl rfl rfl rfl rfl rfl (Nat.le_of_ble_eq_true rfl) rfl (Nat.le_of_ble_eq_true rfl) hI ((zm_pWrite (h := h) hI (b := 1) (by omega) (by omega) (by omega) L bl).up (Nat.le_of_ble_eq_true rfl)) ?_
    rintro r9 h12 ⟨ih12, w13, r9q, x11⟩
    subst r9q
    try dsimp only at x11
    have pB1 := x11.1
    have pN1 := x11.2
    skip
    show zx_T zp_P 1 zp_m107 49 [(0, .ref 27), (1, .int (zI (k)))] [] h12 _
    refine zx_T.j (i := .goto 35) (k := 3) (pc' := 84) (st' := []) (pc := 49) rfl rfl rfl rfl rfl ?_
    exact zr_vr (pc := 84) rfl rfl ⟨ih12, (w13.wd rfl : zb_W [(30, 0), (27, 4)] h _), rfl, by dsimp only; exact ⟨by have q9 := pB1; rw [show zs_eb k = [1] from (by unfold zs_eb; (repeat' split) <;> first | omega | rfl)]; exact q9, by omega, by omega⟩⟩
  · refine zr_sw (i := .tableswitch 67 0 4 #[35, 43, 51, 67, 59]) (len := 35) (t := 52) (x := k) (k := 2) (pc := 1) rfl c1 rfl rfl rfl rfl ?_
    refine zx_T.l (i := .aload_n 0) (k := 1) (v := .ref 27) (pc := 52) rfl rfl rfl ?_
    refine zx_T.s (i := .iconst 4) (k := 1) (st' := [.int (zI (4)), .ref 27]) (pc := 53) rfl rfl ?_
    refine zw_iv (b := 27) (cj := 108) (q' := zp_m108) (As := [.int (zI (4))]) (rest := []) (pc := 54) rfl rfl rfl rfl rfl rfl rfl (Nat.le_of_ble_eq_true rfl) rfl (Nat.le_of_ble_eq_true rfl) hI ((zm_pWrite (h := h) hI (b := 4) (by omega) (by omega) (by omega) L bl).up (Nat.le_of_ble_eq_true rfl)) ?_
    rintro r15 h18 ⟨ih18, w19, r15q, x17⟩
    subst r15q
    try dsimp only at x17
    have pB1 := x17.1
    have pN1 := x17.2
    skip
    show zx_T zp_P 1 zp_m107 57 [(0, .ref 27), (1, .int (zI (k)))] [] h18 _
    refine zx_T.j (i := .goto 27) (k := 3) (pc' := 84) (st' := []) (pc := 57) rfl rfl rfl rfl rfl ?_
    exact zr_vr (pc := 84) rfl rfl ⟨ih18, (w19.wd rfl : zb_W [(30, 0), (27, 4)] h _), rfl, by dsimp only; exact ⟨by have q9 := pB1; rw [show zs_eb k = [4] from (by unfold zs_eb; (repeat' split) <;> first | omega | rfl)]; exact q9, by omega, by omega⟩⟩
  · refine zr_sw (i := .tableswitch 67 0 4 #[35, 43, 51, 67, 59]) (len := 35) (t := 68) (x := k) (k := 3) (pc := 1) rfl c1 rfl rfl rfl rfl ?_
    refine zx_T.l (i := .aload_n 0) (k := 1) (v := .ref 27) (pc := 68) rfl rfl rfl ?_
    refine zx_T.s (i := .bipush 7) (k := 2) (st' := [.int (zI (7)), .ref 27]) (pc := 69) rfl rfl ?_
    refine zw_iv (b := 27) (cj := 108) (q' := zp_m108) (As := [.int (zI (7))]) (rest := []) (pc := 71) rfl rfl rfl rfl rfl rfl rfl (Nat.le_of_ble_eq_true rfl) rfl (Nat.le_of_ble_eq_true rfl) hI ((zm_pWrite (h := h) hI (b := 7) (by omega) (by omega) (by omega) L bl).up (Nat.le_of_ble_eq_true rfl)) ?_
    rintro r21 h24 ⟨ih24, w25, r21q, x23⟩
    subst r21q
    try dsimp only at x23
    have pB1 := x23.1
    have pN1 := x23.2
    skip
    show zx_T zp_P 1 zp_m107 74 [(0, .ref 27), (1, .int (zI (k)))] [] h24 _
    refine zx_T.l (i := .aload_n 0) (k := 1) (v := .ref 27) (pc := 74) rfl rfl rfl ?_
    refine zx_T.s (i := .iconst 0) (k := 1) (st' := [.int (zI (0)), .ref 27]) (pc := 75) rfl rfl ?_
    refine zw_iv (b := 27) (cj := 108) (q' := zp_m108) (As := [.int (zI (0))]) (rest := []) (pc := 76) rfl rfl rfl rfl rfl rfl rfl (Nat.le_of_ble_eq_true rfl) rfl (Nat.le_of_ble_eq_true rfl) ih24 ((zm_pWrite (h := h24) ih24 (b := 0) (by omega) (by omega) (by omega) _ pB1).up (Nat.le_of_ble_eq_true rfl)) ?_
    rintro r27 h30 ⟨ih30, w31, r27q, x29⟩
    subst r27q
    try dsimp only at x29
    have pB2 := x29.1
    have pN2 := x29.2
    show zx_T zp_P 1 zp_m107 79 [(0, .ref 27), (1, .int (zI (k)))] [] h30 _
    refine zx_T.l (i := .aload_n 0) (k := 1) (v := .ref 27) (pc := 79) rfl rfl rfl ?_
    refine zx_T.l (i := .iload_n 1) (k := 1) (v := .int (zI (k))) (pc := 80) rfl rfl rfl ?_
    refine zw_iv (b := 27) (cj := 108) (q' := zp_m108) (As := [.int (zI (k))]) (rest := []) (pc := 81) rfl rfl rfl rfl rfl rfl rfl (Nat.le_of_ble_eq_true rfl) rfl (Nat.le_of_ble_eq_true rfl) ih30 ((zm_pWrite (h := h30) ih30 (b := k) (by omega) (by omega) (by omega) _ pB2).up (Nat.le_of_ble_eq_true rfl)) ?_
    rintro r33 h36 ⟨ih36, w37, r33q, x35⟩
    subst r33q
    try dsimp only at x35
    have pB3 := x35.1
    have pN3 := x35.2
    show zx_T zp_P 1 zp_m107 84 [(0, .ref 27), (1, .int (zI (k)))] [] h36 _
    exact zr_vr (pc := 84) rfl rfl ⟨ih36, (((w25.wd rfl : zb_W [(30, 0), (27, 4)] h _).tr (w31.wd rfl)).tr (w37.wd rfl)), rfl, by dsimp only; exact ⟨by have q9 := pB3; rw [show zs_eb k = [7, 0, k] from (by unfold zs_eb; (repeat' split) <;> first | omega | rfl)]; rw [List.append_assoc, List.append_assoc] at q9; exact q9, by omega, by omega⟩⟩
  · refine zr_sw (i := .tableswitch 67 0 4 #[35, 43, 51, 67, 59]) (len := 35) (t := 60) (x := k) (k := 4) (pc := 1) rfl c1 rfl rfl rfl rfl ?_
    refine zx_T.l (i := .aload_n 0) (k := 1) (v := .ref 27) (pc := 60) rfl rfl rfl ?_
    refine zx_T.s (i := .iconst 5) (k := 1) (st' := [.int (zI (5)), .ref 27]) (pc := 61) rfl rfl ?_
    refine zw_iv (b := 27) (cj := 108) (q' := zp_m108) (As := [.int (zI (5))]) (rest := []) (pc := 62) rfl rfl rfl rfl rfl rfl rfl (Nat.le_of_ble_eq_true rfl) rfl (Nat.le_of_ble_eq_true rfl) hI ((zm_pWrite (h := h) hI (b := 5) (by omega) (by omega) (by omega) L bl).up (Nat.le_of_ble_eq_true rfl)) ?_
    rintro r39 h42 ⟨ih42, w43, r39q, x41⟩
    subst r39q
    try dsimp only at x41
    have pB1 := x41.1
    have pN1 := x41.2
    skip
    show zx_T zp_P 1 zp_m107 65 [(0, .ref 27), (1, .int (zI (k)))] [] h42 _
    refine zx_T.j (i := .goto 19) (k := 3) (pc' := 84) (st' := []) (pc := 65) rfl rfl rfl rfl rfl ?_
    exact zr_vr (pc := 84) rfl rfl ⟨ih42, (w43.wd rfl : zb_W [(30, 0), (27, 4)] h _), rfl, by dsimp only; exact ⟨by have q9 := pB1; rw [show zs_eb k = [5] from (by unfold zs_eb; (repeat' split) <;> first | omega | rfl)]; exact q9, by omega, by omega⟩⟩
  · refine zw_swd (t := 68) (x := k) (pc := 1) rfl c1 (by omega) (by omega) rfl ?_
    refine zx_T.l (i := .aload_n 0) (k := 1) (v := .ref 27) (pc := 68) rfl rfl rfl ?_
    refine zx_T.s (i := .bipush 7) (k := 2) (st' := [.int (zI (7)), .ref 27]) (pc := 69) rfl rfl ?_
    refine zw_iv (b := 27) (cj := 108) (q' := zp_m108) (As := [.int (zI (7))]) (rest := []) (pc := 71) rfl rfl rfl rfl rfl rfl rfl (Nat.le_of_ble_eq_true rfl) rfl (Nat.le_of_ble_eq_true rfl) hI ((zm_pWrite (h := h) hI (b := 7) (by omega) (by omega) (by omega) L bl).up (Nat.le_of_ble_eq_true rfl)) ?_
    rintro r45 h48 ⟨ih48, w49, r45q, x47⟩
    subst r45q
    try dsimp only at x47
    have pB1 := x47.1
    have pN1 := x47.2
    skip
    show zx_T zp_P 1 zp_m107 74 [(0, .ref 27), (1, .int (zI (k)))] [] h48 _
    refine zx_T.l (i := .aload_n 0) (k := 1) (v := .ref 27) (pc := 74) rfl rfl rfl ?_
    refine zx_T.s (i := .iconst 0) (k := 1) (st' := [.int (zI (0)), .ref 27]) (pc := 75) rfl rfl ?_
    refine zw_iv (b := 27) (cj := 108) (q' := zp_m108) (As := [.int (zI (0))]) (rest := []) (pc := 76) rfl rfl rfl rfl rfl rfl rfl (Nat.le_of_ble_eq_true rfl) rfl (Nat.le_of_ble_eq_true rfl) ih48 ((zm_pWrite (h := h48) ih48 (b := 0) (by omega) (by omega) (by omega) _ pB1).up (Nat.le_of_ble_eq_true rfl)) ?_
    rintro r51 h54 ⟨ih54, w55, r51q, x53⟩
    subst r51q
    try dsimp only at x53
    have pB2 := x53.1
    have pN2 := x53.2
    show zx_T zp_P 1 zp_m107 79 [(0, .ref 27), (1, .int (zI (k)))] [] h54 _
    refine zx_T.l (i := .aload_n 0) (k := 1) (v := .ref 27) (pc := 79) rfl rfl rfl ?_
    refine zx_T.l (i := .iload_n 1) (k := 1) (v := .int (zI (k))) (pc := 80) rfl rfl rfl ?_
    refine zw_iv (b := 27) (cj := 108) (q' := zp_m108) (As := [.int (zI (k))]) (rest := []) (pc := 81) rfl rfl rfl rfl rfl rfl rfl (Nat.le_of_ble_eq_true rfl) rfl (Nat.le_of_ble_eq_true rfl) ih54 ((zm_pWrite (h := h54) ih54 (b := k) (by omega) (by omega) (by omega) _ pB2).up (Nat.le_of_ble_eq_true rfl)) ?_
    rintro r57 h60 ⟨ih60, w61, r57q, x59⟩
    subst r57q
    try dsimp only at x59
    have pB3 := x59.1
    have pN3 := x59.2
    show zx_T zp_P 1 zp_m107 84 [(0, .ref 27), (1, .int (zI (k)))] [] h60 _
    exact zr_vr (pc := 84) rfl rfl ⟨ih60, (((w49.wd rfl : zb_W [(30, 0), (27, 4)] h _).tr (w55.wd rfl)).tr (w61.wd rfl)), rfl, by dsimp only; exact ⟨by have q9 := pB3; rw [show zs_eb k = [7, 0, k] from (by unfold zs_eb; (repeat' split) <;> first | omega | rfl)]; rw [List.append_assoc, List.append_assoc] at q9; exact q9, by omega, by omega⟩⟩

set_option maxRecDepth 100000 in
set_option maxHeartbeats 4000000 in
theorem zm_pWriteEntries_32_L {h : zx_H} (hI : zb_I zc_H h) {a : Int} {u : Int} (a1 : 0 ≤ a) (a2 : a ≤ 8) (u1 : 0 ≤ u) (u2 : u ≤ 8) (pk : zv_f h 27 4 ≤ 2940 - 3 * u) (pk2 : zv_f h 27 4 ≤ 2940) (L : List Int) (bl : zs_bl (zv_f h 27 4) (zv_a h 30) L) (M : List Int) (mb : zs_bl u (zv_a h 32) M) (n : Nat) : (∀ {h2 : zx_H} {k : Int} (hI2 : zb_I zc_H h2) (k1 : a ≤ k) (k2 : k ≤ u ∨ k = a) (hw : zb_W [(30, 0), (27, 4)] h h2) (pb : zv_f h2 27 4 ≤ zv_f h 27 4 + 3 * (k - a)) (L2 : List Int) (bl2 : zs_bl (zv_f h2 27 4) (zv_a h2 30) (L2)) (hq : L2 ++ zs_ebs (M.drop k.toNat) = L ++ zs_ebs (M.drop a.toNat)), (20 - k : Int).toNat < n → zx_T zp_P 2 zp_m106 3 [(0, .ref 27), (1, .ref 32), (2, .int (zI (a))), (3, .int (zI (u))), (4, .int (zI (k)))] [] h2 (zr_V [(30, 0), (27, 4)] h (fun h' => zs_bl (zv_f h' 27 4) (zv_a h' 30) (L ++ zs_ebs (M.drop a.toNat)) ∧ zv_f h' 27 4 ≤ zv_f h 27 4 + 3 * u))) := by
  induction n with
  | zero => exact fun _ _ _ _ _ _ _ _ hm => absurd hm (Nat.not_lt_zero _)
  | succ n ih =>
    intro h2 k hI2 k1 k2 hw pb L2 bl2 hq hm
    have hP := zw_ri hI (a := 27) (k := 4) rfl
    have mn := mb.1
    refine zx_T.l (i := .iload 4) (k := 2) (v := .int (zI (k))) (pc := 3) rfl rfl rfl ?_
    refine zr_i1 (x := k) (t := 35) (pc := 5) rfl rfl (by omega) (by omega) (fun (c1 : k < 0) => ?_) (fun (c1 : ¬ (k < 0)) => ?_)
    · exact zr_vr (pc := 35) rfl rfl ⟨hI2, (hw.wd rfl : zb_W [(30, 0), (27, 4)] h _), rfl, by dsimp only; have z9 : M.drop k.toNat = [] := List.drop_eq_nil_of_le (by omega); rw [z9] at hq; rw [← hq]; exact ⟨by show zs_bl _ _ (L2 ++ []); rw [List.append_nil]; exact bl2, by omega⟩⟩
    · refine zx_T.l (i := .iload 4) (k := 2) (v := .int (zI (k))) (pc := 8) rfl rfl rfl ?_
      refine zx_T.l (i := .iload_n 3) (k := 1) (v := .int (zI (u))) (pc := 10) rfl rfl rfl ?_
      refine zr_i2 (x := k) (y := u) (t := 35) (pc := 11) rfl rfl (by omega) (by omega) (by omega) (by omega) (fun (c2 : u ≤ k) => ?_) (fun (c2 : ¬ (u ≤ k)) => ?_)
      · exact zr_vr (pc := 35) rfl rfl ⟨hI2, (hw.wd rfl : zb_W [(30, 0), (27, 4)] h _), rfl, by dsimp only; have z9 : M.drop k.toNat = [] := List.drop_eq_nil_of_le (by omega); rw [z9] at hq; rw [← hq]; exact ⟨by show zs_bl _ _ (L2 ++ []); rw [List.append_nil]; exact bl2, by omega⟩⟩
      · refine zx_T.l (i := .iload 4) (k := 2) (v := .int (zI (k))) (pc := 14) rfl rfl rfl ?_
        refine zx_T.l (i := .aload_n 1) (k := 1) (v := .ref 32) (pc := 16) rfl rfl rfl ?_
        refine zw_len (e := 8) (pc := 17) rfl rfl rfl rfl hI2 ?_
        refine zr_i2 (x := k) (y := 8) (t := 35) (pc := 18) rfl rfl (by omega) (by omega) (by omega) (by omega) (fun (c3 : 8 ≤ k) => ?_) (fun (c3 : ¬ (8 ≤ k)) => ?_)
        · exact zr_vr (pc := 35) rfl rfl ⟨hI2, (hw.wd rfl : zb_W [(30, 0), (27, 4)] h _), rfl, by dsimp only; have z9 : M.drop k.toNat = [] := List.drop_eq_nil_of_le (by omega); rw [z9] at hq; rw [← hq]; exact ⟨by show zs_bl _ _ (L2 ++ []); rw [List.append_nil]; exact bl2, by omega⟩⟩
        · refine zx_T.l (i := .aload_n 0) (k := 1) (v := .ref 27) (pc := 21) rfl rfl rfl ?_
          refine zx_T.l (i := .aload_n 1) (k := 1) (v := .ref 32) (pc := 22) rfl rfl rfl ?_
          refine zx_T.l (i := .iload 4) (k := 2) (v := .int (zI (k))) (pc := 23) rfl rfl rfl ?_
          refine zr_al (n := 8) (lo := (-2147483648)) (hi := 2147483647) (e := zv_a h 32 k) (pc := 25) rfl rfl rfl hI2 (by omega) (by omega) (zv_wa hw rfl k) (fun g4a g4b => ?_)
          refine zw_iv (b := 27) (cj := 107) (q' := zp_m107) (As := [.int (zI (zv_a h 32 k))]) (rest := []) (pc := 26) rfl rfl rfl rfl rfl rfl rfl (Nat.le_of_ble_eq_true rfl) rfl (Nat.le_of_ble_eq_true rfl) hI2 ((zm_pWriteEntry (h := h2) hI2 (k := zv_a h 32 k) (by omega) (by omega) (by omega) L2 bl2).up (Nat.le_of_ble_eq_true rfl)) ?_
          rintro r6 h9 ⟨ih9, w10, r6q, x8⟩
          subst r6q
          try dsimp only at x8
          have wB := x8.1
          have wN := x8.2
          show zx_T zp_P 2 zp_m106 29 [(0, .ref 27), (1, .ref 32), (2, .int (zI (a))), (3, .int (zI (u))), (4, .int (zI (k)))] [] h9 _
          refine zr_inc (x := k) (n := 1) (y := k + 1) (ls' := [(4, .int (zI (k + 1))), (0, .ref 27), (1, .ref 32), (2, .int (zI (a))), (3, .int (zI (u)))]) (pc := 29) rfl rfl rfl (by omega) rfl ?_
          refine zx_T.j (i := .goto (-29)) (k := 3) (pc' := 3) (st' := []) (pc := 32) rfl rfl rfl rfl rfl ?_
          refine zx_T.lk (ls' := [(0, .ref 27), (1, .ref 32), (2, .int (zI (a))), (3, .int (zI (u))), (4, .int (zI (k + 1)))]) rfl ⟨rfl, rfl, rfl, rfl, rfl, trivial⟩ ?_
          exact ih (h2 := h9) (k := k + 1) ih9 (by omega) (by omega) ((hw.wd rfl : zb_W [(30, 0), (27, 4)] h _).tr (w10.wd rfl)) (by omega) (L2 ++ zs_eb (zv_a h 32 k)) wB (by rw [← hq, zs_bl_dr (k := k) mb (by omega) (by omega), zs_ebs_c, List.append_assoc]) (by omega)
set_option maxRecDepth 100000 in
set_option maxHeartbeats 4000000 in
theorem zm_pWriteEntries_32 {h : zx_H} (hI : zb_I zc_H h) {a : Int} {u : Int} (a1 : 0 ≤ a) (a2 : a ≤ 8) (u1 : 0 ≤ u) (u2 : u ≤ 8) (pk : zv_f h 27 4 ≤ 2940 - 3 * u) (pk2 : zv_f h 27 4 ≤ 2940) (L : List Int) (bl : zs_bl (zv_f h 27 4) (zv_a h 30) L) (M : List Int) (mb : zs_bl u (zv_a h 32) M) : zx_T zp_P 2 zp_m106 0 [(0, .ref 27), (1, .ref 32), (2, .int (zI (a))), (3, .int (zI (u)))] [] h (zr_V [(30, 0), (27, 4)] h (fun h' => zs_bl (zv_f h' 27 4) (zv_a h' 30) (L ++ zs_ebs (M.drop a.toNat)) ∧ zv_f h' 27 4 ≤ zv_f h 27 4 + 3 * u)) := by
  have hP := zw_ri hI (a := 27) (k := 4) rfl
  have mn := mb.1
  refine zx_T.l (i := .iload_n 2) (k := 1) (v := .int (zI (a))) (pc := 0) rfl rfl rfl ?_
  refine zx_T.t (i := .istore 4) (k := 2) (ls' := [(4, .int (zI (a))), (0, .ref 27), (1, .ref 32), (2, .int (zI (a))), (3, .int (zI (u)))]) (st' := []) (pc := 1) rfl rfl rfl rfl ?_
  refine zx_T.lk (ls' := [(0, .ref 27), (1, .ref 32), (2, .int (zI (a))), (3, .int (zI (u))), (4, .int (zI (a)))]) rfl ⟨rfl, rfl, rfl, rfl, rfl, trivial⟩ ?_
  exact zm_pWriteEntries_32_L (h := h) hI (a := a) (u := u) a1 a2 u1 u2 pk pk2 L bl M mb ((20 - a : Int).toNat + 1) (h2 := h) (k := a) hI (by omega) (by omega) zb_W.rf (by omega) L bl rfl (Nat.lt_succ_self _)

set_option maxRecDepth 100000 in
set_option maxHeartbeats 4000000 in
theorem zm_pWriteEntries_33_L {h : zx_H} (hI : zb_I zc_H h) {a : Int} {u : Int} (a1 : 0 ≤ a) (a2 : a ≤ 8) (u1 : 0 ≤ u) (u2 : u ≤ 6) (pk : zv_f h 27 4 ≤ 2940 - 3 * u) (pk2 : zv_f h 27 4 ≤ 2940) (L : List Int) (bl : zs_bl (zv_f h 27 4) (zv_a h 30) L) (M : List Int) (mb : zs_bl u (zv_a h 33) M) (n : Nat) : (∀ {h2 : zx_H} {k : Int} (hI2 : zb_I zc_H h2) (k1 : a ≤ k) (k2 : k ≤ u ∨ k = a) (hw : zb_W [(30, 0), (27, 4)] h h2) (pb : zv_f h2 27 4 ≤ zv_f h 27 4 + 3 * (k - a)) (L2 : List Int) (bl2 : zs_bl (zv_f h2 27 4) (zv_a h2 30) (L2)) (hq : L2 ++ zs_ebs (M.drop k.toNat) = L ++ zs_ebs (M.drop a.toNat)), (20 - k : Int).toNat < n → zx_T zp_P 2 zp_m106 3 [(0, .ref 27), (1, .ref 33), (2, .int (zI (a))), (3, .int (zI (u))), (4, .int (zI (k)))] [] h2 (zr_V [(30, 0), (27, 4)] h (fun h' => zs_bl (zv_f h' 27 4) (zv_a h' 30) (L ++ zs_ebs (M.drop a.toNat)) ∧ zv_f h' 27 4 ≤ zv_f h 27 4 + 3 * u))) := by
  induction n with
  | zero => exact fun _ _ _ _ _ _ _ _ hm => absurd hm (Nat.not_lt_zero _)
  | succ n ih =>
    intro h2 k hI2 k1 k2 hw pb L2 bl2 hq hm
    have hP := zw_ri hI (a := 27) (k := 4) rfl
    have mn := mb.1
    refine zx_T.l (i := .iload 4) (k := 2) (v := .int (zI (k))) (pc := 3) rfl rfl rfl ?_
    refine zr_i1 (x := k) (t := 35) (pc := 5) rfl rfl (by omega) (by omega) (fun (c1 : k < 0) => ?_) (fun (c1 : ¬ (k < 0)) => ?_)
    · exact zr_vr (pc := 35) rfl rfl ⟨hI2, (hw.wd rfl : zb_W [(30, 0), (27, 4)] h _), rfl, by dsimp only; have z9 : M.drop k.toNat = [] := List.drop_eq_nil_of_le (by omega); rw [z9] at hq; rw [← hq]; exact ⟨by show zs_bl _ _ (L2 ++ []); rw [List.append_nil]; exact bl2, by omega⟩⟩
    · refine zx_T.l (i := .iload 4) (k := 2) (v := .int (zI (k))) (pc := 8) rfl rfl rfl ?_
      refine zx_T.l (i := .iload_n 3) (k := 1) (v := .int (zI (u))) (pc := 10) rfl rfl rfl ?_
      refine zr_i2 (x := k) (y := u) (t := 35) (pc := 11) rfl rfl (by omega) (by omega) (by omega) (by omega) (fun (c2 : u ≤ k) => ?_) (fun (c2 : ¬ (u ≤ k)) => ?_)
      · exact zr_vr (pc := 35) rfl rfl ⟨hI2, (hw.wd rfl : zb_W [(30, 0), (27, 4)] h _), rfl, by dsimp only; have z9 : M.drop k.toNat = [] := List.drop_eq_nil_of_le (by omega); rw [z9] at hq; rw [← hq]; exact ⟨by show zs_bl _ _ (L2 ++ []); rw [List.append_nil]; exact bl2, by omega⟩⟩
      · refine zx_T.l (i := .iload 4) (k := 2) (v := .int (zI (k))) (pc := 14) rfl rfl rfl ?_
        refine zx_T.l (i := .aload_n 1) (k := 1) (v := .ref 33) (pc := 16) rfl rfl rfl ?_
        refine zw_len (e := 6) (pc := 17) rfl rfl rfl rfl hI2 ?_
        refine zr_i2 (x := k) (y := 6) (t := 35) (pc := 18) rfl rfl (by omega) (by omega) (by omega) (by omega) (fun (c3 : 6 ≤ k) => ?_) (fun (c3 : ¬ (6 ≤ k)) => ?_)
        · exact zr_vr (pc := 35) rfl rfl ⟨hI2, (hw.wd rfl : zb_W [(30, 0), (27, 4)] h _), rfl, by dsimp only; have z9 : M.drop k.toNat = [] := List.drop_eq_nil_of_le (by omega); rw [z9] at hq; rw [← hq]; exact ⟨by show zs_bl _ _ (L2 ++ []); rw [List.append_nil]; exact bl2, by omega⟩⟩
        · refine zx_T.l (i := .aload_n 0) (k := 1) (v := .ref 27) (pc := 21) rfl rfl rfl ?_
          refine zx_T.l (i := .aload_n 1) (k := 1) (v := .ref 33) (pc := 22) rfl rfl rfl ?_
          refine zx_T.l (i := .iload 4) (k := 2) (v := .int (zI (k))) (pc := 23) rfl rfl rfl ?_
          refine zr_al (n := 6) (lo := (-2147483648)) (hi := 2147483647) (e := zv_a h 33 k) (pc := 25) rfl rfl rfl hI2 (by omega) (by omega) (zv_wa hw rfl k) (fun g4a g4b => ?_)
          refine zw_iv (b := 27) (cj := 107) (q' := zp_m107) (As := [.int (zI (zv_a h 33 k))]) (rest := []) (pc := 26) rfl rfl rfl rfl rfl rfl rfl (Nat.le_of_ble_eq_true rfl) rfl (Nat.le_of_ble_eq_true rfl) hI2 ((zm_pWriteEntry (h := h2) hI2 (k := zv_a h 33 k) (by omega) (by omega) (by omega) L2 bl2).up (Nat.le_of_ble_eq_true rfl)) ?_
          rintro r6 h9 ⟨ih9, w10, r6q, x8⟩
          subst r6q
          try dsimp only at x8
          have wB := x8.1
          have wN := x8.2
          show zx_T zp_P 2 zp_m106 29 [(0, .ref 27), (1, .ref 33), (2, .int (zI (a))), (3, .int (zI (u))), (4, .int (zI (k)))] [] h9 _
          refine zr_inc (x := k) (n := 1) (y := k + 1) (ls' := [(4, .int (zI (k + 1))), (0, .ref 27), (1, .ref 33), (2, .int (zI (a))), (3, .int (zI (u)))]) (pc := 29) rfl rfl rfl (by omega) rfl ?_
          refine zx_T.j (i := .goto (-29)) (k := 3) (pc' := 3) (st' := []) (pc := 32) rfl rfl rfl rfl rfl ?_
          refine zx_T.lk (ls' := [(0, .ref 27), (1, .ref 33), (2, .int (zI (a))), (3, .int (zI (u))), (4, .int (zI (k + 1)))]) rfl ⟨rfl, rfl, rfl, rfl, rfl, trivial⟩ ?_
          exact ih (h2 := h9) (k := k + 1) ih9 (by omega) (by omega) ((hw.wd rfl : zb_W [(30, 0), (27, 4)] h _).tr (w10.wd rfl)) (by omega) (L2 ++ zs_eb (zv_a h 33 k)) wB (by rw [← hq, zs_bl_dr (k := k) mb (by omega) (by omega), zs_ebs_c, List.append_assoc]) (by omega)
set_option maxRecDepth 100000 in
set_option maxHeartbeats 4000000 in
theorem zm_pWriteEntries_33 {h : zx_H} (hI : zb_I zc_H h) {a : Int} {u : Int} (a1 : 0 ≤ a) (a2 : a ≤ 8) (u1 : 0 ≤ u) (u2 : u ≤ 6) (pk : zv_f h 27 4 ≤ 2940 - 3 * u) (pk2 : zv_f h 27 4 ≤ 2940) (L : List Int) (bl : zs_bl (zv_f h 27 4) (zv_a h 30) L) (M : List Int) (mb : zs_bl u (zv_a h 33) M) : zx_T zp_P 2 zp_m106 0 [(0, .ref 27), (1, .ref 33), (2, .int (zI (a))), (3, .int (zI (u)))] [] h (zr_V [(30, 0), (27, 4)] h (fun h' => zs_bl (zv_f h' 27 4) (zv_a h' 30) (L ++ zs_ebs (M.drop a.toNat)) ∧ zv_f h' 27 4 ≤ zv_f h 27 4 + 3 * u)) := by
  have hP := zw_ri hI (a := 27) (k := 4) rfl
  have mn := mb.1
  refine zx_T.l (i := .iload_n 2) (k := 1) (v := .int (zI (a))) (pc := 0) rfl rfl rfl ?_
  refine zx_T.t (i := .istore 4) (k := 2) (ls' := [(4, .int (zI (a))), (0, .ref 27), (1, .ref 33), (2, .int (zI (a))), (3, .int (zI (u)))]) (st' := []) (pc := 1) rfl rfl rfl rfl ?_
  refine zx_T.lk (ls' := [(0, .ref 27), (1, .ref 33), (2, .int (zI (a))), (3, .int (zI (u))), (4, .int (zI (a)))]) rfl ⟨rfl, rfl, rfl, rfl, rfl, trivial⟩ ?_
  exact zm_pWriteEntries_33_L (h := h) hI (a := a) (u := u) a1 a2 u1 u2 pk pk2 L bl M mb ((20 - a : Int).toNat + 1) (h2 := h) (k := a) hI (by omega) (by omega) zb_W.rf (by omega) L bl rfl (Nat.lt_succ_self _)

set_option maxRecDepth 100000 in
set_option maxHeartbeats 4000000 in
theorem zm_startsAlike_L {h : zx_H} (hI : zb_I zc_H h)   (n : Nat) : (∀ {k : Int} (k1 : 0 ≤ k) (k2 : k ≤ 8) (al : ∀ j, 0 ≤ j → j < k → zv_a h 31 j = zv_a h 32 j), (20 - k : Int).toNat < n → zx_T zp_P 0 zp_m104 2 [(0, .ref 27), (1, .int (zI (k)))] [] h (zr_P h (fun e => ((e = 1 ∧ (∀ j, 0 ≤ j → j < zv_f h 27 6 → j < zv_f h 27 8 → zv_a h 31 j = zv_a h 32 j)) ∨ (e = 0 ∧ ¬ (∀ j, 0 ≤ j → j < zv_f h 27 6 → j < zv_f h 27 8 → zv_a h 31 j = zv_a h 32 j))) ∧ 0 ≤ e ∧ e ≤ 1))) := by
  induction n with
  | zero => exact fun _ _ _ hm => absurd hm (Nat.not_lt_zero _)
  | succ n ih =>
    intro k k1 k2 al hm
    have hA6 := zw_ri hI (a := 27) (k := 6) rfl
    refine zx_T.l (i := .iload_n 1) (k := 1) (v := .int (zI (k))) (pc := 2) rfl rfl rfl ?_
    refine zx_T.s (i := .bipush 8) (k := 2) (st' := [.int (zI (8)), .int (zI (k))]) (pc := 3) rfl rfl ?_
    refine zr_i2 (x := k) (y := 8) (t := 47) (pc := 5) rfl rfl (by omega) (by omega) (by omega) (by omega) (fun (c1 : 8 ≤ k) => ?_) (fun (c1 : ¬ (8 ≤ k)) => ?_)
    · refine zx_T.s (i := .iconst 1) (k := 1) (st' := [.int (zI (1))]) (pc := 47) rfl rfl ?_
      exact zr_ir (x := 1) (pc := 48) rfl rfl (zr_nb (by omega) (by omega)) ⟨rfl, _, rfl, by dsimp only; exact ⟨Or.inl ⟨rfl, fun j j0 j1 j2 => al j j0 (by omega)⟩, by omega, by omega⟩⟩
    · refine zx_T.l (i := .iload_n 1) (k := 1) (v := .int (zI (k))) (pc := 8) rfl rfl rfl ?_
      refine zx_T.l (i := .aload_n 0) (k := 1) (v := .ref 27) (pc := 9) rfl rfl rfl ?_
      refine zw_gi (k := 6) (lo := 0) (hi := 8) (e := zv_f h 27 6) (pc := 10) rfl rfl rfl hI rfl (fun g2a g2b => ?_)
      refine zr_i2 (x := k) (y := zv_f h 27 6) (t := 47) (pc := 13) rfl rfl (by omega) (by omega) (by omega) (by omega) (fun (c3 : (zv_f h 27 6) ≤ k) => ?_) (fun (c3 : ¬ ((zv_f h 27 6) ≤ k)) => ?_)
      · refine zx_T.s (i := .iconst 1) (k := 1) (st' := [.int (zI (1))]) (pc := 47) rfl rfl ?_
        exact zr_ir (x := 1) (pc := 48) rfl rfl (zr_nb (by omega) (by omega)) ⟨rfl, _, rfl, by dsimp only; exact ⟨Or.inl ⟨rfl, fun j j0 j1 j2 => al j j0 (by omega)⟩, by omega, by omega⟩⟩
      · refine zx_T.l (i := .iload_n 1) (k := 1) (v := .int (zI (k))) (pc := 16) rfl rfl rfl ?_
        refine zx_T.l (i := .aload_n 0) (k := 1) (v := .ref 27) (pc := 17) rfl rfl rfl ?_
        refine zw_gi (k := 8) (lo := 0) (hi := 8) (e := zv_f h 27 8) (pc := 18) rfl rfl rfl hI rfl (fun g4a g4b => ?_)
        refine zr_i2 (x := k) (y := zv_f h 27 8) (t := 47) (pc := 21) rfl rfl (by omega) (by omega) (by omega) (by omega) (fun (c5 : (zv_f h 27 8) ≤ k) => ?_) (fun (c5 : ¬ ((zv_f h 27 8) ≤ k)) => ?_)
        · refine zx_T.s (i := .iconst 1) (k := 1) (st' := [.int (zI (1))]) (pc := 47) rfl rfl ?_
          exact zr_ir (x := 1) (pc := 48) rfl rfl (zr_nb (by omega) (by omega)) ⟨rfl, _, rfl, by dsimp only; exact ⟨Or.inl ⟨rfl, fun j j0 j1 j2 => al j j0 (by omega)⟩, by omega, by omega⟩⟩
        · refine zx_T.l (i := .aload_n 0) (k := 1) (v := .ref 27) (pc := 24) rfl rfl rfl ?_
          refine zw_gr (k := 5) (b := 31) (pc := 25) rfl rfl rfl hI ?_
          refine zx_T.l (i := .iload_n 1) (k := 1) (v := .int (zI (k))) (pc := 28) rfl rfl rfl ?_
          refine zr_al (n := 8) (lo := (-2147483648)) (hi := 2147483647) (e := zv_a h 31 k) (pc := 29) rfl rfl rfl hI (by omega) (by omega) rfl (fun g6a g6b => ?_)
          refine zx_T.l (i := .aload_n 0) (k := 1) (v := .ref 27) (pc := 30) rfl rfl rfl ?_
          refine zw_gr (k := 7) (b := 32) (pc := 31) rfl rfl rfl hI ?_
          refine zx_T.l (i := .iload_n 1) (k := 1) (v := .int (zI (k))) (pc := 34) rfl rfl rfl ?_
          refine zr_al (n := 8) (lo := (-2147483648)) (hi := 2147483647) (e := zv_a h 32 k) (pc := 35) rfl rfl rfl hI (by omega) (by omega) rfl (fun g7a g7b => ?_)
          refine zr_i2 (x := zv_a h 31 k) (y := zv_a h 32 k) (t := 41) (pc := 36) rfl rfl (by omega) (by omega) (by omega) (by omega) (fun (c8 : (zv_a h 31 k) = (zv_a h 32 k)) => ?_) (fun (c8 : ¬ ((zv_a h 31 k) = (zv_a h 32 k))) => ?_)
          · refine zr_inc (x := k) (n := 1) (y := k + 1) (ls' := [(1, .int (zI (k + 1))), (0, .ref 27)]) (pc := 41) rfl rfl rfl (by omega) rfl ?_
            refine zx_T.j (i := .goto (-42)) (k := 3) (pc' := 2) (st' := []) (pc := 44) rfl rfl rfl rfl rfl ?_
            refine zx_T.lk (ls' := [(0, .ref 27), (1, .int (zI (k + 1)))]) rfl ⟨rfl, rfl, trivial⟩ ?_
            exact ih (k := k + 1) (by omega) (by omega) (fun j j0 j1 => by rcases (show j = k ∨ j < k by omega) with z | z; (subst z; omega); exact al j j0 z) (by omega)
          · refine zx_T.s (i := .iconst 0) (k := 1) (st' := [.int (zI (0))]) (pc := 39) rfl rfl ?_
            exact zr_ir (x := 0) (pc := 40) rfl rfl (zr_nb (by omega) (by omega)) ⟨rfl, _, rfl, by dsimp only; exact ⟨Or.inr ⟨rfl, fun z => by have := z k k1 (by omega) (by omega); omega⟩, by omega, by omega⟩⟩
set_option maxRecDepth 100000 in
set_option maxHeartbeats 4000000 in
theorem zm_startsAlike {h : zx_H} (hI : zb_I zc_H h)   : zx_T zp_P 0 zp_m104 0 [(0, .ref 27)] [] h (zr_P h (fun e => ((e = 1 ∧ (∀ j, 0 ≤ j → j < zv_f h 27 6 → j < zv_f h 27 8 → zv_a h 31 j = zv_a h 32 j)) ∨ (e = 0 ∧ ¬ (∀ j, 0 ≤ j → j < zv_f h 27 6 → j < zv_f h 27 8 → zv_a h 31 j = zv_a h 32 j))) ∧ 0 ≤ e ∧ e ≤ 1)) := by
  have hA6 := zw_ri hI (a := 27) (k := 6) rfl
  refine zx_T.s (i := .iconst 0) (k := 1) (st' := [.int (zI (0))]) (pc := 0) rfl rfl ?_
  refine zx_T.t (i := .istore_n 1) (k := 1) (ls' := [(1, .int (zI (0))), (0, .ref 27)]) (st' := []) (pc := 1) rfl rfl rfl rfl ?_
  refine zx_T.lk (ls' := [(0, .ref 27), (1, .int (zI (0)))]) rfl ⟨rfl, rfl, trivial⟩ ?_
  exact zm_startsAlike_L (h := h) hI   ((20 - 0 : Int).toNat + 1) (k := 0) (by omega) (by omega) (fun j j0 j1 => absurd j1 (by omega)) (Nat.lt_succ_self _)

set_option maxRecDepth 100000 in
set_option maxHeartbeats 4000000 in
theorem zm_gather_32_L {h : zx_H} (hI : zb_I zc_H h) {f : Int} {c : Int} (f1 : 0 ≤ f) (c1 : 0 ≤ c) (c2 : c ≤ 8) (fc : f + c ≤ 14) (n : Nat) : (∀ {h2 : zx_H} {m : Int} {i : Int} (hI2 : zb_I zc_H h2) (i1 : f ≤ i) (i2 : i ≤ f + c) (m1 : 0 ≤ m) (m2 : m ≤ i - f) (hw : zb_W [(32, 0)] h h2) (L2 : List Int) (bl2 : zs_bl m (zv_a h2 32) L2) (gq : zs_gq (zv_a h 29) f (f + c) L2 i), (20 - i : Int).toNat < n → zx_T zp_P 1 zp_m101 6 [(0, .ref 27), (1, .int (zI (f))), (2, .int (zI (c))), (3, .ref 32), (4, .int (zI (m))), (5, .int (zI (i)))] [] h2 (zr_R [(32, 0)] h (fun e h' => zs_bl e (zv_a h' 32) (zs_es (zv_a h 29) f (f + c)) ∧ 0 ≤ e ∧ e ≤ 8))) := by
  induction n with
  | zero => exact fun _ _ _ _ _ _ _ _ _ hm => absurd hm (Nat.not_lt_zero _)
  | succ n ih =>
    intro h2 m i hI2 i1 i2 m1 m2 hw L2 bl2 gq hm
    have e29 : zv_a h2 29 = zv_a h 29 := funext (fun q => zv_wa hw rfl q)
    refine zx_T.l (i := .iload 5) (k := 2) (v := .int (zI (i))) (pc := 6) rfl rfl rfl ?_
    refine zx_T.l (i := .iload_n 1) (k := 1) (v := .int (zI (f))) (pc := 8) rfl rfl rfl ?_
    refine zx_T.l (i := .iload_n 2) (k := 1) (v := .int (zI (c))) (pc := 9) rfl rfl rfl ?_
    refine zr_add (x := f) (y := c) (e := c + f) (pc := 10) rfl (by omega) ?_
    refine zr_i2 (x := i) (y := c + f) (t := 89) (pc := 11) rfl rfl (by omega) (by omega) (by omega) (by omega) (fun (c1 : (c + f) ≤ i) => ?_) (fun (c1 : ¬ ((c + f) ≤ i)) => ?_)
    · refine zx_T.l (i := .iload 4) (k := 2) (v := .int (zI (m))) (pc := 89) rfl rfl rfl ?_
      exact zr_ir (x := m) (pc := 91) rfl rfl rfl ⟨hI2, (hw.wd rfl : zb_W [(32, 0)] h _), _, rfl, by dsimp only; rw [show f + c = i by omega] at gq ⊢; have z9 := zs_gq_e gq (Int.le_refl i); exact ⟨by rw [← z9]; exact bl2, by omega, by omega⟩⟩
    · refine zx_T.l (i := .iload 5) (k := 2) (v := .int (zI (i))) (pc := 14) rfl rfl rfl ?_
      refine zx_T.l (i := .iload_n 1) (k := 1) (v := .int (zI (f))) (pc := 16) rfl rfl rfl ?_
      refine zr_i2 (x := i) (y := f) (t := 52) (pc := 17) rfl rfl (by omega) (by omega) (by omega) (by omega) (fun (c2 : i ≤ f) => ?_) (fun (c2 : ¬ (i ≤ f)) => ?_)
      · refine zx_T.s (i := .iconst 0) (k := 1) (st' := [.int (zI (0))]) (pc := 52) rfl rfl ?_
        refine zx_T.t (i := .istore 6) (k := 2) (ls' := [(6, .int (zI (0))), (0, .ref 27), (1, .int (zI (f))), (2, .int (zI (c))), (3, .ref 32), (4, .int (zI (m))), (5, .int (zI (i)))]) (st' := []) (pc := 53) rfl rfl rfl rfl ?_
        refine zx_T.l (i := .iload 6) (k := 2) (v := .int (zI (0))) (pc := 55) rfl rfl rfl ?_
        refine zr_i1 (x := 0) (t := 83) (pc := 57) rfl rfl (by omega) (by omega) (fun (c3 : ¬ 0 = 0) => absurd c3 (by decide)) (fun _ => ?_)
        refine zx_T.l (i := .iload 4) (k := 2) (v := .int (zI (m))) (pc := 60) rfl rfl rfl ?_
        refine zx_T.l (i := .aload_n 3) (k := 1) (v := .ref 32) (pc := 62) rfl rfl rfl ?_
        refine zw_len (e := 8) (pc := 63) rfl rfl rfl rfl hI2 ?_
        refine zr_i2 (x := m) (y := 8) (t := 83) (pc := 64) rfl rfl (by omega) (by omega) (by omega) (by omega) (fun (c4 : 8 ≤ m) => ?_) (fun (c4 : ¬ (8 ≤ m)) => ?_)
        · refine zr_inc (x := i) (n := 1) (y := i + 1) (ls' := [(5, .int (zI (i + 1))), (6, .int (zI (0))), (0, .ref 27), (1, .int (zI (f))), (2, .int (zI (c))), (3, .ref 32), (4, .int (zI (m)))]) (pc := 83) rfl rfl rfl (by omega) rfl ?_
          refine zx_T.j (i := .goto (-80)) (k := 3) (pc' := 6) (st' := []) (pc := 86) rfl rfl rfl rfl rfl ?_
          have a32 : ∀ j, 0 ≤ j → zv_a h2 32 j = zv_a h2 32 j := fun j hj => rfl
          refine zx_T.lk (ls' := [(0, .ref 27), (1, .int (zI (f))), (2, .int (zI (c))), (3, .ref 32), (4, .int (zI (m))), (5, .int (zI (i + 1)))]) rfl ⟨rfl, rfl, rfl, rfl, rfl, rfl, trivial⟩ ?_
          exact ih (h2 := h2) (m := m) (i := i + 1) hI2 (by omega) (by omega) (by omega) (by omega) (hw.wd rfl : zb_W [(32, 0)] h _) L2 bl2 (zs_gq_t gq ⟨by omega, by omega, by omega⟩) (by omega)
        · refine zx_T.l (i := .aload_n 3) (k := 1) (v := .ref 32) (pc := 67) rfl rfl rfl ?_
          refine zx_T.l (i := .iload 4) (k := 2) (v := .int (zI (m))) (pc := 68) rfl rfl rfl ?_
          refine zr_inc (x := m) (n := 1) (y := m + 1) (ls' := [(4, .int (zI (m + 1))), (6, .int (zI (0))), (0, .ref 27), (1, .int (zI (f))), (2, .int (zI (c))), (3, .ref 32), (5, .int (zI (i)))]) (pc := 70) rfl rfl rfl (by omega) rfl ?_
          refine zx_T.l (i := .aload_n 0) (k := 1) (v := .ref 27) (pc := 73) rfl rfl rfl ?_
          refine zw_gr (k := 2) (b := 28) (pc := 74) rfl rfl rfl hI2 ?_
          refine zx_T.l (i := .iload 5) (k := 2) (v := .int (zI (i))) (pc := 77) rfl rfl rfl ?_
          refine zw_iv (b := 28) (cj := 118) (q' := zp_m118) (As := [.int (zI (i))]) (rest := [.int (zI (m)), .ref 32]) (pc := 79) rfl rfl rfl rfl rfl rfl rfl (Nat.le_of_ble_eq_true rfl) rfl (Nat.le_of_ble_eq_true rfl) hI2 ((zm_kindOf_28 (h := h2) hI2 (i := i) (by omega) (by omega)).up (Nat.le_of_ble_eq_true rfl)) ?_
          rintro r6 h9 ⟨h9q, v7, r6q, x8⟩
          subst h9q r6q
          try dsimp only at x8
          have kc : v7 = zv_a h 29 i := (by have y := x8.1; rw [e29] at y; omega)
          show zx_T zp_P 1 zp_m101 82 [(4, .int (zI (m + 1))), (6, .int (zI (0))), (0, .ref 27), (1, .int (zI (f))), (2, .int (zI (c))), (3, .ref 32), (5, .int (zI (i)))] [.int (zI (v7)), .int (zI (m)), .ref 32] h2 _
          refine zr_as (n := 8) (lo := (-2147483648)) (hi := 2147483647) (e := v7) (pc := 82) rfl rfl rfl rfl hI2 (by omega) (by omega) (by omega) (by omega) (fun h10 ih10 w11 s12 => ?_)
          refine zr_inc (x := i) (n := 1) (y := i + 1) (ls' := [(5, .int (zI (i + 1))), (4, .int (zI (m + 1))), (6, .int (zI (0))), (0, .ref 27), (1, .int (zI (f))), (2, .int (zI (c))), (3, .ref 32)]) (pc := 83) rfl rfl rfl (by omega) rfl ?_
          refine zx_T.j (i := .goto (-80)) (k := 3) (pc' := 6) (st' := []) (pc := 86) rfl rfl rfl rfl rfl ?_
          have a32 : ∀ j, 0 ≤ j → zv_a h10 32 j = if j = m then v7 else zv_a h2 32 j := fun j hj => by rw [s12 j hj]
          refine zx_T.lk (ls' := [(0, .ref 27), (1, .int (zI (f))), (2, .int (zI (c))), (3, .ref 32), (4, .int (zI (m + 1))), (5, .int (zI (i + 1)))]) rfl ⟨rfl, rfl, rfl, rfl, rfl, rfl, trivial⟩ ?_
          exact ih (h2 := h10) (m := m + 1) (i := i + 1) ih10 (by omega) (by omega) (by omega) (by omega) ((hw.wd rfl : zb_W [(32, 0)] h _).tr (w11.wd rfl)) (L2 ++ [zv_a h 29 i]) (zs_bl_ap bl2 (fun j j0 => by rw [a32 j j0, kc])) (zs_gq_s i1 gq (by omega) (fun z => by omega)) (by omega)
      · refine zx_T.l (i := .aload_n 0) (k := 1) (v := .ref 27) (pc := 20) rfl rfl rfl ?_
        refine zw_gr (k := 2) (b := 28) (pc := 21) rfl rfl rfl hI2 ?_
        refine zx_T.l (i := .iload 5) (k := 2) (v := .int (zI (i))) (pc := 24) rfl rfl rfl ?_
        refine zw_iv (b := 28) (cj := 118) (q' := zp_m118) (As := [.int (zI (i))]) (rest := []) (pc := 26) rfl rfl rfl rfl rfl rfl rfl (Nat.le_of_ble_eq_true rfl) rfl (Nat.le_of_ble_eq_true rfl) hI2 ((zm_kindOf_28 (h := h2) hI2 (i := i) (by omega) (by omega)).up (Nat.le_of_ble_eq_true rfl)) ?_
        rintro r14 h17 ⟨h17q, v15, r14q, x16⟩
        subst h17q r14q
        try dsimp only at x16
        have ka := x16.1
        rw [e29] at ka
        show zx_T zp_P 1 zp_m101 29 [(0, .ref 27), (1, .int (zI (f))), (2, .int (zI (c))), (3, .ref 32), (4, .int (zI (m))), (5, .int (zI (i)))] [.int (zI (v15))] h2 _
        refine zx_T.s (i := .iconst 3) (k := 1) (st' := [.int (zI (3)), .int (zI (v15))]) (pc := 29) rfl rfl ?_
        refine zr_i2 (x := v15) (y := 3) (t := 52) (pc := 30) rfl rfl (by omega) (by omega) (by omega) (by omega) (fun (c18 : ¬ v15 = 3) => ?_) (fun (c18 : ¬ (¬ v15 = 3)) => ?_)
        · refine zx_T.s (i := .iconst 0) (k := 1) (st' := [.int (zI (0))]) (pc := 52) rfl rfl ?_
          refine zx_T.t (i := .istore 6) (k := 2) (ls' := [(6, .int (zI (0))), (0, .ref 27), (1, .int (zI (f))), (2, .int (zI (c))), (3, .ref 32), (4, .int (zI (m))), (5, .int (zI (i)))]) (st' := []) (pc := 53) rfl rfl rfl rfl ?_
          refine zx_T.l (i := .iload 6) (k := 2) (v := .int (zI (0))) (pc := 55) rfl rfl rfl ?_
          refine zr_i1 (x := 0) (t := 83) (pc := 57) rfl rfl (by omega) (by omega) (fun (c19 : ¬ 0 = 0) => absurd c19 (by decide)) (fun _ => ?_)
          refine zx_T.l (i := .iload 4) (k := 2) (v := .int (zI (m))) (pc := 60) rfl rfl rfl ?_
          refine zx_T.l (i := .aload_n 3) (k := 1) (v := .ref 32) (pc := 62) rfl rfl rfl ?_
          refine zw_len (e := 8) (pc := 63) rfl rfl rfl rfl hI2 ?_
          refine zr_i2 (x := m) (y := 8) (t := 83) (pc := 64) rfl rfl (by omega) (by omega) (by omega) (by omega) (fun (c20 : 8 ≤ m) => ?_) (fun (c20 : ¬ (8 ≤ m)) => ?_)
          · refine zr_inc (x := i) (n := 1) (y := i + 1) (ls' := [(5, .int (zI (i + 1))), (6, .int (zI (0))), (0, .ref 27), (1, .int (zI (f))), (2, .int (zI (c))), (3, .ref 32), (4, .int (zI (m)))]) (pc := 83) rfl rfl rfl (by omega) rfl ?_
            refine zx_T.j (i := .goto (-80)) (k := 3) (pc' := 6) (st' := []) (pc := 86) rfl rfl rfl rfl rfl ?_
            have a32 : ∀ j, 0 ≤ j → zv_a h2 32 j = zv_a h2 32 j := fun j hj => rfl
            refine zx_T.lk (ls' := [(0, .ref 27), (1, .int (zI (f))), (2, .int (zI (c))), (3, .ref 32), (4, .int (zI (m))), (5, .int (zI (i + 1)))]) rfl ⟨rfl, rfl, rfl, rfl, rfl, rfl, trivial⟩ ?_
            exact ih (h2 := h2) (m := m) (i := i + 1) hI2 (by omega) (by omega) (by omega) (by omega) (hw.wd rfl : zb_W [(32, 0)] h _) L2 bl2 (zs_gq_t gq ⟨by omega, by omega, by omega⟩) (by omega)
          · refine zx_T.l (i := .aload_n 3) (k := 1) (v := .ref 32) (pc := 67) rfl rfl rfl ?_
            refine zx_T.l (i := .iload 4) (k := 2) (v := .int (zI (m))) (pc := 68) rfl rfl rfl ?_
            refine zr_inc (x := m) (n := 1) (y := m + 1) (ls' := [(4, .int (zI (m + 1))), (6, .int (zI (0))), (0, .ref 27), (1, .int (zI (f))), (2, .int (zI (c))), (3, .ref 32), (5, .int (zI (i)))]) (pc := 70) rfl rfl rfl (by omega) rfl ?_
            refine zx_T.l (i := .aload_n 0) (k := 1) (v := .ref 27) (pc := 73) rfl rfl rfl ?_
            refine zw_gr (k := 2) (b := 28) (pc := 74) rfl rfl rfl hI2 ?_
            refine zx_T.l (i := .iload 5) (k := 2) (v := .int (zI (i))) (pc := 77) rfl rfl rfl ?_
            refine zw_iv (b := 28) (cj := 118) (q' := zp_m118) (As := [.int (zI (i))]) (rest := [.int (zI (m)), .ref 32]) (pc := 79) rfl rfl rfl rfl rfl rfl rfl (Nat.le_of_ble_eq_true rfl) rfl (Nat.le_of_ble_eq_true rfl) hI2 ((zm_kindOf_28 (h := h2) hI2 (i := i) (by omega) (by omega)).up (Nat.le_of_ble_eq_true rfl)) ?_
            rintro r22 h25 ⟨h25q, v23, r22q, x24⟩
            subst h25q r22q
            try dsimp only at x24
            have kc : v23 = zv_a h 29 i := (by have y := x24.1; rw [e29] at y; omega)
            show zx_T zp_P 1 zp_m101 82 [(4, .int (zI (m + 1))), (6, .int (zI (0))), (0, .ref 27), (1, .int (zI (f))), (2, .int (zI (c))), (3, .ref 32), (5, .int (zI (i)))] [.int (zI (v23)), .int (zI (m)), .ref 32] h2 _
            refine zr_as (n := 8) (lo := (-2147483648)) (hi := 2147483647) (e := v23) (pc := 82) rfl rfl rfl rfl hI2 (by omega) (by omega) (by omega) (by omega) (fun h26 ih26 w27 s28 => ?_)
            refine zr_inc (x := i) (n := 1) (y := i + 1) (ls' := [(5, .int (zI (i + 1))), (4, .int (zI (m + 1))), (6, .int (zI (0))), (0, .ref 27), (1, .int (zI (f))), (2, .int (zI (c))), (3, .ref 32)]) (pc := 83) rfl rfl rfl (by omega) rfl ?_
            refine zx_T.j (i := .goto (-80)) (k := 3) (pc' := 6) (st' := []) (pc := 86) rfl rfl rfl rfl rfl ?_
            have a32 : ∀ j, 0 ≤ j → zv_a h26 32 j = if j = m then v23 else zv_a h2 32 j := fun j hj => by rw [s28 j hj]
            refine zx_T.lk (ls' := [(0, .ref 27), (1, .int (zI (f))), (2, .int (zI (c))), (3, .ref 32), (4, .int (zI (m + 1))), (5, .int (zI (i + 1)))]) rfl ⟨rfl, rfl, rfl, rfl, rfl, rfl, trivial⟩ ?_
            exact ih (h2 := h26) (m := m + 1) (i := i + 1) ih26 (by omega) (by omega) (by omega) (by omega) ((hw.wd rfl : zb_W [(32, 0)] h _).tr (w27.wd rfl)) (L2 ++ [zv_a h 29 i]) (zs_bl_ap bl2 (fun j j0 => by rw [a32 j j0, kc])) (zs_gq_s i1 gq (by omega) (fun z => by omega)) (by omega)
        · refine zx_T.l (i := .aload_n 0) (k := 1) (v := .ref 27) (pc := 33) rfl rfl rfl ?_
          refine zw_gr (k := 2) (b := 28) (pc := 34) rfl rfl rfl hI2 ?_
          refine zx_T.l (i := .iload 5) (k := 2) (v := .int (zI (i))) (pc := 37) rfl rfl rfl ?_
          refine zx_T.s (i := .iconst 1) (k := 1) (st' := [.int (zI (1)), .int (zI (i)), .ref 28]) (pc := 39) rfl rfl ?_
          refine zr_sub (x := i) (y := 1) (e := i - 1) (pc := 40) rfl (by omega) ?_
          refine zw_iv (b := 28) (cj := 118) (q' := zp_m118) (As := [.int (zI (i - 1))]) (rest := []) (pc := 41) rfl rfl rfl rfl rfl rfl rfl (Nat.le_of_ble_eq_true rfl) rfl (Nat.le_of_ble_eq_true rfl) hI2 ((zm_kindOf_28 (h := h2) hI2 (i := i - 1) (by omega) (by omega)).up (Nat.le_of_ble_eq_true rfl)) ?_
          rintro r30 h33 ⟨h33q, v31, r30q, x32⟩
          subst h33q r30q
          try dsimp only at x32
          have kb := x32.1
          rw [e29] at kb
          show zx_T zp_P 1 zp_m101 44 [(0, .ref 27), (1, .int (zI (f))), (2, .int (zI (c))), (3, .ref 32), (4, .int (zI (m))), (5, .int (zI (i)))] [.int (zI (v31))] h2 _
          refine zx_T.s (i := .iconst 2) (k := 1) (st' := [.int (zI (2)), .int (zI (v31))]) (pc := 44) rfl rfl ?_
          refine zr_i2 (x := v31) (y := 2) (t := 52) (pc := 45) rfl rfl (by omega) (by omega) (by omega) (by omega) (fun (c34 : ¬ v31 = 2) => ?_) (fun (c34 : ¬ (¬ v31 = 2)) => ?_)
          · refine zx_T.s (i := .iconst 0) (k := 1) (st' := [.int (zI (0))]) (pc := 52) rfl rfl ?_
            refine zx_T.t (i := .istore 6) (k := 2) (ls' := [(6, .int (zI (0))), (0, .ref 27), (1, .int (zI (f))), (2, .int (zI (c))), (3, .ref 32), (4, .int (zI (m))), (5, .int (zI (i)))]) (st' := []) (pc := 53) rfl rfl rfl rfl ?_
            refine zx_T.l (i := .iload 6) (k := 2) (v := .int (zI (0))) (pc := 55) rfl rfl rfl ?_
            refine zr_i1 (x := 0) (t := 83) (pc := 57) rfl rfl (by omega) (by omega) (fun (c35 : ¬ 0 = 0) => absurd c35 (by decide)) (fun _ => ?_)
            refine zx_T.l (i := .iload 4) (k := 2) (v := .int (zI (m))) (pc := 60) rfl rfl rfl ?_
            refine zx_T.l (i := .aload_n 3) (k := 1) (v := .ref 32) (pc := 62) rfl rfl rfl ?_
            refine zw_len (e := 8) (pc := 63) rfl rfl rfl rfl hI2 ?_
            refine zr_i2 (x := m) (y := 8) (t := 83) (pc := 64) rfl rfl (by omega) (by omega) (by omega) (by omega) (fun (c36 : 8 ≤ m) => ?_) (fun (c36 : ¬ (8 ≤ m)) => ?_)
            · refine zr_inc (x := i) (n := 1) (y := i + 1) (ls' := [(5, .int (zI (i + 1))), (6, .int (zI (0))), (0, .ref 27), (1, .int (zI (f))), (2, .int (zI (c))), (3, .ref 32), (4, .int (zI (m)))]) (pc := 83) rfl rfl rfl (by omega) rfl ?_
              refine zx_T.j (i := .goto (-80)) (k := 3) (pc' := 6) (st' := []) (pc := 86) rfl rfl rfl rfl rfl ?_
              have a32 : ∀ j, 0 ≤ j → zv_a h2 32 j = zv_a h2 32 j := fun j hj => rfl
              refine zx_T.lk (ls' := [(0, .ref 27), (1, .int (zI (f))), (2, .int (zI (c))), (3, .ref 32), (4, .int (zI (m))), (5, .int (zI (i + 1)))]) rfl ⟨rfl, rfl, rfl, rfl, rfl, rfl, trivial⟩ ?_
              exact ih (h2 := h2) (m := m) (i := i + 1) hI2 (by omega) (by omega) (by omega) (by omega) (hw.wd rfl : zb_W [(32, 0)] h _) L2 bl2 (zs_gq_t gq ⟨by omega, by omega, by omega⟩) (by omega)
            · refine zx_T.l (i := .aload_n 3) (k := 1) (v := .ref 32) (pc := 67) rfl rfl rfl ?_
              refine zx_T.l (i := .iload 4) (k := 2) (v := .int (zI (m))) (pc := 68) rfl rfl rfl ?_
              refine zr_inc (x := m) (n := 1) (y := m + 1) (ls' := [(4, .int (zI (m + 1))), (6, .int (zI (0))), (0, .ref 27), (1, .int (zI (f))), (2, .int (zI (c))), (3, .ref 32), (5, .int (zI (i)))]) (pc := 70) rfl rfl rfl (by omega) rfl ?_
              refine zx_T.l (i := .aload_n 0) (k := 1) (v := .ref 27) (pc := 73) rfl rfl rfl ?_
              refine zw_gr (k := 2) (b := 28) (pc := 74) rfl rfl rfl hI2 ?_
              refine zx_T.l (i := .iload 5) (k := 2) (v := .int (zI (i))) (pc := 77) rfl rfl rfl ?_
              refine zw_iv (b := 28) (cj := 118) (q' := zp_m118) (As := [.int (zI (i))]) (rest := [.int (zI (m)), .ref 32]) (pc := 79) rfl rfl rfl rfl rfl rfl rfl (Nat.le_of_ble_eq_true rfl) rfl (Nat.le_of_ble_eq_true rfl) hI2 ((zm_kindOf_28 (h := h2) hI2 (i := i) (by omega) (by omega)).up (Nat.le_of_ble_eq_true rfl)) ?_
              rintro r38 h41 ⟨h41q, v39, r38q, x40⟩
              subst h41q r38q
              try dsimp only at x40
              have kc : v39 = zv_a h 29 i := (by have y := x40.1; rw [e29] at y; omega)
              show zx_T zp_P 1 zp_m101 82 [(4, .int (zI (m + 1))), (6, .int (zI (0))), (0, .ref 27), (1, .int (zI (f))), (2, .int (zI (c))), (3, .ref 32), (5, .int (zI (i)))] [.int (zI (v39)), .int (zI (m)), .ref 32] h2 _
              refine zr_as (n := 8) (lo := (-2147483648)) (hi := 2147483647) (e := v39) (pc := 82) rfl rfl rfl rfl hI2 (by omega) (by omega) (by omega) (by omega) (fun h42 ih42 w43 s44 => ?_)
              refine zr_inc (x := i) (n := 1) (y := i + 1) (ls' := [(5, .int (zI (i + 1))), (4, .int (zI (m + 1))), (6, .int (zI (0))), (0, .ref 27), (1, .int (zI (f))), (2, .int (zI (c))), (3, .ref 32)]) (pc := 83) rfl rfl rfl (by omega) rfl ?_
              refine zx_T.j (i := .goto (-80)) (k := 3) (pc' := 6) (st' := []) (pc := 86) rfl rfl rfl rfl rfl ?_
              have a32 : ∀ j, 0 ≤ j → zv_a h42 32 j = if j = m then v39 else zv_a h2 32 j := fun j hj => by rw [s44 j hj]
              refine zx_T.lk (ls' := [(0, .ref 27), (1, .int (zI (f))), (2, .int (zI (c))), (3, .ref 32), (4, .int (zI (m + 1))), (5, .int (zI (i + 1)))]) rfl ⟨rfl, rfl, rfl, rfl, rfl, rfl, trivial⟩ ?_
              exact ih (h2 := h42) (m := m + 1) (i := i + 1) ih42 (by omega) (by omega) (by omega) (by omega) ((hw.wd rfl : zb_W [(32, 0)] h _).tr (w43.wd rfl)) (L2 ++ [zv_a h 29 i]) (zs_bl_ap bl2 (fun j j0 => by rw [a32 j j0, kc])) (zs_gq_s i1 gq (by omega) (fun z => by omega)) (by omega)
          · refine zx_T.s (i := .iconst 1) (k := 1) (st' := [.int (zI (1))]) (pc := 48) rfl rfl ?_
            refine zx_T.j (i := .goto 4) (k := 3) (pc' := 53) (st' := [.int (zI (1))]) (pc := 49) rfl rfl rfl rfl rfl ?_
            refine zx_T.t (i := .istore 6) (k := 2) (ls' := [(6, .int (zI (1))), (0, .ref 27), (1, .int (zI (f))), (2, .int (zI (c))), (3, .ref 32), (4, .int (zI (m))), (5, .int (zI (i)))]) (st' := []) (pc := 53) rfl rfl rfl rfl ?_
            refine zx_T.l (i := .iload 6) (k := 2) (v := .int (zI (1))) (pc := 55) rfl rfl rfl ?_
            refine zr_i1 (x := 1) (t := 83) (pc := 57) rfl rfl (by omega) (by omega) (fun _ => ?_) (fun (c46 : ¬ (¬ 1 = 0)) => absurd (by decide) c46)
            refine zr_inc (x := i) (n := 1) (y := i + 1) (ls' := [(5, .int (zI (i + 1))), (6, .int (zI (1))), (0, .ref 27), (1, .int (zI (f))), (2, .int (zI (c))), (3, .ref 32), (4, .int (zI (m)))]) (pc := 83) rfl rfl rfl (by omega) rfl ?_
            refine zx_T.j (i := .goto (-80)) (k := 3) (pc' := 6) (st' := []) (pc := 86) rfl rfl rfl rfl rfl ?_
            have a32 : ∀ j, 0 ≤ j → zv_a h2 32 j = zv_a h2 32 j := fun j hj => rfl
            refine zx_T.lk (ls' := [(0, .ref 27), (1, .int (zI (f))), (2, .int (zI (c))), (3, .ref 32), (4, .int (zI (m))), (5, .int (zI (i + 1)))]) rfl ⟨rfl, rfl, rfl, rfl, rfl, rfl, trivial⟩ ?_
            exact ih (h2 := h2) (m := m) (i := i + 1) hI2 (by omega) (by omega) (by omega) (by omega) (hw.wd rfl : zb_W [(32, 0)] h _) L2 bl2 (zs_gq_t gq ⟨by omega, by omega, by omega⟩) (by omega)
set_option maxRecDepth 100000 in
set_option maxHeartbeats 4000000 in
theorem zm_gather_32 {h : zx_H} (hI : zb_I zc_H h) {f : Int} {c : Int} (f1 : 0 ≤ f) (c1 : 0 ≤ c) (c2 : c ≤ 8) (fc : f + c ≤ 14) : zx_T zp_P 1 zp_m101 0 [(0, .ref 27), (1, .int (zI (f))), (2, .int (zI (c))), (3, .ref 32)] [] h (zr_R [(32, 0)] h (fun e h' => zs_bl e (zv_a h' 32) (zs_es (zv_a h 29) f (f + c)) ∧ 0 ≤ e ∧ e ≤ 8)) := by
  refine zx_T.s (i := .iconst 0) (k := 1) (st' := [.int (zI (0))]) (pc := 0) rfl rfl ?_
  refine zx_T.t (i := .istore 4) (k := 2) (ls' := [(4, .int (zI (0))), (0, .ref 27), (1, .int (zI (f))), (2, .int (zI (c))), (3, .ref 32)]) (st' := []) (pc := 1) rfl rfl rfl rfl ?_
  refine zx_T.l (i := .iload_n 1) (k := 1) (v := .int (zI (f))) (pc := 3) rfl rfl rfl ?_
  refine zx_T.t (i := .istore 5) (k := 2) (ls' := [(5, .int (zI (f))), (4, .int (zI (0))), (0, .ref 27), (1, .int (zI (f))), (2, .int (zI (c))), (3, .ref 32)]) (st' := []) (pc := 4) rfl rfl rfl rfl ?_
  have a32 : ∀ j, 0 ≤ j → zv_a h 32 j = zv_a h 32 j := fun j hj => rfl
  refine zx_T.lk (ls' := [(0, .ref 27), (1, .int (zI (f))), (2, .int (zI (c))), (3, .ref 32), (4, .int (zI (0))), (5, .int (zI (f)))]) rfl ⟨rfl, rfl, rfl, rfl, rfl, rfl, trivial⟩ ?_
  exact zm_gather_32_L (h := h) hI (f := f) (c := c) f1 c1 c2 fc ((20 - f : Int).toNat + 1) (h2 := h) (m := 0) (i := f) hI (by omega) (by omega) (by omega) (by omega) zb_W.rf [] zs_bl_0 zs_gq_0 (Nat.lt_succ_self _)

set_option maxRecDepth 100000 in
set_option maxHeartbeats 4000000 in
theorem zm_gather_33_L {h : zx_H} (hI : zb_I zc_H h) {f : Int} {c : Int} (f1 : 0 ≤ f) (c1 : 0 ≤ c) (c2 : c ≤ 6) (fc : f + c ≤ 14) (n : Nat) : (∀ {h2 : zx_H} {m : Int} {i : Int} (hI2 : zb_I zc_H h2) (i1 : f ≤ i) (i2 : i ≤ f + c) (m1 : 0 ≤ m) (m2 : m ≤ i - f) (hw : zb_W [(33, 0)] h h2) (L2 : List Int) (bl2 : zs_bl m (zv_a h2 33) L2) (gq : zs_gq (zv_a h 29) f (f + c) L2 i), (20 - i : Int).toNat < n → zx_T zp_P 1 zp_m101 6 [(0, .ref 27), (1, .int (zI (f))), (2, .int (zI (c))), (3, .ref 33), (4, .int (zI (m))), (5, .int (zI (i)))] [] h2 (zr_R [(33, 0)] h (fun e h' => zs_bl e (zv_a h' 33) (zs_es (zv_a h 29) f (f + c)) ∧ 0 ≤ e ∧ e ≤ 6))) := by
  induction n with
  | zero => exact fun _ _ _ _ _ _ _ _ _ hm => absurd hm (Nat.not_lt_zero _)
  | succ n ih =>
    intro h2 m i hI2 i1 i2 m1 m2 hw L2 bl2 gq hm
    have e29 : zv_a h2 29 = zv_a h 29 := funext (fun q => zv_wa hw rfl q)
    refine zx_T.l (i := .iload 5) (k := 2) (v := .int (zI (i))) (pc := 6) rfl rfl rfl ?_
    refine zx_T.l (i := .iload_n 1) (k := 1) (v := .int (zI (f))) (pc := 8) rfl rfl rfl ?_
    refine zx_T.l (i := .iload_n 2) (k := 1) (v := .int (zI (c))) (pc := 9) rfl rfl rfl ?_
    refine zr_add (x := f) (y := c) (e := c + f) (pc := 10) rfl (by omega) ?_
    refine zr_i2 (x := i) (y := c + f) (t := 89) (pc := 11) rfl rfl (by omega) (by omega) (by omega) (by omega) (fun (c1 : (c + f) ≤ i) => ?_) (fun (c1 : ¬ ((c + f) ≤ i)) => ?_)
    · refine zx_T.l (i := .iload 4) (k := 2) (v := .int (zI (m))) (pc := 89) rfl rfl rfl ?_
      exact zr_ir (x := m) (pc := 91) rfl rfl rfl ⟨hI2, (hw.wd rfl : zb_W [(33, 0)] h _), _, rfl, by dsimp only; rw [show f + c = i by omega] at gq ⊢; have z9 := zs_gq_e gq (Int.le_refl i); exact ⟨by rw [← z9]; exact bl2, by omega, by omega⟩⟩
    · refine zx_T.l (i := .iload 5) (k := 2) (v := .int (zI (i))) (pc := 14) rfl rfl rfl ?_
      refine zx_T.l (i := .iload_n 1) (k := 1) (v := .int (zI (f))) (pc := 16) rfl rfl rfl ?_
      refine zr_i2 (x := i) (y := f) (t := 52) (pc := 17) rfl rfl (by omega) (by omega) (by omega) (by omega) (fun (c2 : i ≤ f) => ?_) (fun (c2 : ¬ (i ≤ f)) => ?_)
      · refine zx_T.s (i := .iconst 0) (k := 1) (st' := [.int (zI (0))]) (pc := 52) rfl rfl ?_
        refine zx_T.t (i := .istore 6) (k := 2) (ls' := [(6, .int (zI (0))), (0, .ref 27), (1, .int (zI (f))), (2, .int (zI (c))), (3, .ref 33), (4, .int (zI (m))), (5, .int (zI (i)))]) (st' := []) (pc := 53) rfl rfl rfl rfl ?_
        refine zx_T.l (i := .iload 6) (k := 2) (v := .int (zI (0))) (pc := 55) rfl rfl rfl ?_
        refine zr_i1 (x := 0) (t := 83) (pc := 57) rfl rfl (by omega) (by omega) (fun (c3 : ¬ 0 = 0) => absurd c3 (by decide)) (fun _ => ?_)
        refine zx_T.l (i := .iload 4) (k := 2) (v := .int (zI (m))) (pc := 60) rfl rfl rfl ?_
        refine zx_T.l (i := .aload_n 3) (k := 1) (v := .ref 33) (pc := 62) rfl rfl rfl ?_
        refine zw_len (e := 6) (pc := 63) rfl rfl rfl rfl hI2 ?_
        refine zr_i2 (x := m) (y := 6) (t := 83) (pc := 64) rfl rfl (by omega) (by omega) (by omega) (by omega) (fun (c4 : 6 ≤ m) => ?_) (fun (c4 : ¬ (6 ≤ m)) => ?_)
        · refine zr_inc (x := i) (n := 1) (y := i + 1) (ls' := [(5, .int (zI (i + 1))), (6, .int (zI (0))), (0, .ref 27), (1, .int (zI (f))), (2, .int (zI (c))), (3, .ref 33), (4, .int (zI (m)))]) (pc := 83) rfl rfl rfl (by omega) rfl ?_
          refine zx_T.j (i := .goto (-80)) (k := 3) (pc' := 6) (st' := []) (pc := 86) rfl rfl rfl rfl rfl ?_
          have a33 : ∀ j, 0 ≤ j → zv_a h2 33 j = zv_a h2 33 j := fun j hj => rfl
          refine zx_T.lk (ls' := [(0, .ref 27), (1, .int (zI (f))), (2, .int (zI (c))), (3, .ref 33), (4, .int (zI (m))), (5, .int (zI (i + 1)))]) rfl ⟨rfl, rfl, rfl, rfl, rfl, rfl, trivial⟩ ?_
          exact ih (h2 := h2) (m := m) (i := i + 1) hI2 (by omega) (by omega) (by omega) (by omega) (hw.wd rfl : zb_W [(33, 0)] h _) L2 bl2 (zs_gq_t gq ⟨by omega, by omega, by omega⟩) (by omega)
        · refine zx_T.l (i := .aload_n 3) (k := 1) (v := .ref 33) (pc := 67) rfl rfl rfl ?_
          refine zx_T.l (i := .iload 4) (k := 2) (v := .int (zI (m))) (pc := 68) rfl rfl rfl ?_
          refine zr_inc (x := m) (n := 1) (y := m + 1) (ls' := [(4, .int (zI (m + 1))), (6, .int (zI (0))), (0, .ref 27), (1, .int (zI (f))), (2, .int (zI (c))), (3, .ref 33), (5, .int (zI (i)))]) (pc := 70) rfl rfl rfl (by omega) rfl ?_
          refine zx_T.l (i := .aload_n 0) (k := 1) (v := .ref 27) (pc := 73) rfl rfl rfl ?_
          refine zw_gr (k := 2) (b := 28) (pc := 74) rfl rfl rfl hI2 ?_
          refine zx_T.l (i := .iload 5) (k := 2) (v := .int (zI (i))) (pc := 77) rfl rfl rfl ?_
          refine zw_iv (b := 28) (cj := 118) (q' := zp_m118) (As := [.int (zI (i))]) (rest := [.int (zI (m)), .ref 33]) (pc := 79) rfl rfl rfl rfl rfl rfl rfl (Nat.le_of_ble_eq_true rfl) rfl (Nat.le_of_ble_eq_true rfl) hI2 ((zm_kindOf_28 (h := h2) hI2 (i := i) (by omega) (by omega)).up (Nat.le_of_ble_eq_true rfl)) ?_
          rintro r6 h9 ⟨h9q, v7, r6q, x8⟩
          subst h9q r6q
          try dsimp only at x8
          have kc : v7 = zv_a h 29 i := (by have y := x8.1; rw [e29] at y; omega)
          show zx_T zp_P 1 zp_m101 82 [(4, .int (zI (m + 1))), (6, .int (zI (0))), (0, .ref 27), (1, .int (zI (f))), (2, .int (zI (c))), (3, .ref 33), (5, .int (zI (i)))] [.int (zI (v7)), .int (zI (m)), .ref 33] h2 _
          refine zr_as (n := 6) (lo := (-2147483648)) (hi := 2147483647) (e := v7) (pc := 82) rfl rfl rfl rfl hI2 (by omega) (by omega) (by omega) (by omega) (fun h10 ih10 w11 s12 => ?_)
          refine zr_inc (x := i) (n := 1) (y := i + 1) (ls' := [(5, .int (zI (i + 1))), (4, .int (zI (m + 1))), (6, .int (zI (0))), (0, .ref 27), (1, .int (zI (f))), (2, .int (zI (c))), (3, .ref 33)]) (pc := 83) rfl rfl rfl (by omega) rfl ?_
          refine zx_T.j (i := .goto (-80)) (k := 3) (pc' := 6) (st' := []) (pc := 86) rfl rfl rfl rfl rfl ?_
          have a33 : ∀ j, 0 ≤ j → zv_a h10 33 j = if j = m then v7 else zv_a h2 33 j := fun j hj => by rw [s12 j hj]
          refine zx_T.lk (ls' := [(0, .ref 27), (1, .int (zI (f))), (2, .int (zI (c))), (3, .ref 33), (4, .int (zI (m + 1))), (5, .int (zI (i + 1)))]) rfl ⟨rfl, rfl, rfl, rfl, rfl, rfl, trivial⟩ ?_
          exact ih (h2 := h10) (m := m + 1) (i := i + 1) ih10 (by omega) (by omega) (by omega) (by omega) ((hw.wd rfl : zb_W [(33, 0)] h _).tr (w11.wd rfl)) (L2 ++ [zv_a h 29 i]) (zs_bl_ap bl2 (fun j j0 => by rw [a33 j j0, kc])) (zs_gq_s i1 gq (by omega) (fun z => by omega)) (by omega)
      · refine zx_T.l (i := .aload_n 0) (k := 1) (v := .ref 27) (pc := 20) rfl rfl rfl ?_
        refine zw_gr (k := 2) (b := 28) (pc := 21) rfl rfl rfl hI2 ?_
        refine zx_T.l (i := .iload 5) (k := 2) (v := .int (zI (i))) (pc := 24) rfl rfl rfl ?_
        refine zw_iv (b := 28) (cj := 118) (q' := zp_m118) (As := [.int (zI (i))]) (rest := []) (pc := 26) rfl rfl rfl rfl rfl rfl rfl (Nat.le_of_ble_eq_true rfl) rfl (Nat.le_of_ble_eq_true rfl) hI2 ((zm_kindOf_28 (h := h2) hI2 (i := i) (by omega) (by omega)).up (Nat.le_of_ble_eq_true rfl)) ?_
        rintro r14 h17 ⟨h17q, v15, r14q, x16⟩
        subst h17q r14q
        try dsimp only at x16
        have ka := x16.1
        rw [e29] at ka
        show zx_T zp_P 1 zp_m101 29 [(0, .ref 27), (1, .int (zI (f))), (2, .int (zI (c))), (3, .ref 33), (4, .int (zI (m))), (5, .int (zI (i)))] [.int (zI (v15))] h2 _
        refine zx_T.s (i := .iconst 3) (k := 1) (st' := [.int (zI (3)), .int (zI (v15))]) (pc := 29) rfl rfl ?_
        refine zr_i2 (x := v15) (y := 3) (t := 52) (pc := 30) rfl rfl (by omega) (by omega) (by omega) (by omega) (fun (c18 : ¬ v15 = 3) => ?_) (fun (c18 : ¬ (¬ v15 = 3)) => ?_)
        · refine zx_T.s (i := .iconst 0) (k := 1) (st' := [.int (zI (0))]) (pc := 52) rfl rfl ?_
          refine zx_T.t (i := .istore 6) (k := 2) (ls' := [(6, .int (zI (0))), (0, .ref 27), (1, .int (zI (f))), (2, .int (zI (c))), (3, .ref 33), (4, .int (zI (m))), (5, .int (zI (i)))]) (st' := []) (pc := 53) rfl rfl rfl rfl ?_
          refine zx_T.l (i := .iload 6) (k := 2) (v := .int (zI (0))) (pc := 55) rfl rfl rfl ?_
          refine zr_i1 (x := 0) (t := 83) (pc := 57) rfl rfl (by omega) (by omega) (fun (c19 : ¬ 0 = 0) => absurd c19 (by decide)) (fun _ => ?_)
          refine zx_T.l (i := .iload 4) (k := 2) (v := .int (zI (m))) (pc := 60) rfl rfl rfl ?_
          refine zx_T.l (i := .aload_n 3) (k := 1) (v := .ref 33) (pc := 62) rfl rfl rfl ?_
          refine zw_len (e := 6) (pc := 63) rfl rfl rfl rfl hI2 ?_
          refine zr_i2 (x := m) (y := 6) (t := 83) (pc := 64) rfl rfl (by omega) (by omega) (by omega) (by omega) (fun (c20 : 6 ≤ m) => ?_) (fun (c20 : ¬ (6 ≤ m)) => ?_)
          · refine zr_inc (x := i) (n := 1) (y := i + 1) (ls' := [(5, .int (zI (i + 1))), (6, .int (zI (0))), (0, .ref 27), (1, .int (zI (f))), (2, .int (zI (c))), (3, .ref 33), (4, .int (zI (m)))]) (pc := 83) rfl rfl rfl (by omega) rfl ?_
            refine zx_T.j (i := .goto (-80)) (k := 3) (pc' := 6) (st' := []) (pc := 86) rfl rfl rfl rfl rfl ?_
            have a33 : ∀ j, 0 ≤ j → zv_a h2 33 j = zv_a h2 33 j := fun j hj => rfl
            refine zx_T.lk (ls' := [(0, .ref 27), (1, .int (zI (f))), (2, .int (zI (c))), (3, .ref 33), (4, .int (zI (m))), (5, .int (zI (i + 1)))]) rfl ⟨rfl, rfl, rfl, rfl, rfl, rfl, trivial⟩ ?_
            exact ih (h2 := h2) (m := m) (i := i + 1) hI2 (by omega) (by omega) (by omega) (by omega) (hw.wd rfl : zb_W [(33, 0)] h _) L2 bl2 (zs_gq_t gq ⟨by omega, by omega, by omega⟩) (by omega)
          · refine zx_T.l (i := .aload_n 3) (k := 1) (v := .ref 33) (pc := 67) rfl rfl rfl ?_
            refine zx_T.l (i := .iload 4) (k := 2) (v := .int (zI (m))) (pc := 68) rfl rfl rfl ?_
            refine zr_inc (x := m) (n := 1) (y := m + 1) (ls' := [(4, .int (zI (m + 1))), (6, .int (zI (0))), (0, .ref 27), (1, .int (zI (f))), (2, .int (zI (c))), (3, .ref 33), (5, .int (zI (i)))]) (pc := 70) rfl rfl rfl (by omega) rfl ?_
            refine zx_T.l (i := .aload_n 0) (k := 1) (v := .ref 27) (pc := 73) rfl rfl rfl ?_
            refine zw_gr (k := 2) (b := 28) (pc := 74) rfl rfl rfl hI2 ?_
            refine zx_T.l (i := .iload 5) (k := 2) (v := .int (zI (i))) (pc := 77) rfl rfl rfl ?_
            refine zw_iv (b := 28) (cj := 118) (q' := zp_m118) (As := [.int (zI (i))]) (rest := [.int (zI (m)), .ref 33]) (pc := 79) rfl rfl rfl rfl rfl rfl rfl (Nat.le_of_ble_eq_true rfl) rfl (Nat.le_of_ble_eq_true rfl) hI2 ((zm_kindOf_28 (h := h2) hI2 (i := i) (by omega) (by omega)).up (Nat.le_of_ble_eq_true rfl)) ?_
            rintro r22 h25 ⟨h25q, v23, r22q, x24⟩
            subst h25q r22q
            try dsimp only at x24
            have kc : v23 = zv_a h 29 i := (by have y := x24.1; rw [e29] at y; omega)
            show zx_T zp_P 1 zp_m101 82 [(4, .int (zI (m + 1))), (6, .int (zI (0))), (0, .ref 27), (1, .int (zI (f))), (2, .int (zI (c))), (3, .ref 33), (5, .int (zI (i)))] [.int (zI (v23)), .int (zI (m)), .ref 33] h2 _
            refine zr_as (n := 6) (lo := (-2147483648)) (hi := 2147483647) (e := v23) (pc := 82) rfl rfl rfl rfl hI2 (by omega) (by omega) (by omega) (by omega) (fun h26 ih26 w27 s28 => ?_)
            refine zr_inc (x := i) (n := 1) (y := i + 1) (ls' := [(5, .int (zI (i + 1))), (4, .int (zI (m + 1))), (6, .int (zI (0))), (0, .ref 27), (1, .int (zI (f))), (2, .int (zI (c))), (3, .ref 33)]) (pc := 83) rfl rfl rfl (by omega) rfl ?_
            refine zx_T.j (i := .goto (-80)) (k := 3) (pc' := 6) (st' := []) (pc := 86) rfl rfl rfl rfl rfl ?_
            have a33 : ∀ j, 0 ≤ j → zv_a h26 33 j = if j = m then v23 else zv_a h2 33 j := fun j hj => by rw [s28 j hj]
            refine zx_T.lk (ls' := [(0, .ref 27), (1, .int (zI (f))), (2, .int (zI (c))), (3, .ref 33), (4, .int (zI (m + 1))), (5, .int (zI (i + 1)))]) rfl ⟨rfl, rfl, rfl, rfl, rfl, rfl, trivial⟩ ?_
            exact ih (h2 := h26) (m := m + 1) (i := i + 1) ih26 (by omega) (by omega) (by omega) (by omega) ((hw.wd rfl : zb_W [(33, 0)] h _).tr (w27.wd rfl)) (L2 ++ [zv_a h 29 i]) (zs_bl_ap bl2 (fun j j0 => by rw [a33 j j0, kc])) (zs_gq_s i1 gq (by omega) (fun z => by omega)) (by omega)
        · refine zx_T.l (i := .aload_n 0) (k := 1) (v := .ref 27) (pc := 33) rfl rfl rfl ?_
          refine zw_gr (k := 2) (b := 28) (pc := 34) rfl rfl rfl hI2 ?_
          refine zx_T.l (i := .iload 5) (k := 2) (v := .int (zI (i))) (pc := 37) rfl rfl rfl ?_
          refine zx_T.s (i := .iconst 1) (k := 1) (st' := [.int (zI (1)), .int (zI (i)), .ref 28]) (pc := 39) rfl rfl ?_
          refine zr_sub (x := i) (y := 1) (e := i - 1) (pc := 40) rfl (by omega) ?_
          refine zw_iv (b := 28) (cj := 118) (q' := zp_m118) (As := [.int (zI (i - 1))]) (rest := []) (pc := 41) rfl rfl rfl rfl rfl rfl rfl (Nat.le_of_ble_eq_true rfl) rfl (Nat.le_of_ble_eq_true rfl) hI2 ((zm_kindOf_28 (h := h2) hI2 (i := i - 1) (by omega) (by omega)).up (Nat.le_of_ble_eq_true rfl)) ?_
          rintro r30 h33 ⟨h33q, v31, r30q, x32⟩
          subst h33q r30q
          try dsimp only at x32
          have kb := x32.1
          rw [e29] at kb
          show zx_T zp_P 1 zp_m101 44 [(0, .ref 27), (1, .int (zI (f))), (2, .int (zI (c))), (3, .ref 33), (4, .int (zI (m))), (5, .int (zI (i)))] [.int (zI (v31))] h2 _
          refine zx_T.s (i := .iconst 2) (k := 1) (st' := [.int (zI (2)), .int (zI (v31))]) (pc := 44) rfl rfl ?_
          refine zr_i2 (x := v31) (y := 2) (t := 52) (pc := 45) rfl rfl (by omega) (by omega) (by omega) (by omega) (fun (c34 : ¬ v31 = 2) => ?_) (fun (c34 : ¬ (¬ v31 = 2)) => ?_)
          · refine zx_T.s (i := .iconst 0) (k := 1) (st' := [.int (zI (0))]) (pc := 52) rfl rfl ?_
            refine zx_T.t (i := .istore 6) (k := 2) (ls' := [(6, .int (zI (0))), (0, .ref 27), (1, .int (zI (f))), (2, .int (zI (c))), (3, .ref 33), (4, .int (zI (m))), (5, .int (zI (i)))]) (st' := []) (pc := 53) rfl rfl rfl rfl ?_
            refine zx_T.l (i := .iload 6) (k := 2) (v := .int (zI (0))) (pc := 55) rfl rfl rfl ?_
            refine zr_i1 (x := 0) (t := 83) (pc := 57) rfl rfl (by omega) (by omega) (fun (c35 : ¬ 0 = 0) => absurd c35 (by decide)) (fun _ => ?_)
            refine zx_T.l (i := .iload 4) (k := 2) (v := .int (zI (m))) (pc := 60) rfl rfl rfl ?_
            refine zx_T.l (i := .aload_n 3) (k := 1) (v := .ref 33) (pc := 62) rfl rfl rfl ?_
            refine zw_len (e := 6) (pc := 63) rfl rfl rfl rfl hI2 ?_
            refine zr_i2 (x := m) (y := 6) (t := 83) (pc := 64) rfl rfl (by omega) (by omega) (by omega) (by omega) (fun (c36 : 6 ≤ m) => ?_) (fun (c36 : ¬ (6 ≤ m)) => ?_)
            · refine zr_inc (x := i) (n := 1) (y := i + 1) (ls' := [(5, .int (zI (i + 1))), (6, .int (zI (0))), (0, .ref 27), (1, .int (zI (f))), (2, .int (zI (c))), (3, .ref 33), (4, .int (zI (m)))]) (pc := 83) rfl rfl rfl (by omega) rfl ?_
              refine zx_T.j (i := .goto (-80)) (k := 3) (pc' := 6) (st' := []) (pc := 86) rfl rfl rfl rfl rfl ?_
              have a33 : ∀ j, 0 ≤ j → zv_a h2 33 j = zv_a h2 33 j := fun j hj => rfl
              refine zx_T.lk (ls' := [(0, .ref 27), (1, .int (zI (f))), (2, .int (zI (c))), (3, .ref 33), (4, .int (zI (m))), (5, .int (zI (i + 1)))]) rfl ⟨rfl, rfl, rfl, rfl, rfl, rfl, trivial⟩ ?_
              exact ih (h2 := h2) (m := m) (i := i + 1) hI2 (by omega) (by omega) (by omega) (by omega) (hw.wd rfl : zb_W [(33, 0)] h _) L2 bl2 (zs_gq_t gq ⟨by omega, by omega, by omega⟩) (by omega)
            · refine zx_T.l (i := .aload_n 3) (k := 1) (v := .ref 33) (pc := 67) rfl rfl rfl ?_
              refine zx_T.l (i := .iload 4) (k := 2) (v := .int (zI (m))) (pc := 68) rfl rfl rfl ?_
              refine zr_inc (x := m) (n := 1) (y := m + 1) (ls' := [(4, .int (zI (m + 1))), (6, .int (zI (0))), (0, .ref 27), (1, .int (zI (f))), (2, .int (zI (c))), (3, .ref 33), (5, .int (zI (i)))]) (pc := 70) rfl rfl rfl (by omega) rfl ?_
              refine zx_T.l (i := .aload_n 0) (k := 1) (v := .ref 27) (pc := 73) rfl rfl rfl ?_
              refine zw_gr (k := 2) (b := 28) (pc := 74) rfl rfl rfl hI2 ?_
              refine zx_T.l (i := .iload 5) (k := 2) (v := .int (zI (i))) (pc := 77) rfl rfl rfl ?_
              refine zw_iv (b := 28) (cj := 118) (q' := zp_m118) (As := [.int (zI (i))]) (rest := [.int (zI (m)), .ref 33]) (pc := 79) rfl rfl rfl rfl rfl rfl rfl (Nat.le_of_ble_eq_true rfl) rfl (Nat.le_of_ble_eq_true rfl) hI2 ((zm_kindOf_28 (h := h2) hI2 (i := i) (by omega) (by omega)).up (Nat.le_of_ble_eq_true rfl)) ?_
              rintro r38 h41 ⟨h41q, v39, r38q, x40⟩
              subst h41q r38q
              try dsimp only at x40
              have kc : v39 = zv_a h 29 i := (by have y := x40.1; rw [e29] at y; omega)
              show zx_T zp_P 1 zp_m101 82 [(4, .int (zI (m + 1))), (6, .int (zI (0))), (0, .ref 27), (1, .int (zI (f))), (2, .int (zI (c))), (3, .ref 33), (5, .int (zI (i)))] [.int (zI (v39)), .int (zI (m)), .ref 33] h2 _
              refine zr_as (n := 6) (lo := (-2147483648)) (hi := 2147483647) (e := v39) (pc := 82) rfl rfl rfl rfl hI2 (by omega) (by omega) (by omega) (by omega) (fun h42 ih42 w43 s44 => ?_)
              refine zr_inc (x := i) (n := 1) (y := i + 1) (ls' := [(5, .int (zI (i + 1))), (4, .int (zI (m + 1))), (6, .int (zI (0))), (0, .ref 27), (1, .int (zI (f))), (2, .int (zI (c))), (3, .ref 33)]) (pc := 83) rfl rfl rfl (by omega) rfl ?_
              refine zx_T.j (i := .goto (-80)) (k := 3) (pc' := 6) (st' := []) (pc := 86) rfl rfl rfl rfl rfl ?_
              have a33 : ∀ j, 0 ≤ j → zv_a h42 33 j = if j = m then v39 else zv_a h2 33 j := fun j hj => by rw [s44 j hj]
              refine zx_T.lk (ls' := [(0, .ref 27), (1, .int (zI (f))), (2, .int (zI (c))), (3, .ref 33), (4, .int (zI (m + 1))), (5, .int (zI (i + 1)))]) rfl ⟨rfl, rfl, rfl, rfl, rfl, rfl, trivial⟩ ?_
              exact ih (h2 := h42) (m := m + 1) (i := i + 1) ih42 (by omega) (by omega) (by omega) (by omega) ((hw.wd rfl : zb_W [(33, 0)] h _).tr (w43.wd rfl)) (L2 ++ [zv_a h 29 i]) (zs_bl_ap bl2 (fun j j0 => by rw [a33 j j0, kc])) (zs_gq_s i1 gq (by omega) (fun z => by omega)) (by omega)
          · refine zx_T.s (i := .iconst 1) (k := 1) (st' := [.int (zI (1))]) (pc := 48) rfl rfl ?_
            refine zx_T.j (i := .goto 4) (k := 3) (pc' := 53) (st' := [.int (zI (1))]) (pc := 49) rfl rfl rfl rfl rfl ?_
            refine zx_T.t (i := .istore 6) (k := 2) (ls' := [(6, .int (zI (1))), (0, .ref 27), (1, .int (zI (f))), (2, .int (zI (c))), (3, .ref 33), (4, .int (zI (m))), (5, .int (zI (i)))]) (st' := []) (pc := 53) rfl rfl rfl rfl ?_
            refine zx_T.l (i := .iload 6) (k := 2) (v := .int (zI (1))) (pc := 55) rfl rfl rfl ?_
            refine zr_i1 (x := 1) (t := 83) (pc := 57) rfl rfl (by omega) (by omega) (fun _ => ?_) (fun (c46 : ¬ (¬ 1 = 0)) => absurd (by decide) c46)
            refine zr_inc (x := i) (n := 1) (y := i + 1) (ls' := [(5, .int (zI (i + 1))), (6, .int (zI (1))), (0, .ref 27), (1, .int (zI (f))), (2, .int (zI (c))), (3, .ref 33), (4, .int (zI (m)))]) (pc := 83) rfl rfl rfl (by omega) rfl ?_
            refine zx_T.j (i := .goto (-80)) (k := 3) (pc' := 6) (st' := []) (pc := 86) rfl rfl rfl rfl rfl ?_
            have a33 : ∀ j, 0 ≤ j → zv_a h2 33 j = zv_a h2 33 j := fun j hj => rfl
            refine zx_T.lk (ls' := [(0, .ref 27), (1, .int (zI (f))), (2, .int (zI (c))), (3, .ref 33), (4, .int (zI (m))), (5, .int (zI (i + 1)))]) rfl ⟨rfl, rfl, rfl, rfl, rfl, rfl, trivial⟩ ?_
            exact ih (h2 := h2) (m := m) (i := i + 1) hI2 (by omega) (by omega) (by omega) (by omega) (hw.wd rfl : zb_W [(33, 0)] h _) L2 bl2 (zs_gq_t gq ⟨by omega, by omega, by omega⟩) (by omega)
set_option maxRecDepth 100000 in
set_option maxHeartbeats 4000000 in
theorem zm_gather_33 {h : zx_H} (hI : zb_I zc_H h) {f : Int} {c : Int} (f1 : 0 ≤ f) (c1 : 0 ≤ c) (c2 : c ≤ 6) (fc : f + c ≤ 14) : zx_T zp_P 1 zp_m101 0 [(0, .ref 27), (1, .int (zI (f))), (2, .int (zI (c))), (3, .ref 33)] [] h (zr_R [(33, 0)] h (fun e h' => zs_bl e (zv_a h' 33) (zs_es (zv_a h 29) f (f + c)) ∧ 0 ≤ e ∧ e ≤ 6)) := by
  refine zx_T.s (i := .iconst 0) (k := 1) (st' := [.int (zI (0))]) (pc := 0) rfl rfl ?_
  refine zx_T.t (i := .istore 4) (k := 2) (ls' := [(4, .int (zI (0))), (0, .ref 27), (1, .int (zI (f))), (2, .int (zI (c))), (3, .ref 33)]) (st' := []) (pc := 1) rfl rfl rfl rfl ?_
  refine zx_T.l (i := .iload_n 1) (k := 1) (v := .int (zI (f))) (pc := 3) rfl rfl rfl ?_
  refine zx_T.t (i := .istore 5) (k := 2) (ls' := [(5, .int (zI (f))), (4, .int (zI (0))), (0, .ref 27), (1, .int (zI (f))), (2, .int (zI (c))), (3, .ref 33)]) (st' := []) (pc := 4) rfl rfl rfl rfl ?_
  have a33 : ∀ j, 0 ≤ j → zv_a h 33 j = zv_a h 33 j := fun j hj => rfl
  refine zx_T.lk (ls' := [(0, .ref 27), (1, .int (zI (f))), (2, .int (zI (c))), (3, .ref 33), (4, .int (zI (0))), (5, .int (zI (f)))]) rfl ⟨rfl, rfl, rfl, rfl, rfl, rfl, trivial⟩ ?_
  exact zm_gather_33_L (h := h) hI (f := f) (c := c) f1 c1 c2 fc ((20 - f : Int).toNat + 1) (h2 := h) (m := 0) (i := f) hI (by omega) (by omega) (by omega) (by omega) zb_W.rf [] zs_bl_0 zs_gq_0 (Nat.lt_succ_self _)

set_option maxRecDepth 100000 in
set_option maxHeartbeats 4000000 in
theorem zm_keepAhead_L {h : zx_H} (hI : zb_I zc_H h)   (n : Nat) : (∀ {h2 : zx_H} {k : Int} (hI2 : zb_I zc_H h2) (k1 : 0 ≤ k) (k2 : k ≤ 8) (hw : zb_W [(27, 6), (31, 0)] h h2) (f6 : zv_f h2 27 6 = zv_f h 27 8) (hj : ∀ j, 0 ≤ j → j < k → zv_a h2 31 j = zv_a h 32 j), (8 - k : Int).toNat < n → zx_T zp_P 0 zp_m102 10 [(0, .ref 27), (1, .int (zI (k)))] [] h2 (zr_V [(27, 6), (31, 0)] h (fun h' => zv_f h' 27 6 = zv_f h 27 8 ∧ ∀ j, 0 ≤ j → j < 8 → zv_a h' 31 j = zv_a h 32 j))) := by
  induction n with
  | zero => exact fun _ _ _ _ _ _ hm => absurd hm (Nat.not_lt_zero _)
  | succ n ih =>
    intro h2 k hI2 k1 k2 hw f6 hj hm
    have h8 := zw_ri hI (a := 27) (k := 8) rfl
    refine zx_T.l (i := .iload_n 1) (k := 1) (v := .int (zI (k))) (pc := 10) rfl rfl rfl ?_
    refine zx_T.s (i := .bipush 8) (k := 2) (st' := [.int (zI (8)), .int (zI (k))]) (pc := 11) rfl rfl ?_
    refine zr_i2 (x := k) (y := 8) (t := 34) (pc := 13) rfl rfl (by omega) (by omega) (by omega) (by omega) (fun (c1 : 8 ≤ k) => ?_) (fun (c1 : ¬ (8 ≤ k)) => ?_)
    · exact zr_vr (pc := 34) rfl rfl ⟨hI2, (hw.wd rfl : zb_W [(27, 6), (31, 0)] h _), rfl, by dsimp only; exact ⟨f6, fun j j0 j1 => hj j j0 (by omega)⟩⟩
    · refine zx_T.l (i := .aload_n 0) (k := 1) (v := .ref 27) (pc := 16) rfl rfl rfl ?_
      refine zw_gr (k := 5) (b := 31) (pc := 17) rfl rfl rfl hI2 ?_
      refine zx_T.l (i := .iload_n 1) (k := 1) (v := .int (zI (k))) (pc := 20) rfl rfl rfl ?_
      refine zx_T.l (i := .aload_n 0) (k := 1) (v := .ref 27) (pc := 21) rfl rfl rfl ?_
      refine zw_gr (k := 7) (b := 32) (pc := 22) rfl rfl rfl hI2 ?_
      refine zx_T.l (i := .iload_n 1) (k := 1) (v := .int (zI (k))) (pc := 25) rfl rfl rfl ?_
      refine zr_al (n := 8) (lo := (-2147483648)) (hi := 2147483647) (e := zv_a h 32 k) (pc := 26) rfl rfl rfl hI2 (by omega) (by omega) (zv_wa hw rfl k) (fun g2a g2b => ?_)
      refine zr_as (n := 8) (lo := (-2147483648)) (hi := 2147483647) (e := zv_a h 32 k) (pc := 27) rfl rfl rfl rfl hI2 (by omega) (by omega) (by omega) (by omega) (fun h3 ih3 w4 s5 => ?_)
      refine zr_inc (x := k) (n := 1) (y := k + 1) (ls' := [(1, .int (zI (k + 1))), (0, .ref 27)]) (pc := 28) rfl rfl rfl (by omega) rfl ?_
      refine zx_T.j (i := .goto (-21)) (k := 3) (pc' := 10) (st' := []) (pc := 31) rfl rfl rfl rfl rfl ?_
      have a31 : ∀ j, 0 ≤ j → zv_a h3 31 j = if j = k then zv_a h 32 k else zv_a h2 31 j := fun j hj => by rw [s5 j hj]
      have y7 : zv_f h3 27 6 = zv_f h2 27 6 := (zv_wf w4 rfl)
      refine zx_T.lk (ls' := [(0, .ref 27), (1, .int (zI (k + 1)))]) rfl ⟨rfl, rfl, trivial⟩ ?_
      exact ih (h2 := h3) (k := k + 1) ih3 (by omega) (by omega) ((hw.wd rfl : zb_W [(27, 6), (31, 0)] h _).tr (w4.wd rfl)) (by omega) (fun j j0 j1 => by rw [a31 j j0]; exact if z : j = k then (by rw [if_pos z, z]) else (by rw [if_neg z]; exact hj j j0 (by omega))) (by omega)
set_option maxRecDepth 100000 in
set_option maxHeartbeats 4000000 in
theorem zm_keepAhead {h : zx_H} (hI : zb_I zc_H h)   : zx_T zp_P 0 zp_m102 0 [(0, .ref 27)] [] h (zr_V [(27, 6), (31, 0)] h (fun h' => zv_f h' 27 6 = zv_f h 27 8 ∧ ∀ j, 0 ≤ j → j < 8 → zv_a h' 31 j = zv_a h 32 j)) := by
  have h8 := zw_ri hI (a := 27) (k := 8) rfl
  refine zx_T.l (i := .aload_n 0) (k := 1) (v := .ref 27) (pc := 0) rfl rfl rfl ?_
  refine zx_T.l (i := .aload_n 0) (k := 1) (v := .ref 27) (pc := 1) rfl rfl rfl ?_
  refine zw_gi (k := 8) (lo := 0) (hi := 8) (e := zv_f h 27 8) (pc := 2) rfl rfl rfl hI rfl (fun g8a g8b => ?_)
  refine zw_pi (k := 6) (lo := 0) (hi := 8) (e := zv_f h 27 8) (pc := 5) rfl rfl rfl rfl rfl rfl hI (by omega) (by omega) (fun h9 ih9 w10 e11 => ?_)
  refine zx_T.s (i := .iconst 0) (k := 1) (st' := [.int (zI (0))]) (pc := 8) rfl rfl ?_
  refine zx_T.t (i := .istore_n 1) (k := 1) (ls' := [(1, .int (zI (0))), (0, .ref 27)]) (st' := []) (pc := 9) rfl rfl rfl rfl ?_
  have a31 : ∀ j, 0 ≤ j → zv_a h9 31 j = zv_a h 31 j := fun j hj => by rw [zv_wa w10 rfl j]
  have y13 : zv_f h9 27 6 = zv_f h 27 8 := e11
  refine zx_T.lk (ls' := [(0, .ref 27), (1, .int (zI (0)))]) rfl ⟨rfl, rfl, trivial⟩ ?_
  exact zm_keepAhead_L (h := h) hI   ((8 - 0 : Int).toNat + 1) (h2 := h9) (k := 0) ih9 (by omega) (by omega) (w10.wd rfl : zb_W [(27, 6), (31, 0)] h _) (by omega) (fun j j0 j1 => absurd j1 (by omega)) (Nat.lt_succ_self _)

set_option maxRecDepth 100000 in
set_option maxHeartbeats 4000000 in
theorem zm_gatherParameters_L {h : zx_H} (hI : zb_I zc_H h)  (wl : zw_loc 0 8 (zs_row (zc_Pg h))) (n : Nat) : (∀ {h2 : zx_H} {i : Int} (hI2 : zb_I zc_H h2) (i1 : 0 ≤ i) (i2 : i ≤ zv_f h 1 10) (hw : zb_W [(27, 6), (31, 0)] h h2) (ml : zv_f h2 27 6 ≤ i) (L2 : List Int) (bl2 : zs_bl (zv_f h2 27 6) (zv_a h2 31) L2) (gq : zs_gq (zs_row (zc_Pg h)) 0 (zv_f h 1 10) L2 i), (20 - i : Int).toNat < n → zx_T zp_P 1 zp_m99 7 [(0, .ref 27), (1, .int (zI (i)))] [] h2 (zr_V [(27, 6), (31, 0)] h (fun h' => zs_bl (zv_f h' 27 6) (zv_a h' 31) (zs_es (zs_row (zc_Pg h)) 0 (zv_f h 1 10))))) := by
  induction n with
  | zero => exact fun _ _ _ _ _ _ _ _ hm => absurd hm (Nat.not_lt_zero _)
  | succ n ih =>
    intro h2 i hI2 i1 i2 hw ml L2 bl2 gq hm
    have hQ := zw_ri hI (a := 1) (k := 10) rfl
    have d9 : zv_f h2 1 10 = zv_f h 1 10 := zv_wf hw rfl
    have h6 := zw_ri hI2 (a := 27) (k := 6) rfl
    refine zx_T.l (i := .iload_n 1) (k := 1) (v := .int (zI (i))) (pc := 7) rfl rfl rfl ?_
    refine zx_T.l (i := .aload_n 0) (k := 1) (v := .ref 27) (pc := 8) rfl rfl rfl ?_
    refine zw_gr (k := 0) (b := 1) (pc := 9) rfl rfl rfl hI2 ?_
    refine zw_iv (b := 1) (cj := 6) (q' := zp_m6) (As := []) (rest := [.int (zI (i))]) (pc := 12) rfl rfl rfl rfl rfl rfl rfl (Nat.le_of_ble_eq_true rfl) rfl (Nat.le_of_ble_eq_true rfl) hI2 ((zm_cFilled (h := h2) hI2  ).up (Nat.le_of_ble_eq_true rfl)) ?_
    rintro r1 h4 ⟨h4q, v2, r1q, x3⟩
    subst h4q r1q
    try dsimp only at x3
    show zx_T zp_P 1 zp_m99 15 [(0, .ref 27), (1, .int (zI (i)))] [.int (zI (v2)), .int (zI (i))] h2 _
    refine zr_i2 (x := i) (y := v2) (t := 69) (pc := 15) rfl rfl (by omega) (by omega) (by omega) (by omega) (fun (c5 : v2 ≤ i) => ?_) (fun (c5 : ¬ (v2 ≤ i)) => ?_)
    · exact zr_vr (pc := 69) rfl rfl ⟨hI2, (hw.wd rfl : zb_W [(27, 6), (31, 0)] h _), rfl, by dsimp only; have z9 := zs_gq_e gq (by omega); rw [← z9]; exact bl2⟩
    · refine zx_T.l (i := .aload_n 0) (k := 1) (v := .ref 27) (pc := 18) rfl rfl rfl ?_
      refine zw_gi (k := 6) (lo := 0) (hi := 8) (e := zv_f h2 27 6) (pc := 19) rfl rfl rfl hI2 rfl (fun g6a g6b => ?_)
      refine zx_T.s (i := .bipush 8) (k := 2) (st' := [.int (zI (8)), .int (zI (zv_f h2 27 6))]) (pc := 22) rfl rfl ?_
      refine zr_i2 (x := zv_f h2 27 6) (y := 8) (t := 69) (pc := 24) rfl rfl (by omega) (by omega) (by omega) (by omega) (fun (c7 : 8 ≤ (zv_f h2 27 6)) => ?_) (fun (c7 : ¬ (8 ≤ (zv_f h2 27 6))) => ?_)
      · exact zr_vr (pc := 69) rfl rfl ⟨hI2, (hw.wd rfl : zb_W [(27, 6), (31, 0)] h _), rfl, by dsimp only; have z9 := zs_gq_e gq (by omega); rw [← z9]; exact bl2⟩
      · refine zx_T.l (i := .aload_n 0) (k := 1) (v := .ref 27) (pc := 27) rfl rfl rfl ?_
        refine zw_gr (k := 0) (b := 1) (pc := 28) rfl rfl rfl hI2 ?_
        refine zx_T.l (i := .iload_n 1) (k := 1) (v := .int (zI (i))) (pc := 31) rfl rfl rfl ?_
        refine zw_iv (b := 1) (cj := 19) (q' := zp_m19) (As := [.int (zI (i))]) (rest := []) (pc := 32) rfl rfl rfl rfl rfl rfl rfl (Nat.le_of_ble_eq_true rfl) rfl (Nat.le_of_ble_eq_true rfl) hI2 ((zm_cParKind (h := h2) hI2 (i := i) (by omega) (by omega)).up (Nat.le_of_ble_eq_true rfl)) ?_
        rintro r8 h11 ⟨h11q, v9, r8q, x10⟩
        subst h11q r8q
        try dsimp only at x10
        have pA : v9 = zs_row (zc_Pg h) i := (by have y := x10.1; rw [d9, zv_wa hw (a := 9) rfl] at y; show v9 = if i < zv_f h 1 10 then zv_a h 9 i else 0; rw [if_pos (by omega)]; omega)
        show zx_T zp_P 1 zp_m99 35 [(0, .ref 27), (1, .int (zI (i)))] [.int (zI (v9))] h2 _
        refine zx_T.s (i := .iconst 3) (k := 1) (st' := [.int (zI (3)), .int (zI (v9))]) (pc := 35) rfl rfl ?_
        refine zr_i2 (x := v9) (y := 3) (t := 63) (pc := 36) rfl rfl (by omega) (by omega) (by omega) (by omega) (fun (c12 : v9 = 3) => ?_) (fun (c12 : ¬ (v9 = 3)) => ?_)
        · refine zr_inc (x := i) (n := 1) (y := i + 1) (ls' := [(1, .int (zI (i + 1))), (0, .ref 27)]) (pc := 63) rfl rfl rfl (by omega) rfl ?_
          refine zx_T.j (i := .goto (-59)) (k := 3) (pc' := 7) (st' := []) (pc := 66) rfl rfl rfl rfl rfl ?_
          have a31 : ∀ j, 0 ≤ j → zv_a h2 31 j = zv_a h2 31 j := fun j hj => rfl
          refine zx_T.lk (ls' := [(0, .ref 27), (1, .int (zI (i + 1)))]) rfl ⟨rfl, rfl, trivial⟩ ?_
          exact ih (h2 := h2) (i := i + 1) hI2 (by omega) (by omega) (hw.wd rfl : zb_W [(27, 6), (31, 0)] h _) (by omega) L2 bl2 (zs_gq_t gq (by have w9 := (wl i i1 (by omega)).2 (by omega); exact ⟨w9.1, by omega, w9.2⟩)) (by omega)
        · refine zx_T.l (i := .aload_n 0) (k := 1) (v := .ref 27) (pc := 39) rfl rfl rfl ?_
          refine zw_gr (k := 5) (b := 31) (pc := 40) rfl rfl rfl hI2 ?_
          refine zx_T.l (i := .aload_n 0) (k := 1) (v := .ref 27) (pc := 43) rfl rfl rfl ?_
          refine zx_T.s (i := .dup) (k := 1) (st' := [.ref 27, .ref 27, .ref 31]) (pc := 44) rfl rfl ?_
          refine zw_gi (k := 6) (lo := 0) (hi := 8) (e := zv_f h2 27 6) (pc := 45) rfl rfl rfl hI2 rfl (fun g15a g15b => ?_)
          refine zx_T.s (i := .dup_x1) (k := 1) (st' := [.int (zI (zv_f h2 27 6)), .ref 27, .int (zI (zv_f h2 27 6)), .ref 31]) (pc := 48) rfl rfl ?_
          refine zx_T.s (i := .iconst 1) (k := 1) (st' := [.int (zI (1)), .int (zI (zv_f h2 27 6)), .ref 27, .int (zI (zv_f h2 27 6)), .ref 31]) (pc := 49) rfl rfl ?_
          refine zr_add (x := zv_f h2 27 6) (y := 1) (e := zv_f h2 27 6 + 1) (pc := 50) rfl (by omega) ?_
          refine zw_pi (k := 6) (lo := 0) (hi := 8) (e := zv_f h2 27 6 + 1) (pc := 51) rfl rfl rfl rfl rfl rfl hI2 (by omega) (by omega) (fun h16 ih16 w17 e18 => ?_)
          refine zx_T.l (i := .aload_n 0) (k := 1) (v := .ref 27) (pc := 54) rfl rfl rfl ?_
          refine zw_gr (k := 0) (b := 1) (pc := 55) rfl rfl rfl ih16 ?_
          refine zx_T.l (i := .iload_n 1) (k := 1) (v := .int (zI (i))) (pc := 58) rfl rfl rfl ?_
          refine zw_iv (b := 1) (cj := 19) (q' := zp_m19) (As := [.int (zI (i))]) (rest := [.int (zI (zv_f h2 27 6)), .ref 31]) (pc := 59) rfl rfl rfl rfl rfl rfl rfl (Nat.le_of_ble_eq_true rfl) rfl (Nat.le_of_ble_eq_true rfl) ih16 ((zm_cParKind (h := h16) ih16 (i := i) (by omega) (by omega)).up (Nat.le_of_ble_eq_true rfl)) ?_
          rintro r19 h22 ⟨h22q, v20, r19q, x21⟩
          subst h22q r19q
          try dsimp only at x21
          have pB : v20 = zs_row (zc_Pg h) i := (by have y := x21.1; rw [zv_wf ((hw.wd rfl : zb_W [(27, 6), (31, 0)] h _).tr (w17.wd rfl)) rfl, zv_wa ((hw.wd rfl : zb_W [(27, 6), (31, 0)] h _).tr (w17.wd rfl)) (a := 9) rfl] at y; show v20 = if i < zv_f h 1 10 then zv_a h 9 i else 0; rw [if_pos (by omega)]; omega)
          show zx_T zp_P 1 zp_m99 62 [(0, .ref 27), (1, .int (zI (i)))] [.int (zI (v20)), .int (zI (zv_f h2 27 6)), .ref 31] h16 _
          refine zr_as (n := 8) (lo := (-2147483648)) (hi := 2147483647) (e := v20) (pc := 62) rfl rfl rfl rfl ih16 (by omega) (by omega) (by omega) (by omega) (fun h23 ih23 w24 s25 => ?_)
          refine zr_inc (x := i) (n := 1) (y := i + 1) (ls' := [(1, .int (zI (i + 1))), (0, .ref 27)]) (pc := 63) rfl rfl rfl (by omega) rfl ?_
          refine zx_T.j (i := .goto (-59)) (k := 3) (pc' := 7) (st' := []) (pc := 66) rfl rfl rfl rfl rfl ?_
          have a31 : ∀ j, 0 ≤ j → zv_a h23 31 j = if j = zv_f h2 27 6 then v20 else zv_a h2 31 j := fun j hj => by rw [s25 j hj, zv_wa w17 rfl j]
          have y27 : zv_f h23 27 6 = zv_f h2 27 6 + 1 := ((zv_wf w24 rfl).trans e18)
          refine zx_T.lk (ls' := [(0, .ref 27), (1, .int (zI (i + 1)))]) rfl ⟨rfl, rfl, trivial⟩ ?_
          exact ih (h2 := h23) (i := i + 1) ih23 (by omega) (by omega) (((hw.wd rfl : zb_W [(27, 6), (31, 0)] h _).tr (w17.wd rfl)).tr (w24.wd rfl)) (by omega) (L2 ++ [zs_row (zc_Pg h) i]) (by rw [show zv_f h23 27 6 = zv_f h2 27 6 + 1 by omega]; exact zs_bl_ap bl2 (fun j j0 => by rw [a31 j j0, pB])) (zs_gq_s i1 gq (by omega) (fun z => by omega)) (by omega)
set_option maxRecDepth 100000 in
set_option maxHeartbeats 4000000 in
theorem zm_gatherParameters {h : zx_H} (hI : zb_I zc_H h)  (wl : zw_loc 0 8 (zs_row (zc_Pg h))) : zx_T zp_P 1 zp_m99 0 [(0, .ref 27)] [] h (zr_V [(27, 6), (31, 0)] h (fun h' => zs_bl (zv_f h' 27 6) (zv_a h' 31) (zs_es (zs_row (zc_Pg h)) 0 (zv_f h 1 10)))) := by
  have hQ := zw_ri hI (a := 1) (k := 10) rfl
  refine zx_T.l (i := .aload_n 0) (k := 1) (v := .ref 27) (pc := 0) rfl rfl rfl ?_
  refine zx_T.s (i := .iconst 0) (k := 1) (st' := [.int (zI (0)), .ref 27]) (pc := 1) rfl rfl ?_
  refine zw_pi (k := 6) (lo := 0) (hi := 8) (e := 0) (pc := 2) rfl rfl rfl rfl rfl rfl hI (by omega) (by omega) (fun h28 ih28 w29 e30 => ?_)
  refine zx_T.s (i := .iconst 0) (k := 1) (st' := [.int (zI (0))]) (pc := 5) rfl rfl ?_
  refine zx_T.t (i := .istore_n 1) (k := 1) (ls' := [(1, .int (zI (0))), (0, .ref 27)]) (st' := []) (pc := 6) rfl rfl rfl rfl ?_
  have a31 : ∀ j, 0 ≤ j → zv_a h28 31 j = zv_a h 31 j := fun j hj => by rw [zv_wa w29 rfl j]
  have y32 : zv_f h28 27 6 = 0 := e30
  refine zx_T.lk (ls' := [(0, .ref 27), (1, .int (zI (0)))]) rfl ⟨rfl, rfl, trivial⟩ ?_
  exact zm_gatherParameters_L (h := h) hI  wl ((20 - 0 : Int).toNat + 1) (h2 := h28) (i := 0) ih28 (by omega) (by omega) (w29.wd rfl : zb_W [(27, 6), (31, 0)] h _) (by omega) [] (by rw [show zv_f h28 27 6 = 0 by omega]; exact zs_bl_0) zs_gq_0 (Nat.lt_succ_self _)
