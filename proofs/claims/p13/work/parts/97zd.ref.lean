/-! ===== 97zd: the reference, method by method (by program) ===== -/
set_option maxRecDepth 100000 in
set_option maxHeartbeats 4000000 in
theorem zm_cByteAtX {h : zx_H} (hI : zb_I zc_H h) {i : Int} (i1 : -2147483648 ≤ i) (i2 : i ≤ 2147483647) : zx_T zp_P 0 zp_m97 0 [(0, .ref 27), (1, .int (zI (i)))] [] h (zr_P h (fun e => (0 ≤ i → i < zv_f h 27 4 → e = zv_a h 30 i) ∧ (-2147483648) ≤ e ∧ e ≤ 2147483647)) := by
  have hP := zw_ri hI (a := 27) (k := 4) rfl
  refine zx_T.l (i := .iload_n 1) (k := 1) (v := .int (zI (i))) (pc := 0) rfl rfl rfl ?_
  refine zr_i1 (x := i) (t := 28) (pc := 1) rfl rfl (by omega) (by omega) (fun (c1 : i < 0) => ?_) (fun (c1 : ¬ (i < 0)) => ?_)
  · refine zx_T.s (i := .iconst 0) (k := 1) (st' := [.int (zI (0))]) (pc := 28) rfl rfl ?_
    exact zr_ir (x := 0) (pc := 29) rfl rfl rfl ⟨rfl, _, rfl, by dsimp only; exact ⟨fun z1 z2 => by first | rfl | (exfalso; omega), by omega, by omega⟩⟩
  · refine zx_T.l (i := .iload_n 1) (k := 1) (v := .int (zI (i))) (pc := 4) rfl rfl rfl ?_
    refine zx_T.l (i := .aload_n 0) (k := 1) (v := .ref 27) (pc := 5) rfl rfl rfl ?_
    refine zw_gi (k := 4) (lo := 0) (hi := 2940) (e := zv_f h 27 4) (pc := 6) rfl rfl rfl hI rfl (fun g2a g2b => ?_)
    refine zr_i2 (x := i) (y := zv_f h 27 4) (t := 28) (pc := 9) rfl rfl (by omega) (by omega) (by omega) (by omega) (fun (c3 : (zv_f h 27 4) ≤ i) => ?_) (fun (c3 : ¬ ((zv_f h 27 4) ≤ i)) => ?_)
    · refine zx_T.s (i := .iconst 0) (k := 1) (st' := [.int (zI (0))]) (pc := 28) rfl rfl ?_
      exact zr_ir (x := 0) (pc := 29) rfl rfl rfl ⟨rfl, _, rfl, by dsimp only; exact ⟨fun z1 z2 => by first | rfl | (exfalso; omega), by omega, by omega⟩⟩
    · refine zx_T.l (i := .iload_n 1) (k := 1) (v := .int (zI (i))) (pc := 12) rfl rfl rfl ?_
      refine zx_T.s (i := .sipush 2940) (k := 3) (st' := [.int (zI (2940)), .int (zI (i))]) (pc := 13) rfl rfl ?_
      refine zr_i2 (x := i) (y := 2940) (t := 28) (pc := 16) rfl rfl (by omega) (by omega) (by omega) (by omega) (fun (c4 : 2940 ≤ i) => ?_) (fun (c4 : ¬ (2940 ≤ i)) => ?_)
      · refine zx_T.s (i := .iconst 0) (k := 1) (st' := [.int (zI (0))]) (pc := 28) rfl rfl ?_
        exact zr_ir (x := 0) (pc := 29) rfl rfl rfl ⟨rfl, _, rfl, by dsimp only; exact ⟨fun z1 z2 => by first | rfl | (exfalso; omega), by omega, by omega⟩⟩
      · refine zx_T.l (i := .aload_n 0) (k := 1) (v := .ref 27) (pc := 19) rfl rfl rfl ?_
        refine zw_gr (k := 3) (b := 30) (pc := 20) rfl rfl rfl hI ?_
        refine zx_T.l (i := .iload_n 1) (k := 1) (v := .int (zI (i))) (pc := 23) rfl rfl rfl ?_
        refine zr_al (n := 2940) (lo := (-2147483648)) (hi := 2147483647) (e := zv_a h 30 i) (pc := 24) rfl rfl rfl hI (by omega) (by omega) rfl (fun g5a g5b => ?_)
        refine zx_T.j (i := .goto 4) (k := 3) (pc' := 29) (st' := [.int (zI (zv_a h 30 i))]) (pc := 25) rfl rfl rfl rfl rfl ?_
        exact zr_ir (x := zv_a h 30 i) (pc := 29) rfl rfl rfl ⟨rfl, _, rfl, by dsimp only; exact ⟨fun z1 z2 => by first | rfl | (exfalso; omega), by omega, by omega⟩⟩

set_option maxRecDepth 100000 in
set_option maxHeartbeats 4000000 in
theorem zm_outX {h : zx_H} (hI : zb_I zc_H h) {i : Int} (i1 : -2147483648 ≤ i) (i2 : i ≤ 2147483647) : zx_T zp_P 0 zp_m195 0 [(0, .ref 44), (1, .int (zI (i)))] [] h (zr_R [(44, 0)] h (fun e h' => ((0 ≤ i ∧ i < zv_i h 30) ∧ zv_i h' 0 = 0 ∧ e = zv_a h 64 i) ∨ (¬ (0 ≤ i ∧ i < zv_i h 30) ∧ zv_i h' 0 = 1))) := by
  have hP := zv_ri hI (k := 30) rfl
  refine zx_T.l (i := .aload_n 0) (k := 1) (v := .ref 44) (pc := 0) rfl rfl rfl ?_
  refine zx_T.l (i := .iload_n 1) (k := 1) (v := .int (zI (i))) (pc := 1) rfl rfl rfl ?_
  refine zr_i1 (x := i) (t := 17) (pc := 2) rfl rfl (by omega) (by omega) (fun (c1 : i < 0) => ?_) (fun (c1 : ¬ (i < 0)) => ?_)
  · refine zx_T.s (i := .iconst 1) (k := 1) (st' := [.int (zI (1)), .ref 44]) (pc := 17) rfl rfl ?_
    refine zr_pi (k := 0) (lo := (-2147483648)) (hi := 2147483647) (e := 1) (pc := 18) rfl rfl rfl rfl rfl rfl hI (by omega) (by omega) (fun h3 ih3 w4 e5 => ?_)
    refine zx_T.l (i := .aload_n 0) (k := 1) (v := .ref 44) (pc := 21) rfl rfl rfl ?_
    refine zr_gi (k := 0) (lo := (-2147483648)) (hi := 2147483647) (e := 1) (pc := 22) rfl rfl rfl ih3 e5 (fun g6a g6b => ?_)
    refine zr_i1 (x := 1) (t := 32) (pc := 25) rfl rfl (by omega) (by omega) (fun (c7 : 1 ≤ 0) => absurd c7 (by decide)) (fun _ => ?_)
    refine zx_T.s (i := .iconst 0) (k := 1) (st' := [.int (zI (0))]) (pc := 28) rfl rfl ?_
    refine zx_T.j (i := .goto 9) (k := 3) (pc' := 38) (st' := [.int (zI (0))]) (pc := 29) rfl rfl rfl rfl rfl ?_
    have y8 : zv_i h3 0 = 1 := e5
    exact zr_ir (x := 0) (pc := 38) rfl rfl rfl ⟨ih3, (w4.wd rfl : zb_W [(44, 0)] h _), _, rfl, by dsimp only; first | exact Or.inl ⟨by omega, by omega, rfl⟩ | exact Or.inr ⟨by omega, by omega⟩⟩
  · refine zx_T.l (i := .iload_n 1) (k := 1) (v := .int (zI (i))) (pc := 5) rfl rfl rfl ?_
    refine zx_T.l (i := .aload_n 0) (k := 1) (v := .ref 44) (pc := 6) rfl rfl rfl ?_
    refine zr_gi (k := 30) (lo := 0) (hi := 4000) (e := zv_i h 30) (pc := 7) rfl rfl rfl hI rfl (fun g9a g9b => ?_)
    refine zr_i2 (x := i) (y := zv_i h 30) (t := 17) (pc := 10) rfl rfl (by omega) (by omega) (by omega) (by omega) (fun (c10 : (zv_i h 30) ≤ i) => ?_) (fun (c10 : ¬ ((zv_i h 30) ≤ i)) => ?_)
    · refine zx_T.s (i := .iconst 1) (k := 1) (st' := [.int (zI (1)), .ref 44]) (pc := 17) rfl rfl ?_
      refine zr_pi (k := 0) (lo := (-2147483648)) (hi := 2147483647) (e := 1) (pc := 18) rfl rfl rfl rfl rfl rfl hI (by omega) (by omega) (fun h11 ih11 w12 e13 => ?_)
      refine zx_T.l (i := .aload_n 0) (k := 1) (v := .ref 44) (pc := 21) rfl rfl rfl ?_
      refine zr_gi (k := 0) (lo := (-2147483648)) (hi := 2147483647) (e := 1) (pc := 22) rfl rfl rfl ih11 e13 (fun g14a g14b => ?_)
      refine zr_i1 (x := 1) (t := 32) (pc := 25) rfl rfl (by omega) (by omega) (fun (c15 : 1 ≤ 0) => absurd c15 (by decide)) (fun _ => ?_)
      refine zx_T.s (i := .iconst 0) (k := 1) (st' := [.int (zI (0))]) (pc := 28) rfl rfl ?_
      refine zx_T.j (i := .goto 9) (k := 3) (pc' := 38) (st' := [.int (zI (0))]) (pc := 29) rfl rfl rfl rfl rfl ?_
      have y16 : zv_i h11 0 = 1 := e13
      exact zr_ir (x := 0) (pc := 38) rfl rfl rfl ⟨ih11, (w12.wd rfl : zb_W [(44, 0)] h _), _, rfl, by dsimp only; first | exact Or.inl ⟨by omega, by omega, rfl⟩ | exact Or.inr ⟨by omega, by omega⟩⟩
    · refine zx_T.s (i := .iconst 0) (k := 1) (st' := [.int (zI (0)), .ref 44]) (pc := 13) rfl rfl ?_
      refine zx_T.j (i := .goto 4) (k := 3) (pc' := 18) (st' := [.int (zI (0)), .ref 44]) (pc := 14) rfl rfl rfl rfl rfl ?_
      refine zr_pi (k := 0) (lo := (-2147483648)) (hi := 2147483647) (e := 0) (pc := 18) rfl rfl rfl rfl rfl rfl hI (by omega) (by omega) (fun h17 ih17 w18 e19 => ?_)
      refine zx_T.l (i := .aload_n 0) (k := 1) (v := .ref 44) (pc := 21) rfl rfl rfl ?_
      refine zr_gi (k := 0) (lo := (-2147483648)) (hi := 2147483647) (e := 0) (pc := 22) rfl rfl rfl ih17 e19 (fun g20a g20b => ?_)
      refine zr_i1 (x := 0) (t := 32) (pc := 25) rfl rfl (by omega) (by omega) (fun _ => ?_) (fun (c21 : ¬ (0 ≤ 0)) => absurd (by decide) c21)
      refine zx_T.l (i := .aload_n 0) (k := 1) (v := .ref 44) (pc := 32) rfl rfl rfl ?_
      refine zr_gr (k := 31) (b := 64) (pc := 33) rfl rfl rfl ih17 ?_
      refine zx_T.l (i := .iload_n 1) (k := 1) (v := .int (zI (i))) (pc := 36) rfl rfl rfl ?_
      refine zr_al (n := 4000) (lo := (-2147483648)) (hi := 2147483647) (e := zv_a h 64 i) (pc := 37) rfl rfl rfl ih17 (by omega) (by omega) (zv_wa w18 rfl i) (fun g22a g22b => ?_)
      have y23 : zv_i h17 0 = 0 := e19
      exact zr_ir (x := zv_a h 64 i) (pc := 38) rfl rfl rfl ⟨ih17, (w18.wd rfl : zb_W [(44, 0)] h _), _, rfl, by dsimp only; first | exact Or.inl ⟨by omega, by omega, rfl⟩ | exact Or.inr ⟨by omega, by omega⟩⟩
