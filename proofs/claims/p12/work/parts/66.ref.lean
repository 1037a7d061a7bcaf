/-! ===== 66: the reference, method by method (by program) ===== -/
set_option maxRecDepth 100000 in
set_option maxHeartbeats 4000000 in
theorem zm_cHowMany {h : zx_H} (hI : zb_I zc_H h)   : zx_T zp_P 0 zp_m96 0 [(0, .ref 27)] [] h (zr_P h (fun e => e = zv_f h 27 4 ∧ 0 ≤ e ∧ e ≤ 2940)) := by
  refine zx_T.l (i := .aload_n 0) (k := 1) (v := .ref 27) (pc := 0) rfl rfl rfl ?_
  refine zw_gi (k := 4) (lo := 0) (hi := 2940) (e := zv_f h 27 4) (pc := 1) rfl rfl rfl hI rfl (fun g1a g1b => ?_)
  exact zr_ir (x := zv_f h 27 4) (pc := 4) rfl rfl rfl ⟨rfl, _, rfl, by dsimp only; omega⟩

set_option maxRecDepth 100000 in
set_option maxHeartbeats 4000000 in
theorem zm_cByteAt {h : zx_H} (hI : zb_I zc_H h) {i : Int} (i1 : -2147483648 ≤ i) (i2 : i ≤ 2147483647) : zx_T zp_P 0 zp_m97 0 [(0, .ref 27), (1, .int (zI (i)))] [] h (zr_P h (fun e => True)) := by
  refine zx_T.l (i := .iload_n 1) (k := 1) (v := .int (zI (i))) (pc := 0) rfl rfl rfl ?_
  refine zr_i1 (x := i) (t := 28) (pc := 1) rfl rfl (by omega) (by omega) (fun (c1 : i < 0) => ?_) (fun (c1 : ¬ (i < 0)) => ?_)
  · refine zx_T.s (i := .iconst 0) (k := 1) (st' := [.int (zI (0))]) (pc := 28) rfl rfl ?_
    exact zr_ir (x := 0) (pc := 29) rfl rfl rfl ⟨rfl, _, rfl, by trivial⟩
  · refine zx_T.l (i := .iload_n 1) (k := 1) (v := .int (zI (i))) (pc := 4) rfl rfl rfl ?_
    refine zx_T.l (i := .aload_n 0) (k := 1) (v := .ref 27) (pc := 5) rfl rfl rfl ?_
    refine zw_gi (k := 4) (lo := 0) (hi := 2940) (e := zv_f h 27 4) (pc := 6) rfl rfl rfl hI rfl (fun g2a g2b => ?_)
    refine zr_i2 (x := i) (y := zv_f h 27 4) (t := 28) (pc := 9) rfl rfl (by omega) (by omega) (by omega) (by omega) (fun (c3 : (zv_f h 27 4) ≤ i) => ?_) (fun (c3 : ¬ ((zv_f h 27 4) ≤ i)) => ?_)
    · refine zx_T.s (i := .iconst 0) (k := 1) (st' := [.int (zI (0))]) (pc := 28) rfl rfl ?_
      exact zr_ir (x := 0) (pc := 29) rfl rfl rfl ⟨rfl, _, rfl, by trivial⟩
    · refine zx_T.l (i := .iload_n 1) (k := 1) (v := .int (zI (i))) (pc := 12) rfl rfl rfl ?_
      refine zx_T.s (i := .sipush 2940) (k := 3) (st' := [.int (zI (2940)), .int (zI (i))]) (pc := 13) rfl rfl ?_
      refine zr_i2 (x := i) (y := 2940) (t := 28) (pc := 16) rfl rfl (by omega) (by omega) (by omega) (by omega) (fun (c4 : 2940 ≤ i) => ?_) (fun (c4 : ¬ (2940 ≤ i)) => ?_)
      · refine zx_T.s (i := .iconst 0) (k := 1) (st' := [.int (zI (0))]) (pc := 28) rfl rfl ?_
        exact zr_ir (x := 0) (pc := 29) rfl rfl rfl ⟨rfl, _, rfl, by trivial⟩
      · refine zx_T.l (i := .aload_n 0) (k := 1) (v := .ref 27) (pc := 19) rfl rfl rfl ?_
        refine zw_gr (k := 3) (b := 30) (pc := 20) rfl rfl rfl hI ?_
        refine zx_T.l (i := .iload_n 1) (k := 1) (v := .int (zI (i))) (pc := 23) rfl rfl rfl ?_
        refine zr_al (n := 2940) (lo := (-2147483648)) (hi := 2147483647) (e := zv_a h 30 i) (pc := 24) rfl rfl rfl hI (by omega) (by omega) rfl (fun g5a g5b => ?_)
        refine zx_T.j (i := .goto 4) (k := 3) (pc' := 29) (st' := [.int (zI (zv_a h 30 i))]) (pc := 25) rfl rfl rfl rfl rfl ?_
        exact zr_ir (x := zv_a h 30 i) (pc := 29) rfl rfl rfl ⟨rfl, _, rfl, by trivial⟩
