/-! ===== 54: the reference, method by method (by program) ===== -/
set_option maxRecDepth 100000 in
set_option maxHeartbeats 4000000 in
theorem zm_goesOn {h : zx_H} (hI : zb_I zc_H h) {p : Int} (p1 : 0 ≤ p) (p2 : p ≤ 59) : zx_T zp_P 0 zp_m168 0 [(0, .ref 44), (1, .int (zI (p)))] [] h (zr_P h (fun e => (e = 1 ∧ (zv_a h 45 p < 22 ∨ 24 < zv_a h 45 p)) ∨ (e = 0 ∧ 22 ≤ zv_a h 45 p ∧ zv_a h 45 p ≤ 24))) := by
  refine zx_T.l (i := .aload_n 0) (k := 1) (v := .ref 44) (pc := 0) rfl rfl rfl ?_
  refine zr_gr (k := 2) (b := 45) (pc := 1) rfl rfl rfl hI ?_
  refine zx_T.l (i := .iload_n 1) (k := 1) (v := .int (zI (p))) (pc := 4) rfl rfl rfl ?_
  refine zr_al (n := 60) (lo := 0) (hi := 28) (e := zv_a h 45 p) (pc := 5) rfl rfl rfl hI (by omega) (by omega) rfl (fun g1a g1b => ?_)
  refine zx_T.s (i := .bipush 22) (k := 2) (st' := [.int (zI (22)), .int (zI (zv_a h 45 p))]) (pc := 6) rfl rfl ?_
  refine zr_i2 (x := zv_a h 45 p) (y := 22) (t := 22) (pc := 8) rfl rfl (by omega) (by omega) (by omega) (by omega) (fun (c2 : (zv_a h 45 p) < 22) => ?_) (fun (c2 : ¬ ((zv_a h 45 p) < 22)) => ?_)
  · refine zx_T.s (i := .iconst 1) (k := 1) (st' := [.int (zI (1))]) (pc := 22) rfl rfl ?_
    refine zx_T.j (i := .goto 4) (k := 3) (pc' := 27) (st' := [.int (zI (1))]) (pc := 23) rfl rfl rfl rfl rfl ?_
    exact zr_ir (x := 1) (pc := 27) rfl rfl (zr_nb (by omega) (by omega)) ⟨rfl, _, rfl, by dsimp only; omega⟩
  · refine zx_T.l (i := .aload_n 0) (k := 1) (v := .ref 44) (pc := 11) rfl rfl rfl ?_
    refine zr_gr (k := 2) (b := 45) (pc := 12) rfl rfl rfl hI ?_
    refine zx_T.l (i := .iload_n 1) (k := 1) (v := .int (zI (p))) (pc := 15) rfl rfl rfl ?_
    refine zr_al (n := 60) (lo := 0) (hi := 28) (e := zv_a h 45 p) (pc := 16) rfl rfl rfl hI (by omega) (by omega) rfl (fun g3a g3b => ?_)
    refine zx_T.s (i := .bipush 24) (k := 2) (st' := [.int (zI (24)), .int (zI (zv_a h 45 p))]) (pc := 17) rfl rfl ?_
    refine zr_i2 (x := zv_a h 45 p) (y := 24) (t := 26) (pc := 19) rfl rfl (by omega) (by omega) (by omega) (by omega) (fun (c4 : (zv_a h 45 p) ≤ 24) => ?_) (fun (c4 : ¬ ((zv_a h 45 p) ≤ 24)) => ?_)
    · refine zx_T.s (i := .iconst 0) (k := 1) (st' := [.int (zI (0))]) (pc := 26) rfl rfl ?_
      exact zr_ir (x := 0) (pc := 27) rfl rfl (zr_nb (by omega) (by omega)) ⟨rfl, _, rfl, by dsimp only; omega⟩
    · refine zx_T.s (i := .iconst 1) (k := 1) (st' := [.int (zI (1))]) (pc := 22) rfl rfl ?_
      refine zx_T.j (i := .goto 4) (k := 3) (pc' := 27) (st' := [.int (zI (1))]) (pc := 23) rfl rfl rfl rfl rfl ?_
      exact zr_ir (x := 1) (pc := 27) rfl rfl (zr_nb (by omega) (by omega)) ⟨rfl, _, rfl, by dsimp only; omega⟩

set_option maxRecDepth 100000 in
set_option maxHeartbeats 4000000 in
theorem zm_jumps {h : zx_H} (hI : zb_I zc_H h) {p : Int} (p1 : 0 ≤ p) (p2 : p ≤ 59) : zx_T zp_P 0 zp_m170 0 [(0, .ref 44), (1, .int (zI (p)))] [] h (zr_P h (fun e => 0 ≤ e ∧ e ≤ 2 ∧ (1 ≤ e → 24 ≤ zv_a h 45 p ∧ zv_a h 45 p ≤ 27) ∧ (e = 2 → zv_a h 45 p = 27) ∧ (24 ≤ zv_a h 45 p → zv_a h 45 p ≤ 27 → 1 ≤ e) ∧ (zv_a h 45 p = 27 → e = 2))) := by
  refine zx_T.l (i := .aload_n 0) (k := 1) (v := .ref 44) (pc := 0) rfl rfl rfl ?_
  refine zr_gr (k := 2) (b := 45) (pc := 1) rfl rfl rfl hI ?_
  refine zx_T.l (i := .iload_n 1) (k := 1) (v := .int (zI (p))) (pc := 4) rfl rfl rfl ?_
  refine zr_al (n := 60) (lo := 0) (hi := 28) (e := zv_a h 45 p) (pc := 5) rfl rfl rfl hI (by omega) (by omega) rfl (fun g1a g1b => ?_)
  refine zx_T.s (i := .bipush 27) (k := 2) (st' := [.int (zI (27)), .int (zI (zv_a h 45 p))]) (pc := 6) rfl rfl ?_
  refine zr_i2 (x := zv_a h 45 p) (y := 27) (t := 15) (pc := 8) rfl rfl (by omega) (by omega) (by omega) (by omega) (fun (c2 : ¬ (zv_a h 45 p) = 27) => ?_) (fun (c2 : ¬ (¬ (zv_a h 45 p) = 27)) => ?_)
  · refine zx_T.l (i := .aload_n 0) (k := 1) (v := .ref 44) (pc := 15) rfl rfl rfl ?_
    refine zr_gr (k := 2) (b := 45) (pc := 16) rfl rfl rfl hI ?_
    refine zx_T.l (i := .iload_n 1) (k := 1) (v := .int (zI (p))) (pc := 19) rfl rfl rfl ?_
    refine zr_al (n := 60) (lo := 0) (hi := 28) (e := zv_a h 45 p) (pc := 20) rfl rfl rfl hI (by omega) (by omega) rfl (fun g3a g3b => ?_)
    refine zx_T.s (i := .bipush 24) (k := 2) (st' := [.int (zI (24)), .int (zI (zv_a h 45 p))]) (pc := 21) rfl rfl ?_
    refine zr_i2 (x := zv_a h 45 p) (y := 24) (t := 41) (pc := 23) rfl rfl (by omega) (by omega) (by omega) (by omega) (fun (c4 : (zv_a h 45 p) < 24) => ?_) (fun (c4 : ¬ ((zv_a h 45 p) < 24)) => ?_)
    · refine zx_T.s (i := .iconst 0) (k := 1) (st' := [.int (zI (0))]) (pc := 41) rfl rfl ?_
      exact zr_ir (x := 0) (pc := 42) rfl rfl rfl ⟨rfl, _, rfl, by dsimp only; omega⟩
    · refine zx_T.l (i := .aload_n 0) (k := 1) (v := .ref 44) (pc := 26) rfl rfl rfl ?_
      refine zr_gr (k := 2) (b := 45) (pc := 27) rfl rfl rfl hI ?_
      refine zx_T.l (i := .iload_n 1) (k := 1) (v := .int (zI (p))) (pc := 30) rfl rfl rfl ?_
      refine zr_al (n := 60) (lo := 0) (hi := 28) (e := zv_a h 45 p) (pc := 31) rfl rfl rfl hI (by omega) (by omega) rfl (fun g5a g5b => ?_)
      refine zx_T.s (i := .bipush 26) (k := 2) (st' := [.int (zI (26)), .int (zI (zv_a h 45 p))]) (pc := 32) rfl rfl ?_
      refine zr_i2 (x := zv_a h 45 p) (y := 26) (t := 41) (pc := 34) rfl rfl (by omega) (by omega) (by omega) (by omega) (fun (c6 : 26 < (zv_a h 45 p)) => ?_) (fun (c6 : ¬ (26 < (zv_a h 45 p))) => ?_)
      · refine zx_T.s (i := .iconst 0) (k := 1) (st' := [.int (zI (0))]) (pc := 41) rfl rfl ?_
        exact zr_ir (x := 0) (pc := 42) rfl rfl rfl ⟨rfl, _, rfl, by dsimp only; omega⟩
      · refine zx_T.s (i := .iconst 1) (k := 1) (st' := [.int (zI (1))]) (pc := 37) rfl rfl ?_
        refine zx_T.j (i := .goto 4) (k := 3) (pc' := 42) (st' := [.int (zI (1))]) (pc := 38) rfl rfl rfl rfl rfl ?_
        exact zr_ir (x := 1) (pc := 42) rfl rfl rfl ⟨rfl, _, rfl, by dsimp only; omega⟩
  · refine zx_T.s (i := .iconst 2) (k := 1) (st' := [.int (zI (2))]) (pc := 11) rfl rfl ?_
    refine zx_T.j (i := .goto 30) (k := 3) (pc' := 42) (st' := [.int (zI (2))]) (pc := 12) rfl rfl rfl rfl rfl ?_
    exact zr_ir (x := 2) (pc := 42) rfl rfl rfl ⟨rfl, _, rfl, by dsimp only; omega⟩

set_option maxRecDepth 100000 in
set_option maxHeartbeats 4000000 in
theorem zm_jump {h : zx_H} (hI : zb_I zc_H h) {p : Int} {k : Int} (p1 : 0 ≤ p) (p2 : p ≤ 59) (k1 : 0 ≤ k) (k2 : k ≤ 1) : zx_T zp_P 0 zp_m169 0 [(0, .ref 44), (1, .int (zI (p))), (2, .int (zI (k)))] [] h (zr_P h (fun e => -2147483648 ≤ e ∧ e ≤ 2147483647 ∧ (k = 0 → 24 ≤ zv_a h 45 p → zv_a h 45 p ≤ 27 → e = zv_a h 46 p) ∧ (k = 1 → zv_a h 45 p = 27 → e = zv_a h 47 p))) := by
  refine zx_T.l (i := .aload_n 0) (k := 1) (v := .ref 44) (pc := 0) rfl rfl rfl ?_
  refine zr_gr (k := 2) (b := 45) (pc := 1) rfl rfl rfl hI ?_
  refine zx_T.l (i := .iload_n 1) (k := 1) (v := .int (zI (p))) (pc := 4) rfl rfl rfl ?_
  refine zr_al (n := 60) (lo := 0) (hi := 28) (e := zv_a h 45 p) (pc := 5) rfl rfl rfl hI (by omega) (by omega) rfl (fun g1a g1b => ?_)
  refine zx_T.s (i := .bipush 24) (k := 2) (st' := [.int (zI (24)), .int (zI (zv_a h 45 p))]) (pc := 6) rfl rfl ?_
  refine zr_i2 (x := zv_a h 45 p) (y := 24) (t := 46) (pc := 8) rfl rfl (by omega) (by omega) (by omega) (by omega) (fun (c2 : (zv_a h 45 p) < 24) => ?_) (fun (c2 : ¬ ((zv_a h 45 p) < 24)) => ?_)
  · refine zx_T.s (i := .iconst 0) (k := 1) (st' := [.int (zI (0))]) (pc := 46) rfl rfl ?_
    refine zx_T.t (i := .istore_n 3) (k := 1) (ls' := [(3, .int (zI (0))), (0, .ref 44), (1, .int (zI (p))), (2, .int (zI (k)))]) (st' := []) (pc := 47) rfl rfl rfl rfl ?_
    refine zx_T.l (i := .iload_n 3) (k := 1) (v := .int (zI (0))) (pc := 48) rfl rfl rfl ?_
    refine zr_i1 (x := 0) (t := 56) (pc := 49) rfl rfl (by omega) (by omega) (fun (c3 : ¬ 0 = 0) => absurd c3 (by decide)) (fun _ => ?_)
    refine zx_T.s (i := .iconst (-1)) (k := 1) (st' := [.int (zI ((-1)))]) (pc := 52) rfl rfl ?_
    refine zx_T.j (i := .goto 22) (k := 3) (pc' := 75) (st' := [.int (zI ((-1)))]) (pc := 53) rfl rfl rfl rfl rfl ?_
    exact zr_ir (x := (-1)) (pc := 75) rfl rfl rfl ⟨rfl, _, rfl, by dsimp only; omega⟩
  · refine zx_T.l (i := .aload_n 0) (k := 1) (v := .ref 44) (pc := 11) rfl rfl rfl ?_
    refine zr_gr (k := 2) (b := 45) (pc := 12) rfl rfl rfl hI ?_
    refine zx_T.l (i := .iload_n 1) (k := 1) (v := .int (zI (p))) (pc := 15) rfl rfl rfl ?_
    refine zr_al (n := 60) (lo := 0) (hi := 28) (e := zv_a h 45 p) (pc := 16) rfl rfl rfl hI (by omega) (by omega) rfl (fun g4a g4b => ?_)
    refine zx_T.s (i := .bipush 27) (k := 2) (st' := [.int (zI (27)), .int (zI (zv_a h 45 p))]) (pc := 17) rfl rfl ?_
    refine zr_i2 (x := zv_a h 45 p) (y := 27) (t := 46) (pc := 19) rfl rfl (by omega) (by omega) (by omega) (by omega) (fun (c5 : 27 < (zv_a h 45 p)) => ?_) (fun (c5 : ¬ (27 < (zv_a h 45 p))) => ?_)
    · refine zx_T.s (i := .iconst 0) (k := 1) (st' := [.int (zI (0))]) (pc := 46) rfl rfl ?_
      refine zx_T.t (i := .istore_n 3) (k := 1) (ls' := [(3, .int (zI (0))), (0, .ref 44), (1, .int (zI (p))), (2, .int (zI (k)))]) (st' := []) (pc := 47) rfl rfl rfl rfl ?_
      refine zx_T.l (i := .iload_n 3) (k := 1) (v := .int (zI (0))) (pc := 48) rfl rfl rfl ?_
      refine zr_i1 (x := 0) (t := 56) (pc := 49) rfl rfl (by omega) (by omega) (fun (c6 : ¬ 0 = 0) => absurd c6 (by decide)) (fun _ => ?_)
      refine zx_T.s (i := .iconst (-1)) (k := 1) (st' := [.int (zI ((-1)))]) (pc := 52) rfl rfl ?_
      refine zx_T.j (i := .goto 22) (k := 3) (pc' := 75) (st' := [.int (zI ((-1)))]) (pc := 53) rfl rfl rfl rfl rfl ?_
      exact zr_ir (x := (-1)) (pc := 75) rfl rfl rfl ⟨rfl, _, rfl, by dsimp only; omega⟩
    · refine zx_T.l (i := .iload_n 2) (k := 1) (v := .int (zI (k))) (pc := 22) rfl rfl rfl ?_
      refine zr_i1 (x := k) (t := 42) (pc := 23) rfl rfl (by omega) (by omega) (fun (c7 : k = 0) => ?_) (fun (c7 : ¬ (k = 0)) => ?_)
      · refine zx_T.s (i := .iconst 1) (k := 1) (st' := [.int (zI (1))]) (pc := 42) rfl rfl ?_
        refine zx_T.j (i := .goto 4) (k := 3) (pc' := 47) (st' := [.int (zI (1))]) (pc := 43) rfl rfl rfl rfl rfl ?_
        refine zx_T.t (i := .istore_n 3) (k := 1) (ls' := [(3, .int (zI (1))), (0, .ref 44), (1, .int (zI (p))), (2, .int (zI (k)))]) (st' := []) (pc := 47) rfl rfl rfl rfl ?_
        refine zx_T.l (i := .iload_n 3) (k := 1) (v := .int (zI (1))) (pc := 48) rfl rfl rfl ?_
        refine zr_i1 (x := 1) (t := 56) (pc := 49) rfl rfl (by omega) (by omega) (fun _ => ?_) (fun (c8 : ¬ (¬ 1 = 0)) => absurd (by decide) c8)
        refine zx_T.l (i := .iload_n 2) (k := 1) (v := .int (zI (k))) (pc := 56) rfl rfl rfl ?_
        refine zr_i1 (x := k) (t := 69) (pc := 57) rfl rfl (by omega) (by omega) (fun (c9 : ¬ k = 0) => False.elim (by omega)) (fun (c9 : ¬ (¬ k = 0)) => ?_)
        refine zx_T.l (i := .aload_n 0) (k := 1) (v := .ref 44) (pc := 60) rfl rfl rfl ?_
        refine zr_gr (k := 3) (b := 46) (pc := 61) rfl rfl rfl hI ?_
        refine zx_T.l (i := .iload_n 1) (k := 1) (v := .int (zI (p))) (pc := 64) rfl rfl rfl ?_
        refine zr_al (n := 60) (lo := (-2147483648)) (hi := 2147483647) (e := zv_a h 46 p) (pc := 65) rfl rfl rfl hI (by omega) (by omega) rfl (fun g10a g10b => ?_)
        refine zx_T.j (i := .goto 9) (k := 3) (pc' := 75) (st' := [.int (zI (zv_a h 46 p))]) (pc := 66) rfl rfl rfl rfl rfl ?_
        exact zr_ir (x := zv_a h 46 p) (pc := 75) rfl rfl rfl ⟨rfl, _, rfl, by dsimp only; omega⟩
      · refine zx_T.l (i := .iload_n 2) (k := 1) (v := .int (zI (k))) (pc := 26) rfl rfl rfl ?_
        refine zx_T.s (i := .iconst 1) (k := 1) (st' := [.int (zI (1)), .int (zI (k))]) (pc := 27) rfl rfl ?_
        refine zr_i2 (x := k) (y := 1) (t := 46) (pc := 28) rfl rfl (by omega) (by omega) (by omega) (by omega) (fun (c11 : ¬ k = 1) => False.elim (by omega)) (fun (c11 : ¬ (¬ k = 1)) => ?_)
        refine zx_T.l (i := .aload_n 0) (k := 1) (v := .ref 44) (pc := 31) rfl rfl rfl ?_
        refine zr_gr (k := 2) (b := 45) (pc := 32) rfl rfl rfl hI ?_
        refine zx_T.l (i := .iload_n 1) (k := 1) (v := .int (zI (p))) (pc := 35) rfl rfl rfl ?_
        refine zr_al (n := 60) (lo := 0) (hi := 28) (e := zv_a h 45 p) (pc := 36) rfl rfl rfl hI (by omega) (by omega) rfl (fun g12a g12b => ?_)
        refine zx_T.s (i := .bipush 27) (k := 2) (st' := [.int (zI (27)), .int (zI (zv_a h 45 p))]) (pc := 37) rfl rfl ?_
        refine zr_i2 (x := zv_a h 45 p) (y := 27) (t := 46) (pc := 39) rfl rfl (by omega) (by omega) (by omega) (by omega) (fun (c13 : ¬ (zv_a h 45 p) = 27) => ?_) (fun (c13 : ¬ (¬ (zv_a h 45 p) = 27)) => ?_)
        · refine zx_T.s (i := .iconst 0) (k := 1) (st' := [.int (zI (0))]) (pc := 46) rfl rfl ?_
          refine zx_T.t (i := .istore_n 3) (k := 1) (ls' := [(3, .int (zI (0))), (0, .ref 44), (1, .int (zI (p))), (2, .int (zI (k)))]) (st' := []) (pc := 47) rfl rfl rfl rfl ?_
          refine zx_T.l (i := .iload_n 3) (k := 1) (v := .int (zI (0))) (pc := 48) rfl rfl rfl ?_
          refine zr_i1 (x := 0) (t := 56) (pc := 49) rfl rfl (by omega) (by omega) (fun (c14 : ¬ 0 = 0) => absurd c14 (by decide)) (fun _ => ?_)
          refine zx_T.s (i := .iconst (-1)) (k := 1) (st' := [.int (zI ((-1)))]) (pc := 52) rfl rfl ?_
          refine zx_T.j (i := .goto 22) (k := 3) (pc' := 75) (st' := [.int (zI ((-1)))]) (pc := 53) rfl rfl rfl rfl rfl ?_
          exact zr_ir (x := (-1)) (pc := 75) rfl rfl rfl ⟨rfl, _, rfl, by dsimp only; omega⟩
        · refine zx_T.s (i := .iconst 1) (k := 1) (st' := [.int (zI (1))]) (pc := 42) rfl rfl ?_
          refine zx_T.j (i := .goto 4) (k := 3) (pc' := 47) (st' := [.int (zI (1))]) (pc := 43) rfl rfl rfl rfl rfl ?_
          refine zx_T.t (i := .istore_n 3) (k := 1) (ls' := [(3, .int (zI (1))), (0, .ref 44), (1, .int (zI (p))), (2, .int (zI (k)))]) (st' := []) (pc := 47) rfl rfl rfl rfl ?_
          refine zx_T.l (i := .iload_n 3) (k := 1) (v := .int (zI (1))) (pc := 48) rfl rfl rfl ?_
          refine zr_i1 (x := 1) (t := 56) (pc := 49) rfl rfl (by omega) (by omega) (fun _ => ?_) (fun (c15 : ¬ (¬ 1 = 0)) => absurd (by decide) c15)
          refine zx_T.l (i := .iload_n 2) (k := 1) (v := .int (zI (k))) (pc := 56) rfl rfl rfl ?_
          refine zr_i1 (x := k) (t := 69) (pc := 57) rfl rfl (by omega) (by omega) (fun (c16 : ¬ k = 0) => ?_) (fun (c16 : ¬ (¬ k = 0)) => False.elim (by omega))
          refine zx_T.l (i := .aload_n 0) (k := 1) (v := .ref 44) (pc := 69) rfl rfl rfl ?_
          refine zr_gr (k := 4) (b := 47) (pc := 70) rfl rfl rfl hI ?_
          refine zx_T.l (i := .iload_n 1) (k := 1) (v := .int (zI (p))) (pc := 73) rfl rfl rfl ?_
          refine zr_al (n := 60) (lo := (-2147483648)) (hi := 2147483647) (e := zv_a h 47 p) (pc := 74) rfl rfl rfl hI (by omega) (by omega) rfl (fun g17a g17b => ?_)
          exact zr_ir (x := zv_a h 47 p) (pc := 75) rfl rfl rfl ⟨rfl, _, rfl, by dsimp only; omega⟩

set_option maxRecDepth 100000 in
set_option maxHeartbeats 4000000 in
theorem zm_has {h : zx_H} (hI : zb_I zc_H h) {t : Int} {p : Int} (t1 : 0 ≤ t) (t2 : t ≤ 5) (p1 : 0 ≤ p) (p2 : p ≤ 59) : zx_T zp_P 1 zp_m171 0 [(0, .ref 44), (1, .int (zI (t))), (2, .int (zI (p)))] [] h (zr_P h (fun e => (e = 1 ∧ zv_a h 48 t ≤ p ∧ p < zv_a h 49 t) ∨ (e = 0 ∧ ¬ (zv_a h 48 t ≤ p ∧ p < zv_a h 49 t)))) := by
  refine zx_T.l (i := .iload_n 2) (k := 1) (v := .int (zI (p))) (pc := 0) rfl rfl rfl ?_
  refine zx_T.l (i := .aload_n 0) (k := 1) (v := .ref 44) (pc := 1) rfl rfl rfl ?_
  refine zr_gr (k := 6) (b := 48) (pc := 2) rfl rfl rfl hI ?_
  refine zx_T.l (i := .iload_n 1) (k := 1) (v := .int (zI (t))) (pc := 5) rfl rfl rfl ?_
  refine zr_al (n := 6) (lo := 0) (hi := 60) (e := zv_a h 48 t) (pc := 6) rfl rfl rfl hI (by omega) (by omega) rfl (fun g1a g1b => ?_)
  refine zx_T.l (i := .aload_n 0) (k := 1) (v := .ref 44) (pc := 7) rfl rfl rfl ?_
  refine zr_gr (k := 7) (b := 49) (pc := 8) rfl rfl rfl hI ?_
  refine zx_T.l (i := .iload_n 1) (k := 1) (v := .int (zI (t))) (pc := 11) rfl rfl rfl ?_
  refine zr_al (n := 6) (lo := 0) (hi := 60) (e := zv_a h 49 t) (pc := 12) rfl rfl rfl hI (by omega) (by omega) rfl (fun g2a g2b => ?_)
  refine zx_T.s (i := .iconst 1) (k := 1) (st' := [.int (zI (1)), .int (zI (zv_a h 49 t)), .int (zI (zv_a h 48 t)), .int (zI (p))]) (pc := 13) rfl rfl ?_
  refine zr_sub (x := zv_a h 49 t) (y := 1) (e := zv_a h 49 t - 1) (pc := 14) rfl (by omega) ?_
  refine zr_is (cj := 155) (q' := zp_m155) (As := [.int (zI (p)), .int (zI (zv_a h 48 t)), .int (zI (zv_a h 49 t - 1))]) (rest := []) (pc := 15) rfl rfl rfl rfl rfl rfl (Nat.le_of_ble_eq_true rfl) rfl (Nat.le_of_ble_eq_true rfl) rfl ((zm_in (h := h) hI (v := p) (l := zv_a h 48 t) (u := zv_a h 49 t - 1) (by omega) (by omega) (by omega) (by omega) (by omega) (by omega)).up (Nat.le_of_ble_eq_true rfl)) ?_
  rintro r3 h6 ⟨h6q, v4, r3q, x5⟩
  subst h6q r3q
  try dsimp only at x5
  show zx_T zp_P 1 zp_m171 18 [(0, .ref 44), (1, .int (zI (t))), (2, .int (zI (p)))] [.int (zI (v4))] h _
  exact zr_ir (x := v4) (pc := 18) rfl rfl (zr_nb (by omega) (by omega)) ⟨rfl, _, rfl, by dsimp only; omega⟩

set_option maxRecDepth 100000 in
set_option maxHeartbeats 4000000 in
theorem zm_begin_61_L {h : zx_H} (hI : zb_I zc_H h)   (n : Nat) : (∀ {h2 : zx_H} {k : Int} (hI2 : zb_I zc_H h2) (k1 : 0 ≤ k) (k2 : k ≤ 14) (hw : zb_W [(61, 0)] h h2) (hj : ∀ j, 0 ≤ j → j < k → (zv_i h 10 ≤ j → zv_a h2 61 j = 0) ∧ (j < zv_i h 10 → zv_a h2 61 j = zv_a h 52 j)), (14 - k : Int).toNat < n → zx_T zp_P 0 zp_m172 2 [(0, .ref 44), (1, .ref 61), (2, .int (zI (k)))] [] h2 (zr_V [(61, 0)] h (fun h' => ∀ j, 0 ≤ j → j < 14 → (zv_i h 10 ≤ j → zv_a h' 61 j = 0) ∧ (j < zv_i h 10 → zv_a h' 61 j = zv_a h 52 j)))) := by
  induction n with
  | zero => exact fun _ _ _ _ _ hm => absurd hm (Nat.not_lt_zero _)
  | succ n ih =>
    intro h2 k hI2 k1 k2 hw hj hm
    refine zx_T.l (i := .iload_n 2) (k := 1) (v := .int (zI (k))) (pc := 2) rfl rfl rfl ?_
    refine zx_T.s (i := .bipush 14) (k := 2) (st' := [.int (zI (14)), .int (zI (k))]) (pc := 3) rfl rfl ?_
    refine zr_i2 (x := k) (y := 14) (t := 35) (pc := 5) rfl rfl (by omega) (by omega) (by omega) (by omega) (fun (c1 : 14 ≤ k) => ?_) (fun (c1 : ¬ (14 ≤ k)) => ?_)
    · exact zr_vr (pc := 35) rfl rfl ⟨hI2, (hw.wd rfl : zb_W [(61, 0)] h _), rfl, by dsimp only; exact fun j j0 j1 => hj j j0 (by omega)⟩
    · refine zx_T.l (i := .aload_n 1) (k := 1) (v := .ref 61) (pc := 8) rfl rfl rfl ?_
      refine zx_T.l (i := .iload_n 2) (k := 1) (v := .int (zI (k))) (pc := 9) rfl rfl rfl ?_
      refine zx_T.l (i := .iload_n 2) (k := 1) (v := .int (zI (k))) (pc := 10) rfl rfl rfl ?_
      refine zx_T.l (i := .aload_n 0) (k := 1) (v := .ref 44) (pc := 11) rfl rfl rfl ?_
      refine zr_gi (k := 10) (lo := 0) (hi := 8) (e := zv_i h 10) (pc := 12) rfl rfl rfl hI2 (zv_wi hw rfl) (fun g2a g2b => ?_)
      refine zr_i2 (x := k) (y := zv_i h 10) (t := 27) (pc := 15) rfl rfl (by omega) (by omega) (by omega) (by omega) (fun (c3 : (zv_i h 10) ≤ k) => ?_) (fun (c3 : ¬ ((zv_i h 10) ≤ k)) => ?_)
      · refine zx_T.s (i := .iconst 0) (k := 1) (st' := [.int (zI (0)), .int (zI (k)), .ref 61]) (pc := 27) rfl rfl ?_
        refine zr_as (n := 14) (lo := 0) (hi := 8) (e := 0) (pc := 28) rfl rfl rfl rfl hI2 (by omega) (by omega) (by omega) (by omega) (fun h4 ih4 w5 s6 => ?_)
        refine zr_inc (x := k) (n := 1) (y := k + 1) (ls' := [(2, .int (zI (k + 1))), (0, .ref 44), (1, .ref 61)]) (pc := 29) rfl rfl rfl (by omega) rfl ?_
        refine zx_T.j (i := .goto (-30)) (k := 3) (pc' := 2) (st' := []) (pc := 32) rfl rfl rfl rfl rfl ?_
        have a61 : ∀ j, 0 ≤ j → zv_a h4 61 j = if j = k then 0 else zv_a h2 61 j := fun j hj => by rw [s6 j hj]
        refine zx_T.lk (ls' := [(0, .ref 44), (1, .ref 61), (2, .int (zI (k + 1)))]) rfl ⟨rfl, rfl, rfl, trivial⟩ ?_
        exact ih (h2 := h4) (k := k + 1) ih4 (by omega) (by omega) ((hw.wd rfl : zb_W [(61, 0)] h _).tr (w5.wd rfl)) (fun j j0 j1 => by first | omega | (have b9 := a61 j j0; split at b9 <;> first | omega | (subst_vars; omega) | (have b8 := hj j j0 (by omega); omega))) (by omega)
      · refine zx_T.l (i := .aload_n 0) (k := 1) (v := .ref 44) (pc := 18) rfl rfl rfl ?_
        refine zr_gr (k := 11) (b := 52) (pc := 19) rfl rfl rfl hI2 ?_
        refine zx_T.l (i := .iload_n 2) (k := 1) (v := .int (zI (k))) (pc := 22) rfl rfl rfl ?_
        refine zr_al (n := 8) (lo := 0) (hi := 8) (e := zv_a h 52 k) (pc := 23) rfl rfl rfl hI2 (by omega) (by omega) (zv_wa hw rfl k) (fun g8a g8b => ?_)
        refine zx_T.j (i := .goto 4) (k := 3) (pc' := 28) (st' := [.int (zI (zv_a h 52 k)), .int (zI (k)), .ref 61]) (pc := 24) rfl rfl rfl rfl rfl ?_
        refine zr_as (n := 14) (lo := 0) (hi := 8) (e := zv_a h 52 k) (pc := 28) rfl rfl rfl rfl hI2 (by omega) (by omega) (by omega) (by omega) (fun h9 ih9 w10 s11 => ?_)
        refine zr_inc (x := k) (n := 1) (y := k + 1) (ls' := [(2, .int (zI (k + 1))), (0, .ref 44), (1, .ref 61)]) (pc := 29) rfl rfl rfl (by omega) rfl ?_
        refine zx_T.j (i := .goto (-30)) (k := 3) (pc' := 2) (st' := []) (pc := 32) rfl rfl rfl rfl rfl ?_
        have a61 : ∀ j, 0 ≤ j → zv_a h9 61 j = if j = k then zv_a h 52 k else zv_a h2 61 j := fun j hj => by rw [s11 j hj]
        refine zx_T.lk (ls' := [(0, .ref 44), (1, .ref 61), (2, .int (zI (k + 1)))]) rfl ⟨rfl, rfl, rfl, trivial⟩ ?_
        exact ih (h2 := h9) (k := k + 1) ih9 (by omega) (by omega) ((hw.wd rfl : zb_W [(61, 0)] h _).tr (w10.wd rfl)) (fun j j0 j1 => by first | omega | (have b9 := a61 j j0; split at b9 <;> first | omega | (subst_vars; omega) | (have b8 := hj j j0 (by omega); omega))) (by omega)
set_option maxRecDepth 100000 in
set_option maxHeartbeats 4000000 in
theorem zm_begin_61 {h : zx_H} (hI : zb_I zc_H h)   : zx_T zp_P 0 zp_m172 0 [(0, .ref 44), (1, .ref 61)] [] h (zr_V [(61, 0)] h (fun h' => ∀ j, 0 ≤ j → j < 14 → (zv_i h 10 ≤ j → zv_a h' 61 j = 0) ∧ (j < zv_i h 10 → zv_a h' 61 j = zv_a h 52 j))) := by
  refine zx_T.s (i := .iconst 0) (k := 1) (st' := [.int (zI (0))]) (pc := 0) rfl rfl ?_
  refine zx_T.t (i := .istore_n 2) (k := 1) (ls' := [(2, .int (zI (0))), (0, .ref 44), (1, .ref 61)]) (st' := []) (pc := 1) rfl rfl rfl rfl ?_
  refine zx_T.lk (ls' := [(0, .ref 44), (1, .ref 61), (2, .int (zI (0)))]) rfl ⟨rfl, rfl, rfl, trivial⟩ ?_
  exact zm_begin_61_L (h := h) hI   ((14 - 0 : Int).toNat + 1) (h2 := h) (k := 0) hI (by omega) (by omega) zb_W.rf (fun j j0 j1 => by first | omega | (have b9 := a61 j j0; split at b9 <;> first | omega | (subst_vars; omega) | (have b8 := hj j j0 (by omega); omega))) (Nat.lt_succ_self _)

set_option maxRecDepth 100000 in
set_option maxHeartbeats 4000000 in
theorem zm_lay_L {h : zx_H} (hI : zb_I zc_H h) {p : Int} (p1 : 0 ≤ p) (p2 : p ≤ 59) (n : Nat) : (∀ {h2 : zx_H} {k : Int} (hI2 : zb_I zc_H h2) (k1 : 0 ≤ k) (k2 : k ≤ 14) (hw : zb_W [(61, 0)] h h2) (hj : ∀ j, 0 ≤ j → j < k → zv_a h2 61 j = zv_a h 55 (14 * p + j)), (14 - k : Int).toNat < n → zx_T zp_P 0 zp_m173 2 [(0, .ref 44), (1, .int (zI (p))), (2, .int (zI (k)))] [] h2 (zr_V [(44, 25), (61, 0)] h (fun h' => zv_i h' 25 = zv_a h 56 p ∧ ∀ j, 0 ≤ j → j < 14 → zv_a h' 61 j = zv_a h 55 (14 * p + j)))) := by
  induction n with
  | zero => exact fun _ _ _ _ _ hm => absurd hm (Nat.not_lt_zero _)
  | succ n ih =>
    intro h2 k hI2 k1 k2 hw hj hm
    refine zx_T.l (i := .iload_n 2) (k := 1) (v := .int (zI (k))) (pc := 2) rfl rfl rfl ?_
    refine zx_T.s (i := .bipush 14) (k := 2) (st' := [.int (zI (14)), .int (zI (k))]) (pc := 3) rfl rfl ?_
    refine zr_i2 (x := k) (y := 14) (t := 31) (pc := 5) rfl rfl (by omega) (by omega) (by omega) (by omega) (fun (c1 : 14 ≤ k) => ?_) (fun (c1 : ¬ (14 ≤ k)) => ?_)
    · refine zx_T.l (i := .aload_n 0) (k := 1) (v := .ref 44) (pc := 31) rfl rfl rfl ?_
      refine zx_T.l (i := .aload_n 0) (k := 1) (v := .ref 44) (pc := 32) rfl rfl rfl ?_
      refine zr_gr (k := 18) (b := 56) (pc := 33) rfl rfl rfl hI2 ?_
      refine zx_T.l (i := .iload_n 1) (k := 1) (v := .int (zI (p))) (pc := 36) rfl rfl rfl ?_
      refine zr_al (n := 60) (lo := 0) (hi := 6) (e := zv_a h 56 p) (pc := 37) rfl rfl rfl hI2 (by omega) (by omega) (zv_wa hw rfl p) (fun g2a g2b => ?_)
      refine zr_pi (k := 25) (lo := 0) (hi := 6) (e := zv_a h 56 p) (pc := 38) rfl rfl rfl rfl rfl rfl hI2 (by omega) (by omega) (fun h3 ih3 w4 e5 => ?_)
      have y6 : zv_i h3 25 = zv_a h 56 p := e5
      have a61 : ∀ j, 0 ≤ j → zv_a h3 61 j = zv_a h2 61 j := fun j hj => by rw [zv_wa w4 rfl j]
      exact zr_vr (pc := 41) rfl rfl ⟨ih3, ((hw.wd rfl : zb_W [(44, 25), (61, 0)] h _).tr (w4.wd rfl)), rfl, by dsimp only; exact ⟨by omega, fun j j0 j1 => by rw [a61 j j0]; exact hj j j0 (by omega)⟩⟩
    · refine zx_T.l (i := .aload_n 0) (k := 1) (v := .ref 44) (pc := 8) rfl rfl rfl ?_
      refine zr_gr (k := 24) (b := 61) (pc := 9) rfl rfl rfl hI2 ?_
      refine zx_T.l (i := .iload_n 2) (k := 1) (v := .int (zI (k))) (pc := 12) rfl rfl rfl ?_
      refine zx_T.l (i := .aload_n 0) (k := 1) (v := .ref 44) (pc := 13) rfl rfl rfl ?_
      refine zr_gr (k := 17) (b := 55) (pc := 14) rfl rfl rfl hI2 ?_
      refine zx_T.s (i := .bipush 14) (k := 2) (st' := [.int (zI (14)), .ref 55, .int (zI (k)), .ref 61]) (pc := 17) rfl rfl ?_
      refine zx_T.l (i := .iload_n 1) (k := 1) (v := .int (zI (p))) (pc := 19) rfl rfl rfl ?_
      refine zr_mul (x := 14) (y := p) (e := 14 * p) (pc := 20) rfl (by omega) ?_
      refine zx_T.l (i := .iload_n 2) (k := 1) (v := .int (zI (k))) (pc := 21) rfl rfl rfl ?_
      refine zr_add (x := 14 * p) (y := k) (e := 14 * p + k) (pc := 22) rfl (by omega) ?_
      refine zr_al (n := 840) (lo := 0) (hi := 8) (e := zv_a h 55 (14 * p + k)) (pc := 23) rfl rfl rfl hI2 (by omega) (by omega) (zv_wa hw rfl (14 * p + k)) (fun g8a g8b => ?_)
      refine zr_as (n := 14) (lo := 0) (hi := 8) (e := zv_a h 55 (14 * p + k)) (pc := 24) rfl rfl rfl rfl hI2 (by omega) (by omega) (by omega) (by omega) (fun h9 ih9 w10 s11 => ?_)
      refine zr_inc (x := k) (n := 1) (y := k + 1) (ls' := [(2, .int (zI (k + 1))), (0, .ref 44), (1, .int (zI (p)))]) (pc := 25) rfl rfl rfl (by omega) rfl ?_
      refine zx_T.j (i := .goto (-26)) (k := 3) (pc' := 2) (st' := []) (pc := 28) rfl rfl rfl rfl rfl ?_
      have a61 : ∀ j, 0 ≤ j → zv_a h9 61 j = if j = k then zv_a h 55 (14 * p + k) else zv_a h2 61 j := fun j hj => by rw [s11 j hj]
      refine zx_T.lk (ls' := [(0, .ref 44), (1, .int (zI (p))), (2, .int (zI (k + 1)))]) rfl ⟨rfl, rfl, rfl, trivial⟩ ?_
      exact ih (h2 := h9) (k := k + 1) ih9 (by omega) (by omega) ((hw.wd rfl : zb_W [(61, 0)] h _).tr (w10.wd rfl)) (fun j j0 j1 => by first | omega | (have b9 := a61 j j0; split at b9 <;> first | (next e9 => rw [b9, e9, Int.add_comm]; done) | (next e9 => rw [b9, e9]; done) | (rw [b9]; exact hj j j0 (by omega)))) (by omega)
set_option maxRecDepth 100000 in
set_option maxHeartbeats 4000000 in
theorem zm_lay {h : zx_H} (hI : zb_I zc_H h) {p : Int} (p1 : 0 ≤ p) (p2 : p ≤ 59) : zx_T zp_P 0 zp_m173 0 [(0, .ref 44), (1, .int (zI (p)))] [] h (zr_V [(44, 25), (61, 0)] h (fun h' => zv_i h' 25 = zv_a h 56 p ∧ ∀ j, 0 ≤ j → j < 14 → zv_a h' 61 j = zv_a h 55 (14 * p + j))) := by
  refine zx_T.s (i := .iconst 0) (k := 1) (st' := [.int (zI (0))]) (pc := 0) rfl rfl ?_
  refine zx_T.t (i := .istore_n 2) (k := 1) (ls' := [(2, .int (zI (0))), (0, .ref 44), (1, .int (zI (p)))]) (st' := []) (pc := 1) rfl rfl rfl rfl ?_
  refine zx_T.lk (ls' := [(0, .ref 44), (1, .int (zI (p))), (2, .int (zI (0)))]) rfl ⟨rfl, rfl, rfl, trivial⟩ ?_
  exact zm_lay_L (h := h) hI (p := p) p1 p2 ((14 - 0 : Int).toNat + 1) (h2 := h) (k := 0) hI (by omega) (by omega) zb_W.rf (fun j j0 j1 => by first | omega | (have b9 := a61 j j0; split at b9 <;> first | (next e9 => rw [b9, e9, Int.add_comm]; done) | (next e9 => rw [b9, e9]; done) | (rw [b9]; exact hj j j0 (by omega)))) (Nat.lt_succ_self _)
