/-! ===== 97u: the reference, method by method (by program) ===== -/
set_option maxRecDepth 100000 in
set_option maxHeartbeats 4000000 in
theorem zm_isLone_25 {h : zx_H} (hI : zb_I zc_H h) {i : Int} {f : Int} {t : Int} (f1 : 0 ≤ f) (i1 : f ≤ i) (i2 : i < t) (t1 : t ≤ 14) : zx_T zp_P 1 zp_m126 0 [(0, .ref 25), (1, .int (zI (i))), (2, .int (zI (f))), (3, .int (zI (t)))] [] h (zr_P h (fun e => ((e = 1 ∧ ¬ ((zv_a h 26 i = 2 → i + 1 < t ∧ zv_a h 26 (i + 1) = 3) ∧ (zv_a h 26 i = 3 → f < i ∧ zv_a h 26 (i - 1) = 2))) ∨ (e = 0 ∧ ((zv_a h 26 i = 2 → i + 1 < t ∧ zv_a h 26 (i + 1) = 3) ∧ (zv_a h 26 i = 3 → f < i ∧ zv_a h 26 (i - 1) = 2)))) ∧ 0 ≤ e ∧ e ≤ 1)) := by
  refine zx_T.l (i := .aload_n 0) (k := 1) (v := .ref 25) (pc := 0) rfl rfl rfl ?_
  refine zx_T.l (i := .iload_n 1) (k := 1) (v := .int (zI (i))) (pc := 1) rfl rfl rfl ?_
  refine zw_iv (b := 25) (cj := 118) (q' := zp_m118) (As := [.int (zI (i))]) (rest := []) (pc := 2) rfl rfl rfl rfl rfl rfl rfl (Nat.le_of_ble_eq_true rfl) rfl (Nat.le_of_ble_eq_true rfl) hI ((zm_kindOf_25 (h := h) hI (i := i) (by omega) (by omega)).up (Nat.le_of_ble_eq_true rfl)) ?_
  rintro r1 h4 ⟨h4q, v2, r1q, x3⟩
  subst h4q r1q
  try dsimp only at x3
  have k1 := x3.1
  show zx_T zp_P 1 zp_m126 5 [(0, .ref 25), (1, .int (zI (i))), (2, .int (zI (f))), (3, .int (zI (t)))] [.int (zI (v2))] h _
  refine zx_T.s (i := .iconst 2) (k := 1) (st' := [.int (zI (2)), .int (zI (v2))]) (pc := 5) rfl rfl ?_
  refine zr_i2 (x := v2) (y := 2) (t := 33) (pc := 6) rfl rfl (by omega) (by omega) (by omega) (by omega) (fun (c5 : ¬ v2 = 2) => ?_) (fun (c5 : ¬ (¬ v2 = 2)) => ?_)
  · refine zx_T.l (i := .aload_n 0) (k := 1) (v := .ref 25) (pc := 33) rfl rfl rfl ?_
    refine zx_T.l (i := .iload_n 1) (k := 1) (v := .int (zI (i))) (pc := 34) rfl rfl rfl ?_
    refine zw_iv (b := 25) (cj := 118) (q' := zp_m118) (As := [.int (zI (i))]) (rest := []) (pc := 35) rfl rfl rfl rfl rfl rfl rfl (Nat.le_of_ble_eq_true rfl) rfl (Nat.le_of_ble_eq_true rfl) hI ((zm_kindOf_25 (h := h) hI (i := i) (by omega) (by omega)).up (Nat.le_of_ble_eq_true rfl)) ?_
    rintro r6 h9 ⟨h9q, v7, r6q, x8⟩
    subst h9q r6q
    try dsimp only at x8
    have k3 := x8.1
    show zx_T zp_P 1 zp_m126 38 [(0, .ref 25), (1, .int (zI (i))), (2, .int (zI (f))), (3, .int (zI (t)))] [.int (zI (v7))] h _
    refine zx_T.s (i := .iconst 3) (k := 1) (st' := [.int (zI (3)), .int (zI (v7))]) (pc := 38) rfl rfl ?_
    refine zr_i2 (x := v7) (y := 3) (t := 64) (pc := 39) rfl rfl (by omega) (by omega) (by omega) (by omega) (fun (c10 : ¬ v7 = 3) => ?_) (fun (c10 : ¬ (¬ v7 = 3)) => ?_)
    · refine zx_T.s (i := .iconst 0) (k := 1) (st' := [.int (zI (0))]) (pc := 64) rfl rfl ?_
      exact zr_ir (x := 0) (pc := 65) rfl rfl (zr_nb (by omega) (by omega)) ⟨rfl, _, rfl, by dsimp only; exact ⟨by omega, by omega, by omega⟩⟩
    · refine zx_T.l (i := .iload_n 1) (k := 1) (v := .int (zI (i))) (pc := 42) rfl rfl rfl ?_
      refine zx_T.s (i := .iconst 1) (k := 1) (st' := [.int (zI (1)), .int (zI (i))]) (pc := 43) rfl rfl ?_
      refine zr_sub (x := i) (y := 1) (e := i - 1) (pc := 44) rfl (by omega) ?_
      refine zx_T.l (i := .iload_n 2) (k := 1) (v := .int (zI (f))) (pc := 45) rfl rfl rfl ?_
      refine zr_i2 (x := i - 1) (y := f) (t := 60) (pc := 46) rfl rfl (by omega) (by omega) (by omega) (by omega) (fun (c11 : (i - 1) < f) => ?_) (fun (c11 : ¬ ((i - 1) < f)) => ?_)
      · refine zx_T.s (i := .iconst 1) (k := 1) (st' := [.int (zI (1))]) (pc := 60) rfl rfl ?_
        refine zx_T.j (i := .goto 4) (k := 3) (pc' := 65) (st' := [.int (zI (1))]) (pc := 61) rfl rfl rfl rfl rfl ?_
        exact zr_ir (x := 1) (pc := 65) rfl rfl (zr_nb (by omega) (by omega)) ⟨rfl, _, rfl, by dsimp only; exact ⟨by omega, by omega, by omega⟩⟩
      · refine zx_T.l (i := .aload_n 0) (k := 1) (v := .ref 25) (pc := 49) rfl rfl rfl ?_
        refine zx_T.l (i := .iload_n 1) (k := 1) (v := .int (zI (i))) (pc := 50) rfl rfl rfl ?_
        refine zx_T.s (i := .iconst 1) (k := 1) (st' := [.int (zI (1)), .int (zI (i)), .ref 25]) (pc := 51) rfl rfl ?_
        refine zr_sub (x := i) (y := 1) (e := i - 1) (pc := 52) rfl (by omega) ?_
        refine zw_iv (b := 25) (cj := 118) (q' := zp_m118) (As := [.int (zI (i - 1))]) (rest := []) (pc := 53) rfl rfl rfl rfl rfl rfl rfl (Nat.le_of_ble_eq_true rfl) rfl (Nat.le_of_ble_eq_true rfl) hI ((zm_kindOf_25 (h := h) hI (i := i - 1) (by omega) (by omega)).up (Nat.le_of_ble_eq_true rfl)) ?_
        rintro r12 h15 ⟨h15q, v13, r12q, x14⟩
        subst h15q r12q
        try dsimp only at x14
        have k4 := x14.1
        show zx_T zp_P 1 zp_m126 56 [(0, .ref 25), (1, .int (zI (i))), (2, .int (zI (f))), (3, .int (zI (t)))] [.int (zI (v13))] h _
        refine zx_T.s (i := .iconst 2) (k := 1) (st' := [.int (zI (2)), .int (zI (v13))]) (pc := 56) rfl rfl ?_
        refine zr_i2 (x := v13) (y := 2) (t := 64) (pc := 57) rfl rfl (by omega) (by omega) (by omega) (by omega) (fun (c16 : v13 = 2) => ?_) (fun (c16 : ¬ (v13 = 2)) => ?_)
        · refine zx_T.s (i := .iconst 0) (k := 1) (st' := [.int (zI (0))]) (pc := 64) rfl rfl ?_
          exact zr_ir (x := 0) (pc := 65) rfl rfl (zr_nb (by omega) (by omega)) ⟨rfl, _, rfl, by dsimp only; exact ⟨by omega, by omega, by omega⟩⟩
        · refine zx_T.s (i := .iconst 1) (k := 1) (st' := [.int (zI (1))]) (pc := 60) rfl rfl ?_
          refine zx_T.j (i := .goto 4) (k := 3) (pc' := 65) (st' := [.int (zI (1))]) (pc := 61) rfl rfl rfl rfl rfl ?_
          exact zr_ir (x := 1) (pc := 65) rfl rfl (zr_nb (by omega) (by omega)) ⟨rfl, _, rfl, by dsimp only; exact ⟨by omega, by omega, by omega⟩⟩
  · refine zx_T.l (i := .iload_n 1) (k := 1) (v := .int (zI (i))) (pc := 9) rfl rfl rfl ?_
    refine zx_T.s (i := .iconst 1) (k := 1) (st' := [.int (zI (1)), .int (zI (i))]) (pc := 10) rfl rfl ?_
    refine zr_add (x := i) (y := 1) (e := i + 1) (pc := 11) rfl (by omega) ?_
    refine zx_T.l (i := .iload_n 3) (k := 1) (v := .int (zI (t))) (pc := 12) rfl rfl rfl ?_
    refine zr_i2 (x := i + 1) (y := t) (t := 27) (pc := 13) rfl rfl (by omega) (by omega) (by omega) (by omega) (fun (c17 : t ≤ (i + 1)) => ?_) (fun (c17 : ¬ (t ≤ (i + 1))) => ?_)
    · refine zx_T.s (i := .iconst 1) (k := 1) (st' := [.int (zI (1))]) (pc := 27) rfl rfl ?_
      refine zx_T.j (i := .goto 4) (k := 3) (pc' := 32) (st' := [.int (zI (1))]) (pc := 28) rfl rfl rfl rfl rfl ?_
      exact zr_ir (x := 1) (pc := 32) rfl rfl (zr_nb (by omega) (by omega)) ⟨rfl, _, rfl, by dsimp only; exact ⟨by omega, by omega, by omega⟩⟩
    · refine zx_T.l (i := .aload_n 0) (k := 1) (v := .ref 25) (pc := 16) rfl rfl rfl ?_
      refine zx_T.l (i := .iload_n 1) (k := 1) (v := .int (zI (i))) (pc := 17) rfl rfl rfl ?_
      refine zx_T.s (i := .iconst 1) (k := 1) (st' := [.int (zI (1)), .int (zI (i)), .ref 25]) (pc := 18) rfl rfl ?_
      refine zr_add (x := i) (y := 1) (e := i + 1) (pc := 19) rfl (by omega) ?_
      refine zw_iv (b := 25) (cj := 118) (q' := zp_m118) (As := [.int (zI (i + 1))]) (rest := []) (pc := 20) rfl rfl rfl rfl rfl rfl rfl (Nat.le_of_ble_eq_true rfl) rfl (Nat.le_of_ble_eq_true rfl) hI ((zm_kindOf_25 (h := h) hI (i := i + 1) (by omega) (by omega)).up (Nat.le_of_ble_eq_true rfl)) ?_
      rintro r18 h21 ⟨h21q, v19, r18q, x20⟩
      subst h21q r18q
      try dsimp only at x20
      have k2 := x20.1
      show zx_T zp_P 1 zp_m126 23 [(0, .ref 25), (1, .int (zI (i))), (2, .int (zI (f))), (3, .int (zI (t)))] [.int (zI (v19))] h _
      refine zx_T.s (i := .iconst 3) (k := 1) (st' := [.int (zI (3)), .int (zI (v19))]) (pc := 23) rfl rfl ?_
      refine zr_i2 (x := v19) (y := 3) (t := 31) (pc := 24) rfl rfl (by omega) (by omega) (by omega) (by omega) (fun (c22 : v19 = 3) => ?_) (fun (c22 : ¬ (v19 = 3)) => ?_)
      · refine zx_T.s (i := .iconst 0) (k := 1) (st' := [.int (zI (0))]) (pc := 31) rfl rfl ?_
        exact zr_ir (x := 0) (pc := 32) rfl rfl (zr_nb (by omega) (by omega)) ⟨rfl, _, rfl, by dsimp only; exact ⟨by omega, by omega, by omega⟩⟩
      · refine zx_T.s (i := .iconst 1) (k := 1) (st' := [.int (zI (1))]) (pc := 27) rfl rfl ?_
        refine zx_T.j (i := .goto 4) (k := 3) (pc' := 32) (st' := [.int (zI (1))]) (pc := 28) rfl rfl rfl rfl rfl ?_
        exact zr_ir (x := 1) (pc := 32) rfl rfl (zr_nb (by omega) (by omega)) ⟨rfl, _, rfl, by dsimp only; exact ⟨by omega, by omega, by omega⟩⟩

set_option maxRecDepth 100000 in
set_option maxHeartbeats 4000000 in
theorem zm_hasLone_25_L {h : zx_H} (hI : zb_I zc_H h)   (n : Nat) : (∀ {i : Int} (i1 : 0 ≤ i) (i2 : i ≤ 8) (wl : ∀ j, 0 ≤ j → j < i → ((zv_a h 26 j = 2 → j + 1 < 8 ∧ zv_a h 26 (j + 1) = 3) ∧ (zv_a h 26 j = 3 → 0 < j ∧ zv_a h 26 (j - 1) = 2))), (100 - i : Int).toNat < n → zx_T zp_P 2 zp_m125 2 [(0, .ref 25), (1, .int (zI (i)))] [] h (zr_P h (fun e => ((e = 1 ∧ ¬ (zw_loc 0 8 (zv_a h 26) ∧ zw_loc 8 (8 + zv_f h 25 1) (zv_a h 26))) ∨ (e = 0 ∧ zw_loc 0 8 (zv_a h 26) ∧ zw_loc 8 (8 + zv_f h 25 1) (zv_a h 26))) ∧ 0 ≤ e ∧ e ≤ 1))) ∧ (∀ {i : Int} (i1 : 8 ≤ i) (i2 : i ≤ 8 + zv_f h 25 1) (wl : zw_loc 0 8 (zv_a h 26)) (wm : ∀ j, 8 ≤ j → j < i → ((zv_a h 26 j = 2 → j + 1 < 8 + zv_f h 25 1 ∧ zv_a h 26 (j + 1) = 3) ∧ (zv_a h 26 j = 3 → 8 < j ∧ zv_a h 26 (j - 1) = 2))), (50 - i : Int).toNat < n → zx_T zp_P 2 zp_m125 30 [(0, .ref 25), (1, .int (zI (i)))] [] h (zr_P h (fun e => ((e = 1 ∧ ¬ (zw_loc 0 8 (zv_a h 26) ∧ zw_loc 8 (8 + zv_f h 25 1) (zv_a h 26))) ∨ (e = 0 ∧ zw_loc 0 8 (zv_a h 26) ∧ zw_loc 8 (8 + zv_f h 25 1) (zv_a h 26))) ∧ 0 ≤ e ∧ e ≤ 1))) := by
  induction n with
  | zero => exact ⟨fun _ _ _ hm => absurd hm (Nat.not_lt_zero _), fun _ _ _ _ hm => absurd hm (Nat.not_lt_zero _)⟩
  | succ n ih =>
    refine ⟨?_, ?_⟩
    · intro i i1 i2 wl hm
      have hS := zw_ri hI (a := 25) (k := 1) rfl
      refine zx_T.l (i := .iload_n 1) (k := 1) (v := .int (zI (i))) (pc := 2) rfl rfl rfl ?_
      refine zx_T.s (i := .bipush 8) (k := 2) (st' := [.int (zI (8)), .int (zI (i))]) (pc := 3) rfl rfl ?_
      refine zr_i2 (x := i) (y := 8) (t := 27) (pc := 5) rfl rfl (by omega) (by omega) (by omega) (by omega) (fun (c1 : 8 ≤ i) => ?_) (fun (c1 : ¬ (8 ≤ i)) => ?_)
      · refine zx_T.s (i := .bipush 8) (k := 2) (st' := [.int (zI (8))]) (pc := 27) rfl rfl ?_
        refine zx_T.t (i := .istore_n 1) (k := 1) (ls' := [(1, .int (zI (8))), (0, .ref 25)]) (st' := []) (pc := 29) rfl rfl rfl rfl ?_
        refine zx_T.lk (ls' := [(0, .ref 25), (1, .int (zI (8)))]) rfl ⟨rfl, rfl, trivial⟩ ?_
        exact ih.2 (i := 8) (by omega) (by omega) (fun j j0 j1 => wl j j0 (by omega)) (fun j j0 j1 => absurd j1 (by omega)) (by omega)
      · refine zx_T.l (i := .aload_n 0) (k := 1) (v := .ref 25) (pc := 8) rfl rfl rfl ?_
        refine zx_T.l (i := .iload_n 1) (k := 1) (v := .int (zI (i))) (pc := 9) rfl rfl rfl ?_
        refine zx_T.s (i := .iconst 0) (k := 1) (st' := [.int (zI (0)), .int (zI (i)), .ref 25]) (pc := 10) rfl rfl ?_
        refine zx_T.s (i := .bipush 8) (k := 2) (st' := [.int (zI (8)), .int (zI (0)), .int (zI (i)), .ref 25]) (pc := 11) rfl rfl ?_
        refine zw_iv (b := 25) (cj := 126) (q' := zp_m126) (As := [.int (zI (i)), .int (zI (0)), .int (zI (8))]) (rest := []) (pc := 13) rfl rfl rfl rfl rfl rfl rfl (Nat.le_of_ble_eq_true rfl) rfl (Nat.le_of_ble_eq_true rfl) hI ((zm_isLone_25 (h := h) hI (i := i) (f := 0) (t := 8) (by omega) (by omega) (by omega) (by omega)).up (Nat.le_of_ble_eq_true rfl)) ?_
        rintro r2 h5 ⟨h5q, v3, r2q, x4⟩
        subst h5q r2q
        try dsimp only at x4
        have iL := x4.1
        show zx_T zp_P 2 zp_m125 16 [(0, .ref 25), (1, .int (zI (i)))] [.int (zI (v3))] h _
        refine zr_i1 (x := v3) (t := 21) (pc := 16) rfl rfl (by omega) (by omega) (fun (c6 : v3 = 0) => ?_) (fun (c6 : ¬ (v3 = 0)) => ?_)
        · refine zr_inc (x := i) (n := 1) (y := i + 1) (ls' := [(1, .int (zI (i + 1))), (0, .ref 25)]) (pc := 21) rfl rfl rfl (by omega) rfl ?_
          refine zx_T.j (i := .goto (-22)) (k := 3) (pc' := 2) (st' := []) (pc := 24) rfl rfl rfl rfl rfl ?_
          refine zx_T.lk (ls' := [(0, .ref 25), (1, .int (zI (i + 1)))]) rfl ⟨rfl, rfl, trivial⟩ ?_
          exact ih.1 (i := i + 1) (by omega) (by omega) (fun j j0 j1 => by rcases (show j = i ∨ j < i by omega) with z | z; (subst z; exact (iL.resolve_left (fun z => absurd z.1 (by omega))).2); exact wl j j0 z) (by omega)
        · refine zx_T.s (i := .iconst 1) (k := 1) (st' := [.int (zI (1))]) (pc := 19) rfl rfl ?_
          exact zr_ir (x := 1) (pc := 20) rfl rfl (zr_nb (by omega) (by omega)) ⟨rfl, _, rfl, by dsimp only; exact ⟨Or.inl ⟨rfl, fun z => (iL.resolve_right (fun z => absurd z.1 (by omega))).2 (z.1 i (by omega) (by omega))⟩, by omega, by omega⟩⟩
    · intro i i1 i2 wl wm hm
      have hS := zw_ri hI (a := 25) (k := 1) rfl
      refine zx_T.l (i := .iload_n 1) (k := 1) (v := .int (zI (i))) (pc := 30) rfl rfl rfl ?_
      refine zx_T.s (i := .bipush 8) (k := 2) (st' := [.int (zI (8)), .int (zI (i))]) (pc := 31) rfl rfl ?_
      refine zx_T.l (i := .aload_n 0) (k := 1) (v := .ref 25) (pc := 33) rfl rfl rfl ?_
      refine zw_gi (k := 1) (lo := 0) (hi := 6) (e := zv_f h 25 1) (pc := 34) rfl rfl rfl hI rfl (fun g7a g7b => ?_)
      refine zr_add (x := 8) (y := zv_f h 25 1) (e := zv_f h 25 1 + 8) (pc := 37) rfl (by omega) ?_
      refine zr_i2 (x := i) (y := zv_f h 25 1 + 8) (t := 66) (pc := 38) rfl rfl (by omega) (by omega) (by omega) (by omega) (fun (c8 : (zv_f h 25 1 + 8) ≤ i) => ?_) (fun (c8 : ¬ ((zv_f h 25 1 + 8) ≤ i)) => ?_)
      · refine zx_T.s (i := .iconst 0) (k := 1) (st' := [.int (zI (0))]) (pc := 66) rfl rfl ?_
        exact zr_ir (x := 0) (pc := 67) rfl rfl (zr_nb (by omega) (by omega)) ⟨rfl, _, rfl, by dsimp only; exact ⟨Or.inr ⟨rfl, wl, fun j j0 j1 => wm j j0 (by omega)⟩, by omega, by omega⟩⟩
      · refine zx_T.l (i := .aload_n 0) (k := 1) (v := .ref 25) (pc := 41) rfl rfl rfl ?_
        refine zx_T.l (i := .iload_n 1) (k := 1) (v := .int (zI (i))) (pc := 42) rfl rfl rfl ?_
        refine zx_T.s (i := .bipush 8) (k := 2) (st' := [.int (zI (8)), .int (zI (i)), .ref 25]) (pc := 43) rfl rfl ?_
        refine zx_T.s (i := .bipush 8) (k := 2) (st' := [.int (zI (8)), .int (zI (8)), .int (zI (i)), .ref 25]) (pc := 45) rfl rfl ?_
        refine zx_T.l (i := .aload_n 0) (k := 1) (v := .ref 25) (pc := 47) rfl rfl rfl ?_
        refine zw_gi (k := 1) (lo := 0) (hi := 6) (e := zv_f h 25 1) (pc := 48) rfl rfl rfl hI rfl (fun g9a g9b => ?_)
        refine zr_add (x := 8) (y := zv_f h 25 1) (e := zv_f h 25 1 + 8) (pc := 51) rfl (by omega) ?_
        refine zw_iv (b := 25) (cj := 126) (q' := zp_m126) (As := [.int (zI (i)), .int (zI (8)), .int (zI (zv_f h 25 1 + 8))]) (rest := []) (pc := 52) rfl rfl rfl rfl rfl rfl rfl (Nat.le_of_ble_eq_true rfl) rfl (Nat.le_of_ble_eq_true rfl) hI ((zm_isLone_25 (h := h) hI (i := i) (f := 8) (t := zv_f h 25 1 + 8) (by omega) (by omega) (by omega) (by omega)).up (Nat.le_of_ble_eq_true rfl)) ?_
        rintro r10 h13 ⟨h13q, v11, r10q, x12⟩
        subst h13q r10q
        try dsimp only at x12
        have iM := x12.1
        show zx_T zp_P 2 zp_m125 55 [(0, .ref 25), (1, .int (zI (i)))] [.int (zI (v11))] h _
        refine zr_i1 (x := v11) (t := 60) (pc := 55) rfl rfl (by omega) (by omega) (fun (c14 : v11 = 0) => ?_) (fun (c14 : ¬ (v11 = 0)) => ?_)
        · refine zr_inc (x := i) (n := 1) (y := i + 1) (ls' := [(1, .int (zI (i + 1))), (0, .ref 25)]) (pc := 60) rfl rfl rfl (by omega) rfl ?_
          refine zx_T.j (i := .goto (-33)) (k := 3) (pc' := 30) (st' := []) (pc := 63) rfl rfl rfl rfl rfl ?_
          refine zx_T.lk (ls' := [(0, .ref 25), (1, .int (zI (i + 1)))]) rfl ⟨rfl, rfl, trivial⟩ ?_
          exact ih.2 (i := i + 1) (by omega) (by omega) wl (fun j j0 j1 => by rcases (show j = i ∨ j < i by omega) with z | z; (subst z; have y := (iM.resolve_left (fun z => absurd z.1 (by omega))).2; rw [show zv_f h 25 1 + 8 = 8 + zv_f h 25 1 by omega] at y; exact y); exact wm j j0 z) (by omega)
        · refine zx_T.s (i := .iconst 1) (k := 1) (st' := [.int (zI (1))]) (pc := 58) rfl rfl ?_
          exact zr_ir (x := 1) (pc := 59) rfl rfl (zr_nb (by omega) (by omega)) ⟨rfl, _, rfl, by dsimp only; exact ⟨Or.inl ⟨rfl, fun z => by have y := (iM.resolve_right (fun z => absurd z.1 (by omega))).2; rw [show zv_f h 25 1 + 8 = 8 + zv_f h 25 1 by omega] at y; exact y (z.2 i (by omega) (by omega))⟩, by omega, by omega⟩⟩
set_option maxRecDepth 100000 in
set_option maxHeartbeats 4000000 in
theorem zm_hasLone_25 {h : zx_H} (hI : zb_I zc_H h)   : zx_T zp_P 2 zp_m125 0 [(0, .ref 25)] [] h (zr_P h (fun e => ((e = 1 ∧ ¬ (zw_loc 0 8 (zv_a h 26) ∧ zw_loc 8 (8 + zv_f h 25 1) (zv_a h 26))) ∨ (e = 0 ∧ zw_loc 0 8 (zv_a h 26) ∧ zw_loc 8 (8 + zv_f h 25 1) (zv_a h 26))) ∧ 0 ≤ e ∧ e ≤ 1)) := by
  have hS := zw_ri hI (a := 25) (k := 1) rfl
  refine zx_T.s (i := .iconst 0) (k := 1) (st' := [.int (zI (0))]) (pc := 0) rfl rfl ?_
  refine zx_T.t (i := .istore_n 1) (k := 1) (ls' := [(1, .int (zI (0))), (0, .ref 25)]) (st' := []) (pc := 1) rfl rfl rfl rfl ?_
  refine zx_T.lk (ls' := [(0, .ref 25), (1, .int (zI (0)))]) rfl ⟨rfl, rfl, trivial⟩ ?_
  exact (zm_hasLone_25_L (h := h) hI   ((100 - 0 : Int).toNat + 1)).1 (i := 0) (by omega) (by omega) (fun j j0 j1 => absurd j1 (by omega)) (Nat.lt_succ_self _)

set_option maxRecDepth 100000 in
set_option maxHeartbeats 4000000 in
theorem zm_localsGoAsF_L {h : zx_H} (hI : zb_I zc_H h)  (zk : zk_in (zv_f h 23 1) (zv_a h 24)) (n : Nat) : (∀ {k : Int} (k1 : 0 ≤ k) (k2 : k ≤ 8) (lg : ∀ j, 0 ≤ j → j < k → zc_g (zv_a h 24 j) (zv_a h 26 j)), (8 - k : Int).toNat < n → zx_T zp_P 1 zp_m127 2 [(0, .ref 23), (1, .ref 25), (2, .int (zI (k)))] [] h (zr_P h (fun e => ((e = 1 ∧ zs_lg (zv_a h 24) (zv_a h 26)) ∨ (e = 0 ∧ ¬ zs_lg (zv_a h 24) (zv_a h 26))) ∧ 0 ≤ e ∧ e ≤ 1))) := by
  induction n with
  | zero => exact fun _ _ _ hm => absurd hm (Nat.not_lt_zero _)
  | succ n ih =>
    intro k k1 k2 lg hm
    have hS := zw_ri hI (a := 23) (k := 1) rfl
    refine zx_T.l (i := .iload_n 2) (k := 1) (v := .int (zI (k))) (pc := 2) rfl rfl rfl ?_
    refine zx_T.s (i := .bipush 8) (k := 2) (st' := [.int (zI (8)), .int (zI (k))]) (pc := 3) rfl rfl ?_
    refine zr_i2 (x := k) (y := 8) (t := 32) (pc := 5) rfl rfl (by omega) (by omega) (by omega) (by omega) (fun (c1 : 8 ≤ k) => ?_) (fun (c1 : ¬ (8 ≤ k)) => ?_)
    · refine zx_T.s (i := .iconst 1) (k := 1) (st' := [.int (zI (1))]) (pc := 32) rfl rfl ?_
      exact zr_ir (x := 1) (pc := 33) rfl rfl (zr_nb (by omega) (by omega)) ⟨rfl, _, rfl, by dsimp only; exact ⟨Or.inl ⟨rfl, fun j j0 j1 => lg j j0 (by omega)⟩, by omega, by omega⟩⟩
    · refine zx_T.l (i := .aload_n 0) (k := 1) (v := .ref 23) (pc := 8) rfl rfl rfl ?_
      refine zx_T.l (i := .iload_n 2) (k := 1) (v := .int (zI (k))) (pc := 9) rfl rfl rfl ?_
      refine zw_iv (b := 23) (cj := 118) (q' := zp_m118) (As := [.int (zI (k))]) (rest := []) (pc := 10) rfl rfl rfl rfl rfl rfl rfl (Nat.le_of_ble_eq_true rfl) rfl (Nat.le_of_ble_eq_true rfl) hI ((zm_kindOf_23 (h := h) hI (i := k) (by omega) (by omega)).up (Nat.le_of_ble_eq_true rfl)) ?_
      rintro r2 h5 ⟨h5q, v3, r2q, x4⟩
      subst h5q r2q
      try dsimp only at x4
      have ka : v3 = zv_a h 24 k := (by have y := x4.1; omega)
      have kz := zk k k1 (by omega)
      show zx_T zp_P 1 zp_m127 13 [(0, .ref 23), (1, .ref 25), (2, .int (zI (k)))] [.int (zI (v3))] h _
      refine zx_T.l (i := .aload_n 1) (k := 1) (v := .ref 25) (pc := 13) rfl rfl rfl ?_
      refine zx_T.l (i := .iload_n 2) (k := 1) (v := .int (zI (k))) (pc := 14) rfl rfl rfl ?_
      refine zw_iv (b := 25) (cj := 118) (q' := zp_m118) (As := [.int (zI (k))]) (rest := [.int (zI (v3))]) (pc := 15) rfl rfl rfl rfl rfl rfl rfl (Nat.le_of_ble_eq_true rfl) rfl (Nat.le_of_ble_eq_true rfl) hI ((zm_kindOf_25 (h := h) hI (i := k) (by omega) (by omega)).up (Nat.le_of_ble_eq_true rfl)) ?_
      rintro r6 h9 ⟨h9q, v7, r6q, x8⟩
      subst h9q r6q
      try dsimp only at x8
      have kb : v7 = zv_a h 26 k := (by have y := x8.1; omega)
      show zx_T zp_P 1 zp_m127 18 [(0, .ref 23), (1, .ref 25), (2, .int (zI (k)))] [.int (zI (v7)), .int (zI (v3))] h _
      refine zr_is (cj := 49) (q' := zp_m49) (As := [.int (zI (v3)), .int (zI (v7))]) (rest := []) (pc := 18) rfl rfl rfl rfl rfl rfl (Nat.le_of_ble_eq_true rfl) rfl (Nat.le_of_ble_eq_true rfl) rfl ((zm_goesAsF (h := h) hI (a := v3) (b := v7) (by omega) (by omega) (by omega) (by omega)).up (Nat.le_of_ble_eq_true rfl)) ?_
      rintro r10 h13 ⟨h13q, v11, r10q, x12⟩
      subst h13q r10q
      try dsimp only at x12
      have gA := x12.1
      show zx_T zp_P 1 zp_m127 21 [(0, .ref 23), (1, .ref 25), (2, .int (zI (k)))] [.int (zI (v11))] h _
      refine zr_i1 (x := v11) (t := 26) (pc := 21) rfl rfl (by omega) (by omega) (fun (c14 : ¬ v11 = 0) => ?_) (fun (c14 : ¬ (¬ v11 = 0)) => ?_)
      · refine zr_inc (x := k) (n := 1) (y := k + 1) (ls' := [(2, .int (zI (k + 1))), (0, .ref 23), (1, .ref 25)]) (pc := 26) rfl rfl rfl (by omega) rfl ?_
        refine zx_T.j (i := .goto (-27)) (k := 3) (pc' := 2) (st' := []) (pc := 29) rfl rfl rfl rfl rfl ?_
        refine zx_T.lk (ls' := [(0, .ref 23), (1, .ref 25), (2, .int (zI (k + 1)))]) rfl ⟨rfl, rfl, rfl, trivial⟩ ?_
        exact ih (k := k + 1) (by omega) (by omega) (fun j j0 j1 => by rcases (show j = k ∨ j < k by omega) with z | z; (subst z; rw [← ka, ← kb]; exact (gA.resolve_right (fun z => absurd z.1 (by omega))).2); exact lg j j0 z) (by omega)
      · refine zx_T.s (i := .iconst 0) (k := 1) (st' := [.int (zI (0))]) (pc := 24) rfl rfl ?_
        exact zr_ir (x := 0) (pc := 25) rfl rfl (zr_nb (by omega) (by omega)) ⟨rfl, _, rfl, by dsimp only; exact ⟨Or.inr ⟨rfl, fun z => (gA.resolve_left (fun z => absurd z.1 (by omega))).2 (by rw [ka, kb]; exact z k k1 (by omega))⟩, by omega, by omega⟩⟩
set_option maxRecDepth 100000 in
set_option maxHeartbeats 4000000 in
theorem zm_localsGoAsF {h : zx_H} (hI : zb_I zc_H h)  (zk : zk_in (zv_f h 23 1) (zv_a h 24)) : zx_T zp_P 1 zp_m127 0 [(0, .ref 23), (1, .ref 25)] [] h (zr_P h (fun e => ((e = 1 ∧ zs_lg (zv_a h 24) (zv_a h 26)) ∨ (e = 0 ∧ ¬ zs_lg (zv_a h 24) (zv_a h 26))) ∧ 0 ≤ e ∧ e ≤ 1)) := by
  have hS := zw_ri hI (a := 23) (k := 1) rfl
  refine zx_T.s (i := .iconst 0) (k := 1) (st' := [.int (zI (0))]) (pc := 0) rfl rfl ?_
  refine zx_T.t (i := .istore_n 2) (k := 1) (ls' := [(2, .int (zI (0))), (0, .ref 23), (1, .ref 25)]) (st' := []) (pc := 1) rfl rfl rfl rfl ?_
  refine zx_T.lk (ls' := [(0, .ref 23), (1, .ref 25), (2, .int (zI (0)))]) rfl ⟨rfl, rfl, rfl, trivial⟩ ?_
  exact zm_localsGoAsF_L (h := h) hI  zk ((8 - 0 : Int).toNat + 1) (k := 0) (by omega) (by omega) (fun j j0 j1 => absurd j1 (by omega)) (Nat.lt_succ_self _)

set_option maxRecDepth 100000 in
set_option maxHeartbeats 4000000 in
theorem zm_allGoesAsF_L {h : zx_H} (hI : zb_I zc_H h)  (zk : zk_in (zv_f h 23 1) (zv_a h 24)) (n : Nat) : (∀ {k : Int} (k1 : 8 ≤ k) (k2 : k ≤ 8 + zv_f h 23 1) (sE : zv_f h 23 1 = zv_f h 25 1) (lg : zs_lg (zv_a h 24) (zv_a h 26)) (sg : ∀ j, 0 ≤ j → j < k - 8 → zc_g (zv_a h 24 (8 + j)) (zv_a h 26 (8 + j))), (20 - k : Int).toNat < n → zx_T zp_P 2 zp_m128 24 [(0, .ref 23), (1, .ref 25), (2, .int (zI (k)))] [] h (zr_P h (fun e => ((e = 1 ∧ zs_gg (zv_f h 23 1) (zv_a h 24) (zv_f h 25 1) (zv_a h 26)) ∨ (e = 0 ∧ ¬ zs_gg (zv_f h 23 1) (zv_a h 24) (zv_f h 25 1) (zv_a h 26))) ∧ 0 ≤ e ∧ e ≤ 1))) := by
  induction n with
  | zero => exact fun _ _ _ _ _ hm => absurd hm (Nat.not_lt_zero _)
  | succ n ih =>
    intro k k1 k2 sE lg sg hm
    have hS := zw_ri hI (a := 23) (k := 1) rfl
    refine zx_T.l (i := .iload_n 2) (k := 1) (v := .int (zI (k))) (pc := 24) rfl rfl rfl ?_
    refine zx_T.s (i := .bipush 8) (k := 2) (st' := [.int (zI (8)), .int (zI (k))]) (pc := 25) rfl rfl ?_
    refine zx_T.l (i := .aload_n 0) (k := 1) (v := .ref 23) (pc := 27) rfl rfl rfl ?_
    refine zw_gi (k := 1) (lo := 0) (hi := 6) (e := zv_f h 23 1) (pc := 28) rfl rfl rfl hI rfl (fun g1a g1b => ?_)
    refine zr_add (x := 8) (y := zv_f h 23 1) (e := zv_f h 23 1 + 8) (pc := 31) rfl (by omega) ?_
    refine zr_i2 (x := k) (y := zv_f h 23 1 + 8) (t := 59) (pc := 32) rfl rfl (by omega) (by omega) (by omega) (by omega) (fun (c2 : (zv_f h 23 1 + 8) ≤ k) => ?_) (fun (c2 : ¬ ((zv_f h 23 1 + 8) ≤ k)) => ?_)
    · refine zx_T.s (i := .iconst 1) (k := 1) (st' := [.int (zI (1))]) (pc := 59) rfl rfl ?_
      exact zr_ir (x := 1) (pc := 60) rfl rfl (zr_nb (by omega) (by omega)) ⟨rfl, _, rfl, by dsimp only; exact ⟨Or.inl ⟨rfl, sE, lg, fun j j0 j1 => sg j j0 (by omega)⟩, by omega, by omega⟩⟩
    · refine zx_T.l (i := .aload_n 0) (k := 1) (v := .ref 23) (pc := 35) rfl rfl rfl ?_
      refine zx_T.l (i := .iload_n 2) (k := 1) (v := .int (zI (k))) (pc := 36) rfl rfl rfl ?_
      refine zw_iv (b := 23) (cj := 118) (q' := zp_m118) (As := [.int (zI (k))]) (rest := []) (pc := 37) rfl rfl rfl rfl rfl rfl rfl (Nat.le_of_ble_eq_true rfl) rfl (Nat.le_of_ble_eq_true rfl) hI ((zm_kindOf_23 (h := h) hI (i := k) (by omega) (by omega)).up (Nat.le_of_ble_eq_true rfl)) ?_
      rintro r3 h6 ⟨h6q, v4, r3q, x5⟩
      subst h6q r3q
      try dsimp only at x5
      have ka : v4 = zv_a h 24 k := (by have y := x5.1; omega)
      have kz := zk k (by omega) (by omega)
      show zx_T zp_P 2 zp_m128 40 [(0, .ref 23), (1, .ref 25), (2, .int (zI (k)))] [.int (zI (v4))] h _
      refine zx_T.l (i := .aload_n 1) (k := 1) (v := .ref 25) (pc := 40) rfl rfl rfl ?_
      refine zx_T.l (i := .iload_n 2) (k := 1) (v := .int (zI (k))) (pc := 41) rfl rfl rfl ?_
      refine zw_iv (b := 25) (cj := 118) (q' := zp_m118) (As := [.int (zI (k))]) (rest := [.int (zI (v4))]) (pc := 42) rfl rfl rfl rfl rfl rfl rfl (Nat.le_of_ble_eq_true rfl) rfl (Nat.le_of_ble_eq_true rfl) hI ((zm_kindOf_25 (h := h) hI (i := k) (by omega) (by omega)).up (Nat.le_of_ble_eq_true rfl)) ?_
      rintro r7 h10 ⟨h10q, v8, r7q, x9⟩
      subst h10q r7q
      try dsimp only at x9
      have kb : v8 = zv_a h 26 k := (by have y := x9.1; omega)
      show zx_T zp_P 2 zp_m128 45 [(0, .ref 23), (1, .ref 25), (2, .int (zI (k)))] [.int (zI (v8)), .int (zI (v4))] h _
      refine zr_is (cj := 49) (q' := zp_m49) (As := [.int (zI (v4)), .int (zI (v8))]) (rest := []) (pc := 45) rfl rfl rfl rfl rfl rfl (Nat.le_of_ble_eq_true rfl) rfl (Nat.le_of_ble_eq_true rfl) rfl ((zm_goesAsF (h := h) hI (a := v4) (b := v8) (by omega) (by omega) (by omega) (by omega)).up (Nat.le_of_ble_eq_true rfl)) ?_
      rintro r11 h14 ⟨h14q, v12, r11q, x13⟩
      subst h14q r11q
      try dsimp only at x13
      have gA := x13.1
      show zx_T zp_P 2 zp_m128 48 [(0, .ref 23), (1, .ref 25), (2, .int (zI (k)))] [.int (zI (v12))] h _
      refine zr_i1 (x := v12) (t := 53) (pc := 48) rfl rfl (by omega) (by omega) (fun (c15 : ¬ v12 = 0) => ?_) (fun (c15 : ¬ (¬ v12 = 0)) => ?_)
      · refine zr_inc (x := k) (n := 1) (y := k + 1) (ls' := [(2, .int (zI (k + 1))), (0, .ref 23), (1, .ref 25)]) (pc := 53) rfl rfl rfl (by omega) rfl ?_
        refine zx_T.j (i := .goto (-32)) (k := 3) (pc' := 24) (st' := []) (pc := 56) rfl rfl rfl rfl rfl ?_
        refine zx_T.lk (ls' := [(0, .ref 23), (1, .ref 25), (2, .int (zI (k + 1)))]) rfl ⟨rfl, rfl, rfl, trivial⟩ ?_
        exact ih (k := k + 1) (by omega) (by omega) (by omega) lg (fun j j0 j1 => by rcases (show 8 + j = k ∨ j < k - 8 by omega) with z | z; (rw [z, ← ka, ← kb]; exact (gA.resolve_right (fun z => absurd z.1 (by omega))).2); exact sg j j0 z) (by omega)
      · refine zx_T.s (i := .iconst 0) (k := 1) (st' := [.int (zI (0))]) (pc := 51) rfl rfl ?_
        exact zr_ir (x := 0) (pc := 52) rfl rfl (zr_nb (by omega) (by omega)) ⟨rfl, _, rfl, by dsimp only; exact ⟨Or.inr ⟨rfl, fun z => (gA.resolve_left (fun z => absurd z.1 (by omega))).2 (by have z9 := z.2.2 (k - 8) (by omega) (by omega); rw [show 8 + (k - 8) = k by omega] at z9; rw [ka, kb]; exact z9)⟩, by omega, by omega⟩⟩
set_option maxRecDepth 100000 in
set_option maxHeartbeats 4000000 in
theorem zm_allGoesAsF {h : zx_H} (hI : zb_I zc_H h)  (zk : zk_in (zv_f h 23 1) (zv_a h 24)) : zx_T zp_P 2 zp_m128 0 [(0, .ref 23), (1, .ref 25)] [] h (zr_P h (fun e => ((e = 1 ∧ zs_gg (zv_f h 23 1) (zv_a h 24) (zv_f h 25 1) (zv_a h 26)) ∨ (e = 0 ∧ ¬ zs_gg (zv_f h 23 1) (zv_a h 24) (zv_f h 25 1) (zv_a h 26))) ∧ 0 ≤ e ∧ e ≤ 1)) := by
  have hS := zw_ri hI (a := 23) (k := 1) rfl
  refine zx_T.l (i := .aload_n 0) (k := 1) (v := .ref 23) (pc := 0) rfl rfl rfl ?_
  refine zw_gi (k := 1) (lo := 0) (hi := 6) (e := zv_f h 23 1) (pc := 1) rfl rfl rfl hI rfl (fun g16a g16b => ?_)
  refine zx_T.l (i := .aload_n 1) (k := 1) (v := .ref 25) (pc := 4) rfl rfl rfl ?_
  refine zw_gi (k := 1) (lo := 0) (hi := 6) (e := zv_f h 25 1) (pc := 5) rfl rfl rfl hI rfl (fun g17a g17b => ?_)
  refine zr_i2 (x := zv_f h 23 1) (y := zv_f h 25 1) (t := 19) (pc := 8) rfl rfl (by omega) (by omega) (by omega) (by omega) (fun (c18 : ¬ (zv_f h 23 1) = (zv_f h 25 1)) => ?_) (fun (c18 : ¬ (¬ (zv_f h 23 1) = (zv_f h 25 1))) => ?_)
  · refine zx_T.s (i := .iconst 0) (k := 1) (st' := [.int (zI (0))]) (pc := 19) rfl rfl ?_
    exact zr_ir (x := 0) (pc := 20) rfl rfl (zr_nb (by omega) (by omega)) ⟨rfl, _, rfl, by dsimp only; exact ⟨Or.inr ⟨rfl, fun z => by have z1 := z.1; first | omega | exact (lG.resolve_left (fun z => absurd z.1 (by omega))).2 z.2.1⟩, by omega, by omega⟩⟩
  · refine zx_T.l (i := .aload_n 0) (k := 1) (v := .ref 23) (pc := 11) rfl rfl rfl ?_
    refine zx_T.l (i := .aload_n 1) (k := 1) (v := .ref 25) (pc := 12) rfl rfl rfl ?_
    refine zw_iv (b := 23) (cj := 127) (q' := zp_m127) (As := [.ref 25]) (rest := []) (pc := 13) rfl rfl rfl rfl rfl rfl rfl (Nat.le_of_ble_eq_true rfl) rfl (Nat.le_of_ble_eq_true rfl) hI ((zm_localsGoAsF (h := h) hI  zk).up (Nat.le_of_ble_eq_true rfl)) ?_
    rintro r19 h22 ⟨h22q, v20, r19q, x21⟩
    subst h22q r19q
    try dsimp only at x21
    have lG := x21.1
    show zx_T zp_P 2 zp_m128 16 [(0, .ref 23), (1, .ref 25)] [.int (zI (v20))] h _
    refine zr_i1 (x := v20) (t := 21) (pc := 16) rfl rfl (by omega) (by omega) (fun (c23 : ¬ v20 = 0) => ?_) (fun (c23 : ¬ (¬ v20 = 0)) => ?_)
    · refine zx_T.s (i := .bipush 8) (k := 2) (st' := [.int (zI (8))]) (pc := 21) rfl rfl ?_
      refine zx_T.t (i := .istore_n 2) (k := 1) (ls' := [(2, .int (zI (8))), (0, .ref 23), (1, .ref 25)]) (st' := []) (pc := 23) rfl rfl rfl rfl ?_
      refine zx_T.lk (ls' := [(0, .ref 23), (1, .ref 25), (2, .int (zI (8)))]) rfl ⟨rfl, rfl, rfl, trivial⟩ ?_
      exact zm_allGoesAsF_L (h := h) hI  zk ((20 - 8 : Int).toNat + 1) (k := 8) (by omega) (by omega) (by omega) (lG.resolve_right (fun z => absurd z.1 (by omega))).2 (fun j j0 j1 => absurd j1 (by omega)) (Nat.lt_succ_self _)
    · refine zx_T.s (i := .iconst 0) (k := 1) (st' := [.int (zI (0))]) (pc := 19) rfl rfl ?_
      exact zr_ir (x := 0) (pc := 20) rfl rfl (zr_nb (by omega) (by omega)) ⟨rfl, _, rfl, by dsimp only; exact ⟨Or.inr ⟨rfl, fun z => by have z1 := z.1; first | omega | exact (lG.resolve_left (fun z => absurd z.1 (by omega))).2 z.2.1⟩, by omega, by omega⟩⟩

set_option maxRecDepth 100000 in
set_option maxHeartbeats 4000000 in
theorem zm_fFrameAt_L {h : zx_H} (hI : zb_I zc_H h) {p : Int} (p1 : -2147483648 ≤ p) (p2 : p ≤ 2147483647) (n : Nat) : (∀ {f : Int} (f1 : 0 ≤ f) (f2 : f ≤ zv_f h 10 3) (nf : ∀ j, 0 ≤ j → j < f → ¬ zv_a h 14 j = p), (60 - f : Int).toNat < n → zx_T zp_P 0 zp_m35 2 [(0, .ref 10), (1, .int (zI (p))), (2, .int (zI (f)))] [] h (zr_P h (fun e => (e = -1 ∧ ∀ j, 0 ≤ j → j < zv_f h 10 3 → ¬ zv_a h 14 j = p) ∨ (0 ≤ e ∧ e < zv_f h 10 3 ∧ zv_a h 14 e = p ∧ ∀ j, 0 ≤ j → j < e → ¬ zv_a h 14 j = p)))) := by
  induction n with
  | zero => exact fun _ _ _ hm => absurd hm (Nat.not_lt_zero _)
  | succ n ih =>
    intro f f1 f2 nf hm
    have hM := zw_ri hI (a := 10) (k := 3) rfl
    refine zx_T.l (i := .iload_n 2) (k := 1) (v := .int (zI (f))) (pc := 2) rfl rfl rfl ?_
    refine zx_T.l (i := .aload_n 0) (k := 1) (v := .ref 10) (pc := 3) rfl rfl rfl ?_
    refine zw_gi (k := 3) (lo := 0) (hi := 60) (e := zv_f h 10 3) (pc := 4) rfl rfl rfl hI rfl (fun g1a g1b => ?_)
    refine zr_i2 (x := f) (y := zv_f h 10 3) (t := 28) (pc := 7) rfl rfl (by omega) (by omega) (by omega) (by omega) (fun (c2 : (zv_f h 10 3) ≤ f) => ?_) (fun (c2 : ¬ ((zv_f h 10 3) ≤ f)) => ?_)
    · refine zx_T.s (i := .iconst (-1)) (k := 1) (st' := [.int (zI ((-1)))]) (pc := 28) rfl rfl ?_
      exact zr_ir (x := (-1)) (pc := 29) rfl rfl rfl ⟨rfl, _, rfl, by dsimp only; exact Or.inl ⟨rfl, fun j j0 j1 => nf j j0 (by omega)⟩⟩
    · refine zx_T.l (i := .aload_n 0) (k := 1) (v := .ref 10) (pc := 10) rfl rfl rfl ?_
      refine zw_gr (k := 1) (b := 14) (pc := 11) rfl rfl rfl hI ?_
      refine zx_T.l (i := .iload_n 2) (k := 1) (v := .int (zI (f))) (pc := 14) rfl rfl rfl ?_
      refine zr_al (n := 60) (lo := (-2147483648)) (hi := 2147483647) (e := zv_a h 14 f) (pc := 15) rfl rfl rfl hI (by omega) (by omega) rfl (fun g3a g3b => ?_)
      refine zx_T.l (i := .iload_n 1) (k := 1) (v := .int (zI (p))) (pc := 16) rfl rfl rfl ?_
      refine zr_i2 (x := zv_a h 14 f) (y := p) (t := 22) (pc := 17) rfl rfl (by omega) (by omega) (by omega) (by omega) (fun (c4 : ¬ (zv_a h 14 f) = p) => ?_) (fun (c4 : ¬ (¬ (zv_a h 14 f) = p)) => ?_)
      · refine zr_inc (x := f) (n := 1) (y := f + 1) (ls' := [(2, .int (zI (f + 1))), (0, .ref 10), (1, .int (zI (p)))]) (pc := 22) rfl rfl rfl (by omega) rfl ?_
        refine zx_T.j (i := .goto (-23)) (k := 3) (pc' := 2) (st' := []) (pc := 25) rfl rfl rfl rfl rfl ?_
        refine zx_T.lk (ls' := [(0, .ref 10), (1, .int (zI (p))), (2, .int (zI (f + 1)))]) rfl ⟨rfl, rfl, rfl, trivial⟩ ?_
        exact ih (f := f + 1) (by omega) (by omega) (fun j j0 j1 => by first | omega | (rcases (show j = f ∨ j < f by omega) with e9 | e9; (subst e9; omega); exact nf j j0 e9)) (by omega)
      · refine zx_T.l (i := .iload_n 2) (k := 1) (v := .int (zI (f))) (pc := 20) rfl rfl rfl ?_
        exact zr_ir (x := f) (pc := 21) rfl rfl rfl ⟨rfl, _, rfl, by dsimp only; exact Or.inr ⟨by omega, by omega, by omega, nf⟩⟩
set_option maxRecDepth 100000 in
set_option maxHeartbeats 4000000 in
theorem zm_fFrameAt {h : zx_H} (hI : zb_I zc_H h) {p : Int} (p1 : -2147483648 ≤ p) (p2 : p ≤ 2147483647) : zx_T zp_P 0 zp_m35 0 [(0, .ref 10), (1, .int (zI (p)))] [] h (zr_P h (fun e => (e = -1 ∧ ∀ j, 0 ≤ j → j < zv_f h 10 3 → ¬ zv_a h 14 j = p) ∨ (0 ≤ e ∧ e < zv_f h 10 3 ∧ zv_a h 14 e = p ∧ ∀ j, 0 ≤ j → j < e → ¬ zv_a h 14 j = p))) := by
  have hM := zw_ri hI (a := 10) (k := 3) rfl
  refine zx_T.s (i := .iconst 0) (k := 1) (st' := [.int (zI (0))]) (pc := 0) rfl rfl ?_
  refine zx_T.t (i := .istore_n 2) (k := 1) (ls' := [(2, .int (zI (0))), (0, .ref 10), (1, .int (zI (p)))]) (st' := []) (pc := 1) rfl rfl rfl rfl ?_
  refine zx_T.lk (ls' := [(0, .ref 10), (1, .int (zI (p))), (2, .int (zI (0)))]) rfl ⟨rfl, rfl, rfl, trivial⟩ ?_
  exact zm_fFrameAt_L (h := h) hI (p := p) p1 p2 ((60 - 0 : Int).toNat + 1) (f := 0) (by omega) (by omega) (fun j j0 j1 => by first | omega | (rcases (show j = f ∨ j < f by omega) with e9 | e9; (subst e9; omega); exact nf j j0 e9)) (Nat.lt_succ_self _)

set_option maxRecDepth 100000 in
set_option maxHeartbeats 4000000 in
theorem zm_fHas {h : zx_H} (hI : zb_I zc_H h) {f : Int} (f1 : 0 ≤ f) (f2 : f < zv_f h 10 3) : zx_T zp_P 0 zp_m31 0 [(0, .ref 10), (1, .int (zI (f)))] [] h (zr_P h (fun e => 1 ≤ e ∧ e ≤ 1)) := by
  have hM := zw_ri hI (a := 10) (k := 3) rfl
  refine zx_T.l (i := .iload_n 1) (k := 1) (v := .int (zI (f))) (pc := 0) rfl rfl rfl ?_
  refine zr_i1 (x := f) (t := 16) (pc := 1) rfl rfl (by omega) (by omega) (fun (c1 : f < 0) => False.elim (by omega)) (fun (c1 : ¬ (f < 0)) => ?_)
  refine zx_T.l (i := .iload_n 1) (k := 1) (v := .int (zI (f))) (pc := 4) rfl rfl rfl ?_
  refine zx_T.l (i := .aload_n 0) (k := 1) (v := .ref 10) (pc := 5) rfl rfl rfl ?_
  refine zw_gi (k := 3) (lo := 0) (hi := 60) (e := zv_f h 10 3) (pc := 6) rfl rfl rfl hI rfl (fun g2a g2b => ?_)
  refine zr_i2 (x := f) (y := zv_f h 10 3) (t := 16) (pc := 9) rfl rfl (by omega) (by omega) (by omega) (by omega) (fun (c3 : (zv_f h 10 3) ≤ f) => ?_) (fun (c3 : ¬ ((zv_f h 10 3) ≤ f)) => ?_)
  · refine zx_T.s (i := .iconst 0) (k := 1) (st' := [.int (zI (0))]) (pc := 16) rfl rfl ?_
    exact zr_ir (x := 0) (pc := 17) rfl rfl (zr_nb (by omega) (by omega)) ⟨rfl, _, rfl, by dsimp only; omega⟩
  · refine zx_T.s (i := .iconst 1) (k := 1) (st' := [.int (zI (1))]) (pc := 12) rfl rfl ?_
    refine zx_T.j (i := .goto 4) (k := 3) (pc' := 17) (st' := [.int (zI (1))]) (pc := 13) rfl rfl rfl rfl rfl ?_
    exact zr_ir (x := 1) (pc := 17) rfl rfl (zr_nb (by omega) (by omega)) ⟨rfl, _, rfl, by dsimp only; omega⟩

set_option maxRecDepth 100000 in
set_option maxHeartbeats 4000000 in
theorem zm_fPlaceOf {h : zx_H} (hI : zb_I zc_H h) {f : Int} (f1 : 0 ≤ f) (f2 : f < zv_f h 10 3) : zx_T zp_P 1 zp_m32 0 [(0, .ref 10), (1, .int (zI (f)))] [] h (zr_P h (fun e => e = zv_a h 14 f ∧ (-2147483648) ≤ e ∧ e ≤ 2147483647)) := by
  have hM := zw_ri hI (a := 10) (k := 3) rfl
  refine zx_T.l (i := .aload_n 0) (k := 1) (v := .ref 10) (pc := 0) rfl rfl rfl ?_
  refine zx_T.l (i := .iload_n 1) (k := 1) (v := .int (zI (f))) (pc := 1) rfl rfl rfl ?_
  refine zw_iv (b := 10) (cj := 31) (q' := zp_m31) (As := [.int (zI (f))]) (rest := []) (pc := 2) rfl rfl rfl rfl rfl rfl rfl (Nat.le_of_ble_eq_true rfl) rfl (Nat.le_of_ble_eq_true rfl) hI ((zm_fHas (h := h) hI (f := f) (by omega) (by omega)).up (Nat.le_of_ble_eq_true rfl)) ?_
  rintro r2 h5 ⟨h5q, v3, r2q, x4⟩
  subst h5q r2q
  try dsimp only at x4
  show zx_T zp_P 1 zp_m32 5 [(0, .ref 10), (1, .int (zI (f)))] [.int (zI (v3))] h _
  refine zr_i1 (x := v3) (t := 17) (pc := 5) rfl rfl (by omega) (by omega) (fun (c6 : v3 = 0) => False.elim (by omega)) (fun (c6 : ¬ (v3 = 0)) => ?_)
  refine zx_T.l (i := .aload_n 0) (k := 1) (v := .ref 10) (pc := 8) rfl rfl rfl ?_
  refine zw_gr (k := 1) (b := 14) (pc := 9) rfl rfl rfl hI ?_
  refine zx_T.l (i := .iload_n 1) (k := 1) (v := .int (zI (f))) (pc := 12) rfl rfl rfl ?_
  refine zr_al (n := 60) (lo := (-2147483648)) (hi := 2147483647) (e := zv_a h 14 f) (pc := 13) rfl rfl rfl hI (by omega) (by omega) rfl (fun g7a g7b => ?_)
  refine zx_T.j (i := .goto 4) (k := 3) (pc' := 18) (st' := [.int (zI (zv_a h 14 f))]) (pc := 14) rfl rfl rfl rfl rfl ?_
  exact zr_ir (x := zv_a h 14 f) (pc := 18) rfl rfl rfl ⟨rfl, _, rfl, by dsimp only; omega⟩

set_option maxRecDepth 100000 in
set_option maxHeartbeats 4000000 in
theorem zm_fRead_23 {h : zx_H} (hI : zb_I zc_H h) {f : Int} (f1 : 0 ≤ f) (f2 : f ≤ 59) : zx_T zp_P 3 zp_m36 0 [(0, .ref 10), (1, .int (zI (f))), (2, .ref 23)] [] h (zr_V [(23, 1), (24, 0)] h (fun h' => (0 ≤ zv_a h 13 f → zv_a h 13 f ≤ 6 → zv_f h' 23 1 = zv_a h 13 f) ∧ ∀ j, 0 ≤ j → j < 14 → zv_a h' 24 j = zv_a h 12 (14 * f + j))) := by
  refine zx_T.l (i := .aload_n 0) (k := 1) (v := .ref 10) (pc := 0) rfl rfl rfl ?_
  refine zw_gr (k := 0) (b := 11) (pc := 1) rfl rfl rfl hI ?_
  refine zx_T.l (i := .iload_n 1) (k := 1) (v := .int (zI (f))) (pc := 4) rfl rfl rfl ?_
  refine zx_T.l (i := .aload_n 2) (k := 1) (v := .ref 23) (pc := 5) rfl rfl rfl ?_
  refine zw_iv (b := 11) (cj := 135) (q' := zp_m135) (As := [.int (zI (f)), .ref 23]) (rest := []) (pc := 6) rfl rfl rfl rfl rfl rfl rfl (Nat.le_of_ble_eq_true rfl) rfl (Nat.le_of_ble_eq_true rfl) hI ((zm_tRead_11_23 (h := h) hI (r := f) (by omega) (by omega)).up (Nat.le_of_ble_eq_true rfl)) ?_
  rintro r1 h4 ⟨ih4, w5, r1q, x3⟩
  subst r1q
  try dsimp only at x3
  have tr1 := x3
  have rr := x3
  show zx_T zp_P 3 zp_m36 9 [(0, .ref 10), (1, .int (zI (f))), (2, .ref 23)] [] h4 _
  exact zr_vr (pc := 9) rfl rfl ⟨ih4, (w5.wd rfl : zb_W [(23, 1), (24, 0)] h _), rfl, by dsimp only; exact tr1⟩

set_option maxRecDepth 100000 in
set_option maxHeartbeats 4000000 in
theorem zm_fRead_25 {h : zx_H} (hI : zb_I zc_H h) {f : Int} (f1 : 0 ≤ f) (f2 : f ≤ 59) : zx_T zp_P 3 zp_m36 0 [(0, .ref 10), (1, .int (zI (f))), (2, .ref 25)] [] h (zr_V [(25, 1), (26, 0)] h (fun h' => (0 ≤ zv_a h 13 f → zv_a h 13 f ≤ 6 → zv_f h' 25 1 = zv_a h 13 f) ∧ ∀ j, 0 ≤ j → j < 14 → zv_a h' 26 j = zv_a h 12 (14 * f + j))) := by
  refine zx_T.l (i := .aload_n 0) (k := 1) (v := .ref 10) (pc := 0) rfl rfl rfl ?_
  refine zw_gr (k := 0) (b := 11) (pc := 1) rfl rfl rfl hI ?_
  refine zx_T.l (i := .iload_n 1) (k := 1) (v := .int (zI (f))) (pc := 4) rfl rfl rfl ?_
  refine zx_T.l (i := .aload_n 2) (k := 1) (v := .ref 25) (pc := 5) rfl rfl rfl ?_
  refine zw_iv (b := 11) (cj := 135) (q' := zp_m135) (As := [.int (zI (f)), .ref 25]) (rest := []) (pc := 6) rfl rfl rfl rfl rfl rfl rfl (Nat.le_of_ble_eq_true rfl) rfl (Nat.le_of_ble_eq_true rfl) hI ((zm_tRead_11_25 (h := h) hI (r := f) (by omega) (by omega)).up (Nat.le_of_ble_eq_true rfl)) ?_
  rintro r1 h4 ⟨ih4, w5, r1q, x3⟩
  subst r1q
  try dsimp only at x3
  have tr1 := x3
  have rr := x3
  show zx_T zp_P 3 zp_m36 9 [(0, .ref 10), (1, .int (zI (f))), (2, .ref 25)] [] h4 _
  exact zr_vr (pc := 9) rfl rfl ⟨ih4, (w5.wd rfl : zb_W [(25, 1), (26, 0)] h _), rfl, by dsimp only; exact tr1⟩
