/-! ===== 51: the reference, method by method (by program) ===== -/
theorem zg_n1 {w R R' S S' : Int} {Q : Prop} (x : (¬ R = 0 → R' = R ∧ S' = S) ∧ (R = 0 → (¬ R' = 0 ∧ S' = S) ∨ (R' = 0 ∧ (w = 2 → S' = S - 2) ∧ (¬ w = 2 → S' = S - 1) ∧ 0 ≤ S' ∧ 1 ≤ S)) ∧ Q) (hw : ¬ w = 2) : (¬ R = 0 ∧ R' = R ∧ S' = S) ∨ (R = 0 ∧ ¬ R' = 0 ∧ S' = S) ∨ (R = 0 ∧ R' = 0 ∧ S' = S - 1 ∧ 1 ≤ S) := by omega
theorem zg_n2 {w R R' S S' : Int} {Q : Prop} (x : (¬ R = 0 → R' = R ∧ S' = S) ∧ (R = 0 → (¬ R' = 0 ∧ S' = S) ∨ (R' = 0 ∧ (w = 2 → S' = S - 2) ∧ (¬ w = 2 → S' = S - 1) ∧ 0 ≤ S' ∧ 1 ≤ S)) ∧ Q) (hw : w = 2) : (¬ R = 0 ∧ R' = R ∧ S' = S) ∨ (R = 0 ∧ ¬ R' = 0 ∧ S' = S) ∨ (R = 0 ∧ R' = 0 ∧ S' = S - 2 ∧ 2 ≤ S) := by omega
theorem zg_p1 {k R R' S S' : Int} {Q : Prop} (x : (¬ R = 0 → R' = R ∧ S' = S) ∧ (R = 0 → (¬ R' = 0 ∧ S' = S) ∨ (R' = 0 ∧ (k = 2 → S' = S + 2) ∧ (¬ k = 2 → S' = S + 1))) ∧ Q) (hw : ¬ k = 2) : (¬ R = 0 ∧ R' = R ∧ S' = S) ∨ (R = 0 ∧ ¬ R' = 0 ∧ S' = S) ∨ (R = 0 ∧ R' = 0 ∧ S' = S + 1) := by omega
theorem zg_p2 {k R R' S S' : Int} {Q : Prop} (x : (¬ R = 0 → R' = R ∧ S' = S) ∧ (R = 0 → (¬ R' = 0 ∧ S' = S) ∨ (R' = 0 ∧ (k = 2 → S' = S + 2) ∧ (¬ k = 2 → S' = S + 1))) ∧ Q) (hw : k = 2) : (¬ R = 0 ∧ R' = R ∧ S' = S) ∨ (R = 0 ∧ ¬ R' = 0 ∧ S' = S) ∨ (R = 0 ∧ R' = 0 ∧ S' = S + 2) := by omega

set_option maxRecDepth 100000 in
set_option maxHeartbeats 4000000 in
theorem zm_need {h : zx_H} (hI : zb_I zc_H h) {w : Int} (w1 : 1 ≤ w) (w2 : w ≤ 7) (n8 : ¬ zv_a h 61 8 = 3) : zx_T zp_P 2 zp_m162 0 [(0, .ref 44), (1, .int (zI (w)))] [] h (zr_V [(44, 25), (44, 26)] h (fun h' => (¬ zv_i h 26 = 0 → zv_i h' 26 = zv_i h 26 ∧ zv_i h' 25 = zv_i h 25) ∧ (zv_i h 26 = 0 → (¬ zv_i h' 26 = 0 ∧ zv_i h' 25 = zv_i h 25) ∨ (zv_i h' 26 = 0 ∧ (w = 2 → zv_i h' 25 = zv_i h 25 - 2) ∧ (¬ w = 2 → zv_i h' 25 = zv_i h 25 - 1) ∧ 0 ≤ zv_i h' 25 ∧ 1 ≤ zv_i h 25)) ∧ (∀ j, j = zv_i h 25 + 7 → zv_i h 26 = 0 → zv_i h' 26 = 0 → (w = 1 → zv_a h 61 j = 1) ∧ (w = 2 → zv_a h 61 j = 3) ∧ (w = 5 → 4 ≤ zv_a h 61 j) ∧ (w = 6 → zv_a h 61 j = 6 ∨ zv_a h 61 j = 4) ∧ (w = 7 → zv_a h 61 j = 7 ∨ zv_a h 61 j = 8 ∨ zv_a h 61 j = 4)))) := by
  have hn : zv_i h 25 = 1 → ¬ zv_a h 61 (zv_i h 25 + 7) = 3 := fun z => by rw [z]; exact n8
  refine zx_T.l (i := .aload_n 0) (k := 1) (v := .ref 44) (pc := 0) rfl rfl rfl ?_
  refine zr_gi (k := 26) (lo := 0) (hi := 7) (e := zv_i h 26) (pc := 1) rfl rfl rfl hI rfl (fun g1a g1b => ?_)
  refine zr_i1 (x := zv_i h 26) (t := 8) (pc := 4) rfl rfl (by omega) (by omega) (fun (c2 : (zv_i h 26) = 0) => ?_) (fun (c2 : ¬ ((zv_i h 26) = 0)) => ?_)
  · refine zx_T.l (i := .aload_n 0) (k := 1) (v := .ref 44) (pc := 8) rfl rfl rfl ?_
    refine zr_gi (k := 25) (lo := 0) (hi := 6) (e := zv_i h 25) (pc := 9) rfl rfl rfl hI rfl (fun g3a g3b => ?_)
    refine zr_i1 (x := zv_i h 25) (t := 23) (pc := 12) rfl rfl (by omega) (by omega) (fun (c4 : ¬ (zv_i h 25) = 0) => ?_) (fun (c4 : ¬ (¬ (zv_i h 25) = 0)) => ?_)
    · refine zx_T.l (i := .aload_n 0) (k := 1) (v := .ref 44) (pc := 23) rfl rfl rfl ?_
      refine zr_iv (cj := 160) (q' := zp_m160) (As := []) (rest := []) (pc := 24) rfl rfl rfl rfl rfl rfl (Nat.le_of_ble_eq_true rfl) rfl (Nat.le_of_ble_eq_true rfl) hI ((zm_top (h := h) hI  ).up (Nat.le_of_ble_eq_true rfl)) ?_
      rintro r5 h8 ⟨h8q, v6, r5q, x7⟩
      subst h8q r5q
      try dsimp only at x7
      show zx_T zp_P 2 zp_m162 27 [(0, .ref 44), (1, .int (zI (w)))] [.int (zI (v6))] h _
      refine zx_T.l (i := .iload_n 1) (k := 1) (v := .int (zI (w))) (pc := 27) rfl rfl rfl ?_
      refine zr_is (cj := 161) (q' := zp_m161) (As := [.int (zI (v6)), .int (zI (w))]) (rest := []) (pc := 28) rfl rfl rfl rfl rfl rfl (Nat.le_of_ble_eq_true rfl) rfl (Nat.le_of_ble_eq_true rfl) rfl ((zm_fits (h := h) hI (k := v6) (w := w) (by omega) (by omega) (by omega) (by omega)).up (Nat.le_of_ble_eq_true rfl)) ?_
      rintro r9 h12 ⟨h12q, v10, r9q, x11⟩
      subst h12q r9q
      try dsimp only at x11
      show zx_T zp_P 2 zp_m162 31 [(0, .ref 44), (1, .int (zI (w)))] [.int (zI (v10))] h _
      refine zr_i1 (x := v10) (t := 42) (pc := 31) rfl rfl (by omega) (by omega) (fun (c13 : ¬ v10 = 0) => ?_) (fun (c13 : ¬ (¬ v10 = 0)) => ?_)
      · refine zx_T.l (i := .aload_n 0) (k := 1) (v := .ref 44) (pc := 42) rfl rfl rfl ?_
        refine zx_T.s (i := .dup) (k := 1) (st' := [.ref 44, .ref 44]) (pc := 43) rfl rfl ?_
        refine zr_gi (k := 25) (lo := 0) (hi := 6) (e := zv_i h 25) (pc := 44) rfl rfl rfl hI rfl (fun g14a g14b => ?_)
        refine zx_T.l (i := .iload_n 1) (k := 1) (v := .int (zI (w))) (pc := 47) rfl rfl rfl ?_
        refine zx_T.s (i := .iconst 2) (k := 1) (st' := [.int (zI (2)), .int (zI (w)), .int (zI (zv_i h 25)), .ref 44]) (pc := 48) rfl rfl ?_
        refine zr_i2 (x := w) (y := 2) (t := 56) (pc := 49) rfl rfl (by omega) (by omega) (by omega) (by omega) (fun (c15 : ¬ w = 2) => ?_) (fun (c15 : ¬ (¬ w = 2)) => ?_)
        · refine zx_T.s (i := .iconst 1) (k := 1) (st' := [.int (zI (1)), .int (zI (zv_i h 25)), .ref 44]) (pc := 56) rfl rfl ?_
          refine zr_sub (x := zv_i h 25) (y := 1) (e := zv_i h 25 - 1) (pc := 57) rfl (by omega) ?_
          refine zr_pi (k := 25) (lo := 0) (hi := 6) (e := zv_i h 25 - 1) (pc := 58) rfl rfl rfl rfl rfl rfl hI (by omega) (by omega) (fun h16 ih16 w17 e18 => ?_)
          have y19 : zv_i h16 25 = zv_i h 25 - 1 := e18
          have y20 : zv_i h16 26 = zv_i h 26 := (zv_wi w17 rfl)
          exact zr_vr (pc := 61) rfl rfl ⟨ih16, (w17.wd rfl : zb_W [(44, 25), (44, 26)] h _), rfl, by dsimp only; exact ⟨by omega, by omega, fun j hj => by subst hj; omega⟩⟩
        · refine zx_T.s (i := .iconst 2) (k := 1) (st' := [.int (zI (2)), .int (zI (zv_i h 25)), .ref 44]) (pc := 52) rfl rfl ?_
          refine zx_T.j (i := .goto 4) (k := 3) (pc' := 57) (st' := [.int (zI (2)), .int (zI (zv_i h 25)), .ref 44]) (pc := 53) rfl rfl rfl rfl rfl ?_
          refine zr_sub (x := zv_i h 25) (y := 2) (e := zv_i h 25 - 2) (pc := 57) rfl (by omega) ?_
          refine zr_pi (k := 25) (lo := 0) (hi := 6) (e := zv_i h 25 - 2) (pc := 58) rfl rfl rfl rfl rfl rfl hI (by omega) (by omega) (fun h21 ih21 w22 e23 => ?_)
          have y24 : zv_i h21 25 = zv_i h 25 - 2 := e23
          have y25 : zv_i h21 26 = zv_i h 26 := (zv_wi w22 rfl)
          exact zr_vr (pc := 61) rfl rfl ⟨ih21, (w22.wd rfl : zb_W [(44, 25), (44, 26)] h _), rfl, by dsimp only; exact ⟨by omega, by omega, fun j hj => by subst hj; omega⟩⟩
      · refine zx_T.l (i := .aload_n 0) (k := 1) (v := .ref 44) (pc := 34) rfl rfl rfl ?_
        refine zx_T.s (i := .iconst 1) (k := 1) (st' := [.int (zI (1)), .ref 44]) (pc := 35) rfl rfl ?_
        refine zr_iv (cj := 159) (q' := zp_m159) (As := [.int (zI (1))]) (rest := []) (pc := 36) rfl rfl rfl rfl rfl rfl (Nat.le_of_ble_eq_true rfl) rfl (Nat.le_of_ble_eq_true rfl) hI ((zm_fails (h := h) hI (w := 1) (by omega) (by omega)).up (Nat.le_of_ble_eq_true rfl)) ?_
        rintro r26 h29 ⟨ih29, w30, r26q, x28⟩
        subst r26q
        try dsimp only at x28
        show zx_T zp_P 2 zp_m162 39 [(0, .ref 44), (1, .int (zI (w)))] [] h29 _
        refine zx_T.j (i := .goto 22) (k := 3) (pc' := 61) (st' := []) (pc := 39) rfl rfl rfl rfl rfl ?_
        have y31 : zv_i h29 25 = zv_i h 25 := (zv_wi w30 rfl)
        exact zr_vr (pc := 61) rfl rfl ⟨ih29, (w30.wd rfl : zb_W [(44, 25), (44, 26)] h _), rfl, by dsimp only; exact ⟨by omega, by omega, fun j hj => by subst hj; omega⟩⟩
    · refine zx_T.l (i := .aload_n 0) (k := 1) (v := .ref 44) (pc := 15) rfl rfl rfl ?_
      refine zx_T.s (i := .iconst 2) (k := 1) (st' := [.int (zI (2)), .ref 44]) (pc := 16) rfl rfl ?_
      refine zr_iv (cj := 159) (q' := zp_m159) (As := [.int (zI (2))]) (rest := []) (pc := 17) rfl rfl rfl rfl rfl rfl (Nat.le_of_ble_eq_true rfl) rfl (Nat.le_of_ble_eq_true rfl) hI ((zm_fails (h := h) hI (w := 2) (by omega) (by omega)).up (Nat.le_of_ble_eq_true rfl)) ?_
      rintro r33 h36 ⟨ih36, w37, r33q, x35⟩
      subst r33q
      try dsimp only at x35
      show zx_T zp_P 2 zp_m162 20 [(0, .ref 44), (1, .int (zI (w)))] [] h36 _
      refine zx_T.j (i := .goto 41) (k := 3) (pc' := 61) (st' := []) (pc := 20) rfl rfl rfl rfl rfl ?_
      have y38 : zv_i h36 25 = zv_i h 25 := (zv_wi w37 rfl)
      exact zr_vr (pc := 61) rfl rfl ⟨ih36, (w37.wd rfl : zb_W [(44, 25), (44, 26)] h _), rfl, by dsimp only; exact ⟨by omega, by omega, fun j hj => by subst hj; omega⟩⟩
  · exact zr_vr (pc := 7) rfl rfl ⟨hI, zb_W.rf, rfl, by dsimp only; exact ⟨by omega, by omega, fun j hj => by subst hj; omega⟩⟩

set_option maxRecDepth 100000 in
set_option maxHeartbeats 4000000 in
theorem zm_push {h : zx_H} (hI : zb_I zc_H h) {k : Int} (k1 : 0 ≤ k) (k2 : k ≤ 8) (k3 : ¬ k = 3) : zx_T zp_P 1 zp_m163 0 [(0, .ref 44), (1, .int (zI (k)))] [] h (zr_V [(44, 25), (44, 26), (61, 0)] h (fun h' => (¬ zv_i h 26 = 0 → zv_i h' 26 = zv_i h 26 ∧ zv_i h' 25 = zv_i h 25) ∧ (zv_i h 26 = 0 → (¬ zv_i h' 26 = 0 ∧ zv_i h' 25 = zv_i h 25) ∨ (zv_i h' 26 = 0 ∧ (k = 2 → zv_i h' 25 = zv_i h 25 + 2) ∧ (¬ k = 2 → zv_i h' 25 = zv_i h 25 + 1))) ∧ (∀ j, 0 ≤ j → (zv_i h 26 = 0 → zv_i h' 26 = 0 → j = zv_i h 25 + 8 → zv_a h' 61 j = k) ∧ (zv_i h 26 = 0 → zv_i h' 26 = 0 → k = 2 → j = zv_i h 25 + 9 → zv_a h' 61 j = 3) ∧ (¬ (zv_i h 26 = 0 ∧ zv_i h' 26 = 0 ∧ (j = zv_i h 25 + 8 ∨ (k = 2 ∧ j = zv_i h 25 + 9))) → zv_a h' 61 j = zv_a h 61 j)) ∧ (¬ zv_a h 61 8 = 3 → ¬ zv_a h' 61 8 = 3))) := by
  refine zx_T.l (i := .aload_n 0) (k := 1) (v := .ref 44) (pc := 0) rfl rfl rfl ?_
  refine zr_gi (k := 26) (lo := 0) (hi := 7) (e := zv_i h 26) (pc := 1) rfl rfl rfl hI rfl (fun g1a g1b => ?_)
  refine zr_i1 (x := zv_i h 26) (t := 8) (pc := 4) rfl rfl (by omega) (by omega) (fun (c2 : (zv_i h 26) = 0) => ?_) (fun (c2 : ¬ ((zv_i h 26) = 0)) => ?_)
  · refine zx_T.l (i := .iload_n 1) (k := 1) (v := .int (zI (k))) (pc := 8) rfl rfl rfl ?_
    refine zx_T.s (i := .iconst 2) (k := 1) (st' := [.int (zI (2)), .int (zI (k))]) (pc := 9) rfl rfl ?_
    refine zr_i2 (x := k) (y := 2) (t := 17) (pc := 10) rfl rfl (by omega) (by omega) (by omega) (by omega) (fun (c3 : ¬ k = 2) => ?_) (fun (c3 : ¬ (¬ k = 2)) => ?_)
    · refine zx_T.s (i := .iconst 1) (k := 1) (st' := [.int (zI (1))]) (pc := 17) rfl rfl ?_
      refine zx_T.t (i := .istore_n 2) (k := 1) (ls' := [(2, .int (zI (1))), (0, .ref 44), (1, .int (zI (k)))]) (st' := []) (pc := 18) rfl rfl rfl rfl ?_
      refine zx_T.l (i := .aload_n 0) (k := 1) (v := .ref 44) (pc := 19) rfl rfl rfl ?_
      refine zr_gi (k := 25) (lo := 0) (hi := 6) (e := zv_i h 25) (pc := 20) rfl rfl rfl hI rfl (fun g4a g4b => ?_)
      refine zx_T.l (i := .iload_n 2) (k := 1) (v := .int (zI (1))) (pc := 23) rfl rfl rfl ?_
      refine zr_add (x := zv_i h 25) (y := 1) (e := zv_i h 25 + 1) (pc := 24) rfl (by omega) ?_
      refine zx_T.s (i := .bipush 6) (k := 2) (st' := [.int (zI (6)), .int (zI (zv_i h 25 + 1))]) (pc := 25) rfl rfl ?_
      refine zr_i2 (x := zv_i h 25 + 1) (y := 6) (t := 36) (pc := 27) rfl rfl (by omega) (by omega) (by omega) (by omega) (fun (c5 : (zv_i h 25 + 1) ≤ 6) => ?_) (fun (c5 : ¬ ((zv_i h 25 + 1) ≤ 6)) => ?_)
      · refine zx_T.l (i := .aload_n 0) (k := 1) (v := .ref 44) (pc := 36) rfl rfl rfl ?_
        refine zr_gr (k := 24) (b := 61) (pc := 37) rfl rfl rfl hI ?_
        refine zx_T.s (i := .bipush 8) (k := 2) (st' := [.int (zI (8)), .ref 61]) (pc := 40) rfl rfl ?_
        refine zx_T.l (i := .aload_n 0) (k := 1) (v := .ref 44) (pc := 42) rfl rfl rfl ?_
        refine zr_gi (k := 25) (lo := 0) (hi := 6) (e := zv_i h 25) (pc := 43) rfl rfl rfl hI rfl (fun g6a g6b => ?_)
        refine zr_add (x := 8) (y := zv_i h 25) (e := zv_i h 25 + 8) (pc := 46) rfl (by omega) ?_
        refine zx_T.l (i := .iload_n 1) (k := 1) (v := .int (zI (k))) (pc := 47) rfl rfl rfl ?_
        refine zr_as (n := 14) (lo := 0) (hi := 8) (e := k) (pc := 48) rfl rfl rfl rfl hI (by omega) (by omega) (by omega) (by omega) (fun h7 ih7 w8 s9 => ?_)
        refine zx_T.l (i := .iload_n 1) (k := 1) (v := .int (zI (k))) (pc := 49) rfl rfl rfl ?_
        refine zx_T.s (i := .iconst 2) (k := 1) (st' := [.int (zI (2)), .int (zI (k))]) (pc := 50) rfl rfl ?_
        refine zr_i2 (x := k) (y := 2) (t := 69) (pc := 51) rfl rfl (by omega) (by omega) (by omega) (by omega) (fun (c10 : ¬ k = 2) => ?_) (fun (c10 : ¬ (¬ k = 2)) => False.elim (by omega))
        refine zx_T.l (i := .aload_n 0) (k := 1) (v := .ref 44) (pc := 69) rfl rfl rfl ?_
        refine zx_T.s (i := .dup) (k := 1) (st' := [.ref 44, .ref 44]) (pc := 70) rfl rfl ?_
        refine zr_gi (k := 25) (lo := 0) (hi := 6) (e := zv_i h 25) (pc := 71) rfl rfl rfl ih7 (zv_wi w8 rfl) (fun g11a g11b => ?_)
        refine zx_T.l (i := .iload_n 2) (k := 1) (v := .int (zI (1))) (pc := 74) rfl rfl rfl ?_
        refine zr_add (x := zv_i h 25) (y := 1) (e := zv_i h 25 + 1) (pc := 75) rfl (by omega) ?_
        refine zr_pi (k := 25) (lo := 0) (hi := 6) (e := zv_i h 25 + 1) (pc := 76) rfl rfl rfl rfl rfl rfl ih7 (by omega) (by omega) (fun h12 ih12 w13 e14 => ?_)
        have y15 : zv_i h12 25 = zv_i h 25 + 1 := e14
        have y16 : zv_i h12 26 = zv_i h 26 := ((zv_wi w13 rfl).trans (zv_wi w8 rfl))
        have a61 : ∀ j, 0 ≤ j → zv_a h12 61 j = if j = zv_i h 25 + 8 then k else zv_a h 61 j := fun j hj => by rw [zv_wa w13 rfl j, s9 j hj]
        exact zr_vr (pc := 79) rfl rfl ⟨ih12, ((w8.wd rfl : zb_W [(44, 25), (44, 26), (61, 0)] h _).tr (w13.wd rfl)), rfl, by dsimp only; exact ⟨by omega, by omega, fun j hj => by first | omega | (have b9 := a61 j hj; first | omega | (split at b9 <;> first | omega | (split at b9 <;> first | omega | (split at b9 <;> first | omega | omega)))), fun h8 => by first | omega | (have b9 := a61 8 (by omega); first | omega | (split at b9 <;> first | omega | (split at b9 <;> first | omega | (split at b9 <;> first | omega | omega))))⟩⟩
      · refine zx_T.l (i := .aload_n 0) (k := 1) (v := .ref 44) (pc := 30) rfl rfl rfl ?_
        refine zx_T.s (i := .iconst 3) (k := 1) (st' := [.int (zI (3)), .ref 44]) (pc := 31) rfl rfl ?_
        refine zr_iv (cj := 159) (q' := zp_m159) (As := [.int (zI (3))]) (rest := []) (pc := 32) rfl rfl rfl rfl rfl rfl (Nat.le_of_ble_eq_true rfl) rfl (Nat.le_of_ble_eq_true rfl) hI ((zm_fails (h := h) hI (w := 3) (by omega) (by omega)).up (Nat.le_of_ble_eq_true rfl)) ?_
        rintro r18 h21 ⟨ih21, w22, r18q, x20⟩
        subst r18q
        try dsimp only at x20
        show zx_T zp_P 1 zp_m163 35 [(2, .int (zI (1))), (0, .ref 44), (1, .int (zI (k)))] [] h21 _
        have y23 : zv_i h21 25 = zv_i h 25 := (zv_wi w22 rfl)
        have a61 : ∀ j, 0 ≤ j → zv_a h21 61 j = zv_a h 61 j := fun j hj => by rw [zv_wa w22 rfl j]
        exact zr_vr (pc := 35) rfl rfl ⟨ih21, (w22.wd rfl : zb_W [(44, 25), (44, 26), (61, 0)] h _), rfl, by dsimp only; exact ⟨by omega, by omega, fun j hj => by first | omega | (have b9 := a61 j hj; first | omega | (split at b9 <;> first | omega | (split at b9 <;> first | omega | (split at b9 <;> first | omega | omega)))), fun h8 => by first | omega | (have b9 := a61 8 (by omega); first | omega | (split at b9 <;> first | omega | (split at b9 <;> first | omega | (split at b9 <;> first | omega | omega))))⟩⟩
    · refine zx_T.s (i := .iconst 2) (k := 1) (st' := [.int (zI (2))]) (pc := 13) rfl rfl ?_
      refine zx_T.j (i := .goto 4) (k := 3) (pc' := 18) (st' := [.int (zI (2))]) (pc := 14) rfl rfl rfl rfl rfl ?_
      refine zx_T.t (i := .istore_n 2) (k := 1) (ls' := [(2, .int (zI (2))), (0, .ref 44), (1, .int (zI (k)))]) (st' := []) (pc := 18) rfl rfl rfl rfl ?_
      refine zx_T.l (i := .aload_n 0) (k := 1) (v := .ref 44) (pc := 19) rfl rfl rfl ?_
      refine zr_gi (k := 25) (lo := 0) (hi := 6) (e := zv_i h 25) (pc := 20) rfl rfl rfl hI rfl (fun g26a g26b => ?_)
      refine zx_T.l (i := .iload_n 2) (k := 1) (v := .int (zI (2))) (pc := 23) rfl rfl rfl ?_
      refine zr_add (x := zv_i h 25) (y := 2) (e := zv_i h 25 + 2) (pc := 24) rfl (by omega) ?_
      refine zx_T.s (i := .bipush 6) (k := 2) (st' := [.int (zI (6)), .int (zI (zv_i h 25 + 2))]) (pc := 25) rfl rfl ?_
      refine zr_i2 (x := zv_i h 25 + 2) (y := 6) (t := 36) (pc := 27) rfl rfl (by omega) (by omega) (by omega) (by omega) (fun (c27 : (zv_i h 25 + 2) ≤ 6) => ?_) (fun (c27 : ¬ ((zv_i h 25 + 2) ≤ 6)) => ?_)
      · refine zx_T.l (i := .aload_n 0) (k := 1) (v := .ref 44) (pc := 36) rfl rfl rfl ?_
        refine zr_gr (k := 24) (b := 61) (pc := 37) rfl rfl rfl hI ?_
        refine zx_T.s (i := .bipush 8) (k := 2) (st' := [.int (zI (8)), .ref 61]) (pc := 40) rfl rfl ?_
        refine zx_T.l (i := .aload_n 0) (k := 1) (v := .ref 44) (pc := 42) rfl rfl rfl ?_
        refine zr_gi (k := 25) (lo := 0) (hi := 6) (e := zv_i h 25) (pc := 43) rfl rfl rfl hI rfl (fun g28a g28b => ?_)
        refine zr_add (x := 8) (y := zv_i h 25) (e := zv_i h 25 + 8) (pc := 46) rfl (by omega) ?_
        refine zx_T.l (i := .iload_n 1) (k := 1) (v := .int (zI (k))) (pc := 47) rfl rfl rfl ?_
        refine zr_as (n := 14) (lo := 0) (hi := 8) (e := k) (pc := 48) rfl rfl rfl rfl hI (by omega) (by omega) (by omega) (by omega) (fun h29 ih29 w30 s31 => ?_)
        refine zx_T.l (i := .iload_n 1) (k := 1) (v := .int (zI (k))) (pc := 49) rfl rfl rfl ?_
        refine zx_T.s (i := .iconst 2) (k := 1) (st' := [.int (zI (2)), .int (zI (k))]) (pc := 50) rfl rfl ?_
        refine zr_i2 (x := k) (y := 2) (t := 69) (pc := 51) rfl rfl (by omega) (by omega) (by omega) (by omega) (fun (c32 : ¬ k = 2) => False.elim (by omega)) (fun (c32 : ¬ (¬ k = 2)) => ?_)
        refine zx_T.l (i := .aload_n 0) (k := 1) (v := .ref 44) (pc := 54) rfl rfl rfl ?_
        refine zr_gr (k := 24) (b := 61) (pc := 55) rfl rfl rfl ih29 ?_
        refine zx_T.s (i := .bipush 8) (k := 2) (st' := [.int (zI (8)), .ref 61]) (pc := 58) rfl rfl ?_
        refine zx_T.l (i := .aload_n 0) (k := 1) (v := .ref 44) (pc := 60) rfl rfl rfl ?_
        refine zr_gi (k := 25) (lo := 0) (hi := 6) (e := zv_i h 25) (pc := 61) rfl rfl rfl ih29 (zv_wi w30 rfl) (fun g33a g33b => ?_)
        refine zr_add (x := 8) (y := zv_i h 25) (e := zv_i h 25 + 8) (pc := 64) rfl (by omega) ?_
        refine zx_T.s (i := .iconst 1) (k := 1) (st' := [.int (zI (1)), .int (zI (zv_i h 25 + 8)), .ref 61]) (pc := 65) rfl rfl ?_
        refine zr_add (x := zv_i h 25 + 8) (y := 1) (e := zv_i h 25 + 9) (pc := 66) rfl (by omega) ?_
        refine zx_T.s (i := .iconst 3) (k := 1) (st' := [.int (zI (3)), .int (zI (zv_i h 25 + 9)), .ref 61]) (pc := 67) rfl rfl ?_
        refine zr_as (n := 14) (lo := 0) (hi := 8) (e := 3) (pc := 68) rfl rfl rfl rfl ih29 (by omega) (by omega) (by omega) (by omega) (fun h34 ih34 w35 s36 => ?_)
        refine zx_T.l (i := .aload_n 0) (k := 1) (v := .ref 44) (pc := 69) rfl rfl rfl ?_
        refine zx_T.s (i := .dup) (k := 1) (st' := [.ref 44, .ref 44]) (pc := 70) rfl rfl ?_
        refine zr_gi (k := 25) (lo := 0) (hi := 6) (e := zv_i h 25) (pc := 71) rfl rfl rfl ih34 ((zv_wi w35 rfl).trans (zv_wi w30 rfl)) (fun g37a g37b => ?_)
        refine zx_T.l (i := .iload_n 2) (k := 1) (v := .int (zI (2))) (pc := 74) rfl rfl rfl ?_
        refine zr_add (x := zv_i h 25) (y := 2) (e := zv_i h 25 + 2) (pc := 75) rfl (by omega) ?_
        refine zr_pi (k := 25) (lo := 0) (hi := 6) (e := zv_i h 25 + 2) (pc := 76) rfl rfl rfl rfl rfl rfl ih34 (by omega) (by omega) (fun h38 ih38 w39 e40 => ?_)
        have y41 : zv_i h38 25 = zv_i h 25 + 2 := e40
        have y42 : zv_i h38 26 = zv_i h 26 := ((zv_wi w39 rfl).trans ((zv_wi w35 rfl).trans (zv_wi w30 rfl)))
        have a61 : ∀ j, 0 ≤ j → zv_a h38 61 j = if j = zv_i h 25 + 9 then 3 else if j = zv_i h 25 + 8 then k else zv_a h 61 j := fun j hj => by rw [zv_wa w39 rfl j, s36 j hj, s31 j hj]
        exact zr_vr (pc := 79) rfl rfl ⟨ih38, (((w30.wd rfl : zb_W [(44, 25), (44, 26), (61, 0)] h _).tr (w35.wd rfl)).tr (w39.wd rfl)), rfl, by dsimp only; exact ⟨by omega, by omega, fun j hj => by first | omega | (have b9 := a61 j hj; first | omega | (split at b9 <;> first | omega | (split at b9 <;> first | omega | (split at b9 <;> first | omega | omega)))), fun h8 => by first | omega | (have b9 := a61 8 (by omega); first | omega | (split at b9 <;> first | omega | (split at b9 <;> first | omega | (split at b9 <;> first | omega | omega))))⟩⟩
      · refine zx_T.l (i := .aload_n 0) (k := 1) (v := .ref 44) (pc := 30) rfl rfl rfl ?_
        refine zx_T.s (i := .iconst 3) (k := 1) (st' := [.int (zI (3)), .ref 44]) (pc := 31) rfl rfl ?_
        refine zr_iv (cj := 159) (q' := zp_m159) (As := [.int (zI (3))]) (rest := []) (pc := 32) rfl rfl rfl rfl rfl rfl (Nat.le_of_ble_eq_true rfl) rfl (Nat.le_of_ble_eq_true rfl) hI ((zm_fails (h := h) hI (w := 3) (by omega) (by omega)).up (Nat.le_of_ble_eq_true rfl)) ?_
        rintro r44 h47 ⟨ih47, w48, r44q, x46⟩
        subst r44q
        try dsimp only at x46
        show zx_T zp_P 1 zp_m163 35 [(2, .int (zI (2))), (0, .ref 44), (1, .int (zI (k)))] [] h47 _
        have y49 : zv_i h47 25 = zv_i h 25 := (zv_wi w48 rfl)
        have a61 : ∀ j, 0 ≤ j → zv_a h47 61 j = zv_a h 61 j := fun j hj => by rw [zv_wa w48 rfl j]
        exact zr_vr (pc := 35) rfl rfl ⟨ih47, (w48.wd rfl : zb_W [(44, 25), (44, 26), (61, 0)] h _), rfl, by dsimp only; exact ⟨by omega, by omega, fun j hj => by first | omega | (have b9 := a61 j hj; first | omega | (split at b9 <;> first | omega | (split at b9 <;> first | omega | (split at b9 <;> first | omega | omega)))), fun h8 => by first | omega | (have b9 := a61 8 (by omega); first | omega | (split at b9 <;> first | omega | (split at b9 <;> first | omega | (split at b9 <;> first | omega | omega))))⟩⟩
  · exact zr_vr (pc := 7) rfl rfl ⟨hI, zb_W.rf, rfl, by dsimp only; exact ⟨by omega, by omega, fun j hj => by first | omega | (have b9 := a61 j hj; first | omega | (split at b9 <;> first | omega | (split at b9 <;> first | omega | (split at b9 <;> first | omega | omega)))), fun h8 => by first | omega | (have b9 := a61 8 (by omega); first | omega | (split at b9 <;> first | omega | (split at b9 <;> first | omega | (split at b9 <;> first | omega | omega))))⟩⟩

set_option maxRecDepth 100000 in
set_option maxHeartbeats 4000000 in
theorem zm_whole_61_L {h : zx_H} (hI : zb_I zc_H h) {f : Int} {m : Int} (f1 : 0 ≤ f) (m1 : 0 ≤ m) (fm : f + m ≤ 14) (n : Nat) : (∀ {h2 : zx_H} {k : Int} (hI2 : zb_I zc_H h2) (k1 : f ≤ k) (k2 : k ≤ f + m) (hw : zb_W [(61, 0)] h h2) (hj : ∀ j, 0 ≤ j → (zv_a h2 61 j = zv_a h 61 j ∨ zv_a h2 61 j = 0) ∧ (j < f ∨ f + m ≤ j → zv_a h2 61 j = zv_a h 61 j)), (f + m - k : Int).toNat < n → zx_T zp_P 0 zp_m158 2 [(0, .ref 61), (1, .int (zI (f))), (2, .int (zI (m))), (3, .int (zI (k)))] [] h2 (zr_V [(61, 0)] h (fun h' => ∀ j, 0 ≤ j → (zv_a h' 61 j = zv_a h 61 j ∨ zv_a h' 61 j = 0) ∧ (j < f ∨ f + m ≤ j → zv_a h' 61 j = zv_a h 61 j)))) := by
  induction n with
  | zero => exact fun _ _ _ _ _ hm => absurd hm (Nat.not_lt_zero _)
  | succ n ih =>
    intro h2 k hI2 k1 k2 hw hj hm
    refine zx_T.l (i := .iload_n 3) (k := 1) (v := .int (zI (k))) (pc := 2) rfl rfl rfl ?_
    refine zx_T.l (i := .iload_n 1) (k := 1) (v := .int (zI (f))) (pc := 3) rfl rfl rfl ?_
    refine zx_T.l (i := .iload_n 2) (k := 1) (v := .int (zI (m))) (pc := 4) rfl rfl rfl ?_
    refine zr_add (x := f) (y := m) (e := f + m) (pc := 5) rfl (by omega) ?_
    refine zr_i2 (x := k) (y := f + m) (t := 70) (pc := 6) rfl rfl (by omega) (by omega) (by omega) (by omega) (fun (c1 : (f + m) ≤ k) => ?_) (fun (c1 : ¬ ((f + m) ≤ k)) => ?_)
    · exact zr_vr (pc := 70) rfl rfl ⟨hI2, (hw.wd rfl : zb_W [(61, 0)] h _), rfl, by dsimp only; exact hj⟩
    · refine zx_T.l (i := .aload_n 0) (k := 1) (v := .ref 61) (pc := 9) rfl rfl rfl ?_
      refine zx_T.l (i := .iload_n 3) (k := 1) (v := .int (zI (k))) (pc := 10) rfl rfl rfl ?_
      refine zr_al (n := 14) (lo := 0) (hi := 8) (e := zv_a h2 61 k) (pc := 11) rfl rfl rfl hI2 (by omega) (by omega) rfl (fun g2a g2b => ?_)
      refine zx_T.s (i := .iconst 2) (k := 1) (st' := [.int (zI (2)), .int (zI (zv_a h2 61 k))]) (pc := 12) rfl rfl ?_
      refine zr_i2 (x := zv_a h2 61 k) (y := 2) (t := 40) (pc := 13) rfl rfl (by omega) (by omega) (by omega) (by omega) (fun (c3 : ¬ (zv_a h2 61 k) = 2) => ?_) (fun (c3 : ¬ (¬ (zv_a h2 61 k) = 2)) => ?_)
      · refine zx_T.l (i := .aload_n 0) (k := 1) (v := .ref 61) (pc := 40) rfl rfl rfl ?_
        refine zx_T.l (i := .iload_n 3) (k := 1) (v := .int (zI (k))) (pc := 41) rfl rfl rfl ?_
        refine zx_T.l (i := .aload_n 0) (k := 1) (v := .ref 61) (pc := 42) rfl rfl rfl ?_
        refine zx_T.l (i := .iload_n 3) (k := 1) (v := .int (zI (k))) (pc := 43) rfl rfl rfl ?_
        refine zr_al (n := 14) (lo := 0) (hi := 8) (e := zv_a h2 61 k) (pc := 44) rfl rfl rfl hI2 (by omega) (by omega) rfl (fun g4a g4b => ?_)
        refine zx_T.s (i := .iconst 2) (k := 1) (st' := [.int (zI (2)), .int (zI (zv_a h2 61 k)), .int (zI (k)), .ref 61]) (pc := 45) rfl rfl ?_
        refine zr_i2 (x := zv_a h2 61 k) (y := 2) (t := 56) (pc := 46) rfl rfl (by omega) (by omega) (by omega) (by omega) (fun (c5 : (zv_a h2 61 k) = 2) => False.elim (by omega)) (fun (c5 : ¬ ((zv_a h2 61 k) = 2)) => ?_)
        refine zx_T.l (i := .aload_n 0) (k := 1) (v := .ref 61) (pc := 49) rfl rfl rfl ?_
        refine zx_T.l (i := .iload_n 3) (k := 1) (v := .int (zI (k))) (pc := 50) rfl rfl rfl ?_
        refine zr_al (n := 14) (lo := 0) (hi := 8) (e := zv_a h2 61 k) (pc := 51) rfl rfl rfl hI2 (by omega) (by omega) rfl (fun g6a g6b => ?_)
        refine zx_T.s (i := .iconst 3) (k := 1) (st' := [.int (zI (3)), .int (zI (zv_a h2 61 k)), .int (zI (k)), .ref 61]) (pc := 52) rfl rfl ?_
        refine zr_i2 (x := zv_a h2 61 k) (y := 3) (t := 60) (pc := 53) rfl rfl (by omega) (by omega) (by omega) (by omega) (fun (c7 : ¬ (zv_a h2 61 k) = 3) => ?_) (fun (c7 : ¬ (¬ (zv_a h2 61 k) = 3)) => ?_)
        · refine zx_T.l (i := .aload_n 0) (k := 1) (v := .ref 61) (pc := 60) rfl rfl rfl ?_
          refine zx_T.l (i := .iload_n 3) (k := 1) (v := .int (zI (k))) (pc := 61) rfl rfl rfl ?_
          refine zr_al (n := 14) (lo := 0) (hi := 8) (e := zv_a h2 61 k) (pc := 62) rfl rfl rfl hI2 (by omega) (by omega) rfl (fun g8a g8b => ?_)
          refine zr_as (n := 14) (lo := 0) (hi := 8) (e := zv_a h2 61 k) (pc := 63) rfl rfl rfl rfl hI2 (by omega) (by omega) (by omega) (by omega) (fun h9 ih9 w10 s11 => ?_)
          refine zr_inc (x := k) (n := 1) (y := k + 1) (ls' := [(3, .int (zI (k + 1))), (0, .ref 61), (1, .int (zI (f))), (2, .int (zI (m)))]) (pc := 64) rfl rfl rfl (by omega) rfl ?_
          refine zx_T.j (i := .goto (-65)) (k := 3) (pc' := 2) (st' := []) (pc := 67) rfl rfl rfl rfl rfl ?_
          have a61 : ∀ j, 0 ≤ j → zv_a h9 61 j = if j = k then zv_a h2 61 k else zv_a h2 61 j := fun j hj => by rw [s11 j hj]
          refine zx_T.lk (ls' := [(0, .ref 61), (1, .int (zI (f))), (2, .int (zI (m))), (3, .int (zI (k + 1)))]) rfl ⟨rfl, rfl, rfl, rfl, trivial⟩ ?_
          exact ih (h2 := h9) (k := k + 1) ih9 (by omega) (by omega) ((hw.wd rfl : zb_W [(61, 0)] h _).tr (w10.wd rfl)) (fun j j0 => by first | omega | (have b8 := hj j j0; first | omega | (have b9 := a61 j j0; split at b9 <;> first | omega | (subst_vars; omega)))) (by omega)
        · refine zx_T.s (i := .iconst 0) (k := 1) (st' := [.int (zI (0)), .int (zI (k)), .ref 61]) (pc := 56) rfl rfl ?_
          refine zx_T.j (i := .goto 6) (k := 3) (pc' := 63) (st' := [.int (zI (0)), .int (zI (k)), .ref 61]) (pc := 57) rfl rfl rfl rfl rfl ?_
          refine zr_as (n := 14) (lo := 0) (hi := 8) (e := 0) (pc := 63) rfl rfl rfl rfl hI2 (by omega) (by omega) (by omega) (by omega) (fun h13 ih13 w14 s15 => ?_)
          refine zr_inc (x := k) (n := 1) (y := k + 1) (ls' := [(3, .int (zI (k + 1))), (0, .ref 61), (1, .int (zI (f))), (2, .int (zI (m)))]) (pc := 64) rfl rfl rfl (by omega) rfl ?_
          refine zx_T.j (i := .goto (-65)) (k := 3) (pc' := 2) (st' := []) (pc := 67) rfl rfl rfl rfl rfl ?_
          have a61 : ∀ j, 0 ≤ j → zv_a h13 61 j = if j = k then 0 else zv_a h2 61 j := fun j hj => by rw [s15 j hj]
          refine zx_T.lk (ls' := [(0, .ref 61), (1, .int (zI (f))), (2, .int (zI (m))), (3, .int (zI (k + 1)))]) rfl ⟨rfl, rfl, rfl, rfl, trivial⟩ ?_
          exact ih (h2 := h13) (k := k + 1) ih13 (by omega) (by omega) ((hw.wd rfl : zb_W [(61, 0)] h _).tr (w14.wd rfl)) (fun j j0 => by first | omega | (have b8 := hj j j0; first | omega | (have b9 := a61 j j0; split at b9 <;> first | omega | (subst_vars; omega)))) (by omega)
      · refine zx_T.l (i := .iload_n 3) (k := 1) (v := .int (zI (k))) (pc := 16) rfl rfl rfl ?_
        refine zx_T.s (i := .iconst 1) (k := 1) (st' := [.int (zI (1)), .int (zI (k))]) (pc := 17) rfl rfl ?_
        refine zr_add (x := k) (y := 1) (e := k + 1) (pc := 18) rfl (by omega) ?_
        refine zx_T.l (i := .iload_n 1) (k := 1) (v := .int (zI (f))) (pc := 19) rfl rfl rfl ?_
        refine zx_T.l (i := .iload_n 2) (k := 1) (v := .int (zI (m))) (pc := 20) rfl rfl rfl ?_
        refine zr_add (x := f) (y := m) (e := f + m) (pc := 21) rfl (by omega) ?_
        refine zr_i2 (x := k + 1) (y := f + m) (t := 40) (pc := 22) rfl rfl (by omega) (by omega) (by omega) (by omega) (fun (c17 : (f + m) ≤ (k + 1)) => ?_) (fun (c17 : ¬ ((f + m) ≤ (k + 1))) => ?_)
        · refine zx_T.l (i := .aload_n 0) (k := 1) (v := .ref 61) (pc := 40) rfl rfl rfl ?_
          refine zx_T.l (i := .iload_n 3) (k := 1) (v := .int (zI (k))) (pc := 41) rfl rfl rfl ?_
          refine zx_T.l (i := .aload_n 0) (k := 1) (v := .ref 61) (pc := 42) rfl rfl rfl ?_
          refine zx_T.l (i := .iload_n 3) (k := 1) (v := .int (zI (k))) (pc := 43) rfl rfl rfl ?_
          refine zr_al (n := 14) (lo := 0) (hi := 8) (e := zv_a h2 61 k) (pc := 44) rfl rfl rfl hI2 (by omega) (by omega) rfl (fun g18a g18b => ?_)
          refine zx_T.s (i := .iconst 2) (k := 1) (st' := [.int (zI (2)), .int (zI (zv_a h2 61 k)), .int (zI (k)), .ref 61]) (pc := 45) rfl rfl ?_
          refine zr_i2 (x := zv_a h2 61 k) (y := 2) (t := 56) (pc := 46) rfl rfl (by omega) (by omega) (by omega) (by omega) (fun (c19 : (zv_a h2 61 k) = 2) => ?_) (fun (c19 : ¬ ((zv_a h2 61 k) = 2)) => False.elim (by omega))
          refine zx_T.s (i := .iconst 0) (k := 1) (st' := [.int (zI (0)), .int (zI (k)), .ref 61]) (pc := 56) rfl rfl ?_
          refine zx_T.j (i := .goto 6) (k := 3) (pc' := 63) (st' := [.int (zI (0)), .int (zI (k)), .ref 61]) (pc := 57) rfl rfl rfl rfl rfl ?_
          refine zr_as (n := 14) (lo := 0) (hi := 8) (e := 0) (pc := 63) rfl rfl rfl rfl hI2 (by omega) (by omega) (by omega) (by omega) (fun h20 ih20 w21 s22 => ?_)
          refine zr_inc (x := k) (n := 1) (y := k + 1) (ls' := [(3, .int (zI (k + 1))), (0, .ref 61), (1, .int (zI (f))), (2, .int (zI (m)))]) (pc := 64) rfl rfl rfl (by omega) rfl ?_
          refine zx_T.j (i := .goto (-65)) (k := 3) (pc' := 2) (st' := []) (pc := 67) rfl rfl rfl rfl rfl ?_
          have a61 : ∀ j, 0 ≤ j → zv_a h20 61 j = if j = k then 0 else zv_a h2 61 j := fun j hj => by rw [s22 j hj]
          refine zx_T.lk (ls' := [(0, .ref 61), (1, .int (zI (f))), (2, .int (zI (m))), (3, .int (zI (k + 1)))]) rfl ⟨rfl, rfl, rfl, rfl, trivial⟩ ?_
          exact ih (h2 := h20) (k := k + 1) ih20 (by omega) (by omega) ((hw.wd rfl : zb_W [(61, 0)] h _).tr (w21.wd rfl)) (fun j j0 => by first | omega | (have b8 := hj j j0; first | omega | (have b9 := a61 j j0; split at b9 <;> first | omega | (subst_vars; omega)))) (by omega)
        · refine zx_T.l (i := .aload_n 0) (k := 1) (v := .ref 61) (pc := 25) rfl rfl rfl ?_
          refine zx_T.l (i := .iload_n 3) (k := 1) (v := .int (zI (k))) (pc := 26) rfl rfl rfl ?_
          refine zx_T.s (i := .iconst 1) (k := 1) (st' := [.int (zI (1)), .int (zI (k)), .ref 61]) (pc := 27) rfl rfl ?_
          refine zr_add (x := k) (y := 1) (e := k + 1) (pc := 28) rfl (by omega) ?_
          refine zr_al (n := 14) (lo := 0) (hi := 8) (e := zv_a h2 61 (k + 1)) (pc := 29) rfl rfl rfl hI2 (by omega) (by omega) rfl (fun g24a g24b => ?_)
          refine zx_T.s (i := .iconst 3) (k := 1) (st' := [.int (zI (3)), .int (zI (zv_a h2 61 (k + 1)))]) (pc := 30) rfl rfl ?_
          refine zr_i2 (x := zv_a h2 61 (k + 1)) (y := 3) (t := 40) (pc := 31) rfl rfl (by omega) (by omega) (by omega) (by omega) (fun (c25 : ¬ (zv_a h2 61 (k + 1)) = 3) => ?_) (fun (c25 : ¬ (¬ (zv_a h2 61 (k + 1)) = 3)) => ?_)
          · refine zx_T.l (i := .aload_n 0) (k := 1) (v := .ref 61) (pc := 40) rfl rfl rfl ?_
            refine zx_T.l (i := .iload_n 3) (k := 1) (v := .int (zI (k))) (pc := 41) rfl rfl rfl ?_
            refine zx_T.l (i := .aload_n 0) (k := 1) (v := .ref 61) (pc := 42) rfl rfl rfl ?_
            refine zx_T.l (i := .iload_n 3) (k := 1) (v := .int (zI (k))) (pc := 43) rfl rfl rfl ?_
            refine zr_al (n := 14) (lo := 0) (hi := 8) (e := zv_a h2 61 k) (pc := 44) rfl rfl rfl hI2 (by omega) (by omega) rfl (fun g26a g26b => ?_)
            refine zx_T.s (i := .iconst 2) (k := 1) (st' := [.int (zI (2)), .int (zI (zv_a h2 61 k)), .int (zI (k)), .ref 61]) (pc := 45) rfl rfl ?_
            refine zr_i2 (x := zv_a h2 61 k) (y := 2) (t := 56) (pc := 46) rfl rfl (by omega) (by omega) (by omega) (by omega) (fun (c27 : (zv_a h2 61 k) = 2) => ?_) (fun (c27 : ¬ ((zv_a h2 61 k) = 2)) => False.elim (by omega))
            refine zx_T.s (i := .iconst 0) (k := 1) (st' := [.int (zI (0)), .int (zI (k)), .ref 61]) (pc := 56) rfl rfl ?_
            refine zx_T.j (i := .goto 6) (k := 3) (pc' := 63) (st' := [.int (zI (0)), .int (zI (k)), .ref 61]) (pc := 57) rfl rfl rfl rfl rfl ?_
            refine zr_as (n := 14) (lo := 0) (hi := 8) (e := 0) (pc := 63) rfl rfl rfl rfl hI2 (by omega) (by omega) (by omega) (by omega) (fun h28 ih28 w29 s30 => ?_)
            refine zr_inc (x := k) (n := 1) (y := k + 1) (ls' := [(3, .int (zI (k + 1))), (0, .ref 61), (1, .int (zI (f))), (2, .int (zI (m)))]) (pc := 64) rfl rfl rfl (by omega) rfl ?_
            refine zx_T.j (i := .goto (-65)) (k := 3) (pc' := 2) (st' := []) (pc := 67) rfl rfl rfl rfl rfl ?_
            have a61 : ∀ j, 0 ≤ j → zv_a h28 61 j = if j = k then 0 else zv_a h2 61 j := fun j hj => by rw [s30 j hj]
            refine zx_T.lk (ls' := [(0, .ref 61), (1, .int (zI (f))), (2, .int (zI (m))), (3, .int (zI (k + 1)))]) rfl ⟨rfl, rfl, rfl, rfl, trivial⟩ ?_
            exact ih (h2 := h28) (k := k + 1) ih28 (by omega) (by omega) ((hw.wd rfl : zb_W [(61, 0)] h _).tr (w29.wd rfl)) (fun j j0 => by first | omega | (have b8 := hj j j0; first | omega | (have b9 := a61 j j0; split at b9 <;> first | omega | (subst_vars; omega)))) (by omega)
          · refine zr_inc (x := k) (n := 2) (y := k + 2) (ls' := [(3, .int (zI (k + 2))), (0, .ref 61), (1, .int (zI (f))), (2, .int (zI (m)))]) (pc := 34) rfl rfl rfl (by omega) rfl ?_
            refine zx_T.j (i := .goto (-35)) (k := 3) (pc' := 2) (st' := []) (pc := 37) rfl rfl rfl rfl rfl ?_
            refine zx_T.lk (ls' := [(0, .ref 61), (1, .int (zI (f))), (2, .int (zI (m))), (3, .int (zI (k + 2)))]) rfl ⟨rfl, rfl, rfl, rfl, trivial⟩ ?_
            exact ih (h2 := h2) (k := k + 2) hI2 (by omega) (by omega) (hw.wd rfl : zb_W [(61, 0)] h _) (fun j j0 => by first | omega | (have b8 := hj j j0; first | omega | (have b9 := a61 j j0; split at b9 <;> first | omega | (subst_vars; omega)))) (by omega)
set_option maxRecDepth 100000 in
set_option maxHeartbeats 4000000 in
theorem zm_whole_61 {h : zx_H} (hI : zb_I zc_H h) {f : Int} {m : Int} (f1 : 0 ≤ f) (m1 : 0 ≤ m) (fm : f + m ≤ 14) : zx_T zp_P 0 zp_m158 0 [(0, .ref 61), (1, .int (zI (f))), (2, .int (zI (m)))] [] h (zr_V [(61, 0)] h (fun h' => ∀ j, 0 ≤ j → (zv_a h' 61 j = zv_a h 61 j ∨ zv_a h' 61 j = 0) ∧ (j < f ∨ f + m ≤ j → zv_a h' 61 j = zv_a h 61 j))) := by
  refine zx_T.l (i := .iload_n 1) (k := 1) (v := .int (zI (f))) (pc := 0) rfl rfl rfl ?_
  refine zx_T.t (i := .istore_n 3) (k := 1) (ls' := [(3, .int (zI (f))), (0, .ref 61), (1, .int (zI (f))), (2, .int (zI (m)))]) (st' := []) (pc := 1) rfl rfl rfl rfl ?_
  refine zx_T.lk (ls' := [(0, .ref 61), (1, .int (zI (f))), (2, .int (zI (m))), (3, .int (zI (f)))]) rfl ⟨rfl, rfl, rfl, rfl, trivial⟩ ?_
  exact zm_whole_61_L (h := h) hI (f := f) (m := m) f1 m1 fm ((f + m - f : Int).toNat + 1) (h2 := h) (k := f) hI (by omega) (by omega) zb_W.rf (fun j j0 => by first | omega | (have b8 := hj j j0; first | omega | (have b9 := a61 j j0; split at b9 <;> first | omega | (subst_vars; omega)))) (Nat.lt_succ_self _)

set_option maxRecDepth 100000 in
set_option maxHeartbeats 4000000 in
theorem zm_whole_63_L {h : zx_H} (hI : zb_I zc_H h) {f : Int} {m : Int} (f1 : 0 ≤ f) (m1 : 0 ≤ m) (fm : f + m ≤ 14) (n : Nat) : (∀ {h2 : zx_H} {k : Int} (hI2 : zb_I zc_H h2) (k1 : f ≤ k) (k2 : k ≤ f + m) (hw : zb_W [(63, 0)] h h2) (hj : ∀ j, 0 ≤ j → (zv_a h2 63 j = zv_a h 63 j ∨ zv_a h2 63 j = 0) ∧ (j < f ∨ f + m ≤ j → zv_a h2 63 j = zv_a h 63 j)), (f + m - k : Int).toNat < n → zx_T zp_P 0 zp_m158 2 [(0, .ref 63), (1, .int (zI (f))), (2, .int (zI (m))), (3, .int (zI (k)))] [] h2 (zr_V [(63, 0)] h (fun h' => ∀ j, 0 ≤ j → (zv_a h' 63 j = zv_a h 63 j ∨ zv_a h' 63 j = 0) ∧ (j < f ∨ f + m ≤ j → zv_a h' 63 j = zv_a h 63 j)))) := by
  induction n with
  | zero => exact fun _ _ _ _ _ hm => absurd hm (Nat.not_lt_zero _)
  | succ n ih =>
    intro h2 k hI2 k1 k2 hw hj hm
    refine zx_T.l (i := .iload_n 3) (k := 1) (v := .int (zI (k))) (pc := 2) rfl rfl rfl ?_
    refine zx_T.l (i := .iload_n 1) (k := 1) (v := .int (zI (f))) (pc := 3) rfl rfl rfl ?_
    refine zx_T.l (i := .iload_n 2) (k := 1) (v := .int (zI (m))) (pc := 4) rfl rfl rfl ?_
    refine zr_add (x := f) (y := m) (e := f + m) (pc := 5) rfl (by omega) ?_
    refine zr_i2 (x := k) (y := f + m) (t := 70) (pc := 6) rfl rfl (by omega) (by omega) (by omega) (by omega) (fun (c1 : (f + m) ≤ k) => ?_) (fun (c1 : ¬ ((f + m) ≤ k)) => ?_)
    · exact zr_vr (pc := 70) rfl rfl ⟨hI2, (hw.wd rfl : zb_W [(63, 0)] h _), rfl, by dsimp only; exact hj⟩
    · refine zx_T.l (i := .aload_n 0) (k := 1) (v := .ref 63) (pc := 9) rfl rfl rfl ?_
      refine zx_T.l (i := .iload_n 3) (k := 1) (v := .int (zI (k))) (pc := 10) rfl rfl rfl ?_
      refine zr_al (n := 14) (lo := 0) (hi := 8) (e := zv_a h2 63 k) (pc := 11) rfl rfl rfl hI2 (by omega) (by omega) rfl (fun g2a g2b => ?_)
      refine zx_T.s (i := .iconst 2) (k := 1) (st' := [.int (zI (2)), .int (zI (zv_a h2 63 k))]) (pc := 12) rfl rfl ?_
      refine zr_i2 (x := zv_a h2 63 k) (y := 2) (t := 40) (pc := 13) rfl rfl (by omega) (by omega) (by omega) (by omega) (fun (c3 : ¬ (zv_a h2 63 k) = 2) => ?_) (fun (c3 : ¬ (¬ (zv_a h2 63 k) = 2)) => ?_)
      · refine zx_T.l (i := .aload_n 0) (k := 1) (v := .ref 63) (pc := 40) rfl rfl rfl ?_
        refine zx_T.l (i := .iload_n 3) (k := 1) (v := .int (zI (k))) (pc := 41) rfl rfl rfl ?_
        refine zx_T.l (i := .aload_n 0) (k := 1) (v := .ref 63) (pc := 42) rfl rfl rfl ?_
        refine zx_T.l (i := .iload_n 3) (k := 1) (v := .int (zI (k))) (pc := 43) rfl rfl rfl ?_
        refine zr_al (n := 14) (lo := 0) (hi := 8) (e := zv_a h2 63 k) (pc := 44) rfl rfl rfl hI2 (by omega) (by omega) rfl (fun g4a g4b => ?_)
        refine zx_T.s (i := .iconst 2) (k := 1) (st' := [.int (zI (2)), .int (zI (zv_a h2 63 k)), .int (zI (k)), .ref 63]) (pc := 45) rfl rfl ?_
        refine zr_i2 (x := zv_a h2 63 k) (y := 2) (t := 56) (pc := 46) rfl rfl (by omega) (by omega) (by omega) (by omega) (fun (c5 : (zv_a h2 63 k) = 2) => False.elim (by omega)) (fun (c5 : ¬ ((zv_a h2 63 k) = 2)) => ?_)
        refine zx_T.l (i := .aload_n 0) (k := 1) (v := .ref 63) (pc := 49) rfl rfl rfl ?_
        refine zx_T.l (i := .iload_n 3) (k := 1) (v := .int (zI (k))) (pc := 50) rfl rfl rfl ?_
        refine zr_al (n := 14) (lo := 0) (hi := 8) (e := zv_a h2 63 k) (pc := 51) rfl rfl rfl hI2 (by omega) (by omega) rfl (fun g6a g6b => ?_)
        refine zx_T.s (i := .iconst 3) (k := 1) (st' := [.int (zI (3)), .int (zI (zv_a h2 63 k)), .int (zI (k)), .ref 63]) (pc := 52) rfl rfl ?_
        refine zr_i2 (x := zv_a h2 63 k) (y := 3) (t := 60) (pc := 53) rfl rfl (by omega) (by omega) (by omega) (by omega) (fun (c7 : ¬ (zv_a h2 63 k) = 3) => ?_) (fun (c7 : ¬ (¬ (zv_a h2 63 k) = 3)) => ?_)
        · refine zx_T.l (i := .aload_n 0) (k := 1) (v := .ref 63) (pc := 60) rfl rfl rfl ?_
          refine zx_T.l (i := .iload_n 3) (k := 1) (v := .int (zI (k))) (pc := 61) rfl rfl rfl ?_
          refine zr_al (n := 14) (lo := 0) (hi := 8) (e := zv_a h2 63 k) (pc := 62) rfl rfl rfl hI2 (by omega) (by omega) rfl (fun g8a g8b => ?_)
          refine zr_as (n := 14) (lo := 0) (hi := 8) (e := zv_a h2 63 k) (pc := 63) rfl rfl rfl rfl hI2 (by omega) (by omega) (by omega) (by omega) (fun h9 ih9 w10 s11 => ?_)
          refine zr_inc (x := k) (n := 1) (y := k + 1) (ls' := [(3, .int (zI (k + 1))), (0, .ref 63), (1, .int (zI (f))), (2, .int (zI (m)))]) (pc := 64) rfl rfl rfl (by omega) rfl ?_
          refine zx_T.j (i := .goto (-65)) (k := 3) (pc' := 2) (st' := []) (pc := 67) rfl rfl rfl rfl rfl ?_
          have a63 : ∀ j, 0 ≤ j → zv_a h9 63 j = if j = k then zv_a h2 63 k else zv_a h2 63 j := fun j hj => by rw [s11 j hj]
          refine zx_T.lk (ls' := [(0, .ref 63), (1, .int (zI (f))), (2, .int (zI (m))), (3, .int (zI (k + 1)))]) rfl ⟨rfl, rfl, rfl, rfl, trivial⟩ ?_
          exact ih (h2 := h9) (k := k + 1) ih9 (by omega) (by omega) ((hw.wd rfl : zb_W [(63, 0)] h _).tr (w10.wd rfl)) (fun j j0 => by first | omega | (have b8 := hj j j0; first | omega | (have b9 := a63 j j0; split at b9 <;> first | omega | (subst_vars; omega)))) (by omega)
        · refine zx_T.s (i := .iconst 0) (k := 1) (st' := [.int (zI (0)), .int (zI (k)), .ref 63]) (pc := 56) rfl rfl ?_
          refine zx_T.j (i := .goto 6) (k := 3) (pc' := 63) (st' := [.int (zI (0)), .int (zI (k)), .ref 63]) (pc := 57) rfl rfl rfl rfl rfl ?_
          refine zr_as (n := 14) (lo := 0) (hi := 8) (e := 0) (pc := 63) rfl rfl rfl rfl hI2 (by omega) (by omega) (by omega) (by omega) (fun h13 ih13 w14 s15 => ?_)
          refine zr_inc (x := k) (n := 1) (y := k + 1) (ls' := [(3, .int (zI (k + 1))), (0, .ref 63), (1, .int (zI (f))), (2, .int (zI (m)))]) (pc := 64) rfl rfl rfl (by omega) rfl ?_
          refine zx_T.j (i := .goto (-65)) (k := 3) (pc' := 2) (st' := []) (pc := 67) rfl rfl rfl rfl rfl ?_
          have a63 : ∀ j, 0 ≤ j → zv_a h13 63 j = if j = k then 0 else zv_a h2 63 j := fun j hj => by rw [s15 j hj]
          refine zx_T.lk (ls' := [(0, .ref 63), (1, .int (zI (f))), (2, .int (zI (m))), (3, .int (zI (k + 1)))]) rfl ⟨rfl, rfl, rfl, rfl, trivial⟩ ?_
          exact ih (h2 := h13) (k := k + 1) ih13 (by omega) (by omega) ((hw.wd rfl : zb_W [(63, 0)] h _).tr (w14.wd rfl)) (fun j j0 => by first | omega | (have b8 := hj j j0; first | omega | (have b9 := a63 j j0; split at b9 <;> first | omega | (subst_vars; omega)))) (by omega)
      · refine zx_T.l (i := .iload_n 3) (k := 1) (v := .int (zI (k))) (pc := 16) rfl rfl rfl ?_
        refine zx_T.s (i := .iconst 1) (k := 1) (st' := [.int (zI (1)), .int (zI (k))]) (pc := 17) rfl rfl ?_
        refine zr_add (x := k) (y := 1) (e := k + 1) (pc := 18) rfl (by omega) ?_
        refine zx_T.l (i := .iload_n 1) (k := 1) (v := .int (zI (f))) (pc := 19) rfl rfl rfl ?_
        refine zx_T.l (i := .iload_n 2) (k := 1) (v := .int (zI (m))) (pc := 20) rfl rfl rfl ?_
        refine zr_add (x := f) (y := m) (e := f + m) (pc := 21) rfl (by omega) ?_
        refine zr_i2 (x := k + 1) (y := f + m) (t := 40) (pc := 22) rfl rfl (by omega) (by omega) (by omega) (by omega) (fun (c17 : (f + m) ≤ (k + 1)) => ?_) (fun (c17 : ¬ ((f + m) ≤ (k + 1))) => ?_)
        · refine zx_T.l (i := .aload_n 0) (k := 1) (v := .ref 63) (pc := 40) rfl rfl rfl ?_
          refine zx_T.l (i := .iload_n 3) (k := 1) (v := .int (zI (k))) (pc := 41) rfl rfl rfl ?_
          refine zx_T.l (i := .aload_n 0) (k := 1) (v := .ref 63) (pc := 42) rfl rfl rfl ?_
          refine zx_T.l (i := .iload_n 3) (k := 1) (v := .int (zI (k))) (pc := 43) rfl rfl rfl ?_
          refine zr_al (n := 14) (lo := 0) (hi := 8) (e := zv_a h2 63 k) (pc := 44) rfl rfl rfl hI2 (by omega) (by omega) rfl (fun g18a g18b => ?_)
          refine zx_T.s (i := .iconst 2) (k := 1) (st' := [.int (zI (2)), .int (zI (zv_a h2 63 k)), .int (zI (k)), .ref 63]) (pc := 45) rfl rfl ?_
          refine zr_i2 (x := zv_a h2 63 k) (y := 2) (t := 56) (pc := 46) rfl rfl (by omega) (by omega) (by omega) (by omega) (fun (c19 : (zv_a h2 63 k) = 2) => ?_) (fun (c19 : ¬ ((zv_a h2 63 k) = 2)) => False.elim (by omega))
          refine zx_T.s (i := .iconst 0) (k := 1) (st' := [.int (zI (0)), .int (zI (k)), .ref 63]) (pc := 56) rfl rfl ?_
          refine zx_T.j (i := .goto 6) (k := 3) (pc' := 63) (st' := [.int (zI (0)), .int (zI (k)), .ref 63]) (pc := 57) rfl rfl rfl rfl rfl ?_
          refine zr_as (n := 14) (lo := 0) (hi := 8) (e := 0) (pc := 63) rfl rfl rfl rfl hI2 (by omega) (by omega) (by omega) (by omega) (fun h20 ih20 w21 s22 => ?_)
          refine zr_inc (x := k) (n := 1) (y := k + 1) (ls' := [(3, .int (zI (k + 1))), (0, .ref 63), (1, .int (zI (f))), (2, .int (zI (m)))]) (pc := 64) rfl rfl rfl (by omega) rfl ?_
          refine zx_T.j (i := .goto (-65)) (k := 3) (pc' := 2) (st' := []) (pc := 67) rfl rfl rfl rfl rfl ?_
          have a63 : ∀ j, 0 ≤ j → zv_a h20 63 j = if j = k then 0 else zv_a h2 63 j := fun j hj => by rw [s22 j hj]
          refine zx_T.lk (ls' := [(0, .ref 63), (1, .int (zI (f))), (2, .int (zI (m))), (3, .int (zI (k + 1)))]) rfl ⟨rfl, rfl, rfl, rfl, trivial⟩ ?_
          exact ih (h2 := h20) (k := k + 1) ih20 (by omega) (by omega) ((hw.wd rfl : zb_W [(63, 0)] h _).tr (w21.wd rfl)) (fun j j0 => by first | omega | (have b8 := hj j j0; first | omega | (have b9 := a63 j j0; split at b9 <;> first | omega | (subst_vars; omega)))) (by omega)
        · refine zx_T.l (i := .aload_n 0) (k := 1) (v := .ref 63) (pc := 25) rfl rfl rfl ?_
          refine zx_T.l (i := .iload_n 3) (k := 1) (v := .int (zI (k))) (pc := 26) rfl rfl rfl ?_
          refine zx_T.s (i := .iconst 1) (k := 1) (st' := [.int (zI (1)), .int (zI (k)), .ref 63]) (pc := 27) rfl rfl ?_
          refine zr_add (x := k) (y := 1) (e := k + 1) (pc := 28) rfl (by omega) ?_
          refine zr_al (n := 14) (lo := 0) (hi := 8) (e := zv_a h2 63 (k + 1)) (pc := 29) rfl rfl rfl hI2 (by omega) (by omega) rfl (fun g24a g24b => ?_)
          refine zx_T.s (i := .iconst 3) (k := 1) (st' := [.int (zI (3)), .int (zI (zv_a h2 63 (k + 1)))]) (pc := 30) rfl rfl ?_
          refine zr_i2 (x := zv_a h2 63 (k + 1)) (y := 3) (t := 40) (pc := 31) rfl rfl (by omega) (by omega) (by omega) (by omega) (fun (c25 : ¬ (zv_a h2 63 (k + 1)) = 3) => ?_) (fun (c25 : ¬ (¬ (zv_a h2 63 (k + 1)) = 3)) => ?_)
          · refine zx_T.l (i := .aload_n 0) (k := 1) (v := .ref 63) (pc := 40) rfl rfl rfl ?_
            refine zx_T.l (i := .iload_n 3) (k := 1) (v := .int (zI (k))) (pc := 41) rfl rfl rfl ?_
            refine zx_T.l (i := .aload_n 0) (k := 1) (v := .ref 63) (pc := 42) rfl rfl rfl ?_
            refine zx_T.l (i := .iload_n 3) (k := 1) (v := .int (zI (k))) (pc := 43) rfl rfl rfl ?_
            refine zr_al (n := 14) (lo := 0) (hi := 8) (e := zv_a h2 63 k) (pc := 44) rfl rfl rfl hI2 (by omega) (by omega) rfl (fun g26a g26b => ?_)
            refine zx_T.s (i := .iconst 2) (k := 1) (st' := [.int (zI (2)), .int (zI (zv_a h2 63 k)), .int (zI (k)), .ref 63]) (pc := 45) rfl rfl ?_
            refine zr_i2 (x := zv_a h2 63 k) (y := 2) (t := 56) (pc := 46) rfl rfl (by omega) (by omega) (by omega) (by omega) (fun (c27 : (zv_a h2 63 k) = 2) => ?_) (fun (c27 : ¬ ((zv_a h2 63 k) = 2)) => False.elim (by omega))
            refine zx_T.s (i := .iconst 0) (k := 1) (st' := [.int (zI (0)), .int (zI (k)), .ref 63]) (pc := 56) rfl rfl ?_
            refine zx_T.j (i := .goto 6) (k := 3) (pc' := 63) (st' := [.int (zI (0)), .int (zI (k)), .ref 63]) (pc := 57) rfl rfl rfl rfl rfl ?_
            refine zr_as (n := 14) (lo := 0) (hi := 8) (e := 0) (pc := 63) rfl rfl rfl rfl hI2 (by omega) (by omega) (by omega) (by omega) (fun h28 ih28 w29 s30 => ?_)
            refine zr_inc (x := k) (n := 1) (y := k + 1) (ls' := [(3, .int (zI (k + 1))), (0, .ref 63), (1, .int (zI (f))), (2, .int (zI (m)))]) (pc := 64) rfl rfl rfl (by omega) rfl ?_
            refine zx_T.j (i := .goto (-65)) (k := 3) (pc' := 2) (st' := []) (pc := 67) rfl rfl rfl rfl rfl ?_
            have a63 : ∀ j, 0 ≤ j → zv_a h28 63 j = if j = k then 0 else zv_a h2 63 j := fun j hj => by rw [s30 j hj]
            refine zx_T.lk (ls' := [(0, .ref 63), (1, .int (zI (f))), (2, .int (zI (m))), (3, .int (zI (k + 1)))]) rfl ⟨rfl, rfl, rfl, rfl, trivial⟩ ?_
            exact ih (h2 := h28) (k := k + 1) ih28 (by omega) (by omega) ((hw.wd rfl : zb_W [(63, 0)] h _).tr (w29.wd rfl)) (fun j j0 => by first | omega | (have b8 := hj j j0; first | omega | (have b9 := a63 j j0; split at b9 <;> first | omega | (subst_vars; omega)))) (by omega)
          · refine zr_inc (x := k) (n := 2) (y := k + 2) (ls' := [(3, .int (zI (k + 2))), (0, .ref 63), (1, .int (zI (f))), (2, .int (zI (m)))]) (pc := 34) rfl rfl rfl (by omega) rfl ?_
            refine zx_T.j (i := .goto (-35)) (k := 3) (pc' := 2) (st' := []) (pc := 37) rfl rfl rfl rfl rfl ?_
            refine zx_T.lk (ls' := [(0, .ref 63), (1, .int (zI (f))), (2, .int (zI (m))), (3, .int (zI (k + 2)))]) rfl ⟨rfl, rfl, rfl, rfl, trivial⟩ ?_
            exact ih (h2 := h2) (k := k + 2) hI2 (by omega) (by omega) (hw.wd rfl : zb_W [(63, 0)] h _) (fun j j0 => by first | omega | (have b8 := hj j j0; first | omega | (have b9 := a63 j j0; split at b9 <;> first | omega | (subst_vars; omega)))) (by omega)
set_option maxRecDepth 100000 in
set_option maxHeartbeats 4000000 in
theorem zm_whole_63 {h : zx_H} (hI : zb_I zc_H h) {f : Int} {m : Int} (f1 : 0 ≤ f) (m1 : 0 ≤ m) (fm : f + m ≤ 14) : zx_T zp_P 0 zp_m158 0 [(0, .ref 63), (1, .int (zI (f))), (2, .int (zI (m)))] [] h (zr_V [(63, 0)] h (fun h' => ∀ j, 0 ≤ j → (zv_a h' 63 j = zv_a h 63 j ∨ zv_a h' 63 j = 0) ∧ (j < f ∨ f + m ≤ j → zv_a h' 63 j = zv_a h 63 j))) := by
  refine zx_T.l (i := .iload_n 1) (k := 1) (v := .int (zI (f))) (pc := 0) rfl rfl rfl ?_
  refine zx_T.t (i := .istore_n 3) (k := 1) (ls' := [(3, .int (zI (f))), (0, .ref 63), (1, .int (zI (f))), (2, .int (zI (m)))]) (st' := []) (pc := 1) rfl rfl rfl rfl ?_
  refine zx_T.lk (ls' := [(0, .ref 63), (1, .int (zI (f))), (2, .int (zI (m))), (3, .int (zI (f)))]) rfl ⟨rfl, rfl, rfl, rfl, trivial⟩ ?_
  exact zm_whole_63_L (h := h) hI (f := f) (m := m) f1 m1 fm ((f + m - f : Int).toNat + 1) (h2 := h) (k := f) hI (by omega) (by omega) zb_W.rf (fun j j0 => by first | omega | (have b8 := hj j j0; first | omega | (have b9 := a63 j j0; split at b9 <;> first | omega | (subst_vars; omega)))) (Nat.lt_succ_self _)

set_option maxRecDepth 100000 in
set_option maxHeartbeats 4000000 in
theorem zm_pop0 {h : zx_H} (hI : zb_I zc_H h)  (n8 : ¬ zv_a h 61 8 = 3) : zx_T zp_P 1 zp_m164 0 [(0, .ref 44), (1, .int (zI (0)))] [] h (zr_V [(44, 25), (44, 26)] h (fun h' => zv_i h' 25 ≤ zv_i h 25)) := by
  have hn : zv_i h 25 = 1 → ¬ zv_a h 61 (zv_i h 25 + 7) = 3 := fun z => by rw [z]; exact n8
  refine zx_T.l (i := .aload_n 0) (k := 1) (v := .ref 44) (pc := 0) rfl rfl rfl ?_
  refine zr_gi (k := 25) (lo := 0) (hi := 6) (e := zv_i h 25) (pc := 1) rfl rfl rfl hI rfl (fun g1a g1b => ?_)
  refine zr_i1 (x := zv_i h 25) (t := 15) (pc := 4) rfl rfl (by omega) (by omega) (fun (c2 : ¬ (zv_i h 25) = 0) => ?_) (fun (c2 : ¬ (¬ (zv_i h 25) = 0)) => ?_)
  · refine zx_T.l (i := .aload_n 0) (k := 1) (v := .ref 44) (pc := 15) rfl rfl rfl ?_
    refine zr_iv (cj := 160) (q' := zp_m160) (As := []) (rest := []) (pc := 16) rfl rfl rfl rfl rfl rfl (Nat.le_of_ble_eq_true rfl) rfl (Nat.le_of_ble_eq_true rfl) hI ((zm_top (h := h) hI  ).up (Nat.le_of_ble_eq_true rfl)) ?_
    rintro r3 h6 ⟨h6q, v4, r3q, x5⟩
    subst h6q r3q
    try dsimp only at x5
    show zx_T zp_P 1 zp_m164 19 [(0, .ref 44), (1, .int (zI (0)))] [.int (zI (v4))] h _
    refine zx_T.s (i := .iconst 3) (k := 1) (st' := [.int (zI (3)), .int (zI (v4))]) (pc := 19) rfl rfl ?_
    refine zr_i2 (x := v4) (y := 3) (t := 48) (pc := 20) rfl rfl (by omega) (by omega) (by omega) (by omega) (fun (c7 : ¬ v4 = 3) => ?_) (fun (c7 : ¬ (¬ v4 = 3)) => ?_)
    · refine zx_T.l (i := .aload_n 0) (k := 1) (v := .ref 44) (pc := 48) rfl rfl rfl ?_
      refine zx_T.s (i := .dup) (k := 1) (st' := [.ref 44, .ref 44]) (pc := 49) rfl rfl ?_
      refine zr_gi (k := 25) (lo := 0) (hi := 6) (e := zv_i h 25) (pc := 50) rfl rfl rfl hI rfl (fun g8a g8b => ?_)
      refine zx_T.s (i := .iconst 1) (k := 1) (st' := [.int (zI (1)), .int (zI (zv_i h 25)), .ref 44]) (pc := 53) rfl rfl ?_
      refine zr_sub (x := zv_i h 25) (y := 1) (e := zv_i h 25 - 1) (pc := 54) rfl (by omega) ?_
      refine zr_pi (k := 25) (lo := 0) (hi := 6) (e := zv_i h 25 - 1) (pc := 55) rfl rfl rfl rfl rfl rfl hI (by omega) (by omega) (fun h9 ih9 w10 e11 => ?_)
      refine zx_T.l (i := .iload_n 1) (k := 1) (v := .int (zI (0))) (pc := 58) rfl rfl rfl ?_
      refine zr_i1 (x := 0) (t := 67) (pc := 59) rfl rfl (by omega) (by omega) (fun _ => ?_) (fun (c12 : ¬ (0 = 0)) => absurd (by decide) c12)
      have y13 : zv_i h9 25 = zv_i h 25 - 1 := e11
      exact zr_vr (pc := 67) rfl rfl ⟨ih9, (w10.wd rfl : zb_W [(44, 25), (44, 26)] h _), rfl, by dsimp only; omega⟩
    · refine zx_T.l (i := .iload_n 1) (k := 1) (v := .int (zI (0))) (pc := 23) rfl rfl rfl ?_
      refine zr_i1 (x := 0) (t := 40) (pc := 24) rfl rfl (by omega) (by omega) (fun _ => ?_) (fun (c14 : ¬ (0 = 0)) => absurd (by decide) c14)
      refine zx_T.l (i := .aload_n 0) (k := 1) (v := .ref 44) (pc := 40) rfl rfl rfl ?_
      refine zx_T.s (i := .iconst 1) (k := 1) (st' := [.int (zI (1)), .ref 44]) (pc := 41) rfl rfl ?_
      refine zr_iv (cj := 159) (q' := zp_m159) (As := [.int (zI (1))]) (rest := []) (pc := 42) rfl rfl rfl rfl rfl rfl (Nat.le_of_ble_eq_true rfl) rfl (Nat.le_of_ble_eq_true rfl) hI ((zm_fails (h := h) hI (w := 1) (by omega) (by omega)).up (Nat.le_of_ble_eq_true rfl)) ?_
      rintro r15 h18 ⟨ih18, w19, r15q, x17⟩
      subst r15q
      try dsimp only at x17
      show zx_T zp_P 1 zp_m164 45 [(0, .ref 44), (1, .int (zI (0)))] [] h18 _
      refine zx_T.j (i := .goto 22) (k := 3) (pc' := 67) (st' := []) (pc := 45) rfl rfl rfl rfl rfl ?_
      have y20 : zv_i h18 25 = zv_i h 25 := (zv_wi w19 rfl)
      exact zr_vr (pc := 67) rfl rfl ⟨ih18, (w19.wd rfl : zb_W [(44, 25), (44, 26)] h _), rfl, by dsimp only; omega⟩
  · refine zx_T.l (i := .aload_n 0) (k := 1) (v := .ref 44) (pc := 7) rfl rfl rfl ?_
    refine zx_T.s (i := .iconst 2) (k := 1) (st' := [.int (zI (2)), .ref 44]) (pc := 8) rfl rfl ?_
    refine zr_iv (cj := 159) (q' := zp_m159) (As := [.int (zI (2))]) (rest := []) (pc := 9) rfl rfl rfl rfl rfl rfl (Nat.le_of_ble_eq_true rfl) rfl (Nat.le_of_ble_eq_true rfl) hI ((zm_fails (h := h) hI (w := 2) (by omega) (by omega)).up (Nat.le_of_ble_eq_true rfl)) ?_
    rintro r21 h24 ⟨ih24, w25, r21q, x23⟩
    subst r21q
    try dsimp only at x23
    show zx_T zp_P 1 zp_m164 12 [(0, .ref 44), (1, .int (zI (0)))] [] h24 _
    refine zx_T.j (i := .goto 55) (k := 3) (pc' := 67) (st' := []) (pc := 12) rfl rfl rfl rfl rfl ?_
    have y26 : zv_i h24 25 = zv_i h 25 := (zv_wi w25 rfl)
    exact zr_vr (pc := 67) rfl rfl ⟨ih24, (w25.wd rfl : zb_W [(44, 25), (44, 26)] h _), rfl, by dsimp only; omega⟩

set_option maxRecDepth 100000 in
set_option maxHeartbeats 4000000 in
theorem zm_pop1 {h : zx_H} (hI : zb_I zc_H h)  (n8 : ¬ zv_a h 61 8 = 3) : zx_T zp_P 2 zp_m164 0 [(0, .ref 44), (1, .int (zI (1)))] [] h (zr_V [(44, 25), (44, 26)] h (fun h' => zv_i h' 25 ≤ zv_i h 25)) := by
  have hn : zv_i h 25 = 1 → ¬ zv_a h 61 (zv_i h 25 + 7) = 3 := fun z => by rw [z]; exact n8
  refine zx_T.l (i := .aload_n 0) (k := 1) (v := .ref 44) (pc := 0) rfl rfl rfl ?_
  refine zr_gi (k := 25) (lo := 0) (hi := 6) (e := zv_i h 25) (pc := 1) rfl rfl rfl hI rfl (fun g1a g1b => ?_)
  refine zr_i1 (x := zv_i h 25) (t := 15) (pc := 4) rfl rfl (by omega) (by omega) (fun (c2 : ¬ (zv_i h 25) = 0) => ?_) (fun (c2 : ¬ (¬ (zv_i h 25) = 0)) => ?_)
  · refine zx_T.l (i := .aload_n 0) (k := 1) (v := .ref 44) (pc := 15) rfl rfl rfl ?_
    refine zr_iv (cj := 160) (q' := zp_m160) (As := []) (rest := []) (pc := 16) rfl rfl rfl rfl rfl rfl (Nat.le_of_ble_eq_true rfl) rfl (Nat.le_of_ble_eq_true rfl) hI ((zm_top (h := h) hI  ).up (Nat.le_of_ble_eq_true rfl)) ?_
    rintro r3 h6 ⟨h6q, v4, r3q, x5⟩
    subst h6q r3q
    try dsimp only at x5
    show zx_T zp_P 2 zp_m164 19 [(0, .ref 44), (1, .int (zI (1)))] [.int (zI (v4))] h _
    refine zx_T.s (i := .iconst 3) (k := 1) (st' := [.int (zI (3)), .int (zI (v4))]) (pc := 19) rfl rfl ?_
    refine zr_i2 (x := v4) (y := 3) (t := 48) (pc := 20) rfl rfl (by omega) (by omega) (by omega) (by omega) (fun (c7 : ¬ v4 = 3) => ?_) (fun (c7 : ¬ (¬ v4 = 3)) => ?_)
    · refine zx_T.l (i := .aload_n 0) (k := 1) (v := .ref 44) (pc := 48) rfl rfl rfl ?_
      refine zx_T.s (i := .dup) (k := 1) (st' := [.ref 44, .ref 44]) (pc := 49) rfl rfl ?_
      refine zr_gi (k := 25) (lo := 0) (hi := 6) (e := zv_i h 25) (pc := 50) rfl rfl rfl hI rfl (fun g8a g8b => ?_)
      refine zx_T.s (i := .iconst 1) (k := 1) (st' := [.int (zI (1)), .int (zI (zv_i h 25)), .ref 44]) (pc := 53) rfl rfl ?_
      refine zr_sub (x := zv_i h 25) (y := 1) (e := zv_i h 25 - 1) (pc := 54) rfl (by omega) ?_
      refine zr_pi (k := 25) (lo := 0) (hi := 6) (e := zv_i h 25 - 1) (pc := 55) rfl rfl rfl rfl rfl rfl hI (by omega) (by omega) (fun h9 ih9 w10 e11 => ?_)
      refine zx_T.l (i := .iload_n 1) (k := 1) (v := .int (zI (1))) (pc := 58) rfl rfl rfl ?_
      refine zr_i1 (x := 1) (t := 67) (pc := 59) rfl rfl (by omega) (by omega) (fun (c12 : 1 = 0) => absurd c12 (by decide)) (fun _ => ?_)
      refine zx_T.l (i := .aload_n 0) (k := 1) (v := .ref 44) (pc := 62) rfl rfl rfl ?_
      refine zx_T.s (i := .iconst 0) (k := 1) (st' := [.int (zI (0)), .ref 44]) (pc := 63) rfl rfl ?_
      have y13 : zv_a h9 61 8 = zv_a h 61 8 := (zv_wa w10 rfl 8)
      have y14 : zv_i h9 25 = zv_i h 25 - 1 := e11
      have y15 : zv_i h9 26 = zv_i h 26 := (zv_wi w10 rfl)
      refine zr_iv (cj := 164) (q' := zp_m164) (As := [.int (zI (0))]) (rest := []) (pc := 64) rfl rfl rfl rfl rfl rfl (Nat.le_of_ble_eq_true rfl) rfl (Nat.le_of_ble_eq_true rfl) ih9 ((zm_pop0 (h := h9) ih9  (by omega)).up (Nat.le_of_ble_eq_true rfl)) ?_
      rintro r16 h19 ⟨ih19, w20, r16q, x18⟩
      subst r16q
      try dsimp only at x18
      show zx_T zp_P 2 zp_m164 67 [(0, .ref 44), (1, .int (zI (1)))] [] h19 _
      exact zr_vr (pc := 67) rfl rfl ⟨ih19, ((w10.wd rfl : zb_W [(44, 25), (44, 26)] h _).tr (w20.wd rfl)), rfl, by dsimp only; omega⟩
    · refine zx_T.l (i := .iload_n 1) (k := 1) (v := .int (zI (1))) (pc := 23) rfl rfl rfl ?_
      refine zr_i1 (x := 1) (t := 40) (pc := 24) rfl rfl (by omega) (by omega) (fun (c22 : 1 = 0) => absurd c22 (by decide)) (fun _ => ?_)
      refine zx_T.l (i := .aload_n 0) (k := 1) (v := .ref 44) (pc := 27) rfl rfl rfl ?_
      refine zx_T.s (i := .dup) (k := 1) (st' := [.ref 44, .ref 44]) (pc := 28) rfl rfl ?_
      refine zr_gi (k := 25) (lo := 0) (hi := 6) (e := zv_i h 25) (pc := 29) rfl rfl rfl hI rfl (fun g23a g23b => ?_)
      refine zx_T.s (i := .iconst 2) (k := 1) (st' := [.int (zI (2)), .int (zI (zv_i h 25)), .ref 44]) (pc := 32) rfl rfl ?_
      refine zr_sub (x := zv_i h 25) (y := 2) (e := zv_i h 25 - 2) (pc := 33) rfl (by omega) ?_
      refine zr_pi (k := 25) (lo := 0) (hi := 6) (e := zv_i h 25 - 2) (pc := 34) rfl rfl rfl rfl rfl rfl hI (by omega) (by omega) (fun h24 ih24 w25 e26 => ?_)
      refine zx_T.j (i := .goto 30) (k := 3) (pc' := 67) (st' := []) (pc := 37) rfl rfl rfl rfl rfl ?_
      have y27 : zv_i h24 25 = zv_i h 25 - 2 := e26
      exact zr_vr (pc := 67) rfl rfl ⟨ih24, (w25.wd rfl : zb_W [(44, 25), (44, 26)] h _), rfl, by dsimp only; omega⟩
  · refine zx_T.l (i := .aload_n 0) (k := 1) (v := .ref 44) (pc := 7) rfl rfl rfl ?_
    refine zx_T.s (i := .iconst 2) (k := 1) (st' := [.int (zI (2)), .ref 44]) (pc := 8) rfl rfl ?_
    refine zr_iv (cj := 159) (q' := zp_m159) (As := [.int (zI (2))]) (rest := []) (pc := 9) rfl rfl rfl rfl rfl rfl (Nat.le_of_ble_eq_true rfl) rfl (Nat.le_of_ble_eq_true rfl) hI ((zm_fails (h := h) hI (w := 2) (by omega) (by omega)).up (Nat.le_of_ble_eq_true rfl)) ?_
    rintro r28 h31 ⟨ih31, w32, r28q, x30⟩
    subst r28q
    try dsimp only at x30
    show zx_T zp_P 2 zp_m164 12 [(0, .ref 44), (1, .int (zI (1)))] [] h31 _
    refine zx_T.j (i := .goto 55) (k := 3) (pc' := 67) (st' := []) (pc := 12) rfl rfl rfl rfl rfl ?_
    have y33 : zv_i h31 25 = zv_i h 25 := (zv_wi w32 rfl)
    exact zr_vr (pc := 67) rfl rfl ⟨ih31, (w32.wd rfl : zb_W [(44, 25), (44, 26)] h _), rfl, by dsimp only; omega⟩

set_option maxRecDepth 100000 in
set_option maxHeartbeats 4000000 in
theorem zm_load {h : zx_H} (hI : zb_I zc_H h) {a : Int} (a1 : -2147483648 ≤ a) (a2 : a ≤ 2147483647) (hr : zv_i h 26 = 0) (n8 : ¬ zv_a h 61 8 = 3) : zx_T zp_P 2 zp_m165 0 [(0, .ref 44), (1, .int (zI (a)))] [] h (zr_V [(44, 25), (44, 26), (61, 0)] h (fun h' => ¬ zv_a h' 61 8 = 3 ∧ (zv_i h' 26 = 0 → 0 ≤ a ∧ a ≤ 7 ∧ ¬ zv_a h 61 a = 3 ∧ ¬ zv_a h 61 a = 0 ∧ (zv_a h 61 a = 2 → zv_i h' 25 = zv_i h 25 + 2) ∧ (¬ zv_a h 61 a = 2 → zv_i h' 25 = zv_i h 25 + 1) ∧ ∀ j, 0 ≤ j → (j = zv_i h 25 + 8 → zv_a h' 61 j = zv_a h 61 a) ∧ (zv_a h 61 a = 2 → j = zv_i h 25 + 9 → zv_a h' 61 j = 3) ∧ (¬ j = zv_i h 25 + 8 → ¬ (zv_a h 61 a = 2 ∧ j = zv_i h 25 + 9) → zv_a h' 61 j = zv_a h 61 j)))) := by
  refine zx_T.l (i := .iload_n 1) (k := 1) (v := .int (zI (a))) (pc := 0) rfl rfl rfl ?_
  refine zx_T.s (i := .iconst 0) (k := 1) (st' := [.int (zI (0)), .int (zI (a))]) (pc := 1) rfl rfl ?_
  refine zx_T.s (i := .bipush 7) (k := 2) (st' := [.int (zI (7)), .int (zI (0)), .int (zI (a))]) (pc := 2) rfl rfl ?_
  refine zr_is (cj := 155) (q' := zp_m155) (As := [.int (zI (a)), .int (zI (0)), .int (zI (7))]) (rest := []) (pc := 4) rfl rfl rfl rfl rfl rfl (Nat.le_of_ble_eq_true rfl) rfl (Nat.le_of_ble_eq_true rfl) rfl ((zm_in (h := h) hI (v := a) (l := 0) (u := 7) (by omega) (by omega) (by omega) (by omega) (by omega) (by omega)).up (Nat.le_of_ble_eq_true rfl)) ?_
  rintro r1 h4 ⟨h4q, v2, r1q, x3⟩
  subst h4q r1q
  try dsimp only at x3
  show zx_T zp_P 2 zp_m165 7 [(0, .ref 44), (1, .int (zI (a)))] [.int (zI (v2))] h _
  refine zr_i1 (x := v2) (t := 18) (pc := 7) rfl rfl (by omega) (by omega) (fun (c5 : ¬ v2 = 0) => ?_) (fun (c5 : ¬ (¬ v2 = 0)) => ?_)
  · refine zx_T.l (i := .aload_n 0) (k := 1) (v := .ref 44) (pc := 18) rfl rfl rfl ?_
    refine zr_gr (k := 24) (b := 61) (pc := 19) rfl rfl rfl hI ?_
    refine zx_T.l (i := .iload_n 1) (k := 1) (v := .int (zI (a))) (pc := 22) rfl rfl rfl ?_
    refine zr_al (n := 14) (lo := 0) (hi := 8) (e := zv_a h 61 a) (pc := 23) rfl rfl rfl hI (by omega) (by omega) rfl (fun g6a g6b => ?_)
    refine zr_i1 (x := zv_a h 61 a) (t := 37) (pc := 24) rfl rfl (by omega) (by omega) (fun (c7 : (zv_a h 61 a) = 0) => ?_) (fun (c7 : ¬ ((zv_a h 61 a) = 0)) => ?_)
    · refine zx_T.l (i := .aload_n 0) (k := 1) (v := .ref 44) (pc := 37) rfl rfl rfl ?_
      refine zx_T.s (i := .iconst 1) (k := 1) (st' := [.int (zI (1)), .ref 44]) (pc := 38) rfl rfl ?_
      refine zr_iv (cj := 159) (q' := zp_m159) (As := [.int (zI (1))]) (rest := []) (pc := 39) rfl rfl rfl rfl rfl rfl (Nat.le_of_ble_eq_true rfl) rfl (Nat.le_of_ble_eq_true rfl) hI ((zm_fails (h := h) hI (w := 1) (by omega) (by omega)).up (Nat.le_of_ble_eq_true rfl)) ?_
      rintro r8 h11 ⟨ih11, w12, r8q, x10⟩
      subst r8q
      try dsimp only at x10
      show zx_T zp_P 2 zp_m165 42 [(0, .ref 44), (1, .int (zI (a)))] [] h11 _
      refine zx_T.j (i := .goto 13) (k := 3) (pc' := 55) (st' := []) (pc := 42) rfl rfl rfl rfl rfl ?_
      have y13 : zv_i h11 25 = zv_i h 25 := (zv_wi w12 rfl)
      have y15 : zv_a h11 61 8 = zv_a h 61 8 := (zv_wa w12 rfl 8)
      exact zr_vr (pc := 55) rfl rfl ⟨ih11, (w12.wd rfl : zb_W [(44, 25), (44, 26), (61, 0)] h _), rfl, by dsimp only; exact ⟨by omega, fun h0 => ⟨by omega, by omega, by omega, by omega, by omega, by omega, fun j hj => by first | omega | (have b9 := pj j hj; omega)⟩⟩⟩
    · refine zx_T.l (i := .aload_n 0) (k := 1) (v := .ref 44) (pc := 27) rfl rfl rfl ?_
      refine zr_gr (k := 24) (b := 61) (pc := 28) rfl rfl rfl hI ?_
      refine zx_T.l (i := .iload_n 1) (k := 1) (v := .int (zI (a))) (pc := 31) rfl rfl rfl ?_
      refine zr_al (n := 14) (lo := 0) (hi := 8) (e := zv_a h 61 a) (pc := 32) rfl rfl rfl hI (by omega) (by omega) rfl (fun g16a g16b => ?_)
      refine zx_T.s (i := .iconst 3) (k := 1) (st' := [.int (zI (3)), .int (zI (zv_a h 61 a))]) (pc := 33) rfl rfl ?_
      refine zr_i2 (x := zv_a h 61 a) (y := 3) (t := 45) (pc := 34) rfl rfl (by omega) (by omega) (by omega) (by omega) (fun (c17 : ¬ (zv_a h 61 a) = 3) => ?_) (fun (c17 : ¬ (¬ (zv_a h 61 a) = 3)) => ?_)
      · refine zx_T.l (i := .aload_n 0) (k := 1) (v := .ref 44) (pc := 45) rfl rfl rfl ?_
        refine zx_T.l (i := .aload_n 0) (k := 1) (v := .ref 44) (pc := 46) rfl rfl rfl ?_
        refine zr_gr (k := 24) (b := 61) (pc := 47) rfl rfl rfl hI ?_
        refine zx_T.l (i := .iload_n 1) (k := 1) (v := .int (zI (a))) (pc := 50) rfl rfl rfl ?_
        refine zr_al (n := 14) (lo := 0) (hi := 8) (e := zv_a h 61 a) (pc := 51) rfl rfl rfl hI (by omega) (by omega) rfl (fun g18a g18b => ?_)
        have ap : ∀ j, 0 ≤ j → zv_a h 61 j = zv_a h 61 j := fun j hj => rfl
        refine zr_iv (cj := 163) (q' := zp_m163) (As := [.int (zI (zv_a h 61 a))]) (rest := []) (pc := 52) rfl rfl rfl rfl rfl rfl (Nat.le_of_ble_eq_true rfl) rfl (Nat.le_of_ble_eq_true rfl) hI ((zm_push (h := h) hI (k := zv_a h 61 a) (by omega) (by omega) (by omega)).up (Nat.le_of_ble_eq_true rfl)) ?_
        rintro r23 h26 ⟨ih26, w27, r23q, x25⟩
        subst r23q
        try dsimp only at x25
        have pj := x25.2.2.1
        have p8 := x25.2.2.2 (by omega)
        show zx_T zp_P 2 zp_m165 55 [(0, .ref 44), (1, .int (zI (a)))] [] h26 _
        exact zr_vr (pc := 55) rfl rfl ⟨ih26, (w27.wd rfl : zb_W [(44, 25), (44, 26), (61, 0)] h _), rfl, by dsimp only; exact ⟨by omega, fun h0 => ⟨by omega, by omega, by omega, by omega, by omega, by omega, fun j hj => by first | omega | (have b9 := pj j hj; omega)⟩⟩⟩
      · refine zx_T.l (i := .aload_n 0) (k := 1) (v := .ref 44) (pc := 37) rfl rfl rfl ?_
        refine zx_T.s (i := .iconst 1) (k := 1) (st' := [.int (zI (1)), .ref 44]) (pc := 38) rfl rfl ?_
        refine zr_iv (cj := 159) (q' := zp_m159) (As := [.int (zI (1))]) (rest := []) (pc := 39) rfl rfl rfl rfl rfl rfl (Nat.le_of_ble_eq_true rfl) rfl (Nat.le_of_ble_eq_true rfl) hI ((zm_fails (h := h) hI (w := 1) (by omega) (by omega)).up (Nat.le_of_ble_eq_true rfl)) ?_
        rintro r31 h34 ⟨ih34, w35, r31q, x33⟩
        subst r31q
        try dsimp only at x33
        show zx_T zp_P 2 zp_m165 42 [(0, .ref 44), (1, .int (zI (a)))] [] h34 _
        refine zx_T.j (i := .goto 13) (k := 3) (pc' := 55) (st' := []) (pc := 42) rfl rfl rfl rfl rfl ?_
        have y36 : zv_i h34 25 = zv_i h 25 := (zv_wi w35 rfl)
        have y38 : zv_a h34 61 8 = zv_a h 61 8 := (zv_wa w35 rfl 8)
        exact zr_vr (pc := 55) rfl rfl ⟨ih34, (w35.wd rfl : zb_W [(44, 25), (44, 26), (61, 0)] h _), rfl, by dsimp only; exact ⟨by omega, fun h0 => ⟨by omega, by omega, by omega, by omega, by omega, by omega, fun j hj => by first | omega | (have b9 := pj j hj; omega)⟩⟩⟩
  · refine zx_T.l (i := .aload_n 0) (k := 1) (v := .ref 44) (pc := 10) rfl rfl rfl ?_
    refine zx_T.s (i := .iconst 4) (k := 1) (st' := [.int (zI (4)), .ref 44]) (pc := 11) rfl rfl ?_
    refine zr_iv (cj := 159) (q' := zp_m159) (As := [.int (zI (4))]) (rest := []) (pc := 12) rfl rfl rfl rfl rfl rfl (Nat.le_of_ble_eq_true rfl) rfl (Nat.le_of_ble_eq_true rfl) hI ((zm_fails (h := h) hI (w := 4) (by omega) (by omega)).up (Nat.le_of_ble_eq_true rfl)) ?_
    rintro r39 h42 ⟨ih42, w43, r39q, x41⟩
    subst r39q
    try dsimp only at x41
    show zx_T zp_P 2 zp_m165 15 [(0, .ref 44), (1, .int (zI (a)))] [] h42 _
    refine zx_T.j (i := .goto 40) (k := 3) (pc' := 55) (st' := []) (pc := 15) rfl rfl rfl rfl rfl ?_
    have y44 : zv_i h42 25 = zv_i h 25 := (zv_wi w43 rfl)
    have y46 : zv_a h42 61 8 = zv_a h 61 8 := (zv_wa w43 rfl 8)
    exact zr_vr (pc := 55) rfl rfl ⟨ih42, (w43.wd rfl : zb_W [(44, 25), (44, 26), (61, 0)] h _), rfl, by dsimp only; exact ⟨by omega, fun h0 => ⟨by omega, by omega, by omega, by omega, by omega, by omega, fun j hj => by first | omega | (have b9 := pj j hj; omega)⟩⟩⟩

set_option maxRecDepth 100000 in
set_option maxHeartbeats 4000000 in
theorem zm_store {h : zx_H} (hI : zb_I zc_H h) {a : Int} (a1 : -2147483648 ≤ a) (a2 : a ≤ 2147483647) (hr : zv_i h 26 = 0) (n8 : ¬ zv_a h 61 8 = 3) : zx_T zp_P 2 zp_m166 0 [(0, .ref 44), (1, .int (zI (a)))] [] h (zr_V [(44, 25), (44, 26), (61, 0)] h (fun h' => ¬ zv_a h' 61 8 = 3 ∧ (zv_i h' 26 = 0 → 0 ≤ a ∧ a ≤ 7 ∧ 1 ≤ zv_i h 25 ∧ zv_i h' 25 ≤ zv_i h 25 - 1 ∧ ∀ i, i = zv_i h 25 + 7 → ∀ j, 0 ≤ j → (8 ≤ j → zv_a h' 61 j = zv_a h 61 j) ∧ (j = a → zv_a h' 61 j = zv_a h 61 i ∨ zv_a h' 61 j = 0 ∨ zv_a h' 61 j = 2) ∧ (¬ j = a → zv_a h' 61 j = zv_a h 61 j ∨ zv_a h' 61 j = 0 ∨ zv_a h' 61 j = 3)))) := by
  have hn : zv_i h 25 = 1 → ¬ zv_a h 61 (zv_i h 25 + 7) = 3 := fun z => by rw [z]; exact n8
  refine zx_T.l (i := .aload_n 0) (k := 1) (v := .ref 44) (pc := 0) rfl rfl rfl ?_
  refine zr_gi (k := 25) (lo := 0) (hi := 6) (e := zv_i h 25) (pc := 1) rfl rfl rfl hI rfl (fun g1a g1b => ?_)
  refine zr_i1 (x := zv_i h 25) (t := 13) (pc := 4) rfl rfl (by omega) (by omega) (fun (c2 : ¬ (zv_i h 25) = 0) => ?_) (fun (c2 : ¬ (¬ (zv_i h 25) = 0)) => ?_)
  · refine zx_T.l (i := .aload_n 0) (k := 1) (v := .ref 44) (pc := 13) rfl rfl rfl ?_
    refine zr_iv (cj := 160) (q' := zp_m160) (As := []) (rest := []) (pc := 14) rfl rfl rfl rfl rfl rfl (Nat.le_of_ble_eq_true rfl) rfl (Nat.le_of_ble_eq_true rfl) hI ((zm_top (h := h) hI  ).up (Nat.le_of_ble_eq_true rfl)) ?_
    rintro r3 h6 ⟨h6q, v4, r3q, x5⟩
    subst h6q r3q
    try dsimp only at x5
    show zx_T zp_P 2 zp_m166 17 [(0, .ref 44), (1, .int (zI (a)))] [.int (zI (v4))] h _
    refine zx_T.t (i := .istore_n 2) (k := 1) (ls' := [(2, .int (zI (v4))), (0, .ref 44), (1, .int (zI (a)))]) (st' := []) (pc := 17) rfl rfl rfl rfl ?_
    refine zx_T.l (i := .iload_n 2) (k := 1) (v := .int (zI (v4))) (pc := 18) rfl rfl rfl ?_
    refine zr_i1 (x := v4) (t := 28) (pc := 19) rfl rfl (by omega) (by omega) (fun (c7 : ¬ v4 = 0) => ?_) (fun (c7 : ¬ (¬ v4 = 0)) => ?_)
    · refine zx_T.l (i := .aload_n 0) (k := 1) (v := .ref 44) (pc := 28) rfl rfl rfl ?_
      refine zx_T.s (i := .dup) (k := 1) (st' := [.ref 44, .ref 44]) (pc := 29) rfl rfl ?_
      refine zr_gi (k := 25) (lo := 0) (hi := 6) (e := zv_i h 25) (pc := 30) rfl rfl rfl hI rfl (fun g8a g8b => ?_)
      refine zx_T.l (i := .iload_n 2) (k := 1) (v := .int (zI (v4))) (pc := 33) rfl rfl rfl ?_
      refine zx_T.s (i := .iconst 3) (k := 1) (st' := [.int (zI (3)), .int (zI (v4)), .int (zI (zv_i h 25)), .ref 44]) (pc := 34) rfl rfl ?_
      refine zr_i2 (x := v4) (y := 3) (t := 42) (pc := 35) rfl rfl (by omega) (by omega) (by omega) (by omega) (fun (c9 : ¬ v4 = 3) => ?_) (fun (c9 : ¬ (¬ v4 = 3)) => ?_)
      · refine zx_T.s (i := .iconst 1) (k := 1) (st' := [.int (zI (1)), .int (zI (zv_i h 25)), .ref 44]) (pc := 42) rfl rfl ?_
        refine zr_sub (x := zv_i h 25) (y := 1) (e := zv_i h 25 - 1) (pc := 43) rfl (by omega) ?_
        refine zr_pi (k := 25) (lo := 0) (hi := 6) (e := zv_i h 25 - 1) (pc := 44) rfl rfl rfl rfl rfl rfl hI (by omega) (by omega) (fun h10 ih10 w11 e12 => ?_)
        refine zx_T.l (i := .iload_n 1) (k := 1) (v := .int (zI (a))) (pc := 47) rfl rfl rfl ?_
        refine zx_T.s (i := .iconst 0) (k := 1) (st' := [.int (zI (0)), .int (zI (a))]) (pc := 48) rfl rfl ?_
        refine zx_T.l (i := .iload_n 2) (k := 1) (v := .int (zI (v4))) (pc := 49) rfl rfl rfl ?_
        refine zx_T.s (i := .iconst 3) (k := 1) (st' := [.int (zI (3)), .int (zI (v4)), .int (zI (0)), .int (zI (a))]) (pc := 50) rfl rfl ?_
        refine zr_i2 (x := v4) (y := 3) (t := 59) (pc := 51) rfl rfl (by omega) (by omega) (by omega) (by omega) (fun (c13 : ¬ v4 = 3) => ?_) (fun (c13 : ¬ (¬ v4 = 3)) => False.elim (by omega))
        refine zx_T.s (i := .bipush 7) (k := 2) (st' := [.int (zI (7)), .int (zI (0)), .int (zI (a))]) (pc := 59) rfl rfl ?_
        refine zr_is (cj := 155) (q' := zp_m155) (As := [.int (zI (a)), .int (zI (0)), .int (zI (7))]) (rest := []) (pc := 61) rfl rfl rfl rfl rfl rfl (Nat.le_of_ble_eq_true rfl) rfl (Nat.le_of_ble_eq_true rfl) rfl ((zm_in (h := h10) ih10 (v := a) (l := 0) (u := 7) (by omega) (by omega) (by omega) (by omega) (by omega) (by omega)).up (Nat.le_of_ble_eq_true rfl)) ?_
        rintro r14 h17 ⟨h17q, v15, r14q, x16⟩
        subst h17q r14q
        try dsimp only at x16
        show zx_T zp_P 2 zp_m166 64 [(2, .int (zI (v4))), (0, .ref 44), (1, .int (zI (a)))] [.int (zI (v15))] h10 _
        refine zr_i1 (x := v15) (t := 73) (pc := 64) rfl rfl (by omega) (by omega) (fun (c18 : ¬ v15 = 0) => ?_) (fun (c18 : ¬ (¬ v15 = 0)) => ?_)
        · refine zx_T.l (i := .aload_n 0) (k := 1) (v := .ref 44) (pc := 73) rfl rfl rfl ?_
          refine zr_gr (k := 24) (b := 61) (pc := 74) rfl rfl rfl ih10 ?_
          refine zx_T.l (i := .iload_n 1) (k := 1) (v := .int (zI (a))) (pc := 77) rfl rfl rfl ?_
          refine zx_T.l (i := .iload_n 2) (k := 1) (v := .int (zI (v4))) (pc := 78) rfl rfl rfl ?_
          refine zx_T.s (i := .iconst 3) (k := 1) (st' := [.int (zI (3)), .int (zI (v4)), .int (zI (a)), .ref 61]) (pc := 79) rfl rfl ?_
          refine zr_i2 (x := v4) (y := 3) (t := 87) (pc := 80) rfl rfl (by omega) (by omega) (by omega) (by omega) (fun (c19 : ¬ v4 = 3) => ?_) (fun (c19 : ¬ (¬ v4 = 3)) => False.elim (by omega))
          refine zx_T.l (i := .iload_n 2) (k := 1) (v := .int (zI (v4))) (pc := 87) rfl rfl rfl ?_
          refine zr_as (n := 14) (lo := 0) (hi := 8) (e := v4) (pc := 88) rfl rfl rfl rfl ih10 (by omega) (by omega) (by omega) (by omega) (fun h20 ih20 w21 s22 => ?_)
          refine zx_T.l (i := .iload_n 2) (k := 1) (v := .int (zI (v4))) (pc := 89) rfl rfl rfl ?_
          refine zx_T.s (i := .iconst 3) (k := 1) (st' := [.int (zI (3)), .int (zI (v4))]) (pc := 90) rfl rfl ?_
          refine zr_i2 (x := v4) (y := 3) (t := 103) (pc := 91) rfl rfl (by omega) (by omega) (by omega) (by omega) (fun (c23 : ¬ v4 = 3) => ?_) (fun (c23 : ¬ (¬ v4 = 3)) => False.elim (by omega))
          refine zx_T.l (i := .aload_n 0) (k := 1) (v := .ref 44) (pc := 103) rfl rfl rfl ?_
          refine zr_gr (k := 24) (b := 61) (pc := 104) rfl rfl rfl ih20 ?_
          refine zx_T.s (i := .iconst 0) (k := 1) (st' := [.int (zI (0)), .ref 61]) (pc := 107) rfl rfl ?_
          refine zx_T.s (i := .bipush 8) (k := 2) (st' := [.int (zI (8)), .int (zI (0)), .ref 61]) (pc := 108) rfl rfl ?_
          have a61 : ∀ j, 0 ≤ j → zv_a h20 61 j = if j = a then v4 else zv_a h 61 j := fun j hj => by rw [s22 j hj, zv_wa w11 rfl j]
          refine zr_is (cj := 158) (q' := zp_m158) (As := [.ref 61, .int (zI (0)), .int (zI (8))]) (rest := []) (pc := 110) rfl rfl rfl rfl rfl rfl (Nat.le_of_ble_eq_true rfl) rfl (Nat.le_of_ble_eq_true rfl) rfl ((zm_whole_61 (h := h20) ih20 (f := 0) (m := 8) (by omega) (by omega) (by omega)).up (Nat.le_of_ble_eq_true rfl)) ?_
          rintro r25 h28 ⟨ih28, w29, r25q, x27⟩
          subst r25q
          try dsimp only at x27
          have wj1 := x27
          show zx_T zp_P 2 zp_m166 113 [(2, .int (zI (v4))), (0, .ref 44), (1, .int (zI (a)))] [] h28 _
          have y30 : zv_i h28 25 = zv_i h 25 - 1 := ((zv_wi w29 rfl).trans ((zv_wi w21 rfl).trans e12))
          have y31 : zv_i h28 26 = zv_i h 26 := ((zv_wi w29 rfl).trans ((zv_wi w21 rfl).trans (zv_wi w11 rfl)))
          exact zr_vr (pc := 113) rfl rfl ⟨ih28, (((w11.wd rfl : zb_W [(44, 25), (44, 26), (61, 0)] h _).tr (w21.wd rfl)).tr (w29.wd rfl)), rfl, by dsimp only; exact ⟨by first | omega | (have b8 := wj1 8 (by omega); first | omega | (have b9 := a61 8 (by omega); first | omega | (split at b9 <;> first | omega | (split at b9 <;> first | omega | (split at b9 <;> first | omega | omega))))), fun h0 => ⟨by omega, by omega, by omega, by omega, fun i hi j hj => by first | omega | (subst hi; have b8 := wj1 j hj; first | omega | (have b9 := a61 j hj; first | omega | (split at b9 <;> first | omega | (split at b9 <;> first | omega | (split at b9 <;> first | omega | omega)))))⟩⟩⟩
        · refine zx_T.l (i := .aload_n 0) (k := 1) (v := .ref 44) (pc := 67) rfl rfl rfl ?_
          refine zx_T.s (i := .iconst 4) (k := 1) (st' := [.int (zI (4)), .ref 44]) (pc := 68) rfl rfl ?_
          refine zr_iv (cj := 159) (q' := zp_m159) (As := [.int (zI (4))]) (rest := []) (pc := 69) rfl rfl rfl rfl rfl rfl (Nat.le_of_ble_eq_true rfl) rfl (Nat.le_of_ble_eq_true rfl) ih10 ((zm_fails (h := h10) ih10 (w := 4) (by omega) (by omega)).up (Nat.le_of_ble_eq_true rfl)) ?_
          rintro r33 h36 ⟨ih36, w37, r33q, x35⟩
          subst r33q
          try dsimp only at x35
          show zx_T zp_P 2 zp_m166 72 [(2, .int (zI (v4))), (0, .ref 44), (1, .int (zI (a)))] [] h36 _
          have y38 : zv_i h36 25 = zv_i h 25 - 1 := ((zv_wi w37 rfl).trans e12)
          have y40 : zv_a h36 61 8 = zv_a h 61 8 := ((zv_wa w37 rfl 8).trans (zv_wa w11 rfl 8))
          exact zr_vr (pc := 72) rfl rfl ⟨ih36, ((w11.wd rfl : zb_W [(44, 25), (44, 26), (61, 0)] h _).tr (w37.wd rfl)), rfl, by dsimp only; exact ⟨by first | omega | (have b8 := wj1 8 (by omega); first | omega | (have b9 := a61 8 (by omega); first | omega | (split at b9 <;> first | omega | (split at b9 <;> first | omega | (split at b9 <;> first | omega | omega))))), fun h0 => ⟨by omega, by omega, by omega, by omega, fun i hi j hj => by first | omega | (subst hi; have b8 := wj1 j hj; first | omega | (have b9 := a61 j hj; first | omega | (split at b9 <;> first | omega | (split at b9 <;> first | omega | (split at b9 <;> first | omega | omega)))))⟩⟩⟩
      · refine zx_T.s (i := .iconst 2) (k := 1) (st' := [.int (zI (2)), .int (zI (zv_i h 25)), .ref 44]) (pc := 38) rfl rfl ?_
        refine zx_T.j (i := .goto 4) (k := 3) (pc' := 43) (st' := [.int (zI (2)), .int (zI (zv_i h 25)), .ref 44]) (pc := 39) rfl rfl rfl rfl rfl ?_
        refine zr_sub (x := zv_i h 25) (y := 2) (e := zv_i h 25 - 2) (pc := 43) rfl (by omega) ?_
        refine zr_pi (k := 25) (lo := 0) (hi := 6) (e := zv_i h 25 - 2) (pc := 44) rfl rfl rfl rfl rfl rfl hI (by omega) (by omega) (fun h41 ih41 w42 e43 => ?_)
        refine zx_T.l (i := .iload_n 1) (k := 1) (v := .int (zI (a))) (pc := 47) rfl rfl rfl ?_
        refine zx_T.s (i := .iconst 0) (k := 1) (st' := [.int (zI (0)), .int (zI (a))]) (pc := 48) rfl rfl ?_
        refine zx_T.l (i := .iload_n 2) (k := 1) (v := .int (zI (v4))) (pc := 49) rfl rfl rfl ?_
        refine zx_T.s (i := .iconst 3) (k := 1) (st' := [.int (zI (3)), .int (zI (v4)), .int (zI (0)), .int (zI (a))]) (pc := 50) rfl rfl ?_
        refine zr_i2 (x := v4) (y := 3) (t := 59) (pc := 51) rfl rfl (by omega) (by omega) (by omega) (by omega) (fun (c44 : ¬ v4 = 3) => False.elim (by omega)) (fun (c44 : ¬ (¬ v4 = 3)) => ?_)
        refine zx_T.s (i := .bipush 6) (k := 2) (st' := [.int (zI (6)), .int (zI (0)), .int (zI (a))]) (pc := 54) rfl rfl ?_
        refine zx_T.j (i := .goto 5) (k := 3) (pc' := 61) (st' := [.int (zI (6)), .int (zI (0)), .int (zI (a))]) (pc := 56) rfl rfl rfl rfl rfl ?_
        refine zr_is (cj := 155) (q' := zp_m155) (As := [.int (zI (a)), .int (zI (0)), .int (zI (6))]) (rest := []) (pc := 61) rfl rfl rfl rfl rfl rfl (Nat.le_of_ble_eq_true rfl) rfl (Nat.le_of_ble_eq_true rfl) rfl ((zm_in (h := h41) ih41 (v := a) (l := 0) (u := 6) (by omega) (by omega) (by omega) (by omega) (by omega) (by omega)).up (Nat.le_of_ble_eq_true rfl)) ?_
        rintro r45 h48 ⟨h48q, v46, r45q, x47⟩
        subst h48q r45q
        try dsimp only at x47
        show zx_T zp_P 2 zp_m166 64 [(2, .int (zI (v4))), (0, .ref 44), (1, .int (zI (a)))] [.int (zI (v46))] h41 _
        refine zr_i1 (x := v46) (t := 73) (pc := 64) rfl rfl (by omega) (by omega) (fun (c49 : ¬ v46 = 0) => ?_) (fun (c49 : ¬ (¬ v46 = 0)) => ?_)
        · refine zx_T.l (i := .aload_n 0) (k := 1) (v := .ref 44) (pc := 73) rfl rfl rfl ?_
          refine zr_gr (k := 24) (b := 61) (pc := 74) rfl rfl rfl ih41 ?_
          refine zx_T.l (i := .iload_n 1) (k := 1) (v := .int (zI (a))) (pc := 77) rfl rfl rfl ?_
          refine zx_T.l (i := .iload_n 2) (k := 1) (v := .int (zI (v4))) (pc := 78) rfl rfl rfl ?_
          refine zx_T.s (i := .iconst 3) (k := 1) (st' := [.int (zI (3)), .int (zI (v4)), .int (zI (a)), .ref 61]) (pc := 79) rfl rfl ?_
          refine zr_i2 (x := v4) (y := 3) (t := 87) (pc := 80) rfl rfl (by omega) (by omega) (by omega) (by omega) (fun (c50 : ¬ v4 = 3) => False.elim (by omega)) (fun (c50 : ¬ (¬ v4 = 3)) => ?_)
          refine zx_T.s (i := .iconst 2) (k := 1) (st' := [.int (zI (2)), .int (zI (a)), .ref 61]) (pc := 83) rfl rfl ?_
          refine zx_T.j (i := .goto 4) (k := 3) (pc' := 88) (st' := [.int (zI (2)), .int (zI (a)), .ref 61]) (pc := 84) rfl rfl rfl rfl rfl ?_
          refine zr_as (n := 14) (lo := 0) (hi := 8) (e := 2) (pc := 88) rfl rfl rfl rfl ih41 (by omega) (by omega) (by omega) (by omega) (fun h51 ih51 w52 s53 => ?_)
          refine zx_T.l (i := .iload_n 2) (k := 1) (v := .int (zI (v4))) (pc := 89) rfl rfl rfl ?_
          refine zx_T.s (i := .iconst 3) (k := 1) (st' := [.int (zI (3)), .int (zI (v4))]) (pc := 90) rfl rfl ?_
          refine zr_i2 (x := v4) (y := 3) (t := 103) (pc := 91) rfl rfl (by omega) (by omega) (by omega) (by omega) (fun (c54 : ¬ v4 = 3) => False.elim (by omega)) (fun (c54 : ¬ (¬ v4 = 3)) => ?_)
          refine zx_T.l (i := .aload_n 0) (k := 1) (v := .ref 44) (pc := 94) rfl rfl rfl ?_
          refine zr_gr (k := 24) (b := 61) (pc := 95) rfl rfl rfl ih51 ?_
          refine zx_T.l (i := .iload_n 1) (k := 1) (v := .int (zI (a))) (pc := 98) rfl rfl rfl ?_
          refine zx_T.s (i := .iconst 1) (k := 1) (st' := [.int (zI (1)), .int (zI (a)), .ref 61]) (pc := 99) rfl rfl ?_
          refine zr_add (x := a) (y := 1) (e := a + 1) (pc := 100) rfl (by omega) ?_
          refine zx_T.s (i := .iconst 3) (k := 1) (st' := [.int (zI (3)), .int (zI (a + 1)), .ref 61]) (pc := 101) rfl rfl ?_
          refine zr_as (n := 14) (lo := 0) (hi := 8) (e := 3) (pc := 102) rfl rfl rfl rfl ih51 (by omega) (by omega) (by omega) (by omega) (fun h55 ih55 w56 s57 => ?_)
          refine zx_T.l (i := .aload_n 0) (k := 1) (v := .ref 44) (pc := 103) rfl rfl rfl ?_
          refine zr_gr (k := 24) (b := 61) (pc := 104) rfl rfl rfl ih55 ?_
          refine zx_T.s (i := .iconst 0) (k := 1) (st' := [.int (zI (0)), .ref 61]) (pc := 107) rfl rfl ?_
          refine zx_T.s (i := .bipush 8) (k := 2) (st' := [.int (zI (8)), .int (zI (0)), .ref 61]) (pc := 108) rfl rfl ?_
          have a61 : ∀ j, 0 ≤ j → zv_a h55 61 j = if j = a + 1 then 3 else if j = a then 2 else zv_a h 61 j := fun j hj => by rw [s57 j hj, s53 j hj, zv_wa w42 rfl j]
          refine zr_is (cj := 158) (q' := zp_m158) (As := [.ref 61, .int (zI (0)), .int (zI (8))]) (rest := []) (pc := 110) rfl rfl rfl rfl rfl rfl (Nat.le_of_ble_eq_true rfl) rfl (Nat.le_of_ble_eq_true rfl) rfl ((zm_whole_61 (h := h55) ih55 (f := 0) (m := 8) (by omega) (by omega) (by omega)).up (Nat.le_of_ble_eq_true rfl)) ?_
          rintro r59 h62 ⟨ih62, w63, r59q, x61⟩
          subst r59q
          try dsimp only at x61
          have wj1 := x61
          show zx_T zp_P 2 zp_m166 113 [(2, .int (zI (v4))), (0, .ref 44), (1, .int (zI (a)))] [] h62 _
          have y64 : zv_i h62 25 = zv_i h 25 - 2 := ((zv_wi w63 rfl).trans ((zv_wi w56 rfl).trans ((zv_wi w52 rfl).trans e43)))
          have y65 : zv_i h62 26 = zv_i h 26 := ((zv_wi w63 rfl).trans ((zv_wi w56 rfl).trans ((zv_wi w52 rfl).trans (zv_wi w42 rfl))))
          exact zr_vr (pc := 113) rfl rfl ⟨ih62, ((((w42.wd rfl : zb_W [(44, 25), (44, 26), (61, 0)] h _).tr (w52.wd rfl)).tr (w56.wd rfl)).tr (w63.wd rfl)), rfl, by dsimp only; exact ⟨by first | omega | (have b8 := wj1 8 (by omega); first | omega | (have b9 := a61 8 (by omega); first | omega | (split at b9 <;> first | omega | (split at b9 <;> first | omega | (split at b9 <;> first | omega | omega))))), fun h0 => ⟨by omega, by omega, by omega, by omega, fun i hi j hj => by first | omega | (subst hi; have b8 := wj1 j hj; first | omega | (have b9 := a61 j hj; first | omega | (split at b9 <;> first | omega | (split at b9 <;> first | omega | (split at b9 <;> first | omega | omega)))))⟩⟩⟩
        · refine zx_T.l (i := .aload_n 0) (k := 1) (v := .ref 44) (pc := 67) rfl rfl rfl ?_
          refine zx_T.s (i := .iconst 4) (k := 1) (st' := [.int (zI (4)), .ref 44]) (pc := 68) rfl rfl ?_
          refine zr_iv (cj := 159) (q' := zp_m159) (As := [.int (zI (4))]) (rest := []) (pc := 69) rfl rfl rfl rfl rfl rfl (Nat.le_of_ble_eq_true rfl) rfl (Nat.le_of_ble_eq_true rfl) ih41 ((zm_fails (h := h41) ih41 (w := 4) (by omega) (by omega)).up (Nat.le_of_ble_eq_true rfl)) ?_
          rintro r67 h70 ⟨ih70, w71, r67q, x69⟩
          subst r67q
          try dsimp only at x69
          show zx_T zp_P 2 zp_m166 72 [(2, .int (zI (v4))), (0, .ref 44), (1, .int (zI (a)))] [] h70 _
          have y72 : zv_i h70 25 = zv_i h 25 - 2 := ((zv_wi w71 rfl).trans e43)
          have y74 : zv_a h70 61 8 = zv_a h 61 8 := ((zv_wa w71 rfl 8).trans (zv_wa w42 rfl 8))
          exact zr_vr (pc := 72) rfl rfl ⟨ih70, ((w42.wd rfl : zb_W [(44, 25), (44, 26), (61, 0)] h _).tr (w71.wd rfl)), rfl, by dsimp only; exact ⟨by first | omega | (have b8 := wj1 8 (by omega); first | omega | (have b9 := a61 8 (by omega); first | omega | (split at b9 <;> first | omega | (split at b9 <;> first | omega | (split at b9 <;> first | omega | omega))))), fun h0 => ⟨by omega, by omega, by omega, by omega, fun i hi j hj => by first | omega | (subst hi; have b8 := wj1 j hj; first | omega | (have b9 := a61 j hj; first | omega | (split at b9 <;> first | omega | (split at b9 <;> first | omega | (split at b9 <;> first | omega | omega)))))⟩⟩⟩
    · refine zx_T.l (i := .aload_n 0) (k := 1) (v := .ref 44) (pc := 22) rfl rfl rfl ?_
      refine zx_T.s (i := .iconst 1) (k := 1) (st' := [.int (zI (1)), .ref 44]) (pc := 23) rfl rfl ?_
      refine zr_iv (cj := 159) (q' := zp_m159) (As := [.int (zI (1))]) (rest := []) (pc := 24) rfl rfl rfl rfl rfl rfl (Nat.le_of_ble_eq_true rfl) rfl (Nat.le_of_ble_eq_true rfl) hI ((zm_fails (h := h) hI (w := 1) (by omega) (by omega)).up (Nat.le_of_ble_eq_true rfl)) ?_
      rintro r75 h78 ⟨ih78, w79, r75q, x77⟩
      subst r75q
      try dsimp only at x77
      show zx_T zp_P 2 zp_m166 27 [(2, .int (zI (v4))), (0, .ref 44), (1, .int (zI (a)))] [] h78 _
      have y80 : zv_i h78 25 = zv_i h 25 := (zv_wi w79 rfl)
      have y82 : zv_a h78 61 8 = zv_a h 61 8 := (zv_wa w79 rfl 8)
      exact zr_vr (pc := 27) rfl rfl ⟨ih78, (w79.wd rfl : zb_W [(44, 25), (44, 26), (61, 0)] h _), rfl, by dsimp only; exact ⟨by first | omega | (have b8 := wj1 8 (by omega); first | omega | (have b9 := a61 8 (by omega); first | omega | (split at b9 <;> first | omega | (split at b9 <;> first | omega | (split at b9 <;> first | omega | omega))))), fun h0 => ⟨by omega, by omega, by omega, by omega, fun i hi j hj => by first | omega | (subst hi; have b8 := wj1 j hj; first | omega | (have b9 := a61 j hj; first | omega | (split at b9 <;> first | omega | (split at b9 <;> first | omega | (split at b9 <;> first | omega | omega)))))⟩⟩⟩
  · refine zx_T.l (i := .aload_n 0) (k := 1) (v := .ref 44) (pc := 7) rfl rfl rfl ?_
    refine zx_T.s (i := .iconst 2) (k := 1) (st' := [.int (zI (2)), .ref 44]) (pc := 8) rfl rfl ?_
    refine zr_iv (cj := 159) (q' := zp_m159) (As := [.int (zI (2))]) (rest := []) (pc := 9) rfl rfl rfl rfl rfl rfl (Nat.le_of_ble_eq_true rfl) rfl (Nat.le_of_ble_eq_true rfl) hI ((zm_fails (h := h) hI (w := 2) (by omega) (by omega)).up (Nat.le_of_ble_eq_true rfl)) ?_
    rintro r83 h86 ⟨ih86, w87, r83q, x85⟩
    subst r83q
    try dsimp only at x85
    show zx_T zp_P 2 zp_m166 12 [(0, .ref 44), (1, .int (zI (a)))] [] h86 _
    have y88 : zv_i h86 25 = zv_i h 25 := (zv_wi w87 rfl)
    have y90 : zv_a h86 61 8 = zv_a h 61 8 := (zv_wa w87 rfl 8)
    exact zr_vr (pc := 12) rfl rfl ⟨ih86, (w87.wd rfl : zb_W [(44, 25), (44, 26), (61, 0)] h _), rfl, by dsimp only; exact ⟨by first | omega | (have b8 := wj1 8 (by omega); first | omega | (have b9 := a61 8 (by omega); first | omega | (split at b9 <;> first | omega | (split at b9 <;> first | omega | (split at b9 <;> first | omega | omega))))), fun h0 => ⟨by omega, by omega, by omega, by omega, fun i hi j hj => by first | omega | (subst hi; have b8 := wj1 j hj; first | omega | (have b9 := a61 j hj; first | omega | (split at b9 <;> first | omega | (split at b9 <;> first | omega | (split at b9 <;> first | omega | omega)))))⟩⟩⟩
