/-! ===== 59: the reference, method by method (by program) ===== -/
theorem zg_fax {h : zx_H} {e p : Int} (a : (e = (-1) ∧ ∀ j, 0 ≤ j → j < zv_i h 19 → ¬ zv_a h 57 j = p) ∨ (0 ≤ e ∧ e < zv_i h 19 ∧ zv_a h 57 e = p ∧ ∀ j, 0 ≤ j → j < e → ¬ zv_a h 57 j = p)) (b : zg_fa h p) : 0 ≤ e ∧ e < zv_i h 19 := by
  obtain ⟨f, f0, f1, f2⟩ := b
  rcases a with a | a
  · exact absurd f2 (a.2 f f0 f1)
  · exact ⟨a.1, a.2.1⟩

set_option maxRecDepth 100000 in
set_option maxHeartbeats 4000000 in
theorem zm_isRight_L {h : zx_H} (hI : zb_I zc_H h) {p : Int} (p1 : 0 ≤ p) (p2 : p ≤ 59) (n8 : ¬ zv_a h 61 8 = 3) (hc : zg_CI h) (c1 : zg_C1 h p) (n : Nat) : (∀ {t : Int} (t1 : 0 ≤ t) (t2 : t ≤ zv_i h 5), (1000 - t : Int).toNat < n → zx_T zp_P 4 zp_m185 2 [(0, .ref 44), (1, .int (zI (p))), (2, .int (zI (t)))] [] h (zr_R [(44, 25), (44, 26), (61, 0)] h (fun e h' => 0 ≤ e ∧ e ≤ 1 ∧ ¬ zv_a h' 61 8 = 3))) ∧ (∀ {h2 : zx_H} {k : Int} (hI2 : zb_I zc_H h2) (k1 : 0 ≤ k) (k2 : k ≤ 2) (hw : zb_W [(44, 25), (44, 26), (61, 0)] h h2) (n82 : ¬ zv_a h2 61 8 = 3), (10 - k : Int).toNat < n → zx_T zp_P 4 zp_m185 96 [(0, .ref 44), (1, .int (zI (p))), (2, .int (zI (k)))] [] h2 (zr_R [(44, 25), (44, 26), (61, 0)] h (fun e h' => 0 ≤ e ∧ e ≤ 1 ∧ ¬ zv_a h' 61 8 = 3))) := by
  induction n with
  | zero => exact ⟨fun _ _ hm => absurd hm (Nat.not_lt_zero _), fun _ _ _ _ _ hm => absurd hm (Nat.not_lt_zero _)⟩
  | succ n ih =>
    refine ⟨?_, ?_⟩
    · intro t t1 t2 hm
      have hH := zv_ri hI (k := 5) rfl
      have hF := zv_ri hI (k := 19) rfl
      refine zx_T.l (i := .iload_n 2) (k := 1) (v := .int (zI (t))) (pc := 2) rfl rfl rfl ?_
      refine zx_T.l (i := .aload_n 0) (k := 1) (v := .ref 44) (pc := 3) rfl rfl rfl ?_
      refine zr_gi (k := 5) (lo := 0) (hi := 6) (e := zv_i h 5) (pc := 4) rfl rfl rfl hI rfl (fun g1a g1b => ?_)
      refine zr_i2 (x := t) (y := zv_i h 5) (t := 84) (pc := 7) rfl rfl (by omega) (by omega) (by omega) (by omega) (fun (c2 : (zv_i h 5) ≤ t) => ?_) (fun (c2 : ¬ ((zv_i h 5) ≤ t)) => ?_)
      · refine zx_T.l (i := .aload_n 0) (k := 1) (v := .ref 44) (pc := 84) rfl rfl rfl ?_
        refine zx_T.l (i := .iload_n 1) (k := 1) (v := .int (zI (p))) (pc := 85) rfl rfl rfl ?_
        refine zr_iv (cj := 167) (q' := zp_m167) (As := [.int (zI (p))]) (rest := []) (pc := 86) rfl rfl rfl rfl rfl rfl (Nat.le_of_ble_eq_true rfl) rfl (Nat.le_of_ble_eq_true rfl) hI ((zm_does (h := h) hI (p := p) (by omega) (by omega) (by omega) (hc p (by omega) (by omega))).up (Nat.le_of_ble_eq_true rfl)) ?_
        rintro r4 h7 ⟨ih7, w8, v5, r4q, x6⟩
        subst r4q
        try dsimp only at x6
        show zx_T zp_P 4 zp_m185 89 [(0, .ref 44), (1, .int (zI (p))), (2, .int (zI (t)))] [.int (zI (v5))] h7 _
        refine zr_i1 (x := v5) (t := 94) (pc := 89) rfl rfl (by omega) (by omega) (fun (c9 : v5 = 0) => ?_) (fun (c9 : ¬ (v5 = 0)) => ?_)
        · refine zx_T.s (i := .iconst 0) (k := 1) (st' := [.int (zI (0))]) (pc := 94) rfl rfl ?_
          refine zx_T.t (i := .istore_n 2) (k := 1) (ls' := [(2, .int (zI (0))), (0, .ref 44), (1, .int (zI (p)))]) (st' := []) (pc := 95) rfl rfl rfl rfl ?_
          refine zx_T.lk (ls' := [(0, .ref 44), (1, .int (zI (p))), (2, .int (zI (0)))]) rfl ⟨rfl, rfl, rfl, trivial⟩ ?_
          exact ih.2 (h2 := h7) (k := 0) ih7 (by omega) (by omega) (w8.wd rfl : zb_W [(44, 25), (44, 26), (61, 0)] h _) (by omega) (by omega)
        · refine zx_T.s (i := .iconst 0) (k := 1) (st' := [.int (zI (0))]) (pc := 92) rfl rfl ?_
          exact zr_ir (x := 0) (pc := 93) rfl rfl (zr_nb (by omega) (by omega)) ⟨ih7, (w8.wd rfl : zb_W [(44, 25), (44, 26), (61, 0)] h _), _, rfl, by dsimp only; exact ⟨by omega, by omega, by omega⟩⟩
      · refine zx_T.l (i := .aload_n 0) (k := 1) (v := .ref 44) (pc := 10) rfl rfl rfl ?_
        refine zx_T.l (i := .iload_n 2) (k := 1) (v := .int (zI (t))) (pc := 11) rfl rfl rfl ?_
        refine zx_T.l (i := .iload_n 1) (k := 1) (v := .int (zI (p))) (pc := 12) rfl rfl rfl ?_
        refine zr_iv (cj := 171) (q' := zp_m171) (As := [.int (zI (t)), .int (zI (p))]) (rest := []) (pc := 13) rfl rfl rfl rfl rfl rfl (Nat.le_of_ble_eq_true rfl) rfl (Nat.le_of_ble_eq_true rfl) hI ((zm_has (h := h) hI (t := t) (p := p) (by omega) (by omega) (by omega) (by omega)).up (Nat.le_of_ble_eq_true rfl)) ?_
        rintro r11 h14 ⟨h14q, v12, r11q, x13⟩
        subst h14q r11q
        try dsimp only at x13
        show zx_T zp_P 4 zp_m185 16 [(0, .ref 44), (1, .int (zI (p))), (2, .int (zI (t)))] [.int (zI (v12))] h _
        refine zr_i1 (x := v12) (t := 78) (pc := 16) rfl rfl (by omega) (by omega) (fun (c15 : v12 = 0) => ?_) (fun (c15 : ¬ (v12 = 0)) => ?_)
        · refine zr_inc (x := t) (n := 1) (y := t + 1) (ls' := [(2, .int (zI (t + 1))), (0, .ref 44), (1, .int (zI (p)))]) (pc := 78) rfl rfl rfl (by omega) rfl ?_
          refine zx_T.j (i := .goto (-79)) (k := 3) (pc' := 2) (st' := []) (pc := 81) rfl rfl rfl rfl rfl ?_
          refine zx_T.lk (ls' := [(0, .ref 44), (1, .int (zI (p))), (2, .int (zI (t + 1)))]) rfl ⟨rfl, rfl, rfl, trivial⟩ ?_
          exact ih.1 (t := t + 1) (by omega) (by omega) (by omega)
        · refine zx_T.l (i := .aload_n 0) (k := 1) (v := .ref 44) (pc := 19) rfl rfl rfl ?_
          refine zx_T.l (i := .aload_n 0) (k := 1) (v := .ref 44) (pc := 20) rfl rfl rfl ?_
          refine zr_gr (k := 8) (b := 50) (pc := 21) rfl rfl rfl hI ?_
          refine zx_T.l (i := .iload_n 2) (k := 1) (v := .int (zI (t))) (pc := 24) rfl rfl rfl ?_
          refine zr_al (n := 6) (lo := 0) (hi := 60) (e := zv_a h 50 t) (pc := 25) rfl rfl rfl hI (by omega) (by omega) rfl (fun g16a g16b => ?_)
          refine zr_iv (cj := 179) (q' := zp_m179) (As := [.int (zI (zv_a h 50 t))]) (rest := []) (pc := 26) rfl rfl rfl rfl rfl rfl (Nat.le_of_ble_eq_true rfl) rfl (Nat.le_of_ble_eq_true rfl) hI ((zm_frameAt (h := h) hI (p := zv_a h 50 t) (by omega) (by omega)).up (Nat.le_of_ble_eq_true rfl)) ?_
          rintro r18 h21 ⟨h21q, v19, r18q, x20⟩
          subst h21q r18q
          try dsimp only at x20
          have fav19 := x20
          have f0 := zg_fax x20 (c1.1 t (by omega) (by omega) (by omega) (by omega))
          show zx_T zp_P 4 zp_m185 29 [(0, .ref 44), (1, .int (zI (p))), (2, .int (zI (t)))] [.int (zI (v19))] h _
          refine zx_T.t (i := .istore_n 3) (k := 1) (ls' := [(3, .int (zI (v19))), (0, .ref 44), (1, .int (zI (p))), (2, .int (zI (t)))]) (st' := []) (pc := 29) rfl rfl rfl rfl ?_
          refine zx_T.l (i := .aload_n 0) (k := 1) (v := .ref 44) (pc := 30) rfl rfl rfl ?_
          refine zx_T.l (i := .iload_n 3) (k := 1) (v := .int (zI (v19))) (pc := 31) rfl rfl rfl ?_
          refine zr_iv (cj := 182) (q' := zp_m182) (As := [.int (zI (v19))]) (rest := []) (pc := 32) rfl rfl rfl rfl rfl rfl (Nat.le_of_ble_eq_true rfl) rfl (Nat.le_of_ble_eq_true rfl) hI ((zm_localsGo (h := h) hI (f := v19) (by omega) (by omega)).up (Nat.le_of_ble_eq_true rfl)) ?_
          rintro r22 h25 ⟨h25q, v23, r22q, x24⟩
          subst h25q r22q
          try dsimp only at x24
          show zx_T zp_P 4 zp_m185 35 [(3, .int (zI (v19))), (0, .ref 44), (1, .int (zI (p))), (2, .int (zI (t)))] [.int (zI (v23))] h _
          refine zr_i1 (x := v23) (t := 76) (pc := 35) rfl rfl (by omega) (by omega) (fun (c26 : v23 = 0) => ?_) (fun (c26 : ¬ (v23 = 0)) => ?_)
          · refine zx_T.s (i := .iconst 0) (k := 1) (st' := [.int (zI (0))]) (pc := 76) rfl rfl ?_
            exact zr_ir (x := 0) (pc := 77) rfl rfl (zr_nb (by omega) (by omega)) ⟨hI, zb_W.rf, _, rfl, by dsimp only; exact ⟨by omega, by omega, by omega⟩⟩
          · refine zx_T.l (i := .aload_n 0) (k := 1) (v := .ref 44) (pc := 38) rfl rfl rfl ?_
            refine zr_gr (k := 22) (b := 59) (pc := 39) rfl rfl rfl hI ?_
            refine zx_T.l (i := .iload_n 3) (k := 1) (v := .int (zI (v19))) (pc := 42) rfl rfl rfl ?_
            refine zr_al (n := 60) (lo := 0) (hi := 6) (e := zv_a h 59 v19) (pc := 43) rfl rfl rfl hI (by omega) (by omega) rfl (fun g28a g28b => ?_)
            refine zx_T.s (i := .iconst 1) (k := 1) (st' := [.int (zI (1)), .int (zI (zv_a h 59 v19))]) (pc := 44) rfl rfl ?_
            refine zr_i2 (x := zv_a h 59 v19) (y := 1) (t := 76) (pc := 45) rfl rfl (by omega) (by omega) (by omega) (by omega) (fun (c29 : ¬ (zv_a h 59 v19) = 1) => ?_) (fun (c29 : ¬ (¬ (zv_a h 59 v19) = 1)) => ?_)
            · refine zx_T.s (i := .iconst 0) (k := 1) (st' := [.int (zI (0))]) (pc := 76) rfl rfl ?_
              exact zr_ir (x := 0) (pc := 77) rfl rfl (zr_nb (by omega) (by omega)) ⟨hI, zb_W.rf, _, rfl, by dsimp only; exact ⟨by omega, by omega, by omega⟩⟩
            · refine zx_T.l (i := .aload_n 0) (k := 1) (v := .ref 44) (pc := 48) rfl rfl rfl ?_
              refine zr_gr (k := 9) (b := 51) (pc := 49) rfl rfl rfl hI ?_
              refine zx_T.l (i := .iload_n 2) (k := 1) (v := .int (zI (t))) (pc := 52) rfl rfl rfl ?_
              refine zr_al (n := 6) (lo := 0) (hi := 8) (e := zv_a h 51 t) (pc := 53) rfl rfl rfl hI (by omega) (by omega) rfl (fun g31a g31b => ?_)
              refine zx_T.l (i := .aload_n 0) (k := 1) (v := .ref 44) (pc := 54) rfl rfl rfl ?_
              refine zr_gr (k := 23) (b := 60) (pc := 55) rfl rfl rfl hI ?_
              refine zx_T.s (i := .bipush 14) (k := 2) (st' := [.int (zI (14)), .ref 60, .int (zI (zv_a h 51 t))]) (pc := 58) rfl rfl ?_
              refine zx_T.l (i := .iload_n 3) (k := 1) (v := .int (zI (v19))) (pc := 60) rfl rfl rfl ?_
              refine zr_mul (x := 14) (y := v19) (e := 14 * v19) (pc := 61) rfl (by omega) ?_
              refine zx_T.l (i := .aload_n 0) (k := 1) (v := .ref 44) (pc := 62) rfl rfl rfl ?_
              refine zr_gr (k := 21) (b := 58) (pc := 63) rfl rfl rfl hI ?_
              refine zx_T.l (i := .iload_n 3) (k := 1) (v := .int (zI (v19))) (pc := 66) rfl rfl rfl ?_
              refine zr_al (n := 60) (lo := 0) (hi := 8) (e := zv_a h 58 v19) (pc := 67) rfl rfl rfl hI (by omega) (by omega) rfl (fun g32a g32b => ?_)
              refine zr_add (x := 14 * v19) (y := zv_a h 58 v19) (e := 14 * v19 + zv_a h 58 v19) (pc := 68) rfl (by omega) ?_
              refine zr_al (n := 840) (lo := 0) (hi := 8) (e := zv_a h 60 (14 * v19 + zv_a h 58 v19)) (pc := 69) rfl rfl rfl hI (by omega) (by omega) rfl (fun g33a g33b => ?_)
              refine zr_is (cj := 156) (q' := zp_m156) (As := [.int (zI (zv_a h 51 t)), .int (zI (zv_a h 60 (14 * v19 + zv_a h 58 v19)))]) (rest := []) (pc := 70) rfl rfl rfl rfl rfl rfl (Nat.le_of_ble_eq_true rfl) rfl (Nat.le_of_ble_eq_true rfl) rfl ((zm_goesAs (h := h) hI (a := zv_a h 51 t) (b := zv_a h 60 (14 * v19 + zv_a h 58 v19)) (by omega) (by omega) (by omega) (by omega)).up (Nat.le_of_ble_eq_true rfl)) ?_
              rintro r34 h37 ⟨h37q, v35, r34q, x36⟩
              subst h37q r34q
              try dsimp only at x36
              show zx_T zp_P 4 zp_m185 73 [(3, .int (zI (v19))), (0, .ref 44), (1, .int (zI (p))), (2, .int (zI (t)))] [.int (zI (v35))] h _
              refine zr_i1 (x := v35) (t := 78) (pc := 73) rfl rfl (by omega) (by omega) (fun (c38 : ¬ v35 = 0) => ?_) (fun (c38 : ¬ (¬ v35 = 0)) => ?_)
              · refine zr_inc (x := t) (n := 1) (y := t + 1) (ls' := [(2, .int (zI (t + 1))), (3, .int (zI (v19))), (0, .ref 44), (1, .int (zI (p)))]) (pc := 78) rfl rfl rfl (by omega) rfl ?_
                refine zx_T.j (i := .goto (-79)) (k := 3) (pc' := 2) (st' := []) (pc := 81) rfl rfl rfl rfl rfl ?_
                refine zx_T.lk (ls' := [(0, .ref 44), (1, .int (zI (p))), (2, .int (zI (t + 1)))]) rfl ⟨rfl, rfl, rfl, trivial⟩ ?_
                exact ih.1 (t := t + 1) (by omega) (by omega) (by omega)
              · refine zx_T.s (i := .iconst 0) (k := 1) (st' := [.int (zI (0))]) (pc := 76) rfl rfl ?_
                exact zr_ir (x := 0) (pc := 77) rfl rfl (zr_nb (by omega) (by omega)) ⟨hI, zb_W.rf, _, rfl, by dsimp only; exact ⟨by omega, by omega, by omega⟩⟩
    · intro h2 k hI2 k1 k2 hw n82 hm
      have hH := zv_ri hI (k := 5) rfl
      have hF := zv_ri hI (k := 19) rfl
      refine zx_T.l (i := .iload_n 2) (k := 1) (v := .int (zI (k))) (pc := 96) rfl rfl rfl ?_
      refine zx_T.l (i := .aload_n 0) (k := 1) (v := .ref 44) (pc := 97) rfl rfl rfl ?_
      refine zx_T.l (i := .iload_n 1) (k := 1) (v := .int (zI (p))) (pc := 98) rfl rfl rfl ?_
      refine zr_iv (cj := 170) (q' := zp_m170) (As := [.int (zI (p))]) (rest := [.int (zI (k))]) (pc := 99) rfl rfl rfl rfl rfl rfl (Nat.le_of_ble_eq_true rfl) rfl (Nat.le_of_ble_eq_true rfl) hI2 ((zm_jumps (h := h2) hI2 (p := p) (by omega) (by omega)).up (Nat.le_of_ble_eq_true rfl)) ?_
      rintro r40 h43 ⟨h43q, v41, r40q, x42⟩
      subst h43q r40q
      try dsimp only at x42
      have jj := x42
      show zx_T zp_P 4 zp_m185 102 [(0, .ref 44), (1, .int (zI (p))), (2, .int (zI (k)))] [.int (zI (v41)), .int (zI (k))] h2 _
      refine zr_i2 (x := k) (y := v41) (t := 130) (pc := 102) rfl rfl (by omega) (by omega) (by omega) (by omega) (fun (c44 : v41 ≤ k) => ?_) (fun (c44 : ¬ (v41 ≤ k)) => ?_)
      · refine zx_T.s (i := .iconst 1) (k := 1) (st' := [.int (zI (1))]) (pc := 130) rfl rfl ?_
        exact zr_ir (x := 1) (pc := 131) rfl rfl (zr_nb (by omega) (by omega)) ⟨hI2, (hw.wd rfl : zb_W [(44, 25), (44, 26), (61, 0)] h _), _, rfl, by dsimp only; exact ⟨by omega, by omega, by omega⟩⟩
      · refine zx_T.l (i := .aload_n 0) (k := 1) (v := .ref 44) (pc := 105) rfl rfl rfl ?_
        refine zx_T.l (i := .aload_n 0) (k := 1) (v := .ref 44) (pc := 106) rfl rfl rfl ?_
        refine zx_T.l (i := .aload_n 0) (k := 1) (v := .ref 44) (pc := 107) rfl rfl rfl ?_
        refine zx_T.l (i := .iload_n 1) (k := 1) (v := .int (zI (p))) (pc := 108) rfl rfl rfl ?_
        refine zx_T.l (i := .iload_n 2) (k := 1) (v := .int (zI (k))) (pc := 109) rfl rfl rfl ?_
        refine zr_iv (cj := 169) (q' := zp_m169) (As := [.int (zI (p)), .int (zI (k))]) (rest := [.ref 44, .ref 44]) (pc := 110) rfl rfl rfl rfl rfl rfl (Nat.le_of_ble_eq_true rfl) rfl (Nat.le_of_ble_eq_true rfl) hI2 ((zm_jump (h := h2) hI2 (p := p) (k := k) (by omega) (by omega) (by omega) (by omega)).up (Nat.le_of_ble_eq_true rfl)) ?_
        rintro r46 h49 ⟨h49q, v47, r46q, x48⟩
        subst h49q r46q
        try dsimp only at x48
        have jw := x48
        clear x48
        have fa9 : zg_fa h2 v47 := (by have c2 := c1.w hw rfl rfl rfl; rcases (show k = 0 ∨ k = 1 by omega) with z | z; (have o1 : 24 ≤ zv_a h2 45 p ∧ zv_a h2 45 p ≤ 27 := (by clear jw; omega); rw [jw.2.2.1 z o1.1 o1.2]; exact c2.2.1 o1.1 o1.2); (have o1 : zv_a h2 45 p = 27 := (by clear jw; omega); rw [jw.2.2.2 z o1]; exact c2.2.2 o1))
        have jb1 := jw.1
        have jb2 := jw.2.1
        clear jw
        show zx_T zp_P 4 zp_m185 113 [(0, .ref 44), (1, .int (zI (p))), (2, .int (zI (k)))] [.int (zI (v47)), .ref 44, .ref 44] h2 _
        have y50 : zv_i h2 19 = zv_i h 19 := (zv_wi hw rfl)
        refine zr_iv (cj := 179) (q' := zp_m179) (As := [.int (zI (v47))]) (rest := [.ref 44]) (pc := 113) rfl rfl rfl rfl rfl rfl (Nat.le_of_ble_eq_true rfl) rfl (Nat.le_of_ble_eq_true rfl) hI2 ((zm_frameAt (h := h2) hI2 (p := v47) (by omega) (by omega)).up (Nat.le_of_ble_eq_true rfl)) ?_
        rintro r51 h54 ⟨h54q, v52, r51q, x53⟩
        subst h54q r51q
        try dsimp only at x53
        have fav52 := x53
        have f0 := zg_fax x53 fa9
        have hF2 := zv_ri hI2 (k := 19) rfl
        clear x53 fav52
        show zx_T zp_P 4 zp_m185 116 [(0, .ref 44), (1, .int (zI (p))), (2, .int (zI (k)))] [.int (zI (v52)), .ref 44] h2 _
        refine zr_iv (cj := 183) (q' := zp_m183) (As := [.int (zI (v52))]) (rest := []) (pc := 116) rfl rfl rfl rfl rfl rfl (Nat.le_of_ble_eq_true rfl) rfl (Nat.le_of_ble_eq_true rfl) hI2 ((zm_goes (h := h2) hI2 (f := v52) (by omega) (by omega)).up (Nat.le_of_ble_eq_true rfl)) ?_
        rintro r55 h58 ⟨h58q, v56, r55q, x57⟩
        subst h58q r55q
        try dsimp only at x57
        show zx_T zp_P 4 zp_m185 119 [(0, .ref 44), (1, .int (zI (p))), (2, .int (zI (k)))] [.int (zI (v56))] h2 _
        refine zr_i1 (x := v56) (t := 124) (pc := 119) rfl rfl (by omega) (by omega) (fun (c59 : ¬ v56 = 0) => ?_) (fun (c59 : ¬ (¬ v56 = 0)) => ?_)
        · refine zr_inc (x := k) (n := 1) (y := k + 1) (ls' := [(2, .int (zI (k + 1))), (0, .ref 44), (1, .int (zI (p)))]) (pc := 124) rfl rfl rfl (by omega) rfl ?_
          refine zx_T.j (i := .goto (-31)) (k := 3) (pc' := 96) (st' := []) (pc := 127) rfl rfl rfl rfl rfl ?_
          refine zx_T.lk (ls' := [(0, .ref 44), (1, .int (zI (p))), (2, .int (zI (k + 1)))]) rfl ⟨rfl, rfl, rfl, trivial⟩ ?_
          exact ih.2 (h2 := h2) (k := k + 1) hI2 (by omega) (by omega) (hw.wd rfl : zb_W [(44, 25), (44, 26), (61, 0)] h _) (by omega) (by omega)
        · refine zx_T.s (i := .iconst 0) (k := 1) (st' := [.int (zI (0))]) (pc := 122) rfl rfl ?_
          exact zr_ir (x := 0) (pc := 123) rfl rfl (zr_nb (by omega) (by omega)) ⟨hI2, (hw.wd rfl : zb_W [(44, 25), (44, 26), (61, 0)] h _), _, rfl, by dsimp only; exact ⟨by omega, by omega, by omega⟩⟩
set_option maxRecDepth 100000 in
set_option maxHeartbeats 4000000 in
theorem zm_isRight {h : zx_H} (hI : zb_I zc_H h) {p : Int} (p1 : 0 ≤ p) (p2 : p ≤ 59) (n8 : ¬ zv_a h 61 8 = 3) (hc : zg_CI h) (c1 : zg_C1 h p) : zx_T zp_P 4 zp_m185 0 [(0, .ref 44), (1, .int (zI (p)))] [] h (zr_R [(44, 25), (44, 26), (61, 0)] h (fun e h' => 0 ≤ e ∧ e ≤ 1 ∧ ¬ zv_a h' 61 8 = 3)) := by
  have hH := zv_ri hI (k := 5) rfl
  have hF := zv_ri hI (k := 19) rfl
  refine zx_T.s (i := .iconst 0) (k := 1) (st' := [.int (zI (0))]) (pc := 0) rfl rfl ?_
  refine zx_T.t (i := .istore_n 2) (k := 1) (ls' := [(2, .int (zI (0))), (0, .ref 44), (1, .int (zI (p)))]) (st' := []) (pc := 1) rfl rfl rfl rfl ?_
  refine zx_T.lk (ls' := [(0, .ref 44), (1, .int (zI (p))), (2, .int (zI (0)))]) rfl ⟨rfl, rfl, rfl, trivial⟩ ?_
  exact (zm_isRight_L (h := h) hI (p := p) p1 p2 n8 hc c1 ((1000 - 0 : Int).toNat + 1)).1 (t := 0) (by omega) (by omega) (Nat.lt_succ_self _)

set_option maxRecDepth 100000 in
set_option maxHeartbeats 4000000 in
theorem zm_judge_L {h : zx_H} (hI : zb_I zc_H h)  (hc : zg_CI h) (hC : zv_i h 13 = 1 → zg_C h) (n : Nat) : (∀ {h2 : zx_H} {f : Int} (hI2 : zb_I zc_H h2) (f1 : 0 ≤ f) (f2 : f ≤ zv_i h 19) (im : zv_i h 13 = 1) (hw : zb_W [(44, 0), (44, 25), (44, 26), (61, 0)] h h2) (hs : ∀ g, 0 ≤ g → g < f → 1 ≤ zv_a h 59 g → ¬ zv_a h 60 (14 * g + zv_a h 58 g) = 3), (1000 - f : Int).toNat < n → zx_T zp_P 5 zp_m186 17 [(0, .ref 44), (1, .int (zI (f)))] [] h2 (zr_R [(44, 0), (44, 25), (44, 26), (61, 0)] h (fun e h' => True))) ∧ (∀ {h2 : zx_H} {c : Int} {p : Int} (hI2 : zb_I zc_H h2) (c1 : 0 ≤ c) (c2 : c ≤ 1) (p1 : 0 ≤ p) (p2 : p ≤ zv_i h 1) (im : zv_i h 13 = 1) (hw : zb_W [(44, 0), (44, 25), (44, 26), (61, 0)] h h2) (hs : ∀ g, 0 ≤ g → g < zv_i h 19 → 1 ≤ zv_a h 59 g → ¬ zv_a h 60 (14 * g + zv_a h 58 g) = 3) (n8 : ¬ zv_a h2 61 8 = 3), (100 - p : Int).toNat < n → zx_T zp_P 5 zp_m186 105 [(0, .ref 44), (1, .int (zI (c))), (2, .int (zI (p)))] [] h2 (zr_R [(44, 0), (44, 25), (44, 26), (61, 0)] h (fun e h' => True))) := by
  induction n with
  | zero => exact ⟨fun _ _ _ _ _ _ hm => absurd hm (Nat.not_lt_zero _), fun _ _ _ _ _ _ _ _ _ hm => absurd hm (Nat.not_lt_zero _)⟩
  | succ n ih =>
    refine ⟨?_, ?_⟩
    · intro h2 f hI2 f1 f2 im hw hs hm
      have hF := zv_ri hI (k := 19) rfl
      have hD := zv_ri hI (k := 1) rfl
      refine zx_T.l (i := .iload_n 1) (k := 1) (v := .int (zI (f))) (pc := 17) rfl rfl rfl ?_
      refine zx_T.l (i := .aload_n 0) (k := 1) (v := .ref 44) (pc := 18) rfl rfl rfl ?_
      refine zr_gi (k := 19) (lo := 0) (hi := 60) (e := zv_i h 19) (pc := 19) rfl rfl rfl hI2 (zv_wi hw rfl) (fun g1a g1b => ?_)
      refine zr_i2 (x := f) (y := zv_i h 19) (t := 88) (pc := 22) rfl rfl (by omega) (by omega) (by omega) (by omega) (fun (c2 : (zv_i h 19) ≤ f) => ?_) (fun (c2 : ¬ ((zv_i h 19) ≤ f)) => ?_)
      · refine zx_T.l (i := .aload_n 0) (k := 1) (v := .ref 44) (pc := 88) rfl rfl rfl ?_
        refine zx_T.l (i := .aload_n 0) (k := 1) (v := .ref 44) (pc := 89) rfl rfl rfl ?_
        refine zr_gr (k := 24) (b := 61) (pc := 90) rfl rfl rfl hI2 ?_
        refine zr_iv (cj := 172) (q' := zp_m172) (As := [.ref 61]) (rest := []) (pc := 93) rfl rfl rfl rfl rfl rfl (Nat.le_of_ble_eq_true rfl) rfl (Nat.le_of_ble_eq_true rfl) hI2 ((zm_begin_61 (h := h2) hI2  ).up (Nat.le_of_ble_eq_true rfl)) ?_
        rintro r3 h6 ⟨ih6, w7, r3q, x5⟩
        subst r3q
        try dsimp only at x5
        have bj := x5
        show zx_T zp_P 5 zp_m186 96 [(0, .ref 44), (1, .int (zI (f)))] [] h6 _
        refine zx_T.l (i := .aload_n 0) (k := 1) (v := .ref 44) (pc := 96) rfl rfl rfl ?_
        refine zx_T.s (i := .iconst 0) (k := 1) (st' := [.int (zI (0)), .ref 44]) (pc := 97) rfl rfl ?_
        refine zr_pi (k := 25) (lo := 0) (hi := 6) (e := 0) (pc := 98) rfl rfl rfl rfl rfl rfl ih6 (by omega) (by omega) (fun h8 ih8 w9 e10 => ?_)
        refine zx_T.s (i := .iconst 1) (k := 1) (st' := [.int (zI (1))]) (pc := 101) rfl rfl ?_
        refine zx_T.t (i := .istore_n 1) (k := 1) (ls' := [(1, .int (zI (1))), (0, .ref 44)]) (st' := []) (pc := 102) rfl rfl rfl rfl ?_
        refine zx_T.s (i := .iconst 0) (k := 1) (st' := [.int (zI (0))]) (pc := 103) rfl rfl ?_
        refine zx_T.t (i := .istore_n 2) (k := 1) (ls' := [(2, .int (zI (0))), (1, .int (zI (1))), (0, .ref 44)]) (st' := []) (pc := 104) rfl rfl rfl rfl ?_
        have y11 : zv_a h8 61 8 = zv_a h6 61 8 := (zv_wa w9 rfl 8)
        refine zx_T.lk (ls' := [(0, .ref 44), (1, .int (zI (1))), (2, .int (zI (0)))]) rfl ⟨rfl, rfl, rfl, trivial⟩ ?_
        exact ih.2 (h2 := h8) (c := 1) (p := 0) ih8 (by omega) (by omega) (by omega) (by omega) (by omega) (((hw.wd rfl : zb_W [(44, 0), (44, 25), (44, 26), (61, 0)] h _).tr (w7.wd rfl)).tr (w9.wd rfl)) (fun g g0 g1 => hs g g0 (by omega)) (by have b1 := bj 8 (by omega) (by omega); have b2 := zv_ri hI2 (k := 10) rfl; omega) (by omega)
      · refine zx_T.l (i := .aload_n 0) (k := 1) (v := .ref 44) (pc := 25) rfl rfl rfl ?_
        refine zr_gr (k := 23) (b := 60) (pc := 26) rfl rfl rfl hI2 ?_
        refine zx_T.s (i := .bipush 14) (k := 2) (st' := [.int (zI (14)), .ref 60]) (pc := 29) rfl rfl ?_
        refine zx_T.l (i := .iload_n 1) (k := 1) (v := .int (zI (f))) (pc := 31) rfl rfl rfl ?_
        refine zr_mul (x := 14) (y := f) (e := 14 * f) (pc := 32) rfl (by omega) ?_
        refine zx_T.l (i := .aload_n 0) (k := 1) (v := .ref 44) (pc := 33) rfl rfl rfl ?_
        refine zr_gr (k := 21) (b := 58) (pc := 34) rfl rfl rfl hI2 ?_
        refine zx_T.l (i := .iload_n 1) (k := 1) (v := .int (zI (f))) (pc := 37) rfl rfl rfl ?_
        refine zr_al (n := 60) (lo := 0) (hi := 8) (e := zv_a h 58 f) (pc := 38) rfl rfl rfl hI2 (by omega) (by omega) (zv_wa hw rfl f) (fun g12a g12b => ?_)
        refine zr_is (cj := 180) (q' := zp_m180) (As := [.ref 60, .int (zI (14 * f)), .int (zI (zv_a h 58 f))]) (rest := []) (pc := 39) rfl rfl rfl rfl rfl rfl (Nat.le_of_ble_eq_true rfl) rfl (Nat.le_of_ble_eq_true rfl) rfl ((zm_areWhole (h := h2) hI2 (f := 14 * f) (m := zv_a h 58 f) (by omega) (by omega) (by omega)).up (Nat.le_of_ble_eq_true rfl)) ?_
        rintro r13 h16 ⟨h16q, v14, r13q, x15⟩
        subst h16q r13q
        try dsimp only at x15
        show zx_T zp_P 5 zp_m186 42 [(0, .ref 44), (1, .int (zI (f)))] [.int (zI (v14))] h2 _
        refine zr_i1 (x := v14) (t := 72) (pc := 42) rfl rfl (by omega) (by omega) (fun (c17 : v14 = 0) => ?_) (fun (c17 : ¬ (v14 = 0)) => ?_)
        · refine zx_T.s (i := .bipush (-10)) (k := 2) (st' := [.int (zI ((-10)))]) (pc := 72) rfl rfl ?_
          refine zx_T.l (i := .aload_n 0) (k := 1) (v := .ref 44) (pc := 74) rfl rfl rfl ?_
          refine zr_gr (k := 20) (b := 57) (pc := 75) rfl rfl rfl hI2 ?_
          refine zx_T.l (i := .iload_n 1) (k := 1) (v := .int (zI (f))) (pc := 78) rfl rfl rfl ?_
          refine zr_al (n := 60) (lo := 0) (hi := 59) (e := zv_a h 57 f) (pc := 79) rfl rfl rfl hI2 (by omega) (by omega) (zv_wa hw rfl f) (fun g18a g18b => ?_)
          refine zr_sub (x := (-10)) (y := zv_a h 57 f) (e := (-1) * (zv_a h 57 f) - 10) (pc := 80) rfl (by omega) ?_
          exact zr_ir (x := (-1) * (zv_a h 57 f) - 10) (pc := 81) rfl rfl rfl ⟨hI2, (hw.wd rfl : zb_W [(44, 0), (44, 25), (44, 26), (61, 0)] h _), _, rfl, by trivial⟩
        · refine zx_T.l (i := .aload_n 0) (k := 1) (v := .ref 44) (pc := 45) rfl rfl rfl ?_
          refine zr_gr (k := 23) (b := 60) (pc := 46) rfl rfl rfl hI2 ?_
          refine zx_T.s (i := .bipush 14) (k := 2) (st' := [.int (zI (14)), .ref 60]) (pc := 49) rfl rfl ?_
          refine zx_T.l (i := .iload_n 1) (k := 1) (v := .int (zI (f))) (pc := 51) rfl rfl rfl ?_
          refine zr_mul (x := 14) (y := f) (e := 14 * f) (pc := 52) rfl (by omega) ?_
          refine zx_T.l (i := .aload_n 0) (k := 1) (v := .ref 44) (pc := 53) rfl rfl rfl ?_
          refine zr_gr (k := 21) (b := 58) (pc := 54) rfl rfl rfl hI2 ?_
          refine zx_T.l (i := .iload_n 1) (k := 1) (v := .int (zI (f))) (pc := 57) rfl rfl rfl ?_
          refine zr_al (n := 60) (lo := 0) (hi := 8) (e := zv_a h 58 f) (pc := 58) rfl rfl rfl hI2 (by omega) (by omega) (zv_wa hw rfl f) (fun g19a g19b => ?_)
          refine zr_add (x := 14 * f) (y := zv_a h 58 f) (e := 14 * f + zv_a h 58 f) (pc := 59) rfl (by omega) ?_
          refine zx_T.l (i := .aload_n 0) (k := 1) (v := .ref 44) (pc := 60) rfl rfl rfl ?_
          refine zr_gr (k := 22) (b := 59) (pc := 61) rfl rfl rfl hI2 ?_
          refine zx_T.l (i := .iload_n 1) (k := 1) (v := .int (zI (f))) (pc := 64) rfl rfl rfl ?_
          refine zr_al (n := 60) (lo := 0) (hi := 6) (e := zv_a h 59 f) (pc := 65) rfl rfl rfl hI2 (by omega) (by omega) (zv_wa hw rfl f) (fun g20a g20b => ?_)
          refine zr_is (cj := 180) (q' := zp_m180) (As := [.ref 60, .int (zI (14 * f + zv_a h 58 f)), .int (zI (zv_a h 59 f))]) (rest := []) (pc := 66) rfl rfl rfl rfl rfl rfl (Nat.le_of_ble_eq_true rfl) rfl (Nat.le_of_ble_eq_true rfl) rfl ((zm_areWhole (h := h2) hI2 (f := 14 * f + zv_a h 58 f) (m := zv_a h 59 f) (by omega) (by omega) (by omega)).up (Nat.le_of_ble_eq_true rfl)) ?_
          rintro r21 h24 ⟨h24q, v22, r21q, x23⟩
          subst h24q r21q
          try dsimp only at x23
          have aw := x23
          simp only [zv_wa hw (a := 60) rfl] at aw
          show zx_T zp_P 5 zp_m186 69 [(0, .ref 44), (1, .int (zI (f)))] [.int (zI (v22))] h2 _
          refine zr_i1 (x := v22) (t := 82) (pc := 69) rfl rfl (by omega) (by omega) (fun (c25 : ¬ v22 = 0) => ?_) (fun (c25 : ¬ (¬ v22 = 0)) => ?_)
          · refine zr_inc (x := f) (n := 1) (y := f + 1) (ls' := [(1, .int (zI (f + 1))), (0, .ref 44)]) (pc := 82) rfl rfl rfl (by omega) rfl ?_
            refine zx_T.j (i := .goto (-68)) (k := 3) (pc' := 17) (st' := []) (pc := 85) rfl rfl rfl rfl rfl ?_
            refine zx_T.lk (ls' := [(0, .ref 44), (1, .int (zI (f + 1)))]) rfl ⟨rfl, rfl, trivial⟩ ?_
            exact ih.1 (h2 := h2) (f := f + 1) hI2 (by omega) (by omega) (by omega) (hw.wd rfl : zb_W [(44, 0), (44, 25), (44, 26), (61, 0)] h _) (fun g g0 g1 g2 => by first | omega | (rcases (show g = f ∨ g < f by omega) with e9 | e9; (subst e9; have b9 := aw.2.2 (by omega) g2; omega); exact hs g g0 e9 g2)) (by omega)
          · refine zx_T.s (i := .bipush (-10)) (k := 2) (st' := [.int (zI ((-10)))]) (pc := 72) rfl rfl ?_
            refine zx_T.l (i := .aload_n 0) (k := 1) (v := .ref 44) (pc := 74) rfl rfl rfl ?_
            refine zr_gr (k := 20) (b := 57) (pc := 75) rfl rfl rfl hI2 ?_
            refine zx_T.l (i := .iload_n 1) (k := 1) (v := .int (zI (f))) (pc := 78) rfl rfl rfl ?_
            refine zr_al (n := 60) (lo := 0) (hi := 59) (e := zv_a h 57 f) (pc := 79) rfl rfl rfl hI2 (by omega) (by omega) (zv_wa hw rfl f) (fun g26a g26b => ?_)
            refine zr_sub (x := (-10)) (y := zv_a h 57 f) (e := (-1) * (zv_a h 57 f) - 10) (pc := 80) rfl (by omega) ?_
            exact zr_ir (x := (-1) * (zv_a h 57 f) - 10) (pc := 81) rfl rfl rfl ⟨hI2, (hw.wd rfl : zb_W [(44, 0), (44, 25), (44, 26), (61, 0)] h _), _, rfl, by trivial⟩
    · intro h2 c p hI2 c1 c2 p1 p2 im hw hs n8 hm
      have hF := zv_ri hI (k := 19) rfl
      have hD := zv_ri hI (k := 1) rfl
      refine zx_T.l (i := .iload_n 2) (k := 1) (v := .int (zI (p))) (pc := 105) rfl rfl rfl ?_
      refine zx_T.l (i := .aload_n 0) (k := 1) (v := .ref 44) (pc := 106) rfl rfl rfl ?_
      refine zr_gi (k := 1) (lo := 0) (hi := 60) (e := zv_i h 1) (pc := 107) rfl rfl rfl hI2 (zv_wi hw rfl) (fun g27a g27b => ?_)
      refine zr_i2 (x := p) (y := zv_i h 1) (t := 202) (pc := 110) rfl rfl (by omega) (by omega) (by omega) (by omega) (fun (c28 : (zv_i h 1) ≤ p) => ?_) (fun (c28 : ¬ ((zv_i h 1) ≤ p)) => ?_)
      · refine zx_T.s (i := .iconst 1) (k := 1) (st' := [.int (zI (1))]) (pc := 202) rfl rfl ?_
        exact zr_ir (x := 1) (pc := 203) rfl rfl rfl ⟨hI2, (hw.wd rfl : zb_W [(44, 0), (44, 25), (44, 26), (61, 0)] h _), _, rfl, by trivial⟩
      · refine zx_T.l (i := .aload_n 0) (k := 1) (v := .ref 44) (pc := 113) rfl rfl rfl ?_
        refine zr_gr (k := 16) (b := 54) (pc := 114) rfl rfl rfl hI2 ?_
        refine zx_T.l (i := .iload_n 2) (k := 1) (v := .int (zI (p))) (pc := 117) rfl rfl rfl ?_
        refine zr_bl (n := 60) (lo := 0) (hi := 1) (e := zv_a h 54 p) (pc := 118) rfl rfl rfl hI2 (by omega) (by omega) (zv_wa hw rfl p) (fun g29a g29b => ?_)
        refine zr_i1 (x := zv_a h 54 p) (t := 173) (pc := 119) rfl rfl (by omega) (by omega) (fun (c30 : (zv_a h 54 p) = 0) => ?_) (fun (c30 : ¬ ((zv_a h 54 p) = 0)) => ?_)
        · refine zx_T.l (i := .aload_n 0) (k := 1) (v := .ref 44) (pc := 173) rfl rfl rfl ?_
          refine zr_gr (k := 16) (b := 54) (pc := 174) rfl rfl rfl hI2 ?_
          refine zx_T.l (i := .iload_n 2) (k := 1) (v := .int (zI (p))) (pc := 177) rfl rfl rfl ?_
          refine zr_bl (n := 60) (lo := 0) (hi := 1) (e := zv_a h 54 p) (pc := 178) rfl rfl rfl hI2 (by omega) (by omega) (zv_wa hw rfl p) (fun g31a g31b => ?_)
          refine zr_i1 (x := zv_a h 54 p) (t := 194) (pc := 179) rfl rfl (by omega) (by omega) (fun (c32 : (zv_a h 54 p) = 0) => ?_) (fun (c32 : ¬ ((zv_a h 54 p) = 0)) => False.elim (by omega))
          refine zx_T.s (i := .iconst 0) (k := 1) (st' := [.int (zI (0))]) (pc := 194) rfl rfl ?_
          refine zx_T.t (i := .istore_n 1) (k := 1) (ls' := [(1, .int (zI (0))), (0, .ref 44), (2, .int (zI (p)))]) (st' := []) (pc := 195) rfl rfl rfl rfl ?_
          refine zr_inc (x := p) (n := 1) (y := p + 1) (ls' := [(2, .int (zI (p + 1))), (1, .int (zI (0))), (0, .ref 44)]) (pc := 196) rfl rfl rfl (by omega) rfl ?_
          refine zx_T.j (i := .goto (-94)) (k := 3) (pc' := 105) (st' := []) (pc := 199) rfl rfl rfl rfl rfl ?_
          refine zx_T.lk (ls' := [(0, .ref 44), (1, .int (zI (0))), (2, .int (zI (p + 1)))]) rfl ⟨rfl, rfl, rfl, trivial⟩ ?_
          exact ih.2 (h2 := h2) (c := 0) (p := p + 1) hI2 (by omega) (by omega) (by omega) (by omega) (by omega) (hw.wd rfl : zb_W [(44, 0), (44, 25), (44, 26), (61, 0)] h _) (fun g g0 g1 => hs g g0 (by omega)) (by omega) (by omega)
        · refine zx_T.l (i := .aload_n 0) (k := 1) (v := .ref 44) (pc := 122) rfl rfl rfl ?_
          refine zx_T.l (i := .iload_n 2) (k := 1) (v := .int (zI (p))) (pc := 123) rfl rfl rfl ?_
          have y34 : zv_i h2 19 = zv_i h 19 := (zv_wi hw rfl)
          refine zr_iv (cj := 179) (q' := zp_m179) (As := [.int (zI (p))]) (rest := []) (pc := 124) rfl rfl rfl rfl rfl rfl (Nat.le_of_ble_eq_true rfl) rfl (Nat.le_of_ble_eq_true rfl) hI2 ((zm_frameAt (h := h2) hI2 (p := p) (by omega) (by omega)).up (Nat.le_of_ble_eq_true rfl)) ?_
          rintro r35 h38 ⟨h38q, v36, r35q, x37⟩
          subst h38q r35q
          try dsimp only at x37
          have fav36 := x37
          show zx_T zp_P 5 zp_m186 127 [(0, .ref 44), (1, .int (zI (c))), (2, .int (zI (p)))] [.int (zI (v36))] h2 _
          refine zx_T.t (i := .istore_n 3) (k := 1) (ls' := [(3, .int (zI (v36))), (0, .ref 44), (1, .int (zI (c))), (2, .int (zI (p)))]) (st' := []) (pc := 127) rfl rfl rfl rfl ?_
          refine zx_T.l (i := .iload_n 3) (k := 1) (v := .int (zI (v36))) (pc := 128) rfl rfl rfl ?_
          refine zx_T.s (i := .iconst (-1)) (k := 1) (st' := [.int (zI ((-1))), .int (zI (v36))]) (pc := 129) rfl rfl ?_
          refine zr_i2 (x := v36) (y := (-1)) (t := 150) (pc := 130) rfl rfl (by omega) (by omega) (by omega) (by omega) (fun (c39 : v36 = (-1)) => ?_) (fun (c39 : ¬ (v36 = (-1))) => ?_)
          · refine zx_T.l (i := .iload_n 3) (k := 1) (v := .int (zI (v36))) (pc := 150) rfl rfl rfl ?_
            refine zx_T.s (i := .iconst (-1)) (k := 1) (st' := [.int (zI ((-1))), .int (zI (v36))]) (pc := 151) rfl rfl ?_
            refine zr_i2 (x := v36) (y := (-1)) (t := 160) (pc := 152) rfl rfl (by omega) (by omega) (by omega) (by omega) (fun (c40 : v36 = (-1)) => ?_) (fun (c40 : ¬ (v36 = (-1))) => False.elim (by omega))
            refine zx_T.l (i := .aload_n 0) (k := 1) (v := .ref 44) (pc := 160) rfl rfl rfl ?_
            refine zx_T.l (i := .iload_n 2) (k := 1) (v := .int (zI (p))) (pc := 161) rfl rfl rfl ?_
            refine zr_iv (cj := 185) (q' := zp_m185) (As := [.int (zI (p))]) (rest := []) (pc := 162) rfl rfl rfl rfl rfl rfl (Nat.le_of_ble_eq_true rfl) rfl (Nat.le_of_ble_eq_true rfl) hI2 ((zm_isRight (h := h2) hI2 (p := p) (by omega) (by omega) (by omega) (hc.w (hw.wd rfl : zb_W [(44, 0), (44, 25), (44, 26), (61, 0)] h _) rfl rfl) ((hC im p p1 (by omega) (by omega)).w (hw.wd rfl : zb_W [(44, 0), (44, 25), (44, 26), (61, 0)] h _) rfl rfl rfl)).up (Nat.le_of_ble_eq_true rfl)) ?_
            rintro r42 h45 ⟨ih45, w46, v43, r42q, x44⟩
            subst r42q
            try dsimp only at x44
            show zx_T zp_P 5 zp_m186 165 [(3, .int (zI (v36))), (0, .ref 44), (1, .int (zI (c))), (2, .int (zI (p)))] [.int (zI (v43))] h45 _
            refine zr_i1 (x := v43) (t := 173) (pc := 165) rfl rfl (by omega) (by omega) (fun (c47 : ¬ v43 = 0) => ?_) (fun (c47 : ¬ (¬ v43 = 0)) => ?_)
            · refine zx_T.l (i := .aload_n 0) (k := 1) (v := .ref 44) (pc := 173) rfl rfl rfl ?_
              refine zr_gr (k := 16) (b := 54) (pc := 174) rfl rfl rfl ih45 ?_
              refine zx_T.l (i := .iload_n 2) (k := 1) (v := .int (zI (p))) (pc := 177) rfl rfl rfl ?_
              refine zr_bl (n := 60) (lo := 0) (hi := 1) (e := zv_a h 54 p) (pc := 178) rfl rfl rfl ih45 (by omega) (by omega) ((zv_wa w46 rfl p).trans (zv_wa hw rfl p)) (fun g48a g48b => ?_)
              refine zr_i1 (x := zv_a h 54 p) (t := 194) (pc := 179) rfl rfl (by omega) (by omega) (fun (c49 : (zv_a h 54 p) = 0) => False.elim (by omega)) (fun (c49 : ¬ ((zv_a h 54 p) = 0)) => ?_)
              refine zx_T.l (i := .aload_n 0) (k := 1) (v := .ref 44) (pc := 182) rfl rfl rfl ?_
              refine zx_T.l (i := .iload_n 2) (k := 1) (v := .int (zI (p))) (pc := 183) rfl rfl rfl ?_
              refine zr_iv (cj := 168) (q' := zp_m168) (As := [.int (zI (p))]) (rest := []) (pc := 184) rfl rfl rfl rfl rfl rfl (Nat.le_of_ble_eq_true rfl) rfl (Nat.le_of_ble_eq_true rfl) ih45 ((zm_goesOn (h := h45) ih45 (p := p) (by omega) (by omega)).up (Nat.le_of_ble_eq_true rfl)) ?_
              rintro r50 h53 ⟨h53q, v51, r50q, x52⟩
              subst h53q r50q
              try dsimp only at x52
              show zx_T zp_P 5 zp_m186 187 [(3, .int (zI (v36))), (0, .ref 44), (1, .int (zI (c))), (2, .int (zI (p)))] [.int (zI (v51))] h45 _
              refine zr_i1 (x := v51) (t := 194) (pc := 187) rfl rfl (by omega) (by omega) (fun (c54 : v51 = 0) => ?_) (fun (c54 : ¬ (v51 = 0)) => ?_)
              · refine zx_T.s (i := .iconst 0) (k := 1) (st' := [.int (zI (0))]) (pc := 194) rfl rfl ?_
                refine zx_T.t (i := .istore_n 1) (k := 1) (ls' := [(1, .int (zI (0))), (3, .int (zI (v36))), (0, .ref 44), (2, .int (zI (p)))]) (st' := []) (pc := 195) rfl rfl rfl rfl ?_
                refine zr_inc (x := p) (n := 1) (y := p + 1) (ls' := [(2, .int (zI (p + 1))), (1, .int (zI (0))), (3, .int (zI (v36))), (0, .ref 44)]) (pc := 196) rfl rfl rfl (by omega) rfl ?_
                refine zx_T.j (i := .goto (-94)) (k := 3) (pc' := 105) (st' := []) (pc := 199) rfl rfl rfl rfl rfl ?_
                refine zx_T.lk (ls' := [(0, .ref 44), (1, .int (zI (0))), (2, .int (zI (p + 1)))]) rfl ⟨rfl, rfl, rfl, trivial⟩ ?_
                exact ih.2 (h2 := h45) (c := 0) (p := p + 1) ih45 (by omega) (by omega) (by omega) (by omega) (by omega) ((hw.wd rfl : zb_W [(44, 0), (44, 25), (44, 26), (61, 0)] h _).tr (w46.wd rfl)) (fun g g0 g1 => hs g g0 (by omega)) (by omega) (by omega)
              · refine zx_T.s (i := .iconst 1) (k := 1) (st' := [.int (zI (1))]) (pc := 190) rfl rfl ?_
                refine zx_T.j (i := .goto 4) (k := 3) (pc' := 195) (st' := [.int (zI (1))]) (pc := 191) rfl rfl rfl rfl rfl ?_
                refine zx_T.t (i := .istore_n 1) (k := 1) (ls' := [(1, .int (zI (1))), (3, .int (zI (v36))), (0, .ref 44), (2, .int (zI (p)))]) (st' := []) (pc := 195) rfl rfl rfl rfl ?_
                refine zr_inc (x := p) (n := 1) (y := p + 1) (ls' := [(2, .int (zI (p + 1))), (1, .int (zI (1))), (3, .int (zI (v36))), (0, .ref 44)]) (pc := 196) rfl rfl rfl (by omega) rfl ?_
                refine zx_T.j (i := .goto (-94)) (k := 3) (pc' := 105) (st' := []) (pc := 199) rfl rfl rfl rfl rfl ?_
                refine zx_T.lk (ls' := [(0, .ref 44), (1, .int (zI (1))), (2, .int (zI (p + 1)))]) rfl ⟨rfl, rfl, rfl, trivial⟩ ?_
                exact ih.2 (h2 := h45) (c := 1) (p := p + 1) ih45 (by omega) (by omega) (by omega) (by omega) (by omega) ((hw.wd rfl : zb_W [(44, 0), (44, 25), (44, 26), (61, 0)] h _).tr (w46.wd rfl)) (fun g g0 g1 => hs g g0 (by omega)) (by omega) (by omega)
            · refine zx_T.s (i := .bipush (-10)) (k := 2) (st' := [.int (zI ((-10)))]) (pc := 168) rfl rfl ?_
              refine zx_T.l (i := .iload_n 2) (k := 1) (v := .int (zI (p))) (pc := 170) rfl rfl rfl ?_
              refine zr_sub (x := (-10)) (y := p) (e := (-1) * p - 10) (pc := 171) rfl (by omega) ?_
              exact zr_ir (x := (-1) * p - 10) (pc := 172) rfl rfl rfl ⟨ih45, ((hw.wd rfl : zb_W [(44, 0), (44, 25), (44, 26), (61, 0)] h _).tr (w46.wd rfl)), _, rfl, by trivial⟩
          · refine zx_T.l (i := .iload_n 1) (k := 1) (v := .int (zI (c))) (pc := 133) rfl rfl rfl ?_
            refine zr_i1 (x := c) (t := 150) (pc := 134) rfl rfl (by omega) (by omega) (fun (c57 : c = 0) => ?_) (fun (c57 : ¬ (c = 0)) => ?_)
            · refine zx_T.l (i := .iload_n 3) (k := 1) (v := .int (zI (v36))) (pc := 150) rfl rfl rfl ?_
              refine zx_T.s (i := .iconst (-1)) (k := 1) (st' := [.int (zI ((-1))), .int (zI (v36))]) (pc := 151) rfl rfl ?_
              refine zr_i2 (x := v36) (y := (-1)) (t := 160) (pc := 152) rfl rfl (by omega) (by omega) (by omega) (by omega) (fun (c58 : v36 = (-1)) => False.elim (by omega)) (fun (c58 : ¬ (v36 = (-1))) => ?_)
              refine zx_T.l (i := .aload_n 0) (k := 1) (v := .ref 44) (pc := 155) rfl rfl rfl ?_
              refine zx_T.l (i := .iload_n 3) (k := 1) (v := .int (zI (v36))) (pc := 156) rfl rfl rfl ?_
              refine zr_iv (cj := 184) (q' := zp_m184) (As := [.int (zI (v36))]) (rest := []) (pc := 157) rfl rfl rfl rfl rfl rfl (Nat.le_of_ble_eq_true rfl) rfl (Nat.le_of_ble_eq_true rfl) hI2 ((zm_take (h := h2) hI2 (f := v36) (by omega) (by omega)).up (Nat.le_of_ble_eq_true rfl)) ?_
              rintro r59 h62 ⟨ih62, w63, r59q, x61⟩
              subst r59q
              try dsimp only at x61
              have tk := x61
              have tn : ¬ zv_a h62 61 8 = 3 := by rw [show zv_a h2 59 = zv_a h 59 from funext (zv_wa hw rfl), show zv_a h2 60 = zv_a h 60 from funext (zv_wa hw rfl), show zv_a h2 58 = zv_a h 58 from funext (zv_wa hw rfl)] at tk; rcases tk.2 with z | z; (rw [z.2]; exact n8); (rw [z.2]; exact hs _ (by omega) (by omega) z.1)
              show zx_T zp_P 5 zp_m186 160 [(3, .int (zI (v36))), (0, .ref 44), (1, .int (zI (c))), (2, .int (zI (p)))] [] h62 _
              refine zx_T.l (i := .aload_n 0) (k := 1) (v := .ref 44) (pc := 160) rfl rfl rfl ?_
              refine zx_T.l (i := .iload_n 2) (k := 1) (v := .int (zI (p))) (pc := 161) rfl rfl rfl ?_
              refine zr_iv (cj := 185) (q' := zp_m185) (As := [.int (zI (p))]) (rest := []) (pc := 162) rfl rfl rfl rfl rfl rfl (Nat.le_of_ble_eq_true rfl) rfl (Nat.le_of_ble_eq_true rfl) ih62 ((zm_isRight (h := h62) ih62 (p := p) (by omega) (by omega) (by omega) (hc.w ((hw.wd rfl : zb_W [(44, 0), (44, 25), (44, 26), (61, 0)] h _).tr (w63.wd rfl)) rfl rfl) ((hC im p p1 (by omega) (by omega)).w ((hw.wd rfl : zb_W [(44, 0), (44, 25), (44, 26), (61, 0)] h _).tr (w63.wd rfl)) rfl rfl rfl)).up (Nat.le_of_ble_eq_true rfl)) ?_
              rintro r65 h68 ⟨ih68, w69, v66, r65q, x67⟩
              subst r65q
              try dsimp only at x67
              show zx_T zp_P 5 zp_m186 165 [(3, .int (zI (v36))), (0, .ref 44), (1, .int (zI (c))), (2, .int (zI (p)))] [.int (zI (v66))] h68 _
              refine zr_i1 (x := v66) (t := 173) (pc := 165) rfl rfl (by omega) (by omega) (fun (c70 : ¬ v66 = 0) => ?_) (fun (c70 : ¬ (¬ v66 = 0)) => ?_)
              · refine zx_T.l (i := .aload_n 0) (k := 1) (v := .ref 44) (pc := 173) rfl rfl rfl ?_
                refine zr_gr (k := 16) (b := 54) (pc := 174) rfl rfl rfl ih68 ?_
                refine zx_T.l (i := .iload_n 2) (k := 1) (v := .int (zI (p))) (pc := 177) rfl rfl rfl ?_
                refine zr_bl (n := 60) (lo := 0) (hi := 1) (e := zv_a h 54 p) (pc := 178) rfl rfl rfl ih68 (by omega) (by omega) ((zv_wa w69 rfl p).trans ((zv_wa w63 rfl p).trans (zv_wa hw rfl p))) (fun g71a g71b => ?_)
                refine zr_i1 (x := zv_a h 54 p) (t := 194) (pc := 179) rfl rfl (by omega) (by omega) (fun (c72 : (zv_a h 54 p) = 0) => False.elim (by omega)) (fun (c72 : ¬ ((zv_a h 54 p) = 0)) => ?_)
                refine zx_T.l (i := .aload_n 0) (k := 1) (v := .ref 44) (pc := 182) rfl rfl rfl ?_
                refine zx_T.l (i := .iload_n 2) (k := 1) (v := .int (zI (p))) (pc := 183) rfl rfl rfl ?_
                refine zr_iv (cj := 168) (q' := zp_m168) (As := [.int (zI (p))]) (rest := []) (pc := 184) rfl rfl rfl rfl rfl rfl (Nat.le_of_ble_eq_true rfl) rfl (Nat.le_of_ble_eq_true rfl) ih68 ((zm_goesOn (h := h68) ih68 (p := p) (by omega) (by omega)).up (Nat.le_of_ble_eq_true rfl)) ?_
                rintro r73 h76 ⟨h76q, v74, r73q, x75⟩
                subst h76q r73q
                try dsimp only at x75
                show zx_T zp_P 5 zp_m186 187 [(3, .int (zI (v36))), (0, .ref 44), (1, .int (zI (c))), (2, .int (zI (p)))] [.int (zI (v74))] h68 _
                refine zr_i1 (x := v74) (t := 194) (pc := 187) rfl rfl (by omega) (by omega) (fun (c77 : v74 = 0) => ?_) (fun (c77 : ¬ (v74 = 0)) => ?_)
                · refine zx_T.s (i := .iconst 0) (k := 1) (st' := [.int (zI (0))]) (pc := 194) rfl rfl ?_
                  refine zx_T.t (i := .istore_n 1) (k := 1) (ls' := [(1, .int (zI (0))), (3, .int (zI (v36))), (0, .ref 44), (2, .int (zI (p)))]) (st' := []) (pc := 195) rfl rfl rfl rfl ?_
                  refine zr_inc (x := p) (n := 1) (y := p + 1) (ls' := [(2, .int (zI (p + 1))), (1, .int (zI (0))), (3, .int (zI (v36))), (0, .ref 44)]) (pc := 196) rfl rfl rfl (by omega) rfl ?_
                  refine zx_T.j (i := .goto (-94)) (k := 3) (pc' := 105) (st' := []) (pc := 199) rfl rfl rfl rfl rfl ?_
                  refine zx_T.lk (ls' := [(0, .ref 44), (1, .int (zI (0))), (2, .int (zI (p + 1)))]) rfl ⟨rfl, rfl, rfl, trivial⟩ ?_
                  exact ih.2 (h2 := h68) (c := 0) (p := p + 1) ih68 (by omega) (by omega) (by omega) (by omega) (by omega) (((hw.wd rfl : zb_W [(44, 0), (44, 25), (44, 26), (61, 0)] h _).tr (w63.wd rfl)).tr (w69.wd rfl)) (fun g g0 g1 => hs g g0 (by omega)) (by omega) (by omega)
                · refine zx_T.s (i := .iconst 1) (k := 1) (st' := [.int (zI (1))]) (pc := 190) rfl rfl ?_
                  refine zx_T.j (i := .goto 4) (k := 3) (pc' := 195) (st' := [.int (zI (1))]) (pc := 191) rfl rfl rfl rfl rfl ?_
                  refine zx_T.t (i := .istore_n 1) (k := 1) (ls' := [(1, .int (zI (1))), (3, .int (zI (v36))), (0, .ref 44), (2, .int (zI (p)))]) (st' := []) (pc := 195) rfl rfl rfl rfl ?_
                  refine zr_inc (x := p) (n := 1) (y := p + 1) (ls' := [(2, .int (zI (p + 1))), (1, .int (zI (1))), (3, .int (zI (v36))), (0, .ref 44)]) (pc := 196) rfl rfl rfl (by omega) rfl ?_
                  refine zx_T.j (i := .goto (-94)) (k := 3) (pc' := 105) (st' := []) (pc := 199) rfl rfl rfl rfl rfl ?_
                  refine zx_T.lk (ls' := [(0, .ref 44), (1, .int (zI (1))), (2, .int (zI (p + 1)))]) rfl ⟨rfl, rfl, rfl, trivial⟩ ?_
                  exact ih.2 (h2 := h68) (c := 1) (p := p + 1) ih68 (by omega) (by omega) (by omega) (by omega) (by omega) (((hw.wd rfl : zb_W [(44, 0), (44, 25), (44, 26), (61, 0)] h _).tr (w63.wd rfl)).tr (w69.wd rfl)) (fun g g0 g1 => hs g g0 (by omega)) (by omega) (by omega)
              · refine zx_T.s (i := .bipush (-10)) (k := 2) (st' := [.int (zI ((-10)))]) (pc := 168) rfl rfl ?_
                refine zx_T.l (i := .iload_n 2) (k := 1) (v := .int (zI (p))) (pc := 170) rfl rfl rfl ?_
                refine zr_sub (x := (-10)) (y := p) (e := (-1) * p - 10) (pc := 171) rfl (by omega) ?_
                exact zr_ir (x := (-1) * p - 10) (pc := 172) rfl rfl rfl ⟨ih68, (((hw.wd rfl : zb_W [(44, 0), (44, 25), (44, 26), (61, 0)] h _).tr (w63.wd rfl)).tr (w69.wd rfl)), _, rfl, by trivial⟩
            · refine zx_T.l (i := .aload_n 0) (k := 1) (v := .ref 44) (pc := 137) rfl rfl rfl ?_
              refine zx_T.l (i := .iload_n 3) (k := 1) (v := .int (zI (v36))) (pc := 138) rfl rfl rfl ?_
              refine zr_iv (cj := 183) (q' := zp_m183) (As := [.int (zI (v36))]) (rest := []) (pc := 139) rfl rfl rfl rfl rfl rfl (Nat.le_of_ble_eq_true rfl) rfl (Nat.le_of_ble_eq_true rfl) hI2 ((zm_goes (h := h2) hI2 (f := v36) (by omega) (by omega)).up (Nat.le_of_ble_eq_true rfl)) ?_
              rintro r80 h83 ⟨h83q, v81, r80q, x82⟩
              subst h83q r80q
              try dsimp only at x82
              show zx_T zp_P 5 zp_m186 142 [(3, .int (zI (v36))), (0, .ref 44), (1, .int (zI (c))), (2, .int (zI (p)))] [.int (zI (v81))] h2 _
              refine zr_i1 (x := v81) (t := 150) (pc := 142) rfl rfl (by omega) (by omega) (fun (c84 : ¬ v81 = 0) => ?_) (fun (c84 : ¬ (¬ v81 = 0)) => ?_)
              · refine zx_T.l (i := .iload_n 3) (k := 1) (v := .int (zI (v36))) (pc := 150) rfl rfl rfl ?_
                refine zx_T.s (i := .iconst (-1)) (k := 1) (st' := [.int (zI ((-1))), .int (zI (v36))]) (pc := 151) rfl rfl ?_
                refine zr_i2 (x := v36) (y := (-1)) (t := 160) (pc := 152) rfl rfl (by omega) (by omega) (by omega) (by omega) (fun (c85 : v36 = (-1)) => False.elim (by omega)) (fun (c85 : ¬ (v36 = (-1))) => ?_)
                refine zx_T.l (i := .aload_n 0) (k := 1) (v := .ref 44) (pc := 155) rfl rfl rfl ?_
                refine zx_T.l (i := .iload_n 3) (k := 1) (v := .int (zI (v36))) (pc := 156) rfl rfl rfl ?_
                refine zr_iv (cj := 184) (q' := zp_m184) (As := [.int (zI (v36))]) (rest := []) (pc := 157) rfl rfl rfl rfl rfl rfl (Nat.le_of_ble_eq_true rfl) rfl (Nat.le_of_ble_eq_true rfl) hI2 ((zm_take (h := h2) hI2 (f := v36) (by omega) (by omega)).up (Nat.le_of_ble_eq_true rfl)) ?_
                rintro r86 h89 ⟨ih89, w90, r86q, x88⟩
                subst r86q
                try dsimp only at x88
                have tk := x88
                have tn : ¬ zv_a h89 61 8 = 3 := by rw [show zv_a h2 59 = zv_a h 59 from funext (zv_wa hw rfl), show zv_a h2 60 = zv_a h 60 from funext (zv_wa hw rfl), show zv_a h2 58 = zv_a h 58 from funext (zv_wa hw rfl)] at tk; rcases tk.2 with z | z; (rw [z.2]; exact n8); (rw [z.2]; exact hs _ (by omega) (by omega) z.1)
                show zx_T zp_P 5 zp_m186 160 [(3, .int (zI (v36))), (0, .ref 44), (1, .int (zI (c))), (2, .int (zI (p)))] [] h89 _
                refine zx_T.l (i := .aload_n 0) (k := 1) (v := .ref 44) (pc := 160) rfl rfl rfl ?_
                refine zx_T.l (i := .iload_n 2) (k := 1) (v := .int (zI (p))) (pc := 161) rfl rfl rfl ?_
                refine zr_iv (cj := 185) (q' := zp_m185) (As := [.int (zI (p))]) (rest := []) (pc := 162) rfl rfl rfl rfl rfl rfl (Nat.le_of_ble_eq_true rfl) rfl (Nat.le_of_ble_eq_true rfl) ih89 ((zm_isRight (h := h89) ih89 (p := p) (by omega) (by omega) (by omega) (hc.w ((hw.wd rfl : zb_W [(44, 0), (44, 25), (44, 26), (61, 0)] h _).tr (w90.wd rfl)) rfl rfl) ((hC im p p1 (by omega) (by omega)).w ((hw.wd rfl : zb_W [(44, 0), (44, 25), (44, 26), (61, 0)] h _).tr (w90.wd rfl)) rfl rfl rfl)).up (Nat.le_of_ble_eq_true rfl)) ?_
                rintro r92 h95 ⟨ih95, w96, v93, r92q, x94⟩
                subst r92q
                try dsimp only at x94
                show zx_T zp_P 5 zp_m186 165 [(3, .int (zI (v36))), (0, .ref 44), (1, .int (zI (c))), (2, .int (zI (p)))] [.int (zI (v93))] h95 _
                refine zr_i1 (x := v93) (t := 173) (pc := 165) rfl rfl (by omega) (by omega) (fun (c97 : ¬ v93 = 0) => ?_) (fun (c97 : ¬ (¬ v93 = 0)) => ?_)
                · refine zx_T.l (i := .aload_n 0) (k := 1) (v := .ref 44) (pc := 173) rfl rfl rfl ?_
                  refine zr_gr (k := 16) (b := 54) (pc := 174) rfl rfl rfl ih95 ?_
                  refine zx_T.l (i := .iload_n 2) (k := 1) (v := .int (zI (p))) (pc := 177) rfl rfl rfl ?_
                  refine zr_bl (n := 60) (lo := 0) (hi := 1) (e := zv_a h 54 p) (pc := 178) rfl rfl rfl ih95 (by omega) (by omega) ((zv_wa w96 rfl p).trans ((zv_wa w90 rfl p).trans (zv_wa hw rfl p))) (fun g98a g98b => ?_)
                  refine zr_i1 (x := zv_a h 54 p) (t := 194) (pc := 179) rfl rfl (by omega) (by omega) (fun (c99 : (zv_a h 54 p) = 0) => False.elim (by omega)) (fun (c99 : ¬ ((zv_a h 54 p) = 0)) => ?_)
                  refine zx_T.l (i := .aload_n 0) (k := 1) (v := .ref 44) (pc := 182) rfl rfl rfl ?_
                  refine zx_T.l (i := .iload_n 2) (k := 1) (v := .int (zI (p))) (pc := 183) rfl rfl rfl ?_
                  refine zr_iv (cj := 168) (q' := zp_m168) (As := [.int (zI (p))]) (rest := []) (pc := 184) rfl rfl rfl rfl rfl rfl (Nat.le_of_ble_eq_true rfl) rfl (Nat.le_of_ble_eq_true rfl) ih95 ((zm_goesOn (h := h95) ih95 (p := p) (by omega) (by omega)).up (Nat.le_of_ble_eq_true rfl)) ?_
                  rintro r100 h103 ⟨h103q, v101, r100q, x102⟩
                  subst h103q r100q
                  try dsimp only at x102
                  show zx_T zp_P 5 zp_m186 187 [(3, .int (zI (v36))), (0, .ref 44), (1, .int (zI (c))), (2, .int (zI (p)))] [.int (zI (v101))] h95 _
                  refine zr_i1 (x := v101) (t := 194) (pc := 187) rfl rfl (by omega) (by omega) (fun (c104 : v101 = 0) => ?_) (fun (c104 : ¬ (v101 = 0)) => ?_)
                  · refine zx_T.s (i := .iconst 0) (k := 1) (st' := [.int (zI (0))]) (pc := 194) rfl rfl ?_
                    refine zx_T.t (i := .istore_n 1) (k := 1) (ls' := [(1, .int (zI (0))), (3, .int (zI (v36))), (0, .ref 44), (2, .int (zI (p)))]) (st' := []) (pc := 195) rfl rfl rfl rfl ?_
                    refine zr_inc (x := p) (n := 1) (y := p + 1) (ls' := [(2, .int (zI (p + 1))), (1, .int (zI (0))), (3, .int (zI (v36))), (0, .ref 44)]) (pc := 196) rfl rfl rfl (by omega) rfl ?_
                    refine zx_T.j (i := .goto (-94)) (k := 3) (pc' := 105) (st' := []) (pc := 199) rfl rfl rfl rfl rfl ?_
                    refine zx_T.lk (ls' := [(0, .ref 44), (1, .int (zI (0))), (2, .int (zI (p + 1)))]) rfl ⟨rfl, rfl, rfl, trivial⟩ ?_
                    exact ih.2 (h2 := h95) (c := 0) (p := p + 1) ih95 (by omega) (by omega) (by omega) (by omega) (by omega) (((hw.wd rfl : zb_W [(44, 0), (44, 25), (44, 26), (61, 0)] h _).tr (w90.wd rfl)).tr (w96.wd rfl)) (fun g g0 g1 => hs g g0 (by omega)) (by omega) (by omega)
                  · refine zx_T.s (i := .iconst 1) (k := 1) (st' := [.int (zI (1))]) (pc := 190) rfl rfl ?_
                    refine zx_T.j (i := .goto 4) (k := 3) (pc' := 195) (st' := [.int (zI (1))]) (pc := 191) rfl rfl rfl rfl rfl ?_
                    refine zx_T.t (i := .istore_n 1) (k := 1) (ls' := [(1, .int (zI (1))), (3, .int (zI (v36))), (0, .ref 44), (2, .int (zI (p)))]) (st' := []) (pc := 195) rfl rfl rfl rfl ?_
                    refine zr_inc (x := p) (n := 1) (y := p + 1) (ls' := [(2, .int (zI (p + 1))), (1, .int (zI (1))), (3, .int (zI (v36))), (0, .ref 44)]) (pc := 196) rfl rfl rfl (by omega) rfl ?_
                    refine zx_T.j (i := .goto (-94)) (k := 3) (pc' := 105) (st' := []) (pc := 199) rfl rfl rfl rfl rfl ?_
                    refine zx_T.lk (ls' := [(0, .ref 44), (1, .int (zI (1))), (2, .int (zI (p + 1)))]) rfl ⟨rfl, rfl, rfl, trivial⟩ ?_
                    exact ih.2 (h2 := h95) (c := 1) (p := p + 1) ih95 (by omega) (by omega) (by omega) (by omega) (by omega) (((hw.wd rfl : zb_W [(44, 0), (44, 25), (44, 26), (61, 0)] h _).tr (w90.wd rfl)).tr (w96.wd rfl)) (fun g g0 g1 => hs g g0 (by omega)) (by omega) (by omega)
                · refine zx_T.s (i := .bipush (-10)) (k := 2) (st' := [.int (zI ((-10)))]) (pc := 168) rfl rfl ?_
                  refine zx_T.l (i := .iload_n 2) (k := 1) (v := .int (zI (p))) (pc := 170) rfl rfl rfl ?_
                  refine zr_sub (x := (-10)) (y := p) (e := (-1) * p - 10) (pc := 171) rfl (by omega) ?_
                  exact zr_ir (x := (-1) * p - 10) (pc := 172) rfl rfl rfl ⟨ih95, (((hw.wd rfl : zb_W [(44, 0), (44, 25), (44, 26), (61, 0)] h _).tr (w90.wd rfl)).tr (w96.wd rfl)), _, rfl, by trivial⟩
              · refine zx_T.s (i := .bipush (-10)) (k := 2) (st' := [.int (zI ((-10)))]) (pc := 145) rfl rfl ?_
                refine zx_T.l (i := .iload_n 2) (k := 1) (v := .int (zI (p))) (pc := 147) rfl rfl rfl ?_
                refine zr_sub (x := (-10)) (y := p) (e := (-1) * p - 10) (pc := 148) rfl (by omega) ?_
                exact zr_ir (x := (-1) * p - 10) (pc := 149) rfl rfl rfl ⟨hI2, (hw.wd rfl : zb_W [(44, 0), (44, 25), (44, 26), (61, 0)] h _), _, rfl, by trivial⟩
set_option maxRecDepth 100000 in
set_option maxHeartbeats 4000000 in
theorem zm_judge {h : zx_H} (hI : zb_I zc_H h)  (hc : zg_CI h) (hC : zv_i h 13 = 1 → zg_C h) : zx_T zp_P 5 zp_m186 0 [(0, .ref 44)] [] h (zr_R [(44, 0), (44, 25), (44, 26), (61, 0)] h (fun e h' => True)) := by
  have hF := zv_ri hI (k := 19) rfl
  have hD := zv_ri hI (k := 1) rfl
  refine zx_T.l (i := .aload_n 0) (k := 1) (v := .ref 44) (pc := 0) rfl rfl rfl ?_
  refine zx_T.s (i := .iconst 0) (k := 1) (st' := [.int (zI (0)), .ref 44]) (pc := 1) rfl rfl ?_
  refine zr_pi (k := 0) (lo := (-2147483648)) (hi := 2147483647) (e := 0) (pc := 2) rfl rfl rfl rfl rfl rfl hI (by omega) (by omega) (fun h107 ih107 w108 e109 => ?_)
  refine zx_T.l (i := .aload_n 0) (k := 1) (v := .ref 44) (pc := 5) rfl rfl rfl ?_
  refine zr_gi (k := 13) (lo := 0) (hi := 1) (e := zv_i h 13) (pc := 6) rfl rfl rfl ih107 (zv_wi w108 rfl) (fun g110a g110b => ?_)
  refine zr_i1 (x := zv_i h 13) (t := 15) (pc := 9) rfl rfl (by omega) (by omega) (fun (c111 : ¬ (zv_i h 13) = 0) => ?_) (fun (c111 : ¬ (¬ (zv_i h 13) = 0)) => ?_)
  · refine zx_T.s (i := .iconst 0) (k := 1) (st' := [.int (zI (0))]) (pc := 15) rfl rfl ?_
    refine zx_T.t (i := .istore_n 1) (k := 1) (ls' := [(1, .int (zI (0))), (0, .ref 44)]) (st' := []) (pc := 16) rfl rfl rfl rfl ?_
    refine zx_T.lk (ls' := [(0, .ref 44), (1, .int (zI (0)))]) rfl ⟨rfl, rfl, trivial⟩ ?_
    exact (zm_judge_L (h := h) hI  hc hC ((1000 - 0 : Int).toNat + 1)).1 (h2 := h107) (f := 0) ih107 (by omega) (by omega) (by omega) (w108.wd rfl : zb_W [(44, 0), (44, 25), (44, 26), (61, 0)] h _) (fun g g0 g1 g2 => by first | omega | (rcases (show g = f ∨ g < f by omega) with e9 | e9; (subst e9; have b9 := aw.2.2 (by omega) g2; omega); exact hs g g0 e9 g2)) (Nat.lt_succ_self _)
  · refine zx_T.s (i := .bipush (-3)) (k := 2) (st' := [.int (zI ((-3)))]) (pc := 12) rfl rfl ?_
    exact zr_ir (x := (-3)) (pc := 14) rfl rfl rfl ⟨ih107, (w108.wd rfl : zb_W [(44, 0), (44, 25), (44, 26), (61, 0)] h _), _, rfl, by trivial⟩
