/-! ===== 97zw: the reference, method by method (by program) ===== -/
theorem zf_re_ba {h h1 h' : zx_H} {p q : Int} (a : zf_reh h1 h' p q) (b : zb_W [(61, 0)] h h1) (hn : ∀ j, 0 ≤ j → j < 8 → zv_a h1 61 j = zv_a h 61 j) : zf_reh h h' p q := by
  obtain ⟨a1, a2, a3⟩ := a
  rw [zv_wi b (k := 41) rfl] at a1
  rw [zv_wi b (k := 38) rfl, show zv_a h1 71 = zv_a h 71 from funext (fun q => zv_wa b rfl q), show zv_a h1 72 = zv_a h 72 from funext (fun q => zv_wa b rfl q)] at a2
  rw [zv_wi b (k := 38) rfl] at a3
  exact ⟨a1, a2, a3.ba b rfl hn⟩

set_option maxRecDepth 100000 in
set_option maxHeartbeats 8000000 in
theorem zm_rowX {h : zx_H} (hI : zb_I zc_H h) {p : Int} {t : Int} (p1 : 0 ≤ p) (p2 : p ≤ 59) (t1 : 7 ≤ t) (t2 : t ≤ 13) (dz : zg_dz (zv_a h 45 p) (zv_a h 46 p) (t - 7) (zv_i h 25) (zv_a h 70) (zv_a h 61)) (vw : zg_VW h t) (t9 : zv_i h 38 ≤ 399) (r9 : zv_i h 41 ≤ 1000000) (r8 : (-5) ≤ zv_i h 41) (x0 : zv_i h 42 = 0) (nx : zv_i h 50 = (-1)) (o1 : 17 ≤ zv_a h 45 p) (o2 : zv_a h 45 p ≤ 19) : zx_T zp_P 5 zp_m212 0 [(0, .ref 44), (1, .int (zI (p))), (2, .int (zI (t)))] [] h (zr_V [(44, 25), (61, 0), (69, 0), (44, 50), (44, 14), (44, 42), (44, 43), (44, 49), (44, 41), (44, 38), (71, 0), (72, 0)] h (fun h' => zf_ach h h' p t)) := by
  have hS := zv_ri hI (k := 25) rfl
  have hT := zv_ri hI (k := 38) rfl
  have hC := zv_ri hI (k := 1) rfl
  refine zx_T.l (i := .aload_n 0) (k := 1) (v := .ref 44) (pc := 0) rfl rfl rfl ?_
  refine zr_gr (k := 2) (b := 45) (pc := 1) rfl rfl rfl hI ?_
  refine zx_T.l (i := .iload_n 1) (k := 1) (v := .int (zI (p))) (pc := 4) rfl rfl rfl ?_
  refine zr_al (n := 60) (lo := 0) (hi := 28) (e := zv_a h 45 p) (pc := 5) rfl rfl rfl hI (by omega) (by omega) rfl (fun g1a g1b => ?_)
  refine zx_T.t (i := .istore_n 3) (k := 1) (ls' := [(3, .int (zI (zv_a h 45 p))), (0, .ref 44), (1, .int (zI (p))), (2, .int (zI (t)))]) (st' := []) (pc := 6) rfl rfl rfl rfl ?_
  refine zx_T.l (i := .iload_n 3) (k := 1) (v := .int (zI (zv_a h 45 p))) (pc := 7) rfl rfl rfl ?_
  refine zx_T.s (i := .bipush 17) (k := 2) (st' := [.int (zI (17)), .int (zI (zv_a h 45 p))]) (pc := 8) rfl rfl ?_
  refine zr_i2 (x := zv_a h 45 p) (y := 17) (t := 19) (pc := 10) rfl rfl (by omega) (by omega) (by omega) (by omega) (fun (c2 : ¬ (zv_a h 45 p) = 17) => ?_) (fun (c2 : ¬ (¬ (zv_a h 45 p) = 17)) => ?_)
  · refine zx_T.l (i := .iload_n 3) (k := 1) (v := .int (zI (zv_a h 45 p))) (pc := 19) rfl rfl rfl ?_
    refine zx_T.s (i := .bipush 18) (k := 2) (st' := [.int (zI (18)), .int (zI (zv_a h 45 p))]) (pc := 20) rfl rfl ?_
    refine zr_i2 (x := zv_a h 45 p) (y := 18) (t := 31) (pc := 22) rfl rfl (by omega) (by omega) (by omega) (by omega) (fun (c3 : ¬ (zv_a h 45 p) = 18) => ?_) (fun (c3 : ¬ (¬ (zv_a h 45 p) = 18)) => ?_)
    · refine zx_T.l (i := .iload_n 2) (k := 1) (v := .int (zI (t))) (pc := 31) rfl rfl rfl ?_
      refine zx_T.t (i := .istore 4) (k := 2) (ls' := [(4, .int (zI (t))), (3, .int (zI (zv_a h 45 p))), (0, .ref 44), (1, .int (zI (p))), (2, .int (zI (t)))]) (st' := []) (pc := 32) rfl rfl rfl rfl ?_
      refine zx_T.l (i := .aload_n 0) (k := 1) (v := .ref 44) (pc := 34) rfl rfl rfl ?_
      refine zr_gr (k := 37) (b := 70) (pc := 35) rfl rfl rfl hI ?_
      refine zx_T.l (i := .iload 4) (k := 2) (v := .int (zI (t))) (pc := 38) rfl rfl rfl ?_
      refine zr_al (n := 14) (lo := 0) (hi := 8) (e := zv_a h 70 t) (pc := 40) rfl rfl rfl hI (by omega) (by omega) rfl (fun g4a g4b => ?_)
      refine zx_T.s (i := .iconst 4) (k := 1) (st' := [.int (zI (4)), .int (zI (zv_a h 70 t))]) (pc := 41) rfl rfl ?_
      refine zr_i2 (x := zv_a h 70 t) (y := 4) (t := 52) (pc := 42) rfl rfl (by omega) (by omega) (by omega) (by omega) (fun (c5 : ¬ (zv_a h 70 t) = 4) => ?_) (fun (c5 : ¬ (¬ (zv_a h 70 t) = 4)) => ?_)
      · have v6 : zv_a h 70 (t) = 6 := by have d2 := dz.2.1 (t) (by omega); have d3 := And.intro d2.1 (And.intro d2.2.1 d2.2.2.1); clear d2; omega
        have vb := vw (t) (by omega) (by omega) (by omega)
        have vo1 := vb.1
        have vo2 := vb.2.1
        have vo3 := vb.2.2 v6
        have z32 : zi32 (zv_b h 69 (t)) = zv_b h 69 (t) := zi32_i (by omega) (by omega)
        have vo4 := vo3
        rw [← z32] at vo4
        have vo5 := vo4.1
        have vo6 := vo4.2
        refine zx_T.l (i := .aload_n 0) (k := 1) (v := .ref 44) (pc := 52) rfl rfl rfl ?_
        refine zr_gr (k := 36) (b := 69) (pc := 53) rfl rfl rfl hI ?_
        refine zx_T.l (i := .iload 4) (k := 2) (v := .int (zI (t))) (pc := 56) rfl rfl rfl ?_
        have g6 := zv_rb (h := h) 69 t
        refine zr_ll (n := 14) (e := zv_b h 69 t) (pc := 58) rfl rfl rfl hI (by omega) (by omega) rfl ?_
        refine zr_l2i (pc := 59) rfl ?_
        refine zr_n32 (x := zv_b h 69 t) (fun z7a z7b => ?_)
        refine zx_T.t (i := .istore 5) (k := 2) (ls' := [(5, .int (zI (zi32 (zv_b h 69 t)))), (4, .int (zI (t))), (3, .int (zI (zv_a h 45 p))), (0, .ref 44), (1, .int (zI (p))), (2, .int (zI (t)))]) (st' := []) (pc := 60) rfl rfl rfl rfl ?_
        refine zx_T.l (i := .iload_n 3) (k := 1) (v := .int (zI (zv_a h 45 p))) (pc := 62) rfl rfl rfl ?_
        refine zx_T.s (i := .bipush 19) (k := 2) (st' := [.int (zI (19)), .int (zI (zv_a h 45 p))]) (pc := 63) rfl rfl ?_
        refine zr_i2 (x := zv_a h 45 p) (y := 19) (t := 83) (pc := 65) rfl rfl (by omega) (by omega) (by omega) (by omega) (fun (c8 : ¬ (zv_a h 45 p) = 19) => ?_) (fun (c8 : ¬ (¬ (zv_a h 45 p) = 19)) => ?_)
        · refine zx_T.l (i := .aload_n 0) (k := 1) (v := .ref 44) (pc := 83) rfl rfl rfl ?_
          refine zr_gr (k := 36) (b := 69) (pc := 84) rfl rfl rfl hI ?_
          refine zx_T.l (i := .iload 4) (k := 2) (v := .int (zI (t))) (pc := 87) rfl rfl rfl ?_
          refine zx_T.s (i := .iconst 1) (k := 1) (st' := [.int (zI (1)), .int (zI (t)), .ref 69]) (pc := 89) rfl rfl ?_
          refine zr_add (x := t) (y := 1) (e := t + 1) (pc := 90) rfl (by omega) ?_
          have g9 := zv_rb (h := h) 69 (t + 1)
          refine zr_ll (n := 14) (e := zv_b h 69 (t + 1)) (pc := 91) rfl rfl rfl hI (by omega) (by omega) rfl ?_
          refine zx_T.t (i := .lstore 6) (k := 2) (ls' := [(6, .long (zL (zv_b h 69 (t + 1)))), (5, .int (zI (zi32 (zv_b h 69 t)))), (4, .int (zI (t))), (3, .int (zI (zv_a h 45 p))), (0, .ref 44), (1, .int (zI (p))), (2, .int (zI (t)))]) (st' := []) (pc := 92) rfl rfl rfl rfl ?_
          refine zx_T.l (i := .lload 6) (k := 2) (v := .long (zL (zv_b h 69 (t + 1)))) (pc := 94) rfl rfl rfl ?_
          refine zx_T.s (i := .lconst 0) (k := 1) (st' := [.long (zL (0)), .long (zL (zv_b h 69 (t + 1)))]) (pc := 96) rfl rfl ?_
          refine zr_lcmp (pc := 97) rfl (by omega) (by omega) (by omega) (by omega) (fun z10 z10a => ?_)
          refine zr_i1 (x := z10) (t := 115) (pc := 98) rfl rfl (by omega) (by omega) (fun (c11 : z10 < 0) => ?_) (fun (c11 : ¬ (z10 < 0)) => ?_)
          · refine zx_T.l (i := .aload_n 0) (k := 1) (v := .ref 44) (pc := 115) rfl rfl rfl ?_
            refine zx_T.l (i := .iload_n 1) (k := 1) (v := .int (zI (p))) (pc := 116) rfl rfl rfl ?_
            refine zx_T.s (i := .iconst 2) (k := 1) (st' := [.int (zI (2)), .int (zI (p)), .ref 44]) (pc := 117) rfl rfl ?_
            refine zr_iv (cj := 211) (q' := zp_m211) (As := [.int (zI (p)), .int (zI (2))]) (rest := []) (pc := 118) rfl rfl rfl rfl rfl rfl (Nat.le_of_ble_eq_true rfl) rfl (Nat.le_of_ble_eq_true rfl) hI ((zm_refuseX (h := h) hI (p := p) (q := 2) (by omega) (by omega) (by omega) (by omega) (by omega) (by omega) (by omega)).up (Nat.le_of_ble_eq_true rfl)) ?_
            rintro r14 h17 ⟨ih17, w18, r14q, x16⟩
            subst r14q
            try dsimp only at x16
            have reX := x16
            show zx_T zp_P 5 zp_m212 121 [(6, .long (zL (zv_b h 69 (t + 1)))), (5, .int (zI (zi32 (zv_b h 69 t)))), (4, .int (zI (t))), (3, .int (zI (zv_a h 45 p))), (0, .ref 44), (1, .int (zI (p))), (2, .int (zI (t)))] [] h17 _
            refine zx_T.j (i := .goto 55) (k := 3) (pc' := 176) (st' := []) (pc := 121) rfl rfl rfl rfl rfl ?_
            have i25 : zv_i h17 25 = zv_i h17 25 := rfl
            have y27 : zv_i h17 1 = zv_i h 1 := (zv_wi w18 rfl)
            have a61 : ∀ j, 0 ≤ j → zv_a h17 61 j = zv_a h17 61 j := fun j hj => rfl
            have a71 : ∀ j, 0 ≤ j → zv_a h17 71 j = zv_a h17 71 j := fun j hj => rfl
            have a72 : ∀ j, 0 ≤ j → zv_a h17 72 j = zv_a h17 72 j := fun j hj => rfl
            have b69 : ∀ j, 0 ≤ j → zv_b h17 69 j = zv_b h17 69 j := fun j hj => rfl
            exact zr_vr (pc := 176) rfl rfl ⟨ih17, (w18.wd rfl : zb_W [(44, 25), (61, 0), (69, 0), (44, 50), (44, 14), (44, 42), (44, 43), (44, 49), (44, 41), (44, 38), (71, 0), (72, 0)] h _), rfl, by dsimp only; first | (exfalso; omega) | (exact zf_acr (show zv_a h 45 p = 19 by omega) ⟨(fun z => absurd z (by decide)), (fun z => absurd z (by decide)), (fun z => absurd z (by decide)), (fun z => absurd z (by decide)), (fun _ => Or.inl ⟨by omega, rfl⟩), (fun z => absurd z (by decide)), (fun z => absurd z (by decide))⟩ (by decide) reX)⟩
          · refine zx_T.l (i := .lload 6) (k := 2) (v := .long (zL (zv_b h 69 (t + 1)))) (pc := 101) rfl rfl rfl ?_
            refine zx_T.l (i := .aload_n 0) (k := 1) (v := .ref 44) (pc := 103) rfl rfl rfl ?_
            refine zr_gr (k := 39) (b := 71) (pc := 104) rfl rfl rfl hI ?_
            refine zx_T.l (i := .iload 5) (k := 2) (v := .int (zI (zi32 (zv_b h 69 t)))) (pc := 107) rfl rfl rfl ?_
            refine zr_al (n := 400) (lo := (-2147483648)) (hi := 2147483647) (e := zv_a h 71 (zi32 (zv_b h 69 t))) (pc := 109) rfl rfl rfl hI (by omega) (by omega) rfl (fun g32a g32b => ?_)
            refine zr_i2l (pc := 110) rfl (by omega) (by omega) ?_
            refine zr_lcmp (pc := 111) rfl (by omega) (by omega) (by omega) (by omega) (fun z33 z33a => ?_)
            refine zr_i1 (x := z33) (t := 124) (pc := 112) rfl rfl (by omega) (by omega) (fun (c34 : z33 < 0) => ?_) (fun (c34 : ¬ (z33 < 0)) => ?_)
            · have z33 : zi32 (zv_b h 69 (t + 1)) = zv_b h 69 (t + 1) := zi32_i (by omega) (by omega)
              refine zx_T.l (i := .iload_n 3) (k := 1) (v := .int (zI (zv_a h 45 p))) (pc := 124) rfl rfl rfl ?_
              refine zx_T.s (i := .bipush 17) (k := 2) (st' := [.int (zI (17)), .int (zI (zv_a h 45 p))]) (pc := 125) rfl rfl ?_
              refine zr_i2 (x := zv_a h 45 p) (y := 17) (t := 155) (pc := 127) rfl rfl (by omega) (by omega) (by omega) (by omega) (fun (c35 : ¬ (zv_a h 45 p) = 17) => ?_) (fun (c35 : ¬ (¬ (zv_a h 45 p) = 17)) => False.elim (by omega))
              refine zx_T.l (i := .aload_n 0) (k := 1) (v := .ref 44) (pc := 155) rfl rfl rfl ?_
              refine zr_gr (k := 40) (b := 72) (pc := 156) rfl rfl rfl hI ?_
              refine zx_T.s (i := .bipush 20) (k := 2) (st' := [.int (zI (20)), .ref 72]) (pc := 159) rfl rfl ?_
              refine zx_T.l (i := .iload 5) (k := 2) (v := .int (zI (zi32 (zv_b h 69 t)))) (pc := 161) rfl rfl rfl ?_
              refine zr_mul (x := 20) (y := zi32 (zv_b h 69 t)) (e := 20 * (zi32 (zv_b h 69 t))) (pc := 163) rfl (by omega) ?_
              refine zx_T.l (i := .lload 6) (k := 2) (v := .long (zL (zv_b h 69 (t + 1)))) (pc := 164) rfl rfl rfl ?_
              refine zr_l2i (pc := 166) rfl ?_
              refine zr_n32 (x := zv_b h 69 (t + 1)) (fun z36a z36b => ?_)
              refine zr_add (x := 20 * (zi32 (zv_b h 69 t))) (y := zi32 (zv_b h 69 (t + 1))) (e := 20 * (zi32 (zv_b h 69 t)) + zi32 (zv_b h 69 (t + 1))) (pc := 167) rfl (by omega) ?_
              refine zx_T.l (i := .aload_n 0) (k := 1) (v := .ref 44) (pc := 168) rfl rfl rfl ?_
              refine zr_gr (k := 36) (b := 69) (pc := 169) rfl rfl rfl hI ?_
              refine zx_T.l (i := .iload_n 2) (k := 1) (v := .int (zI (t))) (pc := 172) rfl rfl rfl ?_
              have g37 := zv_rb (h := h) 69 t
              refine zr_ll (n := 14) (e := zv_b h 69 t) (pc := 173) rfl rfl rfl hI (by omega) (by omega) rfl ?_
              refine zr_l2i (pc := 174) rfl ?_
              refine zr_n32 (x := zv_b h 69 t) (fun z38a z38b => ?_)
              refine zr_as (n := 8000) (lo := (-2147483648)) (hi := 2147483647) (e := zi32 (zv_b h 69 t)) (pc := 175) rfl rfl rfl rfl hI (by omega) (by omega) (by omega) (by omega) (fun h39 ih39 w40 s41 => ?_)
              have y42 : zv_i h39 42 = zv_i h 42 := (zv_wi w40 rfl)
              have y43 : zv_i h39 43 = zv_i h 43 := (zv_wi w40 rfl)
              have y44 : zv_i h39 38 = zv_i h 38 := (zv_wi w40 rfl)
              have y45 : zv_i h39 41 = zv_i h 41 := (zv_wi w40 rfl)
              have y46 : zv_i h39 50 = zv_i h 50 := (zv_wi w40 rfl)
              have y47 : zv_i h39 14 = zv_i h 14 := (zv_wi w40 rfl)
              have y48 : zv_i h39 49 = zv_i h 49 := (zv_wi w40 rfl)
              have i25 : zv_i h39 25 = zv_i h 25 := (zv_wi w40 rfl)
              have y50 : zv_i h39 1 = zv_i h 1 := (zv_wi w40 rfl)
              have a61 : ∀ j, 0 ≤ j → zv_a h39 61 j = zv_a h 61 j := fun j hj => by rw [zv_wa w40 rfl j]
              have a71 : ∀ j, 0 ≤ j → zv_a h39 71 j = zv_a h 71 j := fun j hj => by rw [zv_wa w40 rfl j]
              have a72 : ∀ j, 0 ≤ j → zv_a h39 72 j = if j = 20 * (zi32 (zv_b h 69 t)) + zi32 (zv_b h 69 (t + 1)) then zi32 (zv_b h 69 t) else zv_a h 72 j := fun j hj => by rw [s41 j hj]
              have b69 : ∀ j, 0 ≤ j → zv_b h39 69 j = zv_b h 69 j := fun j hj => by rw [zv_wb w40 rfl j]
              exact zr_vr (pc := 176) rfl rfl ⟨ih39, (w40.wd rfl : zb_W [(44, 25), (61, 0), (69, 0), (44, 50), (44, 14), (44, 42), (44, 43), (44, 49), (44, 41), (44, 38), (71, 0), (72, 0)] h _), rfl, by dsimp only; first | (exfalso; omega) | (exact zf_aci (show zv_a h 45 p = 19 by omega) (by decide) (by decide) ⟨(fun z => absurd z (by decide)), (fun z => absurd z (by decide)), (fun z => absurd z (by decide)), (fun z => absurd z (by decide)), (fun _ => Or.inr ⟨by omega, rfl⟩), (fun z => absurd z (by decide)), (fun z => absurd z (by decide))⟩ (by omega) (by omega) (by omega) (zf_wi19 (fun j j0 => by rw [b69 j j0]) ⟨by omega, fun j j0 => by rw [a71 j j0], fun j j0 => by rw [a72 j j0]⟩) (fun _ j j0 => by rw [a61 j j0]) (fun z => absurd z (by decide)) (zf_gf0 (by omega) (by omega)))⟩
            · refine zx_T.l (i := .aload_n 0) (k := 1) (v := .ref 44) (pc := 115) rfl rfl rfl ?_
              refine zx_T.l (i := .iload_n 1) (k := 1) (v := .int (zI (p))) (pc := 116) rfl rfl rfl ?_
              refine zx_T.s (i := .iconst 2) (k := 1) (st' := [.int (zI (2)), .int (zI (p)), .ref 44]) (pc := 117) rfl rfl ?_
              refine zr_iv (cj := 211) (q' := zp_m211) (As := [.int (zI (p)), .int (zI (2))]) (rest := []) (pc := 118) rfl rfl rfl rfl rfl rfl (Nat.le_of_ble_eq_true rfl) rfl (Nat.le_of_ble_eq_true rfl) hI ((zm_refuseX (h := h) hI (p := p) (q := 2) (by omega) (by omega) (by omega) (by omega) (by omega) (by omega) (by omega)).up (Nat.le_of_ble_eq_true rfl)) ?_
              rintro r57 h60 ⟨ih60, w61, r57q, x59⟩
              subst r57q
              try dsimp only at x59
              have reX := x59
              show zx_T zp_P 5 zp_m212 121 [(6, .long (zL (zv_b h 69 (t + 1)))), (5, .int (zI (zi32 (zv_b h 69 t)))), (4, .int (zI (t))), (3, .int (zI (zv_a h 45 p))), (0, .ref 44), (1, .int (zI (p))), (2, .int (zI (t)))] [] h60 _
              refine zx_T.j (i := .goto 55) (k := 3) (pc' := 176) (st' := []) (pc := 121) rfl rfl rfl rfl rfl ?_
              have i25 : zv_i h60 25 = zv_i h60 25 := rfl
              have y70 : zv_i h60 1 = zv_i h 1 := (zv_wi w61 rfl)
              have a61 : ∀ j, 0 ≤ j → zv_a h60 61 j = zv_a h60 61 j := fun j hj => rfl
              have a71 : ∀ j, 0 ≤ j → zv_a h60 71 j = zv_a h60 71 j := fun j hj => rfl
              have a72 : ∀ j, 0 ≤ j → zv_a h60 72 j = zv_a h60 72 j := fun j hj => rfl
              have b69 : ∀ j, 0 ≤ j → zv_b h60 69 j = zv_b h60 69 j := fun j hj => rfl
              exact zr_vr (pc := 176) rfl rfl ⟨ih60, (w61.wd rfl : zb_W [(44, 25), (61, 0), (69, 0), (44, 50), (44, 14), (44, 42), (44, 43), (44, 49), (44, 41), (44, 38), (71, 0), (72, 0)] h _), rfl, by dsimp only; first | (exfalso; omega) | (exact zf_acr (show zv_a h 45 p = 19 by omega) ⟨(fun z => absurd z (by decide)), (fun z => absurd z (by decide)), (fun z => absurd z (by decide)), (fun z => absurd z (by decide)), (fun _ => Or.inl ⟨by omega, rfl⟩), (fun z => absurd z (by decide)), (fun z => absurd z (by decide))⟩ (by decide) reX)⟩
        · refine zx_T.l (i := .aload_n 0) (k := 1) (v := .ref 44) (pc := 68) rfl rfl rfl ?_
          refine zr_gr (k := 36) (b := 69) (pc := 69) rfl rfl rfl hI ?_
          refine zx_T.l (i := .iload_n 2) (k := 1) (v := .int (zI (t))) (pc := 72) rfl rfl rfl ?_
          refine zx_T.l (i := .aload_n 0) (k := 1) (v := .ref 44) (pc := 73) rfl rfl rfl ?_
          refine zr_gr (k := 39) (b := 71) (pc := 74) rfl rfl rfl hI ?_
          refine zx_T.l (i := .iload 5) (k := 2) (v := .int (zI (zi32 (zv_b h 69 t)))) (pc := 77) rfl rfl rfl ?_
          refine zr_al (n := 400) (lo := (-2147483648)) (hi := 2147483647) (e := zv_a h 71 (zi32 (zv_b h 69 t))) (pc := 79) rfl rfl rfl hI (by omega) (by omega) rfl (fun g75a g75b => ?_)
          refine zr_i2l (pc := 80) rfl (by omega) (by omega) ?_
          refine zr_ls2 (n := 14) (e := zv_a h 71 (zi32 (zv_b h 69 t))) (pc := 81) rfl rfl rfl hI (by omega) (by omega) (by omega) (by omega) (fun h76 ih76 w77 s78 => ?_)
          have y79 : zv_i h76 42 = zv_i h 42 := (zv_wi w77 rfl)
          have y80 : zv_i h76 43 = zv_i h 43 := (zv_wi w77 rfl)
          have y81 : zv_i h76 38 = zv_i h 38 := (zv_wi w77 rfl)
          have y82 : zv_i h76 41 = zv_i h 41 := (zv_wi w77 rfl)
          have y83 : zv_i h76 50 = zv_i h 50 := (zv_wi w77 rfl)
          have y84 : zv_i h76 14 = zv_i h 14 := (zv_wi w77 rfl)
          have y85 : zv_i h76 49 = zv_i h 49 := (zv_wi w77 rfl)
          have i25 : zv_i h76 25 = zv_i h 25 := (zv_wi w77 rfl)
          have y87 : zv_i h76 1 = zv_i h 1 := (zv_wi w77 rfl)
          have a61 : ∀ j, 0 ≤ j → zv_a h76 61 j = zv_a h 61 j := fun j hj => by rw [zv_wa w77 rfl j]
          have a71 : ∀ j, 0 ≤ j → zv_a h76 71 j = zv_a h 71 j := fun j hj => by rw [zv_wa w77 rfl j]
          have a72 : ∀ j, 0 ≤ j → zv_a h76 72 j = zv_a h 72 j := fun j hj => by rw [zv_wa w77 rfl j]
          have b69 : ∀ j, 0 ≤ j → zv_b h76 69 j = if j = t then zv_a h 71 (zi32 (zv_b h 69 t)) else zv_b h 69 j := fun j hj => by rw [s78 j hj]
          exact zr_vr (pc := 82) rfl rfl ⟨ih76, (w77.wd rfl : zb_W [(44, 25), (61, 0), (69, 0), (44, 50), (44, 14), (44, 42), (44, 43), (44, 49), (44, 41), (44, 38), (71, 0), (72, 0)] h _), rfl, by dsimp only; exact zf_aci (show zv_a h 45 p = 19 by omega) (by decide) (by decide) ⟨(fun z => absurd z (by decide)), (fun z => absurd z (by decide)), (fun z => absurd z (by decide)), (fun z => absurd z (by decide)), (fun _ => Or.inr ⟨by omega, rfl⟩), (fun z => absurd z (by decide)), (fun z => absurd z (by decide))⟩ (by omega) (by omega) (by omega) (zf_wi19 (fun j j0 => by rw [b69 j j0]) ⟨by omega, fun j j0 => by rw [a71 j j0], fun j j0 => by rw [a72 j j0]⟩) (fun _ j j0 => by rw [a61 j j0]) (fun z => absurd z (by decide)) (zf_gf0 (by omega) (by omega))⟩
      · refine zx_T.l (i := .aload_n 0) (k := 1) (v := .ref 44) (pc := 45) rfl rfl rfl ?_
        refine zx_T.l (i := .iload_n 1) (k := 1) (v := .int (zI (p))) (pc := 46) rfl rfl rfl ?_
        refine zx_T.s (i := .iconst 1) (k := 1) (st' := [.int (zI (1)), .int (zI (p)), .ref 44]) (pc := 47) rfl rfl ?_
        refine zr_iv (cj := 211) (q' := zp_m211) (As := [.int (zI (p)), .int (zI (1))]) (rest := []) (pc := 48) rfl rfl rfl rfl rfl rfl (Nat.le_of_ble_eq_true rfl) rfl (Nat.le_of_ble_eq_true rfl) hI ((zm_refuseX (h := h) hI (p := p) (q := 1) (by omega) (by omega) (by omega) (by omega) (by omega) (by omega) (by omega)).up (Nat.le_of_ble_eq_true rfl)) ?_
        rintro r94 h97 ⟨ih97, w98, r94q, x96⟩
        subst r94q
        try dsimp only at x96
        have reX := x96
        show zx_T zp_P 5 zp_m212 51 [(4, .int (zI (t))), (3, .int (zI (zv_a h 45 p))), (0, .ref 44), (1, .int (zI (p))), (2, .int (zI (t)))] [] h97 _
        have i25 : zv_i h97 25 = zv_i h97 25 := rfl
        have y107 : zv_i h97 1 = zv_i h 1 := (zv_wi w98 rfl)
        have a61 : ∀ j, 0 ≤ j → zv_a h97 61 j = zv_a h97 61 j := fun j hj => rfl
        have a71 : ∀ j, 0 ≤ j → zv_a h97 71 j = zv_a h97 71 j := fun j hj => rfl
        have a72 : ∀ j, 0 ≤ j → zv_a h97 72 j = zv_a h97 72 j := fun j hj => rfl
        have b69 : ∀ j, 0 ≤ j → zv_b h97 69 j = zv_b h97 69 j := fun j hj => rfl
        exact zr_vr (pc := 51) rfl rfl ⟨ih97, (w98.wd rfl : zb_W [(44, 25), (61, 0), (69, 0), (44, 50), (44, 14), (44, 42), (44, 43), (44, 49), (44, 41), (44, 38), (71, 0), (72, 0)] h _), rfl, by dsimp only; first | (exfalso; omega) | (exact zf_acr (show zv_a h 45 p = 19 by omega) ⟨(fun z => absurd z (by decide)), (fun z => absurd z (by decide)), (fun z => absurd z (by decide)), (fun z => absurd z (by decide)), (fun _ => Or.inl ⟨by omega, rfl⟩), (fun z => absurd z (by decide)), (fun z => absurd z (by decide))⟩ (by decide) reX)⟩
    · refine zx_T.l (i := .iload_n 2) (k := 1) (v := .int (zI (t))) (pc := 25) rfl rfl rfl ?_
      refine zx_T.s (i := .iconst 2) (k := 1) (st' := [.int (zI (2)), .int (zI (t))]) (pc := 26) rfl rfl ?_
      refine zr_sub (x := t) (y := 2) (e := t - 2) (pc := 27) rfl (by omega) ?_
      refine zx_T.j (i := .goto 4) (k := 3) (pc' := 32) (st' := [.int (zI (t - 2))]) (pc := 28) rfl rfl rfl rfl rfl ?_
      refine zx_T.t (i := .istore 4) (k := 2) (ls' := [(4, .int (zI (t - 2))), (3, .int (zI (zv_a h 45 p))), (0, .ref 44), (1, .int (zI (p))), (2, .int (zI (t)))]) (st' := []) (pc := 32) rfl rfl rfl rfl ?_
      refine zx_T.l (i := .aload_n 0) (k := 1) (v := .ref 44) (pc := 34) rfl rfl rfl ?_
      refine zr_gr (k := 37) (b := 70) (pc := 35) rfl rfl rfl hI ?_
      refine zx_T.l (i := .iload 4) (k := 2) (v := .int (zI (t - 2))) (pc := 38) rfl rfl rfl ?_
      refine zr_al (n := 14) (lo := 0) (hi := 8) (e := zv_a h 70 (t - 2)) (pc := 40) rfl rfl rfl hI (by omega) (by omega) rfl (fun g112a g112b => ?_)
      refine zx_T.s (i := .iconst 4) (k := 1) (st' := [.int (zI (4)), .int (zI (zv_a h 70 (t - 2)))]) (pc := 41) rfl rfl ?_
      refine zr_i2 (x := zv_a h 70 (t - 2)) (y := 4) (t := 52) (pc := 42) rfl rfl (by omega) (by omega) (by omega) (by omega) (fun (c113 : ¬ (zv_a h 70 (t - 2)) = 4) => ?_) (fun (c113 : ¬ (¬ (zv_a h 70 (t - 2)) = 4)) => ?_)
      · have v6 : zv_a h 70 (t - 2) = 6 := by have d2 := dz.2.1 (t - 2) (by omega); have d3 := And.intro d2.1 (And.intro d2.2.1 d2.2.2.1); clear d2; omega
        have vb := vw (t - 2) (by omega) (by omega) (by omega)
        have vo1 := vb.1
        have vo2 := vb.2.1
        have vo3 := vb.2.2 v6
        have z32 : zi32 (zv_b h 69 (t - 2)) = zv_b h 69 (t - 2) := zi32_i (by omega) (by omega)
        have vo4 := vo3
        rw [← z32] at vo4
        have vo5 := vo4.1
        have vo6 := vo4.2
        refine zx_T.l (i := .aload_n 0) (k := 1) (v := .ref 44) (pc := 52) rfl rfl rfl ?_
        refine zr_gr (k := 36) (b := 69) (pc := 53) rfl rfl rfl hI ?_
        refine zx_T.l (i := .iload 4) (k := 2) (v := .int (zI (t - 2))) (pc := 56) rfl rfl rfl ?_
        have g114 := zv_rb (h := h) 69 (t - 2)
        refine zr_ll (n := 14) (e := zv_b h 69 (t - 2)) (pc := 58) rfl rfl rfl hI (by omega) (by omega) rfl ?_
        refine zr_l2i (pc := 59) rfl ?_
        refine zr_n32 (x := zv_b h 69 (t - 2)) (fun z115a z115b => ?_)
        refine zx_T.t (i := .istore 5) (k := 2) (ls' := [(5, .int (zI (zi32 (zv_b h 69 (t - 2))))), (4, .int (zI (t - 2))), (3, .int (zI (zv_a h 45 p))), (0, .ref 44), (1, .int (zI (p))), (2, .int (zI (t)))]) (st' := []) (pc := 60) rfl rfl rfl rfl ?_
        refine zx_T.l (i := .iload_n 3) (k := 1) (v := .int (zI (zv_a h 45 p))) (pc := 62) rfl rfl rfl ?_
        refine zx_T.s (i := .bipush 19) (k := 2) (st' := [.int (zI (19)), .int (zI (zv_a h 45 p))]) (pc := 63) rfl rfl ?_
        refine zr_i2 (x := zv_a h 45 p) (y := 19) (t := 83) (pc := 65) rfl rfl (by omega) (by omega) (by omega) (by omega) (fun (c116 : ¬ (zv_a h 45 p) = 19) => ?_) (fun (c116 : ¬ (¬ (zv_a h 45 p) = 19)) => False.elim (by omega))
        refine zx_T.l (i := .aload_n 0) (k := 1) (v := .ref 44) (pc := 83) rfl rfl rfl ?_
        refine zr_gr (k := 36) (b := 69) (pc := 84) rfl rfl rfl hI ?_
        refine zx_T.l (i := .iload 4) (k := 2) (v := .int (zI (t - 2))) (pc := 87) rfl rfl rfl ?_
        refine zx_T.s (i := .iconst 1) (k := 1) (st' := [.int (zI (1)), .int (zI (t - 2)), .ref 69]) (pc := 89) rfl rfl ?_
        refine zr_add (x := t - 2) (y := 1) (e := t - 1) (pc := 90) rfl (by omega) ?_
        have g117 := zv_rb (h := h) 69 (t - 1)
        refine zr_ll (n := 14) (e := zv_b h 69 (t - 1)) (pc := 91) rfl rfl rfl hI (by omega) (by omega) rfl ?_
        refine zx_T.t (i := .lstore 6) (k := 2) (ls' := [(6, .long (zL (zv_b h 69 (t - 1)))), (5, .int (zI (zi32 (zv_b h 69 (t - 2))))), (4, .int (zI (t - 2))), (3, .int (zI (zv_a h 45 p))), (0, .ref 44), (1, .int (zI (p))), (2, .int (zI (t)))]) (st' := []) (pc := 92) rfl rfl rfl rfl ?_
        refine zx_T.l (i := .lload 6) (k := 2) (v := .long (zL (zv_b h 69 (t - 1)))) (pc := 94) rfl rfl rfl ?_
        refine zx_T.s (i := .lconst 0) (k := 1) (st' := [.long (zL (0)), .long (zL (zv_b h 69 (t - 1)))]) (pc := 96) rfl rfl ?_
        refine zr_lcmp (pc := 97) rfl (by omega) (by omega) (by omega) (by omega) (fun z118 z118a => ?_)
        refine zr_i1 (x := z118) (t := 115) (pc := 98) rfl rfl (by omega) (by omega) (fun (c119 : z118 < 0) => ?_) (fun (c119 : ¬ (z118 < 0)) => ?_)
        · refine zx_T.l (i := .aload_n 0) (k := 1) (v := .ref 44) (pc := 115) rfl rfl rfl ?_
          refine zx_T.l (i := .iload_n 1) (k := 1) (v := .int (zI (p))) (pc := 116) rfl rfl rfl ?_
          refine zx_T.s (i := .iconst 2) (k := 1) (st' := [.int (zI (2)), .int (zI (p)), .ref 44]) (pc := 117) rfl rfl ?_
          refine zr_iv (cj := 211) (q' := zp_m211) (As := [.int (zI (p)), .int (zI (2))]) (rest := []) (pc := 118) rfl rfl rfl rfl rfl rfl (Nat.le_of_ble_eq_true rfl) rfl (Nat.le_of_ble_eq_true rfl) hI ((zm_refuseX (h := h) hI (p := p) (q := 2) (by omega) (by omega) (by omega) (by omega) (by omega) (by omega) (by omega)).up (Nat.le_of_ble_eq_true rfl)) ?_
          rintro r122 h125 ⟨ih125, w126, r122q, x124⟩
          subst r122q
          try dsimp only at x124
          have reX := x124
          show zx_T zp_P 5 zp_m212 121 [(6, .long (zL (zv_b h 69 (t - 1)))), (5, .int (zI (zi32 (zv_b h 69 (t - 2))))), (4, .int (zI (t - 2))), (3, .int (zI (zv_a h 45 p))), (0, .ref 44), (1, .int (zI (p))), (2, .int (zI (t)))] [] h125 _
          refine zx_T.j (i := .goto 55) (k := 3) (pc' := 176) (st' := []) (pc := 121) rfl rfl rfl rfl rfl ?_
          have i25 : zv_i h125 25 = zv_i h125 25 := rfl
          have y135 : zv_i h125 1 = zv_i h 1 := (zv_wi w126 rfl)
          have a61 : ∀ j, 0 ≤ j → zv_a h125 61 j = zv_a h125 61 j := fun j hj => rfl
          have a71 : ∀ j, 0 ≤ j → zv_a h125 71 j = zv_a h125 71 j := fun j hj => rfl
          have a72 : ∀ j, 0 ≤ j → zv_a h125 72 j = zv_a h125 72 j := fun j hj => rfl
          have b69 : ∀ j, 0 ≤ j → zv_b h125 69 j = zv_b h125 69 j := fun j hj => rfl
          exact zr_vr (pc := 176) rfl rfl ⟨ih125, (w126.wd rfl : zb_W [(44, 25), (61, 0), (69, 0), (44, 50), (44, 14), (44, 42), (44, 43), (44, 49), (44, 41), (44, 38), (71, 0), (72, 0)] h _), rfl, by dsimp only; exact zf_acr (show zv_a h 45 p = 18 by omega) ⟨(fun z => absurd z (by decide)), (fun z => absurd z (by decide)), (fun z => absurd z (by decide)), (fun _ => (by first | exact Or.inl ⟨by omega, rfl⟩ | exact Or.inr (Or.inr ⟨by omega, by omega, rfl⟩))), (fun z => absurd z (by decide)), (fun z => absurd z (by decide)), (fun z => absurd z (by decide))⟩ (by decide) reX⟩
        · refine zx_T.l (i := .lload 6) (k := 2) (v := .long (zL (zv_b h 69 (t - 1)))) (pc := 101) rfl rfl rfl ?_
          refine zx_T.l (i := .aload_n 0) (k := 1) (v := .ref 44) (pc := 103) rfl rfl rfl ?_
          refine zr_gr (k := 39) (b := 71) (pc := 104) rfl rfl rfl hI ?_
          refine zx_T.l (i := .iload 5) (k := 2) (v := .int (zI (zi32 (zv_b h 69 (t - 2))))) (pc := 107) rfl rfl rfl ?_
          refine zr_al (n := 400) (lo := (-2147483648)) (hi := 2147483647) (e := zv_a h 71 (zi32 (zv_b h 69 (t - 2)))) (pc := 109) rfl rfl rfl hI (by omega) (by omega) rfl (fun g140a g140b => ?_)
          refine zr_i2l (pc := 110) rfl (by omega) (by omega) ?_
          refine zr_lcmp (pc := 111) rfl (by omega) (by omega) (by omega) (by omega) (fun z141 z141a => ?_)
          refine zr_i1 (x := z141) (t := 124) (pc := 112) rfl rfl (by omega) (by omega) (fun (c142 : z141 < 0) => ?_) (fun (c142 : ¬ (z141 < 0)) => ?_)
          · have z33 : zi32 (zv_b h 69 (t - 1)) = zv_b h 69 (t - 1) := zi32_i (by omega) (by omega)
            refine zx_T.l (i := .iload_n 3) (k := 1) (v := .int (zI (zv_a h 45 p))) (pc := 124) rfl rfl rfl ?_
            refine zx_T.s (i := .bipush 17) (k := 2) (st' := [.int (zI (17)), .int (zI (zv_a h 45 p))]) (pc := 125) rfl rfl ?_
            refine zr_i2 (x := zv_a h 45 p) (y := 17) (t := 155) (pc := 127) rfl rfl (by omega) (by omega) (by omega) (by omega) (fun (c143 : ¬ (zv_a h 45 p) = 17) => ?_) (fun (c143 : ¬ (¬ (zv_a h 45 p) = 17)) => False.elim (by omega))
            refine zx_T.l (i := .aload_n 0) (k := 1) (v := .ref 44) (pc := 155) rfl rfl rfl ?_
            refine zr_gr (k := 40) (b := 72) (pc := 156) rfl rfl rfl hI ?_
            refine zx_T.s (i := .bipush 20) (k := 2) (st' := [.int (zI (20)), .ref 72]) (pc := 159) rfl rfl ?_
            refine zx_T.l (i := .iload 5) (k := 2) (v := .int (zI (zi32 (zv_b h 69 (t - 2))))) (pc := 161) rfl rfl rfl ?_
            refine zr_mul (x := 20) (y := zi32 (zv_b h 69 (t - 2))) (e := 20 * (zi32 (zv_b h 69 (t - 2)))) (pc := 163) rfl (by omega) ?_
            refine zx_T.l (i := .lload 6) (k := 2) (v := .long (zL (zv_b h 69 (t - 1)))) (pc := 164) rfl rfl rfl ?_
            refine zr_l2i (pc := 166) rfl ?_
            refine zr_n32 (x := zv_b h 69 (t - 1)) (fun z144a z144b => ?_)
            refine zr_add (x := 20 * (zi32 (zv_b h 69 (t - 2)))) (y := zi32 (zv_b h 69 (t - 1))) (e := 20 * (zi32 (zv_b h 69 (t - 2))) + zi32 (zv_b h 69 (t - 1))) (pc := 167) rfl (by omega) ?_
            refine zx_T.l (i := .aload_n 0) (k := 1) (v := .ref 44) (pc := 168) rfl rfl rfl ?_
            refine zr_gr (k := 36) (b := 69) (pc := 169) rfl rfl rfl hI ?_
            refine zx_T.l (i := .iload_n 2) (k := 1) (v := .int (zI (t))) (pc := 172) rfl rfl rfl ?_
            have g145 := zv_rb (h := h) 69 t
            refine zr_ll (n := 14) (e := zv_b h 69 t) (pc := 173) rfl rfl rfl hI (by omega) (by omega) rfl ?_
            refine zr_l2i (pc := 174) rfl ?_
            refine zr_n32 (x := zv_b h 69 t) (fun z146a z146b => ?_)
            refine zr_as (n := 8000) (lo := (-2147483648)) (hi := 2147483647) (e := zi32 (zv_b h 69 t)) (pc := 175) rfl rfl rfl rfl hI (by omega) (by omega) (by omega) (by omega) (fun h147 ih147 w148 s149 => ?_)
            have y150 : zv_i h147 42 = zv_i h 42 := (zv_wi w148 rfl)
            have y151 : zv_i h147 43 = zv_i h 43 := (zv_wi w148 rfl)
            have y152 : zv_i h147 38 = zv_i h 38 := (zv_wi w148 rfl)
            have y153 : zv_i h147 41 = zv_i h 41 := (zv_wi w148 rfl)
            have y154 : zv_i h147 50 = zv_i h 50 := (zv_wi w148 rfl)
            have y155 : zv_i h147 14 = zv_i h 14 := (zv_wi w148 rfl)
            have y156 : zv_i h147 49 = zv_i h 49 := (zv_wi w148 rfl)
            have i25 : zv_i h147 25 = zv_i h 25 := (zv_wi w148 rfl)
            have y158 : zv_i h147 1 = zv_i h 1 := (zv_wi w148 rfl)
            have a61 : ∀ j, 0 ≤ j → zv_a h147 61 j = zv_a h 61 j := fun j hj => by rw [zv_wa w148 rfl j]
            have a71 : ∀ j, 0 ≤ j → zv_a h147 71 j = zv_a h 71 j := fun j hj => by rw [zv_wa w148 rfl j]
            have a72 : ∀ j, 0 ≤ j → zv_a h147 72 j = if j = 20 * (zi32 (zv_b h 69 (t - 2))) + zi32 (zv_b h 69 (t - 1)) then zi32 (zv_b h 69 t) else zv_a h 72 j := fun j hj => by rw [s149 j hj]
            have b69 : ∀ j, 0 ≤ j → zv_b h147 69 j = zv_b h 69 j := fun j hj => by rw [zv_wb w148 rfl j]
            exact zr_vr (pc := 176) rfl rfl ⟨ih147, (w148.wd rfl : zb_W [(44, 25), (61, 0), (69, 0), (44, 50), (44, 14), (44, 42), (44, 43), (44, 49), (44, 41), (44, 38), (71, 0), (72, 0)] h _), rfl, by dsimp only; exact zf_aci (show zv_a h 45 p = 18 by omega) (by decide) (by decide) ⟨(fun z => absurd z (by decide)), (fun z => absurd z (by decide)), (fun z => absurd z (by decide)), (fun _ => Or.inr (Or.inl ⟨by omega, by omega, rfl⟩)), (fun z => absurd z (by decide)), (fun z => absurd z (by decide)), (fun z => absurd z (by decide))⟩ (by omega) (by omega) (by omega) (zf_wi18 ⟨fun j j0 => by rw [b69 j j0], fun j j0 => by rw [a72 j j0], by omega, fun j j0 => by rw [a71 j j0]⟩) (fun _ j j0 => by rw [a61 j j0]) (fun z => absurd z (by decide)) (zf_gf0 (by omega) (by omega))⟩
          · refine zx_T.l (i := .aload_n 0) (k := 1) (v := .ref 44) (pc := 115) rfl rfl rfl ?_
            refine zx_T.l (i := .iload_n 1) (k := 1) (v := .int (zI (p))) (pc := 116) rfl rfl rfl ?_
            refine zx_T.s (i := .iconst 2) (k := 1) (st' := [.int (zI (2)), .int (zI (p)), .ref 44]) (pc := 117) rfl rfl ?_
            refine zr_iv (cj := 211) (q' := zp_m211) (As := [.int (zI (p)), .int (zI (2))]) (rest := []) (pc := 118) rfl rfl rfl rfl rfl rfl (Nat.le_of_ble_eq_true rfl) rfl (Nat.le_of_ble_eq_true rfl) hI ((zm_refuseX (h := h) hI (p := p) (q := 2) (by omega) (by omega) (by omega) (by omega) (by omega) (by omega) (by omega)).up (Nat.le_of_ble_eq_true rfl)) ?_
            rintro r165 h168 ⟨ih168, w169, r165q, x167⟩
            subst r165q
            try dsimp only at x167
            have reX := x167
            show zx_T zp_P 5 zp_m212 121 [(6, .long (zL (zv_b h 69 (t - 1)))), (5, .int (zI (zi32 (zv_b h 69 (t - 2))))), (4, .int (zI (t - 2))), (3, .int (zI (zv_a h 45 p))), (0, .ref 44), (1, .int (zI (p))), (2, .int (zI (t)))] [] h168 _
            refine zx_T.j (i := .goto 55) (k := 3) (pc' := 176) (st' := []) (pc := 121) rfl rfl rfl rfl rfl ?_
            have i25 : zv_i h168 25 = zv_i h168 25 := rfl
            have y178 : zv_i h168 1 = zv_i h 1 := (zv_wi w169 rfl)
            have a61 : ∀ j, 0 ≤ j → zv_a h168 61 j = zv_a h168 61 j := fun j hj => rfl
            have a71 : ∀ j, 0 ≤ j → zv_a h168 71 j = zv_a h168 71 j := fun j hj => rfl
            have a72 : ∀ j, 0 ≤ j → zv_a h168 72 j = zv_a h168 72 j := fun j hj => rfl
            have b69 : ∀ j, 0 ≤ j → zv_b h168 69 j = zv_b h168 69 j := fun j hj => rfl
            exact zr_vr (pc := 176) rfl rfl ⟨ih168, (w169.wd rfl : zb_W [(44, 25), (61, 0), (69, 0), (44, 50), (44, 14), (44, 42), (44, 43), (44, 49), (44, 41), (44, 38), (71, 0), (72, 0)] h _), rfl, by dsimp only; exact zf_acr (show zv_a h 45 p = 18 by omega) ⟨(fun z => absurd z (by decide)), (fun z => absurd z (by decide)), (fun z => absurd z (by decide)), (fun _ => (by first | exact Or.inl ⟨by omega, rfl⟩ | exact Or.inr (Or.inr ⟨by omega, by omega, rfl⟩))), (fun z => absurd z (by decide)), (fun z => absurd z (by decide)), (fun z => absurd z (by decide))⟩ (by decide) reX⟩
      · refine zx_T.l (i := .aload_n 0) (k := 1) (v := .ref 44) (pc := 45) rfl rfl rfl ?_
        refine zx_T.l (i := .iload_n 1) (k := 1) (v := .int (zI (p))) (pc := 46) rfl rfl rfl ?_
        refine zx_T.s (i := .iconst 1) (k := 1) (st' := [.int (zI (1)), .int (zI (p)), .ref 44]) (pc := 47) rfl rfl ?_
        refine zr_iv (cj := 211) (q' := zp_m211) (As := [.int (zI (p)), .int (zI (1))]) (rest := []) (pc := 48) rfl rfl rfl rfl rfl rfl (Nat.le_of_ble_eq_true rfl) rfl (Nat.le_of_ble_eq_true rfl) hI ((zm_refuseX (h := h) hI (p := p) (q := 1) (by omega) (by omega) (by omega) (by omega) (by omega) (by omega) (by omega)).up (Nat.le_of_ble_eq_true rfl)) ?_
        rintro r185 h188 ⟨ih188, w189, r185q, x187⟩
        subst r185q
        try dsimp only at x187
        have reX := x187
        show zx_T zp_P 5 zp_m212 51 [(4, .int (zI (t - 2))), (3, .int (zI (zv_a h 45 p))), (0, .ref 44), (1, .int (zI (p))), (2, .int (zI (t)))] [] h188 _
        have i25 : zv_i h188 25 = zv_i h188 25 := rfl
        have y198 : zv_i h188 1 = zv_i h 1 := (zv_wi w189 rfl)
        have a61 : ∀ j, 0 ≤ j → zv_a h188 61 j = zv_a h188 61 j := fun j hj => rfl
        have a71 : ∀ j, 0 ≤ j → zv_a h188 71 j = zv_a h188 71 j := fun j hj => rfl
        have a72 : ∀ j, 0 ≤ j → zv_a h188 72 j = zv_a h188 72 j := fun j hj => rfl
        have b69 : ∀ j, 0 ≤ j → zv_b h188 69 j = zv_b h188 69 j := fun j hj => rfl
        exact zr_vr (pc := 51) rfl rfl ⟨ih188, (w189.wd rfl : zb_W [(44, 25), (61, 0), (69, 0), (44, 50), (44, 14), (44, 42), (44, 43), (44, 49), (44, 41), (44, 38), (71, 0), (72, 0)] h _), rfl, by dsimp only; exact zf_acr (show zv_a h 45 p = 18 by omega) ⟨(fun z => absurd z (by decide)), (fun z => absurd z (by decide)), (fun z => absurd z (by decide)), (fun _ => (by first | exact Or.inl ⟨by omega, rfl⟩ | exact Or.inr (Or.inr ⟨by omega, by omega, rfl⟩))), (fun z => absurd z (by decide)), (fun z => absurd z (by decide)), (fun z => absurd z (by decide))⟩ (by decide) reX⟩
  · refine zx_T.l (i := .iload_n 2) (k := 1) (v := .int (zI (t))) (pc := 13) rfl rfl rfl ?_
    refine zx_T.s (i := .iconst 1) (k := 1) (st' := [.int (zI (1)), .int (zI (t))]) (pc := 14) rfl rfl ?_
    refine zr_sub (x := t) (y := 1) (e := t - 1) (pc := 15) rfl (by omega) ?_
    refine zx_T.j (i := .goto 16) (k := 3) (pc' := 32) (st' := [.int (zI (t - 1))]) (pc := 16) rfl rfl rfl rfl rfl ?_
    refine zx_T.t (i := .istore 4) (k := 2) (ls' := [(4, .int (zI (t - 1))), (3, .int (zI (zv_a h 45 p))), (0, .ref 44), (1, .int (zI (p))), (2, .int (zI (t)))]) (st' := []) (pc := 32) rfl rfl rfl rfl ?_
    refine zx_T.l (i := .aload_n 0) (k := 1) (v := .ref 44) (pc := 34) rfl rfl rfl ?_
    refine zr_gr (k := 37) (b := 70) (pc := 35) rfl rfl rfl hI ?_
    refine zx_T.l (i := .iload 4) (k := 2) (v := .int (zI (t - 1))) (pc := 38) rfl rfl rfl ?_
    refine zr_al (n := 14) (lo := 0) (hi := 8) (e := zv_a h 70 (t - 1)) (pc := 40) rfl rfl rfl hI (by omega) (by omega) rfl (fun g203a g203b => ?_)
    refine zx_T.s (i := .iconst 4) (k := 1) (st' := [.int (zI (4)), .int (zI (zv_a h 70 (t - 1)))]) (pc := 41) rfl rfl ?_
    refine zr_i2 (x := zv_a h 70 (t - 1)) (y := 4) (t := 52) (pc := 42) rfl rfl (by omega) (by omega) (by omega) (by omega) (fun (c204 : ¬ (zv_a h 70 (t - 1)) = 4) => ?_) (fun (c204 : ¬ (¬ (zv_a h 70 (t - 1)) = 4)) => ?_)
    · have v6 : zv_a h 70 (t - 1) = 6 := by have d2 := dz.2.1 (t - 1) (by omega); have d3 := And.intro d2.1 (And.intro d2.2.1 d2.2.2.1); clear d2; omega
      have vb := vw (t - 1) (by omega) (by omega) (by omega)
      have vo1 := vb.1
      have vo2 := vb.2.1
      have vo3 := vb.2.2 v6
      have z32 : zi32 (zv_b h 69 (t - 1)) = zv_b h 69 (t - 1) := zi32_i (by omega) (by omega)
      have vo4 := vo3
      rw [← z32] at vo4
      have vo5 := vo4.1
      have vo6 := vo4.2
      refine zx_T.l (i := .aload_n 0) (k := 1) (v := .ref 44) (pc := 52) rfl rfl rfl ?_
      refine zr_gr (k := 36) (b := 69) (pc := 53) rfl rfl rfl hI ?_
      refine zx_T.l (i := .iload 4) (k := 2) (v := .int (zI (t - 1))) (pc := 56) rfl rfl rfl ?_
      have g205 := zv_rb (h := h) 69 (t - 1)
      refine zr_ll (n := 14) (e := zv_b h 69 (t - 1)) (pc := 58) rfl rfl rfl hI (by omega) (by omega) rfl ?_
      refine zr_l2i (pc := 59) rfl ?_
      refine zr_n32 (x := zv_b h 69 (t - 1)) (fun z206a z206b => ?_)
      refine zx_T.t (i := .istore 5) (k := 2) (ls' := [(5, .int (zI (zi32 (zv_b h 69 (t - 1))))), (4, .int (zI (t - 1))), (3, .int (zI (zv_a h 45 p))), (0, .ref 44), (1, .int (zI (p))), (2, .int (zI (t)))]) (st' := []) (pc := 60) rfl rfl rfl rfl ?_
      refine zx_T.l (i := .iload_n 3) (k := 1) (v := .int (zI (zv_a h 45 p))) (pc := 62) rfl rfl rfl ?_
      refine zx_T.s (i := .bipush 19) (k := 2) (st' := [.int (zI (19)), .int (zI (zv_a h 45 p))]) (pc := 63) rfl rfl ?_
      refine zr_i2 (x := zv_a h 45 p) (y := 19) (t := 83) (pc := 65) rfl rfl (by omega) (by omega) (by omega) (by omega) (fun (c207 : ¬ (zv_a h 45 p) = 19) => ?_) (fun (c207 : ¬ (¬ (zv_a h 45 p) = 19)) => False.elim (by omega))
      refine zx_T.l (i := .aload_n 0) (k := 1) (v := .ref 44) (pc := 83) rfl rfl rfl ?_
      refine zr_gr (k := 36) (b := 69) (pc := 84) rfl rfl rfl hI ?_
      refine zx_T.l (i := .iload 4) (k := 2) (v := .int (zI (t - 1))) (pc := 87) rfl rfl rfl ?_
      refine zx_T.s (i := .iconst 1) (k := 1) (st' := [.int (zI (1)), .int (zI (t - 1)), .ref 69]) (pc := 89) rfl rfl ?_
      refine zr_add (x := t - 1) (y := 1) (e := t) (pc := 90) rfl (by omega) ?_
      have g208 := zv_rb (h := h) 69 t
      refine zr_ll (n := 14) (e := zv_b h 69 t) (pc := 91) rfl rfl rfl hI (by omega) (by omega) rfl ?_
      refine zx_T.t (i := .lstore 6) (k := 2) (ls' := [(6, .long (zL (zv_b h 69 t))), (5, .int (zI (zi32 (zv_b h 69 (t - 1))))), (4, .int (zI (t - 1))), (3, .int (zI (zv_a h 45 p))), (0, .ref 44), (1, .int (zI (p))), (2, .int (zI (t)))]) (st' := []) (pc := 92) rfl rfl rfl rfl ?_
      refine zx_T.l (i := .lload 6) (k := 2) (v := .long (zL (zv_b h 69 t))) (pc := 94) rfl rfl rfl ?_
      refine zx_T.s (i := .lconst 0) (k := 1) (st' := [.long (zL (0)), .long (zL (zv_b h 69 t))]) (pc := 96) rfl rfl ?_
      refine zr_lcmp (pc := 97) rfl (by omega) (by omega) (by omega) (by omega) (fun z209 z209a => ?_)
      refine zr_i1 (x := z209) (t := 115) (pc := 98) rfl rfl (by omega) (by omega) (fun (c210 : z209 < 0) => ?_) (fun (c210 : ¬ (z209 < 0)) => ?_)
      · refine zx_T.l (i := .aload_n 0) (k := 1) (v := .ref 44) (pc := 115) rfl rfl rfl ?_
        refine zx_T.l (i := .iload_n 1) (k := 1) (v := .int (zI (p))) (pc := 116) rfl rfl rfl ?_
        refine zx_T.s (i := .iconst 2) (k := 1) (st' := [.int (zI (2)), .int (zI (p)), .ref 44]) (pc := 117) rfl rfl ?_
        refine zr_iv (cj := 211) (q' := zp_m211) (As := [.int (zI (p)), .int (zI (2))]) (rest := []) (pc := 118) rfl rfl rfl rfl rfl rfl (Nat.le_of_ble_eq_true rfl) rfl (Nat.le_of_ble_eq_true rfl) hI ((zm_refuseX (h := h) hI (p := p) (q := 2) (by omega) (by omega) (by omega) (by omega) (by omega) (by omega) (by omega)).up (Nat.le_of_ble_eq_true rfl)) ?_
        rintro r213 h216 ⟨ih216, w217, r213q, x215⟩
        subst r213q
        try dsimp only at x215
        have reX := x215
        show zx_T zp_P 5 zp_m212 121 [(6, .long (zL (zv_b h 69 t))), (5, .int (zI (zi32 (zv_b h 69 (t - 1))))), (4, .int (zI (t - 1))), (3, .int (zI (zv_a h 45 p))), (0, .ref 44), (1, .int (zI (p))), (2, .int (zI (t)))] [] h216 _
        refine zx_T.j (i := .goto 55) (k := 3) (pc' := 176) (st' := []) (pc := 121) rfl rfl rfl rfl rfl ?_
        have i25 : zv_i h216 25 = zv_i h216 25 := rfl
        have y226 : zv_i h216 1 = zv_i h 1 := (zv_wi w217 rfl)
        have a61 : ∀ j, 0 ≤ j → zv_a h216 61 j = zv_a h216 61 j := fun j hj => rfl
        have a71 : ∀ j, 0 ≤ j → zv_a h216 71 j = zv_a h216 71 j := fun j hj => rfl
        have a72 : ∀ j, 0 ≤ j → zv_a h216 72 j = zv_a h216 72 j := fun j hj => rfl
        have b69 : ∀ j, 0 ≤ j → zv_b h216 69 j = zv_b h216 69 j := fun j hj => rfl
        exact zr_vr (pc := 176) rfl rfl ⟨ih216, (w217.wd rfl : zb_W [(44, 25), (61, 0), (69, 0), (44, 50), (44, 14), (44, 42), (44, 43), (44, 49), (44, 41), (44, 38), (71, 0), (72, 0)] h _), rfl, by dsimp only; exact zf_acr (show zv_a h 45 p = 17 by omega) ⟨(fun z => absurd z (by decide)), (fun z => absurd z (by decide)), (fun _ => (by first | exact Or.inl ⟨by omega, rfl⟩ | exact Or.inr (Or.inr ⟨by omega, by omega, rfl⟩))), (fun z => absurd z (by decide)), (fun z => absurd z (by decide)), (fun z => absurd z (by decide)), (fun z => absurd z (by decide))⟩ (by decide) reX⟩
      · refine zx_T.l (i := .lload 6) (k := 2) (v := .long (zL (zv_b h 69 t))) (pc := 101) rfl rfl rfl ?_
        refine zx_T.l (i := .aload_n 0) (k := 1) (v := .ref 44) (pc := 103) rfl rfl rfl ?_
        refine zr_gr (k := 39) (b := 71) (pc := 104) rfl rfl rfl hI ?_
        refine zx_T.l (i := .iload 5) (k := 2) (v := .int (zI (zi32 (zv_b h 69 (t - 1))))) (pc := 107) rfl rfl rfl ?_
        refine zr_al (n := 400) (lo := (-2147483648)) (hi := 2147483647) (e := zv_a h 71 (zi32 (zv_b h 69 (t - 1)))) (pc := 109) rfl rfl rfl hI (by omega) (by omega) rfl (fun g231a g231b => ?_)
        refine zr_i2l (pc := 110) rfl (by omega) (by omega) ?_
        refine zr_lcmp (pc := 111) rfl (by omega) (by omega) (by omega) (by omega) (fun z232 z232a => ?_)
        refine zr_i1 (x := z232) (t := 124) (pc := 112) rfl rfl (by omega) (by omega) (fun (c233 : z232 < 0) => ?_) (fun (c233 : ¬ (z232 < 0)) => ?_)
        · have z33 : zi32 (zv_b h 69 t) = zv_b h 69 t := zi32_i (by omega) (by omega)
          refine zx_T.l (i := .iload_n 3) (k := 1) (v := .int (zI (zv_a h 45 p))) (pc := 124) rfl rfl rfl ?_
          refine zx_T.s (i := .bipush 17) (k := 2) (st' := [.int (zI (17)), .int (zI (zv_a h 45 p))]) (pc := 125) rfl rfl ?_
          refine zr_i2 (x := zv_a h 45 p) (y := 17) (t := 155) (pc := 127) rfl rfl (by omega) (by omega) (by omega) (by omega) (fun (c234 : ¬ (zv_a h 45 p) = 17) => False.elim (by omega)) (fun (c234 : ¬ (¬ (zv_a h 45 p) = 17)) => ?_)
          refine zx_T.l (i := .aload_n 0) (k := 1) (v := .ref 44) (pc := 130) rfl rfl rfl ?_
          refine zr_gr (k := 36) (b := 69) (pc := 131) rfl rfl rfl hI ?_
          refine zx_T.l (i := .iload 4) (k := 2) (v := .int (zI (t - 1))) (pc := 134) rfl rfl rfl ?_
          refine zx_T.l (i := .aload_n 0) (k := 1) (v := .ref 44) (pc := 136) rfl rfl rfl ?_
          refine zr_gr (k := 40) (b := 72) (pc := 137) rfl rfl rfl hI ?_
          refine zx_T.s (i := .bipush 20) (k := 2) (st' := [.int (zI (20)), .ref 72, .int (zI (t - 1)), .ref 69]) (pc := 140) rfl rfl ?_
          refine zx_T.l (i := .iload 5) (k := 2) (v := .int (zI (zi32 (zv_b h 69 (t - 1))))) (pc := 142) rfl rfl rfl ?_
          refine zr_mul (x := 20) (y := zi32 (zv_b h 69 (t - 1))) (e := 20 * (zi32 (zv_b h 69 (t - 1)))) (pc := 144) rfl (by omega) ?_
          refine zx_T.l (i := .lload 6) (k := 2) (v := .long (zL (zv_b h 69 t))) (pc := 145) rfl rfl rfl ?_
          refine zr_l2i (pc := 147) rfl ?_
          refine zr_n32 (x := zv_b h 69 t) (fun z235a z235b => ?_)
          refine zr_add (x := 20 * (zi32 (zv_b h 69 (t - 1)))) (y := zi32 (zv_b h 69 t)) (e := 20 * (zi32 (zv_b h 69 (t - 1))) + zi32 (zv_b h 69 t)) (pc := 148) rfl (by omega) ?_
          refine zr_al (n := 8000) (lo := (-2147483648)) (hi := 2147483647) (e := zv_a h 72 (20 * (zi32 (zv_b h 69 (t - 1))) + zi32 (zv_b h 69 t))) (pc := 149) rfl rfl rfl hI (by omega) (by omega) rfl (fun g236a g236b => ?_)
          refine zr_i2l (pc := 150) rfl (by omega) (by omega) ?_
          refine zr_ls2 (n := 14) (e := zv_a h 72 (20 * (zi32 (zv_b h 69 (t - 1))) + zi32 (zv_b h 69 t))) (pc := 151) rfl rfl rfl hI (by omega) (by omega) (by omega) (by omega) (fun h237 ih237 w238 s239 => ?_)
          refine zx_T.j (i := .goto 24) (k := 3) (pc' := 176) (st' := []) (pc := 152) rfl rfl rfl rfl rfl ?_
          have y240 : zv_i h237 42 = zv_i h 42 := (zv_wi w238 rfl)
          have y241 : zv_i h237 43 = zv_i h 43 := (zv_wi w238 rfl)
          have y242 : zv_i h237 38 = zv_i h 38 := (zv_wi w238 rfl)
          have y243 : zv_i h237 41 = zv_i h 41 := (zv_wi w238 rfl)
          have y244 : zv_i h237 50 = zv_i h 50 := (zv_wi w238 rfl)
          have y245 : zv_i h237 14 = zv_i h 14 := (zv_wi w238 rfl)
          have y246 : zv_i h237 49 = zv_i h 49 := (zv_wi w238 rfl)
          have i25 : zv_i h237 25 = zv_i h 25 := (zv_wi w238 rfl)
          have y248 : zv_i h237 1 = zv_i h 1 := (zv_wi w238 rfl)
          have a61 : ∀ j, 0 ≤ j → zv_a h237 61 j = zv_a h 61 j := fun j hj => by rw [zv_wa w238 rfl j]
          have a71 : ∀ j, 0 ≤ j → zv_a h237 71 j = zv_a h 71 j := fun j hj => by rw [zv_wa w238 rfl j]
          have a72 : ∀ j, 0 ≤ j → zv_a h237 72 j = zv_a h 72 j := fun j hj => by rw [zv_wa w238 rfl j]
          have b69 : ∀ j, 0 ≤ j → zv_b h237 69 j = if j = t - 1 then zv_a h 72 (20 * (zi32 (zv_b h 69 (t - 1))) + zi32 (zv_b h 69 t)) else zv_b h 69 j := fun j hj => by rw [s239 j hj]
          exact zr_vr (pc := 176) rfl rfl ⟨ih237, (w238.wd rfl : zb_W [(44, 25), (61, 0), (69, 0), (44, 50), (44, 14), (44, 42), (44, 43), (44, 49), (44, 41), (44, 38), (71, 0), (72, 0)] h _), rfl, by dsimp only; exact zf_aci (show zv_a h 45 p = 17 by omega) (by decide) (by decide) ⟨(fun z => absurd z (by decide)), (fun z => absurd z (by decide)), (fun _ => Or.inr (Or.inl ⟨by omega, by omega, rfl⟩)), (fun z => absurd z (by decide)), (fun z => absurd z (by decide)), (fun z => absurd z (by decide)), (fun z => absurd z (by decide))⟩ (by omega) (by omega) (by omega) (zf_wi17 (fun j j0 => by rw [b69 j j0]) ⟨by omega, fun j j0 => by rw [a71 j j0], fun j j0 => by rw [a72 j j0]⟩) (fun _ j j0 => by rw [a61 j j0]) (fun z => absurd z (by decide)) (zf_gf0 (by omega) (by omega))⟩
        · refine zx_T.l (i := .aload_n 0) (k := 1) (v := .ref 44) (pc := 115) rfl rfl rfl ?_
          refine zx_T.l (i := .iload_n 1) (k := 1) (v := .int (zI (p))) (pc := 116) rfl rfl rfl ?_
          refine zx_T.s (i := .iconst 2) (k := 1) (st' := [.int (zI (2)), .int (zI (p)), .ref 44]) (pc := 117) rfl rfl ?_
          refine zr_iv (cj := 211) (q' := zp_m211) (As := [.int (zI (p)), .int (zI (2))]) (rest := []) (pc := 118) rfl rfl rfl rfl rfl rfl (Nat.le_of_ble_eq_true rfl) rfl (Nat.le_of_ble_eq_true rfl) hI ((zm_refuseX (h := h) hI (p := p) (q := 2) (by omega) (by omega) (by omega) (by omega) (by omega) (by omega) (by omega)).up (Nat.le_of_ble_eq_true rfl)) ?_
          rintro r255 h258 ⟨ih258, w259, r255q, x257⟩
          subst r255q
          try dsimp only at x257
          have reX := x257
          show zx_T zp_P 5 zp_m212 121 [(6, .long (zL (zv_b h 69 t))), (5, .int (zI (zi32 (zv_b h 69 (t - 1))))), (4, .int (zI (t - 1))), (3, .int (zI (zv_a h 45 p))), (0, .ref 44), (1, .int (zI (p))), (2, .int (zI (t)))] [] h258 _
          refine zx_T.j (i := .goto 55) (k := 3) (pc' := 176) (st' := []) (pc := 121) rfl rfl rfl rfl rfl ?_
          have i25 : zv_i h258 25 = zv_i h258 25 := rfl
          have y268 : zv_i h258 1 = zv_i h 1 := (zv_wi w259 rfl)
          have a61 : ∀ j, 0 ≤ j → zv_a h258 61 j = zv_a h258 61 j := fun j hj => rfl
          have a71 : ∀ j, 0 ≤ j → zv_a h258 71 j = zv_a h258 71 j := fun j hj => rfl
          have a72 : ∀ j, 0 ≤ j → zv_a h258 72 j = zv_a h258 72 j := fun j hj => rfl
          have b69 : ∀ j, 0 ≤ j → zv_b h258 69 j = zv_b h258 69 j := fun j hj => rfl
          exact zr_vr (pc := 176) rfl rfl ⟨ih258, (w259.wd rfl : zb_W [(44, 25), (61, 0), (69, 0), (44, 50), (44, 14), (44, 42), (44, 43), (44, 49), (44, 41), (44, 38), (71, 0), (72, 0)] h _), rfl, by dsimp only; exact zf_acr (show zv_a h 45 p = 17 by omega) ⟨(fun z => absurd z (by decide)), (fun z => absurd z (by decide)), (fun _ => (by first | exact Or.inl ⟨by omega, rfl⟩ | exact Or.inr (Or.inr ⟨by omega, by omega, rfl⟩))), (fun z => absurd z (by decide)), (fun z => absurd z (by decide)), (fun z => absurd z (by decide)), (fun z => absurd z (by decide))⟩ (by decide) reX⟩
    · refine zx_T.l (i := .aload_n 0) (k := 1) (v := .ref 44) (pc := 45) rfl rfl rfl ?_
      refine zx_T.l (i := .iload_n 1) (k := 1) (v := .int (zI (p))) (pc := 46) rfl rfl rfl ?_
      refine zx_T.s (i := .iconst 1) (k := 1) (st' := [.int (zI (1)), .int (zI (p)), .ref 44]) (pc := 47) rfl rfl ?_
      refine zr_iv (cj := 211) (q' := zp_m211) (As := [.int (zI (p)), .int (zI (1))]) (rest := []) (pc := 48) rfl rfl rfl rfl rfl rfl (Nat.le_of_ble_eq_true rfl) rfl (Nat.le_of_ble_eq_true rfl) hI ((zm_refuseX (h := h) hI (p := p) (q := 1) (by omega) (by omega) (by omega) (by omega) (by omega) (by omega) (by omega)).up (Nat.le_of_ble_eq_true rfl)) ?_
      rintro r275 h278 ⟨ih278, w279, r275q, x277⟩
      subst r275q
      try dsimp only at x277
      have reX := x277
      show zx_T zp_P 5 zp_m212 51 [(4, .int (zI (t - 1))), (3, .int (zI (zv_a h 45 p))), (0, .ref 44), (1, .int (zI (p))), (2, .int (zI (t)))] [] h278 _
      have i25 : zv_i h278 25 = zv_i h278 25 := rfl
      have y288 : zv_i h278 1 = zv_i h 1 := (zv_wi w279 rfl)
      have a61 : ∀ j, 0 ≤ j → zv_a h278 61 j = zv_a h278 61 j := fun j hj => rfl
      have a71 : ∀ j, 0 ≤ j → zv_a h278 71 j = zv_a h278 71 j := fun j hj => rfl
      have a72 : ∀ j, 0 ≤ j → zv_a h278 72 j = zv_a h278 72 j := fun j hj => rfl
      have b69 : ∀ j, 0 ≤ j → zv_b h278 69 j = zv_b h278 69 j := fun j hj => rfl
      exact zr_vr (pc := 51) rfl rfl ⟨ih278, (w279.wd rfl : zb_W [(44, 25), (61, 0), (69, 0), (44, 50), (44, 14), (44, 42), (44, 43), (44, 49), (44, 41), (44, 38), (71, 0), (72, 0)] h _), rfl, by dsimp only; exact zf_acr (show zv_a h 45 p = 17 by omega) ⟨(fun z => absurd z (by decide)), (fun z => absurd z (by decide)), (fun _ => (by first | exact Or.inl ⟨by omega, rfl⟩ | exact Or.inr (Or.inr ⟨by omega, by omega, rfl⟩))), (fun z => absurd z (by decide)), (fun z => absurd z (by decide)), (fun z => absurd z (by decide)), (fun z => absurd z (by decide))⟩ (by decide) reX⟩

set_option maxRecDepth 100000 in
set_option maxHeartbeats 8000000 in
theorem zm_numbersX {h : zx_H} (hI : zb_I zc_H h) {p : Int} {t : Int} (p1 : 0 ≤ p) (p2 : p ≤ 59) (t1 : 7 ≤ t) (t2 : t ≤ 13) (dz : zg_dz (zv_a h 45 p) (zv_a h 46 p) (t - 7) (zv_i h 25) (zv_a h 70) (zv_a h 61)) (vw : zg_VW h t) (t9 : zv_i h 38 ≤ 399) (r9 : zv_i h 41 ≤ 1000000) (r8 : (-5) ≤ zv_i h 41) (x0 : zv_i h 42 = 0) (nx : zv_i h 50 = (-1)) (o1 : 12 ≤ zv_a h 45 p) (o2 : zv_a h 45 p ≤ 16) : zx_T zp_P 5 zp_m213 0 [(0, .ref 44), (1, .int (zI (p))), (2, .int (zI (t)))] [] h (zr_V [(44, 25), (61, 0), (69, 0), (44, 50), (44, 14), (44, 42), (44, 43), (44, 49), (44, 41), (44, 38), (71, 0), (72, 0)] h (fun h' => zf_ach h h' p t)) := by
  have hS := zv_ri hI (k := 25) rfl
  have hT := zv_ri hI (k := 38) rfl
  have hC := zv_ri hI (k := 1) rfl
  refine zx_T.l (i := .aload_n 0) (k := 1) (v := .ref 44) (pc := 0) rfl rfl rfl ?_
  refine zr_gr (k := 2) (b := 45) (pc := 1) rfl rfl rfl hI ?_
  refine zx_T.l (i := .iload_n 1) (k := 1) (v := .int (zI (p))) (pc := 4) rfl rfl rfl ?_
  refine zr_al (n := 60) (lo := 0) (hi := 28) (e := zv_a h 45 p) (pc := 5) rfl rfl rfl hI (by omega) (by omega) rfl (fun g1a g1b => ?_)
  have c2 : zv_a h 45 p = 12 ∨ zv_a h 45 p = 13 ∨ zv_a h 45 p = 14 ∨ zv_a h 45 p = 15 ∨ zv_a h 45 p = 16 := by omega
  rcases c2 with c2 | c2 | c2 | c2 | c2
  · refine zr_sw (i := .tableswitch 155 12 15 #[30, 58, 106, 134]) (len := 30) (t := 36) (x := zv_a h 45 p) (k := 12) (pc := 6) rfl c2 rfl rfl rfl rfl ?_
    refine zx_T.l (i := .aload_n 0) (k := 1) (v := .ref 44) (pc := 36) rfl rfl rfl ?_
    refine zr_gr (k := 36) (b := 69) (pc := 37) rfl rfl rfl hI ?_
    refine zx_T.l (i := .iload_n 2) (k := 1) (v := .int (zI (t))) (pc := 40) rfl rfl rfl ?_
    refine zx_T.s (i := .iconst 1) (k := 1) (st' := [.int (zI (1)), .int (zI (t)), .ref 69]) (pc := 41) rfl rfl ?_
    refine zr_sub (x := t) (y := 1) (e := t - 1) (pc := 42) rfl (by omega) ?_
    refine zx_T.l (i := .aload_n 0) (k := 1) (v := .ref 44) (pc := 43) rfl rfl rfl ?_
    refine zr_gr (k := 36) (b := 69) (pc := 44) rfl rfl rfl hI ?_
    refine zx_T.l (i := .iload_n 2) (k := 1) (v := .int (zI (t))) (pc := 47) rfl rfl rfl ?_
    refine zx_T.s (i := .iconst 1) (k := 1) (st' := [.int (zI (1)), .int (zI (t)), .ref 69, .int (zI (t - 1)), .ref 69]) (pc := 48) rfl rfl ?_
    refine zr_sub (x := t) (y := 1) (e := t - 1) (pc := 49) rfl (by omega) ?_
    have g3 := zv_rb (h := h) 69 (t - 1)
    refine zr_ll (n := 14) (e := zv_b h 69 (t - 1)) (pc := 50) rfl rfl rfl hI (by omega) (by omega) rfl ?_
    refine zx_T.l (i := .aload_n 0) (k := 1) (v := .ref 44) (pc := 51) rfl rfl rfl ?_
    refine zr_gr (k := 36) (b := 69) (pc := 52) rfl rfl rfl hI ?_
    refine zx_T.l (i := .iload_n 2) (k := 1) (v := .int (zI (t))) (pc := 55) rfl rfl rfl ?_
    have g4 := zv_rb (h := h) 69 t
    refine zr_ll (n := 14) (e := zv_b h 69 t) (pc := 56) rfl rfl rfl hI (by omega) (by omega) rfl ?_
    refine zr_ladd (x := zv_b h 69 (t - 1)) (y := zv_b h 69 t) (e := zv_b h 69 (t - 1) + zv_b h 69 t) (pc := 57) rfl (by omega) ?_
    refine zr_n64 (x := zv_b h 69 (t - 1) + zv_b h 69 t) (fun z5a z5b => ?_)
    refine zr_l2i (pc := 58) rfl ?_
    refine zr_n32 (x := zi64 (zv_b h 69 (t - 1) + zv_b h 69 t)) (fun z6a z6b => ?_)
    refine zr_i2l (pc := 59) rfl (by omega) (by omega) ?_
    refine zr_ls2 (n := 14) (e := zi32 (zi64 (zv_b h 69 (t - 1) + zv_b h 69 t))) (pc := 60) rfl rfl rfl hI (by omega) (by omega) (by omega) (by omega) (fun h7 ih7 w8 s9 => ?_)
    refine zx_T.j (i := .goto 100) (k := 3) (pc' := 161) (st' := []) (pc := 61) rfl rfl rfl rfl rfl ?_
    have y10 : zv_i h7 42 = zv_i h 42 := (zv_wi w8 rfl)
    have y11 : zv_i h7 43 = zv_i h 43 := (zv_wi w8 rfl)
    have y12 : zv_i h7 38 = zv_i h 38 := (zv_wi w8 rfl)
    have y13 : zv_i h7 41 = zv_i h 41 := (zv_wi w8 rfl)
    have y14 : zv_i h7 50 = zv_i h 50 := (zv_wi w8 rfl)
    have y15 : zv_i h7 14 = zv_i h 14 := (zv_wi w8 rfl)
    have y16 : zv_i h7 49 = zv_i h 49 := (zv_wi w8 rfl)
    have i25 : zv_i h7 25 = zv_i h 25 := (zv_wi w8 rfl)
    have y18 : zv_i h7 1 = zv_i h 1 := (zv_wi w8 rfl)
    have a61 : ∀ j, 0 ≤ j → zv_a h7 61 j = zv_a h 61 j := fun j hj => by rw [zv_wa w8 rfl j]
    have a71 : ∀ j, 0 ≤ j → zv_a h7 71 j = zv_a h 71 j := fun j hj => by rw [zv_wa w8 rfl j]
    have a72 : ∀ j, 0 ≤ j → zv_a h7 72 j = zv_a h 72 j := fun j hj => by rw [zv_wa w8 rfl j]
    have b69 : ∀ j, 0 ≤ j → zv_b h7 69 j = if j = t - 1 then zi32 (zi64 (zv_b h 69 (t - 1) + zv_b h 69 t)) else zv_b h 69 j := fun j hj => by rw [s9 j hj]
    exact zr_vr (pc := 161) rfl rfl ⟨ih7, (w8.wd rfl : zb_W [(44, 25), (61, 0), (69, 0), (44, 50), (44, 14), (44, 42), (44, 43), (44, 49), (44, 41), (44, 38), (71, 0), (72, 0)] h _), rfl, by dsimp only; exact zf_aci (show zv_a h 45 p = 12 by omega) (by decide) (by decide) (zf_rf0 (by omega)) (by omega) (by omega) (by omega) (zf_wi12 (fun j j0 => by rw [b69 j j0]) ⟨by omega, fun j j0 => by rw [a71 j j0], fun j j0 => by rw [a72 j j0]⟩) (fun _ j j0 => by rw [a61 j j0]) (fun z => absurd z (by decide)) (zf_gf0 (by omega) (by omega))⟩
  · refine zr_sw (i := .tableswitch 155 12 15 #[30, 58, 106, 134]) (len := 30) (t := 64) (x := zv_a h 45 p) (k := 13) (pc := 6) rfl c2 rfl rfl rfl rfl ?_
    refine zx_T.l (i := .aload_n 0) (k := 1) (v := .ref 44) (pc := 64) rfl rfl rfl ?_
    refine zr_gr (k := 36) (b := 69) (pc := 65) rfl rfl rfl hI ?_
    refine zx_T.l (i := .iload_n 2) (k := 1) (v := .int (zI (t))) (pc := 68) rfl rfl rfl ?_
    have g23 := zv_rb (h := h) 69 t
    refine zr_ll (n := 14) (e := zv_b h 69 t) (pc := 69) rfl rfl rfl hI (by omega) (by omega) rfl ?_
    refine zx_T.s (i := .lconst 0) (k := 1) (st' := [.long (zL (0)), .long (zL (zv_b h 69 t))]) (pc := 70) rfl rfl ?_
    refine zr_lcmp (pc := 71) rfl (by omega) (by omega) (by omega) (by omega) (fun z24 z24a => ?_)
    refine zr_i1 (x := z24) (t := 84) (pc := 72) rfl rfl (by omega) (by omega) (fun (c25 : ¬ z24 = 0) => ?_) (fun (c25 : ¬ (¬ z24 = 0)) => ?_)
    · refine zx_T.l (i := .aload_n 0) (k := 1) (v := .ref 44) (pc := 84) rfl rfl rfl ?_
      refine zr_gr (k := 36) (b := 69) (pc := 85) rfl rfl rfl hI ?_
      refine zx_T.l (i := .iload_n 2) (k := 1) (v := .int (zI (t))) (pc := 88) rfl rfl rfl ?_
      refine zx_T.s (i := .iconst 1) (k := 1) (st' := [.int (zI (1)), .int (zI (t)), .ref 69]) (pc := 89) rfl rfl ?_
      refine zr_sub (x := t) (y := 1) (e := t - 1) (pc := 90) rfl (by omega) ?_
      refine zx_T.l (i := .aload_n 0) (k := 1) (v := .ref 44) (pc := 91) rfl rfl rfl ?_
      refine zr_gr (k := 36) (b := 69) (pc := 92) rfl rfl rfl hI ?_
      refine zx_T.l (i := .iload_n 2) (k := 1) (v := .int (zI (t))) (pc := 95) rfl rfl rfl ?_
      refine zx_T.s (i := .iconst 1) (k := 1) (st' := [.int (zI (1)), .int (zI (t)), .ref 69, .int (zI (t - 1)), .ref 69]) (pc := 96) rfl rfl ?_
      refine zr_sub (x := t) (y := 1) (e := t - 1) (pc := 97) rfl (by omega) ?_
      have g26 := zv_rb (h := h) 69 (t - 1)
      refine zr_ll (n := 14) (e := zv_b h 69 (t - 1)) (pc := 98) rfl rfl rfl hI (by omega) (by omega) rfl ?_
      refine zx_T.l (i := .aload_n 0) (k := 1) (v := .ref 44) (pc := 99) rfl rfl rfl ?_
      refine zr_gr (k := 36) (b := 69) (pc := 100) rfl rfl rfl hI ?_
      refine zx_T.l (i := .iload_n 2) (k := 1) (v := .int (zI (t))) (pc := 103) rfl rfl rfl ?_
      have g27 := zv_rb (h := h) 69 t
      refine zr_ll (n := 14) (e := zv_b h 69 t) (pc := 104) rfl rfl rfl hI (by omega) (by omega) rfl ?_
      refine zr_div64 (x := zv_b h 69 (t - 1)) (y := zv_b h 69 t) (pc := 105) rfl (by omega) (by omega) (by omega) (by omega) (by omega) ?_
      refine zr_l2i (pc := 106) rfl ?_
      refine zr_n32 (x := Int.tdiv (zv_b h 69 (t - 1)) (zv_b h 69 t)) (fun z28a z28b => ?_)
      refine zr_i2l (pc := 107) rfl (by omega) (by omega) ?_
      refine zr_ls2 (n := 14) (e := zi32 (Int.tdiv (zv_b h 69 (t - 1)) (zv_b h 69 t))) (pc := 108) rfl rfl rfl hI (by omega) (by omega) (by omega) (by omega) (fun h29 ih29 w30 s31 => ?_)
      refine zx_T.j (i := .goto 52) (k := 3) (pc' := 161) (st' := []) (pc := 109) rfl rfl rfl rfl rfl ?_
      have y32 : zv_i h29 42 = zv_i h 42 := (zv_wi w30 rfl)
      have y33 : zv_i h29 43 = zv_i h 43 := (zv_wi w30 rfl)
      have y34 : zv_i h29 38 = zv_i h 38 := (zv_wi w30 rfl)
      have y35 : zv_i h29 41 = zv_i h 41 := (zv_wi w30 rfl)
      have y36 : zv_i h29 50 = zv_i h 50 := (zv_wi w30 rfl)
      have y37 : zv_i h29 14 = zv_i h 14 := (zv_wi w30 rfl)
      have y38 : zv_i h29 49 = zv_i h 49 := (zv_wi w30 rfl)
      have i25 : zv_i h29 25 = zv_i h 25 := (zv_wi w30 rfl)
      have y40 : zv_i h29 1 = zv_i h 1 := (zv_wi w30 rfl)
      have a61 : ∀ j, 0 ≤ j → zv_a h29 61 j = zv_a h 61 j := fun j hj => by rw [zv_wa w30 rfl j]
      have a71 : ∀ j, 0 ≤ j → zv_a h29 71 j = zv_a h 71 j := fun j hj => by rw [zv_wa w30 rfl j]
      have a72 : ∀ j, 0 ≤ j → zv_a h29 72 j = zv_a h 72 j := fun j hj => by rw [zv_wa w30 rfl j]
      have b69 : ∀ j, 0 ≤ j → zv_b h29 69 j = if j = t - 1 then zi32 (Int.tdiv (zv_b h 69 (t - 1)) (zv_b h 69 t)) else zv_b h 69 j := fun j hj => by rw [s31 j hj]
      exact zr_vr (pc := 161) rfl rfl ⟨ih29, (w30.wd rfl : zb_W [(44, 25), (61, 0), (69, 0), (44, 50), (44, 14), (44, 42), (44, 43), (44, 49), (44, 41), (44, 38), (71, 0), (72, 0)] h _), rfl, by dsimp only; exact zf_aci (show zv_a h 45 p = 13 by omega) (by decide) (by decide) ⟨(fun z => absurd z (by decide)), (fun _ => Or.inr ⟨by omega, rfl⟩), (fun z => absurd z (by decide)), (fun z => absurd z (by decide)), (fun z => absurd z (by decide)), (fun z => absurd z (by decide)), (fun z => absurd z (by decide))⟩ (by omega) (by omega) (by omega) (zf_wi13 (fun j j0 => by rw [b69 j j0]) ⟨by omega, fun j j0 => by rw [a71 j j0], fun j j0 => by rw [a72 j j0]⟩) (fun _ j j0 => by rw [a61 j j0]) (fun z => absurd z (by decide)) (zf_gf0 (by omega) (by omega))⟩
    · refine zx_T.l (i := .aload_n 0) (k := 1) (v := .ref 44) (pc := 75) rfl rfl rfl ?_
      refine zx_T.l (i := .iload_n 1) (k := 1) (v := .int (zI (p))) (pc := 76) rfl rfl rfl ?_
      refine zx_T.s (i := .iconst 5) (k := 1) (st' := [.int (zI (5)), .int (zI (p)), .ref 44]) (pc := 77) rfl rfl ?_
      refine zr_iv (cj := 211) (q' := zp_m211) (As := [.int (zI (p)), .int (zI (5))]) (rest := []) (pc := 78) rfl rfl rfl rfl rfl rfl (Nat.le_of_ble_eq_true rfl) rfl (Nat.le_of_ble_eq_true rfl) hI ((zm_refuseX (h := h) hI (p := p) (q := 5) (by omega) (by omega) (by omega) (by omega) (by omega) (by omega) (by omega)).up (Nat.le_of_ble_eq_true rfl)) ?_
      rintro r47 h50 ⟨ih50, w51, r47q, x49⟩
      subst r47q
      try dsimp only at x49
      have reX := x49
      show zx_T zp_P 5 zp_m213 81 [(0, .ref 44), (1, .int (zI (p))), (2, .int (zI (t)))] [] h50 _
      refine zx_T.j (i := .goto 80) (k := 3) (pc' := 161) (st' := []) (pc := 81) rfl rfl rfl rfl rfl ?_
      have i25 : zv_i h50 25 = zv_i h50 25 := rfl
      have y60 : zv_i h50 1 = zv_i h 1 := (zv_wi w51 rfl)
      have a61 : ∀ j, 0 ≤ j → zv_a h50 61 j = zv_a h50 61 j := fun j hj => rfl
      have a71 : ∀ j, 0 ≤ j → zv_a h50 71 j = zv_a h50 71 j := fun j hj => rfl
      have a72 : ∀ j, 0 ≤ j → zv_a h50 72 j = zv_a h50 72 j := fun j hj => rfl
      have b69 : ∀ j, 0 ≤ j → zv_b h50 69 j = zv_b h50 69 j := fun j hj => rfl
      exact zr_vr (pc := 161) rfl rfl ⟨ih50, (w51.wd rfl : zb_W [(44, 25), (61, 0), (69, 0), (44, 50), (44, 14), (44, 42), (44, 43), (44, 49), (44, 41), (44, 38), (71, 0), (72, 0)] h _), rfl, by dsimp only; exact zf_acr (show zv_a h 45 p = 13 by omega) ⟨(fun z => absurd z (by decide)), (fun _ => Or.inl ⟨by omega, rfl⟩), (fun z => absurd z (by decide)), (fun z => absurd z (by decide)), (fun z => absurd z (by decide)), (fun z => absurd z (by decide)), (fun z => absurd z (by decide))⟩ (by decide) reX⟩
  · refine zr_sw (i := .tableswitch 155 12 15 #[30, 58, 106, 134]) (len := 30) (t := 112) (x := zv_a h 45 p) (k := 14) (pc := 6) rfl c2 rfl rfl rfl rfl ?_
    refine zx_T.l (i := .aload_n 0) (k := 1) (v := .ref 44) (pc := 112) rfl rfl rfl ?_
    refine zr_gr (k := 36) (b := 69) (pc := 113) rfl rfl rfl hI ?_
    refine zx_T.l (i := .iload_n 2) (k := 1) (v := .int (zI (t))) (pc := 116) rfl rfl rfl ?_
    refine zx_T.s (i := .iconst 3) (k := 1) (st' := [.int (zI (3)), .int (zI (t)), .ref 69]) (pc := 117) rfl rfl ?_
    refine zr_sub (x := t) (y := 3) (e := t - 3) (pc := 118) rfl (by omega) ?_
    refine zx_T.l (i := .aload_n 0) (k := 1) (v := .ref 44) (pc := 119) rfl rfl rfl ?_
    refine zr_gr (k := 36) (b := 69) (pc := 120) rfl rfl rfl hI ?_
    refine zx_T.l (i := .iload_n 2) (k := 1) (v := .int (zI (t))) (pc := 123) rfl rfl rfl ?_
    refine zx_T.s (i := .iconst 3) (k := 1) (st' := [.int (zI (3)), .int (zI (t)), .ref 69, .int (zI (t - 3)), .ref 69]) (pc := 124) rfl rfl ?_
    refine zr_sub (x := t) (y := 3) (e := t - 3) (pc := 125) rfl (by omega) ?_
    have g65 := zv_rb (h := h) 69 (t - 3)
    refine zr_ll (n := 14) (e := zv_b h 69 (t - 3)) (pc := 126) rfl rfl rfl hI (by omega) (by omega) rfl ?_
    refine zx_T.l (i := .aload_n 0) (k := 1) (v := .ref 44) (pc := 127) rfl rfl rfl ?_
    refine zr_gr (k := 36) (b := 69) (pc := 128) rfl rfl rfl hI ?_
    refine zx_T.l (i := .iload_n 2) (k := 1) (v := .int (zI (t))) (pc := 131) rfl rfl rfl ?_
    refine zx_T.s (i := .iconst 1) (k := 1) (st' := [.int (zI (1)), .int (zI (t)), .ref 69, .long (zL (zv_b h 69 (t - 3))), .int (zI (t - 3)), .ref 69]) (pc := 132) rfl rfl ?_
    refine zr_sub (x := t) (y := 1) (e := t - 1) (pc := 133) rfl (by omega) ?_
    have g66 := zv_rb (h := h) 69 (t - 1)
    refine zr_ll (n := 14) (e := zv_b h 69 (t - 1)) (pc := 134) rfl rfl rfl hI (by omega) (by omega) rfl ?_
    refine zr_ladd (x := zv_b h 69 (t - 3)) (y := zv_b h 69 (t - 1)) (e := zv_b h 69 (t - 1) + zv_b h 69 (t - 3)) (pc := 135) rfl (by omega) ?_
    refine zr_n64 (x := zv_b h 69 (t - 1) + zv_b h 69 (t - 3)) (fun z67a z67b => ?_)
    refine zr_ls2 (n := 14) (e := zi64 (zv_b h 69 (t - 1) + zv_b h 69 (t - 3))) (pc := 136) rfl rfl rfl hI (by omega) (by omega) (by omega) (by omega) (fun h68 ih68 w69 s70 => ?_)
    refine zx_T.j (i := .goto 24) (k := 3) (pc' := 161) (st' := []) (pc := 137) rfl rfl rfl rfl rfl ?_
    have y71 : zv_i h68 42 = zv_i h 42 := (zv_wi w69 rfl)
    have y72 : zv_i h68 43 = zv_i h 43 := (zv_wi w69 rfl)
    have y73 : zv_i h68 38 = zv_i h 38 := (zv_wi w69 rfl)
    have y74 : zv_i h68 41 = zv_i h 41 := (zv_wi w69 rfl)
    have y75 : zv_i h68 50 = zv_i h 50 := (zv_wi w69 rfl)
    have y76 : zv_i h68 14 = zv_i h 14 := (zv_wi w69 rfl)
    have y77 : zv_i h68 49 = zv_i h 49 := (zv_wi w69 rfl)
    have i25 : zv_i h68 25 = zv_i h 25 := (zv_wi w69 rfl)
    have y79 : zv_i h68 1 = zv_i h 1 := (zv_wi w69 rfl)
    have a61 : ∀ j, 0 ≤ j → zv_a h68 61 j = zv_a h 61 j := fun j hj => by rw [zv_wa w69 rfl j]
    have a71 : ∀ j, 0 ≤ j → zv_a h68 71 j = zv_a h 71 j := fun j hj => by rw [zv_wa w69 rfl j]
    have a72 : ∀ j, 0 ≤ j → zv_a h68 72 j = zv_a h 72 j := fun j hj => by rw [zv_wa w69 rfl j]
    have b69 : ∀ j, 0 ≤ j → zv_b h68 69 j = if j = t - 3 then zi64 (zv_b h 69 (t - 1) + zv_b h 69 (t - 3)) else zv_b h 69 j := fun j hj => by rw [s70 j hj]
    exact zr_vr (pc := 161) rfl rfl ⟨ih68, (w69.wd rfl : zb_W [(44, 25), (61, 0), (69, 0), (44, 50), (44, 14), (44, 42), (44, 43), (44, 49), (44, 41), (44, 38), (71, 0), (72, 0)] h _), rfl, by dsimp only; exact zf_aci (show zv_a h 45 p = 14 by omega) (by decide) (by decide) (zf_rf0 (by omega)) (by omega) (by omega) (by omega) (zf_wi14 (fun j j0 => by rw [b69 j j0, Int.add_comm (zv_b h 69 (t - 1))]) ⟨by omega, fun j j0 => by rw [a71 j j0], fun j j0 => by rw [a72 j j0]⟩) (fun _ j j0 => by rw [a61 j j0]) (fun z => absurd z (by decide)) (zf_gf0 (by omega) (by omega))⟩
  · refine zr_sw (i := .tableswitch 155 12 15 #[30, 58, 106, 134]) (len := 30) (t := 140) (x := zv_a h 45 p) (k := 15) (pc := 6) rfl c2 rfl rfl rfl rfl ?_
    refine zx_T.l (i := .aload_n 0) (k := 1) (v := .ref 44) (pc := 140) rfl rfl rfl ?_
    refine zr_gr (k := 36) (b := 69) (pc := 141) rfl rfl rfl hI ?_
    refine zx_T.l (i := .iload_n 2) (k := 1) (v := .int (zI (t))) (pc := 144) rfl rfl rfl ?_
    refine zx_T.s (i := .iconst 1) (k := 1) (st' := [.int (zI (1)), .int (zI (t)), .ref 69]) (pc := 145) rfl rfl ?_
    refine zr_sub (x := t) (y := 1) (e := t - 1) (pc := 146) rfl (by omega) ?_
    refine zx_T.l (i := .aload_n 0) (k := 1) (v := .ref 44) (pc := 147) rfl rfl rfl ?_
    refine zr_gr (k := 36) (b := 69) (pc := 148) rfl rfl rfl hI ?_
    refine zx_T.l (i := .iload_n 2) (k := 1) (v := .int (zI (t))) (pc := 151) rfl rfl rfl ?_
    refine zx_T.s (i := .iconst 1) (k := 1) (st' := [.int (zI (1)), .int (zI (t)), .ref 69, .int (zI (t - 1)), .ref 69]) (pc := 152) rfl rfl ?_
    refine zr_sub (x := t) (y := 1) (e := t - 1) (pc := 153) rfl (by omega) ?_
    have g84 := zv_rb (h := h) 69 (t - 1)
    refine zr_ll (n := 14) (e := zv_b h 69 (t - 1)) (pc := 154) rfl rfl rfl hI (by omega) (by omega) rfl ?_
    refine zr_l2i (pc := 155) rfl ?_
    refine zr_n32 (x := zv_b h 69 (t - 1)) (fun z85a z85b => ?_)
    refine zr_i2l (pc := 156) rfl (by omega) (by omega) ?_
    refine zr_ls2 (n := 14) (e := zi32 (zv_b h 69 (t - 1))) (pc := 157) rfl rfl rfl hI (by omega) (by omega) (by omega) (by omega) (fun h86 ih86 w87 s88 => ?_)
    refine zx_T.j (i := .goto 3) (k := 3) (pc' := 161) (st' := []) (pc := 158) rfl rfl rfl rfl rfl ?_
    have y89 : zv_i h86 42 = zv_i h 42 := (zv_wi w87 rfl)
    have y90 : zv_i h86 43 = zv_i h 43 := (zv_wi w87 rfl)
    have y91 : zv_i h86 38 = zv_i h 38 := (zv_wi w87 rfl)
    have y92 : zv_i h86 41 = zv_i h 41 := (zv_wi w87 rfl)
    have y93 : zv_i h86 50 = zv_i h 50 := (zv_wi w87 rfl)
    have y94 : zv_i h86 14 = zv_i h 14 := (zv_wi w87 rfl)
    have y95 : zv_i h86 49 = zv_i h 49 := (zv_wi w87 rfl)
    have i25 : zv_i h86 25 = zv_i h 25 := (zv_wi w87 rfl)
    have y97 : zv_i h86 1 = zv_i h 1 := (zv_wi w87 rfl)
    have a61 : ∀ j, 0 ≤ j → zv_a h86 61 j = zv_a h 61 j := fun j hj => by rw [zv_wa w87 rfl j]
    have a71 : ∀ j, 0 ≤ j → zv_a h86 71 j = zv_a h 71 j := fun j hj => by rw [zv_wa w87 rfl j]
    have a72 : ∀ j, 0 ≤ j → zv_a h86 72 j = zv_a h 72 j := fun j hj => by rw [zv_wa w87 rfl j]
    have b69 : ∀ j, 0 ≤ j → zv_b h86 69 j = if j = t - 1 then zi32 (zv_b h 69 (t - 1)) else zv_b h 69 j := fun j hj => by rw [s88 j hj]
    exact zr_vr (pc := 161) rfl rfl ⟨ih86, (w87.wd rfl : zb_W [(44, 25), (61, 0), (69, 0), (44, 50), (44, 14), (44, 42), (44, 43), (44, 49), (44, 41), (44, 38), (71, 0), (72, 0)] h _), rfl, by dsimp only; exact zf_aci (show zv_a h 45 p = 15 by omega) (by decide) (by decide) (zf_rf0 (by omega)) (by omega) (by omega) (by omega) (zf_wi15 (fun j j0 => by rw [b69 j j0]) ⟨by omega, fun j j0 => by rw [a71 j j0], fun j j0 => by rw [a72 j j0]⟩) (fun _ j j0 => by rw [a61 j j0]) (fun z => absurd z (by decide)) (zf_gf0 (by omega) (by omega))⟩
  · refine zr_sw (i := .tableswitch 155 12 15 #[30, 58, 106, 134]) (len := 30) (t := 161) (x := zv_a h 45 p) (k := 16) (pc := 6) rfl c2 rfl rfl rfl rfl ?_
    have i25 : zv_i h 25 = zv_i h 25 := rfl
    have a61 : ∀ j, 0 ≤ j → zv_a h 61 j = zv_a h 61 j := fun j hj => rfl
    have a71 : ∀ j, 0 ≤ j → zv_a h 71 j = zv_a h 71 j := fun j hj => rfl
    have a72 : ∀ j, 0 ≤ j → zv_a h 72 j = zv_a h 72 j := fun j hj => rfl
    have b69 : ∀ j, 0 ≤ j → zv_b h 69 j = zv_b h 69 j := fun j hj => rfl
    exact zr_vr (pc := 161) rfl rfl ⟨hI, zb_W.rf, rfl, by dsimp only; exact zf_aci (show zv_a h 45 p = 16 by omega) (by decide) (by decide) (zf_rf0 (by omega)) (by omega) (by omega) (by omega) (zf_wi16 (fun j j0 => by rw [b69 j j0]) ⟨by omega, fun j j0 => by rw [a71 j j0], fun j j0 => by rw [a72 j j0]⟩) (fun _ j j0 => by rw [a61 j j0]) (fun z => absurd z (by decide)) (zf_gf0 (by omega) (by omega))⟩

set_option maxRecDepth 100000 in
set_option maxHeartbeats 8000000 in
theorem zm_makesX {h : zx_H} (hI : zb_I zc_H h) {p : Int} {t : Int} (p1 : 0 ≤ p) (p2 : p ≤ 59) (t1 : 7 ≤ t) (t2 : t ≤ 13) (dz : zg_dz (zv_a h 45 p) (zv_a h 46 p) (t - 7) (zv_i h 25) (zv_a h 70) (zv_a h 61)) (vw : zg_VW h t) (t9 : zv_i h 38 ≤ 399) (r9 : zv_i h 41 ≤ 1000000) (r8 : (-5) ≤ zv_i h 41) (x0 : zv_i h 42 = 0) (nx : zv_i h 50 = (-1)) (o1 : 1 ≤ zv_a h 45 p) (o2 : zv_a h 45 p ≤ 7) : zx_T zp_P 5 zp_m214 0 [(0, .ref 44), (1, .int (zI (p))), (2, .int (zI (t)))] [] h (zr_V [(44, 25), (61, 0), (69, 0), (44, 50), (44, 14), (44, 42), (44, 43), (44, 49), (44, 41), (44, 38), (71, 0), (72, 0)] h (fun h' => zf_ach h h' p t)) := by
  have hS := zv_ri hI (k := 25) rfl
  have hT := zv_ri hI (k := 38) rfl
  have hC := zv_ri hI (k := 1) rfl
  refine zx_T.l (i := .aload_n 0) (k := 1) (v := .ref 44) (pc := 0) rfl rfl rfl ?_
  refine zr_gr (k := 2) (b := 45) (pc := 1) rfl rfl rfl hI ?_
  refine zx_T.l (i := .iload_n 1) (k := 1) (v := .int (zI (p))) (pc := 4) rfl rfl rfl ?_
  refine zr_al (n := 60) (lo := 0) (hi := 28) (e := zv_a h 45 p) (pc := 5) rfl rfl rfl hI (by omega) (by omega) rfl (fun g1a g1b => ?_)
  have c2 : zv_a h 45 p = 1 ∨ zv_a h 45 p = 2 ∨ zv_a h 45 p = 3 ∨ zv_a h 45 p = 4 ∨ zv_a h 45 p = 5 ∨ zv_a h 45 p = 6 ∨ zv_a h 45 p = 7 := by omega
  rcases c2 with c2 | c2 | c2 | c2 | c2 | c2 | c2
  · refine zr_sw (i := .tableswitch 107 1 6 #[38, 38, 56, 68, 68, 85]) (len := 38) (t := 44) (x := zv_a h 45 p) (k := 1) (pc := 6) rfl c2 rfl rfl rfl rfl ?_
    have d1 := dz.1.1 (by omega) (by omega)
    refine zx_T.l (i := .aload_n 0) (k := 1) (v := .ref 44) (pc := 44) rfl rfl rfl ?_
    refine zr_gr (k := 36) (b := 69) (pc := 45) rfl rfl rfl hI ?_
    refine zx_T.l (i := .iload_n 2) (k := 1) (v := .int (zI (t))) (pc := 48) rfl rfl rfl ?_
    refine zx_T.s (i := .iconst 1) (k := 1) (st' := [.int (zI (1)), .int (zI (t)), .ref 69]) (pc := 49) rfl rfl ?_
    refine zr_add (x := t) (y := 1) (e := t + 1) (pc := 50) rfl (by omega) ?_
    refine zx_T.l (i := .aload_n 0) (k := 1) (v := .ref 44) (pc := 51) rfl rfl rfl ?_
    refine zr_gr (k := 3) (b := 46) (pc := 52) rfl rfl rfl hI ?_
    refine zx_T.l (i := .iload_n 1) (k := 1) (v := .int (zI (p))) (pc := 55) rfl rfl rfl ?_
    refine zr_al (n := 60) (lo := (-2147483648)) (hi := 2147483647) (e := zv_a h 46 p) (pc := 56) rfl rfl rfl hI (by omega) (by omega) rfl (fun g3a g3b => ?_)
    refine zr_i2l (pc := 57) rfl (by omega) (by omega) ?_
    refine zr_ls2 (n := 14) (e := zv_a h 46 p) (pc := 58) rfl rfl rfl hI (by omega) (by omega) (by omega) (by omega) (fun h4 ih4 w5 s6 => ?_)
    refine zx_T.j (i := .goto 115) (k := 3) (pc' := 174) (st' := []) (pc := 59) rfl rfl rfl rfl rfl ?_
    have y7 : zv_i h4 42 = zv_i h 42 := (zv_wi w5 rfl)
    have y8 : zv_i h4 43 = zv_i h 43 := (zv_wi w5 rfl)
    have y9 : zv_i h4 38 = zv_i h 38 := (zv_wi w5 rfl)
    have y10 : zv_i h4 41 = zv_i h 41 := (zv_wi w5 rfl)
    have y11 : zv_i h4 50 = zv_i h 50 := (zv_wi w5 rfl)
    have y12 : zv_i h4 14 = zv_i h 14 := (zv_wi w5 rfl)
    have y13 : zv_i h4 49 = zv_i h 49 := (zv_wi w5 rfl)
    have i25 : zv_i h4 25 = zv_i h 25 := (zv_wi w5 rfl)
    have y15 : zv_i h4 1 = zv_i h 1 := (zv_wi w5 rfl)
    have a61 : ∀ j, 0 ≤ j → zv_a h4 61 j = zv_a h 61 j := fun j hj => by rw [zv_wa w5 rfl j]
    have a71 : ∀ j, 0 ≤ j → zv_a h4 71 j = zv_a h 71 j := fun j hj => by rw [zv_wa w5 rfl j]
    have a72 : ∀ j, 0 ≤ j → zv_a h4 72 j = zv_a h 72 j := fun j hj => by rw [zv_wa w5 rfl j]
    have b69 : ∀ j, 0 ≤ j → zv_b h4 69 j = if j = t + 1 then zv_a h 46 p else zv_b h 69 j := fun j hj => by rw [s6 j hj]
    exact zr_vr (pc := 174) rfl rfl ⟨ih4, (w5.wd rfl : zb_W [(44, 25), (61, 0), (69, 0), (44, 50), (44, 14), (44, 42), (44, 43), (44, 49), (44, 41), (44, 38), (71, 0), (72, 0)] h _), rfl, by dsimp only; exact zf_aci (show zv_a h 45 p = 1 by omega) (by decide) (by decide) (zf_rf0 (by omega)) (by omega) (by omega) (by omega) (zf_wi1 (fun j j0 => by rw [b69 j j0]) ⟨by omega, fun j j0 => by rw [a71 j j0], fun j j0 => by rw [a72 j j0]⟩) (fun _ j j0 => by rw [a61 j j0]) (fun z => absurd z (by decide)) (zf_gf0 (by omega) (by omega))⟩
  · refine zr_sw (i := .tableswitch 107 1 6 #[38, 38, 56, 68, 68, 85]) (len := 38) (t := 44) (x := zv_a h 45 p) (k := 2) (pc := 6) rfl c2 rfl rfl rfl rfl ?_
    have d1 := dz.1.1 (by omega) (by omega)
    refine zx_T.l (i := .aload_n 0) (k := 1) (v := .ref 44) (pc := 44) rfl rfl rfl ?_
    refine zr_gr (k := 36) (b := 69) (pc := 45) rfl rfl rfl hI ?_
    refine zx_T.l (i := .iload_n 2) (k := 1) (v := .int (zI (t))) (pc := 48) rfl rfl rfl ?_
    refine zx_T.s (i := .iconst 1) (k := 1) (st' := [.int (zI (1)), .int (zI (t)), .ref 69]) (pc := 49) rfl rfl ?_
    refine zr_add (x := t) (y := 1) (e := t + 1) (pc := 50) rfl (by omega) ?_
    refine zx_T.l (i := .aload_n 0) (k := 1) (v := .ref 44) (pc := 51) rfl rfl rfl ?_
    refine zr_gr (k := 3) (b := 46) (pc := 52) rfl rfl rfl hI ?_
    refine zx_T.l (i := .iload_n 1) (k := 1) (v := .int (zI (p))) (pc := 55) rfl rfl rfl ?_
    refine zr_al (n := 60) (lo := (-2147483648)) (hi := 2147483647) (e := zv_a h 46 p) (pc := 56) rfl rfl rfl hI (by omega) (by omega) rfl (fun g20a g20b => ?_)
    refine zr_i2l (pc := 57) rfl (by omega) (by omega) ?_
    refine zr_ls2 (n := 14) (e := zv_a h 46 p) (pc := 58) rfl rfl rfl hI (by omega) (by omega) (by omega) (by omega) (fun h21 ih21 w22 s23 => ?_)
    refine zx_T.j (i := .goto 115) (k := 3) (pc' := 174) (st' := []) (pc := 59) rfl rfl rfl rfl rfl ?_
    have y24 : zv_i h21 42 = zv_i h 42 := (zv_wi w22 rfl)
    have y25 : zv_i h21 43 = zv_i h 43 := (zv_wi w22 rfl)
    have y26 : zv_i h21 38 = zv_i h 38 := (zv_wi w22 rfl)
    have y27 : zv_i h21 41 = zv_i h 41 := (zv_wi w22 rfl)
    have y28 : zv_i h21 50 = zv_i h 50 := (zv_wi w22 rfl)
    have y29 : zv_i h21 14 = zv_i h 14 := (zv_wi w22 rfl)
    have y30 : zv_i h21 49 = zv_i h 49 := (zv_wi w22 rfl)
    have i25 : zv_i h21 25 = zv_i h 25 := (zv_wi w22 rfl)
    have y32 : zv_i h21 1 = zv_i h 1 := (zv_wi w22 rfl)
    have a61 : ∀ j, 0 ≤ j → zv_a h21 61 j = zv_a h 61 j := fun j hj => by rw [zv_wa w22 rfl j]
    have a71 : ∀ j, 0 ≤ j → zv_a h21 71 j = zv_a h 71 j := fun j hj => by rw [zv_wa w22 rfl j]
    have a72 : ∀ j, 0 ≤ j → zv_a h21 72 j = zv_a h 72 j := fun j hj => by rw [zv_wa w22 rfl j]
    have b69 : ∀ j, 0 ≤ j → zv_b h21 69 j = if j = t + 1 then zv_a h 46 p else zv_b h 69 j := fun j hj => by rw [s23 j hj]
    exact zr_vr (pc := 174) rfl rfl ⟨ih21, (w22.wd rfl : zb_W [(44, 25), (61, 0), (69, 0), (44, 50), (44, 14), (44, 42), (44, 43), (44, 49), (44, 41), (44, 38), (71, 0), (72, 0)] h _), rfl, by dsimp only; exact zf_aci (show zv_a h 45 p = 2 by omega) (by decide) (by decide) (zf_rf0 (by omega)) (by omega) (by omega) (by omega) (zf_wi2 (fun j j0 => by rw [b69 j j0]) ⟨by omega, fun j j0 => by rw [a71 j j0], fun j j0 => by rw [a72 j j0]⟩) (fun _ j j0 => by rw [a61 j j0]) (fun z => absurd z (by decide)) (zf_gf0 (by omega) (by omega))⟩
  · refine zr_sw (i := .tableswitch 107 1 6 #[38, 38, 56, 68, 68, 85]) (len := 38) (t := 62) (x := zv_a h 45 p) (k := 3) (pc := 6) rfl c2 rfl rfl rfl rfl ?_
    have d1 := dz.1.1 (by omega) (by omega)
    refine zx_T.l (i := .aload_n 0) (k := 1) (v := .ref 44) (pc := 62) rfl rfl rfl ?_
    refine zr_gr (k := 36) (b := 69) (pc := 63) rfl rfl rfl hI ?_
    refine zx_T.l (i := .iload_n 2) (k := 1) (v := .int (zI (t))) (pc := 66) rfl rfl rfl ?_
    refine zx_T.s (i := .iconst 1) (k := 1) (st' := [.int (zI (1)), .int (zI (t)), .ref 69]) (pc := 67) rfl rfl ?_
    refine zr_add (x := t) (y := 1) (e := t + 1) (pc := 68) rfl (by omega) ?_
    refine zx_T.s (i := .lconst 0) (k := 1) (st' := [.long (zL (0)), .int (zI (t + 1)), .ref 69]) (pc := 69) rfl rfl ?_
    refine zr_ls2 (n := 14) (e := 0) (pc := 70) rfl rfl rfl hI (by omega) (by omega) (by omega) (by omega) (fun h37 ih37 w38 s39 => ?_)
    refine zx_T.j (i := .goto 103) (k := 3) (pc' := 174) (st' := []) (pc := 71) rfl rfl rfl rfl rfl ?_
    have y40 : zv_i h37 42 = zv_i h 42 := (zv_wi w38 rfl)
    have y41 : zv_i h37 43 = zv_i h 43 := (zv_wi w38 rfl)
    have y42 : zv_i h37 38 = zv_i h 38 := (zv_wi w38 rfl)
    have y43 : zv_i h37 41 = zv_i h 41 := (zv_wi w38 rfl)
    have y44 : zv_i h37 50 = zv_i h 50 := (zv_wi w38 rfl)
    have y45 : zv_i h37 14 = zv_i h 14 := (zv_wi w38 rfl)
    have y46 : zv_i h37 49 = zv_i h 49 := (zv_wi w38 rfl)
    have i25 : zv_i h37 25 = zv_i h 25 := (zv_wi w38 rfl)
    have y48 : zv_i h37 1 = zv_i h 1 := (zv_wi w38 rfl)
    have a61 : ∀ j, 0 ≤ j → zv_a h37 61 j = zv_a h 61 j := fun j hj => by rw [zv_wa w38 rfl j]
    have a71 : ∀ j, 0 ≤ j → zv_a h37 71 j = zv_a h 71 j := fun j hj => by rw [zv_wa w38 rfl j]
    have a72 : ∀ j, 0 ≤ j → zv_a h37 72 j = zv_a h 72 j := fun j hj => by rw [zv_wa w38 rfl j]
    have b69 : ∀ j, 0 ≤ j → zv_b h37 69 j = if j = t + 1 then 0 else zv_b h 69 j := fun j hj => by rw [s39 j hj]
    exact zr_vr (pc := 174) rfl rfl ⟨ih37, (w38.wd rfl : zb_W [(44, 25), (61, 0), (69, 0), (44, 50), (44, 14), (44, 42), (44, 43), (44, 49), (44, 41), (44, 38), (71, 0), (72, 0)] h _), rfl, by dsimp only; exact zf_aci (show zv_a h 45 p = 3 by omega) (by decide) (by decide) (zf_rf0 (by omega)) (by omega) (by omega) (by omega) (zf_wi3 (fun j j0 => by rw [b69 j j0]) ⟨by omega, fun j j0 => by rw [a71 j j0], fun j j0 => by rw [a72 j j0]⟩) (fun _ j j0 => by rw [a61 j j0]) (fun z => absurd z (by decide)) (zf_gf0 (by omega) (by omega))⟩
  · refine zr_sw (i := .tableswitch 107 1 6 #[38, 38, 56, 68, 68, 85]) (len := 38) (t := 74) (x := zv_a h 45 p) (k := 4) (pc := 6) rfl c2 rfl rfl rfl rfl ?_
    have d1 := dz.1.1 (by omega) (by omega)
    refine zx_T.l (i := .aload_n 0) (k := 1) (v := .ref 44) (pc := 74) rfl rfl rfl ?_
    refine zr_gr (k := 36) (b := 69) (pc := 75) rfl rfl rfl hI ?_
    refine zx_T.l (i := .iload_n 2) (k := 1) (v := .int (zI (t))) (pc := 78) rfl rfl rfl ?_
    refine zx_T.s (i := .iconst 1) (k := 1) (st' := [.int (zI (1)), .int (zI (t)), .ref 69]) (pc := 79) rfl rfl ?_
    refine zr_add (x := t) (y := 1) (e := t + 1) (pc := 80) rfl (by omega) ?_
    refine zx_T.l (i := .aload_n 0) (k := 1) (v := .ref 44) (pc := 81) rfl rfl rfl ?_
    refine zx_T.s (i := .iconst 0) (k := 1) (st' := [.int (zI (0)), .ref 44, .int (zI (t + 1)), .ref 69]) (pc := 82) rfl rfl ?_
    refine zr_iv (cj := 205) (q' := zp_m205) (As := [.int (zI (0))]) (rest := [.int (zI (t + 1)), .ref 69]) (pc := 83) rfl rfl rfl rfl rfl rfl (Nat.le_of_ble_eq_true rfl) rfl (Nat.le_of_ble_eq_true rfl) hI ((zm_thingX (h := h) hI (m := 0) (by omega) (by omega) (by omega)).up (Nat.le_of_ble_eq_true rfl)) ?_
    rintro r54 h57 ⟨ih57, w58, v55, r54q, x56⟩
    subst r54q
    try dsimp only at x56
    have tX := x56
    show zx_T zp_P 5 zp_m214 86 [(0, .ref 44), (1, .int (zI (p))), (2, .int (zI (t)))] [.int (zI (v55)), .int (zI (t + 1)), .ref 69] h57 _
    refine zr_i2l (pc := 86) rfl (by omega) (by omega) ?_
    refine zr_ls2 (n := 14) (e := v55) (pc := 87) rfl rfl rfl ih57 (by omega) (by omega) (by omega) (by omega) (fun h59 ih59 w60 s61 => ?_)
    refine zx_T.j (i := .goto 86) (k := 3) (pc' := 174) (st' := []) (pc := 88) rfl rfl rfl rfl rfl ?_
    have y62 : zv_i h59 42 = zv_i h 42 := ((zv_wi w60 rfl).trans (zv_wi w58 rfl))
    have y63 : zv_i h59 43 = zv_i h 43 := ((zv_wi w60 rfl).trans (zv_wi w58 rfl))
    have y64 : zv_i h59 38 = zv_i h57 38 := (zv_wi w60 rfl)
    have y65 : zv_i h59 41 = zv_i h 41 := ((zv_wi w60 rfl).trans (zv_wi w58 rfl))
    have y66 : zv_i h59 50 = zv_i h 50 := ((zv_wi w60 rfl).trans (zv_wi w58 rfl))
    have y67 : zv_i h59 14 = zv_i h 14 := ((zv_wi w60 rfl).trans (zv_wi w58 rfl))
    have y68 : zv_i h59 49 = zv_i h 49 := ((zv_wi w60 rfl).trans (zv_wi w58 rfl))
    have i25 : zv_i h59 25 = zv_i h 25 := ((zv_wi w60 rfl).trans (zv_wi w58 rfl))
    have y70 : zv_i h59 1 = zv_i h 1 := ((zv_wi w60 rfl).trans (zv_wi w58 rfl))
    have a61 : ∀ j, 0 ≤ j → zv_a h59 61 j = zv_a h 61 j := fun j hj => by rw [zv_wa w60 rfl j, zv_wa w58 rfl j]
    have a71 : ∀ j, 0 ≤ j → zv_a h59 71 j = zv_a h57 71 j := fun j hj => by rw [zv_wa w60 rfl j]
    have a72 : ∀ j, 0 ≤ j → zv_a h59 72 j = zv_a h57 72 j := fun j hj => by rw [zv_wa w60 rfl j]
    have b69 : ∀ j, 0 ≤ j → zv_b h59 69 j = if j = t + 1 then v55 else zv_b h 69 j := fun j hj => by rw [s61 j hj, zv_wb w58 rfl j]
    exact zr_vr (pc := 174) rfl rfl ⟨ih59, ((w58.wd rfl : zb_W [(44, 25), (61, 0), (69, 0), (44, 50), (44, 14), (44, 42), (44, 43), (44, 49), (44, 41), (44, 38), (71, 0), (72, 0)] h _).tr (w60.wd rfl)), rfl, by dsimp only; exact zf_aci (show zv_a h 45 p = 4 by omega) (by decide) (by decide) (zf_rf0 (by omega)) (by omega) (by omega) (by omega) (zf_wi4 ⟨⟨by have := tX.2.1; omega, fun j j0 => by rw [a71 j j0, tX.2.2.1 j j0], fun j j0 => by rw [a72 j j0, tX.2.2.2 j j0]⟩, fun j j0 => by rw [b69 j j0, tX.1]⟩) (fun _ j j0 => by rw [a61 j j0]) (fun z => absurd z (by decide)) (zf_gf0 (by omega) (by omega))⟩
  · refine zr_sw (i := .tableswitch 107 1 6 #[38, 38, 56, 68, 68, 85]) (len := 38) (t := 74) (x := zv_a h 45 p) (k := 5) (pc := 6) rfl c2 rfl rfl rfl rfl ?_
    have d1 := dz.1.1 (by omega) (by omega)
    refine zx_T.l (i := .aload_n 0) (k := 1) (v := .ref 44) (pc := 74) rfl rfl rfl ?_
    refine zr_gr (k := 36) (b := 69) (pc := 75) rfl rfl rfl hI ?_
    refine zx_T.l (i := .iload_n 2) (k := 1) (v := .int (zI (t))) (pc := 78) rfl rfl rfl ?_
    refine zx_T.s (i := .iconst 1) (k := 1) (st' := [.int (zI (1)), .int (zI (t)), .ref 69]) (pc := 79) rfl rfl ?_
    refine zr_add (x := t) (y := 1) (e := t + 1) (pc := 80) rfl (by omega) ?_
    refine zx_T.l (i := .aload_n 0) (k := 1) (v := .ref 44) (pc := 81) rfl rfl rfl ?_
    refine zx_T.s (i := .iconst 0) (k := 1) (st' := [.int (zI (0)), .ref 44, .int (zI (t + 1)), .ref 69]) (pc := 82) rfl rfl ?_
    refine zr_iv (cj := 205) (q' := zp_m205) (As := [.int (zI (0))]) (rest := [.int (zI (t + 1)), .ref 69]) (pc := 83) rfl rfl rfl rfl rfl rfl (Nat.le_of_ble_eq_true rfl) rfl (Nat.le_of_ble_eq_true rfl) hI ((zm_thingX (h := h) hI (m := 0) (by omega) (by omega) (by omega)).up (Nat.le_of_ble_eq_true rfl)) ?_
    rintro r76 h79 ⟨ih79, w80, v77, r76q, x78⟩
    subst r76q
    try dsimp only at x78
    have tX := x78
    show zx_T zp_P 5 zp_m214 86 [(0, .ref 44), (1, .int (zI (p))), (2, .int (zI (t)))] [.int (zI (v77)), .int (zI (t + 1)), .ref 69] h79 _
    refine zr_i2l (pc := 86) rfl (by omega) (by omega) ?_
    refine zr_ls2 (n := 14) (e := v77) (pc := 87) rfl rfl rfl ih79 (by omega) (by omega) (by omega) (by omega) (fun h81 ih81 w82 s83 => ?_)
    refine zx_T.j (i := .goto 86) (k := 3) (pc' := 174) (st' := []) (pc := 88) rfl rfl rfl rfl rfl ?_
    have y84 : zv_i h81 42 = zv_i h 42 := ((zv_wi w82 rfl).trans (zv_wi w80 rfl))
    have y85 : zv_i h81 43 = zv_i h 43 := ((zv_wi w82 rfl).trans (zv_wi w80 rfl))
    have y86 : zv_i h81 38 = zv_i h79 38 := (zv_wi w82 rfl)
    have y87 : zv_i h81 41 = zv_i h 41 := ((zv_wi w82 rfl).trans (zv_wi w80 rfl))
    have y88 : zv_i h81 50 = zv_i h 50 := ((zv_wi w82 rfl).trans (zv_wi w80 rfl))
    have y89 : zv_i h81 14 = zv_i h 14 := ((zv_wi w82 rfl).trans (zv_wi w80 rfl))
    have y90 : zv_i h81 49 = zv_i h 49 := ((zv_wi w82 rfl).trans (zv_wi w80 rfl))
    have i25 : zv_i h81 25 = zv_i h 25 := ((zv_wi w82 rfl).trans (zv_wi w80 rfl))
    have y92 : zv_i h81 1 = zv_i h 1 := ((zv_wi w82 rfl).trans (zv_wi w80 rfl))
    have a61 : ∀ j, 0 ≤ j → zv_a h81 61 j = zv_a h 61 j := fun j hj => by rw [zv_wa w82 rfl j, zv_wa w80 rfl j]
    have a71 : ∀ j, 0 ≤ j → zv_a h81 71 j = zv_a h79 71 j := fun j hj => by rw [zv_wa w82 rfl j]
    have a72 : ∀ j, 0 ≤ j → zv_a h81 72 j = zv_a h79 72 j := fun j hj => by rw [zv_wa w82 rfl j]
    have b69 : ∀ j, 0 ≤ j → zv_b h81 69 j = if j = t + 1 then v77 else zv_b h 69 j := fun j hj => by rw [s83 j hj, zv_wb w80 rfl j]
    exact zr_vr (pc := 174) rfl rfl ⟨ih81, ((w80.wd rfl : zb_W [(44, 25), (61, 0), (69, 0), (44, 50), (44, 14), (44, 42), (44, 43), (44, 49), (44, 41), (44, 38), (71, 0), (72, 0)] h _).tr (w82.wd rfl)), rfl, by dsimp only; exact zf_aci (show zv_a h 45 p = 5 by omega) (by decide) (by decide) (zf_rf0 (by omega)) (by omega) (by omega) (by omega) (zf_wi5 ⟨⟨by have := tX.2.1; omega, fun j j0 => by rw [a71 j j0, tX.2.2.1 j j0], fun j j0 => by rw [a72 j j0, tX.2.2.2 j j0]⟩, fun j j0 => by rw [b69 j j0, tX.1]⟩) (fun _ j j0 => by rw [a61 j j0]) (fun z => absurd z (by decide)) (zf_gf0 (by omega) (by omega))⟩
  · refine zr_sw (i := .tableswitch 107 1 6 #[38, 38, 56, 68, 68, 85]) (len := 38) (t := 91) (x := zv_a h 45 p) (k := 6) (pc := 6) rfl c2 rfl rfl rfl rfl ?_
    have d1 := dz.1.1 (by omega) (by omega)
    refine zx_T.l (i := .aload_n 0) (k := 1) (v := .ref 44) (pc := 91) rfl rfl rfl ?_
    refine zr_gr (k := 36) (b := 69) (pc := 92) rfl rfl rfl hI ?_
    refine zx_T.l (i := .iload_n 2) (k := 1) (v := .int (zI (t))) (pc := 95) rfl rfl rfl ?_
    refine zx_T.s (i := .iconst 1) (k := 1) (st' := [.int (zI (1)), .int (zI (t)), .ref 69]) (pc := 96) rfl rfl ?_
    refine zr_add (x := t) (y := 1) (e := t + 1) (pc := 97) rfl (by omega) ?_
    refine zx_T.l (i := .aload_n 0) (k := 1) (v := .ref 44) (pc := 98) rfl rfl rfl ?_
    refine zx_T.l (i := .aload_n 0) (k := 1) (v := .ref 44) (pc := 99) rfl rfl rfl ?_
    refine zr_gr (k := 3) (b := 46) (pc := 100) rfl rfl rfl hI ?_
    refine zx_T.l (i := .iload_n 1) (k := 1) (v := .int (zI (p))) (pc := 103) rfl rfl rfl ?_
    refine zr_al (n := 60) (lo := (-2147483648)) (hi := 2147483647) (e := zv_a h 46 p) (pc := 104) rfl rfl rfl hI (by omega) (by omega) rfl (fun g97a g97b => ?_)
    refine zr_iv (cj := 205) (q' := zp_m205) (As := [.int (zI (zv_a h 46 p))]) (rest := [.int (zI (t + 1)), .ref 69]) (pc := 105) rfl rfl rfl rfl rfl rfl (Nat.le_of_ble_eq_true rfl) rfl (Nat.le_of_ble_eq_true rfl) hI ((zm_thingX (h := h) hI (m := zv_a h 46 p) (by omega) (by omega) (by omega)).up (Nat.le_of_ble_eq_true rfl)) ?_
    rintro r99 h102 ⟨ih102, w103, v100, r99q, x101⟩
    subst r99q
    try dsimp only at x101
    have tX := x101
    show zx_T zp_P 5 zp_m214 108 [(0, .ref 44), (1, .int (zI (p))), (2, .int (zI (t)))] [.int (zI (v100)), .int (zI (t + 1)), .ref 69] h102 _
    refine zr_i2l (pc := 108) rfl (by omega) (by omega) ?_
    refine zr_ls2 (n := 14) (e := v100) (pc := 109) rfl rfl rfl ih102 (by omega) (by omega) (by omega) (by omega) (fun h104 ih104 w105 s106 => ?_)
    refine zx_T.j (i := .goto 64) (k := 3) (pc' := 174) (st' := []) (pc := 110) rfl rfl rfl rfl rfl ?_
    have y107 : zv_i h104 42 = zv_i h 42 := ((zv_wi w105 rfl).trans (zv_wi w103 rfl))
    have y108 : zv_i h104 43 = zv_i h 43 := ((zv_wi w105 rfl).trans (zv_wi w103 rfl))
    have y109 : zv_i h104 38 = zv_i h102 38 := (zv_wi w105 rfl)
    have y110 : zv_i h104 41 = zv_i h 41 := ((zv_wi w105 rfl).trans (zv_wi w103 rfl))
    have y111 : zv_i h104 50 = zv_i h 50 := ((zv_wi w105 rfl).trans (zv_wi w103 rfl))
    have y112 : zv_i h104 14 = zv_i h 14 := ((zv_wi w105 rfl).trans (zv_wi w103 rfl))
    have y113 : zv_i h104 49 = zv_i h 49 := ((zv_wi w105 rfl).trans (zv_wi w103 rfl))
    have i25 : zv_i h104 25 = zv_i h 25 := ((zv_wi w105 rfl).trans (zv_wi w103 rfl))
    have y115 : zv_i h104 1 = zv_i h 1 := ((zv_wi w105 rfl).trans (zv_wi w103 rfl))
    have a61 : ∀ j, 0 ≤ j → zv_a h104 61 j = zv_a h 61 j := fun j hj => by rw [zv_wa w105 rfl j, zv_wa w103 rfl j]
    have a71 : ∀ j, 0 ≤ j → zv_a h104 71 j = zv_a h102 71 j := fun j hj => by rw [zv_wa w105 rfl j]
    have a72 : ∀ j, 0 ≤ j → zv_a h104 72 j = zv_a h102 72 j := fun j hj => by rw [zv_wa w105 rfl j]
    have b69 : ∀ j, 0 ≤ j → zv_b h104 69 j = if j = t + 1 then v100 else zv_b h 69 j := fun j hj => by rw [s106 j hj, zv_wb w103 rfl j]
    exact zr_vr (pc := 174) rfl rfl ⟨ih104, ((w103.wd rfl : zb_W [(44, 25), (61, 0), (69, 0), (44, 50), (44, 14), (44, 42), (44, 43), (44, 49), (44, 41), (44, 38), (71, 0), (72, 0)] h _).tr (w105.wd rfl)), rfl, by dsimp only; exact zf_aci (show zv_a h 45 p = 6 by omega) (by decide) (by decide) (zf_rf0 (by omega)) (by omega) (by omega) (by omega) (zf_wi6 ⟨⟨by have := tX.2.1; omega, fun j j0 => by rw [a71 j j0, tX.2.2.1 j j0], fun j j0 => by rw [a72 j j0, tX.2.2.2 j j0]⟩, fun j j0 => by rw [b69 j j0, tX.1]⟩) (fun _ j j0 => by rw [a61 j j0]) (fun z => absurd z (by decide)) (zf_gf0 (by omega) (by omega))⟩
  · refine zr_sw (i := .tableswitch 107 1 6 #[38, 38, 56, 68, 68, 85]) (len := 38) (t := 113) (x := zv_a h 45 p) (k := 7) (pc := 6) rfl c2 rfl rfl rfl rfl ?_
    refine zx_T.l (i := .aload_n 0) (k := 1) (v := .ref 44) (pc := 113) rfl rfl rfl ?_
    refine zr_gr (k := 36) (b := 69) (pc := 114) rfl rfl rfl hI ?_
    refine zx_T.l (i := .iload_n 2) (k := 1) (v := .int (zI (t))) (pc := 117) rfl rfl rfl ?_
    have g120 := zv_rb (h := h) 69 t
    refine zr_ll (n := 14) (e := zv_b h 69 t) (pc := 118) rfl rfl rfl hI (by omega) (by omega) rfl ?_
    refine zx_T.s (i := .lconst 0) (k := 1) (st' := [.long (zL (0)), .long (zL (zv_b h 69 t))]) (pc := 119) rfl rfl ?_
    refine zr_lcmp (pc := 120) rfl (by omega) (by omega) (by omega) (by omega) (fun z121 z121a => ?_)
    refine zr_i1 (x := z121) (t := 133) (pc := 121) rfl rfl (by omega) (by omega) (fun (c122 : 0 ≤ z121) => ?_) (fun (c122 : ¬ (0 ≤ z121)) => ?_)
    · refine zx_T.l (i := .aload_n 0) (k := 1) (v := .ref 44) (pc := 133) rfl rfl rfl ?_
      refine zr_gr (k := 36) (b := 69) (pc := 134) rfl rfl rfl hI ?_
      refine zx_T.l (i := .iload_n 2) (k := 1) (v := .int (zI (t))) (pc := 137) rfl rfl rfl ?_
      have g123 := zv_rb (h := h) 69 t
      refine zr_ll (n := 14) (e := zv_b h 69 t) (pc := 138) rfl rfl rfl hI (by omega) (by omega) rfl ?_
      refine zx_T.g (i := .ldc2_w 304) (k := 3) (st' := [.long (zL (20)), .long (zL (zv_b h 69 t))]) (h' := h) (pc := 139) rfl rfl rfl rfl rfl rfl ?_
      refine zr_lcmp (pc := 142) rfl (by omega) (by omega) (by omega) (by omega) (fun z124 z124a => ?_)
      refine zr_i1 (x := z124) (t := 156) (pc := 143) rfl rfl (by omega) (by omega) (fun (c125 : z124 ≤ 0) => ?_) (fun (c125 : ¬ (z124 ≤ 0)) => ?_)
      · refine zx_T.l (i := .aload_n 0) (k := 1) (v := .ref 44) (pc := 156) rfl rfl rfl ?_
        refine zr_gr (k := 36) (b := 69) (pc := 157) rfl rfl rfl hI ?_
        refine zx_T.l (i := .iload_n 2) (k := 1) (v := .int (zI (t))) (pc := 160) rfl rfl rfl ?_
        refine zx_T.l (i := .aload_n 0) (k := 1) (v := .ref 44) (pc := 161) rfl rfl rfl ?_
        refine zx_T.l (i := .aload_n 0) (k := 1) (v := .ref 44) (pc := 162) rfl rfl rfl ?_
        refine zr_gr (k := 36) (b := 69) (pc := 163) rfl rfl rfl hI ?_
        refine zx_T.l (i := .iload_n 2) (k := 1) (v := .int (zI (t))) (pc := 166) rfl rfl rfl ?_
        have g126 := zv_rb (h := h) 69 t
        refine zr_ll (n := 14) (e := zv_b h 69 t) (pc := 167) rfl rfl rfl hI (by omega) (by omega) rfl ?_
        refine zr_l2i (pc := 168) rfl ?_
        refine zr_n32 (x := zv_b h 69 t) (fun z127a z127b => ?_)
        refine zr_iv (cj := 205) (q' := zp_m205) (As := [.int (zI (zi32 (zv_b h 69 t)))]) (rest := [.int (zI (t)), .ref 69]) (pc := 169) rfl rfl rfl rfl rfl rfl (Nat.le_of_ble_eq_true rfl) rfl (Nat.le_of_ble_eq_true rfl) hI ((zm_thingX (h := h) hI (m := zi32 (zv_b h 69 t)) (by omega) (by omega) (by omega)).up (Nat.le_of_ble_eq_true rfl)) ?_
        rintro r129 h132 ⟨ih132, w133, v130, r129q, x131⟩
        subst r129q
        try dsimp only at x131
        have tX := x131
        show zx_T zp_P 5 zp_m214 172 [(0, .ref 44), (1, .int (zI (p))), (2, .int (zI (t)))] [.int (zI (v130)), .int (zI (t)), .ref 69] h132 _
        refine zr_i2l (pc := 172) rfl (by omega) (by omega) ?_
        refine zr_ls2 (n := 14) (e := v130) (pc := 173) rfl rfl rfl ih132 (by omega) (by omega) (by omega) (by omega) (fun h134 ih134 w135 s136 => ?_)
        have y137 : zv_i h134 42 = zv_i h 42 := ((zv_wi w135 rfl).trans (zv_wi w133 rfl))
        have y138 : zv_i h134 43 = zv_i h 43 := ((zv_wi w135 rfl).trans (zv_wi w133 rfl))
        have y139 : zv_i h134 38 = zv_i h132 38 := (zv_wi w135 rfl)
        have y140 : zv_i h134 41 = zv_i h 41 := ((zv_wi w135 rfl).trans (zv_wi w133 rfl))
        have y141 : zv_i h134 50 = zv_i h 50 := ((zv_wi w135 rfl).trans (zv_wi w133 rfl))
        have y142 : zv_i h134 14 = zv_i h 14 := ((zv_wi w135 rfl).trans (zv_wi w133 rfl))
        have y143 : zv_i h134 49 = zv_i h 49 := ((zv_wi w135 rfl).trans (zv_wi w133 rfl))
        have i25 : zv_i h134 25 = zv_i h 25 := ((zv_wi w135 rfl).trans (zv_wi w133 rfl))
        have y145 : zv_i h134 1 = zv_i h 1 := ((zv_wi w135 rfl).trans (zv_wi w133 rfl))
        have a61 : ∀ j, 0 ≤ j → zv_a h134 61 j = zv_a h 61 j := fun j hj => by rw [zv_wa w135 rfl j, zv_wa w133 rfl j]
        have a71 : ∀ j, 0 ≤ j → zv_a h134 71 j = zv_a h132 71 j := fun j hj => by rw [zv_wa w135 rfl j]
        have a72 : ∀ j, 0 ≤ j → zv_a h134 72 j = zv_a h132 72 j := fun j hj => by rw [zv_wa w135 rfl j]
        have b69 : ∀ j, 0 ≤ j → zv_b h134 69 j = if j = t then v130 else zv_b h 69 j := fun j hj => by rw [s136 j hj, zv_wb w133 rfl j]
        exact zr_vr (pc := 174) rfl rfl ⟨ih134, ((w133.wd rfl : zb_W [(44, 25), (61, 0), (69, 0), (44, 50), (44, 14), (44, 42), (44, 43), (44, 49), (44, 41), (44, 38), (71, 0), (72, 0)] h _).tr (w135.wd rfl)), rfl, by dsimp only; exact zf_aci (show zv_a h 45 p = 7 by omega) (by decide) (by decide) ⟨(fun _ => Or.inr (Or.inr ⟨by omega, rfl⟩)), (fun z => absurd z (by decide)), (fun z => absurd z (by decide)), (fun z => absurd z (by decide)), (fun z => absurd z (by decide)), (fun z => absurd z (by decide)), (fun z => absurd z (by decide))⟩ (by omega) (by omega) (by omega) (zf_wi7 ⟨⟨by have := tX.2.1; omega, fun j j0 => by rw [a71 j j0, tX.2.2.1 j j0], fun j j0 => by rw [a72 j j0, tX.2.2.2 j j0]⟩, fun j j0 => by rw [b69 j j0, tX.1]⟩) (fun _ j j0 => by rw [a61 j j0]) (fun z => absurd z (by decide)) (zf_gf0 (by omega) (by omega))⟩
      · refine zx_T.l (i := .aload_n 0) (k := 1) (v := .ref 44) (pc := 146) rfl rfl rfl ?_
        refine zx_T.l (i := .iload_n 1) (k := 1) (v := .int (zI (p))) (pc := 147) rfl rfl rfl ?_
        refine zx_T.s (i := .bipush 6) (k := 2) (st' := [.int (zI (6)), .int (zI (p)), .ref 44]) (pc := 148) rfl rfl ?_
        refine zr_iv (cj := 211) (q' := zp_m211) (As := [.int (zI (p)), .int (zI (6))]) (rest := []) (pc := 150) rfl rfl rfl rfl rfl rfl (Nat.le_of_ble_eq_true rfl) rfl (Nat.le_of_ble_eq_true rfl) hI ((zm_refuseX (h := h) hI (p := p) (q := 6) (by omega) (by omega) (by omega) (by omega) (by omega) (by omega) (by omega)).up (Nat.le_of_ble_eq_true rfl)) ?_
        rintro r152 h155 ⟨ih155, w156, r152q, x154⟩
        subst r152q
        try dsimp only at x154
        have reX := x154
        show zx_T zp_P 5 zp_m214 153 [(0, .ref 44), (1, .int (zI (p))), (2, .int (zI (t)))] [] h155 _
        refine zx_T.j (i := .goto 21) (k := 3) (pc' := 174) (st' := []) (pc := 153) rfl rfl rfl rfl rfl ?_
        have i25 : zv_i h155 25 = zv_i h155 25 := rfl
        have y165 : zv_i h155 1 = zv_i h 1 := (zv_wi w156 rfl)
        have a61 : ∀ j, 0 ≤ j → zv_a h155 61 j = zv_a h155 61 j := fun j hj => rfl
        have a71 : ∀ j, 0 ≤ j → zv_a h155 71 j = zv_a h155 71 j := fun j hj => rfl
        have a72 : ∀ j, 0 ≤ j → zv_a h155 72 j = zv_a h155 72 j := fun j hj => rfl
        have b69 : ∀ j, 0 ≤ j → zv_b h155 69 j = zv_b h155 69 j := fun j hj => rfl
        exact zr_vr (pc := 174) rfl rfl ⟨ih155, (w156.wd rfl : zb_W [(44, 25), (61, 0), (69, 0), (44, 50), (44, 14), (44, 42), (44, 43), (44, 49), (44, 41), (44, 38), (71, 0), (72, 0)] h _), rfl, by dsimp only; exact zf_acr (show zv_a h 45 p = 7 by omega) ⟨(fun _ => by omega), (fun z => absurd z (by decide)), (fun z => absurd z (by decide)), (fun z => absurd z (by decide)), (fun z => absurd z (by decide)), (fun z => absurd z (by decide)), (fun z => absurd z (by decide))⟩ (by decide) reX⟩
    · refine zx_T.l (i := .aload_n 0) (k := 1) (v := .ref 44) (pc := 124) rfl rfl rfl ?_
      refine zx_T.l (i := .iload_n 1) (k := 1) (v := .int (zI (p))) (pc := 125) rfl rfl rfl ?_
      refine zx_T.s (i := .iconst 3) (k := 1) (st' := [.int (zI (3)), .int (zI (p)), .ref 44]) (pc := 126) rfl rfl ?_
      refine zr_iv (cj := 211) (q' := zp_m211) (As := [.int (zI (p)), .int (zI (3))]) (rest := []) (pc := 127) rfl rfl rfl rfl rfl rfl (Nat.le_of_ble_eq_true rfl) rfl (Nat.le_of_ble_eq_true rfl) hI ((zm_refuseX (h := h) hI (p := p) (q := 3) (by omega) (by omega) (by omega) (by omega) (by omega) (by omega) (by omega)).up (Nat.le_of_ble_eq_true rfl)) ?_
      rintro r172 h175 ⟨ih175, w176, r172q, x174⟩
      subst r172q
      try dsimp only at x174
      have reX := x174
      show zx_T zp_P 5 zp_m214 130 [(0, .ref 44), (1, .int (zI (p))), (2, .int (zI (t)))] [] h175 _
      refine zx_T.j (i := .goto 44) (k := 3) (pc' := 174) (st' := []) (pc := 130) rfl rfl rfl rfl rfl ?_
      have i25 : zv_i h175 25 = zv_i h175 25 := rfl
      have y185 : zv_i h175 1 = zv_i h 1 := (zv_wi w176 rfl)
      have a61 : ∀ j, 0 ≤ j → zv_a h175 61 j = zv_a h175 61 j := fun j hj => rfl
      have a71 : ∀ j, 0 ≤ j → zv_a h175 71 j = zv_a h175 71 j := fun j hj => rfl
      have a72 : ∀ j, 0 ≤ j → zv_a h175 72 j = zv_a h175 72 j := fun j hj => rfl
      have b69 : ∀ j, 0 ≤ j → zv_b h175 69 j = zv_b h175 69 j := fun j hj => rfl
      exact zr_vr (pc := 174) rfl rfl ⟨ih175, (w176.wd rfl : zb_W [(44, 25), (61, 0), (69, 0), (44, 50), (44, 14), (44, 42), (44, 43), (44, 49), (44, 41), (44, 38), (71, 0), (72, 0)] h _), rfl, by dsimp only; exact zf_acr (show zv_a h 45 p = 7 by omega) ⟨(fun _ => by omega), (fun z => absurd z (by decide)), (fun z => absurd z (by decide)), (fun z => absurd z (by decide)), (fun z => absurd z (by decide)), (fun z => absurd z (by decide)), (fun z => absurd z (by decide))⟩ (by decide) reX⟩
