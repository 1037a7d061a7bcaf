/-! ===== 97q: the reference, method by method (by program) ===== -/
set_option maxRecDepth 100000 in
set_option maxHeartbeats 4000000 in
theorem zm_isRightF_L {h : zx_H} (hI : zb_I zc_H h) {p : Int} (p1 : 0 ≤ p) (p2 : p ≤ 59) (p9 : p < zv_i h 1) (n8 : ¬ zv_a h 61 8 = 3) (hc : zg_CI h) (c1 : zg_C1 h p) (hP : zP.ok (zr_Pg h)) (F : zF) (hF : zr_Fr h F) (oF : F.ok) (x : zT) (x0 : x.1 = 0) (xo : zw_ok x) (xS : zv_i h 25 = x.2.1) (xN : ∀ j, 0 ≤ j → j < 8 + x.2.1 → zv_a h 61 j = x.2.2 j) (n : Nat) : (∀ {t : Int} (t1 : 0 ≤ t) (t2 : t ≤ zv_i h 5) (hh : ∀ i, 0 ≤ i → i < t → zs_hh (zr_Pg h) F p x i), (1000 - t : Int).toNat < n → zx_T zp_P 4 zp_m185 2 [(0, .ref 44), (1, .int (zI (p))), (2, .int (zI (t)))] [] h (zr_R [(44, 25), (44, 26), (61, 0)] h (fun e h' => ((e = 1 ∧ zs_rt (zr_Pg h) F p x ∧ zv_i h' 25 = (zs_ap (zv_a h 45 p) (zv_a h 46 p) x).2.1 ∧ ∀ j, 0 ≤ j → j < 8 + (zs_ap (zv_a h 45 p) (zv_a h 46 p) x).2.1 → zv_a h' 61 j = (zs_ap (zv_a h 45 p) (zv_a h 46 p) x).2.2 j) ∨ (e = 0 ∧ ¬ zs_rt (zr_Pg h) F p x)) ∧ 0 ≤ e ∧ e ≤ 1))) ∧ (∀ {h2 : zx_H} {k : Int} (hI2 : zb_I zc_H h2) (k1 : 0 ≤ k) (k2 : k ≤ 2) (hw : zb_W [(44, 25), (44, 26), (61, 0)] h h2) (hh : ∀ i, 0 ≤ i → i < zv_i h 5 → zs_hh (zr_Pg h) F p x i) (y0 : (zs_ap (zv_a h 45 p) (zv_a h 46 p) x).1 = 0) (yo : zw_ok (zs_ap (zv_a h 45 p) (zv_a h 46 p) x)) (yS : zv_i h2 25 = (zs_ap (zv_a h 45 p) (zv_a h 46 p) x).2.1) (yN : ∀ j, 0 ≤ j → j < 8 + (zs_ap (zv_a h 45 p) (zv_a h 46 p) x).2.1 → zv_a h2 61 j = (zs_ap (zv_a h 45 p) (zv_a h 46 p) x).2.2 j) (wy : ∀ i, 0 ≤ i → i < k → zs_hw (zr_Pg h) F p (zs_ap (zv_a h 45 p) (zv_a h 46 p) x) i), (10 - k : Int).toNat < n → zx_T zp_P 4 zp_m185 96 [(0, .ref 44), (1, .int (zI (p))), (2, .int (zI (k)))] [] h2 (zr_R [(44, 25), (44, 26), (61, 0)] h (fun e h' => ((e = 1 ∧ zs_rt (zr_Pg h) F p x ∧ zv_i h' 25 = (zs_ap (zv_a h 45 p) (zv_a h 46 p) x).2.1 ∧ ∀ j, 0 ≤ j → j < 8 + (zs_ap (zv_a h 45 p) (zv_a h 46 p) x).2.1 → zv_a h' 61 j = (zs_ap (zv_a h 45 p) (zv_a h 46 p) x).2.2 j) ∨ (e = 0 ∧ ¬ zs_rt (zr_Pg h) F p x)) ∧ 0 ≤ e ∧ e ≤ 1))) := by
  induction n with
  | zero => exact ⟨fun _ _ _ hm => absurd hm (Nat.not_lt_zero _), fun _ _ _ _ _ _ _ _ _ _ hm => absurd hm (Nat.not_lt_zero _)⟩
  | succ n ih =>
    refine ⟨?_, ?_⟩
    · intro t t1 t2 hh hm
      have hC := zv_ri hI (k := 1) rfl
      have hH := zv_ri hI (k := 5) rfl
      have xr := xo.2
      have ofn := oF.2.1
      refine zx_T.l (i := .iload_n 2) (k := 1) (v := .int (zI (t))) (pc := 2) rfl rfl rfl ?_
      refine zx_T.l (i := .aload_n 0) (k := 1) (v := .ref 44) (pc := 3) rfl rfl rfl ?_
      refine zr_gi (k := 5) (lo := 0) (hi := 6) (e := zv_i h 5) (pc := 4) rfl rfl rfl hI rfl (fun g1a g1b => ?_)
      refine zr_i2 (x := t) (y := zv_i h 5) (t := 84) (pc := 7) rfl rfl (by omega) (by omega) (by omega) (by omega) (fun (c2 : (zv_i h 5) ≤ t) => ?_) (fun (c2 : ¬ ((zv_i h 5) ≤ t)) => ?_)
      · refine zx_T.l (i := .aload_n 0) (k := 1) (v := .ref 44) (pc := 84) rfl rfl rfl ?_
        refine zx_T.l (i := .iload_n 1) (k := 1) (v := .int (zI (p))) (pc := 85) rfl rfl rfl ?_
        refine zr_iv (cj := 167) (q' := zp_m167) (As := [.int (zI (p))]) (rest := []) (pc := 86) rfl rfl rfl rfl rfl rfl (Nat.le_of_ble_eq_true rfl) rfl (Nat.le_of_ble_eq_true rfl) hI ((zm_doesF (h := h) hI (p := p) (by omega) (by omega) n8 (hc p (by omega) (by omega))).up (Nat.le_of_ble_eq_true rfl)) ?_
        rintro r4 h7 ⟨ih7, w8, v5, r4q, x6⟩
        subst r4q
        try dsimp only at x6
        have o9 : (0 ≤ zv_a h 45 p ∧ zv_a h 45 p ≤ 28) ∧ (zv_a h 45 p = 21 → 5 ≤ zv_a h 46 p) := hP.1 p (by omega) p9
        have dX := zr_dx (P := zr_Pg h) (p := p) (x := x) (e := v5) o9.1 x0 xr.1 xS xN (by rw [x6.1]; exact x6.2)
        have rg := zv_ri ih7 (k := 26) rfl; have rg2 := x6.1
        show zx_T zp_P 4 zp_m185 89 [(0, .ref 44), (1, .int (zI (p))), (2, .int (zI (t)))] [.int (zI (v5))] h7 _
        refine zr_i1 (x := v5) (t := 94) (pc := 89) rfl rfl (by omega) (by omega) (fun (c9 : v5 = 0) => ?_) (fun (c9 : ¬ (v5 = 0)) => ?_)
        · refine zx_T.s (i := .iconst 0) (k := 1) (st' := [.int (zI (0))]) (pc := 94) rfl rfl ?_
          refine zx_T.t (i := .istore_n 2) (k := 1) (ls' := [(2, .int (zI (0))), (0, .ref 44), (1, .int (zI (p)))]) (st' := []) (pc := 95) rfl rfl rfl rfl ?_
          refine zx_T.lk (ls' := [(0, .ref 44), (1, .int (zI (p))), (2, .int (zI (0)))]) rfl ⟨rfl, rfl, rfl, trivial⟩ ?_
          exact ih.2 (h2 := h7) (k := 0) ih7 (by omega) (by omega) (w8.wd rfl : zb_W [(44, 25), (44, 26), (61, 0)] h _) (fun i i0 i1 => hh i i0 (by omega)) (dX.1.symm.trans (by omega)) (zw_ap xo o9.1 o9.2) dX.2.1 dX.2.2 (fun i i0 i1 => absurd i1 (by omega)) (by omega)
        · refine zx_T.s (i := .iconst 0) (k := 1) (st' := [.int (zI (0))]) (pc := 92) rfl rfl ?_
          exact zr_ir (x := 0) (pc := 93) rfl rfl (zr_nb (by omega) (by omega)) ⟨ih7, (w8.wd rfl : zb_W [(44, 25), (44, 26), (61, 0)] h _), _, rfl, by dsimp only; exact ⟨Or.inr ⟨rfl, fun z => by first | (exact absurd (dX.1.trans z.2.1) (by omega)) | (have z1 := z.1 t t1 (by show t < zv_i h 5; omega) (by show zv_a h 48 t ≤ p ∧ p < zv_a h 49 t; omega); rw [show (zr_Pg h).ha t = zv_a h 50 t from rfl, fE.1] at z1; have z2 := z1.2.2.1; have hf2 := hf9.2.2.1; first | omega | (exact (lG.resolve_left (fun z => absurd z.1 (by omega))).2 ((zs_lg_ag (fun j j0 j1 => xN j j0 (by omega))).2 z1.2.1)) | (exact (gA.resolve_left (fun z => absurd z.1 (by omega))).2 (by rw [kf9]; exact z1.2.2.2)))⟩, by omega, by omega⟩⟩
      · refine zx_T.l (i := .aload_n 0) (k := 1) (v := .ref 44) (pc := 10) rfl rfl rfl ?_
        refine zx_T.l (i := .iload_n 2) (k := 1) (v := .int (zI (t))) (pc := 11) rfl rfl rfl ?_
        refine zx_T.l (i := .iload_n 1) (k := 1) (v := .int (zI (p))) (pc := 12) rfl rfl rfl ?_
        refine zr_iv (cj := 171) (q' := zp_m171) (As := [.int (zI (t)), .int (zI (p))]) (rest := []) (pc := 13) rfl rfl rfl rfl rfl rfl (Nat.le_of_ble_eq_true rfl) rfl (Nat.le_of_ble_eq_true rfl) hI ((zm_has (h := h) hI (t := t) (p := p) (by omega) (by omega) (by omega) (by omega)).up (Nat.le_of_ble_eq_true rfl)) ?_
        rintro r10 h13 ⟨h13q, v11, r10q, x12⟩
        subst h13q r10q
        try dsimp only at x12
        have hx := x12
        show zx_T zp_P 4 zp_m185 16 [(0, .ref 44), (1, .int (zI (p))), (2, .int (zI (t)))] [.int (zI (v11))] h _
        refine zr_i1 (x := v11) (t := 78) (pc := 16) rfl rfl (by omega) (by omega) (fun (c14 : v11 = 0) => ?_) (fun (c14 : ¬ (v11 = 0)) => ?_)
        · refine zr_inc (x := t) (n := 1) (y := t + 1) (ls' := [(2, .int (zI (t + 1))), (0, .ref 44), (1, .int (zI (p)))]) (pc := 78) rfl rfl rfl (by omega) rfl ?_
          refine zx_T.j (i := .goto (-79)) (k := 3) (pc' := 2) (st' := []) (pc := 81) rfl rfl rfl rfl rfl ?_
          refine zx_T.lk (ls' := [(0, .ref 44), (1, .int (zI (p))), (2, .int (zI (t + 1)))]) rfl ⟨rfl, rfl, rfl, trivial⟩ ?_
          exact ih.1 (t := t + 1) (by omega) (by omega) (fun i i0 i1 => by rcases (show i = t ∨ i < t by omega) with z | z; (subst z; intro zz; have zz : zv_a h 48 i ≤ p ∧ p < zv_a h 49 i := zz; first | (exfalso; omega) | (rw [show (zr_Pg h).ha i = zv_a h 50 i from rfl, fE.1]; have hf2 := hf9.2.2.1; exact ⟨by omega, (zs_lg_ag (fun j j0 j1 => xN j j0 (by omega))).1 (lG.resolve_right (fun z => absurd z.1 (by omega))).2, by omega, by rw [← kf9]; exact (gA.resolve_right (fun z => absurd z.1 (by omega))).2⟩)); exact hh i i0 z) (by omega)
        · refine zx_T.l (i := .aload_n 0) (k := 1) (v := .ref 44) (pc := 19) rfl rfl rfl ?_
          refine zx_T.l (i := .aload_n 0) (k := 1) (v := .ref 44) (pc := 20) rfl rfl rfl ?_
          refine zr_gr (k := 8) (b := 50) (pc := 21) rfl rfl rfl hI ?_
          refine zx_T.l (i := .iload_n 2) (k := 1) (v := .int (zI (t))) (pc := 24) rfl rfl rfl ?_
          refine zr_al (n := 6) (lo := 0) (hi := 60) (e := zv_a h 50 t) (pc := 25) rfl rfl rfl hI (by omega) (by omega) rfl (fun g15a g15b => ?_)
          refine zr_iv (cj := 179) (q' := zp_m179) (As := [.int (zI (zv_a h 50 t))]) (rest := []) (pc := 26) rfl rfl rfl rfl rfl rfl (Nat.le_of_ble_eq_true rfl) rfl (Nat.le_of_ble_eq_true rfl) hI ((zm_frameAt (h := h) hI (p := zv_a h 50 t) (by omega) (by omega)).up (Nat.le_of_ble_eq_true rfl)) ?_
          rintro r17 h20 ⟨h20q, v18, r17q, x19⟩
          subst h20q r17q
          try dsimp only at x19
          have fav18 := x19
          have f0 := zg_fax x19 (c1.1 t (by omega) (by omega) (by omega) (by omega))
          have fE := zr_faE hF oF x19
          show zx_T zp_P 4 zp_m185 29 [(0, .ref 44), (1, .int (zI (p))), (2, .int (zI (t)))] [.int (zI (v18))] h _
          refine zx_T.t (i := .istore_n 3) (k := 1) (ls' := [(3, .int (zI (v18))), (0, .ref 44), (1, .int (zI (p))), (2, .int (zI (t)))]) (st' := []) (pc := 29) rfl rfl rfl rfl ?_
          refine zx_T.l (i := .aload_n 0) (k := 1) (v := .ref 44) (pc := 30) rfl rfl rfl ?_
          refine zx_T.l (i := .iload_n 3) (k := 1) (v := .int (zI (v18))) (pc := 31) rfl rfl rfl ?_
          have of9 := oF.2.2 v18 (by omega) (by omega)
          have hf9 := hF.2 v18 (by omega) (by omega)
          refine zr_iv (cj := 182) (q' := zp_m182) (As := [.int (zI (v18))]) (rest := []) (pc := 32) rfl rfl rfl rfl rfl rfl (Nat.le_of_ble_eq_true rfl) rfl (Nat.le_of_ble_eq_true rfl) hI ((zm_localsGoF (h := h) hI (f := v18) F hF oF (by omega) (by omega)).up (Nat.le_of_ble_eq_true rfl)) ?_
          rintro r21 h24 ⟨h24q, v22, r21q, x23⟩
          subst h24q r21q
          try dsimp only at x23
          have lG := x23.1
          show zx_T zp_P 4 zp_m185 35 [(3, .int (zI (v18))), (0, .ref 44), (1, .int (zI (p))), (2, .int (zI (t)))] [.int (zI (v22))] h _
          refine zr_i1 (x := v22) (t := 76) (pc := 35) rfl rfl (by omega) (by omega) (fun (c25 : v22 = 0) => ?_) (fun (c25 : ¬ (v22 = 0)) => ?_)
          · refine zx_T.s (i := .iconst 0) (k := 1) (st' := [.int (zI (0))]) (pc := 76) rfl rfl ?_
            exact zr_ir (x := 0) (pc := 77) rfl rfl (zr_nb (by omega) (by omega)) ⟨hI, zb_W.rf, _, rfl, by dsimp only; exact ⟨Or.inr ⟨rfl, fun z => by first | (exact absurd (dX.1.trans z.2.1) (by omega)) | (have z1 := z.1 t t1 (by show t < zv_i h 5; omega) (by show zv_a h 48 t ≤ p ∧ p < zv_a h 49 t; omega); rw [show (zr_Pg h).ha t = zv_a h 50 t from rfl, fE.1] at z1; have z2 := z1.2.2.1; have hf2 := hf9.2.2.1; first | omega | (exact (lG.resolve_left (fun z => absurd z.1 (by omega))).2 ((zs_lg_ag (fun j j0 j1 => xN j j0 (by omega))).2 z1.2.1)) | (exact (gA.resolve_left (fun z => absurd z.1 (by omega))).2 (by rw [kf9]; exact z1.2.2.2)))⟩, by omega, by omega⟩⟩
          · refine zx_T.l (i := .aload_n 0) (k := 1) (v := .ref 44) (pc := 38) rfl rfl rfl ?_
            refine zr_gr (k := 22) (b := 59) (pc := 39) rfl rfl rfl hI ?_
            refine zx_T.l (i := .iload_n 3) (k := 1) (v := .int (zI (v18))) (pc := 42) rfl rfl rfl ?_
            refine zr_al (n := 60) (lo := 0) (hi := 6) (e := zv_a h 59 v18) (pc := 43) rfl rfl rfl hI (by omega) (by omega) rfl (fun g26a g26b => ?_)
            refine zx_T.s (i := .iconst 1) (k := 1) (st' := [.int (zI (1)), .int (zI (zv_a h 59 v18))]) (pc := 44) rfl rfl ?_
            refine zr_i2 (x := zv_a h 59 v18) (y := 1) (t := 76) (pc := 45) rfl rfl (by omega) (by omega) (by omega) (by omega) (fun (c27 : ¬ (zv_a h 59 v18) = 1) => ?_) (fun (c27 : ¬ (¬ (zv_a h 59 v18) = 1)) => ?_)
            · refine zx_T.s (i := .iconst 0) (k := 1) (st' := [.int (zI (0))]) (pc := 76) rfl rfl ?_
              exact zr_ir (x := 0) (pc := 77) rfl rfl (zr_nb (by omega) (by omega)) ⟨hI, zb_W.rf, _, rfl, by dsimp only; exact ⟨Or.inr ⟨rfl, fun z => by first | (exact absurd (dX.1.trans z.2.1) (by omega)) | (have z1 := z.1 t t1 (by show t < zv_i h 5; omega) (by show zv_a h 48 t ≤ p ∧ p < zv_a h 49 t; omega); rw [show (zr_Pg h).ha t = zv_a h 50 t from rfl, fE.1] at z1; have z2 := z1.2.2.1; have hf2 := hf9.2.2.1; first | omega | (exact (lG.resolve_left (fun z => absurd z.1 (by omega))).2 ((zs_lg_ag (fun j j0 j1 => xN j j0 (by omega))).2 z1.2.1)) | (exact (gA.resolve_left (fun z => absurd z.1 (by omega))).2 (by rw [kf9]; exact z1.2.2.2)))⟩, by omega, by omega⟩⟩
            · have kf9 : zv_a h 60 (14 * v18 + zv_a h 58 v18) = F.kf v18 8 := (by have ky := hf9.2.2.2.2 0 (by decide) (by omega); have kl := hf9.2.1; rw [show 14 * v18 + zv_a h 58 v18 = 14 * v18 + F.lo v18 + 0 by omega]; exact ky)
              refine zx_T.l (i := .aload_n 0) (k := 1) (v := .ref 44) (pc := 48) rfl rfl rfl ?_
              refine zr_gr (k := 9) (b := 51) (pc := 49) rfl rfl rfl hI ?_
              refine zx_T.l (i := .iload_n 2) (k := 1) (v := .int (zI (t))) (pc := 52) rfl rfl rfl ?_
              refine zr_al (n := 6) (lo := 0) (hi := 8) (e := zv_a h 51 t) (pc := 53) rfl rfl rfl hI (by omega) (by omega) rfl (fun g28a g28b => ?_)
              refine zx_T.l (i := .aload_n 0) (k := 1) (v := .ref 44) (pc := 54) rfl rfl rfl ?_
              refine zr_gr (k := 23) (b := 60) (pc := 55) rfl rfl rfl hI ?_
              refine zx_T.s (i := .bipush 14) (k := 2) (st' := [.int (zI (14)), .ref 60, .int (zI (zv_a h 51 t))]) (pc := 58) rfl rfl ?_
              refine zx_T.l (i := .iload_n 3) (k := 1) (v := .int (zI (v18))) (pc := 60) rfl rfl rfl ?_
              refine zr_mul (x := 14) (y := v18) (e := 14 * v18) (pc := 61) rfl (by omega) ?_
              refine zx_T.l (i := .aload_n 0) (k := 1) (v := .ref 44) (pc := 62) rfl rfl rfl ?_
              refine zr_gr (k := 21) (b := 58) (pc := 63) rfl rfl rfl hI ?_
              refine zx_T.l (i := .iload_n 3) (k := 1) (v := .int (zI (v18))) (pc := 66) rfl rfl rfl ?_
              refine zr_al (n := 60) (lo := 0) (hi := 8) (e := zv_a h 58 v18) (pc := 67) rfl rfl rfl hI (by omega) (by omega) rfl (fun g29a g29b => ?_)
              refine zr_add (x := 14 * v18) (y := zv_a h 58 v18) (e := 14 * v18 + zv_a h 58 v18) (pc := 68) rfl (by omega) ?_
              refine zr_al (n := 840) (lo := 0) (hi := 8) (e := zv_a h 60 (14 * v18 + zv_a h 58 v18)) (pc := 69) rfl rfl rfl hI (by omega) (by omega) rfl (fun g30a g30b => ?_)
              refine zr_is (cj := 156) (q' := zp_m156) (As := [.int (zI (zv_a h 51 t)), .int (zI (zv_a h 60 (14 * v18 + zv_a h 58 v18)))]) (rest := []) (pc := 70) rfl rfl rfl rfl rfl rfl (Nat.le_of_ble_eq_true rfl) rfl (Nat.le_of_ble_eq_true rfl) rfl ((zm_goesAsR (h := h) hI (a := zv_a h 51 t) (b := zv_a h 60 (14 * v18 + zv_a h 58 v18)) (by omega) (by omega) (by omega) (by omega)).up (Nat.le_of_ble_eq_true rfl)) ?_
              rintro r31 h34 ⟨h34q, v32, r31q, x33⟩
              subst h34q r31q
              try dsimp only at x33
              have gA := x33.1
              show zx_T zp_P 4 zp_m185 73 [(3, .int (zI (v18))), (0, .ref 44), (1, .int (zI (p))), (2, .int (zI (t)))] [.int (zI (v32))] h _
              refine zr_i1 (x := v32) (t := 78) (pc := 73) rfl rfl (by omega) (by omega) (fun (c35 : ¬ v32 = 0) => ?_) (fun (c35 : ¬ (¬ v32 = 0)) => ?_)
              · refine zr_inc (x := t) (n := 1) (y := t + 1) (ls' := [(2, .int (zI (t + 1))), (3, .int (zI (v18))), (0, .ref 44), (1, .int (zI (p)))]) (pc := 78) rfl rfl rfl (by omega) rfl ?_
                refine zx_T.j (i := .goto (-79)) (k := 3) (pc' := 2) (st' := []) (pc := 81) rfl rfl rfl rfl rfl ?_
                refine zx_T.lk (ls' := [(0, .ref 44), (1, .int (zI (p))), (2, .int (zI (t + 1)))]) rfl ⟨rfl, rfl, rfl, trivial⟩ ?_
                exact ih.1 (t := t + 1) (by omega) (by omega) (fun i i0 i1 => by rcases (show i = t ∨ i < t by omega) with z | z; (subst z; intro zz; have zz : zv_a h 48 i ≤ p ∧ p < zv_a h 49 i := zz; first | (exfalso; omega) | (rw [show (zr_Pg h).ha i = zv_a h 50 i from rfl, fE.1]; have hf2 := hf9.2.2.1; exact ⟨by omega, (zs_lg_ag (fun j j0 j1 => xN j j0 (by omega))).1 (lG.resolve_right (fun z => absurd z.1 (by omega))).2, by omega, by rw [← kf9]; exact (gA.resolve_right (fun z => absurd z.1 (by omega))).2⟩)); exact hh i i0 z) (by omega)
              · refine zx_T.s (i := .iconst 0) (k := 1) (st' := [.int (zI (0))]) (pc := 76) rfl rfl ?_
                exact zr_ir (x := 0) (pc := 77) rfl rfl (zr_nb (by omega) (by omega)) ⟨hI, zb_W.rf, _, rfl, by dsimp only; exact ⟨Or.inr ⟨rfl, fun z => by first | (exact absurd (dX.1.trans z.2.1) (by omega)) | (have z1 := z.1 t t1 (by show t < zv_i h 5; omega) (by show zv_a h 48 t ≤ p ∧ p < zv_a h 49 t; omega); rw [show (zr_Pg h).ha t = zv_a h 50 t from rfl, fE.1] at z1; have z2 := z1.2.2.1; have hf2 := hf9.2.2.1; first | omega | (exact (lG.resolve_left (fun z => absurd z.1 (by omega))).2 ((zs_lg_ag (fun j j0 j1 => xN j j0 (by omega))).2 z1.2.1)) | (exact (gA.resolve_left (fun z => absurd z.1 (by omega))).2 (by rw [kf9]; exact z1.2.2.2)))⟩, by omega, by omega⟩⟩
    · intro h2 k hI2 k1 k2 hw hh y0 yo yS yN wy hm
      have hC := zv_ri hI (k := 1) rfl
      have hH := zv_ri hI (k := 5) rfl
      have xr := xo.2
      have ofn := oF.2.1
      have hF2 := zr_Fr_w hw rfl hF
      have yr := yo.2
      refine zx_T.l (i := .iload_n 2) (k := 1) (v := .int (zI (k))) (pc := 96) rfl rfl rfl ?_
      refine zx_T.l (i := .aload_n 0) (k := 1) (v := .ref 44) (pc := 97) rfl rfl rfl ?_
      refine zx_T.l (i := .iload_n 1) (k := 1) (v := .int (zI (p))) (pc := 98) rfl rfl rfl ?_
      refine zr_iv (cj := 170) (q' := zp_m170) (As := [.int (zI (p))]) (rest := [.int (zI (k))]) (pc := 99) rfl rfl rfl rfl rfl rfl (Nat.le_of_ble_eq_true rfl) rfl (Nat.le_of_ble_eq_true rfl) hI2 ((zm_jumps (h := h2) hI2 (p := p) (by omega) (by omega)).up (Nat.le_of_ble_eq_true rfl)) ?_
      rintro r36 h39 ⟨h39q, v37, r36q, x38⟩
      subst h39q r36q
      try dsimp only at x38
      have jj := x38
      simp only [zv_wa hw (a := 45) rfl] at jj
      have js : v37 = zs_js (zr_Pg h) p := (by show v37 = if zv_a h 45 p = 27 then 2 else if 24 ≤ zv_a h 45 p ∧ zv_a h 45 p ≤ 26 then 1 else 0; split <;> first | omega | (split <;> omega))
      show zx_T zp_P 4 zp_m185 102 [(0, .ref 44), (1, .int (zI (p))), (2, .int (zI (k)))] [.int (zI (v37)), .int (zI (k))] h2 _
      refine zr_i2 (x := k) (y := v37) (t := 130) (pc := 102) rfl rfl (by omega) (by omega) (by omega) (by omega) (fun (c40 : v37 ≤ k) => ?_) (fun (c40 : ¬ (v37 ≤ k)) => ?_)
      · refine zx_T.s (i := .iconst 1) (k := 1) (st' := [.int (zI (1))]) (pc := 130) rfl rfl ?_
        exact zr_ir (x := 1) (pc := 131) rfl rfl (zr_nb (by omega) (by omega)) ⟨hI2, (hw.wd rfl : zb_W [(44, 25), (44, 26), (61, 0)] h _), _, rfl, by dsimp only; exact ⟨Or.inl ⟨rfl, ⟨fun i i0 i1 => hh i i0 (by have i2 : i < zv_i h 5 := i1; omega), y0, fun i i0 i1 => wy i i0 (by omega)⟩, yS, yN⟩, by omega, by omega⟩⟩
      · have oR : 24 ≤ zv_a h 45 p ∧ zv_a h 45 p ≤ 27 := by omega
        have o27 : k = 1 → zv_a h 45 p = 27 := by omega
        have k01 : k = 0 ∨ k = 1 := by omega
        refine zx_T.l (i := .aload_n 0) (k := 1) (v := .ref 44) (pc := 105) rfl rfl rfl ?_
        refine zx_T.l (i := .aload_n 0) (k := 1) (v := .ref 44) (pc := 106) rfl rfl rfl ?_
        refine zx_T.l (i := .aload_n 0) (k := 1) (v := .ref 44) (pc := 107) rfl rfl rfl ?_
        refine zx_T.l (i := .iload_n 1) (k := 1) (v := .int (zI (p))) (pc := 108) rfl rfl rfl ?_
        refine zx_T.l (i := .iload_n 2) (k := 1) (v := .int (zI (k))) (pc := 109) rfl rfl rfl ?_
        refine zr_iv (cj := 169) (q' := zp_m169) (As := [.int (zI (p)), .int (zI (k))]) (rest := [.ref 44, .ref 44]) (pc := 110) rfl rfl rfl rfl rfl rfl (Nat.le_of_ble_eq_true rfl) rfl (Nat.le_of_ble_eq_true rfl) hI2 ((zm_jump (h := h2) hI2 (p := p) (k := k) (by omega) (by omega) (by omega) (by omega)).up (Nat.le_of_ble_eq_true rfl)) ?_
        rintro r41 h44 ⟨h44q, v42, r41q, x43⟩
        subst h44q r41q
        try dsimp only at x43
        have jw := x43
        simp only [zv_wa hw (a := 45) rfl, zv_wa hw (a := 46) rfl, zv_wa hw (a := 47) rfl] at jw
        have wyE : zs_wy (zr_Pg h) p k = v42 := (by show (if k = 0 then zv_a h 46 p else zv_a h 47 p) = v42; rcases k01 with z | z; (rw [if_pos z]; exact (jw.2.2.1 z oR.1 oR.2).symm); (rw [if_neg (by rw [z]; decide)]; exact (jw.2.2.2 z (o27 z)).symm))
        show zx_T zp_P 4 zp_m185 113 [(0, .ref 44), (1, .int (zI (p))), (2, .int (zI (k)))] [.int (zI (v42)), .ref 44, .ref 44] h2 _
        have y45 : zv_i h2 19 = zv_i h 19 := (zv_wi hw rfl)
        refine zr_iv (cj := 179) (q' := zp_m179) (As := [.int (zI (v42))]) (rest := [.ref 44]) (pc := 113) rfl rfl rfl rfl rfl rfl (Nat.le_of_ble_eq_true rfl) rfl (Nat.le_of_ble_eq_true rfl) hI2 ((zm_frameAt (h := h2) hI2 (p := v42) (by omega) (by omega)).up (Nat.le_of_ble_eq_true rfl)) ?_
        rintro r46 h49 ⟨h49q, v47, r46q, x48⟩
        subst h49q r46q
        try dsimp only at x48
        have fav47 := x48
        have f0 := zg_fax x48 (by have c2 := c1.w hw rfl rfl rfl; rcases k01 with z | z; (rw [jw.2.2.1 z oR.1 oR.2, ← zv_wa hw (a := 46) rfl]; exact c2.2.1 (by rw [zv_wa hw rfl]; exact oR.1) (by rw [zv_wa hw rfl]; exact oR.2)); (rw [jw.2.2.2 z (o27 z), ← zv_wa hw (a := 47) rfl]; exact c2.2.2 (by rw [zv_wa hw rfl]; exact o27 z)))
        have fE := zr_faE hF2 oF x48
        show zx_T zp_P 4 zp_m185 116 [(0, .ref 44), (1, .int (zI (p))), (2, .int (zI (k)))] [.int (zI (v47)), .ref 44] h2 _
        refine zr_iv (cj := 183) (q' := zp_m183) (As := [.int (zI (v47))]) (rest := []) (pc := 116) rfl rfl rfl rfl rfl rfl (Nat.le_of_ble_eq_true rfl) rfl (Nat.le_of_ble_eq_true rfl) hI2 ((zm_goesF (h := h2) hI2 (f := v47) F hF2 oF (by omega) (by omega)).up (Nat.le_of_ble_eq_true rfl)) ?_
        rintro r50 h53 ⟨h53q, v51, r50q, x52⟩
        subst h53q r50q
        try dsimp only at x52
        have gG := x52.1
        show zx_T zp_P 4 zp_m185 119 [(0, .ref 44), (1, .int (zI (p))), (2, .int (zI (k)))] [.int (zI (v51))] h2 _
        refine zr_i1 (x := v51) (t := 124) (pc := 119) rfl rfl (by omega) (by omega) (fun (c54 : ¬ v51 = 0) => ?_) (fun (c54 : ¬ (¬ v51 = 0)) => ?_)
        · refine zr_inc (x := k) (n := 1) (y := k + 1) (ls' := [(2, .int (zI (k + 1))), (0, .ref 44), (1, .int (zI (p)))]) (pc := 124) rfl rfl rfl (by omega) rfl ?_
          refine zx_T.j (i := .goto (-31)) (k := 3) (pc' := 96) (st' := []) (pc := 127) rfl rfl rfl rfl rfl ?_
          refine zx_T.lk (ls' := [(0, .ref 44), (1, .int (zI (p))), (2, .int (zI (k + 1)))]) rfl ⟨rfl, rfl, rfl, trivial⟩ ?_
          exact ih.2 (h2 := h2) (k := k + 1) hI2 (by omega) (by omega) (hw.wd rfl : zb_W [(44, 25), (44, 26), (61, 0)] h _) (fun i i0 i1 => hh i i0 (by omega)) y0 yo yS yN (fun i i0 i1 => by rcases (show i = k ∨ i < k by omega) with z | z; (subst z; unfold zs_hw; rw [wyE, fE.1]; exact ⟨by omega, (zs_gg_ag yr.1 yS yN).1 (gG.resolve_right (fun z => absurd z.1 (by omega))).2⟩); exact wy i i0 z) (by omega)
        · refine zx_T.s (i := .iconst 0) (k := 1) (st' := [.int (zI (0))]) (pc := 122) rfl rfl ?_
          exact zr_ir (x := 0) (pc := 123) rfl rfl (zr_nb (by omega) (by omega)) ⟨hI2, (hw.wd rfl : zb_W [(44, 25), (44, 26), (61, 0)] h _), _, rfl, by dsimp only; exact ⟨Or.inr ⟨rfl, fun z => by have z1 := z.2.2 k k1 (by omega); unfold zs_hw at z1; rw [wyE, fE.1] at z1; exact (gG.resolve_left (fun z => absurd z.1 (by omega))).2 ((zs_gg_ag yr.1 yS yN).2 z1.2)⟩, by omega, by omega⟩⟩
set_option maxRecDepth 100000 in
set_option maxHeartbeats 4000000 in
theorem zm_isRightF {h : zx_H} (hI : zb_I zc_H h) {p : Int} (p1 : 0 ≤ p) (p2 : p ≤ 59) (p9 : p < zv_i h 1) (n8 : ¬ zv_a h 61 8 = 3) (hc : zg_CI h) (c1 : zg_C1 h p) (hP : zP.ok (zr_Pg h)) (F : zF) (hF : zr_Fr h F) (oF : F.ok) (x : zT) (x0 : x.1 = 0) (xo : zw_ok x) (xS : zv_i h 25 = x.2.1) (xN : ∀ j, 0 ≤ j → j < 8 + x.2.1 → zv_a h 61 j = x.2.2 j) : zx_T zp_P 4 zp_m185 0 [(0, .ref 44), (1, .int (zI (p)))] [] h (zr_R [(44, 25), (44, 26), (61, 0)] h (fun e h' => ((e = 1 ∧ zs_rt (zr_Pg h) F p x ∧ zv_i h' 25 = (zs_ap (zv_a h 45 p) (zv_a h 46 p) x).2.1 ∧ ∀ j, 0 ≤ j → j < 8 + (zs_ap (zv_a h 45 p) (zv_a h 46 p) x).2.1 → zv_a h' 61 j = (zs_ap (zv_a h 45 p) (zv_a h 46 p) x).2.2 j) ∨ (e = 0 ∧ ¬ zs_rt (zr_Pg h) F p x)) ∧ 0 ≤ e ∧ e ≤ 1)) := by
  have hC := zv_ri hI (k := 1) rfl
  have hH := zv_ri hI (k := 5) rfl
  have xr := xo.2
  have ofn := oF.2.1
  refine zx_T.s (i := .iconst 0) (k := 1) (st' := [.int (zI (0))]) (pc := 0) rfl rfl ?_
  refine zx_T.t (i := .istore_n 2) (k := 1) (ls' := [(2, .int (zI (0))), (0, .ref 44), (1, .int (zI (p)))]) (st' := []) (pc := 1) rfl rfl rfl rfl ?_
  refine zx_T.lk (ls' := [(0, .ref 44), (1, .int (zI (p))), (2, .int (zI (0)))]) rfl ⟨rfl, rfl, rfl, trivial⟩ ?_
  exact (zm_isRightF_L (h := h) hI (p := p) p1 p2 p9 n8 hc c1 hP F hF oF x x0 xo xS xN ((1000 - 0 : Int).toNat + 1)).1 (t := 0) (by omega) (by omega) (fun i i0 i1 => absurd i1 (by omega)) (Nat.lt_succ_self _)
