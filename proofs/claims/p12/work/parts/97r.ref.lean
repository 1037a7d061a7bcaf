/-! ===== 97r: the reference, method by method (by program) ===== -/
theorem zm_isRightG {h : zx_H} (hI : zb_I zc_H h) {p : Int} (p1 : 0 ≤ p) (p2 : p ≤ 59) (p9 : p < zv_i h 1) (n8 : ¬ zv_a h 61 8 = 3) (hc : zg_CI h) (c1 : zg_C1 h p) (hP : zP.ok (zr_Pg h)) (F : zF) (hF : zr_Fr h F) (oF : F.ok) (x : zT) (x0 : x.1 = 0) (xo : zw_ok x) (xS : zv_i h 25 = x.2.1) (xN : ∀ j, 0 ≤ j → j < 8 + x.2.1 → zv_a h 61 j = x.2.2 j) : zx_T zp_P 4 zp_m185 0 [(0, .ref 44), (1, .int (zI (p)))] [] h (zr_R [(44, 25), (44, 26), (61, 0)] h (fun e h' => (¬ zv_a h' 61 8 = 3) ∧ (((e = 1 ∧ zs_rt (zr_Pg h) F p x ∧ zv_i h' 25 = (zs_ap (zv_a h 45 p) (zv_a h 46 p) x).2.1 ∧ ∀ j, 0 ≤ j → j < 8 + (zs_ap (zv_a h 45 p) (zv_a h 46 p) x).2.1 → zv_a h' 61 j = (zs_ap (zv_a h 45 p) (zv_a h 46 p) x).2.2 j) ∨ (e = 0 ∧ ¬ zs_rt (zr_Pg h) F p x)) ∧ 0 ≤ e ∧ e ≤ 1))) :=
  ((zm_isRight hI p1 p2 n8 hc c1).and (zm_isRightF hI p1 p2 p9 n8 hc c1 hP F hF oF x x0 xo xS xN)).im fun r h' ⟨⟨_, _, _, _, a⟩, ⟨i, w, e, r1, b⟩⟩ => ⟨i, w, e, r1, a.2.2, b⟩

set_option maxRecDepth 100000 in
set_option maxHeartbeats 4000000 in
theorem zm_judgeF_L {h : zx_H} (hI : zb_I zc_H h)  (hc : zg_CI h) (hC : zv_i h 13 = 1 → zg_C h) (hP : zP.ok (zr_Pg h)) (s : zS) (F : zF) (hA : ¬ zv_i h 13 = 0 → zr_A h s) (hF : ¬ zv_i h 13 = 0 → zr_Fr h F) (oF : ¬ zv_i h 13 = 0 → F.ok) (n : Nat) : (∀ {h2 : zx_H} {f : Int} (hI2 : zb_I zc_H h2) (f1 : 0 ≤ f) (f2 : f ≤ F.n) (im : ¬ zv_i h 13 = 0) (hw : zb_W [(44, 0)] h h2) (wh : ∀ g, 0 ≤ g → g < f → F.wh g), (1000 - f : Int).toNat < n → zx_T zp_P 5 zp_m186 17 [(0, .ref 44), (1, .int (zI (f)))] [] h2 (zr_R [(44, 0), (44, 25), (44, 26), (61, 0)] h (fun e h' => (zv_i h 13 = 0 ∧ e = -3) ∨ (¬ zv_i h 13 = 0 ∧ zs_jd (zr_Pg h) s F e)))) ∧ (∀ {h2 : zx_H} {c : Int} {p : Int} (hI2 : zb_I zc_H h2) (c1 : 0 ≤ c) (c2 : c ≤ 1) (p1 : 0 ≤ p) (p2 : p ≤ zv_i h 1) (im : ¬ zv_i h 13 = 0) (hw : zb_W [(44, 0), (44, 25), (44, 26), (61, 0)] h h2) (wa : ∀ g, 0 ≤ g → g < F.n → F.wh g) (n8 : ¬ zv_a h2 61 8 = 3) (came : Prop) (cm : c = 1 ↔ came) (x : zT) (x0 : x.1 = 0) (xo : zw_ok x) (xS : zv_i h2 25 = x.2.1) (xN : ∀ j, 0 ≤ j → j < 8 + x.2.1 → zv_a h2 61 j = x.2.2 j) (hq : zs_jg (zr_Pg h) s F (zv_i h 1).toNat True (0, 0, zs_row (zr_Pg h)) = zs_jg (zr_Pg h) s F (zv_i h 1 - p).toNat came x), (100 - p : Int).toNat < n → zx_T zp_P 5 zp_m186 105 [(0, .ref 44), (1, .int (zI (c))), (2, .int (zI (p)))] [] h2 (zr_R [(44, 0), (44, 25), (44, 26), (61, 0)] h (fun e h' => (zv_i h 13 = 0 ∧ e = -3) ∨ (¬ zv_i h 13 = 0 ∧ zs_jd (zr_Pg h) s F e)))) := by
  induction n with
  | zero => exact ⟨fun _ _ _ _ _ _ hm => absurd hm (Nat.not_lt_zero _), fun _ _ _ _ _ _ _ _ _ _ _ _ _ _ _ _ _ hm => absurd hm (Nat.not_lt_zero _)⟩
  | succ n ih =>
    refine ⟨?_, ?_⟩
    · intro h2 f hI2 f1 f2 im hw wh hm
      have hM9 := zv_ri hI (k := 13) rfl
      have hF0 := zv_ri hI (k := 19) rfl
      have hD := zv_ri hI (k := 1) rfl
      have hD := zv_ri hI (k := 1) rfl
      have hF9 := hF im
      have hA9 := hA im
      have oF9 := oF im
      have ofn := oF9.2.1
      have nF := hF9.1
      refine zx_T.l (i := .iload_n 1) (k := 1) (v := .int (zI (f))) (pc := 17) rfl rfl rfl ?_
      refine zx_T.l (i := .aload_n 0) (k := 1) (v := .ref 44) (pc := 18) rfl rfl rfl ?_
      refine zr_gi (k := 19) (lo := 0) (hi := 60) (e := zv_i h 19) (pc := 19) rfl rfl rfl hI2 (zv_wi hw rfl) (fun g1a g1b => ?_)
      refine zr_i2 (x := f) (y := zv_i h 19) (t := 88) (pc := 22) rfl rfl (by omega) (by omega) (by omega) (by omega) (fun (c2 : (zv_i h 19) ≤ f) => ?_) (fun (c2 : ¬ ((zv_i h 19) ≤ f)) => ?_)
      · refine zx_T.l (i := .aload_n 0) (k := 1) (v := .ref 44) (pc := 88) rfl rfl rfl ?_
        refine zx_T.l (i := .aload_n 0) (k := 1) (v := .ref 44) (pc := 89) rfl rfl rfl ?_
        refine zr_gr (k := 24) (b := 61) (pc := 90) rfl rfl rfl hI2 ?_
        refine zr_iv (cj := 172) (q' := zp_m172) (As := [.ref 61]) (rest := []) (pc := 93) rfl rfl rfl rfl rfl rfl (Nat.le_of_ble_eq_true rfl) rfl (Nat.le_of_ble_eq_true rfl) hI2 ((zm_begin_61 (h := h2) hI2  ).up (Nat.le_of_ble_eq_true rfl)) ?_
        rintro r3 h6 ⟨ih6, w7, r3q, x5⟩
        subst r3q
        try dsimp only at x5
        have bj := x5
        show zx_T zp_P 5 zp_m186 96 [(0, .ref 44), (1, .int (zI (f)))] [] h6 _
        refine zx_T.l (i := .aload_n 0) (k := 1) (v := .ref 44) (pc := 96) rfl rfl rfl ?_
        refine zx_T.s (i := .iconst 0) (k := 1) (st' := [.int (zI (0)), .ref 44]) (pc := 97) rfl rfl ?_
        refine zr_pi (k := 25) (lo := 0) (hi := 6) (e := 0) (pc := 98) rfl rfl rfl rfl rfl rfl ih6 (by omega) (by omega) (fun h8 ih8 w9 e10 => ?_)
        refine zx_T.s (i := .iconst 1) (k := 1) (st' := [.int (zI (1))]) (pc := 101) rfl rfl ?_
        refine zx_T.t (i := .istore_n 1) (k := 1) (ls' := [(1, .int (zI (1))), (0, .ref 44)]) (st' := []) (pc := 102) rfl rfl rfl rfl ?_
        refine zx_T.s (i := .iconst 0) (k := 1) (st' := [.int (zI (0))]) (pc := 103) rfl rfl ?_
        refine zx_T.t (i := .istore_n 2) (k := 1) (ls' := [(2, .int (zI (0))), (1, .int (zI (1))), (0, .ref 44)]) (st' := []) (pc := 104) rfl rfl rfl rfl ?_
        have y11 : zv_i h8 25 = 0 := e10
        refine zx_T.lk (ls' := [(0, .ref 44), (1, .int (zI (1))), (2, .int (zI (0)))]) rfl ⟨rfl, rfl, rfl, trivial⟩ ?_
        exact ih.2 (h2 := h8) (c := 1) (p := 0) ih8 (by omega) (by omega) (by omega) (by omega) (by omega) (((hw.wd rfl : zb_W [(44, 0), (44, 25), (44, 26), (61, 0)] h _).tr (w7.wd rfl)).tr (w9.wd rfl)) (fun g g0 g1 => wh g g0 (by omega)) (by rw [zv_wa w9 rfl]; have b1 := bj 8 (by omega) (by omega); have b2 := zv_ri hI2 (k := 10) rfl; omega) True ⟨fun _ => trivial, fun _ => rfl⟩ (0, 0, zs_row (zr_Pg h)) rfl ⟨⟨hP.2.2, fun j j0 (j1 : j < 8 + 0) => absurd j1 (by omega)⟩, (show (0 : Int) ≤ 0 by decide), (show (0 : Int) ≤ 6 by decide)⟩ (by show _ = (0 : Int); omega) (fun j j0 (j1 : j < 8 + 0) => by rw [zv_wa w9 rfl]; have b9 := bj j j0 (by omega); rw [zv_wi hw (k := 10) rfl, zv_wa hw (a := 52) rfl] at b9; show zv_a h6 61 j = if j < zv_i h 10 then zv_a h 52 j else 0; by_cases z : j < zv_i h 10; (rw [if_pos z]; exact b9.2 z); (rw [if_neg z]; exact b9.1 (by omega))) (by rw [Int.sub_zero]) (by first | exact Nat.lt_of_lt_of_le ((Int.toNat_lt_toNat (by omega)).mpr (by omega)) (Nat.le_of_lt_succ hm) | omega)
      · refine zx_T.l (i := .aload_n 0) (k := 1) (v := .ref 44) (pc := 25) rfl rfl rfl ?_
        refine zr_gr (k := 23) (b := 60) (pc := 26) rfl rfl rfl hI2 ?_
        refine zx_T.s (i := .bipush 14) (k := 2) (st' := [.int (zI (14)), .ref 60]) (pc := 29) rfl rfl ?_
        refine zx_T.l (i := .iload_n 1) (k := 1) (v := .int (zI (f))) (pc := 31) rfl rfl rfl ?_
        refine zr_mul (x := 14) (y := f) (e := 14 * f) (pc := 32) rfl (by omega) ?_
        refine zx_T.l (i := .aload_n 0) (k := 1) (v := .ref 44) (pc := 33) rfl rfl rfl ?_
        refine zr_gr (k := 21) (b := 58) (pc := 34) rfl rfl rfl hI2 ?_
        refine zx_T.l (i := .iload_n 1) (k := 1) (v := .int (zI (f))) (pc := 37) rfl rfl rfl ?_
        refine zr_al (n := 60) (lo := 0) (hi := 8) (e := zv_a h 58 f) (pc := 38) rfl rfl rfl hI2 (by omega) (by omega) (zv_wa hw rfl f) (fun g12a g12b => ?_)
        have of := oF9.2.2 f (by omega) (by omega)
        have hf := hF9.2 f (by omega) (by omega)
        have l1 : zv_a h 58 f = F.lo f := hf.2.1
        have l2 : zv_a h 59 f = F.st f := hf.2.2.1
        refine zr_is (cj := 180) (q' := zp_m180) (As := [.ref 60, .int (zI (14 * f)), .int (zI (zv_a h 58 f))]) (rest := []) (pc := 39) rfl rfl rfl rfl rfl rfl (Nat.le_of_ble_eq_true rfl) rfl (Nat.le_of_ble_eq_true rfl) rfl ((zm_areWholeF (h := h2) hI2 (f := 14 * f) (m := zv_a h 58 f) (by omega) (by omega) (by omega)).up (Nat.le_of_ble_eq_true rfl)) ?_
        rintro r13 h16 ⟨h16q, v14, r13q, x15⟩
        subst h16q r13q
        try dsimp only at x15
        have aW := x15.1
        rw [show zv_a h2 60 = zv_a h 60 from funext (fun q => zv_wa hw rfl q), l1] at aW
        have v1 := zf_w1 (D := zv_a h 60) (b := 14 * f) (K := F.kf f) of.2.1.1 of.2.1.2 hf.2.2.2.1 of.2.2.2.2
        show zx_T zp_P 5 zp_m186 42 [(0, .ref 44), (1, .int (zI (f)))] [.int (zI (v14))] h2 _
        refine zr_i1 (x := v14) (t := 72) (pc := 42) rfl rfl (by omega) (by omega) (fun (c17 : v14 = 0) => ?_) (fun (c17 : ¬ (v14 = 0)) => ?_)
        · refine zx_T.s (i := .bipush (-10)) (k := 2) (st' := [.int (zI ((-10)))]) (pc := 72) rfl rfl ?_
          refine zx_T.l (i := .aload_n 0) (k := 1) (v := .ref 44) (pc := 74) rfl rfl rfl ?_
          refine zr_gr (k := 20) (b := 57) (pc := 75) rfl rfl rfl hI2 ?_
          refine zx_T.l (i := .iload_n 1) (k := 1) (v := .int (zI (f))) (pc := 78) rfl rfl rfl ?_
          refine zr_al (n := 60) (lo := 0) (hi := 59) (e := zv_a h 57 f) (pc := 79) rfl rfl rfl hI2 (by omega) (by omega) (zv_wa hw rfl f) (fun g18a g18b => ?_)
          refine zr_sub (x := (-10)) (y := zv_a h 57 f) (e := (-1) * (zv_a h 57 f) - 10) (pc := 80) rfl (by omega) ?_
          exact zr_ir (x := (-1) * (zv_a h 57 f) - 10) (pc := 81) rfl rfl rfl ⟨hI2, (hw.wd rfl : zb_W [(44, 0), (44, 25), (44, 26), (61, 0)] h _), _, rfl, by dsimp only; exact Or.inr ⟨im, Or.inl ⟨f, f1, by omega, fun z => by first | (exact (aW.resolve_left (fun z => absurd z.1 (by omega))).2 (v1.2 z.1)) | (exact (bW.resolve_left (fun z => absurd z.1 (by omega))).2 (v2.2 z.2)), wh, by have q9 := (hF9.2 f f1 (by omega)).1; omega⟩⟩⟩
        · refine zx_T.l (i := .aload_n 0) (k := 1) (v := .ref 44) (pc := 45) rfl rfl rfl ?_
          refine zr_gr (k := 23) (b := 60) (pc := 46) rfl rfl rfl hI2 ?_
          refine zx_T.s (i := .bipush 14) (k := 2) (st' := [.int (zI (14)), .ref 60]) (pc := 49) rfl rfl ?_
          refine zx_T.l (i := .iload_n 1) (k := 1) (v := .int (zI (f))) (pc := 51) rfl rfl rfl ?_
          refine zr_mul (x := 14) (y := f) (e := 14 * f) (pc := 52) rfl (by omega) ?_
          refine zx_T.l (i := .aload_n 0) (k := 1) (v := .ref 44) (pc := 53) rfl rfl rfl ?_
          refine zr_gr (k := 21) (b := 58) (pc := 54) rfl rfl rfl hI2 ?_
          refine zx_T.l (i := .iload_n 1) (k := 1) (v := .int (zI (f))) (pc := 57) rfl rfl rfl ?_
          refine zr_al (n := 60) (lo := 0) (hi := 8) (e := zv_a h 58 f) (pc := 58) rfl rfl rfl hI2 (by omega) (by omega) (zv_wa hw rfl f) (fun g19a g19b => ?_)
          refine zr_add (x := 14 * f) (y := zv_a h 58 f) (e := 14 * f + zv_a h 58 f) (pc := 59) rfl (by omega) ?_
          refine zx_T.l (i := .aload_n 0) (k := 1) (v := .ref 44) (pc := 60) rfl rfl rfl ?_
          refine zr_gr (k := 22) (b := 59) (pc := 61) rfl rfl rfl hI2 ?_
          refine zx_T.l (i := .iload_n 1) (k := 1) (v := .int (zI (f))) (pc := 64) rfl rfl rfl ?_
          refine zr_al (n := 60) (lo := 0) (hi := 6) (e := zv_a h 59 f) (pc := 65) rfl rfl rfl hI2 (by omega) (by omega) (zv_wa hw rfl f) (fun g20a g20b => ?_)
          refine zr_is (cj := 180) (q' := zp_m180) (As := [.ref 60, .int (zI (14 * f + zv_a h 58 f)), .int (zI (zv_a h 59 f))]) (rest := []) (pc := 66) rfl rfl rfl rfl rfl rfl (Nat.le_of_ble_eq_true rfl) rfl (Nat.le_of_ble_eq_true rfl) rfl ((zm_areWholeF (h := h2) hI2 (f := 14 * f + zv_a h 58 f) (m := zv_a h 59 f) (by omega) (by omega) (by omega)).up (Nat.le_of_ble_eq_true rfl)) ?_
          rintro r21 h24 ⟨h24q, v22, r21q, x23⟩
          subst h24q r21q
          try dsimp only at x23
          have bW := x23.1
          rw [show zv_a h2 60 = zv_a h 60 from funext (fun q => zv_wa hw rfl q), l1, l2] at bW
          have v2 := zf_w2 (D := zv_a h 60) (b := 14 * f + F.lo f) (K := F.kf f) of.2.2.1.1 hf.2.2.2.2
          show zx_T zp_P 5 zp_m186 69 [(0, .ref 44), (1, .int (zI (f)))] [.int (zI (v22))] h2 _
          refine zr_i1 (x := v22) (t := 82) (pc := 69) rfl rfl (by omega) (by omega) (fun (c25 : ¬ v22 = 0) => ?_) (fun (c25 : ¬ (¬ v22 = 0)) => ?_)
          · refine zr_inc (x := f) (n := 1) (y := f + 1) (ls' := [(1, .int (zI (f + 1))), (0, .ref 44)]) (pc := 82) rfl rfl rfl (by omega) rfl ?_
            refine zx_T.j (i := .goto (-68)) (k := 3) (pc' := 17) (st' := []) (pc := 85) rfl rfl rfl rfl rfl ?_
            refine zx_T.lk (ls' := [(0, .ref 44), (1, .int (zI (f + 1)))]) rfl ⟨rfl, rfl, trivial⟩ ?_
            exact ih.1 (h2 := h2) (f := f + 1) hI2 (by omega) (by omega) (by omega) (hw.wd rfl : zb_W [(44, 0)] h _) (fun g g0 g1 => by rcases (show g = f ∨ g < f by omega) with z | z; (subst z; exact ⟨v1.1 (aW.resolve_right (fun z => absurd z.1 (by omega))).2, v2.1 (bW.resolve_right (fun z => absurd z.1 (by omega))).2⟩); exact wh g g0 z) (by first | exact Nat.lt_of_lt_of_le ((Int.toNat_lt_toNat (by omega)).mpr (by omega)) (Nat.le_of_lt_succ hm) | omega)
          · refine zx_T.s (i := .bipush (-10)) (k := 2) (st' := [.int (zI ((-10)))]) (pc := 72) rfl rfl ?_
            refine zx_T.l (i := .aload_n 0) (k := 1) (v := .ref 44) (pc := 74) rfl rfl rfl ?_
            refine zr_gr (k := 20) (b := 57) (pc := 75) rfl rfl rfl hI2 ?_
            refine zx_T.l (i := .iload_n 1) (k := 1) (v := .int (zI (f))) (pc := 78) rfl rfl rfl ?_
            refine zr_al (n := 60) (lo := 0) (hi := 59) (e := zv_a h 57 f) (pc := 79) rfl rfl rfl hI2 (by omega) (by omega) (zv_wa hw rfl f) (fun g26a g26b => ?_)
            refine zr_sub (x := (-10)) (y := zv_a h 57 f) (e := (-1) * (zv_a h 57 f) - 10) (pc := 80) rfl (by omega) ?_
            exact zr_ir (x := (-1) * (zv_a h 57 f) - 10) (pc := 81) rfl rfl rfl ⟨hI2, (hw.wd rfl : zb_W [(44, 0), (44, 25), (44, 26), (61, 0)] h _), _, rfl, by dsimp only; exact Or.inr ⟨im, Or.inl ⟨f, f1, by omega, fun z => by first | (exact (aW.resolve_left (fun z => absurd z.1 (by omega))).2 (v1.2 z.1)) | (exact (bW.resolve_left (fun z => absurd z.1 (by omega))).2 (v2.2 z.2)), wh, by have q9 := (hF9.2 f f1 (by omega)).1; omega⟩⟩⟩
    · intro h2 c p hI2 c1 c2 p1 p2 im hw wa n8 came cm x x0 xo xS xN hq hm
      have hM9 := zv_ri hI (k := 13) rfl
      have hF0 := zv_ri hI (k := 19) rfl
      have hD := zv_ri hI (k := 1) rfl
      have hD := zv_ri hI (k := 1) rfl
      have hF9 := hF im
      have hA9 := hA im
      have oF9 := oF im
      have ofn := oF9.2.1
      have nF := hF9.1
      have hF2 := zr_Fr_w hw rfl hF9
      have hPx : zr_Pg h2 = zr_Pg h := zr_Pg_g hw rfl
      have xr := xo.2
      have r9 : zv_a h2 54 p = zv_a h 54 p := zv_wa hw rfl p
      refine zx_T.l (i := .iload_n 2) (k := 1) (v := .int (zI (p))) (pc := 105) rfl rfl rfl ?_
      refine zx_T.l (i := .aload_n 0) (k := 1) (v := .ref 44) (pc := 106) rfl rfl rfl ?_
      refine zr_gi (k := 1) (lo := 0) (hi := 60) (e := zv_i h 1) (pc := 107) rfl rfl rfl hI2 (zv_wi hw rfl) (fun g27a g27b => ?_)
      refine zr_i2 (x := p) (y := zv_i h 1) (t := 202) (pc := 110) rfl rfl (by omega) (by omega) (by omega) (by omega) (fun (c28 : (zv_i h 1) ≤ p) => ?_) (fun (c28 : ¬ ((zv_i h 1) ≤ p)) => ?_)
      · refine zx_T.s (i := .iconst 1) (k := 1) (st' := [.int (zI (1))]) (pc := 202) rfl rfl ?_
        exact zr_ir (x := 1) (pc := 203) rfl rfl rfl ⟨hI2, (hw.wd rfl : zb_W [(44, 0), (44, 25), (44, 26), (61, 0)] h _), _, rfl, by dsimp only; exact Or.inr ⟨im, Or.inr ⟨wa, by have z9 := hq; rw [show (zv_i h 1 - p).toNat = 0 by omega] at z9; exact z9.symm⟩⟩⟩
      · refine zx_T.l (i := .aload_n 0) (k := 1) (v := .ref 44) (pc := 113) rfl rfl rfl ?_
        refine zr_gr (k := 16) (b := 54) (pc := 114) rfl rfl rfl hI2 ?_
        refine zx_T.l (i := .iload_n 2) (k := 1) (v := .int (zI (p))) (pc := 117) rfl rfl rfl ?_
        refine zr_bl (n := 60) (lo := 0) (hi := 1) (e := zv_a h 54 p) (pc := 118) rfl rfl rfl hI2 (by omega) (by omega) (zv_wa hw rfl p) (fun g29a g29b => ?_)
        refine zr_i1 (x := zv_a h 54 p) (t := 173) (pc := 119) rfl rfl (by omega) (by omega) (fun (c30 : (zv_a h 54 p) = 0) => ?_) (fun (c30 : ¬ ((zv_a h 54 p) = 0)) => ?_)
        · refine zx_T.l (i := .aload_n 0) (k := 1) (v := .ref 44) (pc := 173) rfl rfl rfl ?_
          refine zr_gr (k := 16) (b := 54) (pc := 174) rfl rfl rfl hI2 ?_
          refine zx_T.l (i := .iload_n 2) (k := 1) (v := .int (zI (p))) (pc := 177) rfl rfl rfl ?_
          refine zr_bl (n := 60) (lo := 0) (hi := 1) (e := zv_a h 54 p) (pc := 178) rfl rfl rfl hI2 (by omega) (by omega) (zv_wa hw rfl p) (fun g31a g31b => ?_)
          refine zr_i1 (x := zv_a h 54 p) (t := 194) (pc := 179) rfl rfl (by omega) (by omega) (fun (c32 : (zv_a h 54 p) = 0) => ?_) (fun (c32 : ¬ ((zv_a h 54 p) = 0)) => False.elim (by omega))
          refine zx_T.s (i := .iconst 0) (k := 1) (st' := [.int (zI (0))]) (pc := 194) rfl rfl ?_
          refine zx_T.t (i := .istore_n 1) (k := 1) (ls' := [(1, .int (zI (0))), (0, .ref 44), (2, .int (zI (p)))]) (st' := []) (pc := 195) rfl rfl rfl rfl ?_
          refine zr_inc (x := p) (n := 1) (y := p + 1) (ls' := [(2, .int (zI (p + 1))), (1, .int (zI (0))), (0, .ref 44)]) (pc := 196) rfl rfl rfl (by omega) rfl ?_
          refine zx_T.j (i := .goto (-94)) (k := 3) (pc' := 105) (st' := []) (pc := 199) rfl rfl rfl rfl rfl ?_
          refine zx_T.lk (ls' := [(0, .ref 44), (1, .int (zI (0))), (2, .int (zI (p + 1)))]) rfl ⟨rfl, rfl, rfl, trivial⟩ ?_
          exact ih.2 (h2 := h2) (c := 0) (p := p + 1) hI2 (by omega) (by omega) (by omega) (by omega) (by omega) (hw.wd rfl : zb_W [(44, 0), (44, 25), (44, 26), (61, 0)] h _) wa n8 False ⟨fun z => absurd z (by omega), fun z => False.elim z⟩ x x0 xo xS xN (hq.trans ((zs_jg_s (P := zr_Pg h) (p := p) (by show p < zv_i h 1; omega)).trans (zi_f (fun z => by have z1 := (hA9.1 p p1 (by omega)).2 z; omega)))) (by first | exact Nat.lt_of_lt_of_le ((Int.toNat_lt_toNat (by omega)).mpr (by omega)) (Nat.le_of_lt_succ hm) | omega)
        · have hRp := (hA9.1 p p1 (by omega)).1 (by omega)
          have js9 := hq.trans ((zs_jg_s (P := zr_Pg h) (p := p) (by show p < zv_i h 1; omega)).trans (zi_t hRp))
          refine zx_T.l (i := .aload_n 0) (k := 1) (v := .ref 44) (pc := 122) rfl rfl rfl ?_
          refine zx_T.l (i := .iload_n 2) (k := 1) (v := .int (zI (p))) (pc := 123) rfl rfl rfl ?_
          have y34 : zv_i h2 19 = zv_i h 19 := (zv_wi hw rfl)
          refine zr_iv (cj := 179) (q' := zp_m179) (As := [.int (zI (p))]) (rest := []) (pc := 124) rfl rfl rfl rfl rfl rfl (Nat.le_of_ble_eq_true rfl) rfl (Nat.le_of_ble_eq_true rfl) hI2 ((zm_frameAt (h := h2) hI2 (p := p) (by omega) (by omega)).up (Nat.le_of_ble_eq_true rfl)) ?_
          rintro r35 h38 ⟨h38q, v36, r35q, x37⟩
          subst h38q r35q
          try dsimp only at x37
          have fav36 := x37
          have fE := zr_faE hF2 oF9 x37
          show zx_T zp_P 5 zp_m186 127 [(0, .ref 44), (1, .int (zI (c))), (2, .int (zI (p)))] [.int (zI (v36))] h2 _
          refine zx_T.t (i := .istore_n 3) (k := 1) (ls' := [(3, .int (zI (v36))), (0, .ref 44), (1, .int (zI (c))), (2, .int (zI (p)))]) (st' := []) (pc := 127) rfl rfl rfl rfl ?_
          refine zx_T.l (i := .iload_n 3) (k := 1) (v := .int (zI (v36))) (pc := 128) rfl rfl rfl ?_
          refine zx_T.s (i := .iconst (-1)) (k := 1) (st' := [.int (zI ((-1))), .int (zI (v36))]) (pc := 129) rfl rfl ?_
          refine zr_i2 (x := v36) (y := (-1)) (t := 150) (pc := 130) rfl rfl (by omega) (by omega) (by omega) (by omega) (fun (c39 : v36 = (-1)) => ?_) (fun (c39 : ¬ (v36 = (-1))) => ?_)
          · refine zx_T.l (i := .iload_n 3) (k := 1) (v := .int (zI (v36))) (pc := 150) rfl rfl rfl ?_
            refine zx_T.s (i := .iconst (-1)) (k := 1) (st' := [.int (zI ((-1))), .int (zI (v36))]) (pc := 151) rfl rfl ?_
            refine zr_i2 (x := v36) (y := (-1)) (t := 160) (pc := 152) rfl rfl (by omega) (by omega) (by omega) (by omega) (fun (c40 : v36 = (-1)) => ?_) (fun (c40 : ¬ (v36 = (-1))) => False.elim (by omega))
            have o9 : (0 ≤ zv_a h 45 p ∧ zv_a h 45 p ≤ 28) ∧ (zv_a h 45 p = 21 → 5 ≤ zv_a h 46 p) := hP.1 p p1 (by show p < zv_i h 1; omega)
            have en9 := js9.trans (zi_t (fun z1 z2 => by first | (exact absurd (fE.1.trans (by omega)) z1) | (exact absurd (cm.2 z2) (by omega)) | (rw [fE.1]; exact (zs_gg_ag xr.1 xS xN).1 (gG.resolve_right (fun z => absurd z.1 (by omega))).2)))
            have inE : zs_in1 F p x = x := (by unfold zs_in1; rw [if_pos (fE.1.trans (by omega))])
            have xo1 : zw_ok (zs_in1 F p x) := (by rw [inE]; exact xo)
            have x01 : (zs_in1 F p x).1 = 0 := (by rw [inE]; exact x0)
            have xS1 : zv_i h2 25 = (zs_in1 F p x).2.1 := (by rw [inE]; exact xS)
            have xN1 : ∀ j, 0 ≤ j → j < 8 + (zs_in1 F p x).2.1 → zv_a h2 61 j = (zs_in1 F p x).2.2 j := (by rw [inE]; exact xN)
            have n81 := n8
            refine zx_T.l (i := .aload_n 0) (k := 1) (v := .ref 44) (pc := 160) rfl rfl rfl ?_
            refine zx_T.l (i := .iload_n 2) (k := 1) (v := .int (zI (p))) (pc := 161) rfl rfl rfl ?_
            have y41 : zv_i h2 1 = zv_i h 1 := (zv_wi hw rfl)
            refine zr_iv (cj := 185) (q' := zp_m185) (As := [.int (zI (p))]) (rest := []) (pc := 162) rfl rfl rfl rfl rfl rfl (Nat.le_of_ble_eq_true rfl) rfl (Nat.le_of_ble_eq_true rfl) hI2 ((zm_isRightG (h := h2) hI2 (p := p) (by omega) (by omega) (by omega) n81 (hc.w (hw.wd rfl : zb_W [(44, 0), (44, 25), (44, 26), (61, 0)] h _) rfl rfl) ((hC (by omega) p p1 (by omega) (by omega)).w (hw.wd rfl : zb_W [(44, 0), (44, 25), (44, 26), (61, 0)] h _) rfl rfl rfl) (by rw [zr_Pg_g (hw.wd rfl : zb_W [(44, 0), (44, 25), (44, 26), (61, 0)] h _) rfl]; exact hP) F (zr_Fr_w (hw.wd rfl : zb_W [(44, 0), (44, 25), (44, 26), (61, 0)] h _) rfl hF9) oF9 (zs_in1 F p x) x01 xo1 xS1 xN1).up (Nat.le_of_ble_eq_true rfl)) ?_
            rintro r42 h45 ⟨ih45, w46, v43, r42q, x44⟩
            subst r42q
            try dsimp only at x44
            have iR8 := x44.1
            have rT := x44.2; simp only [show zr_Pg h2 = zr_Pg h from zr_Pg_g (hw.wd rfl : zb_W [(44, 0), (44, 25), (44, 26), (61, 0)] h _) rfl, show zv_a h2 45 = zv_a h 45 from funext (fun q => zv_wa (hw.wd rfl : zb_W [(44, 0), (44, 25), (44, 26), (61, 0)] h _) rfl q), show zv_a h2 46 = zv_a h 46 from funext (fun q => zv_wa (hw.wd rfl : zb_W [(44, 0), (44, 25), (44, 26), (61, 0)] h _) rfl q)] at rT
            show zx_T zp_P 5 zp_m186 165 [(3, .int (zI (v36))), (0, .ref 44), (1, .int (zI (c))), (2, .int (zI (p)))] [.int (zI (v43))] h45 _
            refine zr_i1 (x := v43) (t := 173) (pc := 165) rfl rfl (by omega) (by omega) (fun (c47 : ¬ v43 = 0) => ?_) (fun (c47 : ¬ (¬ v43 = 0)) => ?_)
            · have rY := (rT.1.resolve_right (fun z => absurd z.1 (by omega))).2
              have jy := en9.trans (zi_t rY.1)
              have y0 := rY.1.2.1
              have y1 := zw_ap xo1 o9.1 o9.2
              have yS := rY.2.1
              have yN := rY.2.2
              have n8b := iR8
              have r8 : zv_a h45 54 p = zv_a h 54 p := zv_wa ((hw.wd rfl : zb_W [(44, 0), (44, 25), (44, 26), (61, 0)] h _).tr (w46.wd rfl)) rfl p
              refine zx_T.l (i := .aload_n 0) (k := 1) (v := .ref 44) (pc := 173) rfl rfl rfl ?_
              refine zr_gr (k := 16) (b := 54) (pc := 174) rfl rfl rfl ih45 ?_
              refine zx_T.l (i := .iload_n 2) (k := 1) (v := .int (zI (p))) (pc := 177) rfl rfl rfl ?_
              refine zr_bl (n := 60) (lo := 0) (hi := 1) (e := zv_a h 54 p) (pc := 178) rfl rfl rfl ih45 (by omega) (by omega) ((zv_wa w46 rfl p).trans (zv_wa hw rfl p)) (fun g48a g48b => ?_)
              refine zr_i1 (x := zv_a h 54 p) (t := 194) (pc := 179) rfl rfl (by omega) (by omega) (fun (c49 : (zv_a h 54 p) = 0) => False.elim (by omega)) (fun (c49 : ¬ ((zv_a h 54 p) = 0)) => ?_)
              refine zx_T.l (i := .aload_n 0) (k := 1) (v := .ref 44) (pc := 182) rfl rfl rfl ?_
              refine zx_T.l (i := .iload_n 2) (k := 1) (v := .int (zI (p))) (pc := 183) rfl rfl rfl ?_
              refine zr_iv (cj := 168) (q' := zp_m168) (As := [.int (zI (p))]) (rest := []) (pc := 184) rfl rfl rfl rfl rfl rfl (Nat.le_of_ble_eq_true rfl) rfl (Nat.le_of_ble_eq_true rfl) ih45 ((zm_goesOn (h := h45) ih45 (p := p) (by omega) (by omega)).up (Nat.le_of_ble_eq_true rfl)) ?_
              rintro r50 h53 ⟨h53q, v51, r50q, x52⟩
              subst h53q r50q
              try dsimp only at x52
              have go := x52; simp only [zv_wa ((hw.wd rfl : zb_W [(44, 0), (44, 25), (44, 26), (61, 0)] h _).tr (w46.wd rfl)) (a := 45) rfl] at go
              show zx_T zp_P 5 zp_m186 187 [(3, .int (zI (v36))), (0, .ref 44), (1, .int (zI (c))), (2, .int (zI (p)))] [.int (zI (v51))] h45 _
              refine zr_i1 (x := v51) (t := 194) (pc := 187) rfl rfl (by omega) (by omega) (fun (c54 : v51 = 0) => ?_) (fun (c54 : ¬ (v51 = 0)) => ?_)
              · refine zx_T.s (i := .iconst 0) (k := 1) (st' := [.int (zI (0))]) (pc := 194) rfl rfl ?_
                refine zx_T.t (i := .istore_n 1) (k := 1) (ls' := [(1, .int (zI (0))), (3, .int (zI (v36))), (0, .ref 44), (2, .int (zI (p)))]) (st' := []) (pc := 195) rfl rfl rfl rfl ?_
                refine zr_inc (x := p) (n := 1) (y := p + 1) (ls' := [(2, .int (zI (p + 1))), (1, .int (zI (0))), (3, .int (zI (v36))), (0, .ref 44)]) (pc := 196) rfl rfl rfl (by omega) rfl ?_
                refine zx_T.j (i := .goto (-94)) (k := 3) (pc' := 105) (st' := []) (pc := 199) rfl rfl rfl rfl rfl ?_
                refine zx_T.lk (ls' := [(0, .ref 44), (1, .int (zI (0))), (2, .int (zI (p + 1)))]) rfl ⟨rfl, rfl, rfl, trivial⟩ ?_
                exact ih.2 (h2 := h45) (c := 0) (p := p + 1) ih45 (by omega) (by omega) (by omega) (by omega) (by omega) ((hw.wd rfl : zb_W [(44, 0), (44, 25), (44, 26), (61, 0)] h _).tr (w46.wd rfl)) wa n8b (zs_go (zr_Pg h) p) ⟨fun z y => by have y1 : 22 ≤ zv_a h 45 p ∧ zv_a h 45 p ≤ 24 := y; omega, fun z => Classical.byContradiction (fun y => z (show 22 ≤ zv_a h 45 p ∧ zv_a h 45 p ≤ 24 by omega))⟩ (zs_ap (zv_a h 45 p) (zv_a h 46 p) (zs_in1 F p x)) y0 y1 yS yN jy (by first | exact Nat.lt_of_lt_of_le ((Int.toNat_lt_toNat (by omega)).mpr (by omega)) (Nat.le_of_lt_succ hm) | omega)
              · refine zx_T.s (i := .iconst 1) (k := 1) (st' := [.int (zI (1))]) (pc := 190) rfl rfl ?_
                refine zx_T.j (i := .goto 4) (k := 3) (pc' := 195) (st' := [.int (zI (1))]) (pc := 191) rfl rfl rfl rfl rfl ?_
                refine zx_T.t (i := .istore_n 1) (k := 1) (ls' := [(1, .int (zI (1))), (3, .int (zI (v36))), (0, .ref 44), (2, .int (zI (p)))]) (st' := []) (pc := 195) rfl rfl rfl rfl ?_
                refine zr_inc (x := p) (n := 1) (y := p + 1) (ls' := [(2, .int (zI (p + 1))), (1, .int (zI (1))), (3, .int (zI (v36))), (0, .ref 44)]) (pc := 196) rfl rfl rfl (by omega) rfl ?_
                refine zx_T.j (i := .goto (-94)) (k := 3) (pc' := 105) (st' := []) (pc := 199) rfl rfl rfl rfl rfl ?_
                refine zx_T.lk (ls' := [(0, .ref 44), (1, .int (zI (1))), (2, .int (zI (p + 1)))]) rfl ⟨rfl, rfl, rfl, trivial⟩ ?_
                exact ih.2 (h2 := h45) (c := 1) (p := p + 1) ih45 (by omega) (by omega) (by omega) (by omega) (by omega) ((hw.wd rfl : zb_W [(44, 0), (44, 25), (44, 26), (61, 0)] h _).tr (w46.wd rfl)) wa n8b (zs_go (zr_Pg h) p) ⟨fun z y => by have y1 : 22 ≤ zv_a h 45 p ∧ zv_a h 45 p ≤ 24 := y; omega, fun z => Classical.byContradiction (fun y => z (show 22 ≤ zv_a h 45 p ∧ zv_a h 45 p ≤ 24 by omega))⟩ (zs_ap (zv_a h 45 p) (zv_a h 46 p) (zs_in1 F p x)) y0 y1 yS yN jy (by first | exact Nat.lt_of_lt_of_le ((Int.toNat_lt_toNat (by omega)).mpr (by omega)) (Nat.le_of_lt_succ hm) | omega)
            · refine zx_T.s (i := .bipush (-10)) (k := 2) (st' := [.int (zI ((-10)))]) (pc := 168) rfl rfl ?_
              refine zx_T.l (i := .iload_n 2) (k := 1) (v := .int (zI (p))) (pc := 170) rfl rfl rfl ?_
              refine zr_sub (x := (-10)) (y := p) (e := (-1) * p - 10) (pc := 171) rfl (by omega) ?_
              exact zr_ir (x := (-1) * p - 10) (pc := 172) rfl rfl rfl ⟨ih45, ((hw.wd rfl : zb_W [(44, 0), (44, 25), (44, 26), (61, 0)] h _).tr (w46.wd rfl)), _, rfl, by dsimp only; exact Or.inr ⟨im, Or.inr ⟨wa, by have z9 := en9.trans (zi_f (rT.1.resolve_left (fun z => absurd z.1 (by omega))).2); exact (by omega : _ = -10 - p).trans z9.symm⟩⟩⟩
          · refine zx_T.l (i := .iload_n 1) (k := 1) (v := .int (zI (c))) (pc := 133) rfl rfl rfl ?_
            refine zr_i1 (x := c) (t := 150) (pc := 134) rfl rfl (by omega) (by omega) (fun (c57 : c = 0) => ?_) (fun (c57 : ¬ (c = 0)) => ?_)
            · refine zx_T.l (i := .iload_n 3) (k := 1) (v := .int (zI (v36))) (pc := 150) rfl rfl rfl ?_
              refine zx_T.s (i := .iconst (-1)) (k := 1) (st' := [.int (zI ((-1))), .int (zI (v36))]) (pc := 151) rfl rfl ?_
              refine zr_i2 (x := v36) (y := (-1)) (t := 160) (pc := 152) rfl rfl (by omega) (by omega) (by omega) (by omega) (fun (c58 : v36 = (-1)) => False.elim (by omega)) (fun (c58 : ¬ (v36 = (-1))) => ?_)
              refine zx_T.l (i := .aload_n 0) (k := 1) (v := .ref 44) (pc := 155) rfl rfl rfl ?_
              refine zx_T.l (i := .iload_n 3) (k := 1) (v := .int (zI (v36))) (pc := 156) rfl rfl rfl ?_
              refine zr_iv (cj := 184) (q' := zp_m184) (As := [.int (zI (v36))]) (rest := []) (pc := 157) rfl rfl rfl rfl rfl rfl (Nat.le_of_ble_eq_true rfl) rfl (Nat.le_of_ble_eq_true rfl) hI2 ((zm_takeF (h := h2) hI2 (f := v36) F hF2 oF9 (by omega) (by omega)).up (Nat.le_of_ble_eq_true rfl)) ?_
              rintro r59 h62 ⟨ih62, w63, r59q, x61⟩
              subst r59q
              try dsimp only at x61
              have tk := x61
              show zx_T zp_P 5 zp_m186 160 [(3, .int (zI (v36))), (0, .ref 44), (1, .int (zI (c))), (2, .int (zI (p)))] [] h62 _
              have o9 : (0 ≤ zv_a h 45 p ∧ zv_a h 45 p ≤ 28) ∧ (zv_a h 45 p = 21 → 5 ≤ zv_a h 46 p) := hP.1 p p1 (by show p < zv_i h 1; omega)
              have en9 := js9.trans (zi_t (fun z1 z2 => by first | (exact absurd (fE.1.trans (by omega)) z1) | (exact absurd (cm.2 z2) (by omega)) | (rw [fE.1]; exact (zs_gg_ag xr.1 xS xN).1 (gG.resolve_right (fun z => absurd z.1 (by omega))).2)))
              have inE : zs_in1 F p x = (0, F.st v36, F.kf v36) := (by unfold zs_in1; rw [fE.1, if_neg (by omega)])
              have w9 := wa v36 (by omega) (by omega)
              have ov := (oF9.2.2 v36 (by omega) (by omega)).2.2.1
              have xo1 : zw_ok (zs_in1 F p x) := (by rw [inE]; exact ⟨w9, ov⟩)
              have x01 : (zs_in1 F p x).1 = 0 := (by rw [inE])
              have xS1 : zv_i h62 25 = (zs_in1 F p x).2.1 := (by rw [inE]; exact tk.1)
              have xN1 : ∀ j, 0 ≤ j → j < 8 + (zs_in1 F p x).2.1 → zv_a h62 61 j = (zs_in1 F p x).2.2 j := (by rw [inE]; exact tk.2.1)
              have n81 : ¬ zv_a h62 61 8 = 3 := (by by_cases z : F.st v36 = 0; (rw [tk.2.2 z]; exact n8); (rw [tk.2.1 8 (by decide) (by omega)]; exact fun y => by have y1 := ((w9.2 8 (by decide) (by omega)).2 y).1; omega))
              refine zx_T.l (i := .aload_n 0) (k := 1) (v := .ref 44) (pc := 160) rfl rfl rfl ?_
              refine zx_T.l (i := .iload_n 2) (k := 1) (v := .int (zI (p))) (pc := 161) rfl rfl rfl ?_
              have y64 : zv_i h62 1 = zv_i h 1 := ((zv_wi w63 rfl).trans (zv_wi hw rfl))
              refine zr_iv (cj := 185) (q' := zp_m185) (As := [.int (zI (p))]) (rest := []) (pc := 162) rfl rfl rfl rfl rfl rfl (Nat.le_of_ble_eq_true rfl) rfl (Nat.le_of_ble_eq_true rfl) ih62 ((zm_isRightG (h := h62) ih62 (p := p) (by omega) (by omega) (by omega) n81 (hc.w ((hw.wd rfl : zb_W [(44, 0), (44, 25), (44, 26), (61, 0)] h _).tr (w63.wd rfl)) rfl rfl) ((hC (by omega) p p1 (by omega) (by omega)).w ((hw.wd rfl : zb_W [(44, 0), (44, 25), (44, 26), (61, 0)] h _).tr (w63.wd rfl)) rfl rfl rfl) (by rw [zr_Pg_g ((hw.wd rfl : zb_W [(44, 0), (44, 25), (44, 26), (61, 0)] h _).tr (w63.wd rfl)) rfl]; exact hP) F (zr_Fr_w ((hw.wd rfl : zb_W [(44, 0), (44, 25), (44, 26), (61, 0)] h _).tr (w63.wd rfl)) rfl hF9) oF9 (zs_in1 F p x) x01 xo1 xS1 xN1).up (Nat.le_of_ble_eq_true rfl)) ?_
              rintro r65 h68 ⟨ih68, w69, v66, r65q, x67⟩
              subst r65q
              try dsimp only at x67
              have iR8 := x67.1
              have rT := x67.2; simp only [show zr_Pg h62 = zr_Pg h from zr_Pg_g ((hw.wd rfl : zb_W [(44, 0), (44, 25), (44, 26), (61, 0)] h _).tr (w63.wd rfl)) rfl, show zv_a h62 45 = zv_a h 45 from funext (fun q => zv_wa ((hw.wd rfl : zb_W [(44, 0), (44, 25), (44, 26), (61, 0)] h _).tr (w63.wd rfl)) rfl q), show zv_a h62 46 = zv_a h 46 from funext (fun q => zv_wa ((hw.wd rfl : zb_W [(44, 0), (44, 25), (44, 26), (61, 0)] h _).tr (w63.wd rfl)) rfl q)] at rT
              show zx_T zp_P 5 zp_m186 165 [(3, .int (zI (v36))), (0, .ref 44), (1, .int (zI (c))), (2, .int (zI (p)))] [.int (zI (v66))] h68 _
              refine zr_i1 (x := v66) (t := 173) (pc := 165) rfl rfl (by omega) (by omega) (fun (c70 : ¬ v66 = 0) => ?_) (fun (c70 : ¬ (¬ v66 = 0)) => ?_)
              · have rY := (rT.1.resolve_right (fun z => absurd z.1 (by omega))).2
                have jy := en9.trans (zi_t rY.1)
                have y0 := rY.1.2.1
                have y1 := zw_ap xo1 o9.1 o9.2
                have yS := rY.2.1
                have yN := rY.2.2
                have n8b := iR8
                have r8 : zv_a h68 54 p = zv_a h 54 p := zv_wa (((hw.wd rfl : zb_W [(44, 0), (44, 25), (44, 26), (61, 0)] h _).tr (w63.wd rfl)).tr (w69.wd rfl)) rfl p
                refine zx_T.l (i := .aload_n 0) (k := 1) (v := .ref 44) (pc := 173) rfl rfl rfl ?_
                refine zr_gr (k := 16) (b := 54) (pc := 174) rfl rfl rfl ih68 ?_
                refine zx_T.l (i := .iload_n 2) (k := 1) (v := .int (zI (p))) (pc := 177) rfl rfl rfl ?_
                refine zr_bl (n := 60) (lo := 0) (hi := 1) (e := zv_a h 54 p) (pc := 178) rfl rfl rfl ih68 (by omega) (by omega) ((zv_wa w69 rfl p).trans ((zv_wa w63 rfl p).trans (zv_wa hw rfl p))) (fun g71a g71b => ?_)
                refine zr_i1 (x := zv_a h 54 p) (t := 194) (pc := 179) rfl rfl (by omega) (by omega) (fun (c72 : (zv_a h 54 p) = 0) => False.elim (by omega)) (fun (c72 : ¬ ((zv_a h 54 p) = 0)) => ?_)
                refine zx_T.l (i := .aload_n 0) (k := 1) (v := .ref 44) (pc := 182) rfl rfl rfl ?_
                refine zx_T.l (i := .iload_n 2) (k := 1) (v := .int (zI (p))) (pc := 183) rfl rfl rfl ?_
                refine zr_iv (cj := 168) (q' := zp_m168) (As := [.int (zI (p))]) (rest := []) (pc := 184) rfl rfl rfl rfl rfl rfl (Nat.le_of_ble_eq_true rfl) rfl (Nat.le_of_ble_eq_true rfl) ih68 ((zm_goesOn (h := h68) ih68 (p := p) (by omega) (by omega)).up (Nat.le_of_ble_eq_true rfl)) ?_
                rintro r73 h76 ⟨h76q, v74, r73q, x75⟩
                subst h76q r73q
                try dsimp only at x75
                have go := x75; simp only [zv_wa (((hw.wd rfl : zb_W [(44, 0), (44, 25), (44, 26), (61, 0)] h _).tr (w63.wd rfl)).tr (w69.wd rfl)) (a := 45) rfl] at go
                show zx_T zp_P 5 zp_m186 187 [(3, .int (zI (v36))), (0, .ref 44), (1, .int (zI (c))), (2, .int (zI (p)))] [.int (zI (v74))] h68 _
                refine zr_i1 (x := v74) (t := 194) (pc := 187) rfl rfl (by omega) (by omega) (fun (c77 : v74 = 0) => ?_) (fun (c77 : ¬ (v74 = 0)) => ?_)
                · refine zx_T.s (i := .iconst 0) (k := 1) (st' := [.int (zI (0))]) (pc := 194) rfl rfl ?_
                  refine zx_T.t (i := .istore_n 1) (k := 1) (ls' := [(1, .int (zI (0))), (3, .int (zI (v36))), (0, .ref 44), (2, .int (zI (p)))]) (st' := []) (pc := 195) rfl rfl rfl rfl ?_
                  refine zr_inc (x := p) (n := 1) (y := p + 1) (ls' := [(2, .int (zI (p + 1))), (1, .int (zI (0))), (3, .int (zI (v36))), (0, .ref 44)]) (pc := 196) rfl rfl rfl (by omega) rfl ?_
                  refine zx_T.j (i := .goto (-94)) (k := 3) (pc' := 105) (st' := []) (pc := 199) rfl rfl rfl rfl rfl ?_
                  refine zx_T.lk (ls' := [(0, .ref 44), (1, .int (zI (0))), (2, .int (zI (p + 1)))]) rfl ⟨rfl, rfl, rfl, trivial⟩ ?_
                  exact ih.2 (h2 := h68) (c := 0) (p := p + 1) ih68 (by omega) (by omega) (by omega) (by omega) (by omega) (((hw.wd rfl : zb_W [(44, 0), (44, 25), (44, 26), (61, 0)] h _).tr (w63.wd rfl)).tr (w69.wd rfl)) wa n8b (zs_go (zr_Pg h) p) ⟨fun z y => by have y1 : 22 ≤ zv_a h 45 p ∧ zv_a h 45 p ≤ 24 := y; omega, fun z => Classical.byContradiction (fun y => z (show 22 ≤ zv_a h 45 p ∧ zv_a h 45 p ≤ 24 by omega))⟩ (zs_ap (zv_a h 45 p) (zv_a h 46 p) (zs_in1 F p x)) y0 y1 yS yN jy (by first | exact Nat.lt_of_lt_of_le ((Int.toNat_lt_toNat (by omega)).mpr (by omega)) (Nat.le_of_lt_succ hm) | omega)
                · refine zx_T.s (i := .iconst 1) (k := 1) (st' := [.int (zI (1))]) (pc := 190) rfl rfl ?_
                  refine zx_T.j (i := .goto 4) (k := 3) (pc' := 195) (st' := [.int (zI (1))]) (pc := 191) rfl rfl rfl rfl rfl ?_
                  refine zx_T.t (i := .istore_n 1) (k := 1) (ls' := [(1, .int (zI (1))), (3, .int (zI (v36))), (0, .ref 44), (2, .int (zI (p)))]) (st' := []) (pc := 195) rfl rfl rfl rfl ?_
                  refine zr_inc (x := p) (n := 1) (y := p + 1) (ls' := [(2, .int (zI (p + 1))), (1, .int (zI (1))), (3, .int (zI (v36))), (0, .ref 44)]) (pc := 196) rfl rfl rfl (by omega) rfl ?_
                  refine zx_T.j (i := .goto (-94)) (k := 3) (pc' := 105) (st' := []) (pc := 199) rfl rfl rfl rfl rfl ?_
                  refine zx_T.lk (ls' := [(0, .ref 44), (1, .int (zI (1))), (2, .int (zI (p + 1)))]) rfl ⟨rfl, rfl, rfl, trivial⟩ ?_
                  exact ih.2 (h2 := h68) (c := 1) (p := p + 1) ih68 (by omega) (by omega) (by omega) (by omega) (by omega) (((hw.wd rfl : zb_W [(44, 0), (44, 25), (44, 26), (61, 0)] h _).tr (w63.wd rfl)).tr (w69.wd rfl)) wa n8b (zs_go (zr_Pg h) p) ⟨fun z y => by have y1 : 22 ≤ zv_a h 45 p ∧ zv_a h 45 p ≤ 24 := y; omega, fun z => Classical.byContradiction (fun y => z (show 22 ≤ zv_a h 45 p ∧ zv_a h 45 p ≤ 24 by omega))⟩ (zs_ap (zv_a h 45 p) (zv_a h 46 p) (zs_in1 F p x)) y0 y1 yS yN jy (by first | exact Nat.lt_of_lt_of_le ((Int.toNat_lt_toNat (by omega)).mpr (by omega)) (Nat.le_of_lt_succ hm) | omega)
              · refine zx_T.s (i := .bipush (-10)) (k := 2) (st' := [.int (zI ((-10)))]) (pc := 168) rfl rfl ?_
                refine zx_T.l (i := .iload_n 2) (k := 1) (v := .int (zI (p))) (pc := 170) rfl rfl rfl ?_
                refine zr_sub (x := (-10)) (y := p) (e := (-1) * p - 10) (pc := 171) rfl (by omega) ?_
                exact zr_ir (x := (-1) * p - 10) (pc := 172) rfl rfl rfl ⟨ih68, (((hw.wd rfl : zb_W [(44, 0), (44, 25), (44, 26), (61, 0)] h _).tr (w63.wd rfl)).tr (w69.wd rfl)), _, rfl, by dsimp only; exact Or.inr ⟨im, Or.inr ⟨wa, by have z9 := en9.trans (zi_f (rT.1.resolve_left (fun z => absurd z.1 (by omega))).2); exact (by omega : _ = -10 - p).trans z9.symm⟩⟩⟩
            · refine zx_T.l (i := .aload_n 0) (k := 1) (v := .ref 44) (pc := 137) rfl rfl rfl ?_
              refine zx_T.l (i := .iload_n 3) (k := 1) (v := .int (zI (v36))) (pc := 138) rfl rfl rfl ?_
              refine zr_iv (cj := 183) (q' := zp_m183) (As := [.int (zI (v36))]) (rest := []) (pc := 139) rfl rfl rfl rfl rfl rfl (Nat.le_of_ble_eq_true rfl) rfl (Nat.le_of_ble_eq_true rfl) hI2 ((zm_goesF (h := h2) hI2 (f := v36) F hF2 oF9 (by omega) (by omega)).up (Nat.le_of_ble_eq_true rfl)) ?_
              rintro r80 h83 ⟨h83q, v81, r80q, x82⟩
              subst h83q r80q
              try dsimp only at x82
              have gG := x82.1
              show zx_T zp_P 5 zp_m186 142 [(3, .int (zI (v36))), (0, .ref 44), (1, .int (zI (c))), (2, .int (zI (p)))] [.int (zI (v81))] h2 _
              refine zr_i1 (x := v81) (t := 150) (pc := 142) rfl rfl (by omega) (by omega) (fun (c84 : ¬ v81 = 0) => ?_) (fun (c84 : ¬ (¬ v81 = 0)) => ?_)
              · refine zx_T.l (i := .iload_n 3) (k := 1) (v := .int (zI (v36))) (pc := 150) rfl rfl rfl ?_
                refine zx_T.s (i := .iconst (-1)) (k := 1) (st' := [.int (zI ((-1))), .int (zI (v36))]) (pc := 151) rfl rfl ?_
                refine zr_i2 (x := v36) (y := (-1)) (t := 160) (pc := 152) rfl rfl (by omega) (by omega) (by omega) (by omega) (fun (c85 : v36 = (-1)) => False.elim (by omega)) (fun (c85 : ¬ (v36 = (-1))) => ?_)
                refine zx_T.l (i := .aload_n 0) (k := 1) (v := .ref 44) (pc := 155) rfl rfl rfl ?_
                refine zx_T.l (i := .iload_n 3) (k := 1) (v := .int (zI (v36))) (pc := 156) rfl rfl rfl ?_
                refine zr_iv (cj := 184) (q' := zp_m184) (As := [.int (zI (v36))]) (rest := []) (pc := 157) rfl rfl rfl rfl rfl rfl (Nat.le_of_ble_eq_true rfl) rfl (Nat.le_of_ble_eq_true rfl) hI2 ((zm_takeF (h := h2) hI2 (f := v36) F hF2 oF9 (by omega) (by omega)).up (Nat.le_of_ble_eq_true rfl)) ?_
                rintro r86 h89 ⟨ih89, w90, r86q, x88⟩
                subst r86q
                try dsimp only at x88
                have tk := x88
                show zx_T zp_P 5 zp_m186 160 [(3, .int (zI (v36))), (0, .ref 44), (1, .int (zI (c))), (2, .int (zI (p)))] [] h89 _
                have o9 : (0 ≤ zv_a h 45 p ∧ zv_a h 45 p ≤ 28) ∧ (zv_a h 45 p = 21 → 5 ≤ zv_a h 46 p) := hP.1 p p1 (by show p < zv_i h 1; omega)
                have en9 := js9.trans (zi_t (fun z1 z2 => by first | (exact absurd (fE.1.trans (by omega)) z1) | (exact absurd (cm.2 z2) (by omega)) | (rw [fE.1]; exact (zs_gg_ag xr.1 xS xN).1 (gG.resolve_right (fun z => absurd z.1 (by omega))).2)))
                have inE : zs_in1 F p x = (0, F.st v36, F.kf v36) := (by unfold zs_in1; rw [fE.1, if_neg (by omega)])
                have w9 := wa v36 (by omega) (by omega)
                have ov := (oF9.2.2 v36 (by omega) (by omega)).2.2.1
                have xo1 : zw_ok (zs_in1 F p x) := (by rw [inE]; exact ⟨w9, ov⟩)
                have x01 : (zs_in1 F p x).1 = 0 := (by rw [inE])
                have xS1 : zv_i h89 25 = (zs_in1 F p x).2.1 := (by rw [inE]; exact tk.1)
                have xN1 : ∀ j, 0 ≤ j → j < 8 + (zs_in1 F p x).2.1 → zv_a h89 61 j = (zs_in1 F p x).2.2 j := (by rw [inE]; exact tk.2.1)
                have n81 : ¬ zv_a h89 61 8 = 3 := (by by_cases z : F.st v36 = 0; (rw [tk.2.2 z]; exact n8); (rw [tk.2.1 8 (by decide) (by omega)]; exact fun y => by have y1 := ((w9.2 8 (by decide) (by omega)).2 y).1; omega))
                refine zx_T.l (i := .aload_n 0) (k := 1) (v := .ref 44) (pc := 160) rfl rfl rfl ?_
                refine zx_T.l (i := .iload_n 2) (k := 1) (v := .int (zI (p))) (pc := 161) rfl rfl rfl ?_
                have y91 : zv_i h89 1 = zv_i h 1 := ((zv_wi w90 rfl).trans (zv_wi hw rfl))
                refine zr_iv (cj := 185) (q' := zp_m185) (As := [.int (zI (p))]) (rest := []) (pc := 162) rfl rfl rfl rfl rfl rfl (Nat.le_of_ble_eq_true rfl) rfl (Nat.le_of_ble_eq_true rfl) ih89 ((zm_isRightG (h := h89) ih89 (p := p) (by omega) (by omega) (by omega) n81 (hc.w ((hw.wd rfl : zb_W [(44, 0), (44, 25), (44, 26), (61, 0)] h _).tr (w90.wd rfl)) rfl rfl) ((hC (by omega) p p1 (by omega) (by omega)).w ((hw.wd rfl : zb_W [(44, 0), (44, 25), (44, 26), (61, 0)] h _).tr (w90.wd rfl)) rfl rfl rfl) (by rw [zr_Pg_g ((hw.wd rfl : zb_W [(44, 0), (44, 25), (44, 26), (61, 0)] h _).tr (w90.wd rfl)) rfl]; exact hP) F (zr_Fr_w ((hw.wd rfl : zb_W [(44, 0), (44, 25), (44, 26), (61, 0)] h _).tr (w90.wd rfl)) rfl hF9) oF9 (zs_in1 F p x) x01 xo1 xS1 xN1).up (Nat.le_of_ble_eq_true rfl)) ?_
                rintro r92 h95 ⟨ih95, w96, v93, r92q, x94⟩
                subst r92q
                try dsimp only at x94
                have iR8 := x94.1
                have rT := x94.2; simp only [show zr_Pg h89 = zr_Pg h from zr_Pg_g ((hw.wd rfl : zb_W [(44, 0), (44, 25), (44, 26), (61, 0)] h _).tr (w90.wd rfl)) rfl, show zv_a h89 45 = zv_a h 45 from funext (fun q => zv_wa ((hw.wd rfl : zb_W [(44, 0), (44, 25), (44, 26), (61, 0)] h _).tr (w90.wd rfl)) rfl q), show zv_a h89 46 = zv_a h 46 from funext (fun q => zv_wa ((hw.wd rfl : zb_W [(44, 0), (44, 25), (44, 26), (61, 0)] h _).tr (w90.wd rfl)) rfl q)] at rT
                show zx_T zp_P 5 zp_m186 165 [(3, .int (zI (v36))), (0, .ref 44), (1, .int (zI (c))), (2, .int (zI (p)))] [.int (zI (v93))] h95 _
                refine zr_i1 (x := v93) (t := 173) (pc := 165) rfl rfl (by omega) (by omega) (fun (c97 : ¬ v93 = 0) => ?_) (fun (c97 : ¬ (¬ v93 = 0)) => ?_)
                · have rY := (rT.1.resolve_right (fun z => absurd z.1 (by omega))).2
                  have jy := en9.trans (zi_t rY.1)
                  have y0 := rY.1.2.1
                  have y1 := zw_ap xo1 o9.1 o9.2
                  have yS := rY.2.1
                  have yN := rY.2.2
                  have n8b := iR8
                  have r8 : zv_a h95 54 p = zv_a h 54 p := zv_wa (((hw.wd rfl : zb_W [(44, 0), (44, 25), (44, 26), (61, 0)] h _).tr (w90.wd rfl)).tr (w96.wd rfl)) rfl p
                  refine zx_T.l (i := .aload_n 0) (k := 1) (v := .ref 44) (pc := 173) rfl rfl rfl ?_
                  refine zr_gr (k := 16) (b := 54) (pc := 174) rfl rfl rfl ih95 ?_
                  refine zx_T.l (i := .iload_n 2) (k := 1) (v := .int (zI (p))) (pc := 177) rfl rfl rfl ?_
                  refine zr_bl (n := 60) (lo := 0) (hi := 1) (e := zv_a h 54 p) (pc := 178) rfl rfl rfl ih95 (by omega) (by omega) ((zv_wa w96 rfl p).trans ((zv_wa w90 rfl p).trans (zv_wa hw rfl p))) (fun g98a g98b => ?_)
                  refine zr_i1 (x := zv_a h 54 p) (t := 194) (pc := 179) rfl rfl (by omega) (by omega) (fun (c99 : (zv_a h 54 p) = 0) => False.elim (by omega)) (fun (c99 : ¬ ((zv_a h 54 p) = 0)) => ?_)
                  refine zx_T.l (i := .aload_n 0) (k := 1) (v := .ref 44) (pc := 182) rfl rfl rfl ?_
                  refine zx_T.l (i := .iload_n 2) (k := 1) (v := .int (zI (p))) (pc := 183) rfl rfl rfl ?_
                  refine zr_iv (cj := 168) (q' := zp_m168) (As := [.int (zI (p))]) (rest := []) (pc := 184) rfl rfl rfl rfl rfl rfl (Nat.le_of_ble_eq_true rfl) rfl (Nat.le_of_ble_eq_true rfl) ih95 ((zm_goesOn (h := h95) ih95 (p := p) (by omega) (by omega)).up (Nat.le_of_ble_eq_true rfl)) ?_
                  rintro r100 h103 ⟨h103q, v101, r100q, x102⟩
                  subst h103q r100q
                  try dsimp only at x102
                  have go := x102; simp only [zv_wa (((hw.wd rfl : zb_W [(44, 0), (44, 25), (44, 26), (61, 0)] h _).tr (w90.wd rfl)).tr (w96.wd rfl)) (a := 45) rfl] at go
                  show zx_T zp_P 5 zp_m186 187 [(3, .int (zI (v36))), (0, .ref 44), (1, .int (zI (c))), (2, .int (zI (p)))] [.int (zI (v101))] h95 _
                  refine zr_i1 (x := v101) (t := 194) (pc := 187) rfl rfl (by omega) (by omega) (fun (c104 : v101 = 0) => ?_) (fun (c104 : ¬ (v101 = 0)) => ?_)
                  · refine zx_T.s (i := .iconst 0) (k := 1) (st' := [.int (zI (0))]) (pc := 194) rfl rfl ?_
                    refine zx_T.t (i := .istore_n 1) (k := 1) (ls' := [(1, .int (zI (0))), (3, .int (zI (v36))), (0, .ref 44), (2, .int (zI (p)))]) (st' := []) (pc := 195) rfl rfl rfl rfl ?_
                    refine zr_inc (x := p) (n := 1) (y := p + 1) (ls' := [(2, .int (zI (p + 1))), (1, .int (zI (0))), (3, .int (zI (v36))), (0, .ref 44)]) (pc := 196) rfl rfl rfl (by omega) rfl ?_
                    refine zx_T.j (i := .goto (-94)) (k := 3) (pc' := 105) (st' := []) (pc := 199) rfl rfl rfl rfl rfl ?_
                    refine zx_T.lk (ls' := [(0, .ref 44), (1, .int (zI (0))), (2, .int (zI (p + 1)))]) rfl ⟨rfl, rfl, rfl, trivial⟩ ?_
                    exact ih.2 (h2 := h95) (c := 0) (p := p + 1) ih95 (by omega) (by omega) (by omega) (by omega) (by omega) (((hw.wd rfl : zb_W [(44, 0), (44, 25), (44, 26), (61, 0)] h _).tr (w90.wd rfl)).tr (w96.wd rfl)) wa n8b (zs_go (zr_Pg h) p) ⟨fun z y => by have y1 : 22 ≤ zv_a h 45 p ∧ zv_a h 45 p ≤ 24 := y; omega, fun z => Classical.byContradiction (fun y => z (show 22 ≤ zv_a h 45 p ∧ zv_a h 45 p ≤ 24 by omega))⟩ (zs_ap (zv_a h 45 p) (zv_a h 46 p) (zs_in1 F p x)) y0 y1 yS yN jy (by first | exact Nat.lt_of_lt_of_le ((Int.toNat_lt_toNat (by omega)).mpr (by omega)) (Nat.le_of_lt_succ hm) | omega)
                  · refine zx_T.s (i := .iconst 1) (k := 1) (st' := [.int (zI (1))]) (pc := 190) rfl rfl ?_
                    refine zx_T.j (i := .goto 4) (k := 3) (pc' := 195) (st' := [.int (zI (1))]) (pc := 191) rfl rfl rfl rfl rfl ?_
                    refine zx_T.t (i := .istore_n 1) (k := 1) (ls' := [(1, .int (zI (1))), (3, .int (zI (v36))), (0, .ref 44), (2, .int (zI (p)))]) (st' := []) (pc := 195) rfl rfl rfl rfl ?_
                    refine zr_inc (x := p) (n := 1) (y := p + 1) (ls' := [(2, .int (zI (p + 1))), (1, .int (zI (1))), (3, .int (zI (v36))), (0, .ref 44)]) (pc := 196) rfl rfl rfl (by omega) rfl ?_
                    refine zx_T.j (i := .goto (-94)) (k := 3) (pc' := 105) (st' := []) (pc := 199) rfl rfl rfl rfl rfl ?_
                    refine zx_T.lk (ls' := [(0, .ref 44), (1, .int (zI (1))), (2, .int (zI (p + 1)))]) rfl ⟨rfl, rfl, rfl, trivial⟩ ?_
                    exact ih.2 (h2 := h95) (c := 1) (p := p + 1) ih95 (by omega) (by omega) (by omega) (by omega) (by omega) (((hw.wd rfl : zb_W [(44, 0), (44, 25), (44, 26), (61, 0)] h _).tr (w90.wd rfl)).tr (w96.wd rfl)) wa n8b (zs_go (zr_Pg h) p) ⟨fun z y => by have y1 : 22 ≤ zv_a h 45 p ∧ zv_a h 45 p ≤ 24 := y; omega, fun z => Classical.byContradiction (fun y => z (show 22 ≤ zv_a h 45 p ∧ zv_a h 45 p ≤ 24 by omega))⟩ (zs_ap (zv_a h 45 p) (zv_a h 46 p) (zs_in1 F p x)) y0 y1 yS yN jy (by first | exact Nat.lt_of_lt_of_le ((Int.toNat_lt_toNat (by omega)).mpr (by omega)) (Nat.le_of_lt_succ hm) | omega)
                · refine zx_T.s (i := .bipush (-10)) (k := 2) (st' := [.int (zI ((-10)))]) (pc := 168) rfl rfl ?_
                  refine zx_T.l (i := .iload_n 2) (k := 1) (v := .int (zI (p))) (pc := 170) rfl rfl rfl ?_
                  refine zr_sub (x := (-10)) (y := p) (e := (-1) * p - 10) (pc := 171) rfl (by omega) ?_
                  exact zr_ir (x := (-1) * p - 10) (pc := 172) rfl rfl rfl ⟨ih95, (((hw.wd rfl : zb_W [(44, 0), (44, 25), (44, 26), (61, 0)] h _).tr (w90.wd rfl)).tr (w96.wd rfl)), _, rfl, by dsimp only; exact Or.inr ⟨im, Or.inr ⟨wa, by have z9 := en9.trans (zi_f (rT.1.resolve_left (fun z => absurd z.1 (by omega))).2); exact (by omega : _ = -10 - p).trans z9.symm⟩⟩⟩
              · refine zx_T.s (i := .bipush (-10)) (k := 2) (st' := [.int (zI ((-10)))]) (pc := 145) rfl rfl ?_
                refine zx_T.l (i := .iload_n 2) (k := 1) (v := .int (zI (p))) (pc := 147) rfl rfl rfl ?_
                refine zr_sub (x := (-10)) (y := p) (e := (-1) * p - 10) (pc := 148) rfl (by omega) ?_
                exact zr_ir (x := (-1) * p - 10) (pc := 149) rfl rfl rfl ⟨hI2, (hw.wd rfl : zb_W [(44, 0), (44, 25), (44, 26), (61, 0)] h _), _, rfl, by dsimp only; exact Or.inr ⟨im, Or.inr ⟨wa, by have z9 := js9.trans (zi_f (fun z => (gG.resolve_left (fun z => absurd z.1 (by omega))).2 ((zs_gg_ag xr.1 xS xN).2 (by have z8 := z (by rw [fE.1]; omega) (cm.1 (by omega)); rw [fE.1] at z8; exact z8)))); exact (by omega : _ = -10 - p).trans z9.symm⟩⟩⟩
set_option maxRecDepth 100000 in
set_option maxHeartbeats 4000000 in
theorem zm_judgeF {h : zx_H} (hI : zb_I zc_H h)  (hc : zg_CI h) (hC : zv_i h 13 = 1 → zg_C h) (hP : zP.ok (zr_Pg h)) (s : zS) (F : zF) (hA : ¬ zv_i h 13 = 0 → zr_A h s) (hF : ¬ zv_i h 13 = 0 → zr_Fr h F) (oF : ¬ zv_i h 13 = 0 → F.ok) : zx_T zp_P 5 zp_m186 0 [(0, .ref 44)] [] h (zr_R [(44, 0), (44, 25), (44, 26), (61, 0)] h (fun e h' => (zv_i h 13 = 0 ∧ e = -3) ∨ (¬ zv_i h 13 = 0 ∧ zs_jd (zr_Pg h) s F e))) := by
  have hM9 := zv_ri hI (k := 13) rfl
  have hF0 := zv_ri hI (k := 19) rfl
  have hD := zv_ri hI (k := 1) rfl
  refine zx_T.l (i := .aload_n 0) (k := 1) (v := .ref 44) (pc := 0) rfl rfl rfl ?_
  refine zx_T.s (i := .iconst 0) (k := 1) (st' := [.int (zI (0)), .ref 44]) (pc := 1) rfl rfl ?_
  refine zr_pi (k := 0) (lo := (-2147483648)) (hi := 2147483647) (e := 0) (pc := 2) rfl rfl rfl rfl rfl rfl hI (by omega) (by omega) (fun h107 ih107 w108 e109 => ?_)
  refine zx_T.l (i := .aload_n 0) (k := 1) (v := .ref 44) (pc := 5) rfl rfl rfl ?_
  refine zr_gi (k := 13) (lo := 0) (hi := 1) (e := zv_i h 13) (pc := 6) rfl rfl rfl ih107 (zv_wi w108 rfl) (fun g110a g110b => ?_)
  refine zr_i1 (x := zv_i h 13) (t := 15) (pc := 9) rfl rfl (by omega) (by omega) (fun (c111 : ¬ (zv_i h 13) = 0) => ?_) (fun (c111 : ¬ (¬ (zv_i h 13) = 0)) => ?_)
  · have oF9 := oF (by omega)
    have nF0 := (hF (by omega)).1
    have on9 := oF9.1
    refine zx_T.s (i := .iconst 0) (k := 1) (st' := [.int (zI (0))]) (pc := 15) rfl rfl ?_
    refine zx_T.t (i := .istore_n 1) (k := 1) (ls' := [(1, .int (zI (0))), (0, .ref 44)]) (st' := []) (pc := 16) rfl rfl rfl rfl ?_
    refine zx_T.lk (ls' := [(0, .ref 44), (1, .int (zI (0)))]) rfl ⟨rfl, rfl, trivial⟩ ?_
    exact (zm_judgeF_L (h := h) hI  hc hC hP s F hA hF oF ((1000 - 0 : Int).toNat + 1)).1 (h2 := h107) (f := 0) ih107 (by omega) (by omega) (by omega) (w108.wd rfl : zb_W [(44, 0)] h _) (fun g g0 g1 => absurd g1 (by omega)) (Nat.lt_succ_self _)
  · refine zx_T.s (i := .bipush (-3)) (k := 2) (st' := [.int (zI ((-3)))]) (pc := 12) rfl rfl ?_
    exact zr_ir (x := (-3)) (pc := 14) rfl rfl rfl ⟨ih107, (w108.wd rfl : zb_W [(44, 0), (44, 25), (44, 26), (61, 0)] h _), _, rfl, by dsimp only; exact Or.inl ⟨by omega, rfl⟩⟩
