/-! ===== 63: the reference, method by method (by program) ===== -/
theorem zg_dz.c2 {o o2 a a2 S R S' R' : Int} {N M N' M' : Int → Int} (d : zg_dz o a S S' N N') (s0 : 0 ≤ S) (s1 : S ≤ 6) (s2 : S' ≤ 6) (eo : o2 = o) (ea : a2 = a) (es : R = S) (et : R' = S') (e : ∀ j, 0 ≤ j → j < 14 → M j = N j) (e' : ∀ j, 0 ≤ j → j < 14 → M' j = N' j) : zg_dz o2 a2 R R' M M' := by
  subst eo ea es et
  exact d.cg s0 s1 s2 e e'
theorem zg_VWm {h h' : zx_H} {t : Int} (vi : zg_VI h) (ht : t = zv_i h 25 + 7) (s6 : zv_i h 25 ≤ 6) (hw : ∀ j, 0 ≤ j → j < 14 → zv_a h' 70 j = zv_a h 61 j) (hv : ∀ j, 0 ≤ j → zv_b h' 69 j = zv_b h 69 j) (hT : zv_i h' 38 = zv_i h 38) (hO : ∀ j, 0 ≤ j → zv_a h' 71 j = zv_a h 71 j) : zg_VW h' t := fun j j0 j1 j2 => by
  rw [hw j j0 (by omega)] at j2 ⊢
  rw [hv j j0]
  exact (vi j j0 (by omega) j2).up (by omega) (fun j j0 _ => hO j j0)

def zg_se (h h' : zx_H) : Prop := zg_PI h' ∧ ¬ zv_a h' 61 8 = 3 ∧ zv_i h' 38 ≤ zv_i h 38 + 1 ∧ zv_i h 41 ≤ zv_i h' 41 ∧ zv_i h' 41 ≤ zv_i h 41 + 1 ∧ (zv_i h' 42 = 1 ∨ (zv_i h' 42 = 0 ∧ 0 ≤ zv_i h' 50 ∧ zv_i h' 50 < zv_i h 1))

theorem zg_PI.w {W : List (Nat × Nat)} {h h' : zx_H} (a : zg_PI h) (w : zb_W W h h') (e : (za_in W 44 42 || za_in W 44 43 || za_in W 44 25 || za_in W 61 0 || za_in W 69 0 || za_in W 44 38 || za_in W 71 0) = false) : zg_PI h' := by
  simp only [Bool.or_eq_false_iff] at e
  obtain ⟨⟨⟨⟨⟨⟨e1, e2⟩, e3⟩, e4⟩, e5⟩, e6⟩, e7⟩ := e
  unfold zg_PI zg_VI zg_vo at a ⊢
  simp only [zv_wi w e1, zv_wi w e2, zv_wi w e3, zv_wa w e4, zv_wb w e5, zv_wi w e6, zv_wa w e7]
  exact a
theorem zg_VI.w {W : List (Nat × Nat)} {h h' : zx_H} (a : zg_VI h) (w : zb_W W h h') (e : (za_in W 44 25 || za_in W 61 0 || za_in W 69 0 || za_in W 44 38 || za_in W 71 0) = false) : zg_VI h' := by
  simp only [Bool.or_eq_false_iff] at e
  obtain ⟨⟨⟨⟨e3, e4⟩, e5⟩, e6⟩, e7⟩ := e
  unfold zg_VI zg_vo at a ⊢
  simp only [zv_wi w e3, zv_wa w e4, zv_wb w e5, zv_wi w e6, zv_wa w e7]
  exact a

set_option maxRecDepth 100000 in
set_option maxHeartbeats 4000000 in
theorem zm_step_L {h : zx_H} (hI : zb_I zc_H h) {p : Int} (p1 : 0 ≤ p) (p2 : p < zv_i h 1) (hc : zg_CI h) (vi : zg_VI h) (t9 : zv_i h 38 ≤ 399) (r9 : zv_i h 41 ≤ 1000000) (r8 : (-5) ≤ zv_i h 41) (x0 : zv_i h 42 = 0) (n8 : ¬ zv_a h 61 8 = 3) (n : Nat) : (∀ {h2 : zx_H} {k : Int} (hI2 : zb_I zc_H h2) (k1 : 0 ≤ k) (k2 : k ≤ 14) (hw : zb_W [(70, 0)] h h2) (ws : ∀ j, 0 ≤ j → j < k → zv_a h2 70 j = zv_a h 61 j), (14 - k : Int).toNat < n → zx_T zp_P 7 zp_m216 2 [(0, .ref 44), (1, .int (zI (p))), (2, .int (zI (k)))] [] h2 (zr_V [(70, 0), (44, 26), (44, 25), (61, 0), (69, 0), (44, 50), (44, 14), (44, 42), (44, 43), (44, 49), (44, 41), (44, 38), (71, 0), (72, 0)] h (fun h' => zg_se h h'))) := by
  induction n with
  | zero => exact fun _ _ _ _ _ hm => absurd hm (Nat.not_lt_zero _)
  | succ n ih =>
    intro h2 k hI2 k1 k2 hw ws hm
    have hS := zv_ri hI (k := 25) rfl
    have hC := zv_ri hI (k := 1) rfl
    refine zx_T.l (i := .iload_n 2) (k := 1) (v := .int (zI (k))) (pc := 2) rfl rfl rfl ?_
    refine zx_T.s (i := .bipush 14) (k := 2) (st' := [.int (zI (14)), .int (zI (k))]) (pc := 3) rfl rfl ?_
    refine zr_i2 (x := k) (y := 14) (t := 26) (pc := 5) rfl rfl (by omega) (by omega) (by omega) (by omega) (fun (c1 : 14 ≤ k) => ?_) (fun (c1 : ¬ (14 ≤ k)) => ?_)
    · refine zx_T.s (i := .bipush 8) (k := 2) (st' := [.int (zI (8))]) (pc := 26) rfl rfl ?_
      refine zx_T.l (i := .aload_n 0) (k := 1) (v := .ref 44) (pc := 28) rfl rfl rfl ?_
      refine zr_gi (k := 25) (lo := 0) (hi := 6) (e := zv_i h 25) (pc := 29) rfl rfl rfl hI2 (zv_wi hw rfl) (fun g2a g2b => ?_)
      refine zr_add (x := 8) (y := zv_i h 25) (e := zv_i h 25 + 8) (pc := 32) rfl (by omega) ?_
      refine zx_T.s (i := .iconst 1) (k := 1) (st' := [.int (zI (1)), .int (zI (zv_i h 25 + 8))]) (pc := 33) rfl rfl ?_
      refine zr_sub (x := zv_i h 25 + 8) (y := 1) (e := zv_i h 25 + 7) (pc := 34) rfl (by omega) ?_
      refine zx_T.t (i := .istore_n 2) (k := 1) (ls' := [(2, .int (zI (zv_i h 25 + 7))), (0, .ref 44), (1, .int (zI (p)))]) (st' := []) (pc := 35) rfl rfl rfl rfl ?_
      refine zx_T.l (i := .aload_n 0) (k := 1) (v := .ref 44) (pc := 36) rfl rfl rfl ?_
      refine zx_T.l (i := .iload_n 1) (k := 1) (v := .int (zI (p))) (pc := 37) rfl rfl rfl ?_
      have y3 : zv_a h2 61 8 = zv_a h 61 8 := (zv_wa hw rfl 8)
      refine zr_iv (cj := 167) (q' := zp_m167) (As := [.int (zI (p))]) (rest := []) (pc := 38) rfl rfl rfl rfl rfl rfl (Nat.le_of_ble_eq_true rfl) rfl (Nat.le_of_ble_eq_true rfl) hI2 ((zm_does (h := h2) hI2 (p := p) (by omega) (by omega) (by omega) ((hc.w hw rfl rfl) p (by omega) (by omega))).up (Nat.le_of_ble_eq_true rfl)) ?_
      rintro r4 h7 ⟨ih7, w8, v5, r4q, x6⟩
      subst r4q
      try dsimp only at x6
      have dE := x6.2.2.2.2
      show zx_T zp_P 7 zp_m216 41 [(2, .int (zI (zv_i h 25 + 7))), (0, .ref 44), (1, .int (zI (p)))] [.int (zI (v5))] h7 _
      refine zx_T.t (i := .istore_n 3) (k := 1) (ls' := [(3, .int (zI (v5))), (2, .int (zI (zv_i h 25 + 7))), (0, .ref 44), (1, .int (zI (p)))]) (st' := []) (pc := 41) rfl rfl rfl rfl ?_
      refine zx_T.l (i := .iload_n 3) (k := 1) (v := .int (zI (v5))) (pc := 42) rfl rfl rfl ?_
      refine zr_i1 (x := v5) (t := 53) (pc := 43) rfl rfl (by omega) (by omega) (fun (c9 : v5 = 0) => ?_) (fun (c9 : ¬ (v5 = 0)) => ?_)
      · refine zx_T.l (i := .aload_n 0) (k := 1) (v := .ref 44) (pc := 53) rfl rfl rfl ?_
        refine zx_T.s (i := .iconst (-1)) (k := 1) (st' := [.int (zI ((-1))), .ref 44]) (pc := 54) rfl rfl ?_
        refine zr_pi (k := 50) (lo := (-1)) (hi := 59) (e := (-1)) (pc := 55) rfl rfl rfl rfl rfl rfl ih7 (by omega) (by omega) (fun h10 ih10 w11 e12 => ?_)
        refine zx_T.l (i := .aload_n 0) (k := 1) (v := .ref 44) (pc := 58) rfl rfl rfl ?_
        refine zx_T.l (i := .iload_n 1) (k := 1) (v := .int (zI (p))) (pc := 59) rfl rfl rfl ?_
        refine zx_T.l (i := .iload_n 2) (k := 1) (v := .int (zI (zv_i h 25 + 7))) (pc := 60) rfl rfl rfl ?_
        have y13 : zv_i h10 1 = zv_i h 1 := ((zv_wi w11 rfl).trans ((zv_wi w8 rfl).trans (zv_wi hw rfl)))
        have y14 : zv_i h10 38 = zv_i h 38 := ((zv_wi w11 rfl).trans ((zv_wi w8 rfl).trans (zv_wi hw rfl)))
        have y15 : zv_i h10 41 = zv_i h 41 := ((zv_wi w11 rfl).trans ((zv_wi w8 rfl).trans (zv_wi hw rfl)))
        have y16 : zv_i h10 42 = zv_i h 42 := ((zv_wi w11 rfl).trans ((zv_wi w8 rfl).trans (zv_wi hw rfl)))
        have y17 : zv_a h10 61 8 = zv_a h7 61 8 := (zv_wa w11 rfl 8)
        have y18 : zv_i h10 50 = (-1) := e12
        have y19 : zv_i h10 25 = zv_i h7 25 := (zv_wi w11 rfl)
        refine zr_iv (cj := 215) (q' := zp_m215) (As := [.int (zI (p)), .int (zI (zv_i h 25 + 7))]) (rest := []) (pc := 61) rfl rfl rfl rfl rfl rfl (Nat.le_of_ble_eq_true rfl) rfl (Nat.le_of_ble_eq_true rfl) ih10 ((zm_acts (h := h10) ih10 (p := p) (t := zv_i h 25 + 7) (by omega) (by omega) (by omega) (by omega) (zg_dz.c2 (dE (by omega)).z (zv_ri hI2 (k := 25) rfl).1 (zv_ri hI2 (k := 25) rfl).2 (zv_ri ih7 (k := 25) rfl).2 (by rw [zv_wa w11 rfl, zv_wa w8 rfl]) (by rw [zv_wa w11 rfl, zv_wa w8 rfl]) (by have q1 := zv_wi hw (k := 25) rfl; omega) (zv_wi w11 rfl) (fun j j0 j1 => by rw [zv_wa w11 rfl, zv_wa w8 rfl]; rw [ws j j0 (by omega), zv_wa hw rfl]) (fun j j0 j1 => zv_wa w11 rfl j)) (zg_VWm vi (by omega) (by omega) (fun j j0 j1 => by rw [zv_wa w11 rfl, zv_wa w8 rfl, ws j j0 (by omega)]) (fun j j0 => by rw [zv_wb w11 rfl, zv_wb w8 rfl, zv_wb hw rfl]) (by rw [zv_wi w11 rfl, zv_wi w8 rfl, zv_wi hw rfl]) (fun j j0 => by rw [zv_wa w11 rfl, zv_wa w8 rfl, zv_wa hw rfl])) (by omega) (by omega) (by omega) (by omega) (by omega) (by omega) ((hc.w (((hw.wd rfl : zb_W [(70, 0), (44, 26), (44, 25), (61, 0), (69, 0), (44, 50), (44, 14), (44, 42), (44, 43), (44, 49), (44, 41), (44, 38), (71, 0), (72, 0)] h _).tr (w8.wd rfl)).tr (w11.wd rfl)) rfl rfl) p (by omega) (by omega))).up (Nat.le_of_ble_eq_true rfl)) ?_
        rintro r20 h23 ⟨ih23, w24, r20q, x22⟩
        subst r20q
        try dsimp only at x22
        have ae := x22
        have ae2 := ae.2
        show zx_T zp_P 7 zp_m216 64 [(3, .int (zI (v5))), (2, .int (zI (zv_i h 25 + 7))), (0, .ref 44), (1, .int (zI (p)))] [] h23 _
        refine zx_T.l (i := .aload_n 0) (k := 1) (v := .ref 44) (pc := 64) rfl rfl rfl ?_
        refine zr_gi (k := 42) (lo := 0) (hi := 1) (e := zv_i h23 42) (pc := 65) rfl rfl rfl ih23 rfl (fun g25a g25b => ?_)
        refine zr_i1 (x := zv_i h23 42) (t := 106) (pc := 68) rfl rfl (by omega) (by omega) (fun (c26 : ¬ (zv_i h23 42) = 0) => ?_) (fun (c26 : ¬ (¬ (zv_i h23 42) = 0)) => ?_)
        · have y32 : zv_i h23 1 = zv_i h 1 := ((zv_wi w24 rfl).trans ((zv_wi w11 rfl).trans ((zv_wi w8 rfl).trans (zv_wi hw rfl))))
          exact zr_vr (pc := 106) rfl rfl ⟨ih23, ((((hw.wd rfl : zb_W [(70, 0), (44, 26), (44, 25), (61, 0), (69, 0), (44, 50), (44, 14), (44, 42), (44, 43), (44, 49), (44, 41), (44, 38), (71, 0), (72, 0)] h _).tr (w8.wd rfl)).tr (w11.wd rfl)).tr (w24.wd rfl)), rfl, by dsimp only; exact ⟨ae.1, by omega, by omega, by omega, by omega, by omega⟩⟩
        · refine zx_T.l (i := .aload_n 0) (k := 1) (v := .ref 44) (pc := 71) rfl rfl rfl ?_
          refine zr_gi (k := 50) (lo := (-1)) (hi := 59) (e := zv_i h23 50) (pc := 72) rfl rfl rfl ih23 rfl (fun g34a g34b => ?_)
          refine zx_T.s (i := .iconst (-1)) (k := 1) (st' := [.int (zI ((-1))), .int (zI (zv_i h23 50))]) (pc := 75) rfl rfl ?_
          refine zr_i2 (x := zv_i h23 50) (y := (-1)) (t := 106) (pc := 76) rfl rfl (by omega) (by omega) (by omega) (by omega) (fun (c35 : ¬ (zv_i h23 50) = (-1)) => ?_) (fun (c35 : ¬ (¬ (zv_i h23 50) = (-1))) => ?_)
          · have y41 : zv_i h23 1 = zv_i h 1 := ((zv_wi w24 rfl).trans ((zv_wi w11 rfl).trans ((zv_wi w8 rfl).trans (zv_wi hw rfl))))
            exact zr_vr (pc := 106) rfl rfl ⟨ih23, ((((hw.wd rfl : zb_W [(70, 0), (44, 26), (44, 25), (61, 0), (69, 0), (44, 50), (44, 14), (44, 42), (44, 43), (44, 49), (44, 41), (44, 38), (71, 0), (72, 0)] h _).tr (w8.wd rfl)).tr (w11.wd rfl)).tr (w24.wd rfl)), rfl, by dsimp only; exact ⟨ae.1, by omega, by omega, by omega, by omega, by omega⟩⟩
          · refine zx_T.l (i := .iload_n 1) (k := 1) (v := .int (zI (p))) (pc := 79) rfl rfl rfl ?_
            refine zx_T.s (i := .iconst 1) (k := 1) (st' := [.int (zI (1)), .int (zI (p))]) (pc := 80) rfl rfl ?_
            refine zr_add (x := p) (y := 1) (e := p + 1) (pc := 81) rfl (by omega) ?_
            refine zx_T.l (i := .aload_n 0) (k := 1) (v := .ref 44) (pc := 82) rfl rfl rfl ?_
            refine zr_gi (k := 1) (lo := 0) (hi := 60) (e := zv_i h 1) (pc := 83) rfl rfl rfl ih23 ((zv_wi w24 rfl).trans ((zv_wi w11 rfl).trans ((zv_wi w8 rfl).trans (zv_wi hw rfl)))) (fun g43a g43b => ?_)
            refine zr_i2 (x := p + 1) (y := zv_i h 1) (t := 99) (pc := 86) rfl rfl (by omega) (by omega) (by omega) (by omega) (fun (c44 : ¬ (p + 1) = (zv_i h 1)) => ?_) (fun (c44 : ¬ (¬ (p + 1) = (zv_i h 1))) => ?_)
            · refine zx_T.l (i := .aload_n 0) (k := 1) (v := .ref 44) (pc := 99) rfl rfl rfl ?_
              refine zx_T.l (i := .iload_n 1) (k := 1) (v := .int (zI (p))) (pc := 100) rfl rfl rfl ?_
              refine zx_T.s (i := .iconst 1) (k := 1) (st' := [.int (zI (1)), .int (zI (p)), .ref 44]) (pc := 101) rfl rfl ?_
              refine zr_add (x := p) (y := 1) (e := p + 1) (pc := 102) rfl (by omega) ?_
              refine zr_pi (k := 50) (lo := (-1)) (hi := 59) (e := p + 1) (pc := 103) rfl rfl rfl rfl rfl rfl ih23 (by omega) (by omega) (fun h45 ih45 w46 e47 => ?_)
              have y48 : zv_i h45 42 = zv_i h23 42 := (zv_wi w46 rfl)
              have y49 : zv_i h45 43 = zv_i h23 43 := (zv_wi w46 rfl)
              have y50 : zv_i h45 38 = zv_i h23 38 := (zv_wi w46 rfl)
              have y51 : zv_i h45 41 = zv_i h23 41 := (zv_wi w46 rfl)
              have y52 : zv_i h45 50 = p + 1 := e47
              have y53 : zv_i h45 1 = zv_i h 1 := ((zv_wi w46 rfl).trans ((zv_wi w24 rfl).trans ((zv_wi w11 rfl).trans ((zv_wi w8 rfl).trans (zv_wi hw rfl)))))
              have y54 : zv_a h45 61 8 = zv_a h23 61 8 := (zv_wa w46 rfl 8)
              exact zr_vr (pc := 106) rfl rfl ⟨ih45, (((((hw.wd rfl : zb_W [(70, 0), (44, 26), (44, 25), (61, 0), (69, 0), (44, 50), (44, 14), (44, 42), (44, 43), (44, 49), (44, 41), (44, 38), (71, 0), (72, 0)] h _).tr (w8.wd rfl)).tr (w11.wd rfl)).tr (w24.wd rfl)).tr (w46.wd rfl)), rfl, by dsimp only; exact ⟨ae.1.w w46 rfl, by omega, by omega, by omega, by omega, by omega⟩⟩
            · refine zx_T.l (i := .aload_n 0) (k := 1) (v := .ref 44) (pc := 89) rfl rfl rfl ?_
              refine zx_T.s (i := .bipush 6) (k := 2) (st' := [.int (zI (6)), .ref 44]) (pc := 90) rfl rfl ?_
              refine zx_T.l (i := .iload_n 1) (k := 1) (v := .int (zI (p))) (pc := 92) rfl rfl rfl ?_
              refine zr_iv (cj := 208) (q' := zp_m208) (As := [.int (zI (6)), .int (zI (p))]) (rest := []) (pc := 93) rfl rfl rfl rfl rfl rfl (Nat.le_of_ble_eq_true rfl) rfl (Nat.le_of_ble_eq_true rfl) ih23 ((zm_bad (h := h23) ih23 (w := 6) (p := p) (by omega) (by omega) (by omega) (by omega)).up (Nat.le_of_ble_eq_true rfl)) ?_
              rintro r55 h58 ⟨ih58, w59, r55q, x57⟩
              subst r55q
              try dsimp only at x57
              show zx_T zp_P 7 zp_m216 96 [(3, .int (zI (v5))), (2, .int (zI (zv_i h 25 + 7))), (0, .ref 44), (1, .int (zI (p)))] [] h58 _
              refine zx_T.j (i := .goto 10) (k := 3) (pc' := 106) (st' := []) (pc := 96) rfl rfl rfl rfl rfl ?_
              have y62 : zv_i h58 38 = zv_i h23 38 := (zv_wi w59 rfl)
              have y63 : zv_i h58 41 = zv_i h23 41 := (zv_wi w59 rfl)
              have y64 : zv_i h58 50 = zv_i h23 50 := (zv_wi w59 rfl)
              have y65 : zv_i h58 1 = zv_i h 1 := ((zv_wi w59 rfl).trans ((zv_wi w24 rfl).trans ((zv_wi w11 rfl).trans ((zv_wi w8 rfl).trans (zv_wi hw rfl)))))
              have y66 : zv_a h58 61 8 = zv_a h23 61 8 := (zv_wa w59 rfl 8)
              exact zr_vr (pc := 106) rfl rfl ⟨ih58, (((((hw.wd rfl : zb_W [(70, 0), (44, 26), (44, 25), (61, 0), (69, 0), (44, 50), (44, 14), (44, 42), (44, 43), (44, 49), (44, 41), (44, 38), (71, 0), (72, 0)] h _).tr (w8.wd rfl)).tr (w11.wd rfl)).tr (w24.wd rfl)).tr (w59.wd rfl)), rfl, by dsimp only; exact ⟨fun z => absurd z (by omega), by omega, by omega, by omega, by omega, by omega⟩⟩
      · refine zx_T.l (i := .aload_n 0) (k := 1) (v := .ref 44) (pc := 46) rfl rfl rfl ?_
        refine zx_T.l (i := .iload_n 3) (k := 1) (v := .int (zI (v5))) (pc := 47) rfl rfl rfl ?_
        refine zx_T.l (i := .iload_n 1) (k := 1) (v := .int (zI (p))) (pc := 48) rfl rfl rfl ?_
        refine zr_iv (cj := 208) (q' := zp_m208) (As := [.int (zI (v5)), .int (zI (p))]) (rest := []) (pc := 49) rfl rfl rfl rfl rfl rfl (Nat.le_of_ble_eq_true rfl) rfl (Nat.le_of_ble_eq_true rfl) ih7 ((zm_bad (h := h7) ih7 (w := v5) (p := p) (by omega) (by omega) (by omega) (by omega)).up (Nat.le_of_ble_eq_true rfl)) ?_
        rintro r67 h70 ⟨ih70, w71, r67q, x69⟩
        subst r67q
        try dsimp only at x69
        show zx_T zp_P 7 zp_m216 52 [(3, .int (zI (v5))), (2, .int (zI (zv_i h 25 + 7))), (0, .ref 44), (1, .int (zI (p)))] [] h70 _
        have y74 : zv_i h70 38 = zv_i h 38 := ((zv_wi w71 rfl).trans ((zv_wi w8 rfl).trans (zv_wi hw rfl)))
        have y75 : zv_i h70 41 = zv_i h 41 := ((zv_wi w71 rfl).trans ((zv_wi w8 rfl).trans (zv_wi hw rfl)))
        have y76 : zv_i h70 50 = zv_i h 50 := ((zv_wi w71 rfl).trans ((zv_wi w8 rfl).trans (zv_wi hw rfl)))
        have y77 : zv_i h70 1 = zv_i h 1 := ((zv_wi w71 rfl).trans ((zv_wi w8 rfl).trans (zv_wi hw rfl)))
        have y78 : zv_a h70 61 8 = zv_a h7 61 8 := (zv_wa w71 rfl 8)
        exact zr_vr (pc := 52) rfl rfl ⟨ih70, (((hw.wd rfl : zb_W [(70, 0), (44, 26), (44, 25), (61, 0), (69, 0), (44, 50), (44, 14), (44, 42), (44, 43), (44, 49), (44, 41), (44, 38), (71, 0), (72, 0)] h _).tr (w8.wd rfl)).tr (w71.wd rfl)), rfl, by dsimp only; exact ⟨fun z => absurd z (by omega), by omega, by omega, by omega, by omega, by omega⟩⟩
    · refine zx_T.l (i := .aload_n 0) (k := 1) (v := .ref 44) (pc := 8) rfl rfl rfl ?_
      refine zr_gr (k := 37) (b := 70) (pc := 9) rfl rfl rfl hI2 ?_
      refine zx_T.l (i := .iload_n 2) (k := 1) (v := .int (zI (k))) (pc := 12) rfl rfl rfl ?_
      refine zx_T.l (i := .aload_n 0) (k := 1) (v := .ref 44) (pc := 13) rfl rfl rfl ?_
      refine zr_gr (k := 24) (b := 61) (pc := 14) rfl rfl rfl hI2 ?_
      refine zx_T.l (i := .iload_n 2) (k := 1) (v := .int (zI (k))) (pc := 17) rfl rfl rfl ?_
      refine zr_al (n := 14) (lo := 0) (hi := 8) (e := zv_a h 61 k) (pc := 18) rfl rfl rfl hI2 (by omega) (by omega) (zv_wa hw rfl k) (fun g79a g79b => ?_)
      refine zr_as (n := 14) (lo := 0) (hi := 8) (e := zv_a h 61 k) (pc := 19) rfl rfl rfl rfl hI2 (by omega) (by omega) (by omega) (by omega) (fun h80 ih80 w81 s82 => ?_)
      refine zr_inc (x := k) (n := 1) (y := k + 1) (ls' := [(2, .int (zI (k + 1))), (0, .ref 44), (1, .int (zI (p)))]) (pc := 20) rfl rfl rfl (by omega) rfl ?_
      refine zx_T.j (i := .goto (-21)) (k := 3) (pc' := 2) (st' := []) (pc := 23) rfl rfl rfl rfl rfl ?_
      have a70 : ∀ j, 0 ≤ j → zv_a h80 70 j = if j = k then zv_a h 61 k else zv_a h2 70 j := fun j hj => by rw [s82 j hj]
      refine zx_T.lk (ls' := [(0, .ref 44), (1, .int (zI (p))), (2, .int (zI (k + 1)))]) rfl ⟨rfl, rfl, rfl, trivial⟩ ?_
      exact ih (h2 := h80) (k := k + 1) ih80 (by omega) (by omega) ((hw.wd rfl : zb_W [(70, 0)] h _).tr (w81.wd rfl)) (fun j j0 j1 => by first | omega | (have b9 := a70 j j0; split at b9 <;> first | (next e9 => rw [b9, e9]; done) | (rw [b9]; exact ws j j0 (by omega)))) (by omega)
set_option maxRecDepth 100000 in
set_option maxHeartbeats 4000000 in
theorem zm_step {h : zx_H} (hI : zb_I zc_H h) {p : Int} (p1 : 0 ≤ p) (p2 : p < zv_i h 1) (hc : zg_CI h) (vi : zg_VI h) (t9 : zv_i h 38 ≤ 399) (r9 : zv_i h 41 ≤ 1000000) (r8 : (-5) ≤ zv_i h 41) (x0 : zv_i h 42 = 0) (n8 : ¬ zv_a h 61 8 = 3) : zx_T zp_P 7 zp_m216 0 [(0, .ref 44), (1, .int (zI (p)))] [] h (zr_V [(70, 0), (44, 26), (44, 25), (61, 0), (69, 0), (44, 50), (44, 14), (44, 42), (44, 43), (44, 49), (44, 41), (44, 38), (71, 0), (72, 0)] h (fun h' => zg_se h h')) := by
  have hS := zv_ri hI (k := 25) rfl
  have hC := zv_ri hI (k := 1) rfl
  refine zx_T.s (i := .iconst 0) (k := 1) (st' := [.int (zI (0))]) (pc := 0) rfl rfl ?_
  refine zx_T.t (i := .istore_n 2) (k := 1) (ls' := [(2, .int (zI (0))), (0, .ref 44), (1, .int (zI (p)))]) (st' := []) (pc := 1) rfl rfl rfl rfl ?_
  refine zx_T.lk (ls' := [(0, .ref 44), (1, .int (zI (p))), (2, .int (zI (0)))]) rfl ⟨rfl, rfl, rfl, trivial⟩ ?_
  exact zm_step_L (h := h) hI (p := p) p1 p2 hc vi t9 r9 r8 x0 n8 ((14 - 0 : Int).toNat + 1) (h2 := h) (k := 0) hI (by omega) (by omega) zb_W.rf (fun j j0 j1 => by first | omega | (have b9 := a70 j j0; split at b9 <;> first | (next e9 => rw [b9, e9]; done) | (rw [b9]; exact ws j j0 (by omega)))) (Nat.lt_succ_self _)

theorem zg_fis {h2 h4 : zx_H} {k : Int} (k0 : 0 ≤ k) (vk : ∀ j, 0 ≤ j → j < k → 5 ≤ zv_a h2 61 j → zg_vo h2 (zv_a h2 61 j) (zv_b h2 69 j)) (hn : ∀ j, 0 ≤ j → ¬ j = k → zv_a h4 61 j = zv_a h2 61 j) (hv : ∀ j, 0 ≤ j → ¬ j = k → zv_b h4 69 j = zv_b h2 69 j) (hT : zv_i h2 38 ≤ zv_i h4 38) (hO : ∀ j, 0 ≤ j → j < zv_i h2 38 → zv_a h4 71 j = zv_a h2 71 j) (new : 5 ≤ zv_a h4 61 k → zg_vo h4 (zv_a h4 61 k) (zv_b h4 69 k)) : ∀ j, 0 ≤ j → j < k + 1 → 5 ≤ zv_a h4 61 j → zg_vo h4 (zv_a h4 61 j) (zv_b h4 69 j) := fun j j0 j1 j2 => by
  by_cases e : j = k
  · subst e; exact new j2
  · rw [hn j j0 e] at j2 ⊢
    rw [hv j j0 e]
    exact (vk j j0 (by omega) j2).up hT hO

set_option maxRecDepth 100000 in
set_option maxHeartbeats 4000000 in
theorem zm_fill_L {h : zx_H} (hI : zb_I zc_H h)   (n : Nat) : (∀ {h2 : zx_H} {k : Int} (hI2 : zb_I zc_H h2) (k1 : 0 ≤ k) (k2 : k ≤ zv_i h 10) (hw : zb_W [(44, 25), (61, 0), (69, 0), (44, 38), (71, 0), (72, 0)] h h2) (s0 : zv_i h2 25 = 0) (tk : zv_i h2 38 ≤ k) (vk : ∀ j, 0 ≤ j → j < k → 5 ≤ zv_a h2 61 j → zg_vo h2 (zv_a h2 61 j) (zv_b h2 69 j)) (nr : ∀ j, zv_i h 10 ≤ j → j < 14 → zv_a h2 61 j = 0), (14 - k : Int).toNat < n → zx_T zp_P 1 zp_m206 20 [(0, .ref 44), (1, .int (zI (k)))] [] h2 (zr_V [(44, 25), (61, 0), (69, 0), (44, 38), (71, 0), (72, 0)] h (fun h' => zv_i h' 25 = 0 ∧ zv_i h' 38 ≤ 8 ∧ zg_VI h' ∧ ¬ zv_a h' 61 8 = 3))) := by
  induction n with
  | zero => exact fun _ _ _ _ _ _ _ _ hm => absurd hm (Nat.not_lt_zero _)
  | succ n ih =>
    intro h2 k hI2 k1 k2 hw s0 tk vk nr hm
    have hP := zv_ri hI (k := 10) rfl
    have hT2 := zv_ri hI2 (k := 38) rfl
    refine zx_T.l (i := .iload_n 1) (k := 1) (v := .int (zI (k))) (pc := 20) rfl rfl rfl ?_
    refine zx_T.l (i := .aload_n 0) (k := 1) (v := .ref 44) (pc := 21) rfl rfl rfl ?_
    refine zr_gi (k := 10) (lo := 0) (hi := 8) (e := zv_i h 10) (pc := 22) rfl rfl rfl hI2 (zv_wi hw rfl) (fun g1a g1b => ?_)
    refine zr_i2 (x := k) (y := zv_i h 10) (t := 138) (pc := 25) rfl rfl (by omega) (by omega) (by omega) (by omega) (fun (c2 : (zv_i h 10) ≤ k) => ?_) (fun (c2 : ¬ ((zv_i h 10) ≤ k)) => ?_)
    · exact zr_vr (pc := 138) rfl rfl ⟨hI2, (hw.wd rfl : zb_W [(44, 25), (61, 0), (69, 0), (44, 38), (71, 0), (72, 0)] h _), rfl, by dsimp only; exact ⟨by omega, by omega, fun j j0 j1 j2 => by first | exact vk j j0 (by omega) j2 | (by_cases z : j < k; exact vk j j0 z j2; have b2 := nr j (by omega) (by omega); exfalso; omega), by have b1 := nr 8 (by omega) (by omega); omega⟩⟩
    · refine zx_T.l (i := .aload_n 0) (k := 1) (v := .ref 44) (pc := 28) rfl rfl rfl ?_
      refine zr_gr (k := 12) (b := 53) (pc := 29) rfl rfl rfl hI2 ?_
      refine zx_T.l (i := .iload_n 1) (k := 1) (v := .int (zI (k))) (pc := 32) rfl rfl rfl ?_
      have g3 := zv_rb (h := h2) 53 k
      refine zr_ll (n := 8) (e := zv_b h 53 k) (pc := 33) rfl rfl rfl hI2 (by omega) (by omega) (zv_wb hw rfl k) ?_
      rw [show zv_b h2 53 k = zv_b h 53 k from (zv_wb hw rfl k)] at g3
      refine zx_T.t (i := .lstore_n 2) (k := 1) (ls' := [(2, .long (zL (zv_b h 53 k))), (0, .ref 44), (1, .int (zI (k)))]) (st' := []) (pc := 34) rfl rfl rfl rfl ?_
      refine zx_T.l (i := .aload_n 0) (k := 1) (v := .ref 44) (pc := 35) rfl rfl rfl ?_
      refine zr_gr (k := 36) (b := 69) (pc := 36) rfl rfl rfl hI2 ?_
      refine zx_T.l (i := .iload_n 1) (k := 1) (v := .int (zI (k))) (pc := 39) rfl rfl rfl ?_
      refine zx_T.l (i := .aload_n 0) (k := 1) (v := .ref 44) (pc := 40) rfl rfl rfl ?_
      refine zr_gr (k := 24) (b := 61) (pc := 41) rfl rfl rfl hI2 ?_
      refine zx_T.l (i := .iload_n 1) (k := 1) (v := .int (zI (k))) (pc := 44) rfl rfl rfl ?_
      refine zr_al (n := 14) (lo := 0) (hi := 8) (e := zv_a h2 61 k) (pc := 45) rfl rfl rfl hI2 (by omega) (by omega) rfl (fun g4a g4b => ?_)
      refine zx_T.s (i := .iconst 1) (k := 1) (st' := [.int (zI (1)), .int (zI (zv_a h2 61 k)), .int (zI (k)), .ref 69]) (pc := 46) rfl rfl ?_
      refine zr_i2 (x := zv_a h2 61 k) (y := 1) (t := 56) (pc := 47) rfl rfl (by omega) (by omega) (by omega) (by omega) (fun (c5 : ¬ (zv_a h2 61 k) = 1) => ?_) (fun (c5 : ¬ (¬ (zv_a h2 61 k) = 1)) => ?_)
      · refine zx_T.l (i := .lload_n 2) (k := 1) (v := .long (zL (zv_b h 53 k))) (pc := 56) rfl rfl rfl ?_
        refine zr_ls (n := 14) (e := zv_b h 53 k) (pc := 57) rfl rfl rfl hI2 (by omega) (by omega) (fun h6 ih6 w7 s8 => ?_)
        refine zx_T.l (i := .aload_n 0) (k := 1) (v := .ref 44) (pc := 58) rfl rfl rfl ?_
        refine zr_gr (k := 24) (b := 61) (pc := 59) rfl rfl rfl ih6 ?_
        refine zx_T.l (i := .iload_n 1) (k := 1) (v := .int (zI (k))) (pc := 62) rfl rfl rfl ?_
        refine zr_al (n := 14) (lo := 0) (hi := 8) (e := zv_a h2 61 k) (pc := 63) rfl rfl rfl ih6 (by omega) (by omega) (zv_wa w7 rfl k) (fun g9a g9b => ?_)
        refine zx_T.s (i := .iconst 5) (k := 1) (st' := [.int (zI (5)), .int (zI (zv_a h2 61 k))]) (pc := 64) rfl rfl ?_
        refine zr_i2 (x := zv_a h2 61 k) (y := 5) (t := 132) (pc := 65) rfl rfl (by omega) (by omega) (by omega) (by omega) (fun (c10 : (zv_a h2 61 k) < 5) => ?_) (fun (c10 : ¬ ((zv_a h2 61 k) < 5)) => ?_)
        · refine zr_inc (x := k) (n := 1) (y := k + 1) (ls' := [(1, .int (zI (k + 1))), (2, .long (zL (zv_b h 53 k))), (0, .ref 44)]) (pc := 132) rfl rfl rfl (by omega) rfl ?_
          refine zx_T.j (i := .goto (-115)) (k := 3) (pc' := 20) (st' := []) (pc := 135) rfl rfl rfl rfl rfl ?_
          have y11 : zv_i h6 25 = zv_i h2 25 := (zv_wi w7 rfl)
          have i38 : zv_i h6 38 = zv_i h2 38 := (zv_wi w7 rfl)
          have a61 : ∀ j, 0 ≤ j → zv_a h6 61 j = zv_a h2 61 j := fun j hj => by rw [zv_wa w7 rfl j]
          have a71 : ∀ j, 0 ≤ j → zv_a h6 71 j = zv_a h2 71 j := fun j hj => by rw [zv_wa w7 rfl j]
          have b69 : ∀ j, 0 ≤ j → zv_b h6 69 j = if j = k then (zL (zv_b h 53 k)).toInt else zv_b h2 69 j := fun j hj => by rw [s8 j hj]
          refine zx_T.lk (ls' := [(0, .ref 44), (1, .int (zI (k + 1)))]) rfl ⟨rfl, rfl, trivial⟩ ?_
          exact ih (h2 := h6) (k := k + 1) ih6 (by omega) (by omega) ((hw.wd rfl : zb_W [(44, 25), (61, 0), (69, 0), (44, 38), (71, 0), (72, 0)] h _).tr (w7.wd rfl)) (by omega) (by omega) (zg_fis k1 vk (fun j j0 jn => by rw [a61 j j0]; first | done | (repeat rw [if_neg jn])) (fun j j0 jn => by rw [b69 j j0]; first | done | (repeat rw [if_neg jn])) (by omega) (fun j j0 _ => a71 j j0) (fun z => by have q1 := a61 k k1; have q2 := b69 k k1; first | (exfalso; omega) | (simp only [if_true, ite_true] at q1 q2; first | (exfalso; omega) | (rw [zL_i (by omega) (by omega)] at q2; rw [q2]; exact ⟨by omega, by omega, fun z6 => by rw [a71 _ (by omega), th.2.2 _ (by omega), if_pos (by omega)]; omega⟩)))) (fun j j0 j1 => by rw [a61 j (by omega)]; first | exact nr j j0 j1 | (repeat rw [if_neg (by omega)]; exact nr j j0 j1)) (by omega)
        · refine zx_T.l (i := .aload_n 0) (k := 1) (v := .ref 44) (pc := 68) rfl rfl rfl ?_
          refine zr_gr (k := 24) (b := 61) (pc := 69) rfl rfl rfl ih6 ?_
          refine zx_T.l (i := .iload_n 1) (k := 1) (v := .int (zI (k))) (pc := 72) rfl rfl rfl ?_
          refine zr_al (n := 14) (lo := 0) (hi := 8) (e := zv_a h2 61 k) (pc := 73) rfl rfl rfl ih6 (by omega) (by omega) (zv_wa w7 rfl k) (fun g16a g16b => ?_)
          refine zx_T.t (i := .istore 4) (k := 2) (ls' := [(4, .int (zI (zv_a h2 61 k))), (2, .long (zL (zv_b h 53 k))), (0, .ref 44), (1, .int (zI (k)))]) (st' := []) (pc := 74) rfl rfl rfl rfl ?_
          refine zx_T.l (i := .aload_n 0) (k := 1) (v := .ref 44) (pc := 76) rfl rfl rfl ?_
          refine zr_gr (k := 24) (b := 61) (pc := 77) rfl rfl rfl ih6 ?_
          refine zx_T.l (i := .iload_n 1) (k := 1) (v := .int (zI (k))) (pc := 80) rfl rfl rfl ?_
          refine zx_T.l (i := .lload_n 2) (k := 1) (v := .long (zL (zv_b h 53 k))) (pc := 81) rfl rfl rfl ?_
          refine zx_T.s (i := .lconst 0) (k := 1) (st' := [.long (zL (0)), .long (zL (zv_b h 53 k)), .int (zI (k)), .ref 61]) (pc := 82) rfl rfl ?_
          refine zr_lcmp (pc := 83) rfl (by omega) (by omega) (by omega) (by omega) (fun z17 z17a => ?_)
          refine zr_i1 (x := z17) (t := 91) (pc := 84) rfl rfl (by omega) (by omega) (fun (c18 : 0 ≤ z17) => ?_) (fun (c18 : ¬ (0 ≤ z17)) => ?_)
          · refine zx_T.l (i := .iload 4) (k := 2) (v := .int (zI (zv_a h2 61 k))) (pc := 91) rfl rfl rfl ?_
            refine zr_as (n := 14) (lo := 0) (hi := 8) (e := zv_a h2 61 k) (pc := 93) rfl rfl rfl rfl ih6 (by omega) (by omega) (by omega) (by omega) (fun h19 ih19 w20 s21 => ?_)
            refine zx_T.l (i := .aload_n 0) (k := 1) (v := .ref 44) (pc := 94) rfl rfl rfl ?_
            refine zr_gr (k := 36) (b := 69) (pc := 95) rfl rfl rfl ih19 ?_
            refine zx_T.l (i := .iload_n 1) (k := 1) (v := .int (zI (k))) (pc := 98) rfl rfl rfl ?_
            refine zx_T.l (i := .lload_n 2) (k := 1) (v := .long (zL (zv_b h 53 k))) (pc := 99) rfl rfl rfl ?_
            refine zx_T.s (i := .lconst 0) (k := 1) (st' := [.long (zL (0)), .long (zL (zv_b h 53 k)), .int (zI (k)), .ref 69]) (pc := 100) rfl rfl ?_
            refine zr_lcmp (pc := 101) rfl (by omega) (by omega) (by omega) (by omega) (fun z22 z22a => ?_)
            refine zr_i1 (x := z22) (t := 109) (pc := 102) rfl rfl (by omega) (by omega) (fun (c23 : 0 ≤ z22) => ?_) (fun (c23 : ¬ (0 ≤ z22)) => ?_)
            · refine zx_T.l (i := .aload_n 0) (k := 1) (v := .ref 44) (pc := 109) rfl rfl rfl ?_
              refine zx_T.l (i := .iload 4) (k := 2) (v := .int (zI (zv_a h2 61 k))) (pc := 110) rfl rfl rfl ?_
              refine zx_T.s (i := .bipush 6) (k := 2) (st' := [.int (zI (6)), .int (zI (zv_a h2 61 k)), .ref 44, .int (zI (k)), .ref 69]) (pc := 112) rfl rfl ?_
              refine zr_i2 (x := zv_a h2 61 k) (y := 6) (t := 126) (pc := 114) rfl rfl (by omega) (by omega) (by omega) (by omega) (fun (c24 : ¬ (zv_a h2 61 k) = 6) => ?_) (fun (c24 : ¬ (¬ (zv_a h2 61 k) = 6)) => ?_)
              · refine zx_T.s (i := .iconst 0) (k := 1) (st' := [.int (zI (0)), .ref 44, .int (zI (k)), .ref 69]) (pc := 126) rfl rfl ?_
                have y25 : zv_i h19 38 = zv_i h2 38 := ((zv_wi w20 rfl).trans (zv_wi w7 rfl))
                refine zr_iv (cj := 205) (q' := zp_m205) (As := [.int (zI (0))]) (rest := [.int (zI (k)), .ref 69]) (pc := 127) rfl rfl rfl rfl rfl rfl (Nat.le_of_ble_eq_true rfl) rfl (Nat.le_of_ble_eq_true rfl) ih19 ((zm_thing (h := h19) ih19 (m := 0) (by omega) (by omega) (by omega)).up (Nat.le_of_ble_eq_true rfl)) ?_
                rintro r26 h29 ⟨ih29, w30, v27, r26q, x28⟩
                subst r26q
                try dsimp only at x28
                have th := x28
                show zx_T zp_P 1 zp_m206 130 [(4, .int (zI (zv_a h2 61 k))), (2, .long (zL (zv_b h 53 k))), (0, .ref 44), (1, .int (zI (k)))] [.int (zI (v27)), .int (zI (k)), .ref 69] h29 _
                refine zr_i2l (pc := 130) rfl (by omega) (by omega) ?_
                refine zr_ls (n := 14) (e := v27) (pc := 131) rfl rfl rfl ih29 (by omega) (by omega) (fun h31 ih31 w32 s33 => ?_)
                refine zr_inc (x := k) (n := 1) (y := k + 1) (ls' := [(1, .int (zI (k + 1))), (4, .int (zI (zv_a h2 61 k))), (2, .long (zL (zv_b h 53 k))), (0, .ref 44)]) (pc := 132) rfl rfl rfl (by omega) rfl ?_
                refine zx_T.j (i := .goto (-115)) (k := 3) (pc' := 20) (st' := []) (pc := 135) rfl rfl rfl rfl rfl ?_
                have y34 : zv_i h31 25 = zv_i h2 25 := ((zv_wi w32 rfl).trans ((zv_wi w30 rfl).trans ((zv_wi w20 rfl).trans (zv_wi w7 rfl))))
                have i38 : zv_i h31 38 = zv_i h29 38 := (zv_wi w32 rfl)
                have a61 : ∀ j, 0 ≤ j → zv_a h31 61 j = if j = k then zv_a h2 61 k else zv_a h2 61 j := fun j hj => by rw [zv_wa w32 rfl j, zv_wa w30 rfl j, s21 j hj, zv_wa w7 rfl j]
                have a71 : ∀ j, 0 ≤ j → zv_a h31 71 j = zv_a h29 71 j := fun j hj => by rw [zv_wa w32 rfl j]
                have b69 : ∀ j, 0 ≤ j → zv_b h31 69 j = if j = k then (zL (v27)).toInt else if j = k then (zL (zv_b h 53 k)).toInt else zv_b h2 69 j := fun j hj => by rw [s33 j hj, zv_wb w30 rfl j, zv_wb w20 rfl j, s8 j hj]
                have a71b : ∀ j, 0 ≤ j → zv_a h19 71 j = zv_a h2 71 j := fun j hj => by rw [zv_wa w20 rfl j, zv_wa w7 rfl j]
                refine zx_T.lk (ls' := [(0, .ref 44), (1, .int (zI (k + 1)))]) rfl ⟨rfl, rfl, trivial⟩ ?_
                exact ih (h2 := h31) (k := k + 1) ih31 (by omega) (by omega) (((((hw.wd rfl : zb_W [(44, 25), (61, 0), (69, 0), (44, 38), (71, 0), (72, 0)] h _).tr (w7.wd rfl)).tr (w20.wd rfl)).tr (w30.wd rfl)).tr (w32.wd rfl)) (by omega) (by omega) (zg_fis k1 vk (fun j j0 jn => by rw [a61 j j0]; first | done | (repeat rw [if_neg jn])) (fun j j0 jn => by rw [b69 j j0]; first | done | (repeat rw [if_neg jn])) (by omega) (fun j j0 j1 => by rw [a71 j j0, th.2.2 j j0, if_neg (by omega)]; exact a71b j j0) (fun z => by have q1 := a61 k k1; have q2 := b69 k k1; first | (exfalso; omega) | (simp only [if_true, ite_true] at q1 q2; first | (exfalso; omega) | (rw [zL_i (by omega) (by omega)] at q2; rw [q2]; exact ⟨by omega, by omega, fun z6 => by rw [a71 _ (by omega), th.2.2 _ (by omega), if_pos (by omega)]; omega⟩)))) (fun j j0 j1 => by rw [a61 j (by omega)]; first | exact nr j j0 j1 | (repeat rw [if_neg (by omega)]; exact nr j j0 j1)) (by omega)
              · refine zx_T.l (i := .lload_n 2) (k := 1) (v := .long (zL (zv_b h 53 k))) (pc := 117) rfl rfl rfl ?_
                refine zx_T.g (i := .ldc2_w 267) (k := 3) (st' := [.long 7, .long (zL (zv_b h 53 k)), .ref 44, .int (zI (k)), .ref 69]) (h' := h19) (pc := 118) rfl rfl rfl rfl rfl rfl ?_
                refine zr_and7 (pc := 121) rfl (fun z39 z39a z39b => ?_)
                refine zr_l2i (pc := 122) rfl ?_
                refine zx_T.j (i := .goto 4) (k := 3) (pc' := 127) (st' := [.int (zI (z39)), .ref 44, .int (zI (k)), .ref 69]) (pc := 123) rfl rfl rfl rfl rfl ?_
                have y40 : zv_i h19 38 = zv_i h2 38 := ((zv_wi w20 rfl).trans (zv_wi w7 rfl))
                refine zr_iv (cj := 205) (q' := zp_m205) (As := [.int (zI (z39))]) (rest := [.int (zI (k)), .ref 69]) (pc := 127) rfl rfl rfl rfl rfl rfl (Nat.le_of_ble_eq_true rfl) rfl (Nat.le_of_ble_eq_true rfl) ih19 ((zm_thing (h := h19) ih19 (m := z39) (by omega) (by omega) (by omega)).up (Nat.le_of_ble_eq_true rfl)) ?_
                rintro r41 h44 ⟨ih44, w45, v42, r41q, x43⟩
                subst r41q
                try dsimp only at x43
                have th := x43
                show zx_T zp_P 1 zp_m206 130 [(4, .int (zI (zv_a h2 61 k))), (2, .long (zL (zv_b h 53 k))), (0, .ref 44), (1, .int (zI (k)))] [.int (zI (v42)), .int (zI (k)), .ref 69] h44 _
                refine zr_i2l (pc := 130) rfl (by omega) (by omega) ?_
                refine zr_ls (n := 14) (e := v42) (pc := 131) rfl rfl rfl ih44 (by omega) (by omega) (fun h46 ih46 w47 s48 => ?_)
                refine zr_inc (x := k) (n := 1) (y := k + 1) (ls' := [(1, .int (zI (k + 1))), (4, .int (zI (zv_a h2 61 k))), (2, .long (zL (zv_b h 53 k))), (0, .ref 44)]) (pc := 132) rfl rfl rfl (by omega) rfl ?_
                refine zx_T.j (i := .goto (-115)) (k := 3) (pc' := 20) (st' := []) (pc := 135) rfl rfl rfl rfl rfl ?_
                have y49 : zv_i h46 25 = zv_i h2 25 := ((zv_wi w47 rfl).trans ((zv_wi w45 rfl).trans ((zv_wi w20 rfl).trans (zv_wi w7 rfl))))
                have i38 : zv_i h46 38 = zv_i h44 38 := (zv_wi w47 rfl)
                have a61 : ∀ j, 0 ≤ j → zv_a h46 61 j = if j = k then zv_a h2 61 k else zv_a h2 61 j := fun j hj => by rw [zv_wa w47 rfl j, zv_wa w45 rfl j, s21 j hj, zv_wa w7 rfl j]
                have a71 : ∀ j, 0 ≤ j → zv_a h46 71 j = zv_a h44 71 j := fun j hj => by rw [zv_wa w47 rfl j]
                have b69 : ∀ j, 0 ≤ j → zv_b h46 69 j = if j = k then (zL (v42)).toInt else if j = k then (zL (zv_b h 53 k)).toInt else zv_b h2 69 j := fun j hj => by rw [s48 j hj, zv_wb w45 rfl j, zv_wb w20 rfl j, s8 j hj]
                have a71b : ∀ j, 0 ≤ j → zv_a h19 71 j = zv_a h2 71 j := fun j hj => by rw [zv_wa w20 rfl j, zv_wa w7 rfl j]
                refine zx_T.lk (ls' := [(0, .ref 44), (1, .int (zI (k + 1)))]) rfl ⟨rfl, rfl, trivial⟩ ?_
                exact ih (h2 := h46) (k := k + 1) ih46 (by omega) (by omega) (((((hw.wd rfl : zb_W [(44, 25), (61, 0), (69, 0), (44, 38), (71, 0), (72, 0)] h _).tr (w7.wd rfl)).tr (w20.wd rfl)).tr (w45.wd rfl)).tr (w47.wd rfl)) (by omega) (by omega) (zg_fis k1 vk (fun j j0 jn => by rw [a61 j j0]; first | done | (repeat rw [if_neg jn])) (fun j j0 jn => by rw [b69 j j0]; first | done | (repeat rw [if_neg jn])) (by omega) (fun j j0 j1 => by rw [a71 j j0, th.2.2 j j0, if_neg (by omega)]; exact a71b j j0) (fun z => by have q1 := a61 k k1; have q2 := b69 k k1; first | (exfalso; omega) | (simp only [if_true, ite_true] at q1 q2; first | (exfalso; omega) | (rw [zL_i (by omega) (by omega)] at q2; rw [q2]; exact ⟨by omega, by omega, fun z6 => by rw [a71 _ (by omega), th.2.2 _ (by omega), if_pos (by omega)]; omega⟩)))) (fun j j0 j1 => by rw [a61 j (by omega)]; first | exact nr j j0 j1 | (repeat rw [if_neg (by omega)]; exact nr j j0 j1)) (by omega)
            · refine zx_T.s (i := .lconst 0) (k := 1) (st' := [.long (zL (0)), .int (zI (k)), .ref 69]) (pc := 105) rfl rfl ?_
              refine zx_T.j (i := .goto 25) (k := 3) (pc' := 131) (st' := [.long (zL (0)), .int (zI (k)), .ref 69]) (pc := 106) rfl rfl rfl rfl rfl ?_
              refine zr_ls (n := 14) (e := 0) (pc := 131) rfl rfl rfl ih19 (by omega) (by omega) (fun h54 ih54 w55 s56 => ?_)
              refine zr_inc (x := k) (n := 1) (y := k + 1) (ls' := [(1, .int (zI (k + 1))), (4, .int (zI (zv_a h2 61 k))), (2, .long (zL (zv_b h 53 k))), (0, .ref 44)]) (pc := 132) rfl rfl rfl (by omega) rfl ?_
              refine zx_T.j (i := .goto (-115)) (k := 3) (pc' := 20) (st' := []) (pc := 135) rfl rfl rfl rfl rfl ?_
              have y57 : zv_i h54 25 = zv_i h2 25 := ((zv_wi w55 rfl).trans ((zv_wi w20 rfl).trans (zv_wi w7 rfl)))
              have i38 : zv_i h54 38 = zv_i h2 38 := ((zv_wi w55 rfl).trans ((zv_wi w20 rfl).trans (zv_wi w7 rfl)))
              have a61 : ∀ j, 0 ≤ j → zv_a h54 61 j = if j = k then zv_a h2 61 k else zv_a h2 61 j := fun j hj => by rw [zv_wa w55 rfl j, s21 j hj, zv_wa w7 rfl j]
              have a71 : ∀ j, 0 ≤ j → zv_a h54 71 j = zv_a h2 71 j := fun j hj => by rw [zv_wa w55 rfl j, zv_wa w20 rfl j, zv_wa w7 rfl j]
              have b69 : ∀ j, 0 ≤ j → zv_b h54 69 j = if j = k then (zL (0)).toInt else if j = k then (zL (zv_b h 53 k)).toInt else zv_b h2 69 j := fun j hj => by rw [s56 j hj, zv_wb w20 rfl j, s8 j hj]
              refine zx_T.lk (ls' := [(0, .ref 44), (1, .int (zI (k + 1)))]) rfl ⟨rfl, rfl, trivial⟩ ?_
              exact ih (h2 := h54) (k := k + 1) ih54 (by omega) (by omega) ((((hw.wd rfl : zb_W [(44, 25), (61, 0), (69, 0), (44, 38), (71, 0), (72, 0)] h _).tr (w7.wd rfl)).tr (w20.wd rfl)).tr (w55.wd rfl)) (by omega) (by omega) (zg_fis k1 vk (fun j j0 jn => by rw [a61 j j0]; first | done | (repeat rw [if_neg jn])) (fun j j0 jn => by rw [b69 j j0]; first | done | (repeat rw [if_neg jn])) (by omega) (fun j j0 _ => a71 j j0) (fun z => by have q1 := a61 k k1; have q2 := b69 k k1; first | (exfalso; omega) | (simp only [if_true, ite_true] at q1 q2; first | (exfalso; omega) | (rw [zL_i (by omega) (by omega)] at q2; rw [q2]; exact ⟨by omega, by omega, fun z6 => by rw [a71 _ (by omega), th.2.2 _ (by omega), if_pos (by omega)]; omega⟩)))) (fun j j0 j1 => by rw [a61 j (by omega)]; first | exact nr j j0 j1 | (repeat rw [if_neg (by omega)]; exact nr j j0 j1)) (by omega)
          · refine zx_T.s (i := .iconst 4) (k := 1) (st' := [.int (zI (4)), .int (zI (k)), .ref 61]) (pc := 87) rfl rfl ?_
            refine zx_T.j (i := .goto 5) (k := 3) (pc' := 93) (st' := [.int (zI (4)), .int (zI (k)), .ref 61]) (pc := 88) rfl rfl rfl rfl rfl ?_
            refine zr_as (n := 14) (lo := 0) (hi := 8) (e := 4) (pc := 93) rfl rfl rfl rfl ih6 (by omega) (by omega) (by omega) (by omega) (fun h62 ih62 w63 s64 => ?_)
            refine zx_T.l (i := .aload_n 0) (k := 1) (v := .ref 44) (pc := 94) rfl rfl rfl ?_
            refine zr_gr (k := 36) (b := 69) (pc := 95) rfl rfl rfl ih62 ?_
            refine zx_T.l (i := .iload_n 1) (k := 1) (v := .int (zI (k))) (pc := 98) rfl rfl rfl ?_
            refine zx_T.l (i := .lload_n 2) (k := 1) (v := .long (zL (zv_b h 53 k))) (pc := 99) rfl rfl rfl ?_
            refine zx_T.s (i := .lconst 0) (k := 1) (st' := [.long (zL (0)), .long (zL (zv_b h 53 k)), .int (zI (k)), .ref 69]) (pc := 100) rfl rfl ?_
            refine zr_lcmp (pc := 101) rfl (by omega) (by omega) (by omega) (by omega) (fun z65 z65a => ?_)
            refine zr_i1 (x := z65) (t := 109) (pc := 102) rfl rfl (by omega) (by omega) (fun (c66 : 0 ≤ z65) => ?_) (fun (c66 : ¬ (0 ≤ z65)) => ?_)
            · refine zx_T.l (i := .aload_n 0) (k := 1) (v := .ref 44) (pc := 109) rfl rfl rfl ?_
              refine zx_T.l (i := .iload 4) (k := 2) (v := .int (zI (zv_a h2 61 k))) (pc := 110) rfl rfl rfl ?_
              refine zx_T.s (i := .bipush 6) (k := 2) (st' := [.int (zI (6)), .int (zI (zv_a h2 61 k)), .ref 44, .int (zI (k)), .ref 69]) (pc := 112) rfl rfl ?_
              refine zr_i2 (x := zv_a h2 61 k) (y := 6) (t := 126) (pc := 114) rfl rfl (by omega) (by omega) (by omega) (by omega) (fun (c67 : ¬ (zv_a h2 61 k) = 6) => ?_) (fun (c67 : ¬ (¬ (zv_a h2 61 k) = 6)) => ?_)
              · refine zx_T.s (i := .iconst 0) (k := 1) (st' := [.int (zI (0)), .ref 44, .int (zI (k)), .ref 69]) (pc := 126) rfl rfl ?_
                have y68 : zv_i h62 38 = zv_i h2 38 := ((zv_wi w63 rfl).trans (zv_wi w7 rfl))
                refine zr_iv (cj := 205) (q' := zp_m205) (As := [.int (zI (0))]) (rest := [.int (zI (k)), .ref 69]) (pc := 127) rfl rfl rfl rfl rfl rfl (Nat.le_of_ble_eq_true rfl) rfl (Nat.le_of_ble_eq_true rfl) ih62 ((zm_thing (h := h62) ih62 (m := 0) (by omega) (by omega) (by omega)).up (Nat.le_of_ble_eq_true rfl)) ?_
                rintro r69 h72 ⟨ih72, w73, v70, r69q, x71⟩
                subst r69q
                try dsimp only at x71
                have th := x71
                show zx_T zp_P 1 zp_m206 130 [(4, .int (zI (zv_a h2 61 k))), (2, .long (zL (zv_b h 53 k))), (0, .ref 44), (1, .int (zI (k)))] [.int (zI (v70)), .int (zI (k)), .ref 69] h72 _
                refine zr_i2l (pc := 130) rfl (by omega) (by omega) ?_
                refine zr_ls (n := 14) (e := v70) (pc := 131) rfl rfl rfl ih72 (by omega) (by omega) (fun h74 ih74 w75 s76 => ?_)
                refine zr_inc (x := k) (n := 1) (y := k + 1) (ls' := [(1, .int (zI (k + 1))), (4, .int (zI (zv_a h2 61 k))), (2, .long (zL (zv_b h 53 k))), (0, .ref 44)]) (pc := 132) rfl rfl rfl (by omega) rfl ?_
                refine zx_T.j (i := .goto (-115)) (k := 3) (pc' := 20) (st' := []) (pc := 135) rfl rfl rfl rfl rfl ?_
                have y77 : zv_i h74 25 = zv_i h2 25 := ((zv_wi w75 rfl).trans ((zv_wi w73 rfl).trans ((zv_wi w63 rfl).trans (zv_wi w7 rfl))))
                have i38 : zv_i h74 38 = zv_i h72 38 := (zv_wi w75 rfl)
                have a61 : ∀ j, 0 ≤ j → zv_a h74 61 j = if j = k then 4 else zv_a h2 61 j := fun j hj => by rw [zv_wa w75 rfl j, zv_wa w73 rfl j, s64 j hj, zv_wa w7 rfl j]
                have a71 : ∀ j, 0 ≤ j → zv_a h74 71 j = zv_a h72 71 j := fun j hj => by rw [zv_wa w75 rfl j]
                have b69 : ∀ j, 0 ≤ j → zv_b h74 69 j = if j = k then (zL (v70)).toInt else if j = k then (zL (zv_b h 53 k)).toInt else zv_b h2 69 j := fun j hj => by rw [s76 j hj, zv_wb w73 rfl j, zv_wb w63 rfl j, s8 j hj]
                have a71b : ∀ j, 0 ≤ j → zv_a h62 71 j = zv_a h2 71 j := fun j hj => by rw [zv_wa w63 rfl j, zv_wa w7 rfl j]
                refine zx_T.lk (ls' := [(0, .ref 44), (1, .int (zI (k + 1)))]) rfl ⟨rfl, rfl, trivial⟩ ?_
                exact ih (h2 := h74) (k := k + 1) ih74 (by omega) (by omega) (((((hw.wd rfl : zb_W [(44, 25), (61, 0), (69, 0), (44, 38), (71, 0), (72, 0)] h _).tr (w7.wd rfl)).tr (w63.wd rfl)).tr (w73.wd rfl)).tr (w75.wd rfl)) (by omega) (by omega) (zg_fis k1 vk (fun j j0 jn => by rw [a61 j j0]; first | done | (repeat rw [if_neg jn])) (fun j j0 jn => by rw [b69 j j0]; first | done | (repeat rw [if_neg jn])) (by omega) (fun j j0 j1 => by rw [a71 j j0, th.2.2 j j0, if_neg (by omega)]; exact a71b j j0) (fun z => by have q1 := a61 k k1; have q2 := b69 k k1; first | (exfalso; omega) | (simp only [if_true, ite_true] at q1 q2; first | (exfalso; omega) | (rw [zL_i (by omega) (by omega)] at q2; rw [q2]; exact ⟨by omega, by omega, fun z6 => by rw [a71 _ (by omega), th.2.2 _ (by omega), if_pos (by omega)]; omega⟩)))) (fun j j0 j1 => by rw [a61 j (by omega)]; first | exact nr j j0 j1 | (repeat rw [if_neg (by omega)]; exact nr j j0 j1)) (by omega)
              · refine zx_T.l (i := .lload_n 2) (k := 1) (v := .long (zL (zv_b h 53 k))) (pc := 117) rfl rfl rfl ?_
                refine zx_T.g (i := .ldc2_w 267) (k := 3) (st' := [.long 7, .long (zL (zv_b h 53 k)), .ref 44, .int (zI (k)), .ref 69]) (h' := h62) (pc := 118) rfl rfl rfl rfl rfl rfl ?_
                refine zr_and7 (pc := 121) rfl (fun z82 z82a z82b => ?_)
                refine zr_l2i (pc := 122) rfl ?_
                refine zx_T.j (i := .goto 4) (k := 3) (pc' := 127) (st' := [.int (zI (z82)), .ref 44, .int (zI (k)), .ref 69]) (pc := 123) rfl rfl rfl rfl rfl ?_
                have y83 : zv_i h62 38 = zv_i h2 38 := ((zv_wi w63 rfl).trans (zv_wi w7 rfl))
                refine zr_iv (cj := 205) (q' := zp_m205) (As := [.int (zI (z82))]) (rest := [.int (zI (k)), .ref 69]) (pc := 127) rfl rfl rfl rfl rfl rfl (Nat.le_of_ble_eq_true rfl) rfl (Nat.le_of_ble_eq_true rfl) ih62 ((zm_thing (h := h62) ih62 (m := z82) (by omega) (by omega) (by omega)).up (Nat.le_of_ble_eq_true rfl)) ?_
                rintro r84 h87 ⟨ih87, w88, v85, r84q, x86⟩
                subst r84q
                try dsimp only at x86
                have th := x86
                show zx_T zp_P 1 zp_m206 130 [(4, .int (zI (zv_a h2 61 k))), (2, .long (zL (zv_b h 53 k))), (0, .ref 44), (1, .int (zI (k)))] [.int (zI (v85)), .int (zI (k)), .ref 69] h87 _
                refine zr_i2l (pc := 130) rfl (by omega) (by omega) ?_
                refine zr_ls (n := 14) (e := v85) (pc := 131) rfl rfl rfl ih87 (by omega) (by omega) (fun h89 ih89 w90 s91 => ?_)
                refine zr_inc (x := k) (n := 1) (y := k + 1) (ls' := [(1, .int (zI (k + 1))), (4, .int (zI (zv_a h2 61 k))), (2, .long (zL (zv_b h 53 k))), (0, .ref 44)]) (pc := 132) rfl rfl rfl (by omega) rfl ?_
                refine zx_T.j (i := .goto (-115)) (k := 3) (pc' := 20) (st' := []) (pc := 135) rfl rfl rfl rfl rfl ?_
                have y92 : zv_i h89 25 = zv_i h2 25 := ((zv_wi w90 rfl).trans ((zv_wi w88 rfl).trans ((zv_wi w63 rfl).trans (zv_wi w7 rfl))))
                have i38 : zv_i h89 38 = zv_i h87 38 := (zv_wi w90 rfl)
                have a61 : ∀ j, 0 ≤ j → zv_a h89 61 j = if j = k then 4 else zv_a h2 61 j := fun j hj => by rw [zv_wa w90 rfl j, zv_wa w88 rfl j, s64 j hj, zv_wa w7 rfl j]
                have a71 : ∀ j, 0 ≤ j → zv_a h89 71 j = zv_a h87 71 j := fun j hj => by rw [zv_wa w90 rfl j]
                have b69 : ∀ j, 0 ≤ j → zv_b h89 69 j = if j = k then (zL (v85)).toInt else if j = k then (zL (zv_b h 53 k)).toInt else zv_b h2 69 j := fun j hj => by rw [s91 j hj, zv_wb w88 rfl j, zv_wb w63 rfl j, s8 j hj]
                have a71b : ∀ j, 0 ≤ j → zv_a h62 71 j = zv_a h2 71 j := fun j hj => by rw [zv_wa w63 rfl j, zv_wa w7 rfl j]
                refine zx_T.lk (ls' := [(0, .ref 44), (1, .int (zI (k + 1)))]) rfl ⟨rfl, rfl, trivial⟩ ?_
                exact ih (h2 := h89) (k := k + 1) ih89 (by omega) (by omega) (((((hw.wd rfl : zb_W [(44, 25), (61, 0), (69, 0), (44, 38), (71, 0), (72, 0)] h _).tr (w7.wd rfl)).tr (w63.wd rfl)).tr (w88.wd rfl)).tr (w90.wd rfl)) (by omega) (by omega) (zg_fis k1 vk (fun j j0 jn => by rw [a61 j j0]; first | done | (repeat rw [if_neg jn])) (fun j j0 jn => by rw [b69 j j0]; first | done | (repeat rw [if_neg jn])) (by omega) (fun j j0 j1 => by rw [a71 j j0, th.2.2 j j0, if_neg (by omega)]; exact a71b j j0) (fun z => by have q1 := a61 k k1; have q2 := b69 k k1; first | (exfalso; omega) | (simp only [if_true, ite_true] at q1 q2; first | (exfalso; omega) | (rw [zL_i (by omega) (by omega)] at q2; rw [q2]; exact ⟨by omega, by omega, fun z6 => by rw [a71 _ (by omega), th.2.2 _ (by omega), if_pos (by omega)]; omega⟩)))) (fun j j0 j1 => by rw [a61 j (by omega)]; first | exact nr j j0 j1 | (repeat rw [if_neg (by omega)]; exact nr j j0 j1)) (by omega)
            · refine zx_T.s (i := .lconst 0) (k := 1) (st' := [.long (zL (0)), .int (zI (k)), .ref 69]) (pc := 105) rfl rfl ?_
              refine zx_T.j (i := .goto 25) (k := 3) (pc' := 131) (st' := [.long (zL (0)), .int (zI (k)), .ref 69]) (pc := 106) rfl rfl rfl rfl rfl ?_
              refine zr_ls (n := 14) (e := 0) (pc := 131) rfl rfl rfl ih62 (by omega) (by omega) (fun h97 ih97 w98 s99 => ?_)
              refine zr_inc (x := k) (n := 1) (y := k + 1) (ls' := [(1, .int (zI (k + 1))), (4, .int (zI (zv_a h2 61 k))), (2, .long (zL (zv_b h 53 k))), (0, .ref 44)]) (pc := 132) rfl rfl rfl (by omega) rfl ?_
              refine zx_T.j (i := .goto (-115)) (k := 3) (pc' := 20) (st' := []) (pc := 135) rfl rfl rfl rfl rfl ?_
              have y100 : zv_i h97 25 = zv_i h2 25 := ((zv_wi w98 rfl).trans ((zv_wi w63 rfl).trans (zv_wi w7 rfl)))
              have i38 : zv_i h97 38 = zv_i h2 38 := ((zv_wi w98 rfl).trans ((zv_wi w63 rfl).trans (zv_wi w7 rfl)))
              have a61 : ∀ j, 0 ≤ j → zv_a h97 61 j = if j = k then 4 else zv_a h2 61 j := fun j hj => by rw [zv_wa w98 rfl j, s64 j hj, zv_wa w7 rfl j]
              have a71 : ∀ j, 0 ≤ j → zv_a h97 71 j = zv_a h2 71 j := fun j hj => by rw [zv_wa w98 rfl j, zv_wa w63 rfl j, zv_wa w7 rfl j]
              have b69 : ∀ j, 0 ≤ j → zv_b h97 69 j = if j = k then (zL (0)).toInt else if j = k then (zL (zv_b h 53 k)).toInt else zv_b h2 69 j := fun j hj => by rw [s99 j hj, zv_wb w63 rfl j, s8 j hj]
              refine zx_T.lk (ls' := [(0, .ref 44), (1, .int (zI (k + 1)))]) rfl ⟨rfl, rfl, trivial⟩ ?_
              exact ih (h2 := h97) (k := k + 1) ih97 (by omega) (by omega) ((((hw.wd rfl : zb_W [(44, 25), (61, 0), (69, 0), (44, 38), (71, 0), (72, 0)] h _).tr (w7.wd rfl)).tr (w63.wd rfl)).tr (w98.wd rfl)) (by omega) (by omega) (zg_fis k1 vk (fun j j0 jn => by rw [a61 j j0]; first | done | (repeat rw [if_neg jn])) (fun j j0 jn => by rw [b69 j j0]; first | done | (repeat rw [if_neg jn])) (by omega) (fun j j0 _ => a71 j j0) (fun z => by have q1 := a61 k k1; have q2 := b69 k k1; first | (exfalso; omega) | (simp only [if_true, ite_true] at q1 q2; first | (exfalso; omega) | (rw [zL_i (by omega) (by omega)] at q2; rw [q2]; exact ⟨by omega, by omega, fun z6 => by rw [a71 _ (by omega), th.2.2 _ (by omega), if_pos (by omega)]; omega⟩)))) (fun j j0 j1 => by rw [a61 j (by omega)]; first | exact nr j j0 j1 | (repeat rw [if_neg (by omega)]; exact nr j j0 j1)) (by omega)
      · refine zx_T.l (i := .lload_n 2) (k := 1) (v := .long (zL (zv_b h 53 k))) (pc := 50) rfl rfl rfl ?_
        refine zr_l2i (pc := 51) rfl ?_
        refine zr_any (fun z105 z105a z105b => ?_)
        refine zr_i2l (pc := 52) rfl (by omega) (by omega) ?_
        refine zx_T.j (i := .goto 4) (k := 3) (pc' := 57) (st' := [.long (zL (z105)), .int (zI (k)), .ref 69]) (pc := 53) rfl rfl rfl rfl rfl ?_
        refine zr_ls (n := 14) (e := z105) (pc := 57) rfl rfl rfl hI2 (by omega) (by omega) (fun h106 ih106 w107 s108 => ?_)
        refine zx_T.l (i := .aload_n 0) (k := 1) (v := .ref 44) (pc := 58) rfl rfl rfl ?_
        refine zr_gr (k := 24) (b := 61) (pc := 59) rfl rfl rfl ih106 ?_
        refine zx_T.l (i := .iload_n 1) (k := 1) (v := .int (zI (k))) (pc := 62) rfl rfl rfl ?_
        refine zr_al (n := 14) (lo := 0) (hi := 8) (e := zv_a h2 61 k) (pc := 63) rfl rfl rfl ih106 (by omega) (by omega) (zv_wa w107 rfl k) (fun g109a g109b => ?_)
        refine zx_T.s (i := .iconst 5) (k := 1) (st' := [.int (zI (5)), .int (zI (zv_a h2 61 k))]) (pc := 64) rfl rfl ?_
        refine zr_i2 (x := zv_a h2 61 k) (y := 5) (t := 132) (pc := 65) rfl rfl (by omega) (by omega) (by omega) (by omega) (fun (c110 : (zv_a h2 61 k) < 5) => ?_) (fun (c110 : ¬ ((zv_a h2 61 k) < 5)) => False.elim (by omega))
        refine zr_inc (x := k) (n := 1) (y := k + 1) (ls' := [(1, .int (zI (k + 1))), (2, .long (zL (zv_b h 53 k))), (0, .ref 44)]) (pc := 132) rfl rfl rfl (by omega) rfl ?_
        refine zx_T.j (i := .goto (-115)) (k := 3) (pc' := 20) (st' := []) (pc := 135) rfl rfl rfl rfl rfl ?_
        have y111 : zv_i h106 25 = zv_i h2 25 := (zv_wi w107 rfl)
        have i38 : zv_i h106 38 = zv_i h2 38 := (zv_wi w107 rfl)
        have a61 : ∀ j, 0 ≤ j → zv_a h106 61 j = zv_a h2 61 j := fun j hj => by rw [zv_wa w107 rfl j]
        have a71 : ∀ j, 0 ≤ j → zv_a h106 71 j = zv_a h2 71 j := fun j hj => by rw [zv_wa w107 rfl j]
        have b69 : ∀ j, 0 ≤ j → zv_b h106 69 j = if j = k then (zL (z105)).toInt else zv_b h2 69 j := fun j hj => by rw [s108 j hj]
        refine zx_T.lk (ls' := [(0, .ref 44), (1, .int (zI (k + 1)))]) rfl ⟨rfl, rfl, trivial⟩ ?_
        exact ih (h2 := h106) (k := k + 1) ih106 (by omega) (by omega) ((hw.wd rfl : zb_W [(44, 25), (61, 0), (69, 0), (44, 38), (71, 0), (72, 0)] h _).tr (w107.wd rfl)) (by omega) (by omega) (zg_fis k1 vk (fun j j0 jn => by rw [a61 j j0]; first | done | (repeat rw [if_neg jn])) (fun j j0 jn => by rw [b69 j j0]; first | done | (repeat rw [if_neg jn])) (by omega) (fun j j0 _ => a71 j j0) (fun z => by have q1 := a61 k k1; have q2 := b69 k k1; first | (exfalso; omega) | (simp only [if_true, ite_true] at q1 q2; first | (exfalso; omega) | (rw [zL_i (by omega) (by omega)] at q2; rw [q2]; exact ⟨by omega, by omega, fun z6 => by rw [a71 _ (by omega), th.2.2 _ (by omega), if_pos (by omega)]; omega⟩)))) (fun j j0 j1 => by rw [a61 j (by omega)]; first | exact nr j j0 j1 | (repeat rw [if_neg (by omega)]; exact nr j j0 j1)) (by omega)
set_option maxRecDepth 100000 in
set_option maxHeartbeats 4000000 in
theorem zm_fill {h : zx_H} (hI : zb_I zc_H h)   : zx_T zp_P 1 zp_m206 0 [(0, .ref 44)] [] h (zr_V [(44, 25), (61, 0), (69, 0), (44, 38), (71, 0), (72, 0)] h (fun h' => zv_i h' 25 = 0 ∧ zv_i h' 38 ≤ 8 ∧ zg_VI h' ∧ ¬ zv_a h' 61 8 = 3)) := by
  have hP := zv_ri hI (k := 10) rfl
  refine zx_T.l (i := .aload_n 0) (k := 1) (v := .ref 44) (pc := 0) rfl rfl rfl ?_
  refine zx_T.l (i := .aload_n 0) (k := 1) (v := .ref 44) (pc := 1) rfl rfl rfl ?_
  refine zr_gr (k := 24) (b := 61) (pc := 2) rfl rfl rfl hI ?_
  refine zr_iv (cj := 172) (q' := zp_m172) (As := [.ref 61]) (rest := []) (pc := 5) rfl rfl rfl rfl rfl rfl (Nat.le_of_ble_eq_true rfl) rfl (Nat.le_of_ble_eq_true rfl) hI ((zm_begin_61 (h := h) hI  ).up (Nat.le_of_ble_eq_true rfl)) ?_
  rintro r116 h119 ⟨ih119, w120, r116q, x118⟩
  subst r116q
  try dsimp only at x118
  have bj := x118
  show zx_T zp_P 1 zp_m206 8 [(0, .ref 44)] [] h119 _
  refine zx_T.l (i := .aload_n 0) (k := 1) (v := .ref 44) (pc := 8) rfl rfl rfl ?_
  refine zx_T.s (i := .iconst 0) (k := 1) (st' := [.int (zI (0)), .ref 44]) (pc := 9) rfl rfl ?_
  refine zr_pi (k := 25) (lo := 0) (hi := 6) (e := 0) (pc := 10) rfl rfl rfl rfl rfl rfl ih119 (by omega) (by omega) (fun h121 ih121 w122 e123 => ?_)
  refine zx_T.l (i := .aload_n 0) (k := 1) (v := .ref 44) (pc := 13) rfl rfl rfl ?_
  refine zx_T.s (i := .iconst 0) (k := 1) (st' := [.int (zI (0)), .ref 44]) (pc := 14) rfl rfl ?_
  refine zr_pi (k := 38) (lo := 0) (hi := 400) (e := 0) (pc := 15) rfl rfl rfl rfl rfl rfl ih121 (by omega) (by omega) (fun h124 ih124 w125 e126 => ?_)
  refine zx_T.s (i := .iconst 0) (k := 1) (st' := [.int (zI (0))]) (pc := 18) rfl rfl ?_
  refine zx_T.t (i := .istore_n 1) (k := 1) (ls' := [(1, .int (zI (0))), (0, .ref 44)]) (st' := []) (pc := 19) rfl rfl rfl rfl ?_
  have y127 : zv_i h124 25 = 0 := ((zv_wi w125 rfl).trans e123)
  have i38 : zv_i h124 38 = 0 := e126
  have a61 : ∀ j, 0 ≤ j → zv_a h124 61 j = zv_a h119 61 j := fun j hj => by rw [zv_wa w125 rfl j, zv_wa w122 rfl j]
  have a71 : ∀ j, 0 ≤ j → zv_a h124 71 j = zv_a h 71 j := fun j hj => by rw [zv_wa w125 rfl j, zv_wa w122 rfl j, zv_wa w120 rfl j]
  have b69 : ∀ j, 0 ≤ j → zv_b h124 69 j = zv_b h 69 j := fun j hj => by rw [zv_wb w125 rfl j, zv_wb w122 rfl j, zv_wb w120 rfl j]
  refine zx_T.lk (ls' := [(0, .ref 44), (1, .int (zI (0)))]) rfl ⟨rfl, rfl, trivial⟩ ?_
  exact zm_fill_L (h := h) hI   ((14 - 0 : Int).toNat + 1) (h2 := h124) (k := 0) ih124 (by omega) (by omega) (((w120.wd rfl : zb_W [(44, 25), (61, 0), (69, 0), (44, 38), (71, 0), (72, 0)] h _).tr (w122.wd rfl)).tr (w125.wd rfl)) (by omega) (by omega) (fun j j0 j1 => absurd j1 (by omega)) (fun j j0 j1 => by have b1 := bj j (by omega) j1; rw [a61 j (by omega)]; exact b1.1 (by omega)) (Nat.lt_succ_self _)

set_option maxRecDepth 100000 in
set_option maxHeartbeats 4000000 in
theorem zm_run_L {h : zx_H} (hI : zb_I zc_H h) {m : Int} (m1 : -2147483648 ≤ m) (m2 : m ≤ 2147483647) (hc : zg_CI h) (r8 : 0 ≤ zv_i h 41) (n : Nat) : (∀ {h2 : zx_H} {p : Int} (hI2 : zb_I zc_H h2) (m1b : 0 ≤ m) (m2b : m ≤ 300) (hw : zb_W [(44, 0), (44, 44), (44, 45), (44, 46), (44, 48), (44, 47), (70, 0), (44, 26), (44, 25), (61, 0), (69, 0), (44, 50), (44, 14), (44, 42), (44, 43), (44, 49), (44, 41), (44, 38), (71, 0), (72, 0)] h h2) (pp : zv_i h2 42 = 0 → 0 ≤ p ∧ p < zv_i h 1) (pr : (-1) ≤ p ∧ p ≤ 59) (ns : ¬ zv_a h2 61 8 = 3) (pi : zg_PI h2) (s1 : 0 ≤ zv_i h2 48) (s2 : zv_i h2 48 ≤ m) (tt : zv_i h2 38 ≤ 8 + zv_i h2 48) (ff : 0 ≤ zv_i h2 41 ∧ zv_i h2 41 ≤ 1000 + zv_i h2 48), (2 * (m - zv_i h2 48) + 1 - zv_i h2 42 : Int).toNat < n → zx_T zp_P 8 zp_m217 94 [(0, .ref 44), (1, .int (zI (m))), (2, .int (zI (p)))] [] h2 (zr_R [(44, 0), (44, 44), (44, 45), (44, 46), (44, 48), (44, 47), (70, 0), (44, 26), (44, 25), (61, 0), (69, 0), (44, 50), (44, 14), (44, 42), (44, 43), (44, 49), (44, 41), (44, 38), (71, 0), (72, 0)] h (fun e h' => 0 ≤ zv_i h' 41))) := by
  induction n with
  | zero => exact fun _ _ _ _ _ _ _ _ _ _ _ _ hm => absurd hm (Nat.not_lt_zero _)
  | succ n ih =>
    intro h2 p hI2 m1b m2b hw pp pr ns pi s1 s2 tt ff hm
    have hC := zv_ri hI (k := 1) rfl
    have hX := zv_ri hI2 (k := 42) rfl
    refine zx_T.l (i := .aload_n 0) (k := 1) (v := .ref 44) (pc := 94) rfl rfl rfl ?_
    refine zr_gi (k := 42) (lo := 0) (hi := 1) (e := zv_i h2 42) (pc := 95) rfl rfl rfl hI2 rfl (fun g1a g1b => ?_)
    refine zr_i1 (x := zv_i h2 42) (t := 145) (pc := 98) rfl rfl (by omega) (by omega) (fun (c2 : ¬ (zv_i h2 42) = 0) => ?_) (fun (c2 : ¬ (¬ (zv_i h2 42) = 0)) => ?_)
    · refine zx_T.l (i := .aload_n 0) (k := 1) (v := .ref 44) (pc := 145) rfl rfl rfl ?_
      refine zr_gi (k := 43) (lo := (-2147483648)) (hi := 2147483647) (e := zv_i h2 43) (pc := 146) rfl rfl rfl hI2 rfl (fun g3a g3b => ?_)
      refine zr_i1 (x := zv_i h2 43) (t := 256) (pc := 149) rfl rfl (by omega) (by omega) (fun (c4 : ¬ (zv_i h2 43) = 0) => ?_) (fun (c4 : ¬ (¬ (zv_i h2 43) = 0)) => ?_)
      · refine zx_T.l (i := .aload_n 0) (k := 1) (v := .ref 44) (pc := 256) rfl rfl rfl ?_
        refine zr_gi (k := 43) (lo := (-2147483648)) (hi := 2147483647) (e := zv_i h2 43) (pc := 257) rfl rfl rfl hI2 rfl (fun g5a g5b => ?_)
        exact zr_ir (x := zv_i h2 43) (pc := 260) rfl rfl rfl ⟨hI2, (hw.wd rfl : zb_W [(44, 0), (44, 44), (44, 45), (44, 46), (44, 48), (44, 47), (70, 0), (44, 26), (44, 25), (61, 0), (69, 0), (44, 50), (44, 14), (44, 42), (44, 43), (44, 49), (44, 41), (44, 38), (71, 0), (72, 0)] h _), _, rfl, by dsimp only; omega⟩
      · refine zx_T.l (i := .aload_n 0) (k := 1) (v := .ref 44) (pc := 152) rfl rfl rfl ?_
        refine zr_gi (k := 25) (lo := 0) (hi := 6) (e := zv_i h2 25) (pc := 153) rfl rfl rfl hI2 rfl (fun g7a g7b => ?_)
        refine zr_i1 (x := zv_i h2 25) (t := 256) (pc := 156) rfl rfl (by omega) (by omega) (fun (c8 : (zv_i h2 25) ≤ 0) => ?_) (fun (c8 : ¬ ((zv_i h2 25) ≤ 0)) => ?_)
        · refine zx_T.l (i := .aload_n 0) (k := 1) (v := .ref 44) (pc := 256) rfl rfl rfl ?_
          refine zr_gi (k := 43) (lo := (-2147483648)) (hi := 2147483647) (e := zv_i h2 43) (pc := 257) rfl rfl rfl hI2 rfl (fun g9a g9b => ?_)
          exact zr_ir (x := zv_i h2 43) (pc := 260) rfl rfl rfl ⟨hI2, (hw.wd rfl : zb_W [(44, 0), (44, 44), (44, 45), (44, 46), (44, 48), (44, 47), (70, 0), (44, 26), (44, 25), (61, 0), (69, 0), (44, 50), (44, 14), (44, 42), (44, 43), (44, 49), (44, 41), (44, 38), (71, 0), (72, 0)] h _), _, rfl, by dsimp only; omega⟩
        · refine zx_T.l (i := .aload_n 0) (k := 1) (v := .ref 44) (pc := 159) rfl rfl rfl ?_
          refine zr_iv (cj := 160) (q' := zp_m160) (As := []) (rest := []) (pc := 160) rfl rfl rfl rfl rfl rfl (Nat.le_of_ble_eq_true rfl) rfl (Nat.le_of_ble_eq_true rfl) hI2 ((zm_top (h := h2) hI2  ).up (Nat.le_of_ble_eq_true rfl)) ?_
          rintro r11 h14 ⟨h14q, v12, r11q, x13⟩
          subst h14q r11q
          try dsimp only at x13
          show zx_T zp_P 8 zp_m217 163 [(0, .ref 44), (1, .int (zI (m))), (2, .int (zI (p)))] [.int (zI (v12))] h2 _
          refine zx_T.s (i := .iconst 3) (k := 1) (st' := [.int (zI (3)), .int (zI (v12))]) (pc := 163) rfl rfl ?_
          refine zr_i2 (x := v12) (y := 3) (t := 171) (pc := 164) rfl rfl (by omega) (by omega) (by omega) (by omega) (fun (c15 : ¬ v12 = 3) => ?_) (fun (c15 : ¬ (¬ v12 = 3)) => ?_)
          · refine zx_T.s (i := .iconst 0) (k := 1) (st' := [.int (zI (0))]) (pc := 171) rfl rfl ?_
            refine zx_T.t (i := .istore_n 3) (k := 1) (ls' := [(3, .int (zI (0))), (0, .ref 44), (1, .int (zI (m))), (2, .int (zI (p)))]) (st' := []) (pc := 172) rfl rfl rfl rfl ?_
            refine zx_T.l (i := .aload_n 0) (k := 1) (v := .ref 44) (pc := 173) rfl rfl rfl ?_
            refine zx_T.l (i := .iload_n 3) (k := 1) (v := .int (zI (0))) (pc := 174) rfl rfl rfl ?_
            refine zr_i1 (x := 0) (t := 182) (pc := 175) rfl rfl (by omega) (by omega) (fun _ => ?_) (fun (c16 : ¬ (0 = 0)) => absurd (by decide) c16)
            refine zx_T.l (i := .aload_n 0) (k := 1) (v := .ref 44) (pc := 182) rfl rfl rfl ?_
            refine zr_iv (cj := 160) (q' := zp_m160) (As := []) (rest := [.ref 44]) (pc := 183) rfl rfl rfl rfl rfl rfl (Nat.le_of_ble_eq_true rfl) rfl (Nat.le_of_ble_eq_true rfl) hI2 ((zm_top (h := h2) hI2  ).up (Nat.le_of_ble_eq_true rfl)) ?_
            rintro r17 h20 ⟨h20q, v18, r17q, x19⟩
            subst h20q r17q
            try dsimp only at x19
            show zx_T zp_P 8 zp_m217 186 [(3, .int (zI (0))), (0, .ref 44), (1, .int (zI (m))), (2, .int (zI (p)))] [.int (zI (v18)), .ref 44] h2 _
            refine zr_pi (k := 45) (lo := (-2147483648)) (hi := 2147483647) (e := v18) (pc := 186) rfl rfl rfl rfl rfl rfl hI2 (by omega) (by omega) (fun h21 ih21 w22 e23 => ?_)
            refine zx_T.l (i := .aload_n 0) (k := 1) (v := .ref 44) (pc := 189) rfl rfl rfl ?_
            refine zr_gr (k := 36) (b := 69) (pc := 190) rfl rfl rfl ih21 ?_
            refine zx_T.s (i := .bipush 8) (k := 2) (st' := [.int (zI (8)), .ref 69]) (pc := 193) rfl rfl ?_
            refine zx_T.l (i := .aload_n 0) (k := 1) (v := .ref 44) (pc := 195) rfl rfl rfl ?_
            refine zr_gi (k := 25) (lo := 0) (hi := 6) (e := zv_i h2 25) (pc := 196) rfl rfl rfl ih21 (zv_wi w22 rfl) (fun g24a g24b => ?_)
            refine zr_add (x := 8) (y := zv_i h2 25) (e := zv_i h2 25 + 8) (pc := 199) rfl (by omega) ?_
            refine zx_T.l (i := .iload_n 3) (k := 1) (v := .int (zI (0))) (pc := 200) rfl rfl rfl ?_
            refine zr_i1 (x := 0) (t := 208) (pc := 201) rfl rfl (by omega) (by omega) (fun _ => ?_) (fun (c25 : ¬ (0 = 0)) => absurd (by decide) c25)
            refine zx_T.s (i := .iconst 1) (k := 1) (st' := [.int (zI (1)), .int (zI (zv_i h2 25 + 8)), .ref 69]) (pc := 208) rfl rfl ?_
            refine zr_sub (x := zv_i h2 25 + 8) (y := 1) (e := zv_i h2 25 + 7) (pc := 209) rfl (by omega) ?_
            have g26 := zv_rb (h := h21) 69 (zv_i h2 25 + 7)
            refine zr_ll (n := 14) (e := zv_b h2 69 (zv_i h2 25 + 7)) (pc := 210) rfl rfl rfl ih21 (by omega) (by omega) (zv_wb w22 rfl (zv_i h2 25 + 7)) ?_
            rw [show zv_b h21 69 (zv_i h2 25 + 7) = zv_b h2 69 (zv_i h2 25 + 7) from (zv_wb w22 rfl (zv_i h2 25 + 7))] at g26
            refine zx_T.t (i := .lstore 4) (k := 2) (ls' := [(4, .long (zL (zv_b h2 69 (zv_i h2 25 + 7)))), (3, .int (zI (0))), (0, .ref 44), (1, .int (zI (m))), (2, .int (zI (p)))]) (st' := []) (pc := 211) rfl rfl rfl rfl ?_
            refine zx_T.l (i := .aload_n 0) (k := 1) (v := .ref 44) (pc := 213) rfl rfl rfl ?_
            refine zx_T.l (i := .aload_n 0) (k := 1) (v := .ref 44) (pc := 214) rfl rfl rfl ?_
            refine zr_gi (k := 45) (lo := (-2147483648)) (hi := 2147483647) (e := v18) (pc := 215) rfl rfl rfl ih21 e23 (fun g27a g27b => ?_)
            refine zx_T.s (i := .iconst 1) (k := 1) (st' := [.int (zI (1)), .int (zI (v18)), .ref 44]) (pc := 218) rfl rfl ?_
            refine zr_i2 (x := v18) (y := 1) (t := 226) (pc := 219) rfl rfl (by omega) (by omega) (by omega) (by omega) (fun (c28 : v18 = 1) => ?_) (fun (c28 : ¬ (v18 = 1)) => ?_)
            · refine zx_T.l (i := .lload 4) (k := 2) (v := .long (zL (zv_b h2 69 (zv_i h2 25 + 7)))) (pc := 226) rfl rfl rfl ?_
              refine zx_T.j (i := .goto 25) (k := 3) (pc' := 253) (st' := [.long (zL (zv_b h2 69 (zv_i h2 25 + 7))), .ref 44]) (pc := 228) rfl rfl rfl rfl rfl ?_
              refine zr_pl (k := 46) (pc := 253) rfl rfl rfl rfl ih21 (fun h29 ih29 w30 => ?_)
              refine zx_T.l (i := .aload_n 0) (k := 1) (v := .ref 44) (pc := 256) rfl rfl rfl ?_
              refine zr_gi (k := 43) (lo := (-2147483648)) (hi := 2147483647) (e := zv_i h2 43) (pc := 257) rfl rfl rfl ih29 ((zv_wi w30 rfl).trans (zv_wi w22 rfl)) (fun g32a g32b => ?_)
              have y33 : zv_i h29 41 = zv_i h2 41 := ((zv_wi w30 rfl).trans (zv_wi w22 rfl))
              exact zr_ir (x := zv_i h2 43) (pc := 260) rfl rfl rfl ⟨ih29, (((hw.wd rfl : zb_W [(44, 0), (44, 44), (44, 45), (44, 46), (44, 48), (44, 47), (70, 0), (44, 26), (44, 25), (61, 0), (69, 0), (44, 50), (44, 14), (44, 42), (44, 43), (44, 49), (44, 41), (44, 38), (71, 0), (72, 0)] h _).tr (w22.wd rfl)).tr (w30.wd rfl)), _, rfl, by dsimp only; omega⟩
            · refine zx_T.l (i := .iload_n 3) (k := 1) (v := .int (zI (0))) (pc := 222) rfl rfl rfl ?_
              refine zr_i1 (x := 0) (t := 231) (pc := 223) rfl rfl (by omega) (by omega) (fun _ => ?_) (fun (c34 : ¬ (0 = 0)) => absurd (by decide) c34)
              refine zx_T.l (i := .aload_n 0) (k := 1) (v := .ref 44) (pc := 231) rfl rfl rfl ?_
              refine zr_gi (k := 45) (lo := (-2147483648)) (hi := 2147483647) (e := v18) (pc := 232) rfl rfl rfl ih21 e23 (fun g35a g35b => ?_)
              refine zx_T.s (i := .bipush 6) (k := 2) (st' := [.int (zI (6)), .int (zI (v18)), .ref 44]) (pc := 235) rfl rfl ?_
              refine zr_i2 (x := v18) (y := 6) (t := 252) (pc := 237) rfl rfl (by omega) (by omega) (by omega) (by omega) (fun (c36 : v18 < 6) => ?_) (fun (c36 : ¬ (v18 < 6)) => ?_)
              · refine zx_T.s (i := .lconst 0) (k := 1) (st' := [.long (zL (0)), .ref 44]) (pc := 252) rfl rfl ?_
                refine zr_pl (k := 46) (pc := 253) rfl rfl rfl rfl ih21 (fun h37 ih37 w38 => ?_)
                refine zx_T.l (i := .aload_n 0) (k := 1) (v := .ref 44) (pc := 256) rfl rfl rfl ?_
                refine zr_gi (k := 43) (lo := (-2147483648)) (hi := 2147483647) (e := zv_i h2 43) (pc := 257) rfl rfl rfl ih37 ((zv_wi w38 rfl).trans (zv_wi w22 rfl)) (fun g40a g40b => ?_)
                have y41 : zv_i h37 41 = zv_i h2 41 := ((zv_wi w38 rfl).trans (zv_wi w22 rfl))
                exact zr_ir (x := zv_i h2 43) (pc := 260) rfl rfl rfl ⟨ih37, (((hw.wd rfl : zb_W [(44, 0), (44, 44), (44, 45), (44, 46), (44, 48), (44, 47), (70, 0), (44, 26), (44, 25), (61, 0), (69, 0), (44, 50), (44, 14), (44, 42), (44, 43), (44, 49), (44, 41), (44, 38), (71, 0), (72, 0)] h _).tr (w22.wd rfl)).tr (w38.wd rfl)), _, rfl, by dsimp only; omega⟩
              · have vq := (pi (Or.inr (by omega))) (zv_i h2 25 + 7) (by omega) (by omega) (by omega)
                have vq1 := vq.1
                have vq2 := vq.2.1
                have hT := zv_ri hI2 (k := 38) rfl
                refine zx_T.l (i := .aload_n 0) (k := 1) (v := .ref 44) (pc := 240) rfl rfl rfl ?_
                refine zr_gr (k := 39) (b := 71) (pc := 241) rfl rfl rfl ih21 ?_
                refine zx_T.l (i := .lload 4) (k := 2) (v := .long (zL (zv_b h2 69 (zv_i h2 25 + 7)))) (pc := 244) rfl rfl rfl ?_
                refine zr_l2i (pc := 246) rfl ?_
                refine zr_al (n := 400) (lo := (-2147483648)) (hi := 2147483647) (e := zv_a h2 71 (zv_b h2 69 (zv_i h2 25 + 7))) (pc := 247) rfl rfl rfl ih21 (by omega) (by omega) (zv_wa w22 rfl (zv_b h2 69 (zv_i h2 25 + 7))) (fun g42a g42b => ?_)
                refine zr_i2l (pc := 248) rfl (by omega) (by omega) ?_
                refine zx_T.j (i := .goto 4) (k := 3) (pc' := 253) (st' := [.long (zL (zv_a h2 71 (zv_b h2 69 (zv_i h2 25 + 7)))), .ref 44]) (pc := 249) rfl rfl rfl rfl rfl ?_
                refine zr_pl (k := 46) (pc := 253) rfl rfl rfl rfl ih21 (fun h43 ih43 w44 => ?_)
                refine zx_T.l (i := .aload_n 0) (k := 1) (v := .ref 44) (pc := 256) rfl rfl rfl ?_
                refine zr_gi (k := 43) (lo := (-2147483648)) (hi := 2147483647) (e := zv_i h2 43) (pc := 257) rfl rfl rfl ih43 ((zv_wi w44 rfl).trans (zv_wi w22 rfl)) (fun g46a g46b => ?_)
                have y47 : zv_i h43 41 = zv_i h2 41 := ((zv_wi w44 rfl).trans (zv_wi w22 rfl))
                exact zr_ir (x := zv_i h2 43) (pc := 260) rfl rfl rfl ⟨ih43, (((hw.wd rfl : zb_W [(44, 0), (44, 44), (44, 45), (44, 46), (44, 48), (44, 47), (70, 0), (44, 26), (44, 25), (61, 0), (69, 0), (44, 50), (44, 14), (44, 42), (44, 43), (44, 49), (44, 41), (44, 38), (71, 0), (72, 0)] h _).tr (w22.wd rfl)).tr (w44.wd rfl)), _, rfl, by dsimp only; omega⟩
          · refine zx_T.s (i := .iconst 1) (k := 1) (st' := [.int (zI (1))]) (pc := 167) rfl rfl ?_
            refine zx_T.j (i := .goto 4) (k := 3) (pc' := 172) (st' := [.int (zI (1))]) (pc := 168) rfl rfl rfl rfl rfl ?_
            refine zx_T.t (i := .istore_n 3) (k := 1) (ls' := [(3, .int (zI (1))), (0, .ref 44), (1, .int (zI (m))), (2, .int (zI (p)))]) (st' := []) (pc := 172) rfl rfl rfl rfl ?_
            refine zx_T.l (i := .aload_n 0) (k := 1) (v := .ref 44) (pc := 173) rfl rfl rfl ?_
            refine zx_T.l (i := .iload_n 3) (k := 1) (v := .int (zI (1))) (pc := 174) rfl rfl rfl ?_
            refine zr_i1 (x := 1) (t := 182) (pc := 175) rfl rfl (by omega) (by omega) (fun (c48 : 1 = 0) => absurd c48 (by decide)) (fun _ => ?_)
            refine zx_T.s (i := .iconst 2) (k := 1) (st' := [.int (zI (2)), .ref 44]) (pc := 178) rfl rfl ?_
            refine zx_T.j (i := .goto 7) (k := 3) (pc' := 186) (st' := [.int (zI (2)), .ref 44]) (pc := 179) rfl rfl rfl rfl rfl ?_
            refine zr_pi (k := 45) (lo := (-2147483648)) (hi := 2147483647) (e := 2) (pc := 186) rfl rfl rfl rfl rfl rfl hI2 (by omega) (by omega) (fun h49 ih49 w50 e51 => ?_)
            refine zx_T.l (i := .aload_n 0) (k := 1) (v := .ref 44) (pc := 189) rfl rfl rfl ?_
            refine zr_gr (k := 36) (b := 69) (pc := 190) rfl rfl rfl ih49 ?_
            refine zx_T.s (i := .bipush 8) (k := 2) (st' := [.int (zI (8)), .ref 69]) (pc := 193) rfl rfl ?_
            refine zx_T.l (i := .aload_n 0) (k := 1) (v := .ref 44) (pc := 195) rfl rfl rfl ?_
            refine zr_gi (k := 25) (lo := 0) (hi := 6) (e := zv_i h2 25) (pc := 196) rfl rfl rfl ih49 (zv_wi w50 rfl) (fun g52a g52b => ?_)
            refine zr_add (x := 8) (y := zv_i h2 25) (e := zv_i h2 25 + 8) (pc := 199) rfl (by omega) ?_
            refine zx_T.l (i := .iload_n 3) (k := 1) (v := .int (zI (1))) (pc := 200) rfl rfl rfl ?_
            refine zr_i1 (x := 1) (t := 208) (pc := 201) rfl rfl (by omega) (by omega) (fun (c53 : 1 = 0) => absurd c53 (by decide)) (fun _ => ?_)
            refine zx_T.s (i := .iconst 2) (k := 1) (st' := [.int (zI (2)), .int (zI (zv_i h2 25 + 8)), .ref 69]) (pc := 204) rfl rfl ?_
            refine zx_T.j (i := .goto 4) (k := 3) (pc' := 209) (st' := [.int (zI (2)), .int (zI (zv_i h2 25 + 8)), .ref 69]) (pc := 205) rfl rfl rfl rfl rfl ?_
            refine zr_sub (x := zv_i h2 25 + 8) (y := 2) (e := zv_i h2 25 + 6) (pc := 209) rfl (by omega) ?_
            have g54 := zv_rb (h := h49) 69 (zv_i h2 25 + 6)
            refine zr_ll (n := 14) (e := zv_b h2 69 (zv_i h2 25 + 6)) (pc := 210) rfl rfl rfl ih49 (by omega) (by omega) (zv_wb w50 rfl (zv_i h2 25 + 6)) ?_
            rw [show zv_b h49 69 (zv_i h2 25 + 6) = zv_b h2 69 (zv_i h2 25 + 6) from (zv_wb w50 rfl (zv_i h2 25 + 6))] at g54
            refine zx_T.t (i := .lstore 4) (k := 2) (ls' := [(4, .long (zL (zv_b h2 69 (zv_i h2 25 + 6)))), (3, .int (zI (1))), (0, .ref 44), (1, .int (zI (m))), (2, .int (zI (p)))]) (st' := []) (pc := 211) rfl rfl rfl rfl ?_
            refine zx_T.l (i := .aload_n 0) (k := 1) (v := .ref 44) (pc := 213) rfl rfl rfl ?_
            refine zx_T.l (i := .aload_n 0) (k := 1) (v := .ref 44) (pc := 214) rfl rfl rfl ?_
            refine zr_gi (k := 45) (lo := (-2147483648)) (hi := 2147483647) (e := 2) (pc := 215) rfl rfl rfl ih49 e51 (fun g55a g55b => ?_)
            refine zx_T.s (i := .iconst 1) (k := 1) (st' := [.int (zI (1)), .int (zI (2)), .ref 44]) (pc := 218) rfl rfl ?_
            refine zr_i2 (x := 2) (y := 1) (t := 226) (pc := 219) rfl rfl (by omega) (by omega) (by omega) (by omega) (fun (c56 : 2 = 1) => absurd c56 (by decide)) (fun _ => ?_)
            refine zx_T.l (i := .iload_n 3) (k := 1) (v := .int (zI (1))) (pc := 222) rfl rfl rfl ?_
            refine zr_i1 (x := 1) (t := 231) (pc := 223) rfl rfl (by omega) (by omega) (fun (c57 : 1 = 0) => absurd c57 (by decide)) (fun _ => ?_)
            refine zx_T.l (i := .lload 4) (k := 2) (v := .long (zL (zv_b h2 69 (zv_i h2 25 + 6)))) (pc := 226) rfl rfl rfl ?_
            refine zx_T.j (i := .goto 25) (k := 3) (pc' := 253) (st' := [.long (zL (zv_b h2 69 (zv_i h2 25 + 6))), .ref 44]) (pc := 228) rfl rfl rfl rfl rfl ?_
            refine zr_pl (k := 46) (pc := 253) rfl rfl rfl rfl ih49 (fun h58 ih58 w59 => ?_)
            refine zx_T.l (i := .aload_n 0) (k := 1) (v := .ref 44) (pc := 256) rfl rfl rfl ?_
            refine zr_gi (k := 43) (lo := (-2147483648)) (hi := 2147483647) (e := zv_i h2 43) (pc := 257) rfl rfl rfl ih58 ((zv_wi w59 rfl).trans (zv_wi w50 rfl)) (fun g61a g61b => ?_)
            have y62 : zv_i h58 41 = zv_i h2 41 := ((zv_wi w59 rfl).trans (zv_wi w50 rfl))
            exact zr_ir (x := zv_i h2 43) (pc := 260) rfl rfl rfl ⟨ih58, (((hw.wd rfl : zb_W [(44, 0), (44, 44), (44, 45), (44, 46), (44, 48), (44, 47), (70, 0), (44, 26), (44, 25), (61, 0), (69, 0), (44, 50), (44, 14), (44, 42), (44, 43), (44, 49), (44, 41), (44, 38), (71, 0), (72, 0)] h _).tr (w50.wd rfl)).tr (w59.wd rfl)), _, rfl, by dsimp only; omega⟩
    · refine zx_T.l (i := .aload_n 0) (k := 1) (v := .ref 44) (pc := 101) rfl rfl rfl ?_
      refine zx_T.l (i := .iload_n 2) (k := 1) (v := .int (zI (p))) (pc := 102) rfl rfl rfl ?_
      refine zr_pi (k := 47) (lo := (-2147483648)) (hi := 2147483647) (e := p) (pc := 103) rfl rfl rfl rfl rfl rfl hI2 (by omega) (by omega) (fun h63 ih63 w64 e65 => ?_)
      refine zx_T.l (i := .aload_n 0) (k := 1) (v := .ref 44) (pc := 106) rfl rfl rfl ?_
      refine zr_gi (k := 48) (lo := (-2147483648)) (hi := 2147483647) (e := zv_i h2 48) (pc := 107) rfl rfl rfl ih63 (zv_wi w64 rfl) (fun g66a g66b => ?_)
      refine zx_T.l (i := .iload_n 1) (k := 1) (v := .int (zI (m))) (pc := 110) rfl rfl rfl ?_
      refine zr_i2 (x := zv_i h2 48) (y := m) (t := 122) (pc := 111) rfl rfl (by omega) (by omega) (by omega) (by omega) (fun (c67 : ¬ (zv_i h2 48) = m) => ?_) (fun (c67 : ¬ (¬ (zv_i h2 48) = m)) => ?_)
      · refine zx_T.l (i := .aload_n 0) (k := 1) (v := .ref 44) (pc := 122) rfl rfl rfl ?_
        refine zx_T.s (i := .dup) (k := 1) (st' := [.ref 44, .ref 44]) (pc := 123) rfl rfl ?_
        refine zr_gi (k := 48) (lo := (-2147483648)) (hi := 2147483647) (e := zv_i h2 48) (pc := 124) rfl rfl rfl ih63 (zv_wi w64 rfl) (fun g68a g68b => ?_)
        refine zx_T.s (i := .iconst 1) (k := 1) (st' := [.int (zI (1)), .int (zI (zv_i h2 48)), .ref 44]) (pc := 127) rfl rfl ?_
        refine zr_add (x := zv_i h2 48) (y := 1) (e := zv_i h2 48 + 1) (pc := 128) rfl (by omega) ?_
        refine zr_pi (k := 48) (lo := (-2147483648)) (hi := 2147483647) (e := zv_i h2 48 + 1) (pc := 129) rfl rfl rfl rfl rfl rfl ih63 (by omega) (by omega) (fun h69 ih69 w70 e71 => ?_)
        refine zx_T.l (i := .aload_n 0) (k := 1) (v := .ref 44) (pc := 132) rfl rfl rfl ?_
        refine zx_T.l (i := .iload_n 2) (k := 1) (v := .int (zI (p))) (pc := 133) rfl rfl rfl ?_
        have y72 : zv_i h69 38 = zv_i h2 38 := ((zv_wi w70 rfl).trans (zv_wi w64 rfl))
        have y73 : zv_i h69 41 = zv_i h2 41 := ((zv_wi w70 rfl).trans (zv_wi w64 rfl))
        have y74 : zv_i h69 42 = zv_i h2 42 := ((zv_wi w70 rfl).trans (zv_wi w64 rfl))
        have y75 : zv_a h69 61 8 = zv_a h2 61 8 := ((zv_wa w70 rfl 8).trans (zv_wa w64 rfl 8))
        have y76 : zv_i h69 1 = zv_i h 1 := ((zv_wi w70 rfl).trans ((zv_wi w64 rfl).trans (zv_wi hw rfl)))
        refine zr_iv (cj := 216) (q' := zp_m216) (As := [.int (zI (p))]) (rest := []) (pc := 134) rfl rfl rfl rfl rfl rfl (Nat.le_of_ble_eq_true rfl) rfl (Nat.le_of_ble_eq_true rfl) ih69 ((zm_step (h := h69) ih69 (p := p) (by omega) (by omega) (hc.w (((hw.wd rfl : zb_W [(44, 0), (44, 44), (44, 45), (44, 46), (44, 48), (44, 47), (70, 0), (44, 26), (44, 25), (61, 0), (69, 0), (44, 50), (44, 14), (44, 42), (44, 43), (44, 49), (44, 41), (44, 38), (71, 0), (72, 0)] h _).tr (w64.wd rfl)).tr (w70.wd rfl)) rfl rfl) ((pi (Or.inl (by omega))).w ((w64.wd rfl : zb_W [(44, 47), (44, 48)] h2 _).tr (w70.wd rfl)) rfl) (by omega) (by omega) (by omega) (by omega) (by omega)).up (Nat.le_of_ble_eq_true rfl)) ?_
        rintro r77 h80 ⟨ih80, w81, r77q, x79⟩
        subst r77q
        try dsimp only at x79
        have se := x79
        have se2 := se.2
        show zx_T zp_P 8 zp_m217 137 [(0, .ref 44), (1, .int (zI (m))), (2, .int (zI (p)))] [] h80 _
        refine zx_T.l (i := .aload_n 0) (k := 1) (v := .ref 44) (pc := 137) rfl rfl rfl ?_
        refine zr_gi (k := 50) (lo := (-1)) (hi := 59) (e := zv_i h80 50) (pc := 138) rfl rfl rfl ih80 rfl (fun g82a g82b => ?_)
        refine zx_T.t (i := .istore_n 2) (k := 1) (ls' := [(2, .int (zI (zv_i h80 50))), (0, .ref 44), (1, .int (zI (m)))]) (st' := []) (pc := 141) rfl rfl rfl rfl ?_
        refine zx_T.j (i := .goto (-48)) (k := 3) (pc' := 94) (st' := []) (pc := 142) rfl rfl rfl rfl rfl ?_
        have y84 : zv_i h80 48 = zv_i h2 48 + 1 := ((zv_wi w81 rfl).trans e71)
        refine zx_T.lk (ls' := [(0, .ref 44), (1, .int (zI (m))), (2, .int (zI (zv_i h80 50)))]) rfl ⟨rfl, rfl, rfl, trivial⟩ ?_
        exact ih (h2 := h80) (p := zv_i h80 50) ih80 (by omega) (by omega) ((((hw.wd rfl : zb_W [(44, 0), (44, 44), (44, 45), (44, 46), (44, 48), (44, 47), (70, 0), (44, 26), (44, 25), (61, 0), (69, 0), (44, 50), (44, 14), (44, 42), (44, 43), (44, 49), (44, 41), (44, 38), (71, 0), (72, 0)] h _).tr (w64.wd rfl)).tr (w70.wd rfl)).tr (w81.wd rfl)) (by omega) (by omega) (by omega) se.1 (by omega) (by omega) (by omega) (by omega) (by omega)
      · refine zx_T.l (i := .aload_n 0) (k := 1) (v := .ref 44) (pc := 114) rfl rfl rfl ?_
        refine zx_T.s (i := .iconst 2) (k := 1) (st' := [.int (zI (2)), .ref 44]) (pc := 115) rfl rfl ?_
        refine zr_iv (cj := 207) (q' := zp_m207) (As := [.int (zI (2))]) (rest := []) (pc := 116) rfl rfl rfl rfl rfl rfl (Nat.le_of_ble_eq_true rfl) rfl (Nat.le_of_ble_eq_true rfl) ih63 ((zm_over (h := h63) ih63 (w := 2) (by omega) (by omega)).up (Nat.le_of_ble_eq_true rfl)) ?_
        rintro r90 h93 ⟨ih93, w94, r90q, x92⟩
        subst r90q
        try dsimp only at x92
        show zx_T zp_P 8 zp_m217 119 [(0, .ref 44), (1, .int (zI (m))), (2, .int (zI (p)))] [] h93 _
        refine zx_T.j (i := .goto (-25)) (k := 3) (pc' := 94) (st' := []) (pc := 119) rfl rfl rfl rfl rfl ?_
        have y96 : zv_i h93 48 = zv_i h2 48 := ((zv_wi w94 rfl).trans (zv_wi w64 rfl))
        have y97 : zv_i h93 38 = zv_i h2 38 := ((zv_wi w94 rfl).trans (zv_wi w64 rfl))
        have y98 : zv_i h93 41 = zv_i h2 41 := ((zv_wi w94 rfl).trans (zv_wi w64 rfl))
        have y99 : zv_a h93 61 8 = zv_a h2 61 8 := ((zv_wa w94 rfl 8).trans (zv_wa w64 rfl 8))
        have y101 : zv_i h93 50 = zv_i h2 50 := ((zv_wi w94 rfl).trans (zv_wi w64 rfl))
        refine zx_T.lk (ls' := [(0, .ref 44), (1, .int (zI (m))), (2, .int (zI (p)))]) rfl ⟨rfl, rfl, rfl, trivial⟩ ?_
        exact ih (h2 := h93) (p := p) ih93 (by omega) (by omega) (((hw.wd rfl : zb_W [(44, 0), (44, 44), (44, 45), (44, 46), (44, 48), (44, 47), (70, 0), (44, 26), (44, 25), (61, 0), (69, 0), (44, 50), (44, 14), (44, 42), (44, 43), (44, 49), (44, 41), (44, 38), (71, 0), (72, 0)] h _).tr (w64.wd rfl)).tr (w94.wd rfl)) (by omega) (by omega) (by omega) (fun z => absurd z (by omega)) (by omega) (by omega) (by omega) (by omega) (by omega)
set_option maxRecDepth 100000 in
set_option maxHeartbeats 4000000 in
theorem zm_run {h : zx_H} (hI : zb_I zc_H h) {m : Int} (m1 : -2147483648 ≤ m) (m2 : m ≤ 2147483647) (hc : zg_CI h) (r8 : 0 ≤ zv_i h 41) : zx_T zp_P 8 zp_m217 0 [(0, .ref 44), (1, .int (zI (m)))] [] h (zr_R [(44, 0), (44, 44), (44, 45), (44, 46), (44, 48), (44, 47), (70, 0), (44, 26), (44, 25), (61, 0), (69, 0), (44, 50), (44, 14), (44, 42), (44, 43), (44, 49), (44, 41), (44, 38), (71, 0), (72, 0)] h (fun e h' => 0 ≤ zv_i h' 41)) := by
  have hC := zv_ri hI (k := 1) rfl
  refine zx_T.l (i := .aload_n 0) (k := 1) (v := .ref 44) (pc := 0) rfl rfl rfl ?_
  refine zx_T.s (i := .iconst 0) (k := 1) (st' := [.int (zI (0)), .ref 44]) (pc := 1) rfl rfl ?_
  refine zr_pi (k := 0) (lo := (-2147483648)) (hi := 2147483647) (e := 0) (pc := 2) rfl rfl rfl rfl rfl rfl hI (by omega) (by omega) (fun h102 ih102 w103 e104 => ?_)
  refine zx_T.l (i := .iload_n 1) (k := 1) (v := .int (zI (m))) (pc := 5) rfl rfl rfl ?_
  refine zx_T.s (i := .iconst 0) (k := 1) (st' := [.int (zI (0)), .int (zI (m))]) (pc := 6) rfl rfl ?_
  refine zx_T.s (i := .sipush 300) (k := 3) (st' := [.int (zI (300)), .int (zI (0)), .int (zI (m))]) (pc := 7) rfl rfl ?_
  refine zr_is (cj := 155) (q' := zp_m155) (As := [.int (zI (m)), .int (zI (0)), .int (zI (300))]) (rest := []) (pc := 10) rfl rfl rfl rfl rfl rfl (Nat.le_of_ble_eq_true rfl) rfl (Nat.le_of_ble_eq_true rfl) rfl ((zm_in (h := h102) ih102 (v := m) (l := 0) (u := 300) (by omega) (by omega) (by omega) (by omega) (by omega) (by omega)).up (Nat.le_of_ble_eq_true rfl)) ?_
  rintro r105 h108 ⟨h108q, v106, r105q, x107⟩
  subst h108q r105q
  try dsimp only at x107
  show zx_T zp_P 8 zp_m217 13 [(0, .ref 44), (1, .int (zI (m)))] [.int (zI (v106))] h102 _
  refine zr_i1 (x := v106) (t := 19) (pc := 13) rfl rfl (by omega) (by omega) (fun (c109 : ¬ v106 = 0) => ?_) (fun (c109 : ¬ (¬ v106 = 0)) => ?_)
  · refine zx_T.l (i := .aload_n 0) (k := 1) (v := .ref 44) (pc := 19) rfl rfl rfl ?_
    refine zr_gi (k := 41) (lo := (-2147483648)) (hi := 2147483647) (e := zv_i h 41) (pc := 20) rfl rfl rfl ih102 (zv_wi w103 rfl) (fun g110a g110b => ?_)
    refine zx_T.s (i := .sipush 1000) (k := 3) (st' := [.int (zI (1000)), .int (zI (zv_i h 41))]) (pc := 23) rfl rfl ?_
    refine zr_i2 (x := zv_i h 41) (y := 1000) (t := 32) (pc := 26) rfl rfl (by omega) (by omega) (by omega) (by omega) (fun (c111 : (zv_i h 41) < 1000) => ?_) (fun (c111 : ¬ ((zv_i h 41) < 1000)) => ?_)
    · refine zx_T.l (i := .aload_n 0) (k := 1) (v := .ref 44) (pc := 32) rfl rfl rfl ?_
      refine zx_T.s (i := .iconst 1) (k := 1) (st' := [.int (zI (1)), .ref 44]) (pc := 33) rfl rfl ?_
      refine zr_pi (k := 44) (lo := 0) (hi := 1) (e := 1) (pc := 34) rfl rfl rfl rfl rfl rfl ih102 (by omega) (by omega) (fun h112 ih112 w113 e114 => ?_)
      refine zx_T.l (i := .aload_n 0) (k := 1) (v := .ref 44) (pc := 37) rfl rfl rfl ?_
      refine zx_T.s (i := .iconst 0) (k := 1) (st' := [.int (zI (0)), .ref 44]) (pc := 38) rfl rfl ?_
      refine zr_pi (k := 14) (lo := (-2147483648)) (hi := 2147483647) (e := 0) (pc := 39) rfl rfl rfl rfl rfl rfl ih112 (by omega) (by omega) (fun h115 ih115 w116 e117 => ?_)
      refine zx_T.l (i := .aload_n 0) (k := 1) (v := .ref 44) (pc := 42) rfl rfl rfl ?_
      refine zx_T.s (i := .iconst (-1)) (k := 1) (st' := [.int (zI ((-1))), .ref 44]) (pc := 43) rfl rfl ?_
      refine zr_pi (k := 45) (lo := (-2147483648)) (hi := 2147483647) (e := (-1)) (pc := 44) rfl rfl rfl rfl rfl rfl ih115 (by omega) (by omega) (fun h118 ih118 w119 e120 => ?_)
      refine zx_T.l (i := .aload_n 0) (k := 1) (v := .ref 44) (pc := 47) rfl rfl rfl ?_
      refine zx_T.s (i := .lconst 0) (k := 1) (st' := [.long (zL (0)), .ref 44]) (pc := 48) rfl rfl ?_
      refine zr_pl (k := 46) (pc := 49) rfl rfl rfl rfl ih118 (fun h121 ih121 w122 => ?_)
      refine zx_T.l (i := .aload_n 0) (k := 1) (v := .ref 44) (pc := 52) rfl rfl rfl ?_
      refine zx_T.s (i := .iconst 0) (k := 1) (st' := [.int (zI (0)), .ref 44]) (pc := 53) rfl rfl ?_
      refine zr_pi (k := 48) (lo := (-2147483648)) (hi := 2147483647) (e := 0) (pc := 54) rfl rfl rfl rfl rfl rfl ih121 (by omega) (by omega) (fun h124 ih124 w125 e126 => ?_)
      refine zx_T.l (i := .aload_n 0) (k := 1) (v := .ref 44) (pc := 57) rfl rfl rfl ?_
      refine zx_T.s (i := .iconst 0) (k := 1) (st' := [.int (zI (0)), .ref 44]) (pc := 58) rfl rfl ?_
      refine zr_pi (k := 49) (lo := (-2147483648)) (hi := 2147483647) (e := 0) (pc := 59) rfl rfl rfl rfl rfl rfl ih124 (by omega) (by omega) (fun h127 ih127 w128 e129 => ?_)
      refine zx_T.l (i := .aload_n 0) (k := 1) (v := .ref 44) (pc := 62) rfl rfl rfl ?_
      refine zx_T.s (i := .iconst (-1)) (k := 1) (st' := [.int (zI ((-1))), .ref 44]) (pc := 63) rfl rfl ?_
      refine zr_pi (k := 47) (lo := (-2147483648)) (hi := 2147483647) (e := (-1)) (pc := 64) rfl rfl rfl rfl rfl rfl ih127 (by omega) (by omega) (fun h130 ih130 w131 e132 => ?_)
      refine zx_T.l (i := .aload_n 0) (k := 1) (v := .ref 44) (pc := 67) rfl rfl rfl ?_
      refine zr_gi (k := 1) (lo := 0) (hi := 60) (e := zv_i h 1) (pc := 68) rfl rfl rfl ih130 ((zv_wi w131 rfl).trans ((zv_wi w128 rfl).trans ((zv_wi w125 rfl).trans ((zv_wi w122 rfl).trans ((zv_wi w119 rfl).trans ((zv_wi w116 rfl).trans ((zv_wi w113 rfl).trans (zv_wi w103 rfl)))))))) (fun g133a g133b => ?_)
      refine zr_i1 (x := zv_i h 1) (t := 83) (pc := 71) rfl rfl (by omega) (by omega) (fun (c134 : ¬ (zv_i h 1) = 0) => ?_) (fun (c134 : ¬ (¬ (zv_i h 1) = 0)) => ?_)
      · refine zx_T.l (i := .aload_n 0) (k := 1) (v := .ref 44) (pc := 83) rfl rfl rfl ?_
        refine zr_iv (cj := 206) (q' := zp_m206) (As := []) (rest := []) (pc := 84) rfl rfl rfl rfl rfl rfl (Nat.le_of_ble_eq_true rfl) rfl (Nat.le_of_ble_eq_true rfl) ih130 ((zm_fill (h := h130) ih130  ).up (Nat.le_of_ble_eq_true rfl)) ?_
        rintro r135 h138 ⟨ih138, w139, r135q, x137⟩
        subst r135q
        try dsimp only at x137
        have fi := x137
        show zx_T zp_P 8 zp_m217 87 [(0, .ref 44), (1, .int (zI (m)))] [] h138 _
        refine zx_T.l (i := .aload_n 0) (k := 1) (v := .ref 44) (pc := 87) rfl rfl rfl ?_
        refine zx_T.s (i := .iconst 0) (k := 1) (st' := [.int (zI (0)), .ref 44]) (pc := 88) rfl rfl ?_
        refine zr_pi (k := 42) (lo := 0) (hi := 1) (e := 0) (pc := 89) rfl rfl rfl rfl rfl rfl ih138 (by omega) (by omega) (fun h140 ih140 w141 e142 => ?_)
        refine zx_T.s (i := .iconst 0) (k := 1) (st' := [.int (zI (0))]) (pc := 92) rfl rfl ?_
        refine zx_T.t (i := .istore_n 2) (k := 1) (ls' := [(2, .int (zI (0))), (0, .ref 44), (1, .int (zI (m)))]) (st' := []) (pc := 93) rfl rfl rfl rfl ?_
        have y143 : zv_i h140 42 = 0 := e142
        have y144 : zv_i h140 48 = 0 := ((zv_wi w141 rfl).trans ((zv_wi w139 rfl).trans ((zv_wi w131 rfl).trans ((zv_wi w128 rfl).trans e126))))
        have y145 : zv_i h140 38 = zv_i h138 38 := (zv_wi w141 rfl)
        have y146 : zv_i h140 41 = zv_i h 41 := ((zv_wi w141 rfl).trans ((zv_wi w139 rfl).trans ((zv_wi w131 rfl).trans ((zv_wi w128 rfl).trans ((zv_wi w125 rfl).trans ((zv_wi w122 rfl).trans ((zv_wi w119 rfl).trans ((zv_wi w116 rfl).trans ((zv_wi w113 rfl).trans (zv_wi w103 rfl))))))))))
        have y147 : zv_a h140 61 8 = zv_a h138 61 8 := (zv_wa w141 rfl 8)
        have y148 : zv_i h140 43 = zv_i h 43 := ((zv_wi w141 rfl).trans ((zv_wi w139 rfl).trans ((zv_wi w131 rfl).trans ((zv_wi w128 rfl).trans ((zv_wi w125 rfl).trans ((zv_wi w122 rfl).trans ((zv_wi w119 rfl).trans ((zv_wi w116 rfl).trans ((zv_wi w113 rfl).trans (zv_wi w103 rfl))))))))))
        have y149 : zv_i h140 50 = zv_i h 50 := ((zv_wi w141 rfl).trans ((zv_wi w139 rfl).trans ((zv_wi w131 rfl).trans ((zv_wi w128 rfl).trans ((zv_wi w125 rfl).trans ((zv_wi w122 rfl).trans ((zv_wi w119 rfl).trans ((zv_wi w116 rfl).trans ((zv_wi w113 rfl).trans (zv_wi w103 rfl))))))))))
        refine zx_T.lk (ls' := [(0, .ref 44), (1, .int (zI (m))), (2, .int (zI (0)))]) rfl ⟨rfl, rfl, rfl, trivial⟩ ?_
        exact zm_run_L (h := h) hI (m := m) m1 m2 hc r8 ((2 * (m - zv_i h140 48) + 1 - zv_i h140 42 : Int).toNat + 1) (h2 := h140) (p := 0) ih140 (by omega) (by omega) ((((((((((w103.wd rfl : zb_W [(44, 0), (44, 44), (44, 45), (44, 46), (44, 48), (44, 47), (70, 0), (44, 26), (44, 25), (61, 0), (69, 0), (44, 50), (44, 14), (44, 42), (44, 43), (44, 49), (44, 41), (44, 38), (71, 0), (72, 0)] h _).tr (w113.wd rfl)).tr (w116.wd rfl)).tr (w119.wd rfl)).tr (w122.wd rfl)).tr (w125.wd rfl)).tr (w128.wd rfl)).tr (w131.wd rfl)).tr (w139.wd rfl)).tr (w141.wd rfl)) (by omega) (by omega) (by omega) (fun _ => fi.2.2.1.w w141 rfl) (by omega) (by omega) (by omega) (by omega) (Nat.lt_succ_self _)
      · refine zx_T.l (i := .aload_n 0) (k := 1) (v := .ref 44) (pc := 74) rfl rfl rfl ?_
        refine zx_T.s (i := .bipush 6) (k := 2) (st' := [.int (zI (6)), .ref 44]) (pc := 75) rfl rfl ?_
        refine zr_pi (k := 14) (lo := (-2147483648)) (hi := 2147483647) (e := 6) (pc := 77) rfl rfl rfl rfl rfl rfl ih130 (by omega) (by omega) (fun h150 ih150 w151 e152 => ?_)
        refine zx_T.s (i := .bipush (-9)) (k := 2) (st' := [.int (zI ((-9)))]) (pc := 80) rfl rfl ?_
        have y153 : zv_i h150 41 = zv_i h 41 := ((zv_wi w151 rfl).trans ((zv_wi w131 rfl).trans ((zv_wi w128 rfl).trans ((zv_wi w125 rfl).trans ((zv_wi w122 rfl).trans ((zv_wi w119 rfl).trans ((zv_wi w116 rfl).trans ((zv_wi w113 rfl).trans (zv_wi w103 rfl)))))))))
        exact zr_ir (x := (-9)) (pc := 82) rfl rfl rfl ⟨ih150, (((((((((w103.wd rfl : zb_W [(44, 0), (44, 44), (44, 45), (44, 46), (44, 48), (44, 47), (70, 0), (44, 26), (44, 25), (61, 0), (69, 0), (44, 50), (44, 14), (44, 42), (44, 43), (44, 49), (44, 41), (44, 38), (71, 0), (72, 0)] h _).tr (w113.wd rfl)).tr (w116.wd rfl)).tr (w119.wd rfl)).tr (w122.wd rfl)).tr (w125.wd rfl)).tr (w128.wd rfl)).tr (w131.wd rfl)).tr (w151.wd rfl)), _, rfl, by dsimp only; omega⟩
    · refine zx_T.s (i := .bipush (-4)) (k := 2) (st' := [.int (zI ((-4)))]) (pc := 29) rfl rfl ?_
      have y154 : zv_i h102 41 = zv_i h 41 := (zv_wi w103 rfl)
      exact zr_ir (x := (-4)) (pc := 31) rfl rfl rfl ⟨ih102, (w103.wd rfl : zb_W [(44, 0), (44, 44), (44, 45), (44, 46), (44, 48), (44, 47), (70, 0), (44, 26), (44, 25), (61, 0), (69, 0), (44, 50), (44, 14), (44, 42), (44, 43), (44, 49), (44, 41), (44, 38), (71, 0), (72, 0)] h _), _, rfl, by dsimp only; omega⟩
  · refine zx_T.s (i := .bipush (-2)) (k := 2) (st' := [.int (zI ((-2)))]) (pc := 16) rfl rfl ?_
    have y155 : zv_i h102 41 = zv_i h 41 := (zv_wi w103 rfl)
    exact zr_ir (x := (-2)) (pc := 18) rfl rfl rfl ⟨ih102, (w103.wd rfl : zb_W [(44, 0), (44, 44), (44, 45), (44, 46), (44, 48), (44, 47), (70, 0), (44, 26), (44, 25), (61, 0), (69, 0), (44, 50), (44, 14), (44, 42), (44, 43), (44, 49), (44, 41), (44, 38), (71, 0), (72, 0)] h _), _, rfl, by dsimp only; omega⟩
