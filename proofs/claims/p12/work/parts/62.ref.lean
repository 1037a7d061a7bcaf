/-! ===== 62: the reference, method by method (by program) ===== -/
def zg_ae (h h' : zx_H) : Prop := zg_PI h' ∧ ¬ zv_a h' 61 8 = 3 ∧ zv_i h 38 ≤ zv_i h' 38 ∧ zv_i h' 38 ≤ zv_i h 38 + 1 ∧ zv_i h 41 ≤ zv_i h' 41 ∧ zv_i h' 41 ≤ zv_i h 41 + 1 ∧ (zv_i h' 42 = 1 ∨ (zv_i h' 42 = 0 ∧ (-1) ≤ zv_i h' 50 ∧ zv_i h' 50 < zv_i h 1))
theorem zg_lo {h : zx_H} {o a t : Int} (dz : zg_dz o a (t - 7) (zv_i h 25) (zv_a h 70) (zv_a h 61)) (vw : zg_VW h t) (ho : ¬ o = 9) (t7 : 7 ≤ t) (s0 : 0 ≤ zv_i h 25) : ∀ j, 0 ≤ j → j < 8 → 5 ≤ zv_a h 61 j → zg_vo h (zv_a h 61 j) (zv_b h 69 j) := fun j j0 j1 j2 => by
  have d := dz.2.2.1 ho j j0 (by omega) j2
  have d1 := dz.1
  have e : zv_a h 61 j = zv_a h 70 j ∧ j < t + 1 := by
    rcases d with d | d | d | d | d
    · exact ⟨d.1, by have d2 := d.2.1; clear d d1; omega⟩
    · have d2 := d.2.1; clear d d1; exfalso; omega
    · have d2 := d.2.1; have d3 := d1.2.1 d.1; clear d d1; exfalso; omega
    · have d2 := d.2.1; clear d d1; exfalso; omega
    · have d2 := d.2; have d3 := d1.2.2.2.2.2.2.1 (by have := d.1; clear d1; omega) (by have := d.1; clear d1; omega); clear d d1; exfalso; omega
  clear d d1
  have q := vw j j0 e.2 (by omega)
  rw [← e.1] at q
  exact q
theorem zg_ae.rf {h h' : zx_H} (hI : zb_I zc_H h) (rf : zg_rf h h') (lo : ∀ j, 0 ≤ j → j < 8 → 5 ≤ zv_a h 61 j → zg_vo h (zv_a h 61 j) (zv_b h 69 j)) (x0 : zv_i h 42 = 0) : zg_ae h h' := by
  obtain ⟨r1, r2, r3, r4, r5⟩ := rf
  have hT := zv_ri hI (k := 38) rfl
  refine ⟨fun z => ?_, r5, by omega, by omega, by omega, by omega, ?_⟩
  · rcases r4 with g | ⟨g1, g2, g3, g4, g5, g6⟩
    · exfalso; omega
    · intro j j0 j1 j2
      rw [g5 j j0] at j2 ⊢
      rw [g6 j j0]
      split
      · exact ⟨by omega, by omega, fun z => absurd z (by omega)⟩
      · next e =>
        rw [if_neg e] at j2
        exact (lo j j0 (by omega) j2).up (by omega) r3
  · rcases r4 with g | ⟨g1, g2, g3, g4, g5, g6⟩
    · exact Or.inl g.1
    · exact Or.inr ⟨by omega, by omega, by omega⟩
theorem zg_ae.ra {h h' : zx_H} {k w : Int} (ra : zg_ra h h' k w) (k1 : 7 ≤ k) (w0 : 0 ≤ w) (w1 : w < zv_i h 38) (hT : zv_i h' 38 = zv_i h 38) (hF : zv_i h' 41 = zv_i h 41) (hO : ∀ j, 0 ≤ j → zv_a h' 71 j = zv_a h 71 j) (lo : ∀ j, 0 ≤ j → j < 8 → 5 ≤ zv_a h 61 j → zg_vo h (zv_a h 61 j) (zv_b h 69 j)) (x0 : zv_i h 42 = 0) : zg_ae h h' := by
  obtain ⟨r4, r5⟩ := ra
  refine ⟨fun z => ?_, r5, by omega, by omega, by omega, by omega, ?_⟩
  · rcases r4 with g | ⟨g1, g2, g3, g4, g5, g6⟩
    · exfalso; omega
    · intro j j0 j1 j2
      rw [g5 j j0] at j2 ⊢
      rw [g6 j j0]
      split
      · exact ⟨by omega, by omega, fun z => absurd z (by omega)⟩
      · next e =>
        rw [if_neg e] at j2
        exact (lo j j0 (by omega) j2).up (by omega) (fun j j0 _ => hO j j0)
  · rcases r4 with g | ⟨g1, g2, g3, g4, g5, g6⟩
    · exact Or.inl g.1
    · exact Or.inr ⟨by omega, by omega, by omega⟩
theorem zg_ae.ba {h h1 h' : zx_H} (a : zg_ae h1 h') (w : zb_W [(61, 0)] h h1) : zg_ae h h' := by
  unfold zg_ae at a ⊢
  simp only [zv_wi w (k := 38) rfl, zv_wi w (k := 41) rfl, zv_wi w (k := 1) rfl] at a
  exact a
theorem zg_vo.w {W : List (Nat × Nat)} {h h' : zx_H} {k v : Int} (a : zg_vo h k v) (w : zb_W W h h') (e1 : za_in W 44 38 = false) (e2 : za_in W 71 0 = false) : zg_vo h' k v := by
  unfold zg_vo at a ⊢
  rw [zv_wi w e1, zv_wa w e2]; exact a
theorem zg_VIc {h h' : zx_H} {o a t : Int} (dz : zg_dz o a (t - 7) (zv_i h 25) (zv_a h 70) (zv_a h 61)) (ho : o = 21) (vw : zg_VW h t) (t7 : 7 ≤ t) (w : zb_W [(61, 0)] h h') (hn : ∀ j, 0 ≤ j → zv_a h' 61 j = if j = t then zv_a h 70 t else zv_a h 61 j) : zg_VI h' := fun j j0 j1 j2 => by
  rw [zv_wi w (k := 25) rfl] at j1
  rw [hn j j0] at j2 ⊢
  rw [zv_wb w (a := 69) rfl]
  by_cases e : j = t
  · rw [if_pos e] at j2 ⊢
    subst e
    exact (vw j j0 (by omega) j2).w w rfl rfl
  · rw [if_neg e] at j2 ⊢
    have d := dz.2.2.1 (by omega) j j0 j1 j2
    have e9 : zv_a h 61 j = zv_a h 70 j ∧ j < t + 1 := by omega
    have q := vw j j0 e9.2 (by omega)
    rw [← e9.1] at q
    exact q.w w rfl rfl

section ZDK
variable {o a S S' : Int} {N N' : Int → Int}
theorem zg_dk (dz : zg_dz o a S S' N N') (ho : ¬ (o = 4 ∨ o = 5 ∨ o = 6 ∨ o = 7 ∨ o = 8 ∨ o = 9 ∨ o = 21)) {i : Int} (hi : ((o = 12 ∨ o = 13 ∨ o = 15 ∨ o = 17) ∧ i = S + 6) ∨ (o = 14 ∧ i = S + 4) ∨ ((o = 19 ∨ o = 20) ∧ i = S + 7) ∨ (o = 28 ∧ i = a) ∨ i = -1 ∨ i = S + 8) {j : Int} (j0 : 0 ≤ j) (j1 : j < S' + 8) (j2 : 5 ≤ N' j) : N' j = N j ∧ j < S + 8 ∧ ¬ j = i := by
  have d := dz.2.2.1 (by omega) j j0 j1 j2
  clear dz
  rcases d with ⟨d1, d2, d3, d4, d5, d6⟩ | d | d | d | d
  · refine ⟨d1, d2, fun e => ?_⟩
    rcases hi with ⟨h1, h2⟩ | ⟨h1, h2⟩ | ⟨h1, h2⟩ | ⟨h1, h2⟩ | h2 | h2
    · exact d3 h1 (e.trans h2)
    · exact d4 h1 (e.trans h2)
    · exact d5 (Or.inr h1) (e.trans h2)
    · exact d6 h1 (e.trans h2)
    · omega
    · omega
  · omega
  · omega
  · omega
  · omega
theorem zg_dn (dz : zg_dz o a S S' N N') (ho : o = 4 ∨ o = 5 ∨ o = 6) {j : Int} (j0 : 0 ≤ j) (j1 : j < S' + 8) (j2 : 5 ≤ N' j) (h : j = S + 8 ∨ ¬ (N' j = N j ∧ j < S + 8)) : j = S + 8 ∧ ¬ N' j = 6 := by
  have d := dz.2.2.1 (by omega) j j0 j1 j2
  clear dz
  rcases d with ⟨d1, d2, _⟩ | d | d | d | d <;> omega
theorem zg_d7 (dz : zg_dz o a S S' N N') (ho : o = 7) {j : Int} (j0 : 0 ≤ j) (j1 : j < S' + 8) (j2 : 5 ≤ N' j) (h : j = S + 7 ∨ ¬ (N' j = N j ∧ j < S + 8)) : j = S + 7 := by
  have d := dz.2.2.1 (by omega) j j0 j1 j2
  clear dz
  rcases d with ⟨d1, d2, _⟩ | d | d | d | d <;> omega
theorem zg_d8 (dz : zg_dz o a S S' N N') (ho : o = 8) {j : Int} (j0 : 0 ≤ j) (j1 : j < S' + 8) (j2 : 5 ≤ N' j) (h : j = S + 8 ∨ ¬ (N' j = N j ∧ j < S + 8)) : j = S + 8 ∧ N' j = N a := by
  have d := dz.2.2.1 (by omega) j j0 j1 j2
  clear dz
  rcases d with ⟨d1, d2, _⟩ | d | d | d | d <;> omega
theorem zg_d9 (dz : zg_dz o a S S' N N') (ho : o = 9) {j : Int} (j0 : 0 ≤ j) (j1 : j < S' + 8) (j2 : 5 ≤ N' j) (h : j = a ∨ ¬ (N' j = N j ∧ j < S + 8)) : j = a ∧ N' j = N (S + 7) := by
  have d := dz.2.2.2 ho (S + 7) rfl j j0 j1 j2
  clear dz
  omega
end ZDK

set_option maxRecDepth 100000 in
set_option maxHeartbeats 8000000 in
theorem zm_row {h : zx_H} (hI : zb_I zc_H h) {p : Int} {t : Int} (p1 : 0 ≤ p) (p2 : p ≤ 59) (t1 : 7 ≤ t) (t2 : t ≤ 13) (dz : zg_dz (zv_a h 45 p) (zv_a h 46 p) (t - 7) (zv_i h 25) (zv_a h 70) (zv_a h 61)) (vw : zg_VW h t) (t9 : zv_i h 38 ≤ 399) (r9 : zv_i h 41 ≤ 1000000) (r8 : (-5) ≤ zv_i h 41) (x0 : zv_i h 42 = 0) (n8 : ¬ zv_a h 61 8 = 3) (nx : zv_i h 50 = (-1)) (o1 : 17 ≤ zv_a h 45 p) (o2 : zv_a h 45 p ≤ 19) : zx_T zp_P 5 zp_m212 0 [(0, .ref 44), (1, .int (zI (p))), (2, .int (zI (t)))] [] h (zr_V [(44, 25), (61, 0), (69, 0), (44, 50), (44, 14), (44, 42), (44, 43), (44, 49), (44, 41), (44, 38), (71, 0), (72, 0)] h (fun h' => zg_ae h h')) := by
  have hS := zv_ri hI (k := 25) rfl
  have hT := zv_ri hI (k := 38) rfl
  have hC := zv_ri hI (k := 1) rfl
  refine zx_T.l (i := .aload_n 0) (k := 1) (v := .ref 44) (pc := 0) rfl rfl rfl ?_
  refine zr_gr (k := 2) (b := 45) (pc := 1) rfl rfl rfl hI ?_
  refine zx_T.l (i := .iload_n 1) (k := 1) (v := .int (zI (p))) (pc := 4) rfl rfl rfl ?_
  refine zr_al (n := 60) (lo := 0) (hi := 28) (e := zv_a h 45 p) (pc := 5) rfl rfl rfl hI (by omega) (by omega) rfl (fun g1a g1b => ?_)
  refine zx_T.t (i := .istore_n 3) (k := 1) (ls' := [(3, .int (zI (zv_a h 45 p))), (0, .ref 44), (1, .int (zI (p))), (2, .int (zI (t)))]) (st' := []) (pc := 6) rfl rfl rfl rfl ?_
  refine zx_T.l (i := .iload_n 3) (k := 1) (v := .int (zI (zv_a h 45 p))) (pc := 7) rfl rfl rfl ?_
  refine zx_T.s (i := .bipush 17) (k := 2) (st' := [.int (zI (17)), .int (zI (zv_a h 45 p))]) (pc := 8) rfl rfl ?_
  refine zr_i2 (x := zv_a h 45 p) (y := 17) (t := 19) (pc := 10) rfl rfl (by omega) (by omega) (by omega) (by omega) (fun (c2 : ¬ (zv_a h 45 p) = 17) => ?_) (fun (c2 : ¬ (¬ (zv_a h 45 p) = 17)) => ?_)
  · refine zx_T.l (i := .iload_n 3) (k := 1) (v := .int (zI (zv_a h 45 p))) (pc := 19) rfl rfl rfl ?_
    refine zx_T.s (i := .bipush 18) (k := 2) (st' := [.int (zI (18)), .int (zI (zv_a h 45 p))]) (pc := 20) rfl rfl ?_
    refine zr_i2 (x := zv_a h 45 p) (y := 18) (t := 31) (pc := 22) rfl rfl (by omega) (by omega) (by omega) (by omega) (fun (c3 : ¬ (zv_a h 45 p) = 18) => ?_) (fun (c3 : ¬ (¬ (zv_a h 45 p) = 18)) => ?_)
    · refine zx_T.l (i := .iload_n 2) (k := 1) (v := .int (zI (t))) (pc := 31) rfl rfl rfl ?_
      refine zx_T.t (i := .istore 4) (k := 2) (ls' := [(4, .int (zI (t))), (3, .int (zI (zv_a h 45 p))), (0, .ref 44), (1, .int (zI (p))), (2, .int (zI (t)))]) (st' := []) (pc := 32) rfl rfl rfl rfl ?_
      refine zx_T.l (i := .aload_n 0) (k := 1) (v := .ref 44) (pc := 34) rfl rfl rfl ?_
      refine zr_gr (k := 37) (b := 70) (pc := 35) rfl rfl rfl hI ?_
      refine zx_T.l (i := .iload 4) (k := 2) (v := .int (zI (t))) (pc := 38) rfl rfl rfl ?_
      refine zr_al (n := 14) (lo := 0) (hi := 8) (e := zv_a h 70 t) (pc := 40) rfl rfl rfl hI (by omega) (by omega) rfl (fun g4a g4b => ?_)
      refine zx_T.s (i := .iconst 4) (k := 1) (st' := [.int (zI (4)), .int (zI (zv_a h 70 t))]) (pc := 41) rfl rfl ?_
      refine zr_i2 (x := zv_a h 70 t) (y := 4) (t := 52) (pc := 42) rfl rfl (by omega) (by omega) (by omega) (by omega) (fun (c5 : ¬ (zv_a h 70 t) = 4) => ?_) (fun (c5 : ¬ (¬ (zv_a h 70 t) = 4)) => ?_)
      · have v6 : zv_a h 70 (t) = 6 := by have d2 := dz.2.1 (t) (by omega); have d3 := And.intro d2.1 (And.intro d2.2.1 d2.2.2.1); clear d2; omega
        have vb := vw (t) (by omega) (by omega) (by omega)
        have vo1 := vb.1
        have vo2 := vb.2.1
        have vo3 := vb.2.2 v6
        refine zx_T.l (i := .aload_n 0) (k := 1) (v := .ref 44) (pc := 52) rfl rfl rfl ?_
        refine zr_gr (k := 36) (b := 69) (pc := 53) rfl rfl rfl hI ?_
        refine zx_T.l (i := .iload 4) (k := 2) (v := .int (zI (t))) (pc := 56) rfl rfl rfl ?_
        have g6 := zv_rb (h := h) 69 t
        refine zr_ll (n := 14) (e := zv_b h 69 t) (pc := 58) rfl rfl rfl hI (by omega) (by omega) rfl ?_
        refine zr_l2i (pc := 59) rfl ?_
        refine zx_T.t (i := .istore 5) (k := 2) (ls' := [(5, .int (zI (zv_b h 69 t))), (4, .int (zI (t))), (3, .int (zI (zv_a h 45 p))), (0, .ref 44), (1, .int (zI (p))), (2, .int (zI (t)))]) (st' := []) (pc := 60) rfl rfl rfl rfl ?_
        refine zx_T.l (i := .iload_n 3) (k := 1) (v := .int (zI (zv_a h 45 p))) (pc := 62) rfl rfl rfl ?_
        refine zx_T.s (i := .bipush 19) (k := 2) (st' := [.int (zI (19)), .int (zI (zv_a h 45 p))]) (pc := 63) rfl rfl ?_
        refine zr_i2 (x := zv_a h 45 p) (y := 19) (t := 83) (pc := 65) rfl rfl (by omega) (by omega) (by omega) (by omega) (fun (c7 : ¬ (zv_a h 45 p) = 19) => ?_) (fun (c7 : ¬ (¬ (zv_a h 45 p) = 19)) => ?_)
        · refine zx_T.l (i := .aload_n 0) (k := 1) (v := .ref 44) (pc := 83) rfl rfl rfl ?_
          refine zr_gr (k := 36) (b := 69) (pc := 84) rfl rfl rfl hI ?_
          refine zx_T.l (i := .iload 4) (k := 2) (v := .int (zI (t))) (pc := 87) rfl rfl rfl ?_
          refine zx_T.s (i := .iconst 1) (k := 1) (st' := [.int (zI (1)), .int (zI (t)), .ref 69]) (pc := 89) rfl rfl ?_
          refine zr_add (x := t) (y := 1) (e := t + 1) (pc := 90) rfl (by omega) ?_
          have g8 := zv_rb (h := h) 69 (t + 1)
          refine zr_ll (n := 14) (e := zv_b h 69 (t + 1)) (pc := 91) rfl rfl rfl hI (by omega) (by omega) rfl ?_
          refine zx_T.t (i := .lstore 6) (k := 2) (ls' := [(6, .long (zL (zv_b h 69 (t + 1)))), (5, .int (zI (zv_b h 69 t))), (4, .int (zI (t))), (3, .int (zI (zv_a h 45 p))), (0, .ref 44), (1, .int (zI (p))), (2, .int (zI (t)))]) (st' := []) (pc := 92) rfl rfl rfl rfl ?_
          refine zx_T.l (i := .lload 6) (k := 2) (v := .long (zL (zv_b h 69 (t + 1)))) (pc := 94) rfl rfl rfl ?_
          refine zx_T.s (i := .lconst 0) (k := 1) (st' := [.long (zL (0)), .long (zL (zv_b h 69 (t + 1)))]) (pc := 96) rfl rfl ?_
          refine zr_lcmp (pc := 97) rfl (by omega) (by omega) (by omega) (by omega) (fun z9 z9a => ?_)
          refine zr_i1 (x := z9) (t := 115) (pc := 98) rfl rfl (by omega) (by omega) (fun (c10 : z9 < 0) => ?_) (fun (c10 : ¬ (z9 < 0)) => ?_)
          · refine zx_T.l (i := .aload_n 0) (k := 1) (v := .ref 44) (pc := 115) rfl rfl rfl ?_
            refine zx_T.l (i := .iload_n 1) (k := 1) (v := .int (zI (p))) (pc := 116) rfl rfl rfl ?_
            refine zx_T.s (i := .iconst 2) (k := 1) (st' := [.int (zI (2)), .int (zI (p)), .ref 44]) (pc := 117) rfl rfl ?_
            refine zr_iv (cj := 211) (q' := zp_m211) (As := [.int (zI (p)), .int (zI (2))]) (rest := []) (pc := 118) rfl rfl rfl rfl rfl rfl (Nat.le_of_ble_eq_true rfl) rfl (Nat.le_of_ble_eq_true rfl) hI ((zm_refuse (h := h) hI (p := p) (q := 2) (by omega) (by omega) (by omega) (by omega) (by omega) (by omega) (by omega) (by omega)).up (Nat.le_of_ble_eq_true rfl)) ?_
            rintro r14 h17 ⟨ih17, w18, r14q, x16⟩
            subst r14q
            try dsimp only at x16
            have rf := x16
            show zx_T zp_P 5 zp_m212 121 [(6, .long (zL (zv_b h 69 (t + 1)))), (5, .int (zI (zv_b h 69 t))), (4, .int (zI (t))), (3, .int (zI (zv_a h 45 p))), (0, .ref 44), (1, .int (zI (p))), (2, .int (zI (t)))] [] h17 _
            refine zx_T.j (i := .goto 55) (k := 3) (pc' := 176) (st' := []) (pc := 121) rfl rfl rfl rfl rfl ?_
            have i42 : zv_i h17 42 = zv_i h17 42 := rfl
            have i43 : zv_i h17 43 = zv_i h17 43 := rfl
            have i38 : zv_i h17 38 = zv_i h17 38 := rfl
            have i41 : zv_i h17 41 = zv_i h17 41 := rfl
            have i50 : zv_i h17 50 = zv_i h17 50 := rfl
            have i25 : zv_i h17 25 = zv_i h17 25 := rfl
            have y25 : zv_i h17 1 = zv_i h 1 := (zv_wi w18 rfl)
            have a61 : ∀ j, 0 ≤ j → zv_a h17 61 j = zv_a h17 61 j := fun j hj => rfl
            have a71 : ∀ j, 0 ≤ j → zv_a h17 71 j = zv_a h17 71 j := fun j hj => rfl
            have b69 : ∀ j, 0 ≤ j → zv_b h17 69 j = zv_b h17 69 j := fun j hj => rfl
            exact zr_vr (pc := 176) rfl rfl ⟨ih17, (w18.wd rfl : zb_W [(44, 25), (61, 0), (69, 0), (44, 50), (44, 14), (44, 42), (44, 43), (44, 49), (44, 41), (44, 38), (71, 0), (72, 0)] h _), rfl, by dsimp only; exact zg_ae.rf hI rf (zg_lo dz vw (by omega) t1 (by omega)) x0⟩
          · refine zx_T.l (i := .lload 6) (k := 2) (v := .long (zL (zv_b h 69 (t + 1)))) (pc := 101) rfl rfl rfl ?_
            refine zx_T.l (i := .aload_n 0) (k := 1) (v := .ref 44) (pc := 103) rfl rfl rfl ?_
            refine zr_gr (k := 39) (b := 71) (pc := 104) rfl rfl rfl hI ?_
            refine zx_T.l (i := .iload 5) (k := 2) (v := .int (zI (zv_b h 69 t))) (pc := 107) rfl rfl rfl ?_
            refine zr_al (n := 400) (lo := (-2147483648)) (hi := 2147483647) (e := zv_a h 71 (zv_b h 69 t)) (pc := 109) rfl rfl rfl hI (by omega) (by omega) rfl (fun g30a g30b => ?_)
            refine zr_i2l (pc := 110) rfl (by omega) (by omega) ?_
            refine zr_lcmp (pc := 111) rfl (by omega) (by omega) (by omega) (by omega) (fun z31 z31a => ?_)
            refine zr_i1 (x := z31) (t := 124) (pc := 112) rfl rfl (by omega) (by omega) (fun (c32 : z31 < 0) => ?_) (fun (c32 : ¬ (z31 < 0)) => ?_)
            · refine zx_T.l (i := .iload_n 3) (k := 1) (v := .int (zI (zv_a h 45 p))) (pc := 124) rfl rfl rfl ?_
              refine zx_T.s (i := .bipush 17) (k := 2) (st' := [.int (zI (17)), .int (zI (zv_a h 45 p))]) (pc := 125) rfl rfl ?_
              refine zr_i2 (x := zv_a h 45 p) (y := 17) (t := 155) (pc := 127) rfl rfl (by omega) (by omega) (by omega) (by omega) (fun (c33 : ¬ (zv_a h 45 p) = 17) => ?_) (fun (c33 : ¬ (¬ (zv_a h 45 p) = 17)) => False.elim (by omega))
              refine zx_T.l (i := .aload_n 0) (k := 1) (v := .ref 44) (pc := 155) rfl rfl rfl ?_
              refine zr_gr (k := 40) (b := 72) (pc := 156) rfl rfl rfl hI ?_
              refine zx_T.s (i := .bipush 20) (k := 2) (st' := [.int (zI (20)), .ref 72]) (pc := 159) rfl rfl ?_
              refine zx_T.l (i := .iload 5) (k := 2) (v := .int (zI (zv_b h 69 t))) (pc := 161) rfl rfl rfl ?_
              refine zr_mul (x := 20) (y := zv_b h 69 t) (e := 20 * (zv_b h 69 t)) (pc := 163) rfl (by omega) ?_
              refine zx_T.l (i := .lload 6) (k := 2) (v := .long (zL (zv_b h 69 (t + 1)))) (pc := 164) rfl rfl rfl ?_
              refine zr_l2i (pc := 166) rfl ?_
              refine zr_add (x := 20 * (zv_b h 69 t)) (y := zv_b h 69 (t + 1)) (e := 20 * (zv_b h 69 t) + zv_b h 69 (t + 1)) (pc := 167) rfl (by omega) ?_
              refine zx_T.l (i := .aload_n 0) (k := 1) (v := .ref 44) (pc := 168) rfl rfl rfl ?_
              refine zr_gr (k := 36) (b := 69) (pc := 169) rfl rfl rfl hI ?_
              refine zx_T.l (i := .iload_n 2) (k := 1) (v := .int (zI (t))) (pc := 172) rfl rfl rfl ?_
              have g34 := zv_rb (h := h) 69 t
              refine zr_ll (n := 14) (e := zv_b h 69 t) (pc := 173) rfl rfl rfl hI (by omega) (by omega) rfl ?_
              refine zr_l2i (pc := 174) rfl ?_
              refine zr_any (fun z35 z35a z35b => ?_)
              refine zr_as (n := 8000) (lo := (-2147483648)) (hi := 2147483647) (e := z35) (pc := 175) rfl rfl rfl rfl hI (by omega) (by omega) (by omega) (by omega) (fun h36 ih36 w37 s38 => ?_)
              have i42 : zv_i h36 42 = zv_i h 42 := (zv_wi w37 rfl)
              have i43 : zv_i h36 43 = zv_i h 43 := (zv_wi w37 rfl)
              have i38 : zv_i h36 38 = zv_i h 38 := (zv_wi w37 rfl)
              have i41 : zv_i h36 41 = zv_i h 41 := (zv_wi w37 rfl)
              have i50 : zv_i h36 50 = zv_i h 50 := (zv_wi w37 rfl)
              have i25 : zv_i h36 25 = zv_i h 25 := (zv_wi w37 rfl)
              have y45 : zv_i h36 1 = zv_i h 1 := (zv_wi w37 rfl)
              have y46 : zv_a h36 61 8 = zv_a h 61 8 := (zv_wa w37 rfl 8)
              have a61 : ∀ j, 0 ≤ j → zv_a h36 61 j = zv_a h 61 j := fun j hj => by rw [zv_wa w37 rfl j]
              have a71 : ∀ j, 0 ≤ j → zv_a h36 71 j = zv_a h 71 j := fun j hj => by rw [zv_wa w37 rfl j]
              have b69 : ∀ j, 0 ≤ j → zv_b h36 69 j = zv_b h 69 j := fun j hj => by rw [zv_wb w37 rfl j]
              exact zr_vr (pc := 176) rfl rfl ⟨ih36, (w37.wd rfl : zb_W [(44, 25), (61, 0), (69, 0), (44, 50), (44, 14), (44, 42), (44, 43), (44, 49), (44, 41), (44, 38), (71, 0), (72, 0)] h _), rfl, by dsimp only; exact ⟨fun _ => zg_VI1 (i := (-1)) vw (by omega) (by omega) (fun j j0 => by rw [a61 j j0]) (fun j j0 => Or.inr (b69 j j0)) (by omega) (fun j j0 _ => by rw [a71 j j0]) (fun j j0 j1 j2 j3 => absurd j3 (by have d := zg_dk dz (by omega) (i := (-1)) (by omega) j0 j1 j2; omega)), (by omega), by omega, by omega, by omega, by omega, by omega⟩⟩
            · refine zx_T.l (i := .aload_n 0) (k := 1) (v := .ref 44) (pc := 115) rfl rfl rfl ?_
              refine zx_T.l (i := .iload_n 1) (k := 1) (v := .int (zI (p))) (pc := 116) rfl rfl rfl ?_
              refine zx_T.s (i := .iconst 2) (k := 1) (st' := [.int (zI (2)), .int (zI (p)), .ref 44]) (pc := 117) rfl rfl ?_
              refine zr_iv (cj := 211) (q' := zp_m211) (As := [.int (zI (p)), .int (zI (2))]) (rest := []) (pc := 118) rfl rfl rfl rfl rfl rfl (Nat.le_of_ble_eq_true rfl) rfl (Nat.le_of_ble_eq_true rfl) hI ((zm_refuse (h := h) hI (p := p) (q := 2) (by omega) (by omega) (by omega) (by omega) (by omega) (by omega) (by omega) (by omega)).up (Nat.le_of_ble_eq_true rfl)) ?_
              rintro r53 h56 ⟨ih56, w57, r53q, x55⟩
              subst r53q
              try dsimp only at x55
              have rf := x55
              show zx_T zp_P 5 zp_m212 121 [(6, .long (zL (zv_b h 69 (t + 1)))), (5, .int (zI (zv_b h 69 t))), (4, .int (zI (t))), (3, .int (zI (zv_a h 45 p))), (0, .ref 44), (1, .int (zI (p))), (2, .int (zI (t)))] [] h56 _
              refine zx_T.j (i := .goto 55) (k := 3) (pc' := 176) (st' := []) (pc := 121) rfl rfl rfl rfl rfl ?_
              have i42 : zv_i h56 42 = zv_i h56 42 := rfl
              have i43 : zv_i h56 43 = zv_i h56 43 := rfl
              have i38 : zv_i h56 38 = zv_i h56 38 := rfl
              have i41 : zv_i h56 41 = zv_i h56 41 := rfl
              have i50 : zv_i h56 50 = zv_i h56 50 := rfl
              have i25 : zv_i h56 25 = zv_i h56 25 := rfl
              have y64 : zv_i h56 1 = zv_i h 1 := (zv_wi w57 rfl)
              have a61 : ∀ j, 0 ≤ j → zv_a h56 61 j = zv_a h56 61 j := fun j hj => rfl
              have a71 : ∀ j, 0 ≤ j → zv_a h56 71 j = zv_a h56 71 j := fun j hj => rfl
              have b69 : ∀ j, 0 ≤ j → zv_b h56 69 j = zv_b h56 69 j := fun j hj => rfl
              exact zr_vr (pc := 176) rfl rfl ⟨ih56, (w57.wd rfl : zb_W [(44, 25), (61, 0), (69, 0), (44, 50), (44, 14), (44, 42), (44, 43), (44, 49), (44, 41), (44, 38), (71, 0), (72, 0)] h _), rfl, by dsimp only; exact zg_ae.rf hI rf (zg_lo dz vw (by omega) t1 (by omega)) x0⟩
        · refine zx_T.l (i := .aload_n 0) (k := 1) (v := .ref 44) (pc := 68) rfl rfl rfl ?_
          refine zr_gr (k := 36) (b := 69) (pc := 69) rfl rfl rfl hI ?_
          refine zx_T.l (i := .iload_n 2) (k := 1) (v := .int (zI (t))) (pc := 72) rfl rfl rfl ?_
          refine zx_T.l (i := .aload_n 0) (k := 1) (v := .ref 44) (pc := 73) rfl rfl rfl ?_
          refine zr_gr (k := 39) (b := 71) (pc := 74) rfl rfl rfl hI ?_
          refine zx_T.l (i := .iload 5) (k := 2) (v := .int (zI (zv_b h 69 t))) (pc := 77) rfl rfl rfl ?_
          refine zr_al (n := 400) (lo := (-2147483648)) (hi := 2147483647) (e := zv_a h 71 (zv_b h 69 t)) (pc := 79) rfl rfl rfl hI (by omega) (by omega) rfl (fun g69a g69b => ?_)
          refine zr_i2l (pc := 80) rfl (by omega) (by omega) ?_
          refine zr_ls (n := 14) (e := zv_a h 71 (zv_b h 69 t)) (pc := 81) rfl rfl rfl hI (by omega) (by omega) (fun h70 ih70 w71 s72 => ?_)
          have i42 : zv_i h70 42 = zv_i h 42 := (zv_wi w71 rfl)
          have i43 : zv_i h70 43 = zv_i h 43 := (zv_wi w71 rfl)
          have i38 : zv_i h70 38 = zv_i h 38 := (zv_wi w71 rfl)
          have i41 : zv_i h70 41 = zv_i h 41 := (zv_wi w71 rfl)
          have i50 : zv_i h70 50 = zv_i h 50 := (zv_wi w71 rfl)
          have i25 : zv_i h70 25 = zv_i h 25 := (zv_wi w71 rfl)
          have y79 : zv_i h70 1 = zv_i h 1 := (zv_wi w71 rfl)
          have y80 : zv_a h70 61 8 = zv_a h 61 8 := (zv_wa w71 rfl 8)
          have a61 : ∀ j, 0 ≤ j → zv_a h70 61 j = zv_a h 61 j := fun j hj => by rw [zv_wa w71 rfl j]
          have a71 : ∀ j, 0 ≤ j → zv_a h70 71 j = zv_a h 71 j := fun j hj => by rw [zv_wa w71 rfl j]
          have b69 : ∀ j, 0 ≤ j → zv_b h70 69 j = if j = t then (zL (zv_a h 71 (zv_b h 69 t))).toInt else zv_b h 69 j := fun j hj => by rw [s72 j hj]
          exact zr_vr (pc := 82) rfl rfl ⟨ih70, (w71.wd rfl : zb_W [(44, 25), (61, 0), (69, 0), (44, 50), (44, 14), (44, 42), (44, 43), (44, 49), (44, 41), (44, 38), (71, 0), (72, 0)] h _), rfl, by dsimp only; exact ⟨fun _ => zg_VI1 (i := t) vw (by omega) (by omega) (fun j j0 => by rw [a61 j j0]) (fun j j0 => by rw [b69 j j0]; by_cases z : j = t; exact Or.inl z; exact Or.inr (if_neg z)) (by omega) (fun j j0 _ => by rw [a71 j j0]) (fun j j0 j1 j2 j3 => absurd j3 (by have d := zg_dk dz (by omega) (i := t) (by omega) j0 j1 j2; omega)), (by omega), by omega, by omega, by omega, by omega, by omega⟩⟩
      · refine zx_T.l (i := .aload_n 0) (k := 1) (v := .ref 44) (pc := 45) rfl rfl rfl ?_
        refine zx_T.l (i := .iload_n 1) (k := 1) (v := .int (zI (p))) (pc := 46) rfl rfl rfl ?_
        refine zx_T.s (i := .iconst 1) (k := 1) (st' := [.int (zI (1)), .int (zI (p)), .ref 44]) (pc := 47) rfl rfl ?_
        refine zr_iv (cj := 211) (q' := zp_m211) (As := [.int (zI (p)), .int (zI (1))]) (rest := []) (pc := 48) rfl rfl rfl rfl rfl rfl (Nat.le_of_ble_eq_true rfl) rfl (Nat.le_of_ble_eq_true rfl) hI ((zm_refuse (h := h) hI (p := p) (q := 1) (by omega) (by omega) (by omega) (by omega) (by omega) (by omega) (by omega) (by omega)).up (Nat.le_of_ble_eq_true rfl)) ?_
        rintro r87 h90 ⟨ih90, w91, r87q, x89⟩
        subst r87q
        try dsimp only at x89
        have rf := x89
        show zx_T zp_P 5 zp_m212 51 [(4, .int (zI (t))), (3, .int (zI (zv_a h 45 p))), (0, .ref 44), (1, .int (zI (p))), (2, .int (zI (t)))] [] h90 _
        have i42 : zv_i h90 42 = zv_i h90 42 := rfl
        have i43 : zv_i h90 43 = zv_i h90 43 := rfl
        have i38 : zv_i h90 38 = zv_i h90 38 := rfl
        have i41 : zv_i h90 41 = zv_i h90 41 := rfl
        have i50 : zv_i h90 50 = zv_i h90 50 := rfl
        have i25 : zv_i h90 25 = zv_i h90 25 := rfl
        have y98 : zv_i h90 1 = zv_i h 1 := (zv_wi w91 rfl)
        have a61 : ∀ j, 0 ≤ j → zv_a h90 61 j = zv_a h90 61 j := fun j hj => rfl
        have a71 : ∀ j, 0 ≤ j → zv_a h90 71 j = zv_a h90 71 j := fun j hj => rfl
        have b69 : ∀ j, 0 ≤ j → zv_b h90 69 j = zv_b h90 69 j := fun j hj => rfl
        exact zr_vr (pc := 51) rfl rfl ⟨ih90, (w91.wd rfl : zb_W [(44, 25), (61, 0), (69, 0), (44, 50), (44, 14), (44, 42), (44, 43), (44, 49), (44, 41), (44, 38), (71, 0), (72, 0)] h _), rfl, by dsimp only; exact zg_ae.rf hI rf (zg_lo dz vw (by omega) t1 (by omega)) x0⟩
    · refine zx_T.l (i := .iload_n 2) (k := 1) (v := .int (zI (t))) (pc := 25) rfl rfl rfl ?_
      refine zx_T.s (i := .iconst 2) (k := 1) (st' := [.int (zI (2)), .int (zI (t))]) (pc := 26) rfl rfl ?_
      refine zr_sub (x := t) (y := 2) (e := t - 2) (pc := 27) rfl (by omega) ?_
      refine zx_T.j (i := .goto 4) (k := 3) (pc' := 32) (st' := [.int (zI (t - 2))]) (pc := 28) rfl rfl rfl rfl rfl ?_
      refine zx_T.t (i := .istore 4) (k := 2) (ls' := [(4, .int (zI (t - 2))), (3, .int (zI (zv_a h 45 p))), (0, .ref 44), (1, .int (zI (p))), (2, .int (zI (t)))]) (st' := []) (pc := 32) rfl rfl rfl rfl ?_
      refine zx_T.l (i := .aload_n 0) (k := 1) (v := .ref 44) (pc := 34) rfl rfl rfl ?_
      refine zr_gr (k := 37) (b := 70) (pc := 35) rfl rfl rfl hI ?_
      refine zx_T.l (i := .iload 4) (k := 2) (v := .int (zI (t - 2))) (pc := 38) rfl rfl rfl ?_
      refine zr_al (n := 14) (lo := 0) (hi := 8) (e := zv_a h 70 (t - 2)) (pc := 40) rfl rfl rfl hI (by omega) (by omega) rfl (fun g103a g103b => ?_)
      refine zx_T.s (i := .iconst 4) (k := 1) (st' := [.int (zI (4)), .int (zI (zv_a h 70 (t - 2)))]) (pc := 41) rfl rfl ?_
      refine zr_i2 (x := zv_a h 70 (t - 2)) (y := 4) (t := 52) (pc := 42) rfl rfl (by omega) (by omega) (by omega) (by omega) (fun (c104 : ¬ (zv_a h 70 (t - 2)) = 4) => ?_) (fun (c104 : ¬ (¬ (zv_a h 70 (t - 2)) = 4)) => ?_)
      · have v6 : zv_a h 70 (t - 2) = 6 := by have d2 := dz.2.1 (t - 2) (by omega); have d3 := And.intro d2.1 (And.intro d2.2.1 d2.2.2.1); clear d2; omega
        have vb := vw (t - 2) (by omega) (by omega) (by omega)
        have vo1 := vb.1
        have vo2 := vb.2.1
        have vo3 := vb.2.2 v6
        refine zx_T.l (i := .aload_n 0) (k := 1) (v := .ref 44) (pc := 52) rfl rfl rfl ?_
        refine zr_gr (k := 36) (b := 69) (pc := 53) rfl rfl rfl hI ?_
        refine zx_T.l (i := .iload 4) (k := 2) (v := .int (zI (t - 2))) (pc := 56) rfl rfl rfl ?_
        have g105 := zv_rb (h := h) 69 (t - 2)
        refine zr_ll (n := 14) (e := zv_b h 69 (t - 2)) (pc := 58) rfl rfl rfl hI (by omega) (by omega) rfl ?_
        refine zr_l2i (pc := 59) rfl ?_
        refine zx_T.t (i := .istore 5) (k := 2) (ls' := [(5, .int (zI (zv_b h 69 (t - 2)))), (4, .int (zI (t - 2))), (3, .int (zI (zv_a h 45 p))), (0, .ref 44), (1, .int (zI (p))), (2, .int (zI (t)))]) (st' := []) (pc := 60) rfl rfl rfl rfl ?_
        refine zx_T.l (i := .iload_n 3) (k := 1) (v := .int (zI (zv_a h 45 p))) (pc := 62) rfl rfl rfl ?_
        refine zx_T.s (i := .bipush 19) (k := 2) (st' := [.int (zI (19)), .int (zI (zv_a h 45 p))]) (pc := 63) rfl rfl ?_
        refine zr_i2 (x := zv_a h 45 p) (y := 19) (t := 83) (pc := 65) rfl rfl (by omega) (by omega) (by omega) (by omega) (fun (c106 : ¬ (zv_a h 45 p) = 19) => ?_) (fun (c106 : ¬ (¬ (zv_a h 45 p) = 19)) => False.elim (by omega))
        refine zx_T.l (i := .aload_n 0) (k := 1) (v := .ref 44) (pc := 83) rfl rfl rfl ?_
        refine zr_gr (k := 36) (b := 69) (pc := 84) rfl rfl rfl hI ?_
        refine zx_T.l (i := .iload 4) (k := 2) (v := .int (zI (t - 2))) (pc := 87) rfl rfl rfl ?_
        refine zx_T.s (i := .iconst 1) (k := 1) (st' := [.int (zI (1)), .int (zI (t - 2)), .ref 69]) (pc := 89) rfl rfl ?_
        refine zr_add (x := t - 2) (y := 1) (e := t - 1) (pc := 90) rfl (by omega) ?_
        have g107 := zv_rb (h := h) 69 (t - 1)
        refine zr_ll (n := 14) (e := zv_b h 69 (t - 1)) (pc := 91) rfl rfl rfl hI (by omega) (by omega) rfl ?_
        refine zx_T.t (i := .lstore 6) (k := 2) (ls' := [(6, .long (zL (zv_b h 69 (t - 1)))), (5, .int (zI (zv_b h 69 (t - 2)))), (4, .int (zI (t - 2))), (3, .int (zI (zv_a h 45 p))), (0, .ref 44), (1, .int (zI (p))), (2, .int (zI (t)))]) (st' := []) (pc := 92) rfl rfl rfl rfl ?_
        refine zx_T.l (i := .lload 6) (k := 2) (v := .long (zL (zv_b h 69 (t - 1)))) (pc := 94) rfl rfl rfl ?_
        refine zx_T.s (i := .lconst 0) (k := 1) (st' := [.long (zL (0)), .long (zL (zv_b h 69 (t - 1)))]) (pc := 96) rfl rfl ?_
        refine zr_lcmp (pc := 97) rfl (by omega) (by omega) (by omega) (by omega) (fun z108 z108a => ?_)
        refine zr_i1 (x := z108) (t := 115) (pc := 98) rfl rfl (by omega) (by omega) (fun (c109 : z108 < 0) => ?_) (fun (c109 : ¬ (z108 < 0)) => ?_)
        · refine zx_T.l (i := .aload_n 0) (k := 1) (v := .ref 44) (pc := 115) rfl rfl rfl ?_
          refine zx_T.l (i := .iload_n 1) (k := 1) (v := .int (zI (p))) (pc := 116) rfl rfl rfl ?_
          refine zx_T.s (i := .iconst 2) (k := 1) (st' := [.int (zI (2)), .int (zI (p)), .ref 44]) (pc := 117) rfl rfl ?_
          refine zr_iv (cj := 211) (q' := zp_m211) (As := [.int (zI (p)), .int (zI (2))]) (rest := []) (pc := 118) rfl rfl rfl rfl rfl rfl (Nat.le_of_ble_eq_true rfl) rfl (Nat.le_of_ble_eq_true rfl) hI ((zm_refuse (h := h) hI (p := p) (q := 2) (by omega) (by omega) (by omega) (by omega) (by omega) (by omega) (by omega) (by omega)).up (Nat.le_of_ble_eq_true rfl)) ?_
          rintro r113 h116 ⟨ih116, w117, r113q, x115⟩
          subst r113q
          try dsimp only at x115
          have rf := x115
          show zx_T zp_P 5 zp_m212 121 [(6, .long (zL (zv_b h 69 (t - 1)))), (5, .int (zI (zv_b h 69 (t - 2)))), (4, .int (zI (t - 2))), (3, .int (zI (zv_a h 45 p))), (0, .ref 44), (1, .int (zI (p))), (2, .int (zI (t)))] [] h116 _
          refine zx_T.j (i := .goto 55) (k := 3) (pc' := 176) (st' := []) (pc := 121) rfl rfl rfl rfl rfl ?_
          have i42 : zv_i h116 42 = zv_i h116 42 := rfl
          have i43 : zv_i h116 43 = zv_i h116 43 := rfl
          have i38 : zv_i h116 38 = zv_i h116 38 := rfl
          have i41 : zv_i h116 41 = zv_i h116 41 := rfl
          have i50 : zv_i h116 50 = zv_i h116 50 := rfl
          have i25 : zv_i h116 25 = zv_i h116 25 := rfl
          have y124 : zv_i h116 1 = zv_i h 1 := (zv_wi w117 rfl)
          have a61 : ∀ j, 0 ≤ j → zv_a h116 61 j = zv_a h116 61 j := fun j hj => rfl
          have a71 : ∀ j, 0 ≤ j → zv_a h116 71 j = zv_a h116 71 j := fun j hj => rfl
          have b69 : ∀ j, 0 ≤ j → zv_b h116 69 j = zv_b h116 69 j := fun j hj => rfl
          exact zr_vr (pc := 176) rfl rfl ⟨ih116, (w117.wd rfl : zb_W [(44, 25), (61, 0), (69, 0), (44, 50), (44, 14), (44, 42), (44, 43), (44, 49), (44, 41), (44, 38), (71, 0), (72, 0)] h _), rfl, by dsimp only; exact zg_ae.rf hI rf (zg_lo dz vw (by omega) t1 (by omega)) x0⟩
        · refine zx_T.l (i := .lload 6) (k := 2) (v := .long (zL (zv_b h 69 (t - 1)))) (pc := 101) rfl rfl rfl ?_
          refine zx_T.l (i := .aload_n 0) (k := 1) (v := .ref 44) (pc := 103) rfl rfl rfl ?_
          refine zr_gr (k := 39) (b := 71) (pc := 104) rfl rfl rfl hI ?_
          refine zx_T.l (i := .iload 5) (k := 2) (v := .int (zI (zv_b h 69 (t - 2)))) (pc := 107) rfl rfl rfl ?_
          refine zr_al (n := 400) (lo := (-2147483648)) (hi := 2147483647) (e := zv_a h 71 (zv_b h 69 (t - 2))) (pc := 109) rfl rfl rfl hI (by omega) (by omega) rfl (fun g129a g129b => ?_)
          refine zr_i2l (pc := 110) rfl (by omega) (by omega) ?_
          refine zr_lcmp (pc := 111) rfl (by omega) (by omega) (by omega) (by omega) (fun z130 z130a => ?_)
          refine zr_i1 (x := z130) (t := 124) (pc := 112) rfl rfl (by omega) (by omega) (fun (c131 : z130 < 0) => ?_) (fun (c131 : ¬ (z130 < 0)) => ?_)
          · refine zx_T.l (i := .iload_n 3) (k := 1) (v := .int (zI (zv_a h 45 p))) (pc := 124) rfl rfl rfl ?_
            refine zx_T.s (i := .bipush 17) (k := 2) (st' := [.int (zI (17)), .int (zI (zv_a h 45 p))]) (pc := 125) rfl rfl ?_
            refine zr_i2 (x := zv_a h 45 p) (y := 17) (t := 155) (pc := 127) rfl rfl (by omega) (by omega) (by omega) (by omega) (fun (c132 : ¬ (zv_a h 45 p) = 17) => ?_) (fun (c132 : ¬ (¬ (zv_a h 45 p) = 17)) => False.elim (by omega))
            refine zx_T.l (i := .aload_n 0) (k := 1) (v := .ref 44) (pc := 155) rfl rfl rfl ?_
            refine zr_gr (k := 40) (b := 72) (pc := 156) rfl rfl rfl hI ?_
            refine zx_T.s (i := .bipush 20) (k := 2) (st' := [.int (zI (20)), .ref 72]) (pc := 159) rfl rfl ?_
            refine zx_T.l (i := .iload 5) (k := 2) (v := .int (zI (zv_b h 69 (t - 2)))) (pc := 161) rfl rfl rfl ?_
            refine zr_mul (x := 20) (y := zv_b h 69 (t - 2)) (e := 20 * (zv_b h 69 (t - 2))) (pc := 163) rfl (by omega) ?_
            refine zx_T.l (i := .lload 6) (k := 2) (v := .long (zL (zv_b h 69 (t - 1)))) (pc := 164) rfl rfl rfl ?_
            refine zr_l2i (pc := 166) rfl ?_
            refine zr_add (x := 20 * (zv_b h 69 (t - 2))) (y := zv_b h 69 (t - 1)) (e := 20 * (zv_b h 69 (t - 2)) + zv_b h 69 (t - 1)) (pc := 167) rfl (by omega) ?_
            refine zx_T.l (i := .aload_n 0) (k := 1) (v := .ref 44) (pc := 168) rfl rfl rfl ?_
            refine zr_gr (k := 36) (b := 69) (pc := 169) rfl rfl rfl hI ?_
            refine zx_T.l (i := .iload_n 2) (k := 1) (v := .int (zI (t))) (pc := 172) rfl rfl rfl ?_
            have g133 := zv_rb (h := h) 69 t
            refine zr_ll (n := 14) (e := zv_b h 69 t) (pc := 173) rfl rfl rfl hI (by omega) (by omega) rfl ?_
            refine zr_l2i (pc := 174) rfl ?_
            refine zr_any (fun z134 z134a z134b => ?_)
            refine zr_as (n := 8000) (lo := (-2147483648)) (hi := 2147483647) (e := z134) (pc := 175) rfl rfl rfl rfl hI (by omega) (by omega) (by omega) (by omega) (fun h135 ih135 w136 s137 => ?_)
            have i42 : zv_i h135 42 = zv_i h 42 := (zv_wi w136 rfl)
            have i43 : zv_i h135 43 = zv_i h 43 := (zv_wi w136 rfl)
            have i38 : zv_i h135 38 = zv_i h 38 := (zv_wi w136 rfl)
            have i41 : zv_i h135 41 = zv_i h 41 := (zv_wi w136 rfl)
            have i50 : zv_i h135 50 = zv_i h 50 := (zv_wi w136 rfl)
            have i25 : zv_i h135 25 = zv_i h 25 := (zv_wi w136 rfl)
            have y144 : zv_i h135 1 = zv_i h 1 := (zv_wi w136 rfl)
            have y145 : zv_a h135 61 8 = zv_a h 61 8 := (zv_wa w136 rfl 8)
            have a61 : ∀ j, 0 ≤ j → zv_a h135 61 j = zv_a h 61 j := fun j hj => by rw [zv_wa w136 rfl j]
            have a71 : ∀ j, 0 ≤ j → zv_a h135 71 j = zv_a h 71 j := fun j hj => by rw [zv_wa w136 rfl j]
            have b69 : ∀ j, 0 ≤ j → zv_b h135 69 j = zv_b h 69 j := fun j hj => by rw [zv_wb w136 rfl j]
            exact zr_vr (pc := 176) rfl rfl ⟨ih135, (w136.wd rfl : zb_W [(44, 25), (61, 0), (69, 0), (44, 50), (44, 14), (44, 42), (44, 43), (44, 49), (44, 41), (44, 38), (71, 0), (72, 0)] h _), rfl, by dsimp only; exact ⟨fun _ => zg_VI1 (i := (-1)) vw (by omega) (by omega) (fun j j0 => by rw [a61 j j0]) (fun j j0 => Or.inr (b69 j j0)) (by omega) (fun j j0 _ => by rw [a71 j j0]) (fun j j0 j1 j2 j3 => absurd j3 (by have d := zg_dk dz (by omega) (i := (-1)) (by omega) j0 j1 j2; omega)), (by omega), by omega, by omega, by omega, by omega, by omega⟩⟩
          · refine zx_T.l (i := .aload_n 0) (k := 1) (v := .ref 44) (pc := 115) rfl rfl rfl ?_
            refine zx_T.l (i := .iload_n 1) (k := 1) (v := .int (zI (p))) (pc := 116) rfl rfl rfl ?_
            refine zx_T.s (i := .iconst 2) (k := 1) (st' := [.int (zI (2)), .int (zI (p)), .ref 44]) (pc := 117) rfl rfl ?_
            refine zr_iv (cj := 211) (q' := zp_m211) (As := [.int (zI (p)), .int (zI (2))]) (rest := []) (pc := 118) rfl rfl rfl rfl rfl rfl (Nat.le_of_ble_eq_true rfl) rfl (Nat.le_of_ble_eq_true rfl) hI ((zm_refuse (h := h) hI (p := p) (q := 2) (by omega) (by omega) (by omega) (by omega) (by omega) (by omega) (by omega) (by omega)).up (Nat.le_of_ble_eq_true rfl)) ?_
            rintro r152 h155 ⟨ih155, w156, r152q, x154⟩
            subst r152q
            try dsimp only at x154
            have rf := x154
            show zx_T zp_P 5 zp_m212 121 [(6, .long (zL (zv_b h 69 (t - 1)))), (5, .int (zI (zv_b h 69 (t - 2)))), (4, .int (zI (t - 2))), (3, .int (zI (zv_a h 45 p))), (0, .ref 44), (1, .int (zI (p))), (2, .int (zI (t)))] [] h155 _
            refine zx_T.j (i := .goto 55) (k := 3) (pc' := 176) (st' := []) (pc := 121) rfl rfl rfl rfl rfl ?_
            have i42 : zv_i h155 42 = zv_i h155 42 := rfl
            have i43 : zv_i h155 43 = zv_i h155 43 := rfl
            have i38 : zv_i h155 38 = zv_i h155 38 := rfl
            have i41 : zv_i h155 41 = zv_i h155 41 := rfl
            have i50 : zv_i h155 50 = zv_i h155 50 := rfl
            have i25 : zv_i h155 25 = zv_i h155 25 := rfl
            have y163 : zv_i h155 1 = zv_i h 1 := (zv_wi w156 rfl)
            have a61 : ∀ j, 0 ≤ j → zv_a h155 61 j = zv_a h155 61 j := fun j hj => rfl
            have a71 : ∀ j, 0 ≤ j → zv_a h155 71 j = zv_a h155 71 j := fun j hj => rfl
            have b69 : ∀ j, 0 ≤ j → zv_b h155 69 j = zv_b h155 69 j := fun j hj => rfl
            exact zr_vr (pc := 176) rfl rfl ⟨ih155, (w156.wd rfl : zb_W [(44, 25), (61, 0), (69, 0), (44, 50), (44, 14), (44, 42), (44, 43), (44, 49), (44, 41), (44, 38), (71, 0), (72, 0)] h _), rfl, by dsimp only; exact zg_ae.rf hI rf (zg_lo dz vw (by omega) t1 (by omega)) x0⟩
      · refine zx_T.l (i := .aload_n 0) (k := 1) (v := .ref 44) (pc := 45) rfl rfl rfl ?_
        refine zx_T.l (i := .iload_n 1) (k := 1) (v := .int (zI (p))) (pc := 46) rfl rfl rfl ?_
        refine zx_T.s (i := .iconst 1) (k := 1) (st' := [.int (zI (1)), .int (zI (p)), .ref 44]) (pc := 47) rfl rfl ?_
        refine zr_iv (cj := 211) (q' := zp_m211) (As := [.int (zI (p)), .int (zI (1))]) (rest := []) (pc := 48) rfl rfl rfl rfl rfl rfl (Nat.le_of_ble_eq_true rfl) rfl (Nat.le_of_ble_eq_true rfl) hI ((zm_refuse (h := h) hI (p := p) (q := 1) (by omega) (by omega) (by omega) (by omega) (by omega) (by omega) (by omega) (by omega)).up (Nat.le_of_ble_eq_true rfl)) ?_
        rintro r171 h174 ⟨ih174, w175, r171q, x173⟩
        subst r171q
        try dsimp only at x173
        have rf := x173
        show zx_T zp_P 5 zp_m212 51 [(4, .int (zI (t - 2))), (3, .int (zI (zv_a h 45 p))), (0, .ref 44), (1, .int (zI (p))), (2, .int (zI (t)))] [] h174 _
        have i42 : zv_i h174 42 = zv_i h174 42 := rfl
        have i43 : zv_i h174 43 = zv_i h174 43 := rfl
        have i38 : zv_i h174 38 = zv_i h174 38 := rfl
        have i41 : zv_i h174 41 = zv_i h174 41 := rfl
        have i50 : zv_i h174 50 = zv_i h174 50 := rfl
        have i25 : zv_i h174 25 = zv_i h174 25 := rfl
        have y182 : zv_i h174 1 = zv_i h 1 := (zv_wi w175 rfl)
        have a61 : ∀ j, 0 ≤ j → zv_a h174 61 j = zv_a h174 61 j := fun j hj => rfl
        have a71 : ∀ j, 0 ≤ j → zv_a h174 71 j = zv_a h174 71 j := fun j hj => rfl
        have b69 : ∀ j, 0 ≤ j → zv_b h174 69 j = zv_b h174 69 j := fun j hj => rfl
        exact zr_vr (pc := 51) rfl rfl ⟨ih174, (w175.wd rfl : zb_W [(44, 25), (61, 0), (69, 0), (44, 50), (44, 14), (44, 42), (44, 43), (44, 49), (44, 41), (44, 38), (71, 0), (72, 0)] h _), rfl, by dsimp only; exact zg_ae.rf hI rf (zg_lo dz vw (by omega) t1 (by omega)) x0⟩
  · refine zx_T.l (i := .iload_n 2) (k := 1) (v := .int (zI (t))) (pc := 13) rfl rfl rfl ?_
    refine zx_T.s (i := .iconst 1) (k := 1) (st' := [.int (zI (1)), .int (zI (t))]) (pc := 14) rfl rfl ?_
    refine zr_sub (x := t) (y := 1) (e := t - 1) (pc := 15) rfl (by omega) ?_
    refine zx_T.j (i := .goto 16) (k := 3) (pc' := 32) (st' := [.int (zI (t - 1))]) (pc := 16) rfl rfl rfl rfl rfl ?_
    refine zx_T.t (i := .istore 4) (k := 2) (ls' := [(4, .int (zI (t - 1))), (3, .int (zI (zv_a h 45 p))), (0, .ref 44), (1, .int (zI (p))), (2, .int (zI (t)))]) (st' := []) (pc := 32) rfl rfl rfl rfl ?_
    refine zx_T.l (i := .aload_n 0) (k := 1) (v := .ref 44) (pc := 34) rfl rfl rfl ?_
    refine zr_gr (k := 37) (b := 70) (pc := 35) rfl rfl rfl hI ?_
    refine zx_T.l (i := .iload 4) (k := 2) (v := .int (zI (t - 1))) (pc := 38) rfl rfl rfl ?_
    refine zr_al (n := 14) (lo := 0) (hi := 8) (e := zv_a h 70 (t - 1)) (pc := 40) rfl rfl rfl hI (by omega) (by omega) rfl (fun g187a g187b => ?_)
    refine zx_T.s (i := .iconst 4) (k := 1) (st' := [.int (zI (4)), .int (zI (zv_a h 70 (t - 1)))]) (pc := 41) rfl rfl ?_
    refine zr_i2 (x := zv_a h 70 (t - 1)) (y := 4) (t := 52) (pc := 42) rfl rfl (by omega) (by omega) (by omega) (by omega) (fun (c188 : ¬ (zv_a h 70 (t - 1)) = 4) => ?_) (fun (c188 : ¬ (¬ (zv_a h 70 (t - 1)) = 4)) => ?_)
    · have v6 : zv_a h 70 (t - 1) = 6 := by have d2 := dz.2.1 (t - 1) (by omega); have d3 := And.intro d2.1 (And.intro d2.2.1 d2.2.2.1); clear d2; omega
      have vb := vw (t - 1) (by omega) (by omega) (by omega)
      have vo1 := vb.1
      have vo2 := vb.2.1
      have vo3 := vb.2.2 v6
      refine zx_T.l (i := .aload_n 0) (k := 1) (v := .ref 44) (pc := 52) rfl rfl rfl ?_
      refine zr_gr (k := 36) (b := 69) (pc := 53) rfl rfl rfl hI ?_
      refine zx_T.l (i := .iload 4) (k := 2) (v := .int (zI (t - 1))) (pc := 56) rfl rfl rfl ?_
      have g189 := zv_rb (h := h) 69 (t - 1)
      refine zr_ll (n := 14) (e := zv_b h 69 (t - 1)) (pc := 58) rfl rfl rfl hI (by omega) (by omega) rfl ?_
      refine zr_l2i (pc := 59) rfl ?_
      refine zx_T.t (i := .istore 5) (k := 2) (ls' := [(5, .int (zI (zv_b h 69 (t - 1)))), (4, .int (zI (t - 1))), (3, .int (zI (zv_a h 45 p))), (0, .ref 44), (1, .int (zI (p))), (2, .int (zI (t)))]) (st' := []) (pc := 60) rfl rfl rfl rfl ?_
      refine zx_T.l (i := .iload_n 3) (k := 1) (v := .int (zI (zv_a h 45 p))) (pc := 62) rfl rfl rfl ?_
      refine zx_T.s (i := .bipush 19) (k := 2) (st' := [.int (zI (19)), .int (zI (zv_a h 45 p))]) (pc := 63) rfl rfl ?_
      refine zr_i2 (x := zv_a h 45 p) (y := 19) (t := 83) (pc := 65) rfl rfl (by omega) (by omega) (by omega) (by omega) (fun (c190 : ¬ (zv_a h 45 p) = 19) => ?_) (fun (c190 : ¬ (¬ (zv_a h 45 p) = 19)) => False.elim (by omega))
      refine zx_T.l (i := .aload_n 0) (k := 1) (v := .ref 44) (pc := 83) rfl rfl rfl ?_
      refine zr_gr (k := 36) (b := 69) (pc := 84) rfl rfl rfl hI ?_
      refine zx_T.l (i := .iload 4) (k := 2) (v := .int (zI (t - 1))) (pc := 87) rfl rfl rfl ?_
      refine zx_T.s (i := .iconst 1) (k := 1) (st' := [.int (zI (1)), .int (zI (t - 1)), .ref 69]) (pc := 89) rfl rfl ?_
      refine zr_add (x := t - 1) (y := 1) (e := t) (pc := 90) rfl (by omega) ?_
      have g191 := zv_rb (h := h) 69 t
      refine zr_ll (n := 14) (e := zv_b h 69 t) (pc := 91) rfl rfl rfl hI (by omega) (by omega) rfl ?_
      refine zx_T.t (i := .lstore 6) (k := 2) (ls' := [(6, .long (zL (zv_b h 69 t))), (5, .int (zI (zv_b h 69 (t - 1)))), (4, .int (zI (t - 1))), (3, .int (zI (zv_a h 45 p))), (0, .ref 44), (1, .int (zI (p))), (2, .int (zI (t)))]) (st' := []) (pc := 92) rfl rfl rfl rfl ?_
      refine zx_T.l (i := .lload 6) (k := 2) (v := .long (zL (zv_b h 69 t))) (pc := 94) rfl rfl rfl ?_
      refine zx_T.s (i := .lconst 0) (k := 1) (st' := [.long (zL (0)), .long (zL (zv_b h 69 t))]) (pc := 96) rfl rfl ?_
      refine zr_lcmp (pc := 97) rfl (by omega) (by omega) (by omega) (by omega) (fun z192 z192a => ?_)
      refine zr_i1 (x := z192) (t := 115) (pc := 98) rfl rfl (by omega) (by omega) (fun (c193 : z192 < 0) => ?_) (fun (c193 : ¬ (z192 < 0)) => ?_)
      · refine zx_T.l (i := .aload_n 0) (k := 1) (v := .ref 44) (pc := 115) rfl rfl rfl ?_
        refine zx_T.l (i := .iload_n 1) (k := 1) (v := .int (zI (p))) (pc := 116) rfl rfl rfl ?_
        refine zx_T.s (i := .iconst 2) (k := 1) (st' := [.int (zI (2)), .int (zI (p)), .ref 44]) (pc := 117) rfl rfl ?_
        refine zr_iv (cj := 211) (q' := zp_m211) (As := [.int (zI (p)), .int (zI (2))]) (rest := []) (pc := 118) rfl rfl rfl rfl rfl rfl (Nat.le_of_ble_eq_true rfl) rfl (Nat.le_of_ble_eq_true rfl) hI ((zm_refuse (h := h) hI (p := p) (q := 2) (by omega) (by omega) (by omega) (by omega) (by omega) (by omega) (by omega) (by omega)).up (Nat.le_of_ble_eq_true rfl)) ?_
        rintro r197 h200 ⟨ih200, w201, r197q, x199⟩
        subst r197q
        try dsimp only at x199
        have rf := x199
        show zx_T zp_P 5 zp_m212 121 [(6, .long (zL (zv_b h 69 t))), (5, .int (zI (zv_b h 69 (t - 1)))), (4, .int (zI (t - 1))), (3, .int (zI (zv_a h 45 p))), (0, .ref 44), (1, .int (zI (p))), (2, .int (zI (t)))] [] h200 _
        refine zx_T.j (i := .goto 55) (k := 3) (pc' := 176) (st' := []) (pc := 121) rfl rfl rfl rfl rfl ?_
        have i42 : zv_i h200 42 = zv_i h200 42 := rfl
        have i43 : zv_i h200 43 = zv_i h200 43 := rfl
        have i38 : zv_i h200 38 = zv_i h200 38 := rfl
        have i41 : zv_i h200 41 = zv_i h200 41 := rfl
        have i50 : zv_i h200 50 = zv_i h200 50 := rfl
        have i25 : zv_i h200 25 = zv_i h200 25 := rfl
        have y208 : zv_i h200 1 = zv_i h 1 := (zv_wi w201 rfl)
        have a61 : ∀ j, 0 ≤ j → zv_a h200 61 j = zv_a h200 61 j := fun j hj => rfl
        have a71 : ∀ j, 0 ≤ j → zv_a h200 71 j = zv_a h200 71 j := fun j hj => rfl
        have b69 : ∀ j, 0 ≤ j → zv_b h200 69 j = zv_b h200 69 j := fun j hj => rfl
        exact zr_vr (pc := 176) rfl rfl ⟨ih200, (w201.wd rfl : zb_W [(44, 25), (61, 0), (69, 0), (44, 50), (44, 14), (44, 42), (44, 43), (44, 49), (44, 41), (44, 38), (71, 0), (72, 0)] h _), rfl, by dsimp only; exact zg_ae.rf hI rf (zg_lo dz vw (by omega) t1 (by omega)) x0⟩
      · refine zx_T.l (i := .lload 6) (k := 2) (v := .long (zL (zv_b h 69 t))) (pc := 101) rfl rfl rfl ?_
        refine zx_T.l (i := .aload_n 0) (k := 1) (v := .ref 44) (pc := 103) rfl rfl rfl ?_
        refine zr_gr (k := 39) (b := 71) (pc := 104) rfl rfl rfl hI ?_
        refine zx_T.l (i := .iload 5) (k := 2) (v := .int (zI (zv_b h 69 (t - 1)))) (pc := 107) rfl rfl rfl ?_
        refine zr_al (n := 400) (lo := (-2147483648)) (hi := 2147483647) (e := zv_a h 71 (zv_b h 69 (t - 1))) (pc := 109) rfl rfl rfl hI (by omega) (by omega) rfl (fun g213a g213b => ?_)
        refine zr_i2l (pc := 110) rfl (by omega) (by omega) ?_
        refine zr_lcmp (pc := 111) rfl (by omega) (by omega) (by omega) (by omega) (fun z214 z214a => ?_)
        refine zr_i1 (x := z214) (t := 124) (pc := 112) rfl rfl (by omega) (by omega) (fun (c215 : z214 < 0) => ?_) (fun (c215 : ¬ (z214 < 0)) => ?_)
        · refine zx_T.l (i := .iload_n 3) (k := 1) (v := .int (zI (zv_a h 45 p))) (pc := 124) rfl rfl rfl ?_
          refine zx_T.s (i := .bipush 17) (k := 2) (st' := [.int (zI (17)), .int (zI (zv_a h 45 p))]) (pc := 125) rfl rfl ?_
          refine zr_i2 (x := zv_a h 45 p) (y := 17) (t := 155) (pc := 127) rfl rfl (by omega) (by omega) (by omega) (by omega) (fun (c216 : ¬ (zv_a h 45 p) = 17) => False.elim (by omega)) (fun (c216 : ¬ (¬ (zv_a h 45 p) = 17)) => ?_)
          refine zx_T.l (i := .aload_n 0) (k := 1) (v := .ref 44) (pc := 130) rfl rfl rfl ?_
          refine zr_gr (k := 36) (b := 69) (pc := 131) rfl rfl rfl hI ?_
          refine zx_T.l (i := .iload 4) (k := 2) (v := .int (zI (t - 1))) (pc := 134) rfl rfl rfl ?_
          refine zx_T.l (i := .aload_n 0) (k := 1) (v := .ref 44) (pc := 136) rfl rfl rfl ?_
          refine zr_gr (k := 40) (b := 72) (pc := 137) rfl rfl rfl hI ?_
          refine zx_T.s (i := .bipush 20) (k := 2) (st' := [.int (zI (20)), .ref 72, .int (zI (t - 1)), .ref 69]) (pc := 140) rfl rfl ?_
          refine zx_T.l (i := .iload 5) (k := 2) (v := .int (zI (zv_b h 69 (t - 1)))) (pc := 142) rfl rfl rfl ?_
          refine zr_mul (x := 20) (y := zv_b h 69 (t - 1)) (e := 20 * (zv_b h 69 (t - 1))) (pc := 144) rfl (by omega) ?_
          refine zx_T.l (i := .lload 6) (k := 2) (v := .long (zL (zv_b h 69 t))) (pc := 145) rfl rfl rfl ?_
          refine zr_l2i (pc := 147) rfl ?_
          refine zr_add (x := 20 * (zv_b h 69 (t - 1))) (y := zv_b h 69 t) (e := 20 * (zv_b h 69 (t - 1)) + zv_b h 69 t) (pc := 148) rfl (by omega) ?_
          refine zr_al (n := 8000) (lo := (-2147483648)) (hi := 2147483647) (e := zv_a h 72 (20 * (zv_b h 69 (t - 1)) + zv_b h 69 t)) (pc := 149) rfl rfl rfl hI (by omega) (by omega) rfl (fun g217a g217b => ?_)
          refine zr_i2l (pc := 150) rfl (by omega) (by omega) ?_
          refine zr_ls (n := 14) (e := zv_a h 72 (20 * (zv_b h 69 (t - 1)) + zv_b h 69 t)) (pc := 151) rfl rfl rfl hI (by omega) (by omega) (fun h218 ih218 w219 s220 => ?_)
          refine zx_T.j (i := .goto 24) (k := 3) (pc' := 176) (st' := []) (pc := 152) rfl rfl rfl rfl rfl ?_
          have i42 : zv_i h218 42 = zv_i h 42 := (zv_wi w219 rfl)
          have i43 : zv_i h218 43 = zv_i h 43 := (zv_wi w219 rfl)
          have i38 : zv_i h218 38 = zv_i h 38 := (zv_wi w219 rfl)
          have i41 : zv_i h218 41 = zv_i h 41 := (zv_wi w219 rfl)
          have i50 : zv_i h218 50 = zv_i h 50 := (zv_wi w219 rfl)
          have i25 : zv_i h218 25 = zv_i h 25 := (zv_wi w219 rfl)
          have y227 : zv_i h218 1 = zv_i h 1 := (zv_wi w219 rfl)
          have y228 : zv_a h218 61 8 = zv_a h 61 8 := (zv_wa w219 rfl 8)
          have a61 : ∀ j, 0 ≤ j → zv_a h218 61 j = zv_a h 61 j := fun j hj => by rw [zv_wa w219 rfl j]
          have a71 : ∀ j, 0 ≤ j → zv_a h218 71 j = zv_a h 71 j := fun j hj => by rw [zv_wa w219 rfl j]
          have b69 : ∀ j, 0 ≤ j → zv_b h218 69 j = if j = t - 1 then (zL (zv_a h 72 (20 * (zv_b h 69 (t - 1)) + zv_b h 69 t))).toInt else zv_b h 69 j := fun j hj => by rw [s220 j hj]
          exact zr_vr (pc := 176) rfl rfl ⟨ih218, (w219.wd rfl : zb_W [(44, 25), (61, 0), (69, 0), (44, 50), (44, 14), (44, 42), (44, 43), (44, 49), (44, 41), (44, 38), (71, 0), (72, 0)] h _), rfl, by dsimp only; exact ⟨fun _ => zg_VI1 (i := t - 1) vw (by omega) (by omega) (fun j j0 => by rw [a61 j j0]) (fun j j0 => by rw [b69 j j0]; by_cases z : j = t - 1; exact Or.inl z; exact Or.inr (if_neg z)) (by omega) (fun j j0 _ => by rw [a71 j j0]) (fun j j0 j1 j2 j3 => absurd j3 (by have d := zg_dk dz (by omega) (i := t - 1) (by omega) j0 j1 j2; omega)), (by omega), by omega, by omega, by omega, by omega, by omega⟩⟩
        · refine zx_T.l (i := .aload_n 0) (k := 1) (v := .ref 44) (pc := 115) rfl rfl rfl ?_
          refine zx_T.l (i := .iload_n 1) (k := 1) (v := .int (zI (p))) (pc := 116) rfl rfl rfl ?_
          refine zx_T.s (i := .iconst 2) (k := 1) (st' := [.int (zI (2)), .int (zI (p)), .ref 44]) (pc := 117) rfl rfl ?_
          refine zr_iv (cj := 211) (q' := zp_m211) (As := [.int (zI (p)), .int (zI (2))]) (rest := []) (pc := 118) rfl rfl rfl rfl rfl rfl (Nat.le_of_ble_eq_true rfl) rfl (Nat.le_of_ble_eq_true rfl) hI ((zm_refuse (h := h) hI (p := p) (q := 2) (by omega) (by omega) (by omega) (by omega) (by omega) (by omega) (by omega) (by omega)).up (Nat.le_of_ble_eq_true rfl)) ?_
          rintro r235 h238 ⟨ih238, w239, r235q, x237⟩
          subst r235q
          try dsimp only at x237
          have rf := x237
          show zx_T zp_P 5 zp_m212 121 [(6, .long (zL (zv_b h 69 t))), (5, .int (zI (zv_b h 69 (t - 1)))), (4, .int (zI (t - 1))), (3, .int (zI (zv_a h 45 p))), (0, .ref 44), (1, .int (zI (p))), (2, .int (zI (t)))] [] h238 _
          refine zx_T.j (i := .goto 55) (k := 3) (pc' := 176) (st' := []) (pc := 121) rfl rfl rfl rfl rfl ?_
          have i42 : zv_i h238 42 = zv_i h238 42 := rfl
          have i43 : zv_i h238 43 = zv_i h238 43 := rfl
          have i38 : zv_i h238 38 = zv_i h238 38 := rfl
          have i41 : zv_i h238 41 = zv_i h238 41 := rfl
          have i50 : zv_i h238 50 = zv_i h238 50 := rfl
          have i25 : zv_i h238 25 = zv_i h238 25 := rfl
          have y246 : zv_i h238 1 = zv_i h 1 := (zv_wi w239 rfl)
          have a61 : ∀ j, 0 ≤ j → zv_a h238 61 j = zv_a h238 61 j := fun j hj => rfl
          have a71 : ∀ j, 0 ≤ j → zv_a h238 71 j = zv_a h238 71 j := fun j hj => rfl
          have b69 : ∀ j, 0 ≤ j → zv_b h238 69 j = zv_b h238 69 j := fun j hj => rfl
          exact zr_vr (pc := 176) rfl rfl ⟨ih238, (w239.wd rfl : zb_W [(44, 25), (61, 0), (69, 0), (44, 50), (44, 14), (44, 42), (44, 43), (44, 49), (44, 41), (44, 38), (71, 0), (72, 0)] h _), rfl, by dsimp only; exact zg_ae.rf hI rf (zg_lo dz vw (by omega) t1 (by omega)) x0⟩
    · refine zx_T.l (i := .aload_n 0) (k := 1) (v := .ref 44) (pc := 45) rfl rfl rfl ?_
      refine zx_T.l (i := .iload_n 1) (k := 1) (v := .int (zI (p))) (pc := 46) rfl rfl rfl ?_
      refine zx_T.s (i := .iconst 1) (k := 1) (st' := [.int (zI (1)), .int (zI (p)), .ref 44]) (pc := 47) rfl rfl ?_
      refine zr_iv (cj := 211) (q' := zp_m211) (As := [.int (zI (p)), .int (zI (1))]) (rest := []) (pc := 48) rfl rfl rfl rfl rfl rfl (Nat.le_of_ble_eq_true rfl) rfl (Nat.le_of_ble_eq_true rfl) hI ((zm_refuse (h := h) hI (p := p) (q := 1) (by omega) (by omega) (by omega) (by omega) (by omega) (by omega) (by omega) (by omega)).up (Nat.le_of_ble_eq_true rfl)) ?_
      rintro r254 h257 ⟨ih257, w258, r254q, x256⟩
      subst r254q
      try dsimp only at x256
      have rf := x256
      show zx_T zp_P 5 zp_m212 51 [(4, .int (zI (t - 1))), (3, .int (zI (zv_a h 45 p))), (0, .ref 44), (1, .int (zI (p))), (2, .int (zI (t)))] [] h257 _
      have i42 : zv_i h257 42 = zv_i h257 42 := rfl
      have i43 : zv_i h257 43 = zv_i h257 43 := rfl
      have i38 : zv_i h257 38 = zv_i h257 38 := rfl
      have i41 : zv_i h257 41 = zv_i h257 41 := rfl
      have i50 : zv_i h257 50 = zv_i h257 50 := rfl
      have i25 : zv_i h257 25 = zv_i h257 25 := rfl
      have y265 : zv_i h257 1 = zv_i h 1 := (zv_wi w258 rfl)
      have a61 : ∀ j, 0 ≤ j → zv_a h257 61 j = zv_a h257 61 j := fun j hj => rfl
      have a71 : ∀ j, 0 ≤ j → zv_a h257 71 j = zv_a h257 71 j := fun j hj => rfl
      have b69 : ∀ j, 0 ≤ j → zv_b h257 69 j = zv_b h257 69 j := fun j hj => rfl
      exact zr_vr (pc := 51) rfl rfl ⟨ih257, (w258.wd rfl : zb_W [(44, 25), (61, 0), (69, 0), (44, 50), (44, 14), (44, 42), (44, 43), (44, 49), (44, 41), (44, 38), (71, 0), (72, 0)] h _), rfl, by dsimp only; exact zg_ae.rf hI rf (zg_lo dz vw (by omega) t1 (by omega)) x0⟩

set_option maxRecDepth 100000 in
set_option maxHeartbeats 8000000 in
theorem zm_numbers {h : zx_H} (hI : zb_I zc_H h) {p : Int} {t : Int} (p1 : 0 ≤ p) (p2 : p ≤ 59) (t1 : 7 ≤ t) (t2 : t ≤ 13) (dz : zg_dz (zv_a h 45 p) (zv_a h 46 p) (t - 7) (zv_i h 25) (zv_a h 70) (zv_a h 61)) (vw : zg_VW h t) (t9 : zv_i h 38 ≤ 399) (r9 : zv_i h 41 ≤ 1000000) (r8 : (-5) ≤ zv_i h 41) (x0 : zv_i h 42 = 0) (n8 : ¬ zv_a h 61 8 = 3) (nx : zv_i h 50 = (-1)) (o1 : 12 ≤ zv_a h 45 p) (o2 : zv_a h 45 p ≤ 16) : zx_T zp_P 5 zp_m213 0 [(0, .ref 44), (1, .int (zI (p))), (2, .int (zI (t)))] [] h (zr_V [(44, 25), (61, 0), (69, 0), (44, 50), (44, 14), (44, 42), (44, 43), (44, 49), (44, 41), (44, 38), (71, 0), (72, 0)] h (fun h' => zg_ae h h')) := by
  have hS := zv_ri hI (k := 25) rfl
  have hT := zv_ri hI (k := 38) rfl
  have hC := zv_ri hI (k := 1) rfl
  refine zx_T.l (i := .aload_n 0) (k := 1) (v := .ref 44) (pc := 0) rfl rfl rfl ?_
  refine zr_gr (k := 2) (b := 45) (pc := 1) rfl rfl rfl hI ?_
  refine zx_T.l (i := .iload_n 1) (k := 1) (v := .int (zI (p))) (pc := 4) rfl rfl rfl ?_
  refine zr_al (n := 60) (lo := 0) (hi := 28) (e := zv_a h 45 p) (pc := 5) rfl rfl rfl hI (by omega) (by omega) rfl (fun g1a g1b => ?_)
  have c2 : zv_a h 45 p = 12 ∨ zv_a h 45 p = 13 ∨ zv_a h 45 p = 14 ∨ zv_a h 45 p = 15 ∨ zv_a h 45 p = 16 := by omega
  rcases c2 with c2 | c2 | c2 | c2 | c2
  · refine zr_sw (i := .tableswitch 155 12 15 #[30, 58, 106, 134]) (len := 30) (t := 36) (x := zv_a h 45 p) (k := 12) (pc := 6) rfl c2 rfl rfl rfl rfl ?_
    refine zx_T.l (i := .aload_n 0) (k := 1) (v := .ref 44) (pc := 36) rfl rfl rfl ?_
    refine zr_gr (k := 36) (b := 69) (pc := 37) rfl rfl rfl hI ?_
    refine zx_T.l (i := .iload_n 2) (k := 1) (v := .int (zI (t))) (pc := 40) rfl rfl rfl ?_
    refine zx_T.s (i := .iconst 1) (k := 1) (st' := [.int (zI (1)), .int (zI (t)), .ref 69]) (pc := 41) rfl rfl ?_
    refine zr_sub (x := t) (y := 1) (e := t - 1) (pc := 42) rfl (by omega) ?_
    refine zx_T.l (i := .aload_n 0) (k := 1) (v := .ref 44) (pc := 43) rfl rfl rfl ?_
    refine zr_gr (k := 36) (b := 69) (pc := 44) rfl rfl rfl hI ?_
    refine zx_T.l (i := .iload_n 2) (k := 1) (v := .int (zI (t))) (pc := 47) rfl rfl rfl ?_
    refine zx_T.s (i := .iconst 1) (k := 1) (st' := [.int (zI (1)), .int (zI (t)), .ref 69, .int (zI (t - 1)), .ref 69]) (pc := 48) rfl rfl ?_
    refine zr_sub (x := t) (y := 1) (e := t - 1) (pc := 49) rfl (by omega) ?_
    have g3 := zv_rb (h := h) 69 (t - 1)
    refine zr_ll (n := 14) (e := zv_b h 69 (t - 1)) (pc := 50) rfl rfl rfl hI (by omega) (by omega) rfl ?_
    refine zx_T.l (i := .aload_n 0) (k := 1) (v := .ref 44) (pc := 51) rfl rfl rfl ?_
    refine zr_gr (k := 36) (b := 69) (pc := 52) rfl rfl rfl hI ?_
    refine zx_T.l (i := .iload_n 2) (k := 1) (v := .int (zI (t))) (pc := 55) rfl rfl rfl ?_
    have g4 := zv_rb (h := h) 69 t
    refine zr_ll (n := 14) (e := zv_b h 69 t) (pc := 56) rfl rfl rfl hI (by omega) (by omega) rfl ?_
    refine zr_ladd (x := zv_b h 69 (t - 1)) (y := zv_b h 69 t) (e := zv_b h 69 (t - 1) + zv_b h 69 t) (pc := 57) rfl (by omega) ?_
    refine zr_l2i (pc := 58) rfl ?_
    refine zr_any (fun z5 z5a z5b => ?_)
    refine zr_i2l (pc := 59) rfl (by omega) (by omega) ?_
    refine zr_ls (n := 14) (e := z5) (pc := 60) rfl rfl rfl hI (by omega) (by omega) (fun h6 ih6 w7 s8 => ?_)
    refine zx_T.j (i := .goto 100) (k := 3) (pc' := 161) (st' := []) (pc := 61) rfl rfl rfl rfl rfl ?_
    have i42 : zv_i h6 42 = zv_i h 42 := (zv_wi w7 rfl)
    have i43 : zv_i h6 43 = zv_i h 43 := (zv_wi w7 rfl)
    have i38 : zv_i h6 38 = zv_i h 38 := (zv_wi w7 rfl)
    have i41 : zv_i h6 41 = zv_i h 41 := (zv_wi w7 rfl)
    have i50 : zv_i h6 50 = zv_i h 50 := (zv_wi w7 rfl)
    have i25 : zv_i h6 25 = zv_i h 25 := (zv_wi w7 rfl)
    have y15 : zv_i h6 1 = zv_i h 1 := (zv_wi w7 rfl)
    have y16 : zv_a h6 61 8 = zv_a h 61 8 := (zv_wa w7 rfl 8)
    have a61 : ∀ j, 0 ≤ j → zv_a h6 61 j = zv_a h 61 j := fun j hj => by rw [zv_wa w7 rfl j]
    have a71 : ∀ j, 0 ≤ j → zv_a h6 71 j = zv_a h 71 j := fun j hj => by rw [zv_wa w7 rfl j]
    have b69 : ∀ j, 0 ≤ j → zv_b h6 69 j = if j = t - 1 then (zL (z5)).toInt else zv_b h 69 j := fun j hj => by rw [s8 j hj]
    exact zr_vr (pc := 161) rfl rfl ⟨ih6, (w7.wd rfl : zb_W [(44, 25), (61, 0), (69, 0), (44, 50), (44, 14), (44, 42), (44, 43), (44, 49), (44, 41), (44, 38), (71, 0), (72, 0)] h _), rfl, by dsimp only; exact ⟨fun _ => zg_VI1 (i := t - 1) vw (by omega) (by omega) (fun j j0 => by rw [a61 j j0]) (fun j j0 => by rw [b69 j j0]; by_cases z : j = t - 1; exact Or.inl z; exact Or.inr (if_neg z)) (by omega) (fun j j0 _ => by rw [a71 j j0]) (fun j j0 j1 j2 j3 => absurd j3 (by have d := zg_dk dz (by omega) (i := t - 1) (by omega) j0 j1 j2; omega)), (by omega), by omega, by omega, by omega, by omega, by omega⟩⟩
  · refine zr_sw (i := .tableswitch 155 12 15 #[30, 58, 106, 134]) (len := 30) (t := 64) (x := zv_a h 45 p) (k := 13) (pc := 6) rfl c2 rfl rfl rfl rfl ?_
    refine zx_T.l (i := .aload_n 0) (k := 1) (v := .ref 44) (pc := 64) rfl rfl rfl ?_
    refine zr_gr (k := 36) (b := 69) (pc := 65) rfl rfl rfl hI ?_
    refine zx_T.l (i := .iload_n 2) (k := 1) (v := .int (zI (t))) (pc := 68) rfl rfl rfl ?_
    have g20 := zv_rb (h := h) 69 t
    refine zr_ll (n := 14) (e := zv_b h 69 t) (pc := 69) rfl rfl rfl hI (by omega) (by omega) rfl ?_
    refine zx_T.s (i := .lconst 0) (k := 1) (st' := [.long (zL (0)), .long (zL (zv_b h 69 t))]) (pc := 70) rfl rfl ?_
    refine zr_lcmp (pc := 71) rfl (by omega) (by omega) (by omega) (by omega) (fun z21 z21a => ?_)
    refine zr_i1 (x := z21) (t := 84) (pc := 72) rfl rfl (by omega) (by omega) (fun (c22 : ¬ z21 = 0) => ?_) (fun (c22 : ¬ (¬ z21 = 0)) => ?_)
    · refine zx_T.l (i := .aload_n 0) (k := 1) (v := .ref 44) (pc := 84) rfl rfl rfl ?_
      refine zr_gr (k := 36) (b := 69) (pc := 85) rfl rfl rfl hI ?_
      refine zx_T.l (i := .iload_n 2) (k := 1) (v := .int (zI (t))) (pc := 88) rfl rfl rfl ?_
      refine zx_T.s (i := .iconst 1) (k := 1) (st' := [.int (zI (1)), .int (zI (t)), .ref 69]) (pc := 89) rfl rfl ?_
      refine zr_sub (x := t) (y := 1) (e := t - 1) (pc := 90) rfl (by omega) ?_
      refine zx_T.l (i := .aload_n 0) (k := 1) (v := .ref 44) (pc := 91) rfl rfl rfl ?_
      refine zr_gr (k := 36) (b := 69) (pc := 92) rfl rfl rfl hI ?_
      refine zx_T.l (i := .iload_n 2) (k := 1) (v := .int (zI (t))) (pc := 95) rfl rfl rfl ?_
      refine zx_T.s (i := .iconst 1) (k := 1) (st' := [.int (zI (1)), .int (zI (t)), .ref 69, .int (zI (t - 1)), .ref 69]) (pc := 96) rfl rfl ?_
      refine zr_sub (x := t) (y := 1) (e := t - 1) (pc := 97) rfl (by omega) ?_
      have g23 := zv_rb (h := h) 69 (t - 1)
      refine zr_ll (n := 14) (e := zv_b h 69 (t - 1)) (pc := 98) rfl rfl rfl hI (by omega) (by omega) rfl ?_
      refine zx_T.l (i := .aload_n 0) (k := 1) (v := .ref 44) (pc := 99) rfl rfl rfl ?_
      refine zr_gr (k := 36) (b := 69) (pc := 100) rfl rfl rfl hI ?_
      refine zx_T.l (i := .iload_n 2) (k := 1) (v := .int (zI (t))) (pc := 103) rfl rfl rfl ?_
      have g24 := zv_rb (h := h) 69 t
      refine zr_ll (n := 14) (e := zv_b h 69 t) (pc := 104) rfl rfl rfl hI (by omega) (by omega) rfl ?_
      refine zr_ldiv (pc := 105) rfl (by omega) (by omega) (by omega) (fun z25 => ?_)
      refine zr_l2i (pc := 106) rfl ?_
      refine zr_any (fun z26 z26a z26b => ?_)
      refine zr_i2l (pc := 107) rfl (by omega) (by omega) ?_
      refine zr_ls (n := 14) (e := z26) (pc := 108) rfl rfl rfl hI (by omega) (by omega) (fun h27 ih27 w28 s29 => ?_)
      refine zx_T.j (i := .goto 52) (k := 3) (pc' := 161) (st' := []) (pc := 109) rfl rfl rfl rfl rfl ?_
      have i42 : zv_i h27 42 = zv_i h 42 := (zv_wi w28 rfl)
      have i43 : zv_i h27 43 = zv_i h 43 := (zv_wi w28 rfl)
      have i38 : zv_i h27 38 = zv_i h 38 := (zv_wi w28 rfl)
      have i41 : zv_i h27 41 = zv_i h 41 := (zv_wi w28 rfl)
      have i50 : zv_i h27 50 = zv_i h 50 := (zv_wi w28 rfl)
      have i25 : zv_i h27 25 = zv_i h 25 := (zv_wi w28 rfl)
      have y36 : zv_i h27 1 = zv_i h 1 := (zv_wi w28 rfl)
      have y37 : zv_a h27 61 8 = zv_a h 61 8 := (zv_wa w28 rfl 8)
      have a61 : ∀ j, 0 ≤ j → zv_a h27 61 j = zv_a h 61 j := fun j hj => by rw [zv_wa w28 rfl j]
      have a71 : ∀ j, 0 ≤ j → zv_a h27 71 j = zv_a h 71 j := fun j hj => by rw [zv_wa w28 rfl j]
      have b69 : ∀ j, 0 ≤ j → zv_b h27 69 j = if j = t - 1 then (zL (z26)).toInt else zv_b h 69 j := fun j hj => by rw [s29 j hj]
      exact zr_vr (pc := 161) rfl rfl ⟨ih27, (w28.wd rfl : zb_W [(44, 25), (61, 0), (69, 0), (44, 50), (44, 14), (44, 42), (44, 43), (44, 49), (44, 41), (44, 38), (71, 0), (72, 0)] h _), rfl, by dsimp only; exact ⟨fun _ => zg_VI1 (i := t - 1) vw (by omega) (by omega) (fun j j0 => by rw [a61 j j0]) (fun j j0 => by rw [b69 j j0]; by_cases z : j = t - 1; exact Or.inl z; exact Or.inr (if_neg z)) (by omega) (fun j j0 _ => by rw [a71 j j0]) (fun j j0 j1 j2 j3 => absurd j3 (by have d := zg_dk dz (by omega) (i := t - 1) (by omega) j0 j1 j2; omega)), (by omega), by omega, by omega, by omega, by omega, by omega⟩⟩
    · refine zx_T.l (i := .aload_n 0) (k := 1) (v := .ref 44) (pc := 75) rfl rfl rfl ?_
      refine zx_T.l (i := .iload_n 1) (k := 1) (v := .int (zI (p))) (pc := 76) rfl rfl rfl ?_
      refine zx_T.s (i := .iconst 5) (k := 1) (st' := [.int (zI (5)), .int (zI (p)), .ref 44]) (pc := 77) rfl rfl ?_
      refine zr_iv (cj := 211) (q' := zp_m211) (As := [.int (zI (p)), .int (zI (5))]) (rest := []) (pc := 78) rfl rfl rfl rfl rfl rfl (Nat.le_of_ble_eq_true rfl) rfl (Nat.le_of_ble_eq_true rfl) hI ((zm_refuse (h := h) hI (p := p) (q := 5) (by omega) (by omega) (by omega) (by omega) (by omega) (by omega) (by omega) (by omega)).up (Nat.le_of_ble_eq_true rfl)) ?_
      rintro r44 h47 ⟨ih47, w48, r44q, x46⟩
      subst r44q
      try dsimp only at x46
      have rf := x46
      show zx_T zp_P 5 zp_m213 81 [(0, .ref 44), (1, .int (zI (p))), (2, .int (zI (t)))] [] h47 _
      refine zx_T.j (i := .goto 80) (k := 3) (pc' := 161) (st' := []) (pc := 81) rfl rfl rfl rfl rfl ?_
      have i42 : zv_i h47 42 = zv_i h47 42 := rfl
      have i43 : zv_i h47 43 = zv_i h47 43 := rfl
      have i38 : zv_i h47 38 = zv_i h47 38 := rfl
      have i41 : zv_i h47 41 = zv_i h47 41 := rfl
      have i50 : zv_i h47 50 = zv_i h47 50 := rfl
      have i25 : zv_i h47 25 = zv_i h47 25 := rfl
      have y55 : zv_i h47 1 = zv_i h 1 := (zv_wi w48 rfl)
      have a61 : ∀ j, 0 ≤ j → zv_a h47 61 j = zv_a h47 61 j := fun j hj => rfl
      have a71 : ∀ j, 0 ≤ j → zv_a h47 71 j = zv_a h47 71 j := fun j hj => rfl
      have b69 : ∀ j, 0 ≤ j → zv_b h47 69 j = zv_b h47 69 j := fun j hj => rfl
      exact zr_vr (pc := 161) rfl rfl ⟨ih47, (w48.wd rfl : zb_W [(44, 25), (61, 0), (69, 0), (44, 50), (44, 14), (44, 42), (44, 43), (44, 49), (44, 41), (44, 38), (71, 0), (72, 0)] h _), rfl, by dsimp only; exact zg_ae.rf hI rf (zg_lo dz vw (by omega) t1 (by omega)) x0⟩
  · refine zr_sw (i := .tableswitch 155 12 15 #[30, 58, 106, 134]) (len := 30) (t := 112) (x := zv_a h 45 p) (k := 14) (pc := 6) rfl c2 rfl rfl rfl rfl ?_
    refine zx_T.l (i := .aload_n 0) (k := 1) (v := .ref 44) (pc := 112) rfl rfl rfl ?_
    refine zr_gr (k := 36) (b := 69) (pc := 113) rfl rfl rfl hI ?_
    refine zx_T.l (i := .iload_n 2) (k := 1) (v := .int (zI (t))) (pc := 116) rfl rfl rfl ?_
    refine zx_T.s (i := .iconst 3) (k := 1) (st' := [.int (zI (3)), .int (zI (t)), .ref 69]) (pc := 117) rfl rfl ?_
    refine zr_sub (x := t) (y := 3) (e := t - 3) (pc := 118) rfl (by omega) ?_
    refine zx_T.l (i := .aload_n 0) (k := 1) (v := .ref 44) (pc := 119) rfl rfl rfl ?_
    refine zr_gr (k := 36) (b := 69) (pc := 120) rfl rfl rfl hI ?_
    refine zx_T.l (i := .iload_n 2) (k := 1) (v := .int (zI (t))) (pc := 123) rfl rfl rfl ?_
    refine zx_T.s (i := .iconst 3) (k := 1) (st' := [.int (zI (3)), .int (zI (t)), .ref 69, .int (zI (t - 3)), .ref 69]) (pc := 124) rfl rfl ?_
    refine zr_sub (x := t) (y := 3) (e := t - 3) (pc := 125) rfl (by omega) ?_
    have g60 := zv_rb (h := h) 69 (t - 3)
    refine zr_ll (n := 14) (e := zv_b h 69 (t - 3)) (pc := 126) rfl rfl rfl hI (by omega) (by omega) rfl ?_
    refine zx_T.l (i := .aload_n 0) (k := 1) (v := .ref 44) (pc := 127) rfl rfl rfl ?_
    refine zr_gr (k := 36) (b := 69) (pc := 128) rfl rfl rfl hI ?_
    refine zx_T.l (i := .iload_n 2) (k := 1) (v := .int (zI (t))) (pc := 131) rfl rfl rfl ?_
    refine zx_T.s (i := .iconst 1) (k := 1) (st' := [.int (zI (1)), .int (zI (t)), .ref 69, .long (zL (zv_b h 69 (t - 3))), .int (zI (t - 3)), .ref 69]) (pc := 132) rfl rfl ?_
    refine zr_sub (x := t) (y := 1) (e := t - 1) (pc := 133) rfl (by omega) ?_
    have g61 := zv_rb (h := h) 69 (t - 1)
    refine zr_ll (n := 14) (e := zv_b h 69 (t - 1)) (pc := 134) rfl rfl rfl hI (by omega) (by omega) rfl ?_
    refine zr_ladd (x := zv_b h 69 (t - 3)) (y := zv_b h 69 (t - 1)) (e := zv_b h 69 (t - 1) + zv_b h 69 (t - 3)) (pc := 135) rfl (by omega) ?_
    refine zr_ls (n := 14) (e := zv_b h 69 (t - 1) + zv_b h 69 (t - 3)) (pc := 136) rfl rfl rfl hI (by omega) (by omega) (fun h62 ih62 w63 s64 => ?_)
    refine zx_T.j (i := .goto 24) (k := 3) (pc' := 161) (st' := []) (pc := 137) rfl rfl rfl rfl rfl ?_
    have i42 : zv_i h62 42 = zv_i h 42 := (zv_wi w63 rfl)
    have i43 : zv_i h62 43 = zv_i h 43 := (zv_wi w63 rfl)
    have i38 : zv_i h62 38 = zv_i h 38 := (zv_wi w63 rfl)
    have i41 : zv_i h62 41 = zv_i h 41 := (zv_wi w63 rfl)
    have i50 : zv_i h62 50 = zv_i h 50 := (zv_wi w63 rfl)
    have i25 : zv_i h62 25 = zv_i h 25 := (zv_wi w63 rfl)
    have y71 : zv_i h62 1 = zv_i h 1 := (zv_wi w63 rfl)
    have y72 : zv_a h62 61 8 = zv_a h 61 8 := (zv_wa w63 rfl 8)
    have a61 : ∀ j, 0 ≤ j → zv_a h62 61 j = zv_a h 61 j := fun j hj => by rw [zv_wa w63 rfl j]
    have a71 : ∀ j, 0 ≤ j → zv_a h62 71 j = zv_a h 71 j := fun j hj => by rw [zv_wa w63 rfl j]
    have b69 : ∀ j, 0 ≤ j → zv_b h62 69 j = if j = t - 3 then (zL (zv_b h 69 (t - 1) + zv_b h 69 (t - 3))).toInt else zv_b h 69 j := fun j hj => by rw [s64 j hj]
    exact zr_vr (pc := 161) rfl rfl ⟨ih62, (w63.wd rfl : zb_W [(44, 25), (61, 0), (69, 0), (44, 50), (44, 14), (44, 42), (44, 43), (44, 49), (44, 41), (44, 38), (71, 0), (72, 0)] h _), rfl, by dsimp only; exact ⟨fun _ => zg_VI1 (i := t - 3) vw (by omega) (by omega) (fun j j0 => by rw [a61 j j0]) (fun j j0 => by rw [b69 j j0]; by_cases z : j = t - 3; exact Or.inl z; exact Or.inr (if_neg z)) (by omega) (fun j j0 _ => by rw [a71 j j0]) (fun j j0 j1 j2 j3 => absurd j3 (by have d := zg_dk dz (by omega) (i := t - 3) (by omega) j0 j1 j2; omega)), (by omega), by omega, by omega, by omega, by omega, by omega⟩⟩
  · refine zr_sw (i := .tableswitch 155 12 15 #[30, 58, 106, 134]) (len := 30) (t := 140) (x := zv_a h 45 p) (k := 15) (pc := 6) rfl c2 rfl rfl rfl rfl ?_
    refine zx_T.l (i := .aload_n 0) (k := 1) (v := .ref 44) (pc := 140) rfl rfl rfl ?_
    refine zr_gr (k := 36) (b := 69) (pc := 141) rfl rfl rfl hI ?_
    refine zx_T.l (i := .iload_n 2) (k := 1) (v := .int (zI (t))) (pc := 144) rfl rfl rfl ?_
    refine zx_T.s (i := .iconst 1) (k := 1) (st' := [.int (zI (1)), .int (zI (t)), .ref 69]) (pc := 145) rfl rfl ?_
    refine zr_sub (x := t) (y := 1) (e := t - 1) (pc := 146) rfl (by omega) ?_
    refine zx_T.l (i := .aload_n 0) (k := 1) (v := .ref 44) (pc := 147) rfl rfl rfl ?_
    refine zr_gr (k := 36) (b := 69) (pc := 148) rfl rfl rfl hI ?_
    refine zx_T.l (i := .iload_n 2) (k := 1) (v := .int (zI (t))) (pc := 151) rfl rfl rfl ?_
    refine zx_T.s (i := .iconst 1) (k := 1) (st' := [.int (zI (1)), .int (zI (t)), .ref 69, .int (zI (t - 1)), .ref 69]) (pc := 152) rfl rfl ?_
    refine zr_sub (x := t) (y := 1) (e := t - 1) (pc := 153) rfl (by omega) ?_
    have g76 := zv_rb (h := h) 69 (t - 1)
    refine zr_ll (n := 14) (e := zv_b h 69 (t - 1)) (pc := 154) rfl rfl rfl hI (by omega) (by omega) rfl ?_
    refine zr_l2i (pc := 155) rfl ?_
    refine zr_any (fun z77 z77a z77b => ?_)
    refine zr_i2l (pc := 156) rfl (by omega) (by omega) ?_
    refine zr_ls (n := 14) (e := z77) (pc := 157) rfl rfl rfl hI (by omega) (by omega) (fun h78 ih78 w79 s80 => ?_)
    refine zx_T.j (i := .goto 3) (k := 3) (pc' := 161) (st' := []) (pc := 158) rfl rfl rfl rfl rfl ?_
    have i42 : zv_i h78 42 = zv_i h 42 := (zv_wi w79 rfl)
    have i43 : zv_i h78 43 = zv_i h 43 := (zv_wi w79 rfl)
    have i38 : zv_i h78 38 = zv_i h 38 := (zv_wi w79 rfl)
    have i41 : zv_i h78 41 = zv_i h 41 := (zv_wi w79 rfl)
    have i50 : zv_i h78 50 = zv_i h 50 := (zv_wi w79 rfl)
    have i25 : zv_i h78 25 = zv_i h 25 := (zv_wi w79 rfl)
    have y87 : zv_i h78 1 = zv_i h 1 := (zv_wi w79 rfl)
    have y88 : zv_a h78 61 8 = zv_a h 61 8 := (zv_wa w79 rfl 8)
    have a61 : ∀ j, 0 ≤ j → zv_a h78 61 j = zv_a h 61 j := fun j hj => by rw [zv_wa w79 rfl j]
    have a71 : ∀ j, 0 ≤ j → zv_a h78 71 j = zv_a h 71 j := fun j hj => by rw [zv_wa w79 rfl j]
    have b69 : ∀ j, 0 ≤ j → zv_b h78 69 j = if j = t - 1 then (zL (z77)).toInt else zv_b h 69 j := fun j hj => by rw [s80 j hj]
    exact zr_vr (pc := 161) rfl rfl ⟨ih78, (w79.wd rfl : zb_W [(44, 25), (61, 0), (69, 0), (44, 50), (44, 14), (44, 42), (44, 43), (44, 49), (44, 41), (44, 38), (71, 0), (72, 0)] h _), rfl, by dsimp only; exact ⟨fun _ => zg_VI1 (i := t - 1) vw (by omega) (by omega) (fun j j0 => by rw [a61 j j0]) (fun j j0 => by rw [b69 j j0]; by_cases z : j = t - 1; exact Or.inl z; exact Or.inr (if_neg z)) (by omega) (fun j j0 _ => by rw [a71 j j0]) (fun j j0 j1 j2 j3 => absurd j3 (by have d := zg_dk dz (by omega) (i := t - 1) (by omega) j0 j1 j2; omega)), (by omega), by omega, by omega, by omega, by omega, by omega⟩⟩
  · refine zr_sw (i := .tableswitch 155 12 15 #[30, 58, 106, 134]) (len := 30) (t := 161) (x := zv_a h 45 p) (k := 16) (pc := 6) rfl c2 rfl rfl rfl rfl ?_
    have i42 : zv_i h 42 = zv_i h 42 := rfl
    have i43 : zv_i h 43 = zv_i h 43 := rfl
    have i38 : zv_i h 38 = zv_i h 38 := rfl
    have i41 : zv_i h 41 = zv_i h 41 := rfl
    have i50 : zv_i h 50 = zv_i h 50 := rfl
    have i25 : zv_i h 25 = zv_i h 25 := rfl
    have a61 : ∀ j, 0 ≤ j → zv_a h 61 j = zv_a h 61 j := fun j hj => rfl
    have a71 : ∀ j, 0 ≤ j → zv_a h 71 j = zv_a h 71 j := fun j hj => rfl
    have b69 : ∀ j, 0 ≤ j → zv_b h 69 j = zv_b h 69 j := fun j hj => rfl
    exact zr_vr (pc := 161) rfl rfl ⟨hI, zb_W.rf, rfl, by dsimp only; exact ⟨fun _ => zg_VI1 (i := (-1)) vw (by omega) (by omega) (fun j j0 => by rw [a61 j j0]) (fun j j0 => Or.inr (b69 j j0)) (by omega) (fun j j0 _ => by rw [a71 j j0]) (fun j j0 j1 j2 j3 => absurd j3 (by have d := zg_dk dz (by omega) (i := (-1)) (by omega) j0 j1 j2; omega)), (by omega), by omega, by omega, by omega, by omega, by omega⟩⟩

set_option maxRecDepth 100000 in
set_option maxHeartbeats 8000000 in
theorem zm_makes {h : zx_H} (hI : zb_I zc_H h) {p : Int} {t : Int} (p1 : 0 ≤ p) (p2 : p ≤ 59) (t1 : 7 ≤ t) (t2 : t ≤ 13) (dz : zg_dz (zv_a h 45 p) (zv_a h 46 p) (t - 7) (zv_i h 25) (zv_a h 70) (zv_a h 61)) (vw : zg_VW h t) (t9 : zv_i h 38 ≤ 399) (r9 : zv_i h 41 ≤ 1000000) (r8 : (-5) ≤ zv_i h 41) (x0 : zv_i h 42 = 0) (n8 : ¬ zv_a h 61 8 = 3) (nx : zv_i h 50 = (-1)) (o1 : 1 ≤ zv_a h 45 p) (o2 : zv_a h 45 p ≤ 7) : zx_T zp_P 5 zp_m214 0 [(0, .ref 44), (1, .int (zI (p))), (2, .int (zI (t)))] [] h (zr_V [(44, 25), (61, 0), (69, 0), (44, 50), (44, 14), (44, 42), (44, 43), (44, 49), (44, 41), (44, 38), (71, 0), (72, 0)] h (fun h' => zg_ae h h')) := by
  have hS := zv_ri hI (k := 25) rfl
  have hT := zv_ri hI (k := 38) rfl
  have hC := zv_ri hI (k := 1) rfl
  refine zx_T.l (i := .aload_n 0) (k := 1) (v := .ref 44) (pc := 0) rfl rfl rfl ?_
  refine zr_gr (k := 2) (b := 45) (pc := 1) rfl rfl rfl hI ?_
  refine zx_T.l (i := .iload_n 1) (k := 1) (v := .int (zI (p))) (pc := 4) rfl rfl rfl ?_
  refine zr_al (n := 60) (lo := 0) (hi := 28) (e := zv_a h 45 p) (pc := 5) rfl rfl rfl hI (by omega) (by omega) rfl (fun g1a g1b => ?_)
  have c2 : zv_a h 45 p = 1 ∨ zv_a h 45 p = 2 ∨ zv_a h 45 p = 3 ∨ zv_a h 45 p = 4 ∨ zv_a h 45 p = 5 ∨ zv_a h 45 p = 6 ∨ zv_a h 45 p = 7 := by omega
  rcases c2 with c2 | c2 | c2 | c2 | c2 | c2 | c2
  · refine zr_sw (i := .tableswitch 107 1 6 #[38, 38, 56, 68, 68, 85]) (len := 38) (t := 44) (x := zv_a h 45 p) (k := 1) (pc := 6) rfl c2 rfl rfl rfl rfl ?_
    have d1 := dz.1.1 (by omega) (by omega)
    refine zx_T.l (i := .aload_n 0) (k := 1) (v := .ref 44) (pc := 44) rfl rfl rfl ?_
    refine zr_gr (k := 36) (b := 69) (pc := 45) rfl rfl rfl hI ?_
    refine zx_T.l (i := .iload_n 2) (k := 1) (v := .int (zI (t))) (pc := 48) rfl rfl rfl ?_
    refine zx_T.s (i := .iconst 1) (k := 1) (st' := [.int (zI (1)), .int (zI (t)), .ref 69]) (pc := 49) rfl rfl ?_
    refine zr_add (x := t) (y := 1) (e := t + 1) (pc := 50) rfl (by omega) ?_
    refine zx_T.l (i := .aload_n 0) (k := 1) (v := .ref 44) (pc := 51) rfl rfl rfl ?_
    refine zr_gr (k := 3) (b := 46) (pc := 52) rfl rfl rfl hI ?_
    refine zx_T.l (i := .iload_n 1) (k := 1) (v := .int (zI (p))) (pc := 55) rfl rfl rfl ?_
    refine zr_al (n := 60) (lo := (-2147483648)) (hi := 2147483647) (e := zv_a h 46 p) (pc := 56) rfl rfl rfl hI (by omega) (by omega) rfl (fun g3a g3b => ?_)
    refine zr_i2l (pc := 57) rfl (by omega) (by omega) ?_
    refine zr_ls (n := 14) (e := zv_a h 46 p) (pc := 58) rfl rfl rfl hI (by omega) (by omega) (fun h4 ih4 w5 s6 => ?_)
    refine zx_T.j (i := .goto 115) (k := 3) (pc' := 174) (st' := []) (pc := 59) rfl rfl rfl rfl rfl ?_
    have i42 : zv_i h4 42 = zv_i h 42 := (zv_wi w5 rfl)
    have i43 : zv_i h4 43 = zv_i h 43 := (zv_wi w5 rfl)
    have i38 : zv_i h4 38 = zv_i h 38 := (zv_wi w5 rfl)
    have i41 : zv_i h4 41 = zv_i h 41 := (zv_wi w5 rfl)
    have i50 : zv_i h4 50 = zv_i h 50 := (zv_wi w5 rfl)
    have i25 : zv_i h4 25 = zv_i h 25 := (zv_wi w5 rfl)
    have y13 : zv_i h4 1 = zv_i h 1 := (zv_wi w5 rfl)
    have y14 : zv_a h4 61 8 = zv_a h 61 8 := (zv_wa w5 rfl 8)
    have a61 : ∀ j, 0 ≤ j → zv_a h4 61 j = zv_a h 61 j := fun j hj => by rw [zv_wa w5 rfl j]
    have a71 : ∀ j, 0 ≤ j → zv_a h4 71 j = zv_a h 71 j := fun j hj => by rw [zv_wa w5 rfl j]
    have b69 : ∀ j, 0 ≤ j → zv_b h4 69 j = if j = t + 1 then (zL (zv_a h 46 p)).toInt else zv_b h 69 j := fun j hj => by rw [s6 j hj]
    exact zr_vr (pc := 174) rfl rfl ⟨ih4, (w5.wd rfl : zb_W [(44, 25), (61, 0), (69, 0), (44, 50), (44, 14), (44, 42), (44, 43), (44, 49), (44, 41), (44, 38), (71, 0), (72, 0)] h _), rfl, by dsimp only; exact ⟨fun _ => zg_VI1 (i := t + 1) vw (by omega) (by omega) (fun j j0 => by rw [a61 j j0]) (fun j j0 => by rw [b69 j j0]; by_cases z : j = t + 1; exact Or.inl z; exact Or.inr (if_neg z)) (by omega) (fun j j0 _ => by rw [a71 j j0]) (fun j j0 j1 j2 j3 => absurd j3 (by have d := zg_dk dz (by omega) (i := t + 1) (by omega) j0 j1 j2; omega)), (by omega), by omega, by omega, by omega, by omega, by omega⟩⟩
  · refine zr_sw (i := .tableswitch 107 1 6 #[38, 38, 56, 68, 68, 85]) (len := 38) (t := 44) (x := zv_a h 45 p) (k := 2) (pc := 6) rfl c2 rfl rfl rfl rfl ?_
    have d1 := dz.1.1 (by omega) (by omega)
    refine zx_T.l (i := .aload_n 0) (k := 1) (v := .ref 44) (pc := 44) rfl rfl rfl ?_
    refine zr_gr (k := 36) (b := 69) (pc := 45) rfl rfl rfl hI ?_
    refine zx_T.l (i := .iload_n 2) (k := 1) (v := .int (zI (t))) (pc := 48) rfl rfl rfl ?_
    refine zx_T.s (i := .iconst 1) (k := 1) (st' := [.int (zI (1)), .int (zI (t)), .ref 69]) (pc := 49) rfl rfl ?_
    refine zr_add (x := t) (y := 1) (e := t + 1) (pc := 50) rfl (by omega) ?_
    refine zx_T.l (i := .aload_n 0) (k := 1) (v := .ref 44) (pc := 51) rfl rfl rfl ?_
    refine zr_gr (k := 3) (b := 46) (pc := 52) rfl rfl rfl hI ?_
    refine zx_T.l (i := .iload_n 1) (k := 1) (v := .int (zI (p))) (pc := 55) rfl rfl rfl ?_
    refine zr_al (n := 60) (lo := (-2147483648)) (hi := 2147483647) (e := zv_a h 46 p) (pc := 56) rfl rfl rfl hI (by omega) (by omega) rfl (fun g18a g18b => ?_)
    refine zr_i2l (pc := 57) rfl (by omega) (by omega) ?_
    refine zr_ls (n := 14) (e := zv_a h 46 p) (pc := 58) rfl rfl rfl hI (by omega) (by omega) (fun h19 ih19 w20 s21 => ?_)
    refine zx_T.j (i := .goto 115) (k := 3) (pc' := 174) (st' := []) (pc := 59) rfl rfl rfl rfl rfl ?_
    have i42 : zv_i h19 42 = zv_i h 42 := (zv_wi w20 rfl)
    have i43 : zv_i h19 43 = zv_i h 43 := (zv_wi w20 rfl)
    have i38 : zv_i h19 38 = zv_i h 38 := (zv_wi w20 rfl)
    have i41 : zv_i h19 41 = zv_i h 41 := (zv_wi w20 rfl)
    have i50 : zv_i h19 50 = zv_i h 50 := (zv_wi w20 rfl)
    have i25 : zv_i h19 25 = zv_i h 25 := (zv_wi w20 rfl)
    have y28 : zv_i h19 1 = zv_i h 1 := (zv_wi w20 rfl)
    have y29 : zv_a h19 61 8 = zv_a h 61 8 := (zv_wa w20 rfl 8)
    have a61 : ∀ j, 0 ≤ j → zv_a h19 61 j = zv_a h 61 j := fun j hj => by rw [zv_wa w20 rfl j]
    have a71 : ∀ j, 0 ≤ j → zv_a h19 71 j = zv_a h 71 j := fun j hj => by rw [zv_wa w20 rfl j]
    have b69 : ∀ j, 0 ≤ j → zv_b h19 69 j = if j = t + 1 then (zL (zv_a h 46 p)).toInt else zv_b h 69 j := fun j hj => by rw [s21 j hj]
    exact zr_vr (pc := 174) rfl rfl ⟨ih19, (w20.wd rfl : zb_W [(44, 25), (61, 0), (69, 0), (44, 50), (44, 14), (44, 42), (44, 43), (44, 49), (44, 41), (44, 38), (71, 0), (72, 0)] h _), rfl, by dsimp only; exact ⟨fun _ => zg_VI1 (i := t + 1) vw (by omega) (by omega) (fun j j0 => by rw [a61 j j0]) (fun j j0 => by rw [b69 j j0]; by_cases z : j = t + 1; exact Or.inl z; exact Or.inr (if_neg z)) (by omega) (fun j j0 _ => by rw [a71 j j0]) (fun j j0 j1 j2 j3 => absurd j3 (by have d := zg_dk dz (by omega) (i := t + 1) (by omega) j0 j1 j2; omega)), (by omega), by omega, by omega, by omega, by omega, by omega⟩⟩
  · refine zr_sw (i := .tableswitch 107 1 6 #[38, 38, 56, 68, 68, 85]) (len := 38) (t := 62) (x := zv_a h 45 p) (k := 3) (pc := 6) rfl c2 rfl rfl rfl rfl ?_
    have d1 := dz.1.1 (by omega) (by omega)
    refine zx_T.l (i := .aload_n 0) (k := 1) (v := .ref 44) (pc := 62) rfl rfl rfl ?_
    refine zr_gr (k := 36) (b := 69) (pc := 63) rfl rfl rfl hI ?_
    refine zx_T.l (i := .iload_n 2) (k := 1) (v := .int (zI (t))) (pc := 66) rfl rfl rfl ?_
    refine zx_T.s (i := .iconst 1) (k := 1) (st' := [.int (zI (1)), .int (zI (t)), .ref 69]) (pc := 67) rfl rfl ?_
    refine zr_add (x := t) (y := 1) (e := t + 1) (pc := 68) rfl (by omega) ?_
    refine zx_T.s (i := .lconst 0) (k := 1) (st' := [.long (zL (0)), .int (zI (t + 1)), .ref 69]) (pc := 69) rfl rfl ?_
    refine zr_ls (n := 14) (e := 0) (pc := 70) rfl rfl rfl hI (by omega) (by omega) (fun h33 ih33 w34 s35 => ?_)
    refine zx_T.j (i := .goto 103) (k := 3) (pc' := 174) (st' := []) (pc := 71) rfl rfl rfl rfl rfl ?_
    have i42 : zv_i h33 42 = zv_i h 42 := (zv_wi w34 rfl)
    have i43 : zv_i h33 43 = zv_i h 43 := (zv_wi w34 rfl)
    have i38 : zv_i h33 38 = zv_i h 38 := (zv_wi w34 rfl)
    have i41 : zv_i h33 41 = zv_i h 41 := (zv_wi w34 rfl)
    have i50 : zv_i h33 50 = zv_i h 50 := (zv_wi w34 rfl)
    have i25 : zv_i h33 25 = zv_i h 25 := (zv_wi w34 rfl)
    have y42 : zv_i h33 1 = zv_i h 1 := (zv_wi w34 rfl)
    have y43 : zv_a h33 61 8 = zv_a h 61 8 := (zv_wa w34 rfl 8)
    have a61 : ∀ j, 0 ≤ j → zv_a h33 61 j = zv_a h 61 j := fun j hj => by rw [zv_wa w34 rfl j]
    have a71 : ∀ j, 0 ≤ j → zv_a h33 71 j = zv_a h 71 j := fun j hj => by rw [zv_wa w34 rfl j]
    have b69 : ∀ j, 0 ≤ j → zv_b h33 69 j = if j = t + 1 then (zL (0)).toInt else zv_b h 69 j := fun j hj => by rw [s35 j hj]
    exact zr_vr (pc := 174) rfl rfl ⟨ih33, (w34.wd rfl : zb_W [(44, 25), (61, 0), (69, 0), (44, 50), (44, 14), (44, 42), (44, 43), (44, 49), (44, 41), (44, 38), (71, 0), (72, 0)] h _), rfl, by dsimp only; exact ⟨fun _ => zg_VI1 (i := t + 1) vw (by omega) (by omega) (fun j j0 => by rw [a61 j j0]) (fun j j0 => by rw [b69 j j0]; by_cases z : j = t + 1; exact Or.inl z; exact Or.inr (if_neg z)) (by omega) (fun j j0 _ => by rw [a71 j j0]) (fun j j0 j1 j2 j3 => absurd j3 (by have d := zg_dk dz (by omega) (i := t + 1) (by omega) j0 j1 j2; omega)), (by omega), by omega, by omega, by omega, by omega, by omega⟩⟩
  · refine zr_sw (i := .tableswitch 107 1 6 #[38, 38, 56, 68, 68, 85]) (len := 38) (t := 74) (x := zv_a h 45 p) (k := 4) (pc := 6) rfl c2 rfl rfl rfl rfl ?_
    have d1 := dz.1.1 (by omega) (by omega)
    refine zx_T.l (i := .aload_n 0) (k := 1) (v := .ref 44) (pc := 74) rfl rfl rfl ?_
    refine zr_gr (k := 36) (b := 69) (pc := 75) rfl rfl rfl hI ?_
    refine zx_T.l (i := .iload_n 2) (k := 1) (v := .int (zI (t))) (pc := 78) rfl rfl rfl ?_
    refine zx_T.s (i := .iconst 1) (k := 1) (st' := [.int (zI (1)), .int (zI (t)), .ref 69]) (pc := 79) rfl rfl ?_
    refine zr_add (x := t) (y := 1) (e := t + 1) (pc := 80) rfl (by omega) ?_
    refine zx_T.l (i := .aload_n 0) (k := 1) (v := .ref 44) (pc := 81) rfl rfl rfl ?_
    refine zx_T.s (i := .iconst 0) (k := 1) (st' := [.int (zI (0)), .ref 44, .int (zI (t + 1)), .ref 69]) (pc := 82) rfl rfl ?_
    refine zr_iv (cj := 205) (q' := zp_m205) (As := [.int (zI (0))]) (rest := [.int (zI (t + 1)), .ref 69]) (pc := 83) rfl rfl rfl rfl rfl rfl (Nat.le_of_ble_eq_true rfl) rfl (Nat.le_of_ble_eq_true rfl) hI ((zm_thing (h := h) hI (m := 0) (by omega) (by omega) (by omega)).up (Nat.le_of_ble_eq_true rfl)) ?_
    rintro r48 h51 ⟨ih51, w52, v49, r48q, x50⟩
    subst r48q
    try dsimp only at x50
    have th := x50
    show zx_T zp_P 5 zp_m214 86 [(0, .ref 44), (1, .int (zI (p))), (2, .int (zI (t)))] [.int (zI (v49)), .int (zI (t + 1)), .ref 69] h51 _
    refine zr_i2l (pc := 86) rfl (by omega) (by omega) ?_
    refine zr_ls (n := 14) (e := v49) (pc := 87) rfl rfl rfl ih51 (by omega) (by omega) (fun h53 ih53 w54 s55 => ?_)
    refine zx_T.j (i := .goto 86) (k := 3) (pc' := 174) (st' := []) (pc := 88) rfl rfl rfl rfl rfl ?_
    have i42 : zv_i h53 42 = zv_i h 42 := ((zv_wi w54 rfl).trans (zv_wi w52 rfl))
    have i43 : zv_i h53 43 = zv_i h 43 := ((zv_wi w54 rfl).trans (zv_wi w52 rfl))
    have i38 : zv_i h53 38 = zv_i h51 38 := (zv_wi w54 rfl)
    have i41 : zv_i h53 41 = zv_i h 41 := ((zv_wi w54 rfl).trans (zv_wi w52 rfl))
    have i50 : zv_i h53 50 = zv_i h 50 := ((zv_wi w54 rfl).trans (zv_wi w52 rfl))
    have i25 : zv_i h53 25 = zv_i h 25 := ((zv_wi w54 rfl).trans (zv_wi w52 rfl))
    have y62 : zv_i h53 1 = zv_i h 1 := ((zv_wi w54 rfl).trans (zv_wi w52 rfl))
    have y63 : zv_a h53 61 8 = zv_a h 61 8 := ((zv_wa w54 rfl 8).trans (zv_wa w52 rfl 8))
    have a61 : ∀ j, 0 ≤ j → zv_a h53 61 j = zv_a h 61 j := fun j hj => by rw [zv_wa w54 rfl j, zv_wa w52 rfl j]
    have a71 : ∀ j, 0 ≤ j → zv_a h53 71 j = zv_a h51 71 j := fun j hj => by rw [zv_wa w54 rfl j]
    have b69 : ∀ j, 0 ≤ j → zv_b h53 69 j = if j = t + 1 then (zL (v49)).toInt else zv_b h 69 j := fun j hj => by rw [s55 j hj, zv_wb w52 rfl j]
    exact zr_vr (pc := 174) rfl rfl ⟨ih53, ((w52.wd rfl : zb_W [(44, 25), (61, 0), (69, 0), (44, 50), (44, 14), (44, 42), (44, 43), (44, 49), (44, 41), (44, 38), (71, 0), (72, 0)] h _).tr (w54.wd rfl)), rfl, by dsimp only; exact ⟨fun _ => zg_VI1 (i := t + 1) vw (by omega) (by omega) (fun j j0 => by rw [a61 j j0]) (fun j j0 => by rw [b69 j j0]; by_cases z : j = t + 1; exact Or.inl z; exact Or.inr (if_neg z)) (by omega) (fun j j0 j1 => by rw [a71 j j0, th.2.2 j j0, if_neg (by omega)]) (fun j j0 j1 j2 j3 => by have d := zg_dn dz (by omega) j0 j1 j2 (by omega); have e9 : j = t + 1 := (by omega); have q := b69 j j0; rw [if_pos e9, zL_i (by omega) (by omega)] at q; rw [q]; exact ⟨by omega, by omega, fun z => absurd z d.2⟩), (by omega), by omega, by omega, by omega, by omega, by omega⟩⟩
  · refine zr_sw (i := .tableswitch 107 1 6 #[38, 38, 56, 68, 68, 85]) (len := 38) (t := 74) (x := zv_a h 45 p) (k := 5) (pc := 6) rfl c2 rfl rfl rfl rfl ?_
    have d1 := dz.1.1 (by omega) (by omega)
    refine zx_T.l (i := .aload_n 0) (k := 1) (v := .ref 44) (pc := 74) rfl rfl rfl ?_
    refine zr_gr (k := 36) (b := 69) (pc := 75) rfl rfl rfl hI ?_
    refine zx_T.l (i := .iload_n 2) (k := 1) (v := .int (zI (t))) (pc := 78) rfl rfl rfl ?_
    refine zx_T.s (i := .iconst 1) (k := 1) (st' := [.int (zI (1)), .int (zI (t)), .ref 69]) (pc := 79) rfl rfl ?_
    refine zr_add (x := t) (y := 1) (e := t + 1) (pc := 80) rfl (by omega) ?_
    refine zx_T.l (i := .aload_n 0) (k := 1) (v := .ref 44) (pc := 81) rfl rfl rfl ?_
    refine zx_T.s (i := .iconst 0) (k := 1) (st' := [.int (zI (0)), .ref 44, .int (zI (t + 1)), .ref 69]) (pc := 82) rfl rfl ?_
    refine zr_iv (cj := 205) (q' := zp_m205) (As := [.int (zI (0))]) (rest := [.int (zI (t + 1)), .ref 69]) (pc := 83) rfl rfl rfl rfl rfl rfl (Nat.le_of_ble_eq_true rfl) rfl (Nat.le_of_ble_eq_true rfl) hI ((zm_thing (h := h) hI (m := 0) (by omega) (by omega) (by omega)).up (Nat.le_of_ble_eq_true rfl)) ?_
    rintro r68 h71 ⟨ih71, w72, v69, r68q, x70⟩
    subst r68q
    try dsimp only at x70
    have th := x70
    show zx_T zp_P 5 zp_m214 86 [(0, .ref 44), (1, .int (zI (p))), (2, .int (zI (t)))] [.int (zI (v69)), .int (zI (t + 1)), .ref 69] h71 _
    refine zr_i2l (pc := 86) rfl (by omega) (by omega) ?_
    refine zr_ls (n := 14) (e := v69) (pc := 87) rfl rfl rfl ih71 (by omega) (by omega) (fun h73 ih73 w74 s75 => ?_)
    refine zx_T.j (i := .goto 86) (k := 3) (pc' := 174) (st' := []) (pc := 88) rfl rfl rfl rfl rfl ?_
    have i42 : zv_i h73 42 = zv_i h 42 := ((zv_wi w74 rfl).trans (zv_wi w72 rfl))
    have i43 : zv_i h73 43 = zv_i h 43 := ((zv_wi w74 rfl).trans (zv_wi w72 rfl))
    have i38 : zv_i h73 38 = zv_i h71 38 := (zv_wi w74 rfl)
    have i41 : zv_i h73 41 = zv_i h 41 := ((zv_wi w74 rfl).trans (zv_wi w72 rfl))
    have i50 : zv_i h73 50 = zv_i h 50 := ((zv_wi w74 rfl).trans (zv_wi w72 rfl))
    have i25 : zv_i h73 25 = zv_i h 25 := ((zv_wi w74 rfl).trans (zv_wi w72 rfl))
    have y82 : zv_i h73 1 = zv_i h 1 := ((zv_wi w74 rfl).trans (zv_wi w72 rfl))
    have y83 : zv_a h73 61 8 = zv_a h 61 8 := ((zv_wa w74 rfl 8).trans (zv_wa w72 rfl 8))
    have a61 : ∀ j, 0 ≤ j → zv_a h73 61 j = zv_a h 61 j := fun j hj => by rw [zv_wa w74 rfl j, zv_wa w72 rfl j]
    have a71 : ∀ j, 0 ≤ j → zv_a h73 71 j = zv_a h71 71 j := fun j hj => by rw [zv_wa w74 rfl j]
    have b69 : ∀ j, 0 ≤ j → zv_b h73 69 j = if j = t + 1 then (zL (v69)).toInt else zv_b h 69 j := fun j hj => by rw [s75 j hj, zv_wb w72 rfl j]
    exact zr_vr (pc := 174) rfl rfl ⟨ih73, ((w72.wd rfl : zb_W [(44, 25), (61, 0), (69, 0), (44, 50), (44, 14), (44, 42), (44, 43), (44, 49), (44, 41), (44, 38), (71, 0), (72, 0)] h _).tr (w74.wd rfl)), rfl, by dsimp only; exact ⟨fun _ => zg_VI1 (i := t + 1) vw (by omega) (by omega) (fun j j0 => by rw [a61 j j0]) (fun j j0 => by rw [b69 j j0]; by_cases z : j = t + 1; exact Or.inl z; exact Or.inr (if_neg z)) (by omega) (fun j j0 j1 => by rw [a71 j j0, th.2.2 j j0, if_neg (by omega)]) (fun j j0 j1 j2 j3 => by have d := zg_dn dz (by omega) j0 j1 j2 (by omega); have e9 : j = t + 1 := (by omega); have q := b69 j j0; rw [if_pos e9, zL_i (by omega) (by omega)] at q; rw [q]; exact ⟨by omega, by omega, fun z => absurd z d.2⟩), (by omega), by omega, by omega, by omega, by omega, by omega⟩⟩
  · refine zr_sw (i := .tableswitch 107 1 6 #[38, 38, 56, 68, 68, 85]) (len := 38) (t := 91) (x := zv_a h 45 p) (k := 6) (pc := 6) rfl c2 rfl rfl rfl rfl ?_
    have d1 := dz.1.1 (by omega) (by omega)
    refine zx_T.l (i := .aload_n 0) (k := 1) (v := .ref 44) (pc := 91) rfl rfl rfl ?_
    refine zr_gr (k := 36) (b := 69) (pc := 92) rfl rfl rfl hI ?_
    refine zx_T.l (i := .iload_n 2) (k := 1) (v := .int (zI (t))) (pc := 95) rfl rfl rfl ?_
    refine zx_T.s (i := .iconst 1) (k := 1) (st' := [.int (zI (1)), .int (zI (t)), .ref 69]) (pc := 96) rfl rfl ?_
    refine zr_add (x := t) (y := 1) (e := t + 1) (pc := 97) rfl (by omega) ?_
    refine zx_T.l (i := .aload_n 0) (k := 1) (v := .ref 44) (pc := 98) rfl rfl rfl ?_
    refine zx_T.l (i := .aload_n 0) (k := 1) (v := .ref 44) (pc := 99) rfl rfl rfl ?_
    refine zr_gr (k := 3) (b := 46) (pc := 100) rfl rfl rfl hI ?_
    refine zx_T.l (i := .iload_n 1) (k := 1) (v := .int (zI (p))) (pc := 103) rfl rfl rfl ?_
    refine zr_al (n := 60) (lo := (-2147483648)) (hi := 2147483647) (e := zv_a h 46 p) (pc := 104) rfl rfl rfl hI (by omega) (by omega) rfl (fun g87a g87b => ?_)
    refine zr_iv (cj := 205) (q' := zp_m205) (As := [.int (zI (zv_a h 46 p))]) (rest := [.int (zI (t + 1)), .ref 69]) (pc := 105) rfl rfl rfl rfl rfl rfl (Nat.le_of_ble_eq_true rfl) rfl (Nat.le_of_ble_eq_true rfl) hI ((zm_thing (h := h) hI (m := zv_a h 46 p) (by omega) (by omega) (by omega)).up (Nat.le_of_ble_eq_true rfl)) ?_
    rintro r89 h92 ⟨ih92, w93, v90, r89q, x91⟩
    subst r89q
    try dsimp only at x91
    have th := x91
    show zx_T zp_P 5 zp_m214 108 [(0, .ref 44), (1, .int (zI (p))), (2, .int (zI (t)))] [.int (zI (v90)), .int (zI (t + 1)), .ref 69] h92 _
    refine zr_i2l (pc := 108) rfl (by omega) (by omega) ?_
    refine zr_ls (n := 14) (e := v90) (pc := 109) rfl rfl rfl ih92 (by omega) (by omega) (fun h94 ih94 w95 s96 => ?_)
    refine zx_T.j (i := .goto 64) (k := 3) (pc' := 174) (st' := []) (pc := 110) rfl rfl rfl rfl rfl ?_
    have i42 : zv_i h94 42 = zv_i h 42 := ((zv_wi w95 rfl).trans (zv_wi w93 rfl))
    have i43 : zv_i h94 43 = zv_i h 43 := ((zv_wi w95 rfl).trans (zv_wi w93 rfl))
    have i38 : zv_i h94 38 = zv_i h92 38 := (zv_wi w95 rfl)
    have i41 : zv_i h94 41 = zv_i h 41 := ((zv_wi w95 rfl).trans (zv_wi w93 rfl))
    have i50 : zv_i h94 50 = zv_i h 50 := ((zv_wi w95 rfl).trans (zv_wi w93 rfl))
    have i25 : zv_i h94 25 = zv_i h 25 := ((zv_wi w95 rfl).trans (zv_wi w93 rfl))
    have y103 : zv_i h94 1 = zv_i h 1 := ((zv_wi w95 rfl).trans (zv_wi w93 rfl))
    have y104 : zv_a h94 61 8 = zv_a h 61 8 := ((zv_wa w95 rfl 8).trans (zv_wa w93 rfl 8))
    have a61 : ∀ j, 0 ≤ j → zv_a h94 61 j = zv_a h 61 j := fun j hj => by rw [zv_wa w95 rfl j, zv_wa w93 rfl j]
    have a71 : ∀ j, 0 ≤ j → zv_a h94 71 j = zv_a h92 71 j := fun j hj => by rw [zv_wa w95 rfl j]
    have b69 : ∀ j, 0 ≤ j → zv_b h94 69 j = if j = t + 1 then (zL (v90)).toInt else zv_b h 69 j := fun j hj => by rw [s96 j hj, zv_wb w93 rfl j]
    exact zr_vr (pc := 174) rfl rfl ⟨ih94, ((w93.wd rfl : zb_W [(44, 25), (61, 0), (69, 0), (44, 50), (44, 14), (44, 42), (44, 43), (44, 49), (44, 41), (44, 38), (71, 0), (72, 0)] h _).tr (w95.wd rfl)), rfl, by dsimp only; exact ⟨fun _ => zg_VI1 (i := t + 1) vw (by omega) (by omega) (fun j j0 => by rw [a61 j j0]) (fun j j0 => by rw [b69 j j0]; by_cases z : j = t + 1; exact Or.inl z; exact Or.inr (if_neg z)) (by omega) (fun j j0 j1 => by rw [a71 j j0, th.2.2 j j0, if_neg (by omega)]) (fun j j0 j1 j2 j3 => by have d := zg_dn dz (by omega) j0 j1 j2 (by omega); have e9 : j = t + 1 := (by omega); have q := b69 j j0; rw [if_pos e9, zL_i (by omega) (by omega)] at q; rw [q]; exact ⟨by omega, by omega, fun z => absurd z d.2⟩), (by omega), by omega, by omega, by omega, by omega, by omega⟩⟩
  · refine zr_sw (i := .tableswitch 107 1 6 #[38, 38, 56, 68, 68, 85]) (len := 38) (t := 113) (x := zv_a h 45 p) (k := 7) (pc := 6) rfl c2 rfl rfl rfl rfl ?_
    refine zx_T.l (i := .aload_n 0) (k := 1) (v := .ref 44) (pc := 113) rfl rfl rfl ?_
    refine zr_gr (k := 36) (b := 69) (pc := 114) rfl rfl rfl hI ?_
    refine zx_T.l (i := .iload_n 2) (k := 1) (v := .int (zI (t))) (pc := 117) rfl rfl rfl ?_
    have g108 := zv_rb (h := h) 69 t
    refine zr_ll (n := 14) (e := zv_b h 69 t) (pc := 118) rfl rfl rfl hI (by omega) (by omega) rfl ?_
    refine zx_T.s (i := .lconst 0) (k := 1) (st' := [.long (zL (0)), .long (zL (zv_b h 69 t))]) (pc := 119) rfl rfl ?_
    refine zr_lcmp (pc := 120) rfl (by omega) (by omega) (by omega) (by omega) (fun z109 z109a => ?_)
    refine zr_i1 (x := z109) (t := 133) (pc := 121) rfl rfl (by omega) (by omega) (fun (c110 : 0 ≤ z109) => ?_) (fun (c110 : ¬ (0 ≤ z109)) => ?_)
    · refine zx_T.l (i := .aload_n 0) (k := 1) (v := .ref 44) (pc := 133) rfl rfl rfl ?_
      refine zr_gr (k := 36) (b := 69) (pc := 134) rfl rfl rfl hI ?_
      refine zx_T.l (i := .iload_n 2) (k := 1) (v := .int (zI (t))) (pc := 137) rfl rfl rfl ?_
      have g111 := zv_rb (h := h) 69 t
      refine zr_ll (n := 14) (e := zv_b h 69 t) (pc := 138) rfl rfl rfl hI (by omega) (by omega) rfl ?_
      refine zx_T.g (i := .ldc2_w 304) (k := 3) (st' := [.long (zL (20)), .long (zL (zv_b h 69 t))]) (h' := h) (pc := 139) rfl rfl rfl rfl rfl rfl ?_
      refine zr_lcmp (pc := 142) rfl (by omega) (by omega) (by omega) (by omega) (fun z112 z112a => ?_)
      refine zr_i1 (x := z112) (t := 156) (pc := 143) rfl rfl (by omega) (by omega) (fun (c113 : z112 ≤ 0) => ?_) (fun (c113 : ¬ (z112 ≤ 0)) => ?_)
      · refine zx_T.l (i := .aload_n 0) (k := 1) (v := .ref 44) (pc := 156) rfl rfl rfl ?_
        refine zr_gr (k := 36) (b := 69) (pc := 157) rfl rfl rfl hI ?_
        refine zx_T.l (i := .iload_n 2) (k := 1) (v := .int (zI (t))) (pc := 160) rfl rfl rfl ?_
        refine zx_T.l (i := .aload_n 0) (k := 1) (v := .ref 44) (pc := 161) rfl rfl rfl ?_
        refine zx_T.l (i := .aload_n 0) (k := 1) (v := .ref 44) (pc := 162) rfl rfl rfl ?_
        refine zr_gr (k := 36) (b := 69) (pc := 163) rfl rfl rfl hI ?_
        refine zx_T.l (i := .iload_n 2) (k := 1) (v := .int (zI (t))) (pc := 166) rfl rfl rfl ?_
        have g114 := zv_rb (h := h) 69 t
        refine zr_ll (n := 14) (e := zv_b h 69 t) (pc := 167) rfl rfl rfl hI (by omega) (by omega) rfl ?_
        refine zr_l2i (pc := 168) rfl ?_
        refine zr_iv (cj := 205) (q' := zp_m205) (As := [.int (zI (zv_b h 69 t))]) (rest := [.int (zI (t)), .ref 69]) (pc := 169) rfl rfl rfl rfl rfl rfl (Nat.le_of_ble_eq_true rfl) rfl (Nat.le_of_ble_eq_true rfl) hI ((zm_thing (h := h) hI (m := zv_b h 69 t) (by omega) (by omega) (by omega)).up (Nat.le_of_ble_eq_true rfl)) ?_
        rintro r116 h119 ⟨ih119, w120, v117, r116q, x118⟩
        subst r116q
        try dsimp only at x118
        have th := x118
        show zx_T zp_P 5 zp_m214 172 [(0, .ref 44), (1, .int (zI (p))), (2, .int (zI (t)))] [.int (zI (v117)), .int (zI (t)), .ref 69] h119 _
        refine zr_i2l (pc := 172) rfl (by omega) (by omega) ?_
        refine zr_ls (n := 14) (e := v117) (pc := 173) rfl rfl rfl ih119 (by omega) (by omega) (fun h121 ih121 w122 s123 => ?_)
        have i42 : zv_i h121 42 = zv_i h 42 := ((zv_wi w122 rfl).trans (zv_wi w120 rfl))
        have i43 : zv_i h121 43 = zv_i h 43 := ((zv_wi w122 rfl).trans (zv_wi w120 rfl))
        have i38 : zv_i h121 38 = zv_i h119 38 := (zv_wi w122 rfl)
        have i41 : zv_i h121 41 = zv_i h 41 := ((zv_wi w122 rfl).trans (zv_wi w120 rfl))
        have i50 : zv_i h121 50 = zv_i h 50 := ((zv_wi w122 rfl).trans (zv_wi w120 rfl))
        have i25 : zv_i h121 25 = zv_i h 25 := ((zv_wi w122 rfl).trans (zv_wi w120 rfl))
        have y130 : zv_i h121 1 = zv_i h 1 := ((zv_wi w122 rfl).trans (zv_wi w120 rfl))
        have y131 : zv_a h121 61 8 = zv_a h 61 8 := ((zv_wa w122 rfl 8).trans (zv_wa w120 rfl 8))
        have a61 : ∀ j, 0 ≤ j → zv_a h121 61 j = zv_a h 61 j := fun j hj => by rw [zv_wa w122 rfl j, zv_wa w120 rfl j]
        have a71 : ∀ j, 0 ≤ j → zv_a h121 71 j = zv_a h119 71 j := fun j hj => by rw [zv_wa w122 rfl j]
        have b69 : ∀ j, 0 ≤ j → zv_b h121 69 j = if j = t then (zL (v117)).toInt else zv_b h 69 j := fun j hj => by rw [s123 j hj, zv_wb w120 rfl j]
        exact zr_vr (pc := 174) rfl rfl ⟨ih121, ((w120.wd rfl : zb_W [(44, 25), (61, 0), (69, 0), (44, 50), (44, 14), (44, 42), (44, 43), (44, 49), (44, 41), (44, 38), (71, 0), (72, 0)] h _).tr (w122.wd rfl)), rfl, by dsimp only; exact ⟨fun _ => zg_VI1 (i := t) vw (by omega) (by omega) (fun j j0 => by rw [a61 j j0]) (fun j j0 => by rw [b69 j j0]; by_cases z : j = t; exact Or.inl z; exact Or.inr (if_neg z)) (by omega) (fun j j0 j1 => by rw [a71 j j0, th.2.2 j j0, if_neg (by omega)]) (fun j j0 j1 j2 j3 => by have d := zg_d7 dz (by omega) j0 j1 j2 (by omega); have e9 : j = t := (by omega); have q := b69 j j0; rw [if_pos e9, zL_i (by omega) (by omega)] at q; rw [q]; exact ⟨by omega, by omega, fun z => by rw [a71 _ (by omega), th.2.2 _ (by omega), if_pos (by omega)]; omega⟩), (by omega), by omega, by omega, by omega, by omega, by omega⟩⟩
      · refine zx_T.l (i := .aload_n 0) (k := 1) (v := .ref 44) (pc := 146) rfl rfl rfl ?_
        refine zx_T.l (i := .iload_n 1) (k := 1) (v := .int (zI (p))) (pc := 147) rfl rfl rfl ?_
        refine zx_T.s (i := .bipush 6) (k := 2) (st' := [.int (zI (6)), .int (zI (p)), .ref 44]) (pc := 148) rfl rfl ?_
        refine zr_iv (cj := 211) (q' := zp_m211) (As := [.int (zI (p)), .int (zI (6))]) (rest := []) (pc := 150) rfl rfl rfl rfl rfl rfl (Nat.le_of_ble_eq_true rfl) rfl (Nat.le_of_ble_eq_true rfl) hI ((zm_refuse (h := h) hI (p := p) (q := 6) (by omega) (by omega) (by omega) (by omega) (by omega) (by omega) (by omega) (by omega)).up (Nat.le_of_ble_eq_true rfl)) ?_
        rintro r138 h141 ⟨ih141, w142, r138q, x140⟩
        subst r138q
        try dsimp only at x140
        have rf := x140
        show zx_T zp_P 5 zp_m214 153 [(0, .ref 44), (1, .int (zI (p))), (2, .int (zI (t)))] [] h141 _
        refine zx_T.j (i := .goto 21) (k := 3) (pc' := 174) (st' := []) (pc := 153) rfl rfl rfl rfl rfl ?_
        have i42 : zv_i h141 42 = zv_i h141 42 := rfl
        have i43 : zv_i h141 43 = zv_i h141 43 := rfl
        have i38 : zv_i h141 38 = zv_i h141 38 := rfl
        have i41 : zv_i h141 41 = zv_i h141 41 := rfl
        have i50 : zv_i h141 50 = zv_i h141 50 := rfl
        have i25 : zv_i h141 25 = zv_i h141 25 := rfl
        have y149 : zv_i h141 1 = zv_i h 1 := (zv_wi w142 rfl)
        have a61 : ∀ j, 0 ≤ j → zv_a h141 61 j = zv_a h141 61 j := fun j hj => rfl
        have a71 : ∀ j, 0 ≤ j → zv_a h141 71 j = zv_a h141 71 j := fun j hj => rfl
        have b69 : ∀ j, 0 ≤ j → zv_b h141 69 j = zv_b h141 69 j := fun j hj => rfl
        exact zr_vr (pc := 174) rfl rfl ⟨ih141, (w142.wd rfl : zb_W [(44, 25), (61, 0), (69, 0), (44, 50), (44, 14), (44, 42), (44, 43), (44, 49), (44, 41), (44, 38), (71, 0), (72, 0)] h _), rfl, by dsimp only; exact zg_ae.rf hI rf (zg_lo dz vw (by omega) t1 (by omega)) x0⟩
    · refine zx_T.l (i := .aload_n 0) (k := 1) (v := .ref 44) (pc := 124) rfl rfl rfl ?_
      refine zx_T.l (i := .iload_n 1) (k := 1) (v := .int (zI (p))) (pc := 125) rfl rfl rfl ?_
      refine zx_T.s (i := .iconst 3) (k := 1) (st' := [.int (zI (3)), .int (zI (p)), .ref 44]) (pc := 126) rfl rfl ?_
      refine zr_iv (cj := 211) (q' := zp_m211) (As := [.int (zI (p)), .int (zI (3))]) (rest := []) (pc := 127) rfl rfl rfl rfl rfl rfl (Nat.le_of_ble_eq_true rfl) rfl (Nat.le_of_ble_eq_true rfl) hI ((zm_refuse (h := h) hI (p := p) (q := 3) (by omega) (by omega) (by omega) (by omega) (by omega) (by omega) (by omega) (by omega)).up (Nat.le_of_ble_eq_true rfl)) ?_
      rintro r157 h160 ⟨ih160, w161, r157q, x159⟩
      subst r157q
      try dsimp only at x159
      have rf := x159
      show zx_T zp_P 5 zp_m214 130 [(0, .ref 44), (1, .int (zI (p))), (2, .int (zI (t)))] [] h160 _
      refine zx_T.j (i := .goto 44) (k := 3) (pc' := 174) (st' := []) (pc := 130) rfl rfl rfl rfl rfl ?_
      have i42 : zv_i h160 42 = zv_i h160 42 := rfl
      have i43 : zv_i h160 43 = zv_i h160 43 := rfl
      have i38 : zv_i h160 38 = zv_i h160 38 := rfl
      have i41 : zv_i h160 41 = zv_i h160 41 := rfl
      have i50 : zv_i h160 50 = zv_i h160 50 := rfl
      have i25 : zv_i h160 25 = zv_i h160 25 := rfl
      have y168 : zv_i h160 1 = zv_i h 1 := (zv_wi w161 rfl)
      have a61 : ∀ j, 0 ≤ j → zv_a h160 61 j = zv_a h160 61 j := fun j hj => rfl
      have a71 : ∀ j, 0 ≤ j → zv_a h160 71 j = zv_a h160 71 j := fun j hj => rfl
      have b69 : ∀ j, 0 ≤ j → zv_b h160 69 j = zv_b h160 69 j := fun j hj => rfl
      exact zr_vr (pc := 174) rfl rfl ⟨ih160, (w161.wd rfl : zb_W [(44, 25), (61, 0), (69, 0), (44, 50), (44, 14), (44, 42), (44, 43), (44, 49), (44, 41), (44, 38), (71, 0), (72, 0)] h _), rfl, by dsimp only; exact zg_ae.rf hI rf (zg_lo dz vw (by omega) t1 (by omega)) x0⟩
