/-! ===== 57: the reference, method by method (by program) ===== -/
theorem zg_tn {a b : Int} {n : Nat} (h : b.toNat < n + 1) (l : a < b) (p : 0 < b) : a.toNat < n := by omega

theorem zg_nf1 {h : zx_H} {p q k e : Int} (nj : ∀ i, 0 ≤ i → i < k → (i = 0 → 24 ≤ zv_a h 45 q → zv_a h 45 q ≤ 27 → ¬ zv_a h 46 q = p) ∧ (i = 1 → zv_a h 45 q = 27 → ¬ zv_a h 47 q = p)) (k0 : 0 ≤ k) (k2 : k ≤ 1) (hj : (k = 0 → 24 ≤ zv_a h 45 q → zv_a h 45 q ≤ 27 → e = zv_a h 46 q) ∧ (k = 1 → zv_a h 45 q = 27 → e = zv_a h 47 q)) (he : ¬ e = p) : ∀ i, 0 ≤ i → i < k + 1 → (i = 0 → 24 ≤ zv_a h 45 q → zv_a h 45 q ≤ 27 → ¬ zv_a h 46 q = p) ∧ (i = 1 → zv_a h 45 q = 27 → ¬ zv_a h 47 q = p) := by
  intro i i0 i1
  rcases (show i = k ∨ i < k by omega) with e9 | e9
  · subst e9
    exact ⟨fun z a b c => he (by rw [hj.1 z a b, c]), fun z a c => he (by rw [hj.2 z a, c])⟩
  · exact nj i i0 e9
/-- not gone to from q -/
def zg_ng (h : zx_H) (p q : Int) : Prop := zv_a h 54 q = 1 → (24 ≤ zv_a h 45 q → zv_a h 45 q ≤ 27 → ¬ zv_a h 46 q = p) ∧ (zv_a h 45 q = 27 → ¬ zv_a h 47 q = p)
theorem zg_nf2 {h : zx_H} {p q k e : Int} (nj : ∀ i, 0 ≤ i → i < k → (i = 0 → 24 ≤ zv_a h 45 q → zv_a h 45 q ≤ 27 → ¬ zv_a h 46 q = p) ∧ (i = 1 → zv_a h 45 q = 27 → ¬ zv_a h 47 q = p)) (k0 : 0 ≤ k) (hj : 0 ≤ e ∧ e ≤ 2 ∧ (1 ≤ e → 24 ≤ zv_a h 45 q ∧ zv_a h 45 q ≤ 27) ∧ (e = 2 → zv_a h 45 q = 27) ∧ (24 ≤ zv_a h 45 q → zv_a h 45 q ≤ 27 → 1 ≤ e) ∧ (zv_a h 45 q = 27 → e = 2)) (hk : e ≤ k) : zg_ng h p q := fun _ =>
  ⟨fun a b => (nj 0 (by omega) (by have := hj.2.2.2.2.1 a b; omega)).1 rfl a b, fun a => (nj 1 (by omega) (by have := hj.2.2.2.2.2 a; omega)).2 rfl a⟩
theorem zg_nf3 {h : zx_H} {p q : Int} (nq : ∀ r, 0 ≤ r → r < q → zg_ng h p r) (hq : zg_ng h p q) : ∀ r, 0 ≤ r → r < q + 1 → zg_ng h p r := fun r r0 r1 => by
  rcases (show r = q ∨ r < q by omega) with e9 | e9
  · subst e9; exact hq
  · exact nq r r0 e9
theorem zg_nFC {h : zx_H} {p : Int} (nt : ∀ i, 0 ≤ i → i < zv_i h 5 → ¬ zv_a h 50 i = p) (nq : ∀ r, 0 ≤ r → r < zv_i h 1 → zg_ng h p r) : ¬ zg_FC h p := by
  rintro (⟨t, t0, t1, e⟩ | ⟨q, q0, q1, q2, ⟨a, b, c⟩ | ⟨a, c⟩⟩)
  · exact nt t t0 t1 e
  · exact (nq q q0 q1 q2).1 a b c
  · exact (nq q q0 q1 q2).2 a c

theorem zg_FCj {h : zx_H} {p q k e j : Int} (q0 : 0 ≤ q) (q1 : q < zv_i h 1) (hr : zv_a h 54 q = 1) (jm : k < j ∧ 0 ≤ k ∧ 0 ≤ j ∧ j ≤ 2 ∧ (1 ≤ j → 24 ≤ zv_a h 45 q ∧ zv_a h 45 q ≤ 27) ∧ (j = 2 → zv_a h 45 q = 27)) (jp : e = p ∧ (k = 0 → 24 ≤ zv_a h 45 q → zv_a h 45 q ≤ 27 → e = zv_a h 46 q) ∧ (k = 1 → zv_a h 45 q = 27 → e = zv_a h 47 q)) : zg_FC h p := by
  obtain ⟨a1, a2, a3, a4, a5, a6⟩ := jm
  obtain ⟨b1, b2, b3⟩ := jp
  have a7 := a5 (by omega)
  rcases (show k = 0 ∨ k = 1 by omega) with z | z
  · exact Or.inr ⟨q, q0, q1, hr, Or.inl ⟨a7.1, a7.2, by rw [← b1, b2 z a7.1 a7.2]⟩⟩
  · have a8 := a6 (by omega)
    exact Or.inr ⟨q, q0, q1, hr, Or.inr ⟨a8, by rw [← b1, b3 z a8]⟩⟩

set_option maxRecDepth 100000 in
set_option maxHeartbeats 4000000 in
theorem zm_isFrame_L {h : zx_H} (hI : zb_I zc_H h) {p : Int} (p1 : 0 ≤ p) (p2 : p ≤ 59) (n : Nat) : (∀ {t : Int} (t1 : 0 ≤ t) (t2 : t ≤ zv_i h 5) (nt : ∀ i, 0 ≤ i → i < t → ¬ zv_a h 50 i = p), (1000 - t : Int).toNat < n → zx_T zp_P 1 zp_m177 2 [(0, .ref 44), (1, .int (zI (p))), (2, .int (zI (t)))] [] h (zr_P h (fun e => (e = 1 ∧ (zg_FC h p ∨ (0 < p ∧ (¬ zv_a h 54 (p - 1) = 1 ∨ (22 ≤ zv_a h 45 (p - 1) ∧ zv_a h 45 (p - 1) ≤ 24))))) ∨ (e = 0 ∧ ¬ zg_FC h p ∧ ¬ (0 < p ∧ (¬ zv_a h 54 (p - 1) = 1 ∨ (22 ≤ zv_a h 45 (p - 1) ∧ zv_a h 45 (p - 1) ≤ 24))))))) ∧ (∀ {q : Int} (q1 : 0 ≤ q) (q2 : q ≤ zv_i h 1) (nt : ∀ i, 0 ≤ i → i < zv_i h 5 → ¬ zv_a h 50 i = p) (nq : ∀ r, 0 ≤ r → r < q → zg_ng h p r), (700 - 5 * q : Int).toNat < n → zx_T zp_P 1 zp_m177 30 [(0, .ref 44), (1, .int (zI (p))), (2, .int (zI (q)))] [] h (zr_P h (fun e => (e = 1 ∧ (zg_FC h p ∨ (0 < p ∧ (¬ zv_a h 54 (p - 1) = 1 ∨ (22 ≤ zv_a h 45 (p - 1) ∧ zv_a h 45 (p - 1) ≤ 24))))) ∨ (e = 0 ∧ ¬ zg_FC h p ∧ ¬ (0 < p ∧ (¬ zv_a h 54 (p - 1) = 1 ∨ (22 ≤ zv_a h 45 (p - 1) ∧ zv_a h 45 (p - 1) ≤ 24))))))) ∧ (∀ {q : Int} {k : Int} (q1 : 0 ≤ q) (q2 : q < zv_i h 1) (k1 : 0 ≤ k) (k2 : k ≤ 2) (nt : ∀ i, 0 ≤ i → i < zv_i h 5 → ¬ zv_a h 50 i = p) (nq : ∀ r, 0 ≤ r → r < q → zg_ng h p r) (nj : ∀ i, 0 ≤ i → i < k → (i = 0 → 24 ≤ zv_a h 45 q → zv_a h 45 q ≤ 27 → ¬ zv_a h 46 q = p) ∧ (i = 1 → zv_a h 45 q = 27 → ¬ zv_a h 47 q = p)), (699 - 5 * q - k : Int).toNat < n → zx_T zp_P 1 zp_m177 40 [(0, .ref 44), (1, .int (zI (p))), (2, .int (zI (q))), (3, .int (zI (k)))] [] h (zr_P h (fun e => (e = 1 ∧ (zg_FC h p ∨ (0 < p ∧ (¬ zv_a h 54 (p - 1) = 1 ∨ (22 ≤ zv_a h 45 (p - 1) ∧ zv_a h 45 (p - 1) ≤ 24))))) ∨ (e = 0 ∧ ¬ zg_FC h p ∧ ¬ (0 < p ∧ (¬ zv_a h 54 (p - 1) = 1 ∨ (22 ≤ zv_a h 45 (p - 1) ∧ zv_a h 45 (p - 1) ≤ 24))))))) := by
  induction n with
  | zero => exact ⟨fun _ _ _ hm => absurd hm (Nat.not_lt_zero _), fun _ _ _ _ hm => absurd hm (Nat.not_lt_zero _), fun _ _ _ _ _ _ _ hm => absurd hm (Nat.not_lt_zero _)⟩
  | succ n ih =>
    refine ⟨?_, ?_, ?_⟩
    · intro t t1 t2 nt hm
      have hC := zv_ri hI (k := 1) rfl
      have hH := zv_ri hI (k := 5) rfl
      refine zx_T.l (i := .iload_n 2) (k := 1) (v := .int (zI (t))) (pc := 2) rfl rfl rfl ?_
      refine zx_T.l (i := .aload_n 0) (k := 1) (v := .ref 44) (pc := 3) rfl rfl rfl ?_
      refine zr_gi (k := 5) (lo := 0) (hi := 6) (e := zv_i h 5) (pc := 4) rfl rfl rfl hI rfl (fun g1a g1b => ?_)
      refine zr_i2 (x := t) (y := zv_i h 5) (t := 28) (pc := 7) rfl rfl (by omega) (by omega) (by omega) (by omega) (fun (c2 : (zv_i h 5) ≤ t) => ?_) (fun (c2 : ¬ ((zv_i h 5) ≤ t)) => ?_)
      · refine zx_T.s (i := .iconst 0) (k := 1) (st' := [.int (zI (0))]) (pc := 28) rfl rfl ?_
        refine zx_T.t (i := .istore_n 2) (k := 1) (ls' := [(2, .int (zI (0))), (0, .ref 44), (1, .int (zI (p)))]) (st' := []) (pc := 29) rfl rfl rfl rfl ?_
        refine zx_T.lk (ls' := [(0, .ref 44), (1, .int (zI (p))), (2, .int (zI (0)))]) rfl ⟨rfl, rfl, rfl, trivial⟩ ?_
        exact ih.2.1 (q := 0) (by omega) (by omega) (fun j j0 j1 => nt j j0 (by omega)) (fun r r0 r1 => absurd (Int.lt_of_le_of_lt r0 r1) (Int.lt_irrefl _)) (zg_tn hm (by omega) (by omega))
      · refine zx_T.l (i := .aload_n 0) (k := 1) (v := .ref 44) (pc := 10) rfl rfl rfl ?_
        refine zr_gr (k := 8) (b := 50) (pc := 11) rfl rfl rfl hI ?_
        refine zx_T.l (i := .iload_n 2) (k := 1) (v := .int (zI (t))) (pc := 14) rfl rfl rfl ?_
        refine zr_al (n := 6) (lo := 0) (hi := 60) (e := zv_a h 50 t) (pc := 15) rfl rfl rfl hI (by omega) (by omega) rfl (fun g3a g3b => ?_)
        refine zx_T.l (i := .iload_n 1) (k := 1) (v := .int (zI (p))) (pc := 16) rfl rfl rfl ?_
        refine zr_i2 (x := zv_a h 50 t) (y := p) (t := 22) (pc := 17) rfl rfl (by omega) (by omega) (by omega) (by omega) (fun (c4 : ¬ (zv_a h 50 t) = p) => ?_) (fun (c4 : ¬ (¬ (zv_a h 50 t) = p)) => ?_)
        · refine zr_inc (x := t) (n := 1) (y := t + 1) (ls' := [(2, .int (zI (t + 1))), (0, .ref 44), (1, .int (zI (p)))]) (pc := 22) rfl rfl rfl (by omega) rfl ?_
          refine zx_T.j (i := .goto (-23)) (k := 3) (pc' := 2) (st' := []) (pc := 25) rfl rfl rfl rfl rfl ?_
          refine zx_T.lk (ls' := [(0, .ref 44), (1, .int (zI (p))), (2, .int (zI (t + 1)))]) rfl ⟨rfl, rfl, rfl, trivial⟩ ?_
          exact ih.1 (t := t + 1) (by omega) (by omega) (fun j j0 j1 => by first | omega | (rcases (show j = t ∨ j < t by omega) with e9 | e9; (subst e9; omega); exact nt j j0 e9)) (by omega)
        · refine zx_T.s (i := .iconst 1) (k := 1) (st' := [.int (zI (1))]) (pc := 20) rfl rfl ?_
          exact zr_ir (x := 1) (pc := 21) rfl rfl (zr_nb (by omega) (by omega)) ⟨rfl, _, rfl, by dsimp only; exact Or.inl ⟨rfl, Or.inl (Or.inl ⟨t, by omega, by omega, by omega⟩)⟩⟩
    · intro q q1 q2 nt nq hm
      have hC := zv_ri hI (k := 1) rfl
      have hH := zv_ri hI (k := 5) rfl
      refine zx_T.l (i := .iload_n 2) (k := 1) (v := .int (zI (q))) (pc := 30) rfl rfl rfl ?_
      refine zx_T.l (i := .aload_n 0) (k := 1) (v := .ref 44) (pc := 31) rfl rfl rfl ?_
      refine zr_gi (k := 1) (lo := 0) (hi := 60) (e := zv_i h 1) (pc := 32) rfl rfl rfl hI rfl (fun g5a g5b => ?_)
      refine zr_i2 (x := q) (y := zv_i h 1) (t := 82) (pc := 35) rfl rfl (by omega) (by omega) (by omega) (by omega) (fun (c6 : (zv_i h 1) ≤ q) => ?_) (fun (c6 : ¬ ((zv_i h 1) ≤ q)) => ?_)
      · refine zx_T.l (i := .iload_n 1) (k := 1) (v := .int (zI (p))) (pc := 82) rfl rfl rfl ?_
        refine zr_i1 (x := p) (t := 111) (pc := 83) rfl rfl (by omega) (by omega) (fun (c7 : p ≤ 0) => ?_) (fun (c7 : ¬ (p ≤ 0)) => ?_)
        · refine zx_T.s (i := .iconst 0) (k := 1) (st' := [.int (zI (0))]) (pc := 111) rfl rfl ?_
          exact zr_ir (x := 0) (pc := 112) rfl rfl (zr_nb (by omega) (by omega)) ⟨rfl, _, rfl, by dsimp only; exact Or.inr ⟨rfl, zg_nFC (fun i i0 i1 => nt i i0 (by omega)) (fun r r0 r1 => nq r r0 (by omega)), by omega⟩⟩
        · refine zx_T.l (i := .aload_n 0) (k := 1) (v := .ref 44) (pc := 86) rfl rfl rfl ?_
          refine zr_gr (k := 16) (b := 54) (pc := 87) rfl rfl rfl hI ?_
          refine zx_T.l (i := .iload_n 1) (k := 1) (v := .int (zI (p))) (pc := 90) rfl rfl rfl ?_
          refine zx_T.s (i := .iconst 1) (k := 1) (st' := [.int (zI (1)), .int (zI (p)), .ref 54]) (pc := 91) rfl rfl ?_
          refine zr_sub (x := p) (y := 1) (e := p - 1) (pc := 92) rfl (by omega) ?_
          refine zr_bl (n := 60) (lo := 0) (hi := 1) (e := zv_a h 54 (p - 1)) (pc := 93) rfl rfl rfl hI (by omega) (by omega) rfl (fun g8a g8b => ?_)
          refine zr_i1 (x := zv_a h 54 (p - 1)) (t := 107) (pc := 94) rfl rfl (by omega) (by omega) (fun (c9 : (zv_a h 54 (p - 1)) = 0) => ?_) (fun (c9 : ¬ ((zv_a h 54 (p - 1)) = 0)) => ?_)
          · refine zx_T.s (i := .iconst 1) (k := 1) (st' := [.int (zI (1))]) (pc := 107) rfl rfl ?_
            refine zx_T.j (i := .goto 4) (k := 3) (pc' := 112) (st' := [.int (zI (1))]) (pc := 108) rfl rfl rfl rfl rfl ?_
            exact zr_ir (x := 1) (pc := 112) rfl rfl (zr_nb (by omega) (by omega)) ⟨rfl, _, rfl, by dsimp only; exact Or.inl ⟨rfl, Or.inr ⟨by omega, by omega⟩⟩⟩
          · refine zx_T.l (i := .aload_n 0) (k := 1) (v := .ref 44) (pc := 97) rfl rfl rfl ?_
            refine zx_T.l (i := .iload_n 1) (k := 1) (v := .int (zI (p))) (pc := 98) rfl rfl rfl ?_
            refine zx_T.s (i := .iconst 1) (k := 1) (st' := [.int (zI (1)), .int (zI (p)), .ref 44]) (pc := 99) rfl rfl ?_
            refine zr_sub (x := p) (y := 1) (e := p - 1) (pc := 100) rfl (by omega) ?_
            refine zr_iv (cj := 168) (q' := zp_m168) (As := [.int (zI (p - 1))]) (rest := []) (pc := 101) rfl rfl rfl rfl rfl rfl (Nat.le_of_ble_eq_true rfl) rfl (Nat.le_of_ble_eq_true rfl) hI ((zm_goesOn (h := h) hI (p := p - 1) (by omega) (by omega)).up (Nat.le_of_ble_eq_true rfl)) ?_
            rintro r10 h13 ⟨h13q, v11, r10q, x12⟩
            subst h13q r10q
            try dsimp only at x12
            show zx_T zp_P 1 zp_m177 104 [(0, .ref 44), (1, .int (zI (p))), (2, .int (zI (q)))] [.int (zI (v11))] h _
            refine zr_i1 (x := v11) (t := 111) (pc := 104) rfl rfl (by omega) (by omega) (fun (c14 : ¬ v11 = 0) => ?_) (fun (c14 : ¬ (¬ v11 = 0)) => ?_)
            · refine zx_T.s (i := .iconst 0) (k := 1) (st' := [.int (zI (0))]) (pc := 111) rfl rfl ?_
              exact zr_ir (x := 0) (pc := 112) rfl rfl (zr_nb (by omega) (by omega)) ⟨rfl, _, rfl, by dsimp only; exact Or.inr ⟨rfl, zg_nFC (fun i i0 i1 => nt i i0 (by omega)) (fun r r0 r1 => nq r r0 (by omega)), by omega⟩⟩
            · refine zx_T.s (i := .iconst 1) (k := 1) (st' := [.int (zI (1))]) (pc := 107) rfl rfl ?_
              refine zx_T.j (i := .goto 4) (k := 3) (pc' := 112) (st' := [.int (zI (1))]) (pc := 108) rfl rfl rfl rfl rfl ?_
              exact zr_ir (x := 1) (pc := 112) rfl rfl (zr_nb (by omega) (by omega)) ⟨rfl, _, rfl, by dsimp only; exact Or.inl ⟨rfl, Or.inr ⟨by omega, by omega⟩⟩⟩
      · refine zx_T.s (i := .iconst 0) (k := 1) (st' := [.int (zI (0))]) (pc := 38) rfl rfl ?_
        refine zx_T.t (i := .istore_n 3) (k := 1) (ls' := [(3, .int (zI (0))), (0, .ref 44), (1, .int (zI (p))), (2, .int (zI (q)))]) (st' := []) (pc := 39) rfl rfl rfl rfl ?_
        refine zx_T.lk (ls' := [(0, .ref 44), (1, .int (zI (p))), (2, .int (zI (q))), (3, .int (zI (0)))]) rfl ⟨rfl, rfl, rfl, rfl, trivial⟩ ?_
        exact ih.2.2 (q := q) (k := 0) (by omega) (by omega) (by omega) (by omega) nt nq (fun i i0 i1 => absurd (Int.lt_of_le_of_lt i0 i1) (Int.lt_irrefl _)) (zg_tn hm (by omega) (by omega))
    · intro q k q1 q2 k1 k2 nt nq nj hm
      have hC := zv_ri hI (k := 1) rfl
      have hH := zv_ri hI (k := 5) rfl
      refine zx_T.l (i := .iload_n 3) (k := 1) (v := .int (zI (k))) (pc := 40) rfl rfl rfl ?_
      refine zx_T.l (i := .aload_n 0) (k := 1) (v := .ref 44) (pc := 41) rfl rfl rfl ?_
      refine zx_T.l (i := .iload_n 2) (k := 1) (v := .int (zI (q))) (pc := 42) rfl rfl rfl ?_
      refine zr_iv (cj := 170) (q' := zp_m170) (As := [.int (zI (q))]) (rest := [.int (zI (k))]) (pc := 43) rfl rfl rfl rfl rfl rfl (Nat.le_of_ble_eq_true rfl) rfl (Nat.le_of_ble_eq_true rfl) hI ((zm_jumps (h := h) hI (p := q) (by omega) (by omega)).up (Nat.le_of_ble_eq_true rfl)) ?_
      rintro r15 h18 ⟨h18q, v16, r15q, x17⟩
      subst h18q r15q
      try dsimp only at x17
      have jj := x17
      show zx_T zp_P 1 zp_m177 46 [(0, .ref 44), (1, .int (zI (p))), (2, .int (zI (q))), (3, .int (zI (k)))] [.int (zI (v16)), .int (zI (k))] h _
      refine zr_i2 (x := k) (y := v16) (t := 76) (pc := 46) rfl rfl (by omega) (by omega) (by omega) (by omega) (fun (c19 : v16 ≤ k) => ?_) (fun (c19 : ¬ (v16 ≤ k)) => ?_)
      · refine zr_inc (x := q) (n := 1) (y := q + 1) (ls' := [(2, .int (zI (q + 1))), (0, .ref 44), (1, .int (zI (p))), (3, .int (zI (k)))]) (pc := 76) rfl rfl rfl (by omega) rfl ?_
        refine zx_T.j (i := .goto (-49)) (k := 3) (pc' := 30) (st' := []) (pc := 79) rfl rfl rfl rfl rfl ?_
        refine zx_T.lk (ls' := [(0, .ref 44), (1, .int (zI (p))), (2, .int (zI (q + 1)))]) rfl ⟨rfl, rfl, rfl, trivial⟩ ?_
        exact ih.2.1 (q := q + 1) (by omega) (by omega) (fun j j0 j1 => nt j j0 (by omega)) (by first | exact zg_nf3 nq (zg_nf2 nj k1 jj (by omega)) | exact zg_nf3 nq (fun z9 => absurd z9 (by omega))) (zg_tn hm (by omega) (by omega))
      · refine zx_T.l (i := .aload_n 0) (k := 1) (v := .ref 44) (pc := 49) rfl rfl rfl ?_
        refine zr_gr (k := 16) (b := 54) (pc := 50) rfl rfl rfl hI ?_
        refine zx_T.l (i := .iload_n 2) (k := 1) (v := .int (zI (q))) (pc := 53) rfl rfl rfl ?_
        refine zr_bl (n := 60) (lo := 0) (hi := 1) (e := zv_a h 54 q) (pc := 54) rfl rfl rfl hI (by omega) (by omega) rfl (fun g20a g20b => ?_)
        refine zr_i1 (x := zv_a h 54 q) (t := 76) (pc := 55) rfl rfl (by omega) (by omega) (fun (c21 : (zv_a h 54 q) = 0) => ?_) (fun (c21 : ¬ ((zv_a h 54 q) = 0)) => ?_)
        · refine zr_inc (x := q) (n := 1) (y := q + 1) (ls' := [(2, .int (zI (q + 1))), (0, .ref 44), (1, .int (zI (p))), (3, .int (zI (k)))]) (pc := 76) rfl rfl rfl (by omega) rfl ?_
          refine zx_T.j (i := .goto (-49)) (k := 3) (pc' := 30) (st' := []) (pc := 79) rfl rfl rfl rfl rfl ?_
          refine zx_T.lk (ls' := [(0, .ref 44), (1, .int (zI (p))), (2, .int (zI (q + 1)))]) rfl ⟨rfl, rfl, rfl, trivial⟩ ?_
          exact ih.2.1 (q := q + 1) (by omega) (by omega) (fun j j0 j1 => nt j j0 (by omega)) (by first | exact zg_nf3 nq (zg_nf2 nj k1 jj (by omega)) | exact zg_nf3 nq (fun z9 => absurd z9 (by omega))) (zg_tn hm (by omega) (by omega))
        · refine zx_T.l (i := .aload_n 0) (k := 1) (v := .ref 44) (pc := 58) rfl rfl rfl ?_
          refine zx_T.l (i := .iload_n 2) (k := 1) (v := .int (zI (q))) (pc := 59) rfl rfl rfl ?_
          refine zx_T.l (i := .iload_n 3) (k := 1) (v := .int (zI (k))) (pc := 60) rfl rfl rfl ?_
          refine zr_iv (cj := 169) (q' := zp_m169) (As := [.int (zI (q)), .int (zI (k))]) (rest := []) (pc := 61) rfl rfl rfl rfl rfl rfl (Nat.le_of_ble_eq_true rfl) rfl (Nat.le_of_ble_eq_true rfl) hI ((zm_jump (h := h) hI (p := q) (k := k) (by omega) (by omega) (by omega) (by omega)).up (Nat.le_of_ble_eq_true rfl)) ?_
          rintro r22 h25 ⟨h25q, v23, r22q, x24⟩
          subst h25q r22q
          try dsimp only at x24
          have jw := x24
          have jx : v23 = p → (v23 = p ∧ (k = 0 → 24 ≤ zv_a h 45 q → zv_a h 45 q ≤ 27 → v23 = zv_a h 46 q) ∧ (k = 1 → zv_a h 45 q = 27 → v23 = zv_a h 47 q)) := fun z9 => ⟨z9, x24.2.2⟩
          show zx_T zp_P 1 zp_m177 64 [(0, .ref 44), (1, .int (zI (p))), (2, .int (zI (q))), (3, .int (zI (k)))] [.int (zI (v23))] h _
          refine zx_T.l (i := .iload_n 1) (k := 1) (v := .int (zI (p))) (pc := 64) rfl rfl rfl ?_
          refine zr_i2 (x := v23) (y := p) (t := 70) (pc := 65) rfl rfl (by omega) (by omega) (by omega) (by omega) (fun (c26 : ¬ v23 = p) => ?_) (fun (c26 : ¬ (¬ v23 = p)) => ?_)
          · refine zr_inc (x := k) (n := 1) (y := k + 1) (ls' := [(3, .int (zI (k + 1))), (0, .ref 44), (1, .int (zI (p))), (2, .int (zI (q)))]) (pc := 70) rfl rfl rfl (by omega) rfl ?_
            refine zx_T.j (i := .goto (-33)) (k := 3) (pc' := 40) (st' := []) (pc := 73) rfl rfl rfl rfl rfl ?_
            refine zx_T.lk (ls' := [(0, .ref 44), (1, .int (zI (p))), (2, .int (zI (q))), (3, .int (zI (k + 1)))]) rfl ⟨rfl, rfl, rfl, rfl, trivial⟩ ?_
            exact ih.2.2 (q := q) (k := k + 1) (by omega) (by omega) (by omega) (by omega) nt nq (zg_nf1 nj k1 (by omega) ⟨jw.2.2.1, jw.2.2.2⟩ (by omega)) (zg_tn hm (by omega) (by omega))
          · refine zx_T.s (i := .iconst 1) (k := 1) (st' := [.int (zI (1))]) (pc := 68) rfl rfl ?_
            exact zr_ir (x := 1) (pc := 69) rfl rfl (zr_nb (by omega) (by omega)) ⟨rfl, _, rfl, by dsimp only; exact Or.inl ⟨rfl, Or.inl (zg_FCj (by omega) (by omega) (by omega) (j := _) ⟨(by omega), k1, jj.1, jj.2.1, jj.2.2.1, jj.2.2.2.1⟩ (jx (by omega)))⟩⟩
set_option maxRecDepth 100000 in
set_option maxHeartbeats 4000000 in
theorem zm_isFrame {h : zx_H} (hI : zb_I zc_H h) {p : Int} (p1 : 0 ≤ p) (p2 : p ≤ 59) : zx_T zp_P 1 zp_m177 0 [(0, .ref 44), (1, .int (zI (p)))] [] h (zr_P h (fun e => (e = 1 ∧ (zg_FC h p ∨ (0 < p ∧ (¬ zv_a h 54 (p - 1) = 1 ∨ (22 ≤ zv_a h 45 (p - 1) ∧ zv_a h 45 (p - 1) ≤ 24))))) ∨ (e = 0 ∧ ¬ zg_FC h p ∧ ¬ (0 < p ∧ (¬ zv_a h 54 (p - 1) = 1 ∨ (22 ≤ zv_a h 45 (p - 1) ∧ zv_a h 45 (p - 1) ≤ 24)))))) := by
  have hC := zv_ri hI (k := 1) rfl
  have hH := zv_ri hI (k := 5) rfl
  refine zx_T.s (i := .iconst 0) (k := 1) (st' := [.int (zI (0))]) (pc := 0) rfl rfl ?_
  refine zx_T.t (i := .istore_n 2) (k := 1) (ls' := [(2, .int (zI (0))), (0, .ref 44), (1, .int (zI (p)))]) (st' := []) (pc := 1) rfl rfl rfl rfl ?_
  refine zx_T.lk (ls' := [(0, .ref 44), (1, .int (zI (p))), (2, .int (zI (0)))]) rfl ⟨rfl, rfl, rfl, trivial⟩ ?_
  exact (zm_isFrame_L (h := h) hI (p := p) p1 p2 ((1000 - 0 : Int).toNat + 1)).1 (t := 0) (by omega) (by omega) (fun j j0 j1 => by first | omega | (rcases (show j = t ∨ j < t by omega) with e9 | e9; (subst e9; omega); exact nt j j0 e9)) (Nat.lt_succ_self _)

set_option maxRecDepth 100000 in
set_option maxHeartbeats 4000000 in
theorem zm_keep_L {h : zx_H} (hI : zb_I zc_H h) {p : Int} (p1 : 0 ≤ p) (p2 : p ≤ 59) (fr : zv_i h 19 ≤ 59) (n : Nat) : (∀ {h2 : zx_H} {m : Int} (hI2 : zb_I zc_H h2) (m1 : 0 ≤ m) (m2 : m ≤ 8) (hw : zb_W [(44, 25), (61, 0)] h h2), (m + 100 : Int).toNat < n → zx_T zp_P 1 zp_m178 8 [(0, .ref 44), (1, .int (zI (p))), (2, .int (zI (m)))] [] h2 (zr_V [(44, 25), (61, 0), (57, 0), (58, 0), (59, 0), (60, 0), (44, 19)] h (fun h' => zv_i h' 19 = zv_i h 19 + 1 ∧ ∀ j, 0 ≤ j → zv_a h' 57 j = if j = zv_i h 19 then p else zv_a h 57 j))) ∧ (∀ {h2 : zx_H} {m : Int} {k : Int} (hI2 : zb_I zc_H h2) (m1 : 0 ≤ m) (m2 : m ≤ 8) (k1 : 0 ≤ k) (k2 : k ≤ m) (hw : zb_W [(44, 25), (61, 0), (57, 0), (58, 0), (59, 0), (60, 0)] h h2) (fp : ∀ j, 0 ≤ j → zv_a h2 57 j = if j = zv_i h 19 then p else zv_a h 57 j), (50 - k : Int).toNat < n → zx_T zp_P 1 zp_m178 64 [(0, .ref 44), (1, .int (zI (p))), (2, .int (zI (m))), (3, .int (zI (k)))] [] h2 (zr_V [(44, 25), (61, 0), (57, 0), (58, 0), (59, 0), (60, 0), (44, 19)] h (fun h' => zv_i h' 19 = zv_i h 19 + 1 ∧ ∀ j, 0 ≤ j → zv_a h' 57 j = if j = zv_i h 19 then p else zv_a h 57 j))) ∧ (∀ {h2 : zx_H} {m : Int} {k : Int} (hI2 : zb_I zc_H h2) (m1 : 0 ≤ m) (m2 : m ≤ 8) (k1 : 0 ≤ k) (k2 : k ≤ 6) (hw : zb_W [(44, 25), (61, 0), (57, 0), (58, 0), (59, 0), (60, 0)] h h2) (fp : ∀ j, 0 ≤ j → zv_a h2 57 j = if j = zv_i h 19 then p else zv_a h 57 j), (10 - k : Int).toNat < n → zx_T zp_P 1 zp_m178 97 [(0, .ref 44), (1, .int (zI (p))), (2, .int (zI (m))), (3, .int (zI (k)))] [] h2 (zr_V [(44, 25), (61, 0), (57, 0), (58, 0), (59, 0), (60, 0), (44, 19)] h (fun h' => zv_i h' 19 = zv_i h 19 + 1 ∧ ∀ j, 0 ≤ j → zv_a h' 57 j = if j = zv_i h 19 then p else zv_a h 57 j))) := by
  induction n with
  | zero => exact ⟨fun _ _ _ _ hm => absurd hm (Nat.not_lt_zero _), fun _ _ _ _ _ _ _ hm => absurd hm (Nat.not_lt_zero _), fun _ _ _ _ _ _ _ hm => absurd hm (Nat.not_lt_zero _)⟩
  | succ n ih =>
    refine ⟨?_, ?_, ?_⟩
    · intro h2 m hI2 m1 m2 hw hm
      have hF := zv_ri hI (k := 19) rfl
      refine zx_T.l (i := .iload_n 2) (k := 1) (v := .int (zI (m))) (pc := 8) rfl rfl rfl ?_
      refine zr_i1 (x := m) (t := 29) (pc := 9) rfl rfl (by omega) (by omega) (fun (c1 : m ≤ 0) => ?_) (fun (c1 : ¬ (m ≤ 0)) => ?_)
      · refine zx_T.l (i := .aload_n 0) (k := 1) (v := .ref 44) (pc := 29) rfl rfl rfl ?_
        refine zr_gr (k := 20) (b := 57) (pc := 30) rfl rfl rfl hI2 ?_
        refine zx_T.l (i := .aload_n 0) (k := 1) (v := .ref 44) (pc := 33) rfl rfl rfl ?_
        refine zr_gi (k := 19) (lo := 0) (hi := 60) (e := zv_i h 19) (pc := 34) rfl rfl rfl hI2 (zv_wi hw rfl) (fun g2a g2b => ?_)
        refine zx_T.l (i := .iload_n 1) (k := 1) (v := .int (zI (p))) (pc := 37) rfl rfl rfl ?_
        refine zr_as (n := 60) (lo := 0) (hi := 59) (e := p) (pc := 38) rfl rfl rfl rfl hI2 (by omega) (by omega) (by omega) (by omega) (fun h3 ih3 w4 s5 => ?_)
        refine zx_T.l (i := .aload_n 0) (k := 1) (v := .ref 44) (pc := 39) rfl rfl rfl ?_
        refine zr_gr (k := 21) (b := 58) (pc := 40) rfl rfl rfl ih3 ?_
        refine zx_T.l (i := .aload_n 0) (k := 1) (v := .ref 44) (pc := 43) rfl rfl rfl ?_
        refine zr_gi (k := 19) (lo := 0) (hi := 60) (e := zv_i h 19) (pc := 44) rfl rfl rfl ih3 ((zv_wi w4 rfl).trans (zv_wi hw rfl)) (fun g6a g6b => ?_)
        refine zx_T.l (i := .iload_n 2) (k := 1) (v := .int (zI (m))) (pc := 47) rfl rfl rfl ?_
        refine zr_as (n := 60) (lo := 0) (hi := 8) (e := m) (pc := 48) rfl rfl rfl rfl ih3 (by omega) (by omega) (by omega) (by omega) (fun h7 ih7 w8 s9 => ?_)
        refine zx_T.l (i := .aload_n 0) (k := 1) (v := .ref 44) (pc := 49) rfl rfl rfl ?_
        refine zr_gr (k := 22) (b := 59) (pc := 50) rfl rfl rfl ih7 ?_
        refine zx_T.l (i := .aload_n 0) (k := 1) (v := .ref 44) (pc := 53) rfl rfl rfl ?_
        refine zr_gi (k := 19) (lo := 0) (hi := 60) (e := zv_i h 19) (pc := 54) rfl rfl rfl ih7 ((zv_wi w8 rfl).trans ((zv_wi w4 rfl).trans (zv_wi hw rfl))) (fun g10a g10b => ?_)
        refine zx_T.l (i := .aload_n 0) (k := 1) (v := .ref 44) (pc := 57) rfl rfl rfl ?_
        refine zr_gi (k := 25) (lo := 0) (hi := 6) (e := zv_i h2 25) (pc := 58) rfl rfl rfl ih7 ((zv_wi w8 rfl).trans (zv_wi w4 rfl)) (fun g11a g11b => ?_)
        refine zr_as (n := 60) (lo := 0) (hi := 6) (e := zv_i h2 25) (pc := 61) rfl rfl rfl rfl ih7 (by omega) (by omega) (by omega) (by omega) (fun h12 ih12 w13 s14 => ?_)
        refine zx_T.s (i := .iconst 0) (k := 1) (st' := [.int (zI (0))]) (pc := 62) rfl rfl ?_
        refine zx_T.t (i := .istore_n 3) (k := 1) (ls' := [(3, .int (zI (0))), (0, .ref 44), (1, .int (zI (p))), (2, .int (zI (m)))]) (st' := []) (pc := 63) rfl rfl rfl rfl ?_
        have a57 : ∀ j, 0 ≤ j → zv_a h12 57 j = if j = zv_i h 19 then p else zv_a h 57 j := fun j hj => by rw [zv_wa w13 rfl j, zv_wa w8 rfl j, s5 j hj, zv_wa hw rfl j]
        refine zx_T.lk (ls' := [(0, .ref 44), (1, .int (zI (p))), (2, .int (zI (m))), (3, .int (zI (0)))]) rfl ⟨rfl, rfl, rfl, rfl, trivial⟩ ?_
        exact ih.2.1 (h2 := h12) (m := m) (k := 0) ih12 (by omega) (by omega) (by omega) (by omega) ((((hw.wd rfl : zb_W [(44, 25), (61, 0), (57, 0), (58, 0), (59, 0), (60, 0)] h _).tr (w4.wd rfl)).tr (w8.wd rfl)).tr (w13.wd rfl)) (fun j j0 => by first | exact a57 j j0 | (rw [a57 j j0]; exact fp j j0)) (by omega)
      · refine zx_T.l (i := .aload_n 0) (k := 1) (v := .ref 44) (pc := 12) rfl rfl rfl ?_
        refine zr_gr (k := 24) (b := 61) (pc := 13) rfl rfl rfl hI2 ?_
        refine zx_T.l (i := .iload_n 2) (k := 1) (v := .int (zI (m))) (pc := 16) rfl rfl rfl ?_
        refine zx_T.s (i := .iconst 1) (k := 1) (st' := [.int (zI (1)), .int (zI (m)), .ref 61]) (pc := 17) rfl rfl ?_
        refine zr_sub (x := m) (y := 1) (e := m - 1) (pc := 18) rfl (by omega) ?_
        refine zr_al (n := 14) (lo := 0) (hi := 8) (e := zv_a h2 61 (m - 1)) (pc := 19) rfl rfl rfl hI2 (by omega) (by omega) rfl (fun g16a g16b => ?_)
        refine zr_i1 (x := zv_a h2 61 (m - 1)) (t := 29) (pc := 20) rfl rfl (by omega) (by omega) (fun (c17 : ¬ (zv_a h2 61 (m - 1)) = 0) => ?_) (fun (c17 : ¬ (¬ (zv_a h2 61 (m - 1)) = 0)) => ?_)
        · refine zx_T.l (i := .aload_n 0) (k := 1) (v := .ref 44) (pc := 29) rfl rfl rfl ?_
          refine zr_gr (k := 20) (b := 57) (pc := 30) rfl rfl rfl hI2 ?_
          refine zx_T.l (i := .aload_n 0) (k := 1) (v := .ref 44) (pc := 33) rfl rfl rfl ?_
          refine zr_gi (k := 19) (lo := 0) (hi := 60) (e := zv_i h 19) (pc := 34) rfl rfl rfl hI2 (zv_wi hw rfl) (fun g18a g18b => ?_)
          refine zx_T.l (i := .iload_n 1) (k := 1) (v := .int (zI (p))) (pc := 37) rfl rfl rfl ?_
          refine zr_as (n := 60) (lo := 0) (hi := 59) (e := p) (pc := 38) rfl rfl rfl rfl hI2 (by omega) (by omega) (by omega) (by omega) (fun h19 ih19 w20 s21 => ?_)
          refine zx_T.l (i := .aload_n 0) (k := 1) (v := .ref 44) (pc := 39) rfl rfl rfl ?_
          refine zr_gr (k := 21) (b := 58) (pc := 40) rfl rfl rfl ih19 ?_
          refine zx_T.l (i := .aload_n 0) (k := 1) (v := .ref 44) (pc := 43) rfl rfl rfl ?_
          refine zr_gi (k := 19) (lo := 0) (hi := 60) (e := zv_i h 19) (pc := 44) rfl rfl rfl ih19 ((zv_wi w20 rfl).trans (zv_wi hw rfl)) (fun g22a g22b => ?_)
          refine zx_T.l (i := .iload_n 2) (k := 1) (v := .int (zI (m))) (pc := 47) rfl rfl rfl ?_
          refine zr_as (n := 60) (lo := 0) (hi := 8) (e := m) (pc := 48) rfl rfl rfl rfl ih19 (by omega) (by omega) (by omega) (by omega) (fun h23 ih23 w24 s25 => ?_)
          refine zx_T.l (i := .aload_n 0) (k := 1) (v := .ref 44) (pc := 49) rfl rfl rfl ?_
          refine zr_gr (k := 22) (b := 59) (pc := 50) rfl rfl rfl ih23 ?_
          refine zx_T.l (i := .aload_n 0) (k := 1) (v := .ref 44) (pc := 53) rfl rfl rfl ?_
          refine zr_gi (k := 19) (lo := 0) (hi := 60) (e := zv_i h 19) (pc := 54) rfl rfl rfl ih23 ((zv_wi w24 rfl).trans ((zv_wi w20 rfl).trans (zv_wi hw rfl))) (fun g26a g26b => ?_)
          refine zx_T.l (i := .aload_n 0) (k := 1) (v := .ref 44) (pc := 57) rfl rfl rfl ?_
          refine zr_gi (k := 25) (lo := 0) (hi := 6) (e := zv_i h2 25) (pc := 58) rfl rfl rfl ih23 ((zv_wi w24 rfl).trans (zv_wi w20 rfl)) (fun g27a g27b => ?_)
          refine zr_as (n := 60) (lo := 0) (hi := 6) (e := zv_i h2 25) (pc := 61) rfl rfl rfl rfl ih23 (by omega) (by omega) (by omega) (by omega) (fun h28 ih28 w29 s30 => ?_)
          refine zx_T.s (i := .iconst 0) (k := 1) (st' := [.int (zI (0))]) (pc := 62) rfl rfl ?_
          refine zx_T.t (i := .istore_n 3) (k := 1) (ls' := [(3, .int (zI (0))), (0, .ref 44), (1, .int (zI (p))), (2, .int (zI (m)))]) (st' := []) (pc := 63) rfl rfl rfl rfl ?_
          have a57 : ∀ j, 0 ≤ j → zv_a h28 57 j = if j = zv_i h 19 then p else zv_a h 57 j := fun j hj => by rw [zv_wa w29 rfl j, zv_wa w24 rfl j, s21 j hj, zv_wa hw rfl j]
          refine zx_T.lk (ls' := [(0, .ref 44), (1, .int (zI (p))), (2, .int (zI (m))), (3, .int (zI (0)))]) rfl ⟨rfl, rfl, rfl, rfl, trivial⟩ ?_
          exact ih.2.1 (h2 := h28) (m := m) (k := 0) ih28 (by omega) (by omega) (by omega) (by omega) ((((hw.wd rfl : zb_W [(44, 25), (61, 0), (57, 0), (58, 0), (59, 0), (60, 0)] h _).tr (w20.wd rfl)).tr (w24.wd rfl)).tr (w29.wd rfl)) (fun j j0 => by first | exact a57 j j0 | (rw [a57 j j0]; exact fp j j0)) (by omega)
        · refine zr_inc (x := m) (n := (-1)) (y := m - 1) (ls' := [(2, .int (zI (m - 1))), (0, .ref 44), (1, .int (zI (p)))]) (pc := 23) rfl rfl rfl (by omega) rfl ?_
          refine zx_T.j (i := .goto (-18)) (k := 3) (pc' := 8) (st' := []) (pc := 26) rfl rfl rfl rfl rfl ?_
          refine zx_T.lk (ls' := [(0, .ref 44), (1, .int (zI (p))), (2, .int (zI (m - 1)))]) rfl ⟨rfl, rfl, rfl, trivial⟩ ?_
          exact ih.1 (h2 := h2) (m := m - 1) hI2 (by omega) (by omega) (hw.wd rfl : zb_W [(44, 25), (61, 0)] h _) (by omega)
    · intro h2 m k hI2 m1 m2 k1 k2 hw fp hm
      have hF := zv_ri hI (k := 19) rfl
      refine zx_T.l (i := .iload_n 3) (k := 1) (v := .int (zI (k))) (pc := 64) rfl rfl rfl ?_
      refine zx_T.l (i := .iload_n 2) (k := 1) (v := .int (zI (m))) (pc := 65) rfl rfl rfl ?_
      refine zr_i2 (x := k) (y := m) (t := 95) (pc := 66) rfl rfl (by omega) (by omega) (by omega) (by omega) (fun (c32 : m ≤ k) => ?_) (fun (c32 : ¬ (m ≤ k)) => ?_)
      · refine zx_T.s (i := .iconst 0) (k := 1) (st' := [.int (zI (0))]) (pc := 95) rfl rfl ?_
        refine zx_T.t (i := .istore_n 3) (k := 1) (ls' := [(3, .int (zI (0))), (0, .ref 44), (1, .int (zI (p))), (2, .int (zI (m)))]) (st' := []) (pc := 96) rfl rfl rfl rfl ?_
        refine zx_T.lk (ls' := [(0, .ref 44), (1, .int (zI (p))), (2, .int (zI (m))), (3, .int (zI (0)))]) rfl ⟨rfl, rfl, rfl, rfl, trivial⟩ ?_
        exact ih.2.2 (h2 := h2) (m := m) (k := 0) hI2 (by omega) (by omega) (by omega) (by omega) (hw.wd rfl : zb_W [(44, 25), (61, 0), (57, 0), (58, 0), (59, 0), (60, 0)] h _) (fun j j0 => by first | exact fp j j0 | (rw [a57 j j0]; exact fp j j0)) (by omega)
      · refine zx_T.l (i := .aload_n 0) (k := 1) (v := .ref 44) (pc := 69) rfl rfl rfl ?_
        refine zr_gr (k := 23) (b := 60) (pc := 70) rfl rfl rfl hI2 ?_
        refine zx_T.s (i := .bipush 14) (k := 2) (st' := [.int (zI (14)), .ref 60]) (pc := 73) rfl rfl ?_
        refine zx_T.l (i := .aload_n 0) (k := 1) (v := .ref 44) (pc := 75) rfl rfl rfl ?_
        refine zr_gi (k := 19) (lo := 0) (hi := 60) (e := zv_i h 19) (pc := 76) rfl rfl rfl hI2 (zv_wi hw rfl) (fun g34a g34b => ?_)
        refine zr_mul (x := 14) (y := zv_i h 19) (e := 14 * (zv_i h 19)) (pc := 79) rfl (by omega) ?_
        refine zx_T.l (i := .iload_n 3) (k := 1) (v := .int (zI (k))) (pc := 80) rfl rfl rfl ?_
        refine zr_add (x := 14 * (zv_i h 19)) (y := k) (e := 14 * (zv_i h 19) + k) (pc := 81) rfl (by omega) ?_
        refine zx_T.l (i := .aload_n 0) (k := 1) (v := .ref 44) (pc := 82) rfl rfl rfl ?_
        refine zr_gr (k := 24) (b := 61) (pc := 83) rfl rfl rfl hI2 ?_
        refine zx_T.l (i := .iload_n 3) (k := 1) (v := .int (zI (k))) (pc := 86) rfl rfl rfl ?_
        refine zr_al (n := 14) (lo := 0) (hi := 8) (e := zv_a h2 61 k) (pc := 87) rfl rfl rfl hI2 (by omega) (by omega) rfl (fun g35a g35b => ?_)
        refine zr_as (n := 840) (lo := 0) (hi := 8) (e := zv_a h2 61 k) (pc := 88) rfl rfl rfl rfl hI2 (by omega) (by omega) (by omega) (by omega) (fun h36 ih36 w37 s38 => ?_)
        refine zr_inc (x := k) (n := 1) (y := k + 1) (ls' := [(3, .int (zI (k + 1))), (0, .ref 44), (1, .int (zI (p))), (2, .int (zI (m)))]) (pc := 89) rfl rfl rfl (by omega) rfl ?_
        refine zx_T.j (i := .goto (-28)) (k := 3) (pc' := 64) (st' := []) (pc := 92) rfl rfl rfl rfl rfl ?_
        have a57 : ∀ j, 0 ≤ j → zv_a h36 57 j = zv_a h2 57 j := fun j hj => by rw [zv_wa w37 rfl j]
        refine zx_T.lk (ls' := [(0, .ref 44), (1, .int (zI (p))), (2, .int (zI (m))), (3, .int (zI (k + 1)))]) rfl ⟨rfl, rfl, rfl, rfl, trivial⟩ ?_
        exact ih.2.1 (h2 := h36) (m := m) (k := k + 1) ih36 (by omega) (by omega) (by omega) (by omega) ((hw.wd rfl : zb_W [(44, 25), (61, 0), (57, 0), (58, 0), (59, 0), (60, 0)] h _).tr (w37.wd rfl)) (fun j j0 => by first | exact a57 j j0 | (rw [a57 j j0]; exact fp j j0)) (by omega)
    · intro h2 m k hI2 m1 m2 k1 k2 hw fp hm
      have hF := zv_ri hI (k := 19) rfl
      refine zx_T.l (i := .iload_n 3) (k := 1) (v := .int (zI (k))) (pc := 97) rfl rfl rfl ?_
      refine zx_T.l (i := .aload_n 0) (k := 1) (v := .ref 44) (pc := 98) rfl rfl rfl ?_
      refine zr_gi (k := 25) (lo := 0) (hi := 6) (e := zv_i h2 25) (pc := 99) rfl rfl rfl hI2 rfl (fun g40a g40b => ?_)
      refine zr_i2 (x := k) (y := zv_i h2 25) (t := 136) (pc := 102) rfl rfl (by omega) (by omega) (by omega) (by omega) (fun (c41 : (zv_i h2 25) ≤ k) => ?_) (fun (c41 : ¬ ((zv_i h2 25) ≤ k)) => ?_)
      · refine zx_T.l (i := .aload_n 0) (k := 1) (v := .ref 44) (pc := 136) rfl rfl rfl ?_
        refine zx_T.s (i := .dup) (k := 1) (st' := [.ref 44, .ref 44]) (pc := 137) rfl rfl ?_
        refine zr_gi (k := 19) (lo := 0) (hi := 60) (e := zv_i h 19) (pc := 138) rfl rfl rfl hI2 (zv_wi hw rfl) (fun g42a g42b => ?_)
        refine zx_T.s (i := .iconst 1) (k := 1) (st' := [.int (zI (1)), .int (zI (zv_i h 19)), .ref 44]) (pc := 141) rfl rfl ?_
        refine zr_add (x := zv_i h 19) (y := 1) (e := zv_i h 19 + 1) (pc := 142) rfl (by omega) ?_
        refine zr_pi (k := 19) (lo := 0) (hi := 60) (e := zv_i h 19 + 1) (pc := 143) rfl rfl rfl rfl rfl rfl hI2 (by omega) (by omega) (fun h43 ih43 w44 e45 => ?_)
        have y46 : zv_i h43 19 = zv_i h 19 + 1 := e45
        have a57 : ∀ j, 0 ≤ j → zv_a h43 57 j = zv_a h2 57 j := fun j hj => by rw [zv_wa w44 rfl j]
        exact zr_vr (pc := 146) rfl rfl ⟨ih43, ((hw.wd rfl : zb_W [(44, 25), (61, 0), (57, 0), (58, 0), (59, 0), (60, 0), (44, 19)] h _).tr (w44.wd rfl)), rfl, by dsimp only; exact ⟨by omega, fun j j0 => by rw [a57 j j0]; exact fp j j0⟩⟩
      · refine zx_T.l (i := .aload_n 0) (k := 1) (v := .ref 44) (pc := 105) rfl rfl rfl ?_
        refine zr_gr (k := 23) (b := 60) (pc := 106) rfl rfl rfl hI2 ?_
        refine zx_T.s (i := .bipush 14) (k := 2) (st' := [.int (zI (14)), .ref 60]) (pc := 109) rfl rfl ?_
        refine zx_T.l (i := .aload_n 0) (k := 1) (v := .ref 44) (pc := 111) rfl rfl rfl ?_
        refine zr_gi (k := 19) (lo := 0) (hi := 60) (e := zv_i h 19) (pc := 112) rfl rfl rfl hI2 (zv_wi hw rfl) (fun g48a g48b => ?_)
        refine zr_mul (x := 14) (y := zv_i h 19) (e := 14 * (zv_i h 19)) (pc := 115) rfl (by omega) ?_
        refine zx_T.l (i := .iload_n 2) (k := 1) (v := .int (zI (m))) (pc := 116) rfl rfl rfl ?_
        refine zr_add (x := 14 * (zv_i h 19)) (y := m) (e := 14 * (zv_i h 19) + m) (pc := 117) rfl (by omega) ?_
        refine zx_T.l (i := .iload_n 3) (k := 1) (v := .int (zI (k))) (pc := 118) rfl rfl rfl ?_
        refine zr_add (x := 14 * (zv_i h 19) + m) (y := k) (e := 14 * (zv_i h 19) + k + m) (pc := 119) rfl (by omega) ?_
        refine zx_T.l (i := .aload_n 0) (k := 1) (v := .ref 44) (pc := 120) rfl rfl rfl ?_
        refine zr_gr (k := 24) (b := 61) (pc := 121) rfl rfl rfl hI2 ?_
        refine zx_T.s (i := .bipush 8) (k := 2) (st' := [.int (zI (8)), .ref 61, .int (zI (14 * (zv_i h 19) + k + m)), .ref 60]) (pc := 124) rfl rfl ?_
        refine zx_T.l (i := .iload_n 3) (k := 1) (v := .int (zI (k))) (pc := 126) rfl rfl rfl ?_
        refine zr_add (x := 8) (y := k) (e := k + 8) (pc := 127) rfl (by omega) ?_
        refine zr_al (n := 14) (lo := 0) (hi := 8) (e := zv_a h2 61 (k + 8)) (pc := 128) rfl rfl rfl hI2 (by omega) (by omega) rfl (fun g49a g49b => ?_)
        refine zr_as (n := 840) (lo := 0) (hi := 8) (e := zv_a h2 61 (k + 8)) (pc := 129) rfl rfl rfl rfl hI2 (by omega) (by omega) (by omega) (by omega) (fun h50 ih50 w51 s52 => ?_)
        refine zr_inc (x := k) (n := 1) (y := k + 1) (ls' := [(3, .int (zI (k + 1))), (0, .ref 44), (1, .int (zI (p))), (2, .int (zI (m)))]) (pc := 130) rfl rfl rfl (by omega) rfl ?_
        refine zx_T.j (i := .goto (-36)) (k := 3) (pc' := 97) (st' := []) (pc := 133) rfl rfl rfl rfl rfl ?_
        have a57 : ∀ j, 0 ≤ j → zv_a h50 57 j = zv_a h2 57 j := fun j hj => by rw [zv_wa w51 rfl j]
        refine zx_T.lk (ls' := [(0, .ref 44), (1, .int (zI (p))), (2, .int (zI (m))), (3, .int (zI (k + 1)))]) rfl ⟨rfl, rfl, rfl, rfl, trivial⟩ ?_
        exact ih.2.2 (h2 := h50) (m := m) (k := k + 1) ih50 (by omega) (by omega) (by omega) (by omega) ((hw.wd rfl : zb_W [(44, 25), (61, 0), (57, 0), (58, 0), (59, 0), (60, 0)] h _).tr (w51.wd rfl)) (fun j j0 => by first | exact fp j j0 | (rw [a57 j j0]; exact fp j j0)) (by omega)
set_option maxRecDepth 100000 in
set_option maxHeartbeats 4000000 in
theorem zm_keep {h : zx_H} (hI : zb_I zc_H h) {p : Int} (p1 : 0 ≤ p) (p2 : p ≤ 59) (fr : zv_i h 19 ≤ 59) : zx_T zp_P 1 zp_m178 0 [(0, .ref 44), (1, .int (zI (p)))] [] h (zr_V [(44, 25), (61, 0), (57, 0), (58, 0), (59, 0), (60, 0), (44, 19)] h (fun h' => zv_i h' 19 = zv_i h 19 + 1 ∧ ∀ j, 0 ≤ j → zv_a h' 57 j = if j = zv_i h 19 then p else zv_a h 57 j)) := by
  have hF := zv_ri hI (k := 19) rfl
  refine zx_T.l (i := .aload_n 0) (k := 1) (v := .ref 44) (pc := 0) rfl rfl rfl ?_
  refine zx_T.l (i := .iload_n 1) (k := 1) (v := .int (zI (p))) (pc := 1) rfl rfl rfl ?_
  refine zr_iv (cj := 173) (q' := zp_m173) (As := [.int (zI (p))]) (rest := []) (pc := 2) rfl rfl rfl rfl rfl rfl (Nat.le_of_ble_eq_true rfl) rfl (Nat.le_of_ble_eq_true rfl) hI ((zm_lay (h := h) hI (p := p) (by omega) (by omega)).up (Nat.le_of_ble_eq_true rfl)) ?_
  rintro r54 h57 ⟨ih57, w58, r54q, x56⟩
  subst r54q
  try dsimp only at x56
  have yj := x56.2
  show zx_T zp_P 1 zp_m178 5 [(0, .ref 44), (1, .int (zI (p)))] [] h57 _
  refine zx_T.s (i := .bipush 8) (k := 2) (st' := [.int (zI (8))]) (pc := 5) rfl rfl ?_
  refine zx_T.t (i := .istore_n 2) (k := 1) (ls' := [(2, .int (zI (8))), (0, .ref 44), (1, .int (zI (p)))]) (st' := []) (pc := 7) rfl rfl rfl rfl ?_
  refine zx_T.lk (ls' := [(0, .ref 44), (1, .int (zI (p))), (2, .int (zI (8)))]) rfl ⟨rfl, rfl, rfl, trivial⟩ ?_
  exact (zm_keep_L (h := h) hI (p := p) p1 p2 fr ((8 + 100 : Int).toNat + 1)).1 (h2 := h57) (m := 8) ih57 (by omega) (by omega) (w58.wd rfl : zb_W [(44, 25), (61, 0)] h _) (Nat.lt_succ_self _)

/-- handlers up to t; jumps up to k -/
def zg_hh (h h2 : zx_H) (p t : Int) : Prop := ∀ i, 0 ≤ i → i < t → zv_a h 48 i ≤ p → p < zv_a h 49 i → 0 ≤ zv_a h 50 i ∧ zv_a h 50 i < zv_i h 1 ∧ zv_a h2 54 (zv_a h 50 i) = 1
def zg_hj (h h2 : zx_H) (p k : Int) : Prop := (1 ≤ k → 24 ≤ zv_a h 45 p → zv_a h 45 p ≤ 27 → 0 ≤ zv_a h 46 p ∧ zv_a h 46 p < zv_i h 1 ∧ zv_a h2 54 (zv_a h 46 p) = 1) ∧ (2 ≤ k → zv_a h 45 p = 27 → 0 ≤ zv_a h 47 p ∧ zv_a h 47 p < zv_i h 1 ∧ zv_a h2 54 (zv_a h 47 p) = 1)
theorem zg_hh.up {h h2 h3 : zx_H} {p t : Int} (a : zg_hh h h2 p t) (j : zg_J h2 h3) : zg_hh h h3 p t := fun i i0 i1 i2 i3 => by
  have b := a i i0 i1 i2 i3
  exact ⟨b.1, b.2.1, j.2.2.2.1 _ b.1 b.2.2⟩
theorem zg_hj.up {h h2 h3 : zx_H} {p t : Int} (a : zg_hj h h2 p t) (j : zg_J h2 h3) : zg_hj h h3 p t :=
  ⟨fun x y z => by
    have b := a.1 x y z
    exact ⟨b.1, b.2.1, j.2.2.2.1 _ b.1 b.2.2⟩, fun x y => by
    have b := a.2 x y
    exact ⟨b.1, b.2.1, j.2.2.2.1 _ b.1 b.2.2⟩⟩
theorem zg_hh.s {h h2 : zx_H} {p t : Int} (a : zg_hh h h2 p t) (b : zv_a h 48 t ≤ p → p < zv_a h 49 t → 0 ≤ zv_a h 50 t ∧ zv_a h 50 t < zv_i h 1 ∧ zv_a h2 54 (zv_a h 50 t) = 1) : zg_hh h h2 p (t + 1) := fun i i0 i1 i2 i3 => by
  rcases (show i = t ∨ i < t by omega) with e9 | e9
  · subst e9; exact b i2 i3
  · exact a i i0 e9 i2 i3
theorem zg_hj.s {h h2 : zx_H} {p k e : Int} (a : zg_hj h h2 p k) (k0 : 0 ≤ k) (k1 : k ≤ 1) (hj : (k = 0 → 24 ≤ zv_a h 45 p → zv_a h 45 p ≤ 27 → e = zv_a h 46 p) ∧ (k = 1 → zv_a h 45 p = 27 → e = zv_a h 47 p)) (b : 0 ≤ e ∧ e < zv_i h 1 ∧ zv_a h2 54 e = 1) : zg_hj h h2 p (k + 1) :=
  ⟨fun x y z => by
    rcases (show k = 0 ∨ k = 1 by omega) with e9 | e9
    · rw [← hj.1 e9 y z]; exact b
    · exact a.1 (by omega) y z, fun x y => by
    rcases (show k = 0 ∨ k = 1 by omega) with e9 | e9
    · omega
    · rw [← hj.2 e9 y]; exact b⟩
theorem zg_hwk {h h2 : zx_H} {p k e : Int} (a : zg_hh h h2 p (zv_i h 5)) (b : zg_hj h h2 p k) (hj : 0 ≤ e ∧ e ≤ 2 ∧ (1 ≤ e → 24 ≤ zv_a h 45 p ∧ zv_a h 45 p ≤ 27) ∧ (e = 2 → zv_a h 45 p = 27) ∧ (24 ≤ zv_a h 45 p → zv_a h 45 p ≤ 27 → 1 ≤ e) ∧ (zv_a h 45 p = 27 → e = 2)) (hk : e ≤ k) : zg_wk h h2 p :=
  ⟨a, fun x y => b.1 (by have := hj.2.2.2.2.1 x y; omega) x y, fun x => b.2 (by have := hj.2.2.2.2.2 x; omega) x⟩

set_option maxRecDepth 100000 in
set_option maxHeartbeats 4000000 in
theorem zm_work_L {h : zx_H} (hI : zb_I zc_H h) {p : Int} (p1 : 0 ≤ p) (p2 : p ≤ 59) (hk : zg_KI h) (hc : zg_CI h) (ht : zg_TI h) (n : Nat) : (∀ {h2 : zx_H} {t : Int} (hI2 : zb_I zc_H h2) (t1 : 0 ≤ t) (t2 : t ≤ zv_i h 5) (hw : zb_W [(54, 0), (44, 27), (56, 0), (55, 0), (63, 0), (44, 25), (61, 0), (62, 0), (44, 26)] h h2) (hJ : zg_J h h2) (hh : zg_hh h h2 p t), (1000 - 20 * t : Int).toNat < n → zx_T zp_P 4 zp_m175 7 [(0, .ref 44), (1, .int (zI (p))), (2, .int (zI (t)))] [] h2 (zr_R [(54, 0), (44, 27), (56, 0), (55, 0), (63, 0), (44, 25), (61, 0), (62, 0), (44, 26)] h (fun e h' => zg_J h h' ∧ 0 ≤ e ∧ e ≤ 7 ∧ (e = 0 → zg_wk h h' p)))) ∧ (∀ {h2 : zx_H} {t : Int} {k : Int} (hI2 : zb_I zc_H h2) (t1 : 0 ≤ t) (t2 : t < zv_i h 5) (k1 : 0 ≤ k) (k2 : k ≤ 8) (hx : zv_a h 48 t ≤ p ∧ p < zv_a h 49 t) (hw : zb_W [(54, 0), (44, 27), (56, 0), (55, 0), (63, 0), (44, 25), (61, 0), (62, 0), (44, 26)] h h2) (hJ : zg_J h h2) (hh : zg_hh h h2 p t), (999 - 20 * t - k : Int).toNat < n → zx_T zp_P 4 zp_m175 26 [(0, .ref 44), (1, .int (zI (p))), (2, .int (zI (t))), (3, .int (zI (k)))] [] h2 (zr_R [(54, 0), (44, 27), (56, 0), (55, 0), (63, 0), (44, 25), (61, 0), (62, 0), (44, 26)] h (fun e h' => zg_J h h' ∧ 0 ≤ e ∧ e ≤ 7 ∧ (e = 0 → zg_wk h h' p)))) ∧ (∀ {h2 : zx_H} {f : Int} {k : Int} (hI2 : zb_I zc_H h2) (f1 : 0 ≤ f) (f2 : f ≤ 7) (k1 : 0 ≤ k) (k2 : k ≤ 2) (hw : zb_W [(54, 0), (44, 27), (56, 0), (55, 0), (63, 0), (44, 25), (61, 0), (62, 0), (44, 26)] h h2) (hJ : zg_J h h2) (hh : zg_hh h h2 p (zv_i h 5)) (hd : f = 0 → zg_hj h h2 p k) (n8 : ¬ zv_a h2 61 8 = 3), (10 - k : Int).toNat < n → zx_T zp_P 4 zp_m175 104 [(0, .ref 44), (1, .int (zI (p))), (2, .int (zI (f))), (3, .int (zI (k)))] [] h2 (zr_R [(54, 0), (44, 27), (56, 0), (55, 0), (63, 0), (44, 25), (61, 0), (62, 0), (44, 26)] h (fun e h' => zg_J h h' ∧ 0 ≤ e ∧ e ≤ 7 ∧ (e = 0 → zg_wk h h' p)))) := by
  induction n with
  | zero => exact ⟨fun _ _ _ _ _ _ hm => absurd hm (Nat.not_lt_zero _), fun _ _ _ _ _ _ _ _ _ hm => absurd hm (Nat.not_lt_zero _), fun _ _ _ _ _ _ _ _ _ _ hm => absurd hm (Nat.not_lt_zero _)⟩
  | succ n ih =>
    refine ⟨?_, ?_, ?_⟩
    · intro h2 t hI2 t1 t2 hw hJ hh hm
      have hC := zv_ri hI (k := 1) rfl
      have hH := zv_ri hI (k := 5) rfl
      refine zx_T.l (i := .iload_n 2) (k := 1) (v := .int (zI (t))) (pc := 7) rfl rfl rfl ?_
      refine zx_T.l (i := .aload_n 0) (k := 1) (v := .ref 44) (pc := 8) rfl rfl rfl ?_
      refine zr_gi (k := 5) (lo := 0) (hi := 6) (e := zv_i h 5) (pc := 9) rfl rfl rfl hI2 (zv_wi hw rfl) (fun g1a g1b => ?_)
      refine zr_i2 (x := t) (y := zv_i h 5) (t := 91) (pc := 12) rfl rfl (by omega) (by omega) (by omega) (by omega) (fun (c2 : (zv_i h 5) ≤ t) => ?_) (fun (c2 : ¬ ((zv_i h 5) ≤ t)) => ?_)
      · refine zx_T.l (i := .aload_n 0) (k := 1) (v := .ref 44) (pc := 91) rfl rfl rfl ?_
        refine zx_T.l (i := .iload_n 1) (k := 1) (v := .int (zI (p))) (pc := 92) rfl rfl rfl ?_
        refine zr_iv (cj := 173) (q' := zp_m173) (As := [.int (zI (p))]) (rest := []) (pc := 93) rfl rfl rfl rfl rfl rfl (Nat.le_of_ble_eq_true rfl) rfl (Nat.le_of_ble_eq_true rfl) hI2 ((zm_lay (h := h2) hI2 (p := p) (by omega) (by omega)).up (Nat.le_of_ble_eq_true rfl)) ?_
        rintro r3 h6 ⟨ih6, w7, r3q, x5⟩
        subst r3q
        try dsimp only at x5
        have yj := x5.2
        show zx_T zp_P 4 zp_m175 96 [(0, .ref 44), (1, .int (zI (p))), (2, .int (zI (t)))] [] h6 _
        refine zx_T.l (i := .aload_n 0) (k := 1) (v := .ref 44) (pc := 96) rfl rfl rfl ?_
        refine zx_T.l (i := .iload_n 1) (k := 1) (v := .int (zI (p))) (pc := 97) rfl rfl rfl ?_
        refine zr_iv (cj := 167) (q' := zp_m167) (As := [.int (zI (p))]) (rest := []) (pc := 98) rfl rfl rfl rfl rfl rfl (Nat.le_of_ble_eq_true rfl) rfl (Nat.le_of_ble_eq_true rfl) ih6 ((zm_does (h := h6) ih6 (p := p) (by omega) (by omega) (by have b1 := yj 8 (by omega) (by omega); have b2 := hJ.2.2.2.2.2 p (by omega) (by omega); omega) ((hc.w ((hw.wd rfl : zb_W [(54, 0), (44, 27), (56, 0), (55, 0), (63, 0), (44, 25), (61, 0), (62, 0), (44, 26)] h _).tr (w7.wd rfl)) rfl rfl) p (by omega) (by omega))).up (Nat.le_of_ble_eq_true rfl)) ?_
        rintro r9 h12 ⟨ih12, w13, v10, r9q, x11⟩
        subst r9q
        try dsimp only at x11
        show zx_T zp_P 4 zp_m175 101 [(0, .ref 44), (1, .int (zI (p))), (2, .int (zI (t)))] [.int (zI (v10))] h12 _
        refine zx_T.t (i := .istore_n 2) (k := 1) (ls' := [(2, .int (zI (v10))), (0, .ref 44), (1, .int (zI (p)))]) (st' := []) (pc := 101) rfl rfl rfl rfl ?_
        refine zx_T.s (i := .iconst 0) (k := 1) (st' := [.int (zI (0))]) (pc := 102) rfl rfl ?_
        refine zx_T.t (i := .istore_n 3) (k := 1) (ls' := [(3, .int (zI (0))), (2, .int (zI (v10))), (0, .ref 44), (1, .int (zI (p)))]) (st' := []) (pc := 103) rfl rfl rfl rfl ?_
        refine zx_T.lk (ls' := [(0, .ref 44), (1, .int (zI (p))), (2, .int (zI (v10))), (3, .int (zI (0)))]) rfl ⟨rfl, rfl, rfl, rfl, trivial⟩ ?_
        exact ih.2.2 (h2 := h12) (f := v10) (k := 0) ih12 (by omega) (by omega) (by omega) (by omega) (((hw.wd rfl : zb_W [(54, 0), (44, 27), (56, 0), (55, 0), (63, 0), (44, 25), (61, 0), (62, 0), (44, 26)] h _).tr (w7.wd rfl)).tr (w13.wd rfl)) (zg_J.tr (zg_b ih6) (zg_J.tr (zg_b hI2) hJ (zg_J.fr hJ.2.2.2.2.2 w7 rfl rfl rfl)) (zg_J.fr (hJ.2.2.2.2.2.w w7 rfl) w13 rfl rfl rfl)) (zg_hh.up (by first | exact hh | (rw [show zv_i h 5 = t from by omega]; exact hh)) (zg_J.tr (zg_b ih6) (zg_J.fr hJ.2.2.2.2.2 w7 rfl rfl rfl) (zg_J.fr (hJ.2.2.2.2.2.w w7 rfl) w13 rfl rfl rfl))) (fun _ => ⟨fun z => absurd z (by omega), fun z => absurd z (by omega)⟩) (by omega) (zg_tn hm (by omega) (by omega))
      · refine zx_T.l (i := .aload_n 0) (k := 1) (v := .ref 44) (pc := 15) rfl rfl rfl ?_
        refine zx_T.l (i := .iload_n 2) (k := 1) (v := .int (zI (t))) (pc := 16) rfl rfl rfl ?_
        refine zx_T.l (i := .iload_n 1) (k := 1) (v := .int (zI (p))) (pc := 17) rfl rfl rfl ?_
        refine zr_iv (cj := 171) (q' := zp_m171) (As := [.int (zI (t)), .int (zI (p))]) (rest := []) (pc := 18) rfl rfl rfl rfl rfl rfl (Nat.le_of_ble_eq_true rfl) rfl (Nat.le_of_ble_eq_true rfl) hI2 ((zm_has (h := h2) hI2 (t := t) (p := p) (by omega) (by omega) (by omega) (by omega)).up (Nat.le_of_ble_eq_true rfl)) ?_
        rintro r15 h18 ⟨h18q, v16, r15q, x17⟩
        subst h18q r15q
        try dsimp only at x17
        have hx := x17
        simp only [zv_wa hw (a := 48) rfl, zv_wa hw (a := 49) rfl] at hx
        show zx_T zp_P 4 zp_m175 21 [(0, .ref 44), (1, .int (zI (p))), (2, .int (zI (t)))] [.int (zI (v16))] h2 _
        refine zr_i1 (x := v16) (t := 85) (pc := 21) rfl rfl (by omega) (by omega) (fun (c19 : v16 = 0) => ?_) (fun (c19 : ¬ (v16 = 0)) => ?_)
        · refine zr_inc (x := t) (n := 1) (y := t + 1) (ls' := [(2, .int (zI (t + 1))), (0, .ref 44), (1, .int (zI (p)))]) (pc := 85) rfl rfl rfl (by omega) rfl ?_
          refine zx_T.j (i := .goto (-81)) (k := 3) (pc' := 7) (st' := []) (pc := 88) rfl rfl rfl rfl rfl ?_
          refine zx_T.lk (ls' := [(0, .ref 44), (1, .int (zI (p))), (2, .int (zI (t + 1)))]) rfl ⟨rfl, rfl, rfl, trivial⟩ ?_
          exact ih.1 (h2 := h2) (t := t + 1) hI2 (by omega) (by omega) (hw.wd rfl : zb_W [(54, 0), (44, 27), (56, 0), (55, 0), (63, 0), (44, 25), (61, 0), (62, 0), (44, 26)] h _) hJ (zg_hh.s hh (fun z1 z2 => False.elim (by omega))) (by omega)
        · refine zx_T.s (i := .iconst 0) (k := 1) (st' := [.int (zI (0))]) (pc := 24) rfl rfl ?_
          refine zx_T.t (i := .istore_n 3) (k := 1) (ls' := [(3, .int (zI (0))), (0, .ref 44), (1, .int (zI (p))), (2, .int (zI (t)))]) (st' := []) (pc := 25) rfl rfl rfl rfl ?_
          refine zx_T.lk (ls' := [(0, .ref 44), (1, .int (zI (p))), (2, .int (zI (t))), (3, .int (zI (0)))]) rfl ⟨rfl, rfl, rfl, rfl, trivial⟩ ?_
          exact ih.2.1 (h2 := h2) (t := t) (k := 0) hI2 (by omega) (by omega) (by omega) (by omega) (by omega) (hw.wd rfl : zb_W [(54, 0), (44, 27), (56, 0), (55, 0), (63, 0), (44, 25), (61, 0), (62, 0), (44, 26)] h _) hJ (zg_hh.up hh (zg_J.rf hJ.2.2.2.2.2)) (by omega)
    · intro h2 t k hI2 t1 t2 k1 k2 hx hw hJ hh hm
      have hC := zv_ri hI (k := 1) rfl
      have hH := zv_ri hI (k := 5) rfl
      refine zx_T.l (i := .iload_n 3) (k := 1) (v := .int (zI (k))) (pc := 26) rfl rfl rfl ?_
      refine zx_T.s (i := .bipush 8) (k := 2) (st' := [.int (zI (8)), .int (zI (k))]) (pc := 27) rfl rfl ?_
      refine zr_i2 (x := k) (y := 8) (t := 50) (pc := 29) rfl rfl (by omega) (by omega) (by omega) (by omega) (fun (c20 : 8 ≤ k) => ?_) (fun (c20 : ¬ (8 ≤ k)) => ?_)
      · refine zx_T.l (i := .aload_n 0) (k := 1) (v := .ref 44) (pc := 50) rfl rfl rfl ?_
        refine zr_gr (k := 28) (b := 62) (pc := 51) rfl rfl rfl hI2 ?_
        refine zx_T.s (i := .bipush 8) (k := 2) (st' := [.int (zI (8)), .ref 62]) (pc := 54) rfl rfl ?_
        refine zx_T.l (i := .aload_n 0) (k := 1) (v := .ref 44) (pc := 56) rfl rfl rfl ?_
        refine zr_gr (k := 9) (b := 51) (pc := 57) rfl rfl rfl hI2 ?_
        refine zx_T.l (i := .iload_n 2) (k := 1) (v := .int (zI (t))) (pc := 60) rfl rfl rfl ?_
        refine zr_al (n := 6) (lo := 0) (hi := 8) (e := zv_a h 51 t) (pc := 61) rfl rfl rfl hI2 (by omega) (by omega) (zv_wa hw rfl t) (fun g21a g21b => ?_)
        refine zr_as (n := 14) (lo := 0) (hi := 8) (e := zv_a h 51 t) (pc := 62) rfl rfl rfl rfl hI2 (by omega) (by omega) (by omega) (by omega) (fun h22 ih22 w23 s24 => ?_)
        refine zx_T.l (i := .aload_n 0) (k := 1) (v := .ref 44) (pc := 63) rfl rfl rfl ?_
        refine zx_T.l (i := .aload_n 0) (k := 1) (v := .ref 44) (pc := 64) rfl rfl rfl ?_
        refine zr_gr (k := 8) (b := 50) (pc := 65) rfl rfl rfl ih22 ?_
        refine zx_T.l (i := .iload_n 2) (k := 1) (v := .int (zI (t))) (pc := 68) rfl rfl rfl ?_
        refine zr_al (n := 6) (lo := 0) (hi := 60) (e := zv_a h 50 t) (pc := 69) rfl rfl rfl ih22 (by omega) (by omega) ((zv_wa w23 rfl t).trans (zv_wa hw rfl t)) (fun g25a g25b => ?_)
        refine zx_T.l (i := .aload_n 0) (k := 1) (v := .ref 44) (pc := 70) rfl rfl rfl ?_
        refine zr_gr (k := 28) (b := 62) (pc := 71) rfl rfl rfl ih22 ?_
        refine zx_T.s (i := .iconst 1) (k := 1) (st' := [.int (zI (1)), .ref 62, .int (zI (zv_a h 50 t)), .ref 44]) (pc := 74) rfl rfl ?_
        have y26 : zv_i h22 1 = zv_i h 1 := ((zv_wi w23 rfl).trans (zv_wi hw rfl))
        have y27 : zv_a h22 62 8 = zv_a h 51 t := ((s24 8 (by omega)).trans (if_pos rfl))
        refine zr_iv (cj := 174) (q' := zp_m174) (As := [.int (zI (zv_a h 50 t)), .ref 62, .int (zI (1))]) (rest := []) (pc := 75) rfl rfl rfl rfl rfl rfl (Nat.le_of_ble_eq_true rfl) rfl (Nat.le_of_ble_eq_true rfl) ih22 ((zm_join_62 (h := h22) ih22 (place := zv_a h 50 t) (many := 1) (by omega) (by omega) (by omega) (by omega) (hJ.2.2.2.2.2.w w23 rfl) (by have b2 := ht t (by omega) (by omega); omega)).up (Nat.le_of_ble_eq_true rfl)) ?_
        rintro r28 h31 ⟨ih31, w32, v29, r28q, x30⟩
        subst r28q
        try dsimp only at x30
        have Jh31 := x30.1
        have jE := x30.2.2.2
        show zx_T zp_P 4 zp_m175 78 [(0, .ref 44), (1, .int (zI (p))), (2, .int (zI (t))), (3, .int (zI (k)))] [.int (zI (v29))] h31 _
        refine zx_T.t (i := .istore_n 3) (k := 1) (ls' := [(3, .int (zI (v29))), (0, .ref 44), (1, .int (zI (p))), (2, .int (zI (t)))]) (st' := []) (pc := 78) rfl rfl rfl rfl ?_
        refine zx_T.l (i := .iload_n 3) (k := 1) (v := .int (zI (v29))) (pc := 79) rfl rfl rfl ?_
        refine zr_i1 (x := v29) (t := 85) (pc := 80) rfl rfl (by omega) (by omega) (fun (c33 : v29 = 0) => ?_) (fun (c33 : ¬ (v29 = 0)) => ?_)
        · refine zr_inc (x := t) (n := 1) (y := t + 1) (ls' := [(2, .int (zI (t + 1))), (3, .int (zI (v29))), (0, .ref 44), (1, .int (zI (p)))]) (pc := 85) rfl rfl rfl (by omega) rfl ?_
          refine zx_T.j (i := .goto (-81)) (k := 3) (pc' := 7) (st' := []) (pc := 88) rfl rfl rfl rfl rfl ?_
          refine zx_T.lk (ls' := [(0, .ref 44), (1, .int (zI (p))), (2, .int (zI (t + 1)))]) rfl ⟨rfl, rfl, rfl, trivial⟩ ?_
          exact ih.1 (h2 := h31) (t := t + 1) ih31 (by omega) (by omega) (((hw.wd rfl : zb_W [(54, 0), (44, 27), (56, 0), (55, 0), (63, 0), (44, 25), (61, 0), (62, 0), (44, 26)] h _).tr (w23.wd rfl)).tr (w32.wd rfl)) (zg_J.tr (zg_b ih22) (zg_J.tr (zg_b hI2) hJ (zg_J.fr hJ.2.2.2.2.2 w23 rfl rfl rfl)) Jh31) (zg_hh.s (zg_hh.up hh (zg_J.tr (zg_b ih22) (zg_J.fr hJ.2.2.2.2.2 w23 rfl rfl rfl) Jh31)) (fun _ _ => by have b := jE (by omega); exact ⟨b.1, by omega, b.2.2⟩)) (by omega)
        · refine zx_T.l (i := .iload_n 3) (k := 1) (v := .int (zI (v29))) (pc := 83) rfl rfl rfl ?_
          exact zr_ir (x := v29) (pc := 84) rfl rfl rfl ⟨ih31, (((hw.wd rfl : zb_W [(54, 0), (44, 27), (56, 0), (55, 0), (63, 0), (44, 25), (61, 0), (62, 0), (44, 26)] h _).tr (w23.wd rfl)).tr (w32.wd rfl)), _, rfl, by dsimp only; exact ⟨(zg_J.tr (zg_b ih22) (zg_J.tr (zg_b hI2) hJ (zg_J.fr hJ.2.2.2.2.2 w23 rfl rfl rfl)) Jh31), by omega, by omega, fun z => absurd z (by omega)⟩⟩
      · refine zx_T.l (i := .aload_n 0) (k := 1) (v := .ref 44) (pc := 32) rfl rfl rfl ?_
        refine zr_gr (k := 28) (b := 62) (pc := 33) rfl rfl rfl hI2 ?_
        refine zx_T.l (i := .iload_n 3) (k := 1) (v := .int (zI (k))) (pc := 36) rfl rfl rfl ?_
        refine zx_T.l (i := .aload_n 0) (k := 1) (v := .ref 44) (pc := 37) rfl rfl rfl ?_
        refine zr_gr (k := 24) (b := 61) (pc := 38) rfl rfl rfl hI2 ?_
        refine zx_T.l (i := .iload_n 3) (k := 1) (v := .int (zI (k))) (pc := 41) rfl rfl rfl ?_
        refine zr_al (n := 14) (lo := 0) (hi := 8) (e := zv_a h2 61 k) (pc := 42) rfl rfl rfl hI2 (by omega) (by omega) rfl (fun g34a g34b => ?_)
        refine zr_as (n := 14) (lo := 0) (hi := 8) (e := zv_a h2 61 k) (pc := 43) rfl rfl rfl rfl hI2 (by omega) (by omega) (by omega) (by omega) (fun h35 ih35 w36 s37 => ?_)
        refine zr_inc (x := k) (n := 1) (y := k + 1) (ls' := [(3, .int (zI (k + 1))), (0, .ref 44), (1, .int (zI (p))), (2, .int (zI (t)))]) (pc := 44) rfl rfl rfl (by omega) rfl ?_
        refine zx_T.j (i := .goto (-21)) (k := 3) (pc' := 26) (st' := []) (pc := 47) rfl rfl rfl rfl rfl ?_
        refine zx_T.lk (ls' := [(0, .ref 44), (1, .int (zI (p))), (2, .int (zI (t))), (3, .int (zI (k + 1)))]) rfl ⟨rfl, rfl, rfl, rfl, trivial⟩ ?_
        exact ih.2.1 (h2 := h35) (t := t) (k := k + 1) ih35 (by omega) (by omega) (by omega) (by omega) (by omega) ((hw.wd rfl : zb_W [(54, 0), (44, 27), (56, 0), (55, 0), (63, 0), (44, 25), (61, 0), (62, 0), (44, 26)] h _).tr (w36.wd rfl)) (zg_J.tr (zg_b hI2) hJ (zg_J.fr hJ.2.2.2.2.2 w36 rfl rfl rfl)) (zg_hh.up hh (zg_J.fr hJ.2.2.2.2.2 w36 rfl rfl rfl)) (by omega)
    · intro h2 f k hI2 f1 f2 k1 k2 hw hJ hh hd n8 hm
      have hC := zv_ri hI (k := 1) rfl
      have hH := zv_ri hI (k := 5) rfl
      refine zx_T.l (i := .iload_n 3) (k := 1) (v := .int (zI (k))) (pc := 104) rfl rfl rfl ?_
      refine zx_T.l (i := .aload_n 0) (k := 1) (v := .ref 44) (pc := 105) rfl rfl rfl ?_
      refine zx_T.l (i := .iload_n 1) (k := 1) (v := .int (zI (p))) (pc := 106) rfl rfl rfl ?_
      refine zr_iv (cj := 170) (q' := zp_m170) (As := [.int (zI (p))]) (rest := [.int (zI (k))]) (pc := 107) rfl rfl rfl rfl rfl rfl (Nat.le_of_ble_eq_true rfl) rfl (Nat.le_of_ble_eq_true rfl) hI2 ((zm_jumps (h := h2) hI2 (p := p) (by omega) (by omega)).up (Nat.le_of_ble_eq_true rfl)) ?_
      rintro r38 h41 ⟨h41q, v39, r38q, x40⟩
      subst h41q r38q
      try dsimp only at x40
      have jj := x40
      simp only [zv_wa hw (a := 45) rfl] at jj
      show zx_T zp_P 4 zp_m175 110 [(0, .ref 44), (1, .int (zI (p))), (2, .int (zI (f))), (3, .int (zI (k)))] [.int (zI (v39)), .int (zI (k))] h2 _
      refine zr_i2 (x := k) (y := v39) (t := 142) (pc := 110) rfl rfl (by omega) (by omega) (by omega) (by omega) (fun (c42 : v39 ≤ k) => ?_) (fun (c42 : ¬ (v39 ≤ k)) => ?_)
      · refine zx_T.l (i := .iload_n 2) (k := 1) (v := .int (zI (f))) (pc := 142) rfl rfl rfl ?_
        refine zr_i1 (x := f) (t := 154) (pc := 143) rfl rfl (by omega) (by omega) (fun (c43 : ¬ f = 0) => ?_) (fun (c43 : ¬ (¬ f = 0)) => ?_)
        · refine zx_T.l (i := .iload_n 2) (k := 1) (v := .int (zI (f))) (pc := 154) rfl rfl rfl ?_
          exact zr_ir (x := f) (pc := 155) rfl rfl rfl ⟨hI2, (hw.wd rfl : zb_W [(54, 0), (44, 27), (56, 0), (55, 0), (63, 0), (44, 25), (61, 0), (62, 0), (44, 26)] h _), _, rfl, by dsimp only; exact ⟨hJ, by omega, by omega, fun z => by first | omega | exact zg_hwk hh (hd (by omega)) jj (by omega)⟩⟩
        · refine zx_T.l (i := .aload_n 0) (k := 1) (v := .ref 44) (pc := 146) rfl rfl rfl ?_
          refine zx_T.l (i := .iload_n 1) (k := 1) (v := .int (zI (p))) (pc := 147) rfl rfl rfl ?_
          refine zr_iv (cj := 168) (q' := zp_m168) (As := [.int (zI (p))]) (rest := []) (pc := 148) rfl rfl rfl rfl rfl rfl (Nat.le_of_ble_eq_true rfl) rfl (Nat.le_of_ble_eq_true rfl) hI2 ((zm_goesOn (h := h2) hI2 (p := p) (by omega) (by omega)).up (Nat.le_of_ble_eq_true rfl)) ?_
          rintro r44 h47 ⟨h47q, v45, r44q, x46⟩
          subst h47q r44q
          try dsimp only at x46
          show zx_T zp_P 4 zp_m175 151 [(0, .ref 44), (1, .int (zI (p))), (2, .int (zI (f))), (3, .int (zI (k)))] [.int (zI (v45))] h2 _
          refine zr_i1 (x := v45) (t := 156) (pc := 151) rfl rfl (by omega) (by omega) (fun (c48 : ¬ v45 = 0) => ?_) (fun (c48 : ¬ (¬ v45 = 0)) => ?_)
          · refine zx_T.l (i := .iload_n 1) (k := 1) (v := .int (zI (p))) (pc := 156) rfl rfl rfl ?_
            refine zx_T.s (i := .iconst 1) (k := 1) (st' := [.int (zI (1)), .int (zI (p))]) (pc := 157) rfl rfl ?_
            refine zr_add (x := p) (y := 1) (e := p + 1) (pc := 158) rfl (by omega) ?_
            refine zx_T.l (i := .aload_n 0) (k := 1) (v := .ref 44) (pc := 159) rfl rfl rfl ?_
            refine zr_gi (k := 1) (lo := 0) (hi := 60) (e := zv_i h 1) (pc := 160) rfl rfl rfl hI2 (zv_wi hw rfl) (fun g49a g49b => ?_)
            refine zr_i2 (x := p + 1) (y := zv_i h 1) (t := 171) (pc := 163) rfl rfl (by omega) (by omega) (by omega) (by omega) (fun (c50 : ¬ (p + 1) = (zv_i h 1)) => ?_) (fun (c50 : ¬ (¬ (p + 1) = (zv_i h 1))) => ?_)
            · refine zx_T.l (i := .aload_n 0) (k := 1) (v := .ref 44) (pc := 171) rfl rfl rfl ?_
              refine zx_T.l (i := .iload_n 1) (k := 1) (v := .int (zI (p))) (pc := 172) rfl rfl rfl ?_
              refine zx_T.s (i := .iconst 1) (k := 1) (st' := [.int (zI (1)), .int (zI (p)), .ref 44]) (pc := 173) rfl rfl ?_
              refine zr_add (x := p) (y := 1) (e := p + 1) (pc := 174) rfl (by omega) ?_
              refine zx_T.l (i := .aload_n 0) (k := 1) (v := .ref 44) (pc := 175) rfl rfl rfl ?_
              refine zr_gr (k := 24) (b := 61) (pc := 176) rfl rfl rfl hI2 ?_
              refine zx_T.l (i := .aload_n 0) (k := 1) (v := .ref 44) (pc := 179) rfl rfl rfl ?_
              refine zr_gi (k := 25) (lo := 0) (hi := 6) (e := zv_i h2 25) (pc := 180) rfl rfl rfl hI2 rfl (fun g51a g51b => ?_)
              have y52 : zv_i h2 1 = zv_i h 1 := (zv_wi hw rfl)
              refine zr_iv (cj := 174) (q' := zp_m174) (As := [.int (zI (p + 1)), .ref 61, .int (zI (zv_i h2 25))]) (rest := []) (pc := 183) rfl rfl rfl rfl rfl rfl (Nat.le_of_ble_eq_true rfl) rfl (Nat.le_of_ble_eq_true rfl) hI2 ((zm_join_61 (h := h2) hI2 (place := p + 1) (many := zv_i h2 25) (by omega) (by omega) (by omega) (by omega) hJ.2.2.2.2.2 (by omega)).up (Nat.le_of_ble_eq_true rfl)) ?_
              rintro r54 h57 ⟨ih57, w58, v55, r54q, x56⟩
              subst r54q
              try dsimp only at x56
              have Jh57 := x56.1
              have jE := x56.2.2.2
              show zx_T zp_P 4 zp_m175 186 [(0, .ref 44), (1, .int (zI (p))), (2, .int (zI (f))), (3, .int (zI (k)))] [.int (zI (v55))] h57 _
              exact zr_ir (x := v55) (pc := 186) rfl rfl rfl ⟨ih57, ((hw.wd rfl : zb_W [(54, 0), (44, 27), (56, 0), (55, 0), (63, 0), (44, 25), (61, 0), (62, 0), (44, 26)] h _).tr (w58.wd rfl)), _, rfl, by dsimp only; exact ⟨(zg_J.tr (zg_b hI2) hJ Jh57), by omega, by omega, fun z => (zg_hwk (hh.up Jh57) (hd (by omega) |>.up Jh57) jj (by omega))⟩⟩
            · refine zx_T.s (i := .bipush 6) (k := 2) (st' := [.int (zI (6))]) (pc := 166) rfl rfl ?_
              refine zx_T.j (i := .goto 18) (k := 3) (pc' := 186) (st' := [.int (zI (6))]) (pc := 168) rfl rfl rfl rfl rfl ?_
              exact zr_ir (x := 6) (pc := 186) rfl rfl rfl ⟨hI2, (hw.wd rfl : zb_W [(54, 0), (44, 27), (56, 0), (55, 0), (63, 0), (44, 25), (61, 0), (62, 0), (44, 26)] h _), _, rfl, by dsimp only; exact ⟨hJ, by omega, by omega, fun z => by first | omega | exact zg_hwk hh (hd (by omega)) jj (by omega)⟩⟩
          · refine zx_T.l (i := .iload_n 2) (k := 1) (v := .int (zI (f))) (pc := 154) rfl rfl rfl ?_
            exact zr_ir (x := f) (pc := 155) rfl rfl rfl ⟨hI2, (hw.wd rfl : zb_W [(54, 0), (44, 27), (56, 0), (55, 0), (63, 0), (44, 25), (61, 0), (62, 0), (44, 26)] h _), _, rfl, by dsimp only; exact ⟨hJ, by omega, by omega, fun z => by first | omega | exact zg_hwk hh (hd (by omega)) jj (by omega)⟩⟩
      · refine zx_T.l (i := .iload_n 2) (k := 1) (v := .int (zI (f))) (pc := 113) rfl rfl rfl ?_
        refine zr_i1 (x := f) (t := 142) (pc := 114) rfl rfl (by omega) (by omega) (fun (c59 : ¬ f = 0) => ?_) (fun (c59 : ¬ (¬ f = 0)) => ?_)
        · refine zx_T.l (i := .iload_n 2) (k := 1) (v := .int (zI (f))) (pc := 142) rfl rfl rfl ?_
          refine zr_i1 (x := f) (t := 154) (pc := 143) rfl rfl (by omega) (by omega) (fun (c60 : ¬ f = 0) => ?_) (fun (c60 : ¬ (¬ f = 0)) => False.elim (by omega))
          refine zx_T.l (i := .iload_n 2) (k := 1) (v := .int (zI (f))) (pc := 154) rfl rfl rfl ?_
          exact zr_ir (x := f) (pc := 155) rfl rfl rfl ⟨hI2, (hw.wd rfl : zb_W [(54, 0), (44, 27), (56, 0), (55, 0), (63, 0), (44, 25), (61, 0), (62, 0), (44, 26)] h _), _, rfl, by dsimp only; exact ⟨hJ, by omega, by omega, fun z => by first | omega | exact zg_hwk hh (hd (by omega)) jj (by omega)⟩⟩
        · have k19 : k ≤ 1 := by omega
          refine zx_T.l (i := .aload_n 0) (k := 1) (v := .ref 44) (pc := 117) rfl rfl rfl ?_
          refine zx_T.l (i := .aload_n 0) (k := 1) (v := .ref 44) (pc := 118) rfl rfl rfl ?_
          refine zx_T.l (i := .iload_n 1) (k := 1) (v := .int (zI (p))) (pc := 119) rfl rfl rfl ?_
          refine zx_T.l (i := .iload_n 3) (k := 1) (v := .int (zI (k))) (pc := 120) rfl rfl rfl ?_
          refine zr_iv (cj := 169) (q' := zp_m169) (As := [.int (zI (p)), .int (zI (k))]) (rest := [.ref 44]) (pc := 121) rfl rfl rfl rfl rfl rfl (Nat.le_of_ble_eq_true rfl) rfl (Nat.le_of_ble_eq_true rfl) hI2 ((zm_jump (h := h2) hI2 (p := p) (k := k) (by omega) (by omega) (by omega) (by omega)).up (Nat.le_of_ble_eq_true rfl)) ?_
          rintro r61 h64 ⟨h64q, v62, r61q, x63⟩
          subst h64q r61q
          try dsimp only at x63
          have jw := x63
          simp only [zv_wa hw (a := 45) rfl, zv_wa hw (a := 46) rfl, zv_wa hw (a := 47) rfl] at jw
          show zx_T zp_P 4 zp_m175 124 [(0, .ref 44), (1, .int (zI (p))), (2, .int (zI (f))), (3, .int (zI (k)))] [.int (zI (v62)), .ref 44] h2 _
          refine zx_T.l (i := .aload_n 0) (k := 1) (v := .ref 44) (pc := 124) rfl rfl rfl ?_
          refine zr_gr (k := 24) (b := 61) (pc := 125) rfl rfl rfl hI2 ?_
          refine zx_T.l (i := .aload_n 0) (k := 1) (v := .ref 44) (pc := 128) rfl rfl rfl ?_
          refine zr_gi (k := 25) (lo := 0) (hi := 6) (e := zv_i h2 25) (pc := 129) rfl rfl rfl hI2 rfl (fun g65a g65b => ?_)
          have y66 : zv_i h2 1 = zv_i h 1 := (zv_wi hw rfl)
          refine zr_iv (cj := 174) (q' := zp_m174) (As := [.int (zI (v62)), .ref 61, .int (zI (zv_i h2 25))]) (rest := []) (pc := 132) rfl rfl rfl rfl rfl rfl (Nat.le_of_ble_eq_true rfl) rfl (Nat.le_of_ble_eq_true rfl) hI2 ((zm_join_61 (h := h2) hI2 (place := v62) (many := zv_i h2 25) (by omega) (by omega) (by omega) (by omega) hJ.2.2.2.2.2 (by omega)).up (Nat.le_of_ble_eq_true rfl)) ?_
          rintro r68 h71 ⟨ih71, w72, v69, r68q, x70⟩
          subst r68q
          try dsimp only at x70
          have Jh71 := x70.1
          have jE := x70.2.2.2
          show zx_T zp_P 4 zp_m175 135 [(0, .ref 44), (1, .int (zI (p))), (2, .int (zI (f))), (3, .int (zI (k)))] [.int (zI (v69))] h71 _
          refine zx_T.t (i := .istore_n 2) (k := 1) (ls' := [(2, .int (zI (v69))), (0, .ref 44), (1, .int (zI (p))), (3, .int (zI (k)))]) (st' := []) (pc := 135) rfl rfl rfl rfl ?_
          refine zr_inc (x := k) (n := 1) (y := k + 1) (ls' := [(3, .int (zI (k + 1))), (2, .int (zI (v69))), (0, .ref 44), (1, .int (zI (p)))]) (pc := 136) rfl rfl rfl (by omega) rfl ?_
          refine zx_T.j (i := .goto (-35)) (k := 3) (pc' := 104) (st' := []) (pc := 139) rfl rfl rfl rfl rfl ?_
          have y73 : zv_a h71 61 8 = zv_a h2 61 8 := (zv_wa w72 rfl 8)
          refine zx_T.lk (ls' := [(0, .ref 44), (1, .int (zI (p))), (2, .int (zI (v69))), (3, .int (zI (k + 1)))]) rfl ⟨rfl, rfl, rfl, rfl, trivial⟩ ?_
          exact ih.2.2 (h2 := h71) (f := v69) (k := k + 1) ih71 (by omega) (by omega) (by omega) (Int.add_le_add_right k19 1) ((hw.wd rfl : zb_W [(54, 0), (44, 27), (56, 0), (55, 0), (63, 0), (44, 25), (61, 0), (62, 0), (44, 26)] h _).tr (w72.wd rfl)) (zg_J.tr (zg_b hI2) hJ Jh71) (zg_hh.up (by first | exact hh | (rw [show zv_i h 5 = t from by omega]; exact hh)) Jh71) (fun z => zg_hj.s ((hd (by omega)).up Jh71) k1 k19 jw.2.2 (by have b := jE z; exact ⟨b.1, by omega, b.2.2⟩)) (fun z => n8 ((zv_wa w72 rfl 8).symm.trans z)) (zg_tn hm (by omega) (by omega))
set_option maxRecDepth 100000 in
set_option maxHeartbeats 4000000 in
theorem zm_work {h : zx_H} (hI : zb_I zc_H h) {p : Int} (p1 : 0 ≤ p) (p2 : p ≤ 59) (hk : zg_KI h) (hc : zg_CI h) (ht : zg_TI h) : zx_T zp_P 4 zp_m175 0 [(0, .ref 44), (1, .int (zI (p)))] [] h (zr_R [(54, 0), (44, 27), (56, 0), (55, 0), (63, 0), (44, 25), (61, 0), (62, 0), (44, 26)] h (fun e h' => zg_J h h' ∧ 0 ≤ e ∧ e ≤ 7 ∧ (e = 0 → zg_wk h h' p))) := by
  have hC := zv_ri hI (k := 1) rfl
  have hH := zv_ri hI (k := 5) rfl
  refine zx_T.l (i := .aload_n 0) (k := 1) (v := .ref 44) (pc := 0) rfl rfl rfl ?_
  refine zx_T.l (i := .iload_n 1) (k := 1) (v := .int (zI (p))) (pc := 1) rfl rfl rfl ?_
  refine zr_iv (cj := 173) (q' := zp_m173) (As := [.int (zI (p))]) (rest := []) (pc := 2) rfl rfl rfl rfl rfl rfl (Nat.le_of_ble_eq_true rfl) rfl (Nat.le_of_ble_eq_true rfl) hI ((zm_lay (h := h) hI (p := p) (by omega) (by omega)).up (Nat.le_of_ble_eq_true rfl)) ?_
  rintro r74 h77 ⟨ih77, w78, r74q, x76⟩
  subst r74q
  try dsimp only at x76
  have yj := x76.2
  show zx_T zp_P 4 zp_m175 5 [(0, .ref 44), (1, .int (zI (p)))] [] h77 _
  refine zx_T.s (i := .iconst 0) (k := 1) (st' := [.int (zI (0))]) (pc := 5) rfl rfl ?_
  refine zx_T.t (i := .istore_n 2) (k := 1) (ls' := [(2, .int (zI (0))), (0, .ref 44), (1, .int (zI (p)))]) (st' := []) (pc := 6) rfl rfl rfl rfl ?_
  refine zx_T.lk (ls' := [(0, .ref 44), (1, .int (zI (p))), (2, .int (zI (0)))]) rfl ⟨rfl, rfl, rfl, trivial⟩ ?_
  exact (zm_work_L (h := h) hI (p := p) p1 p2 hk hc ht ((1000 - 20 * 0 : Int).toNat + 1)).1 (h2 := h77) (t := 0) ih77 (by omega) (by omega) (w78.wd rfl : zb_W [(54, 0), (44, 27), (56, 0), (55, 0), (63, 0), (44, 25), (61, 0), (62, 0), (44, 26)] h _) (zg_J.fr hk w78 rfl rfl rfl) (fun i i0 i1 => absurd i1 (by omega)) (Nat.lt_succ_self _)
