/-! ===== 56: the reference, method by method (by program) ===== -/
def zg_CI (h : zx_H) : Prop := ∀ q, 0 ≤ q → q < 60 → zv_a h 45 q = 21 → 5 ≤ zv_a h 46 q ∧ zv_a h 46 q ≤ 8
def zg_TI (h : zx_H) : Prop := ∀ t, 0 ≤ t → t < 6 → ¬ zv_a h 51 t = 3
theorem zg_CI.w {W : List (Nat × Nat)} {h h' : zx_H} (hk : zg_CI h) (w : zb_W W h h') (e1 : za_in W 45 0 = false) (e2 : za_in W 46 0 = false) : zg_CI h' := fun q q0 q1 => by
  rw [zv_wa w e1, zv_wa w e2]; exact hk q q0 q1
theorem zg_TI.w {W : List (Nat × Nat)} {h h' : zx_H} (hk : zg_TI h) (w : zb_W W h h') (e1 : za_in W 51 0 = false) : zg_TI h' := fun q q0 q1 => by
  rw [zv_wa w e1]; exact hk q q0 q1
theorem zg_b {h : zx_H} (hI : zb_I zc_H h) : zv_i h 27 = 0 ∨ zv_i h 27 = 1 := by
  have := zv_ri hI (k := 27) rfl
  omega
theorem zg_J.rf {h : zx_H} (hk : zg_KI h) : zg_J h h := zg_J.fr hk (zb_W.rf (W := [])) rfl rfl rfl
/-- what a PLACE that was worked has reached -/
def zg_wk (h h' : zx_H) (p : Int) : Prop :=
  (∀ i, 0 ≤ i → i < zv_i h 5 → zv_a h 48 i ≤ p → p < zv_a h 49 i → 0 ≤ zv_a h 50 i ∧ zv_a h 50 i < zv_i h 1 ∧ zv_a h' 54 (zv_a h 50 i) = 1) ∧
  (24 ≤ zv_a h 45 p → zv_a h 45 p ≤ 27 → 0 ≤ zv_a h 46 p ∧ zv_a h 46 p < zv_i h 1 ∧ zv_a h' 54 (zv_a h 46 p) = 1) ∧
  (zv_a h 45 p = 27 → 0 ≤ zv_a h 47 p ∧ zv_a h 47 p < zv_i h 1 ∧ zv_a h' 54 (zv_a h 47 p) = 1)
theorem zg_wk.up {h h' h'' : zx_H} {p : Int} (a : zg_wk h h' p) (j : zg_J h' h'') : zg_wk h h'' p := by
  obtain ⟨_, _, _, j4, _⟩ := j
  refine ⟨fun i i0 i1 i2 i3 => ?_, fun z1 z2 => ?_, fun z => ?_⟩
  · have b := a.1 i i0 i1 i2 i3
    exact ⟨b.1, b.2.1, j4 _ b.1 b.2.2⟩
  · have b := a.2.1 z1 z2
    exact ⟨b.1, b.2.1, j4 _ b.1 b.2.2⟩
  · have b := a.2.2 z
    exact ⟨b.1, b.2.1, j4 _ b.1 b.2.2⟩
def zg_in9 (W : List (Nat × Nat)) : Bool := za_in W 44 5 || za_in W 48 0 || za_in W 49 0 || za_in W 50 0 || za_in W 44 1 || za_in W 45 0 || za_in W 46 0 || za_in W 47 0
theorem zg_in9s {W : List (Nat × Nat)} (e : zg_in9 W = false) : za_in W 44 5 = false ∧ za_in W 48 0 = false ∧ za_in W 49 0 = false ∧ za_in W 50 0 = false ∧ za_in W 44 1 = false ∧ za_in W 45 0 = false ∧ za_in W 46 0 = false ∧ za_in W 47 0 = false := by
  unfold zg_in9 at e
  simp only [Bool.or_eq_false_iff] at e
  obtain ⟨⟨⟨⟨⟨⟨⟨a, b⟩, c⟩, d⟩, e⟩, f⟩, g⟩, i⟩ := e
  exact ⟨a, b, c, d, e, f, g, i⟩
theorem zg_wk.ba {W : List (Nat × Nat)} {h h1 h' : zx_H} {p : Int} (a : zg_wk h1 h' p) (w : zb_W W h h1) (e : zg_in9 W = false) : zg_wk h h' p := by
  obtain ⟨e1, e2, e3, e4, e5, e6, e7, e8⟩ := zg_in9s e
  unfold zg_wk at a ⊢
  simp only [zv_wi w e1, zv_wa w e2, zv_wa w e3, zv_wa w e4, zv_wi w e5, zv_wa w e6, zv_wa w e7, zv_wa w e8] at a
  exact a
theorem zg_wk.fr {W : List (Nat × Nat)} {h h' h'' : zx_H} {p : Int} (a : zg_wk h h' p) (w : zb_W W h' h'') (e : za_in W 54 0 = false) : zg_wk h h'' p := by
  unfold zg_wk at a ⊢
  simp only [zv_wa w e]
  exact a
theorem zg_ws {h h2 h4 : zx_H} {p : Int} (hI2 : zb_I zc_H h2) (JJ : zg_J h2 h4) (old : zv_i h2 27 = 0 → ∀ q, 0 ≤ q → q < p → zv_a h2 54 q = 1 → zg_wk h h2 q) (new : zv_a h2 54 p = 1 → zg_wk h h4 p) : zv_i h4 27 = 0 → ∀ q, 0 ≤ q → q < p + 1 → zv_a h4 54 q = 1 → zg_wk h h4 q := by
  intro hc q q0 q1 hr
  have J := JJ
  obtain ⟨_, _, j3, _, j5, _⟩ := JJ
  have b := zg_b hI2
  have hc2 : zv_i h2 27 = 0 := by omega
  rw [j5 hc q q0] at hr
  by_cases e : q = p
  · subst e; exact new hr
  · exact (old hc2 q q0 (by omega) hr).up J
/-- a PLACE that has a FRAME, but for gaps -/
def zg_FC (h : zx_H) (p : Int) : Prop := (∃ t, 0 ≤ t ∧ t < zv_i h 5 ∧ zv_a h 50 t = p) ∨ (∃ q, 0 ≤ q ∧ q < zv_i h 1 ∧ zv_a h 54 q = 1 ∧ ((24 ≤ zv_a h 45 q ∧ zv_a h 45 q ≤ 27 ∧ zv_a h 46 q = p) ∨ (zv_a h 45 q = 27 ∧ zv_a h 47 q = p)))
theorem zg_FC.bk {W : List (Nat × Nat)} {h h' : zx_H} {p : Int} (a : zg_FC h' p) (w : zb_W W h h') (e : zg_in9 W = false) (e9 : za_in W 54 0 = false) : zg_FC h p := by
  obtain ⟨e1, e2, e3, e4, e5, e6, e7, e8⟩ := zg_in9s e
  unfold zg_FC at a ⊢
  simp only [zv_wi w e1, zv_wa w e4, zv_wi w e5, zv_wa w e6, zv_wa w e7, zv_wa w e8, zv_wa w e9] at a
  exact a
def zg_fa (h : zx_H) (p : Int) : Prop := ∃ f, 0 ≤ f ∧ f < zv_i h 19 ∧ zv_a h 57 f = p
/-- where a REACHED PLACE goes there are FRAMES -/
def zg_C1 (h : zx_H) (p : Int) : Prop := (∀ i, 0 ≤ i → i < zv_i h 5 → zv_a h 48 i ≤ p → p < zv_a h 49 i → zg_fa h (zv_a h 50 i)) ∧ (24 ≤ zv_a h 45 p → zv_a h 45 p ≤ 27 → zg_fa h (zv_a h 46 p)) ∧ (zv_a h 45 p = 27 → zg_fa h (zv_a h 47 p))
def zg_C (h : zx_H) : Prop := ∀ p, 0 ≤ p → p < zv_i h 1 → zv_a h 54 p = 1 → zg_C1 h p
theorem zg_fa.w {W : List (Nat × Nat)} {h h' : zx_H} {p : Int} (a : zg_fa h p) (w : zb_W W h h') (e1 : za_in W 44 19 = false) (e2 : za_in W 57 0 = false) : zg_fa h' p := by
  unfold zg_fa at a ⊢
  simp only [zv_wi w e1, zv_wa w e2]
  exact a
theorem zg_C1.w {W : List (Nat × Nat)} {h h' : zx_H} {p : Int} (a : zg_C1 h p) (w : zb_W W h h') (e : zg_in9 W = false) (f1 : za_in W 44 19 = false) (f2 : za_in W 57 0 = false) : zg_C1 h' p := by
  obtain ⟨e1, e2, e3, e4, e5, e6, e7, e8⟩ := zg_in9s e
  unfold zg_C1 zg_fa at a ⊢
  simp only [zv_wi w e1, zv_wa w e2, zv_wa w e3, zv_wa w e4, zv_wa w e6, zv_wa w e7, zv_wa w e8, zv_wi w f1, zv_wa w f2]
  exact a
theorem zg_C.w {W : List (Nat × Nat)} {h h' : zx_H} (a : zg_C h) (w : zb_W W h h') (e : zg_in9 W = false) (f1 : za_in W 44 19 = false) (f2 : za_in W 57 0 = false) (f3 : za_in W 54 0 = false) : zg_C h' := fun p p0 p1 p2 => by
  rw [zv_wi w (zg_in9s e).2.2.2.2.1] at p1
  rw [zv_wa w f3] at p2
  exact (a p p0 p1 p2).w w e f1 f2
theorem zg_mkC {h h2 : zx_H} {W : List (Nat × Nat)} (hI : zb_I zc_H h) (w : zb_W W h h2) (e : zg_in9 W = false) (wk : ∀ q, 0 ≤ q → q < zv_i h 1 → zv_a h2 54 q = 1 → zg_wk h h2 q) (fr : ∀ q, 0 ≤ q → q < zv_i h 1 → zv_a h2 54 q = 1 → zg_FC h2 q → zg_fa h2 q) : zg_C h2 := by
  obtain ⟨e1, e2, e3, e4, e5, e6, e7, e8⟩ := zg_in9s e
  have c1 := zv_ri hI (k := 1) rfl
  intro p p0 p1 p2
  rw [zv_wi w e5] at p1
  have b := wk p p0 p1 p2
  refine ⟨fun i i0 i1 i2 i3 => ?_, fun z1 z2 => ?_, fun z => ?_⟩
  · rw [zv_wi w e1] at i1
    rw [zv_wa w e2] at i2
    rw [zv_wa w e3] at i3
    rw [zv_wa w e4]
    obtain ⟨b1, b2, b3⟩ := b.1 i i0 i1 i2 i3
    exact fr _ b1 b2 b3 (Or.inl ⟨i, i0, by rw [zv_wi w e1]; exact i1, by rw [zv_wa w e4]⟩)
  · have z3 := z1
    have z4 := z2
    rw [zv_wa w e6] at z1 z2
    rw [zv_wa w e7]
    obtain ⟨b1, b2, b3⟩ := b.2.1 z1 z2
    exact fr _ b1 b2 b3 (Or.inr ⟨p, p0, by rw [zv_wi w e5]; exact p1, p2, Or.inl ⟨z3, z4, by rw [zv_wa w e7]⟩⟩)
  · have z3 := z
    rw [zv_wa w e6] at z
    rw [zv_wa w e8]
    obtain ⟨b1, b2, b3⟩ := b.2.2 z
    exact fr _ b1 b2 b3 (Or.inr ⟨p, p0, by rw [zv_wi w e5]; exact p1, p2, Or.inr ⟨z3, by rw [zv_wa w e8]⟩⟩)

theorem zm_localsGo {h : zx_H} (hI : zb_I zc_H h) {f : Int} (f1 : 0 ≤ f) (f2 : f ≤ 59) : zx_T zp_P 1 zp_m182 0 [(0, .ref 44), (1, .int (zI (f)))] [] h (zr_P h (fun e => 0 ≤ e ∧ e ≤ 1)) :=
  zr_kP (k := zc_b5) zc_bo5 rfl rfl (q := zp_m182) rfl (vs := [.ref 44, .int (zI (f))]) hI ⟨rfl, zr_ti f1 f2 rfl, trivial⟩

theorem zm_goes {h : zx_H} (hI : zb_I zc_H h) {f : Int} (f1 : 0 ≤ f) (f2 : f ≤ 59) : zx_T zp_P 2 zp_m183 0 [(0, .ref 44), (1, .int (zI (f)))] [] h (zr_P h (fun e => 0 ≤ e ∧ e ≤ 1)) :=
  zr_kP (k := zc_b6) zc_bo6 rfl rfl (q := zp_m183) rfl (vs := [.ref 44, .int (zI (f))]) hI ⟨rfl, zr_ti f1 f2 rfl, trivial⟩

theorem zm_alike {h : zx_H} (hI : zb_I zc_H h) {n : Int} (n1 : 0 ≤ n) (n2 : n ≤ 8) : zx_T zp_P 0 zp_m192 0 [(0, .ref 44), (1, .int (zI (n)))] [] h (zr_P h (fun e => 0 ≤ e ∧ e ≤ 1)) :=
  zr_kP (k := zc_b8) zc_bo8 rfl rfl (q := zp_m192) rfl (vs := [.ref 44, .int (zI (n))]) hI ⟨rfl, zr_ti n1 n2 rfl, trivial⟩

set_option maxRecDepth 100000 in
set_option maxHeartbeats 4000000 in
theorem zm_frameLocal {h : zx_H} (hI : zb_I zc_H h) {f : Int} {k : Int} (f1 : 0 ≤ f) (f2 : f ≤ 59) (k1 : 0 ≤ k) (k2 : k ≤ 7) : zx_T zp_P 0 zp_m181 0 [(0, .ref 44), (1, .int (zI (f))), (2, .int (zI (k)))] [] h (zr_P h (fun e => 0 ≤ e ∧ e ≤ 8 ∧ ((k < zv_a h 58 f ∧ e = zv_a h 60 (14 * f + k)) ∨ (zv_a h 58 f ≤ k ∧ e = 0)))) := by
  refine zx_T.l (i := .iload_n 2) (k := 1) (v := .int (zI (k))) (pc := 0) rfl rfl rfl ?_
  refine zx_T.l (i := .aload_n 0) (k := 1) (v := .ref 44) (pc := 1) rfl rfl rfl ?_
  refine zr_gr (k := 21) (b := 58) (pc := 2) rfl rfl rfl hI ?_
  refine zx_T.l (i := .iload_n 1) (k := 1) (v := .int (zI (f))) (pc := 5) rfl rfl rfl ?_
  refine zr_al (n := 60) (lo := 0) (hi := 8) (e := zv_a h 58 f) (pc := 6) rfl rfl rfl hI (by omega) (by omega) rfl (fun g1a g1b => ?_)
  refine zr_i2 (x := k) (y := zv_a h 58 f) (t := 24) (pc := 7) rfl rfl (by omega) (by omega) (by omega) (by omega) (fun (c2 : (zv_a h 58 f) ≤ k) => ?_) (fun (c2 : ¬ ((zv_a h 58 f) ≤ k)) => ?_)
  · refine zx_T.s (i := .iconst 0) (k := 1) (st' := [.int (zI (0))]) (pc := 24) rfl rfl ?_
    exact zr_ir (x := 0) (pc := 25) rfl rfl rfl ⟨rfl, _, rfl, by dsimp only; omega⟩
  · refine zx_T.l (i := .aload_n 0) (k := 1) (v := .ref 44) (pc := 10) rfl rfl rfl ?_
    refine zr_gr (k := 23) (b := 60) (pc := 11) rfl rfl rfl hI ?_
    refine zx_T.s (i := .bipush 14) (k := 2) (st' := [.int (zI (14)), .ref 60]) (pc := 14) rfl rfl ?_
    refine zx_T.l (i := .iload_n 1) (k := 1) (v := .int (zI (f))) (pc := 16) rfl rfl rfl ?_
    refine zr_mul (x := 14) (y := f) (e := 14 * f) (pc := 17) rfl (by omega) ?_
    refine zx_T.l (i := .iload_n 2) (k := 1) (v := .int (zI (k))) (pc := 18) rfl rfl rfl ?_
    refine zr_add (x := 14 * f) (y := k) (e := 14 * f + k) (pc := 19) rfl (by omega) ?_
    refine zr_al (n := 840) (lo := 0) (hi := 8) (e := zv_a h 60 (14 * f + k)) (pc := 20) rfl rfl rfl hI (by omega) (by omega) rfl (fun g3a g3b => ?_)
    refine zx_T.j (i := .goto 4) (k := 3) (pc' := 25) (st' := [.int (zI (zv_a h 60 (14 * f + k)))]) (pc := 21) rfl rfl rfl rfl rfl ?_
    exact zr_ir (x := zv_a h 60 (14 * f + k)) (pc := 25) rfl rfl rfl ⟨rfl, _, rfl, by dsimp only; omega⟩

set_option maxRecDepth 100000 in
set_option maxHeartbeats 4000000 in
theorem zm_frameAt_L {h : zx_H} (hI : zb_I zc_H h) {p : Int} (p1 : -2147483648 ≤ p) (p2 : p ≤ 2147483647) (n : Nat) : (∀ {f : Int} (f1 : 0 ≤ f) (f2 : f ≤ zv_i h 19) (nf : ∀ j, 0 ≤ j → j < f → ¬ zv_a h 57 j = p), (60 - f : Int).toNat < n → zx_T zp_P 0 zp_m179 2 [(0, .ref 44), (1, .int (zI (p))), (2, .int (zI (f)))] [] h (zr_P h (fun e => (e = (-1) ∧ ∀ j, 0 ≤ j → j < zv_i h 19 → ¬ zv_a h 57 j = p) ∨ (0 ≤ e ∧ e < zv_i h 19 ∧ zv_a h 57 e = p ∧ ∀ j, 0 ≤ j → j < e → ¬ zv_a h 57 j = p)))) := by
  induction n with
  | zero => exact fun _ _ _ hm => absurd hm (Nat.not_lt_zero _)
  | succ n ih =>
    intro f f1 f2 nf hm
    have hF := zv_ri hI (k := 19) rfl
    refine zx_T.l (i := .iload_n 2) (k := 1) (v := .int (zI (f))) (pc := 2) rfl rfl rfl ?_
    refine zx_T.l (i := .aload_n 0) (k := 1) (v := .ref 44) (pc := 3) rfl rfl rfl ?_
    refine zr_gi (k := 19) (lo := 0) (hi := 60) (e := zv_i h 19) (pc := 4) rfl rfl rfl hI rfl (fun g1a g1b => ?_)
    refine zr_i2 (x := f) (y := zv_i h 19) (t := 28) (pc := 7) rfl rfl (by omega) (by omega) (by omega) (by omega) (fun (c2 : (zv_i h 19) ≤ f) => ?_) (fun (c2 : ¬ ((zv_i h 19) ≤ f)) => ?_)
    · refine zx_T.s (i := .iconst (-1)) (k := 1) (st' := [.int (zI ((-1)))]) (pc := 28) rfl rfl ?_
      exact zr_ir (x := (-1)) (pc := 29) rfl rfl rfl ⟨rfl, _, rfl, by dsimp only; exact Or.inl ⟨rfl, fun j j0 j1 => nf j j0 (by omega)⟩⟩
    · refine zx_T.l (i := .aload_n 0) (k := 1) (v := .ref 44) (pc := 10) rfl rfl rfl ?_
      refine zr_gr (k := 20) (b := 57) (pc := 11) rfl rfl rfl hI ?_
      refine zx_T.l (i := .iload_n 2) (k := 1) (v := .int (zI (f))) (pc := 14) rfl rfl rfl ?_
      refine zr_al (n := 60) (lo := 0) (hi := 59) (e := zv_a h 57 f) (pc := 15) rfl rfl rfl hI (by omega) (by omega) rfl (fun g3a g3b => ?_)
      refine zx_T.l (i := .iload_n 1) (k := 1) (v := .int (zI (p))) (pc := 16) rfl rfl rfl ?_
      refine zr_i2 (x := zv_a h 57 f) (y := p) (t := 22) (pc := 17) rfl rfl (by omega) (by omega) (by omega) (by omega) (fun (c4 : ¬ (zv_a h 57 f) = p) => ?_) (fun (c4 : ¬ (¬ (zv_a h 57 f) = p)) => ?_)
      · refine zr_inc (x := f) (n := 1) (y := f + 1) (ls' := [(2, .int (zI (f + 1))), (0, .ref 44), (1, .int (zI (p)))]) (pc := 22) rfl rfl rfl (by omega) rfl ?_
        refine zx_T.j (i := .goto (-23)) (k := 3) (pc' := 2) (st' := []) (pc := 25) rfl rfl rfl rfl rfl ?_
        refine zx_T.lk (ls' := [(0, .ref 44), (1, .int (zI (p))), (2, .int (zI (f + 1)))]) rfl ⟨rfl, rfl, rfl, trivial⟩ ?_
        exact ih (f := f + 1) (by omega) (by omega) (fun j j0 j1 => by first | omega | (rcases (show j = f ∨ j < f by omega) with e9 | e9; (subst e9; omega); exact nf j j0 e9)) (by omega)
      · refine zx_T.l (i := .iload_n 2) (k := 1) (v := .int (zI (f))) (pc := 20) rfl rfl rfl ?_
        exact zr_ir (x := f) (pc := 21) rfl rfl rfl ⟨rfl, _, rfl, by dsimp only; exact Or.inr ⟨by omega, by omega, by omega, nf⟩⟩
set_option maxRecDepth 100000 in
set_option maxHeartbeats 4000000 in
theorem zm_frameAt {h : zx_H} (hI : zb_I zc_H h) {p : Int} (p1 : -2147483648 ≤ p) (p2 : p ≤ 2147483647) : zx_T zp_P 0 zp_m179 0 [(0, .ref 44), (1, .int (zI (p)))] [] h (zr_P h (fun e => (e = (-1) ∧ ∀ j, 0 ≤ j → j < zv_i h 19 → ¬ zv_a h 57 j = p) ∨ (0 ≤ e ∧ e < zv_i h 19 ∧ zv_a h 57 e = p ∧ ∀ j, 0 ≤ j → j < e → ¬ zv_a h 57 j = p))) := by
  have hF := zv_ri hI (k := 19) rfl
  refine zx_T.s (i := .iconst 0) (k := 1) (st' := [.int (zI (0))]) (pc := 0) rfl rfl ?_
  refine zx_T.t (i := .istore_n 2) (k := 1) (ls' := [(2, .int (zI (0))), (0, .ref 44), (1, .int (zI (p)))]) (st' := []) (pc := 1) rfl rfl rfl rfl ?_
  refine zx_T.lk (ls' := [(0, .ref 44), (1, .int (zI (p))), (2, .int (zI (0)))]) rfl ⟨rfl, rfl, rfl, trivial⟩ ?_
  exact zm_frameAt_L (h := h) hI (p := p) p1 p2 ((60 - 0 : Int).toNat + 1) (f := 0) (by omega) (by omega) (fun j j0 j1 => by first | omega | (rcases (show j = f ∨ j < f by omega) with e9 | e9; (subst e9; omega); exact nf j j0 e9)) (Nat.lt_succ_self _)

set_option maxRecDepth 100000 in
set_option maxHeartbeats 4000000 in
theorem zm_areWhole_L {h : zx_H} (hI : zb_I zc_H h) {f : Int} {m : Int} (f1 : 0 ≤ f) (m1 : 0 ≤ m) (fm : f + m ≤ 840) (n : Nat) : (∀ {k : Int} (k1 : f ≤ k) (k2 : k ≤ f + m) (nf : f < k → ¬ zv_a h 60 f = 3), (f + m - k : Int).toNat < n → zx_T zp_P 0 zp_m180 2 [(0, .ref 60), (1, .int (zI (f))), (2, .int (zI (m))), (3, .int (zI (k)))] [] h (zr_P h (fun e => 0 ≤ e ∧ e ≤ 1 ∧ (e = 1 → 1 ≤ m → ¬ zv_a h 60 f = 3)))) := by
  induction n with
  | zero => exact fun _ _ _ hm => absurd hm (Nat.not_lt_zero _)
  | succ n ih =>
    intro k k1 k2 nf hm
    refine zx_T.l (i := .iload_n 3) (k := 1) (v := .int (zI (k))) (pc := 2) rfl rfl rfl ?_
    refine zx_T.l (i := .iload_n 1) (k := 1) (v := .int (zI (f))) (pc := 3) rfl rfl rfl ?_
    refine zx_T.l (i := .iload_n 2) (k := 1) (v := .int (zI (m))) (pc := 4) rfl rfl rfl ?_
    refine zr_add (x := f) (y := m) (e := f + m) (pc := 5) rfl (by omega) ?_
    refine zr_i2 (x := k) (y := f + m) (t := 63) (pc := 6) rfl rfl (by omega) (by omega) (by omega) (by omega) (fun (c1 : (f + m) ≤ k) => ?_) (fun (c1 : ¬ ((f + m) ≤ k)) => ?_)
    · refine zx_T.s (i := .iconst 1) (k := 1) (st' := [.int (zI (1))]) (pc := 63) rfl rfl ?_
      exact zr_ir (x := 1) (pc := 64) rfl rfl (zr_nb (by omega) (by omega)) ⟨rfl, _, rfl, by dsimp only; exact ⟨by omega, by omega, fun z z2 => by first | omega | exact nf (by omega)⟩⟩
    · refine zx_T.l (i := .aload_n 0) (k := 1) (v := .ref 60) (pc := 9) rfl rfl rfl ?_
      refine zx_T.l (i := .iload_n 3) (k := 1) (v := .int (zI (k))) (pc := 10) rfl rfl rfl ?_
      refine zr_al (n := 840) (lo := 0) (hi := 8) (e := zv_a h 60 k) (pc := 11) rfl rfl rfl hI (by omega) (by omega) rfl (fun g2a g2b => ?_)
      refine zx_T.s (i := .iconst 2) (k := 1) (st' := [.int (zI (2)), .int (zI (zv_a h 60 k))]) (pc := 12) rfl rfl ?_
      refine zr_i2 (x := zv_a h 60 k) (y := 2) (t := 34) (pc := 13) rfl rfl (by omega) (by omega) (by omega) (by omega) (fun (c3 : ¬ (zv_a h 60 k) = 2) => ?_) (fun (c3 : ¬ (¬ (zv_a h 60 k) = 2)) => ?_)
      · refine zx_T.l (i := .aload_n 0) (k := 1) (v := .ref 60) (pc := 34) rfl rfl rfl ?_
        refine zx_T.l (i := .iload_n 3) (k := 1) (v := .int (zI (k))) (pc := 35) rfl rfl rfl ?_
        refine zr_al (n := 840) (lo := 0) (hi := 8) (e := zv_a h 60 k) (pc := 36) rfl rfl rfl hI (by omega) (by omega) rfl (fun g4a g4b => ?_)
        refine zx_T.s (i := .iconst 3) (k := 1) (st' := [.int (zI (3)), .int (zI (zv_a h 60 k))]) (pc := 37) rfl rfl ?_
        refine zr_i2 (x := zv_a h 60 k) (y := 3) (t := 57) (pc := 38) rfl rfl (by omega) (by omega) (by omega) (by omega) (fun (c5 : ¬ (zv_a h 60 k) = 3) => ?_) (fun (c5 : ¬ (¬ (zv_a h 60 k) = 3)) => ?_)
        · refine zr_inc (x := k) (n := 1) (y := k + 1) (ls' := [(3, .int (zI (k + 1))), (0, .ref 60), (1, .int (zI (f))), (2, .int (zI (m)))]) (pc := 57) rfl rfl rfl (by omega) rfl ?_
          refine zx_T.j (i := .goto (-58)) (k := 3) (pc' := 2) (st' := []) (pc := 60) rfl rfl rfl rfl rfl ?_
          refine zx_T.lk (ls' := [(0, .ref 60), (1, .int (zI (f))), (2, .int (zI (m))), (3, .int (zI (k + 1)))]) rfl ⟨rfl, rfl, rfl, rfl, trivial⟩ ?_
          exact ih (k := k + 1) (by omega) (by omega) (fun z => by first | omega | exact nf (by omega) | (have e9 : k = f := (by omega); subst e9; omega) | (rcases (show f < k ∨ k = f by omega) with z9 | z9; exact nf z9; subst z9; omega)) (by omega)
        · refine zx_T.l (i := .iload_n 3) (k := 1) (v := .int (zI (k))) (pc := 41) rfl rfl rfl ?_
          refine zx_T.l (i := .iload_n 1) (k := 1) (v := .int (zI (f))) (pc := 42) rfl rfl rfl ?_
          refine zr_i2 (x := k) (y := f) (t := 55) (pc := 43) rfl rfl (by omega) (by omega) (by omega) (by omega) (fun (c6 : k = f) => ?_) (fun (c6 : ¬ (k = f)) => ?_)
          · refine zx_T.s (i := .iconst 0) (k := 1) (st' := [.int (zI (0))]) (pc := 55) rfl rfl ?_
            exact zr_ir (x := 0) (pc := 56) rfl rfl (zr_nb (by omega) (by omega)) ⟨rfl, _, rfl, by dsimp only; exact ⟨by omega, by omega, fun z z2 => by first | omega | exact nf (by omega)⟩⟩
          · refine zx_T.l (i := .aload_n 0) (k := 1) (v := .ref 60) (pc := 46) rfl rfl rfl ?_
            refine zx_T.l (i := .iload_n 3) (k := 1) (v := .int (zI (k))) (pc := 47) rfl rfl rfl ?_
            refine zx_T.s (i := .iconst 1) (k := 1) (st' := [.int (zI (1)), .int (zI (k)), .ref 60]) (pc := 48) rfl rfl ?_
            refine zr_sub (x := k) (y := 1) (e := k - 1) (pc := 49) rfl (by omega) ?_
            refine zr_al (n := 840) (lo := 0) (hi := 8) (e := zv_a h 60 (k - 1)) (pc := 50) rfl rfl rfl hI (by omega) (by omega) rfl (fun g7a g7b => ?_)
            refine zx_T.s (i := .iconst 2) (k := 1) (st' := [.int (zI (2)), .int (zI (zv_a h 60 (k - 1)))]) (pc := 51) rfl rfl ?_
            refine zr_i2 (x := zv_a h 60 (k - 1)) (y := 2) (t := 57) (pc := 52) rfl rfl (by omega) (by omega) (by omega) (by omega) (fun (c8 : (zv_a h 60 (k - 1)) = 2) => ?_) (fun (c8 : ¬ ((zv_a h 60 (k - 1)) = 2)) => ?_)
            · refine zr_inc (x := k) (n := 1) (y := k + 1) (ls' := [(3, .int (zI (k + 1))), (0, .ref 60), (1, .int (zI (f))), (2, .int (zI (m)))]) (pc := 57) rfl rfl rfl (by omega) rfl ?_
              refine zx_T.j (i := .goto (-58)) (k := 3) (pc' := 2) (st' := []) (pc := 60) rfl rfl rfl rfl rfl ?_
              refine zx_T.lk (ls' := [(0, .ref 60), (1, .int (zI (f))), (2, .int (zI (m))), (3, .int (zI (k + 1)))]) rfl ⟨rfl, rfl, rfl, rfl, trivial⟩ ?_
              exact ih (k := k + 1) (by omega) (by omega) (fun z => by first | omega | exact nf (by omega) | (have e9 : k = f := (by omega); subst e9; omega) | (rcases (show f < k ∨ k = f by omega) with z9 | z9; exact nf z9; subst z9; omega)) (by omega)
            · refine zx_T.s (i := .iconst 0) (k := 1) (st' := [.int (zI (0))]) (pc := 55) rfl rfl ?_
              exact zr_ir (x := 0) (pc := 56) rfl rfl (zr_nb (by omega) (by omega)) ⟨rfl, _, rfl, by dsimp only; exact ⟨by omega, by omega, fun z z2 => by first | omega | exact nf (by omega)⟩⟩
      · refine zx_T.l (i := .iload_n 3) (k := 1) (v := .int (zI (k))) (pc := 16) rfl rfl rfl ?_
        refine zx_T.s (i := .iconst 1) (k := 1) (st' := [.int (zI (1)), .int (zI (k))]) (pc := 17) rfl rfl ?_
        refine zr_add (x := k) (y := 1) (e := k + 1) (pc := 18) rfl (by omega) ?_
        refine zx_T.l (i := .iload_n 1) (k := 1) (v := .int (zI (f))) (pc := 19) rfl rfl rfl ?_
        refine zx_T.l (i := .iload_n 2) (k := 1) (v := .int (zI (m))) (pc := 20) rfl rfl rfl ?_
        refine zr_add (x := f) (y := m) (e := f + m) (pc := 21) rfl (by omega) ?_
        refine zr_i2 (x := k + 1) (y := f + m) (t := 55) (pc := 22) rfl rfl (by omega) (by omega) (by omega) (by omega) (fun (c9 : (k + 1) = (f + m)) => ?_) (fun (c9 : ¬ ((k + 1) = (f + m))) => ?_)
        · refine zx_T.s (i := .iconst 0) (k := 1) (st' := [.int (zI (0))]) (pc := 55) rfl rfl ?_
          exact zr_ir (x := 0) (pc := 56) rfl rfl (zr_nb (by omega) (by omega)) ⟨rfl, _, rfl, by dsimp only; exact ⟨by omega, by omega, fun z z2 => by first | omega | exact nf (by omega)⟩⟩
        · refine zx_T.l (i := .aload_n 0) (k := 1) (v := .ref 60) (pc := 25) rfl rfl rfl ?_
          refine zx_T.l (i := .iload_n 3) (k := 1) (v := .int (zI (k))) (pc := 26) rfl rfl rfl ?_
          refine zx_T.s (i := .iconst 1) (k := 1) (st' := [.int (zI (1)), .int (zI (k)), .ref 60]) (pc := 27) rfl rfl ?_
          refine zr_add (x := k) (y := 1) (e := k + 1) (pc := 28) rfl (by omega) ?_
          refine zr_al (n := 840) (lo := 0) (hi := 8) (e := zv_a h 60 (k + 1)) (pc := 29) rfl rfl rfl hI (by omega) (by omega) rfl (fun g10a g10b => ?_)
          refine zx_T.s (i := .iconst 3) (k := 1) (st' := [.int (zI (3)), .int (zI (zv_a h 60 (k + 1)))]) (pc := 30) rfl rfl ?_
          refine zr_i2 (x := zv_a h 60 (k + 1)) (y := 3) (t := 55) (pc := 31) rfl rfl (by omega) (by omega) (by omega) (by omega) (fun (c11 : ¬ (zv_a h 60 (k + 1)) = 3) => ?_) (fun (c11 : ¬ (¬ (zv_a h 60 (k + 1)) = 3)) => ?_)
          · refine zx_T.s (i := .iconst 0) (k := 1) (st' := [.int (zI (0))]) (pc := 55) rfl rfl ?_
            exact zr_ir (x := 0) (pc := 56) rfl rfl (zr_nb (by omega) (by omega)) ⟨rfl, _, rfl, by dsimp only; exact ⟨by omega, by omega, fun z z2 => by first | omega | exact nf (by omega)⟩⟩
          · refine zx_T.l (i := .aload_n 0) (k := 1) (v := .ref 60) (pc := 34) rfl rfl rfl ?_
            refine zx_T.l (i := .iload_n 3) (k := 1) (v := .int (zI (k))) (pc := 35) rfl rfl rfl ?_
            refine zr_al (n := 840) (lo := 0) (hi := 8) (e := zv_a h 60 k) (pc := 36) rfl rfl rfl hI (by omega) (by omega) rfl (fun g12a g12b => ?_)
            refine zx_T.s (i := .iconst 3) (k := 1) (st' := [.int (zI (3)), .int (zI (zv_a h 60 k))]) (pc := 37) rfl rfl ?_
            refine zr_i2 (x := zv_a h 60 k) (y := 3) (t := 57) (pc := 38) rfl rfl (by omega) (by omega) (by omega) (by omega) (fun (c13 : ¬ (zv_a h 60 k) = 3) => ?_) (fun (c13 : ¬ (¬ (zv_a h 60 k) = 3)) => False.elim (by omega))
            refine zr_inc (x := k) (n := 1) (y := k + 1) (ls' := [(3, .int (zI (k + 1))), (0, .ref 60), (1, .int (zI (f))), (2, .int (zI (m)))]) (pc := 57) rfl rfl rfl (by omega) rfl ?_
            refine zx_T.j (i := .goto (-58)) (k := 3) (pc' := 2) (st' := []) (pc := 60) rfl rfl rfl rfl rfl ?_
            refine zx_T.lk (ls' := [(0, .ref 60), (1, .int (zI (f))), (2, .int (zI (m))), (3, .int (zI (k + 1)))]) rfl ⟨rfl, rfl, rfl, rfl, trivial⟩ ?_
            exact ih (k := k + 1) (by omega) (by omega) (fun z => by first | omega | exact nf (by omega) | (have e9 : k = f := (by omega); subst e9; omega) | (rcases (show f < k ∨ k = f by omega) with z9 | z9; exact nf z9; subst z9; omega)) (by omega)
set_option maxRecDepth 100000 in
set_option maxHeartbeats 4000000 in
theorem zm_areWhole {h : zx_H} (hI : zb_I zc_H h) {f : Int} {m : Int} (f1 : 0 ≤ f) (m1 : 0 ≤ m) (fm : f + m ≤ 840) : zx_T zp_P 0 zp_m180 0 [(0, .ref 60), (1, .int (zI (f))), (2, .int (zI (m)))] [] h (zr_P h (fun e => 0 ≤ e ∧ e ≤ 1 ∧ (e = 1 → 1 ≤ m → ¬ zv_a h 60 f = 3))) := by
  refine zx_T.l (i := .iload_n 1) (k := 1) (v := .int (zI (f))) (pc := 0) rfl rfl rfl ?_
  refine zx_T.t (i := .istore_n 3) (k := 1) (ls' := [(3, .int (zI (f))), (0, .ref 60), (1, .int (zI (f))), (2, .int (zI (m)))]) (st' := []) (pc := 1) rfl rfl rfl rfl ?_
  refine zx_T.lk (ls' := [(0, .ref 60), (1, .int (zI (f))), (2, .int (zI (m))), (3, .int (zI (f)))]) rfl ⟨rfl, rfl, rfl, rfl, trivial⟩ ?_
  exact zm_areWhole_L (h := h) hI (f := f) (m := m) f1 m1 fm ((f + m - f : Int).toNat + 1) (k := f) (by omega) (by omega) (fun z => by first | omega | exact nf (by omega) | (have e9 : k = f := (by omega); subst e9; omega) | (rcases (show f < k ∨ k = f by omega) with z9 | z9; exact nf z9; subst z9; omega)) (Nat.lt_succ_self _)

set_option maxRecDepth 100000 in
set_option maxHeartbeats 4000000 in
theorem zm_take_L {h : zx_H} (hI : zb_I zc_H h) {f : Int} (f1 : 0 ≤ f) (f2 : f ≤ 59) (n : Nat) : (∀ {h2 : zx_H} {k : Int} (hI2 : zb_I zc_H h2) (k1 : 0 ≤ k) (k2 : k ≤ 8) (hw : zb_W [(61, 0)] h h2) (n8 : zv_a h2 61 8 = zv_a h 61 8), (100 - k : Int).toNat < n → zx_T zp_P 1 zp_m184 2 [(0, .ref 44), (1, .int (zI (f))), (2, .int (zI (k)))] [] h2 (zr_V [(44, 25), (61, 0)] h (fun h' => zv_i h' 25 = zv_a h 59 f ∧ ((zv_a h 59 f = 0 ∧ zv_a h' 61 8 = zv_a h 61 8) ∨ (1 ≤ zv_a h 59 f ∧ zv_a h' 61 8 = zv_a h 60 (14 * f + zv_a h 58 f)))))) ∧ (∀ {h2 : zx_H} {k : Int} (hI2 : zb_I zc_H h2) (k1 : 0 ≤ k) (k2 : k ≤ zv_a h 59 f) (hw : zb_W [(44, 25), (61, 0)] h h2) (hs : zv_i h2 25 = zv_a h 59 f) (nn : (k = 0 ∧ zv_a h2 61 8 = zv_a h 61 8) ∨ (1 ≤ k ∧ zv_a h2 61 8 = zv_a h 60 (14 * f + zv_a h 58 f))), (10 - k : Int).toNat < n → zx_T zp_P 1 zp_m184 38 [(0, .ref 44), (1, .int (zI (f))), (2, .int (zI (k)))] [] h2 (zr_V [(44, 25), (61, 0)] h (fun h' => zv_i h' 25 = zv_a h 59 f ∧ ((zv_a h 59 f = 0 ∧ zv_a h' 61 8 = zv_a h 61 8) ∨ (1 ≤ zv_a h 59 f ∧ zv_a h' 61 8 = zv_a h 60 (14 * f + zv_a h 58 f)))))) := by
  induction n with
  | zero => exact ⟨fun _ _ _ _ _ hm => absurd hm (Nat.not_lt_zero _), fun _ _ _ _ _ _ hm => absurd hm (Nat.not_lt_zero _)⟩
  | succ n ih =>
    refine ⟨?_, ?_⟩
    · intro h2 k hI2 k1 k2 hw n8 hm
      have hS := zv_ra hI (a := 59) rfl rfl f
      refine zx_T.l (i := .iload_n 2) (k := 1) (v := .int (zI (k))) (pc := 2) rfl rfl rfl ?_
      refine zx_T.s (i := .bipush 8) (k := 2) (st' := [.int (zI (8)), .int (zI (k))]) (pc := 3) rfl rfl ?_
      refine zr_i2 (x := k) (y := 8) (t := 26) (pc := 5) rfl rfl (by omega) (by omega) (by omega) (by omega) (fun (c1 : 8 ≤ k) => ?_) (fun (c1 : ¬ (8 ≤ k)) => ?_)
      · refine zx_T.l (i := .aload_n 0) (k := 1) (v := .ref 44) (pc := 26) rfl rfl rfl ?_
        refine zx_T.l (i := .aload_n 0) (k := 1) (v := .ref 44) (pc := 27) rfl rfl rfl ?_
        refine zr_gr (k := 22) (b := 59) (pc := 28) rfl rfl rfl hI2 ?_
        refine zx_T.l (i := .iload_n 1) (k := 1) (v := .int (zI (f))) (pc := 31) rfl rfl rfl ?_
        refine zr_al (n := 60) (lo := 0) (hi := 6) (e := zv_a h 59 f) (pc := 32) rfl rfl rfl hI2 (by omega) (by omega) (zv_wa hw rfl f) (fun g2a g2b => ?_)
        refine zr_pi (k := 25) (lo := 0) (hi := 6) (e := zv_a h 59 f) (pc := 33) rfl rfl rfl rfl rfl rfl hI2 (by omega) (by omega) (fun h3 ih3 w4 e5 => ?_)
        refine zx_T.s (i := .iconst 0) (k := 1) (st' := [.int (zI (0))]) (pc := 36) rfl rfl ?_
        refine zx_T.t (i := .istore_n 2) (k := 1) (ls' := [(2, .int (zI (0))), (0, .ref 44), (1, .int (zI (f)))]) (st' := []) (pc := 37) rfl rfl rfl rfl ?_
        have a61 : ∀ j, 0 ≤ j → zv_a h3 61 j = zv_a h2 61 j := fun j hj => by rw [zv_wa w4 rfl j]
        have y7 : zv_i h3 25 = zv_a h 59 f := e5
        refine zx_T.lk (ls' := [(0, .ref 44), (1, .int (zI (f))), (2, .int (zI (0)))]) rfl ⟨rfl, rfl, rfl, trivial⟩ ?_
        exact ih.2 (h2 := h3) (k := 0) ih3 (by omega) (by omega) ((hw.wd rfl : zb_W [(44, 25), (61, 0)] h _).tr (w4.wd rfl)) (by omega) (by have b9 := a61 8 (by omega); first | omega | (split at b9 <;> first | omega | (next e9 => have e8 : k = 0 := (by omega); subst e8; rw [Int.add_zero] at b9; omega))) (by omega)
      · refine zx_T.l (i := .aload_n 0) (k := 1) (v := .ref 44) (pc := 8) rfl rfl rfl ?_
        refine zr_gr (k := 24) (b := 61) (pc := 9) rfl rfl rfl hI2 ?_
        refine zx_T.l (i := .iload_n 2) (k := 1) (v := .int (zI (k))) (pc := 12) rfl rfl rfl ?_
        refine zx_T.l (i := .aload_n 0) (k := 1) (v := .ref 44) (pc := 13) rfl rfl rfl ?_
        refine zx_T.l (i := .iload_n 1) (k := 1) (v := .int (zI (f))) (pc := 14) rfl rfl rfl ?_
        refine zx_T.l (i := .iload_n 2) (k := 1) (v := .int (zI (k))) (pc := 15) rfl rfl rfl ?_
        refine zr_iv (cj := 181) (q' := zp_m181) (As := [.int (zI (f)), .int (zI (k))]) (rest := [.int (zI (k)), .ref 61]) (pc := 16) rfl rfl rfl rfl rfl rfl (Nat.le_of_ble_eq_true rfl) rfl (Nat.le_of_ble_eq_true rfl) hI2 ((zm_frameLocal (h := h2) hI2 (f := f) (k := k) (by omega) (by omega) (by omega) (by omega)).up (Nat.le_of_ble_eq_true rfl)) ?_
        rintro r8 h11 ⟨h11q, v9, r8q, x10⟩
        subst h11q r8q
        try dsimp only at x10
        show zx_T zp_P 1 zp_m184 19 [(0, .ref 44), (1, .int (zI (f))), (2, .int (zI (k)))] [.int (zI (v9)), .int (zI (k)), .ref 61] h2 _
        refine zr_as (n := 14) (lo := 0) (hi := 8) (e := v9) (pc := 19) rfl rfl rfl rfl hI2 (by omega) (by omega) (by omega) (by omega) (fun h12 ih12 w13 s14 => ?_)
        refine zr_inc (x := k) (n := 1) (y := k + 1) (ls' := [(2, .int (zI (k + 1))), (0, .ref 44), (1, .int (zI (f)))]) (pc := 20) rfl rfl rfl (by omega) rfl ?_
        refine zx_T.j (i := .goto (-21)) (k := 3) (pc' := 2) (st' := []) (pc := 23) rfl rfl rfl rfl rfl ?_
        have a61 : ∀ j, 0 ≤ j → zv_a h12 61 j = if j = k then v9 else zv_a h2 61 j := fun j hj => by rw [s14 j hj]
        refine zx_T.lk (ls' := [(0, .ref 44), (1, .int (zI (f))), (2, .int (zI (k + 1)))]) rfl ⟨rfl, rfl, rfl, trivial⟩ ?_
        exact ih.1 (h2 := h12) (k := k + 1) ih12 (by omega) (by omega) ((hw.wd rfl : zb_W [(61, 0)] h _).tr (w13.wd rfl)) (by first | omega | (have b9 := a61 8 (by omega); first | omega | (split at b9 <;> omega))) (by omega)
    · intro h2 k hI2 k1 k2 hw hs nn hm
      have hS := zv_ra hI (a := 59) rfl rfl f
      refine zx_T.l (i := .iload_n 2) (k := 1) (v := .int (zI (k))) (pc := 38) rfl rfl rfl ?_
      refine zx_T.l (i := .aload_n 0) (k := 1) (v := .ref 44) (pc := 39) rfl rfl rfl ?_
      refine zr_gi (k := 25) (lo := 0) (hi := 6) (e := zv_i h2 25) (pc := 40) rfl rfl rfl hI2 rfl (fun g16a g16b => ?_)
      refine zr_i2 (x := k) (y := zv_i h2 25) (t := 79) (pc := 43) rfl rfl (by omega) (by omega) (by omega) (by omega) (fun (c17 : (zv_i h2 25) ≤ k) => ?_) (fun (c17 : ¬ ((zv_i h2 25) ≤ k)) => ?_)
      · exact zr_vr (pc := 79) rfl rfl ⟨hI2, (hw.wd rfl : zb_W [(44, 25), (61, 0)] h _), rfl, by dsimp only; exact ⟨by omega, by omega⟩⟩
      · refine zx_T.l (i := .aload_n 0) (k := 1) (v := .ref 44) (pc := 46) rfl rfl rfl ?_
        refine zr_gr (k := 24) (b := 61) (pc := 47) rfl rfl rfl hI2 ?_
        refine zx_T.s (i := .bipush 8) (k := 2) (st' := [.int (zI (8)), .ref 61]) (pc := 50) rfl rfl ?_
        refine zx_T.l (i := .iload_n 2) (k := 1) (v := .int (zI (k))) (pc := 52) rfl rfl rfl ?_
        refine zr_add (x := 8) (y := k) (e := k + 8) (pc := 53) rfl (by omega) ?_
        refine zx_T.l (i := .aload_n 0) (k := 1) (v := .ref 44) (pc := 54) rfl rfl rfl ?_
        refine zr_gr (k := 23) (b := 60) (pc := 55) rfl rfl rfl hI2 ?_
        refine zx_T.s (i := .bipush 14) (k := 2) (st' := [.int (zI (14)), .ref 60, .int (zI (k + 8)), .ref 61]) (pc := 58) rfl rfl ?_
        refine zx_T.l (i := .iload_n 1) (k := 1) (v := .int (zI (f))) (pc := 60) rfl rfl rfl ?_
        refine zr_mul (x := 14) (y := f) (e := 14 * f) (pc := 61) rfl (by omega) ?_
        refine zx_T.l (i := .aload_n 0) (k := 1) (v := .ref 44) (pc := 62) rfl rfl rfl ?_
        refine zr_gr (k := 21) (b := 58) (pc := 63) rfl rfl rfl hI2 ?_
        refine zx_T.l (i := .iload_n 1) (k := 1) (v := .int (zI (f))) (pc := 66) rfl rfl rfl ?_
        refine zr_al (n := 60) (lo := 0) (hi := 8) (e := zv_a h 58 f) (pc := 67) rfl rfl rfl hI2 (by omega) (by omega) (zv_wa hw rfl f) (fun g19a g19b => ?_)
        refine zr_add (x := 14 * f) (y := zv_a h 58 f) (e := 14 * f + zv_a h 58 f) (pc := 68) rfl (by omega) ?_
        refine zx_T.l (i := .iload_n 2) (k := 1) (v := .int (zI (k))) (pc := 69) rfl rfl rfl ?_
        refine zr_add (x := 14 * f + zv_a h 58 f) (y := k) (e := 14 * f + k + zv_a h 58 f) (pc := 70) rfl (by omega) ?_
        refine zr_al (n := 840) (lo := 0) (hi := 8) (e := zv_a h 60 (14 * f + k + zv_a h 58 f)) (pc := 71) rfl rfl rfl hI2 (by omega) (by omega) (zv_wa hw rfl (14 * f + k + zv_a h 58 f)) (fun g20a g20b => ?_)
        refine zr_as (n := 14) (lo := 0) (hi := 8) (e := zv_a h 60 (14 * f + k + zv_a h 58 f)) (pc := 72) rfl rfl rfl rfl hI2 (by omega) (by omega) (by omega) (by omega) (fun h21 ih21 w22 s23 => ?_)
        refine zr_inc (x := k) (n := 1) (y := k + 1) (ls' := [(2, .int (zI (k + 1))), (0, .ref 44), (1, .int (zI (f)))]) (pc := 73) rfl rfl rfl (by omega) rfl ?_
        refine zx_T.j (i := .goto (-38)) (k := 3) (pc' := 38) (st' := []) (pc := 76) rfl rfl rfl rfl rfl ?_
        have a61 : ∀ j, 0 ≤ j → zv_a h21 61 j = if j = k + 8 then zv_a h 60 (14 * f + k + zv_a h 58 f) else zv_a h2 61 j := fun j hj => by rw [s23 j hj]
        have y25 : zv_i h21 25 = zv_i h2 25 := (zv_wi w22 rfl)
        refine zx_T.lk (ls' := [(0, .ref 44), (1, .int (zI (f))), (2, .int (zI (k + 1)))]) rfl ⟨rfl, rfl, rfl, trivial⟩ ?_
        exact ih.2 (h2 := h21) (k := k + 1) ih21 (by omega) (by omega) ((hw.wd rfl : zb_W [(44, 25), (61, 0)] h _).tr (w22.wd rfl)) (by omega) (by have b9 := a61 8 (by omega); first | omega | (split at b9 <;> first | omega | (next e9 => have e8 : k = 0 := (by omega); subst e8; rw [Int.add_zero] at b9; omega))) (by omega)
set_option maxRecDepth 100000 in
set_option maxHeartbeats 4000000 in
theorem zm_take {h : zx_H} (hI : zb_I zc_H h) {f : Int} (f1 : 0 ≤ f) (f2 : f ≤ 59) : zx_T zp_P 1 zp_m184 0 [(0, .ref 44), (1, .int (zI (f)))] [] h (zr_V [(44, 25), (61, 0)] h (fun h' => zv_i h' 25 = zv_a h 59 f ∧ ((zv_a h 59 f = 0 ∧ zv_a h' 61 8 = zv_a h 61 8) ∨ (1 ≤ zv_a h 59 f ∧ zv_a h' 61 8 = zv_a h 60 (14 * f + zv_a h 58 f))))) := by
  have hS := zv_ra hI (a := 59) rfl rfl f
  refine zx_T.s (i := .iconst 0) (k := 1) (st' := [.int (zI (0))]) (pc := 0) rfl rfl ?_
  refine zx_T.t (i := .istore_n 2) (k := 1) (ls' := [(2, .int (zI (0))), (0, .ref 44), (1, .int (zI (f)))]) (st' := []) (pc := 1) rfl rfl rfl rfl ?_
  refine zx_T.lk (ls' := [(0, .ref 44), (1, .int (zI (f))), (2, .int (zI (0)))]) rfl ⟨rfl, rfl, rfl, trivial⟩ ?_
  exact (zm_take_L (h := h) hI (f := f) f1 f2 ((100 - 0 : Int).toNat + 1)).1 (h2 := h) (k := 0) hI (by omega) (by omega) zb_W.rf (by first | omega | (have b9 := a61 8 (by omega); first | omega | (split at b9 <;> omega))) (Nat.lt_succ_self _)
