/-! ===== 97zx: the reference, method by method (by program) ===== -/
def zf_of (h : zx_H) (p : Int) : zK := ((zv_i h 25, zv_a h 61, zv_b h 69), (zv_i h 38, zv_a h 71, zv_a h 72), (p, zv_i h 42, zv_i h 43, zv_i h 14, zv_i h 49, zv_i h 41))
theorem zf_rf_cg {o a t : Int} {K K' V L : Int → Int} {r : Int} (e0 : K t = K' t) (e1 : K (t - 1) = K' (t - 1)) (e2 : K (t - 2) = K' (t - 2)) (x : zf_rf o a t K V L r) : zf_rf o a t K' V L r := by
  unfold zf_rf at x ⊢
  rw [e0, e1, e2] at x
  exact x
theorem zf_wk_cg {o a b t n : Int} {K K' V L C : Int → Int} {n' : Int} {V' L' C' : Int → Int} (e0 : K t = K' t) (x : zf_wk o a b t n K V L C n' V' L' C') : zf_wk o a b t n K' V L C n' V' L' C' := by
  unfold zf_wk at x ⊢
  rw [e0] at x
  exact x
/-- from a step's beginning to where it acts: kinds are worked, all else stands -/
def zf_bh (h h3 : zx_H) (p t : Int) : Prop := (t = zv_i h 25 + 7 ∧ 0 ≤ zv_i h 25 ∧ zv_i h 25 ≤ 6) ∧ (∀ j, 0 ≤ j → j < 14 → zv_a h3 70 j = zv_a h 61 j) ∧ zt_eq (0, zv_i h3 25, zv_a h3 61) (zs_ap (zv_a h 45 p) (zv_a h 46 p) (0, zv_i h 25, zv_a h 61)) ∧ zv_i h3 50 = -1 ∧ zv_i h3 42 = 0 ∧ zb_W [(70, 0), (44, 26), (44, 25), (61, 0), (44, 50)] h h3

theorem zf_bh.k {h h3 : zx_H} {p t : Int} (b : zf_bh h h3 p t) : zv_a h3 70 t = zv_a h 61 t ∧ zv_a h3 70 (t - 1) = zv_a h 61 (t - 1) ∧ zv_a h3 70 (t - 2) = zv_a h 61 (t - 2) := by
  obtain ⟨⟨b1, b2, b3⟩, b4, _⟩ := b
  exact ⟨b4 t (by omega) (by omega), b4 _ (by omega) (by omega), b4 _ (by omega) (by omega)⟩
theorem zf_bh.g {h h3 h' : zx_H} {p t q : Int} (b : zf_bh h h3 p t) (a : zf_gth h3 h' p q) : zf_gt (zr_Pg h) (zf_of h p) (zf_of h' (zv_i h' 50)) q := by
  obtain ⟨_, _, _, _, _, w⟩ := b
  unfold zf_gth at a
  rw [zv_wi w (k := 1) rfl, zv_wi w (k := 14) rfl, zv_wi w (k := 42) rfl, zv_wi w (k := 43) rfl] at a
  exact a
theorem zf_bh.ra {h h3 h' : zx_H} {p t k w1 c : Int} (b : zf_bh h h3 p t) (a : zf_rah h3 h' p k w1 c) : zf_ra (zr_Pg h) (zf_of h p) (zf_of h' (zv_i h' 50)) k w1 c := by
  obtain ⟨i, t1, a⟩ := a
  have b9 := b
  obtain ⟨_, _, bz, _, _, w⟩ := b
  rw [zv_wi w (k := 5) rfl, show zv_a h3 48 = zv_a h 48 from funext (fun q => zv_wa w rfl q), show zv_a h3 49 = zv_a h 49 from funext (fun q => zv_wa w rfl q), show zv_a h3 51 = zv_a h 51 from funext (fun q => zv_wa w rfl q)] at t1
  refine ⟨i, t1, ?_⟩
  rcases a with ⟨a1, a2, a3, a4, a5⟩ | ⟨a1, a2, a3, a4, a5, a6, a7⟩
  · exact Or.inl ⟨a1, a2, a3, a4, a5.trans (zv_wi w rfl)⟩
  · rw [zv_wa w (a := 50) rfl] at a7
    exact Or.inr ⟨a1, a2, fun j j0 j1 => (a3 j j0 j1).trans (bz.2.2 j j0), a4, fun j j0 => (a5 j j0).trans (by rw [zv_wb w rfl]; rfl), a6.trans (zv_wi w rfl), b9.g a7⟩

/-- it has ended, or jumped -/
theorem zf_st_i {h h3 h' : zx_H} {p t : Int} (b : zf_bh h h3 p t) (a : zf_ach h3 h' p t) (f : zv_i h' 42 = 1 ∨ ¬ zv_i h' 50 = -1) : zf_st (zr_Pg h) (zf_of h p) (zf_of h' (zv_i h' 50)) := by
  have b9 := b
  obtain ⟨k0, k1, k2⟩ := b.k
  obtain ⟨⟨c1, c2, c3⟩, _, bz, bn, bx, w⟩ := b
  obtain ⟨r, r1, a⟩ := a
  have r2 := zf_rf_cg k0 k1 k2 r1
  rw [show zv_a h3 45 = zv_a h 45 from funext (fun q => zv_wa w rfl q), show zv_a h3 46 = zv_a h 46 from funext (fun q => zv_wa w rfl q), show zv_a h3 71 = zv_a h 71 from funext (fun q => zv_wa w rfl q), show zv_b h3 69 = zv_b h 69 from funext (fun q => zv_wb w rfl q)] at r2
  refine Or.inr ⟨bz.1.symm, r, by rw [c1] at r2; exact r2, ?_⟩
  rcases a with ⟨a1, a2, a3, a4⟩ | ⟨a1, a2, a3⟩
  · rw [zv_wi w (k := 41) rfl] at a2
    rw [zv_wi w (k := 38) rfl, show zv_a h3 71 = zv_a h 71 from funext (fun q => zv_wa w rfl q), show zv_a h3 72 = zv_a h 72 from funext (fun q => zv_wa w rfl q)] at a3
    rw [zv_wi w (k := 38) rfl] at a4
    exact Or.inl ⟨a1, a2, a3, b9.ra a4⟩
  · refine Or.inr ⟨a1, a2.trans (zv_wi w rfl), ?_⟩
    rw [show zv_a h3 45 = zv_a h 45 from funext (fun q => zv_wa w rfl q), show zv_a h3 46 = zv_a h 46 from funext (fun q => zv_wa w rfl q), show zv_a h3 47 = zv_a h 47 from funext (fun q => zv_wa w rfl q), show zv_b h3 69 = zv_b h 69 from funext (fun q => zv_wb w rfl q), show zv_a h3 71 = zv_a h 71 from funext (fun q => zv_wa w rfl q), k0] at a3
    rcases a3 with ⟨a3, a4, a5⟩ | ⟨a3, a4, a5, a6, a7, a8, a9, a10, a11⟩ | ⟨a3, a4, a5, a6, a7, a8, a9, a10⟩
    · rw [zv_wi w (k := 38) rfl, show zv_a h3 72 = zv_a h 72 from funext (fun q => zv_wa w rfl q)] at a4
      rw [c1] at a5
      exact Or.inl ⟨a3, a4, b9.ra a5⟩
    · rw [zv_wi w (k := 38) rfl, show zv_a h3 72 = zv_a h 72 from funext (fun q => zv_wa w rfl q)] at a4
      have xe : zs_ap (zv_a h 45 p) (zv_a h 46 p) (0, zv_i h 25, zv_a h 61) = (0, zv_i h 25, zv_a h 61) := by rw [a3]; rfl
      rw [xe] at bz
      exact Or.inr (Or.inl ⟨a3, a4, a5.trans bz.2.1, fun j j0 => (a6 j j0).trans (bz.2.2 j j0), fun j j0 => (a7 j j0), a8, a9, a10.trans (zv_wi w rfl), a11.trans (zv_wi w rfl)⟩)
    · have a7x := zf_wk_cg k0 a7
      rw [show zv_a h3 72 = zv_a h 72 from funext (fun q => zv_wa w rfl q), zv_wi w (k := 38) rfl] at a7x
      have gf : zf_gf (zr_Pg h) (zf_of h p) (zf_of h' (zv_i h' 50)) := by
        unfold zf_gfh at a10
        rw [show zv_a h3 45 = zv_a h 45 from funext (fun q => zv_wa w rfl q), show zv_a h3 46 = zv_a h 46 from funext (fun q => zv_wa w rfl q), show zv_a h3 47 = zv_a h 47 from funext (fun q => zv_wa w rfl q), show zv_b h3 69 = zv_b h 69 from funext (fun q => zv_wb w rfl q), k0, c1] at a10
        obtain ⟨g1, g2, g3⟩ := a10
        refine ⟨fun z => b9.g (g1 z), fun z => b9.g (g2 z), fun z => ?_⟩
        obtain ⟨y1, y2, y3, y4⟩ := g3 z
        exfalso
        rcases f with f | f
        · omega
        · omega
      exact Or.inr (Or.inr ⟨a3, a4, a5.trans bz.2.1, a6.trans (zv_wi w rfl), by rw [c1] at a7x; exact a7x, fun z j j0 => (a8 z j j0).trans (bz.2.2 j j0), fun z j j0 => by show zv_a h' 61 j = if j = zv_i h 25 + 7 then zv_a h 61 (zv_i h 25 + 7) else (zs_ap (zv_a h 45 p) (zv_a h 46 p) (0, zv_i h 25, zv_a h 61)).2.2 j; rw [← c1]; exact (a9 z j j0).trans (by by_cases y : j = t; rw [if_pos y, if_pos y]; rw [if_neg y, if_neg y]; exact bz.2.2 j j0), gf⟩)
/-- it goes on behind itself -/
theorem zf_st_n {h h3 h5 h' : zx_H} {p t : Int} (b : zf_bh h h3 p t) (a : zf_ach h3 h5 p t) (f : zv_i h5 42 = 0 ∧ zv_i h5 50 = -1) (w5 : zb_W [(44, 50), (44, 14), (44, 42), (44, 43)] h5 h') (nx : (¬ p + 1 = zv_i h 1 ∧ zv_i h' 50 = p + 1 ∧ zv_i h' 14 = zv_i h5 14 ∧ zv_i h' 42 = zv_i h5 42 ∧ zv_i h' 43 = zv_i h5 43) ∨ (p + 1 = zv_i h 1 ∧ zv_i h' 14 = 6 ∧ zv_i h' 42 = 1 ∧ zv_i h' 43 = -10 - p)) : zf_st (zr_Pg h) (zf_of h p) (zf_of h' (zv_i h' 50)) := by
  obtain ⟨k0, k1, k2⟩ := b.k
  have b9 := b
  obtain ⟨⟨c1, c2, c3⟩, _, bz, bn, bx, w⟩ := b
  obtain ⟨r, r1, a⟩ := a
  have r2 := zf_rf_cg k0 k1 k2 r1
  rw [show zv_a h3 45 = zv_a h 45 from funext (fun q => zv_wa w rfl q), show zv_a h3 46 = zv_a h 46 from funext (fun q => zv_wa w rfl q), show zv_a h3 71 = zv_a h 71 from funext (fun q => zv_wa w rfl q), show zv_b h3 69 = zv_b h 69 from funext (fun q => zv_wb w rfl q)] at r2
  have ng : ∀ q, ¬ zf_gth h3 h5 p q := fun q z => by
    unfold zf_gth at z
    omega
  have na : ∀ k w1 c, ¬ zf_rah h3 h5 p k w1 c := fun k w1 c z => by
    obtain ⟨i, _, z⟩ := z
    rcases z with z | z
    · omega
    · exact ng _ z.2.2.2.2.2.2
  refine Or.inr ⟨bz.1.symm, r, by rw [c1] at r2; exact r2, ?_⟩
  rcases a with ⟨_, _, _, a4⟩ | ⟨a1, a2, a3⟩
  · exact absurd a4 (na _ _ _)
  · refine Or.inr ⟨a1, ((zv_wi w5 (k := 41) rfl).trans a2).trans (zv_wi w rfl), ?_⟩
    rcases a3 with ⟨_, _, a5⟩ | ⟨_, _, _, _, _, _, a9, _⟩ | ⟨a3, a4, a5, a6, a7, a8, a9, a10⟩
    · exact absurd a5 (na _ _ _)
    · omega
    · have a7x := zf_wk_cg k0 a7
      rw [show zv_a h3 45 = zv_a h 45 from funext (fun q => zv_wa w rfl q), show zv_a h3 46 = zv_a h 46 from funext (fun q => zv_wa w rfl q), show zv_a h3 47 = zv_a h 47 from funext (fun q => zv_wa w rfl q), show zv_b h3 69 = zv_b h 69 from funext (fun q => zv_wb w rfl q), show zv_a h3 71 = zv_a h 71 from funext (fun q => zv_wa w rfl q), show zv_a h3 72 = zv_a h 72 from funext (fun q => zv_wa w rfl q), zv_wi w (k := 38) rfl] at a7x
      rw [show zv_a h3 45 = zv_a h 45 from funext (fun q => zv_wa w rfl q)] at a3 a4 a8 a9
      rw [k0] at a9
      unfold zf_gfh at a10
      rw [show zv_a h3 45 = zv_a h 45 from funext (fun q => zv_wa w rfl q), show zv_a h3 46 = zv_a h 46 from funext (fun q => zv_wa w rfl q), show zv_a h3 47 = zv_a h 47 from funext (fun q => zv_wa w rfl q), show zv_b h3 69 = zv_b h 69 from funext (fun q => zv_wb w rfl q), k0, c1] at a10
      obtain ⟨g1, g2, g3⟩ := a10
      have gf : zf_gf (zr_Pg h) (zf_of h p) (zf_of h' (zv_i h' 50)) := by
        refine ⟨fun z => absurd (g1 z) (ng _), fun z => absurd (g2 z) (ng _), fun z => ?_⟩
        obtain ⟨y1, y2, y3, y4⟩ := g3 z
        rcases nx with ⟨n1, n2, n3, n4, n5⟩ | n
        · exact Or.inl ⟨n1, n2, (n3.trans y2).trans (zv_wi w rfl), (n4.trans y3).trans (zv_wi w rfl), (n5.trans y4).trans (zv_wi w rfl)⟩
        · exact Or.inr n
      refine Or.inr (Or.inr ⟨a3, a4, ((zv_wi w5 (k := 25) rfl).trans a5).trans bz.2.1, ((zv_wi w5 (k := 49) rfl).trans a6).trans (zv_wi w rfl), ?_, fun z j j0 => (zv_wa w5 rfl j).trans ((a8 z j j0).trans (bz.2.2 j j0)), fun z j j0 => ?_, gf⟩)
      · rw [c1] at a7x
        show zf_wk _ _ _ _ _ _ _ _ _ (zv_i h' 38) (zv_b h' 69) (zv_a h' 71) (zv_a h' 72)
        rw [zv_wi w5 (k := 38) rfl, show zv_b h' 69 = zv_b h5 69 from funext (fun q => zv_wb w5 rfl q), show zv_a h' 71 = zv_a h5 71 from funext (fun q => zv_wa w5 rfl q), show zv_a h' 72 = zv_a h5 72 from funext (fun q => zv_wa w5 rfl q)]
        exact a7x
      · refine (zv_wa w5 rfl j).trans ((a9 z j j0).trans ?_)
        show (if j = t then zv_a h 61 t else zv_a h3 61 j) = if j = zv_i h 25 + 7 then zv_a h 61 (zv_i h 25 + 7) else (zs_ap (zv_a h 45 p) (zv_a h 46 p) (0, zv_i h 25, zv_a h 61)).2.2 j
        rw [c1]
        by_cases y : j = zv_i h 25 + 7
        · rw [if_pos y, if_pos y]
        · rw [if_neg y, if_neg y]; exact bz.2.2 j j0

theorem zm_doesB {h : zx_H} (hI : zb_I zc_H h) {p : Int} (p1 : 0 ≤ p) (p2 : p ≤ 59) (n8 : ¬ zv_a h 61 8 = 3) (ic : zv_a h 45 p = 21 → 5 ≤ zv_a h 46 p ∧ zv_a h 46 p ≤ 8) : zx_T zp_P 3 zp_m167 0 [(0, .ref 44), (1, .int (zI (p)))] [] h (zr_R [(44, 25), (44, 26), (61, 0)] h (fun e h' => (e = zv_i h' 26 ∧ 0 ≤ e ∧ e ≤ 7 ∧ ¬ zv_a h' 61 8 = 3 ∧ (e = 0 → zg_does (zv_a h 45 p) (zv_a h 46 p) h h')) ∧ zt_eq (zv_i h' 26, zv_i h' 25, zv_a h' 61) (zs_ap (zv_a h 45 p) (zv_a h 46 p) (0, zv_i h 25, zv_a h 61)))) :=
  ((zm_does hI p1 p2 n8 ic).and (zm_doesF hI p1 p2 n8 ic)).im fun r h' ⟨⟨i, w, e, r1, a⟩, ⟨_, _, _, _, b⟩⟩ => ⟨i, w, e, r1, a, b.2⟩

set_option maxRecDepth 100000 in
set_option maxHeartbeats 8000000 in
theorem zm_stepX_L {h : zx_H} (hI : zb_I zc_H h) {p : Int} (p1 : 0 ≤ p) (p2 : p < zv_i h 1) (hc : zg_CI h) (vi : zg_VI h) (t9 : zv_i h 38 ≤ 399) (r9 : zv_i h 41 ≤ 1000000) (r8 : (-5) ≤ zv_i h 41) (x0 : zv_i h 42 = 0) (n8 : ¬ zv_a h 61 8 = 3) (n : Nat) : (∀ {h2 : zx_H} {k : Int} (hI2 : zb_I zc_H h2) (k1 : 0 ≤ k) (k2 : k ≤ 14) (hw : zb_W [(70, 0)] h h2) (ws : ∀ j, 0 ≤ j → j < k → zv_a h2 70 j = zv_a h 61 j), (14 - k : Int).toNat < n → zx_T zp_P 7 zp_m216 2 [(0, .ref 44), (1, .int (zI (p))), (2, .int (zI (k)))] [] h2 (zr_V [(70, 0), (44, 26), (44, 25), (61, 0), (69, 0), (44, 50), (44, 14), (44, 42), (44, 43), (44, 49), (44, 41), (44, 38), (71, 0), (72, 0)] h (fun h' => zf_st (zr_Pg h) (zf_of h p) (zf_of h' (zv_i h' 50))))) := by
  induction n with
  | zero => exact fun _ _ _ _ _ hm => absurd hm (Nat.not_lt_zero _)
  | succ n ih =>
    intro h2 k hI2 k1 k2 hw ws hm
    have hS := zv_ri hI (k := 25) rfl
    have hC := zv_ri hI (k := 1) rfl
    refine zx_T.l (i := .iload_n 2) (k := 1) (v := .int (zI (k))) (pc := 2) rfl rfl rfl ?_
    refine zx_T.s (i := .bipush 14) (k := 2) (st' := [.int (zI (14)), .int (zI (k))]) (pc := 3) rfl rfl ?_
    refine zr_i2 (x := k) (y := 14) (t := 26) (pc := 5) rfl rfl (by omega) (by omega) (by omega) (by omega) (fun (c1 : 14 ≤ k) => ?_) (fun (c1 : ¬ (14 ≤ k)) => ?_)
    · refine zx_T.s (i := .bipush 8) (k := 2) (st' := [.int (zI (8))]) (pc := 26) rfl rfl ?_
      refine zx_T.l (i := .aload_n 0) (k := 1) (v := .ref 44) (pc := 28) rfl rfl rfl ?_
      refine zr_gi (k := 25) (lo := 0) (hi := 6) (e := zv_i h 25) (pc := 29) rfl rfl rfl hI2 (zv_wi hw rfl) (fun g2a g2b => ?_)
      refine zr_add (x := 8) (y := zv_i h 25) (e := zv_i h 25 + 8) (pc := 32) rfl (by omega) ?_
      refine zx_T.s (i := .iconst 1) (k := 1) (st' := [.int (zI (1)), .int (zI (zv_i h 25 + 8))]) (pc := 33) rfl rfl ?_
      refine zr_sub (x := zv_i h 25 + 8) (y := 1) (e := zv_i h 25 + 7) (pc := 34) rfl (by omega) ?_
      refine zx_T.t (i := .istore_n 2) (k := 1) (ls' := [(2, .int (zI (zv_i h 25 + 7))), (0, .ref 44), (1, .int (zI (p)))]) (st' := []) (pc := 35) rfl rfl rfl rfl ?_
      refine zx_T.l (i := .aload_n 0) (k := 1) (v := .ref 44) (pc := 36) rfl rfl rfl ?_
      refine zx_T.l (i := .iload_n 1) (k := 1) (v := .int (zI (p))) (pc := 37) rfl rfl rfl ?_
      have y3 : zv_a h2 61 8 = zv_a h 61 8 := (zv_wa hw rfl 8)
      refine zr_iv (cj := 167) (q' := zp_m167) (As := [.int (zI (p))]) (rest := []) (pc := 38) rfl rfl rfl rfl rfl rfl (Nat.le_of_ble_eq_true rfl) rfl (Nat.le_of_ble_eq_true rfl) hI2 ((zm_doesB (h := h2) hI2 (p := p) (by omega) (by omega) (by omega) ((hc.w hw rfl rfl) p (by omega) (by omega))).up (Nat.le_of_ble_eq_true rfl)) ?_
      rintro r4 h7 ⟨ih7, w8, v5, r4q, x6⟩
      subst r4q
      try dsimp only at x6
      have dB := x6.1
      have dE := dB.2.2.2.2
      have dF := x6.2
      show zx_T zp_P 7 zp_m216 41 [(2, .int (zI (zv_i h 25 + 7))), (0, .ref 44), (1, .int (zI (p)))] [.int (zI (v5))] h7 _
      refine zx_T.t (i := .istore_n 3) (k := 1) (ls' := [(3, .int (zI (v5))), (2, .int (zI (zv_i h 25 + 7))), (0, .ref 44), (1, .int (zI (p)))]) (st' := []) (pc := 41) rfl rfl rfl rfl ?_
      refine zx_T.l (i := .iload_n 3) (k := 1) (v := .int (zI (v5))) (pc := 42) rfl rfl rfl ?_
      refine zr_i1 (x := v5) (t := 53) (pc := 43) rfl rfl (by omega) (by omega) (fun (c9 : v5 = 0) => ?_) (fun (c9 : ¬ (v5 = 0)) => ?_)
      · refine zx_T.l (i := .aload_n 0) (k := 1) (v := .ref 44) (pc := 53) rfl rfl rfl ?_
        refine zx_T.s (i := .iconst (-1)) (k := 1) (st' := [.int (zI ((-1))), .ref 44]) (pc := 54) rfl rfl ?_
        refine zr_pi (k := 50) (lo := (-1)) (hi := 59) (e := (-1)) (pc := 55) rfl rfl rfl rfl rfl rfl ih7 (by omega) (by omega) (fun h10 ih10 w11 e12 => ?_)
        have bh : zf_bh h h10 p (zv_i h 25 + 7) := ⟨⟨by omega, by omega, by omega⟩, fun j j0 j1 => by rw [zv_wa w11 rfl, zv_wa w8 rfl]; exact ws j j0 (by omega), by have q := dF; rw [show zv_a h2 45 = zv_a h 45 from funext (fun q => zv_wa hw rfl q), show zv_a h2 46 = zv_a h 46 from funext (fun q => zv_wa hw rfl q), show zv_a h2 61 = zv_a h 61 from funext (fun q => zv_wa hw rfl q), zv_wi hw (k := 25) rfl] at q; have q0 : zv_i h7 26 = 0 := (by have := dB.1; omega); rw [q0] at q; rw [zv_wi w11 (k := 25) rfl, show zv_a h10 61 = zv_a h7 61 from funext (fun q => zv_wa w11 rfl q)]; exact q, e12, (by rw [zv_wi (((hw.wd rfl : zb_W [(70, 0), (44, 26), (44, 25), (61, 0), (44, 50)] h _).tr (w8.wd rfl)).tr (w11.wd rfl)) (k := 42) rfl]; exact x0), (((hw.wd rfl : zb_W [(70, 0), (44, 26), (44, 25), (61, 0), (44, 50)] h _).tr (w8.wd rfl)).tr (w11.wd rfl))⟩
        refine zx_T.l (i := .aload_n 0) (k := 1) (v := .ref 44) (pc := 58) rfl rfl rfl ?_
        refine zx_T.l (i := .iload_n 1) (k := 1) (v := .int (zI (p))) (pc := 59) rfl rfl rfl ?_
        refine zx_T.l (i := .iload_n 2) (k := 1) (v := .int (zI (zv_i h 25 + 7))) (pc := 60) rfl rfl rfl ?_
        have y13 : zv_i h10 1 = zv_i h 1 := ((zv_wi w11 rfl).trans ((zv_wi w8 rfl).trans (zv_wi hw rfl)))
        have y14 : zv_i h10 38 = zv_i h 38 := ((zv_wi w11 rfl).trans ((zv_wi w8 rfl).trans (zv_wi hw rfl)))
        have y15 : zv_i h10 41 = zv_i h 41 := ((zv_wi w11 rfl).trans ((zv_wi w8 rfl).trans (zv_wi hw rfl)))
        have y16 : zv_i h10 42 = zv_i h 42 := ((zv_wi w11 rfl).trans ((zv_wi w8 rfl).trans (zv_wi hw rfl)))
        have y17 : zv_a h10 61 8 = zv_a h7 61 8 := (zv_wa w11 rfl 8)
        have y18 : zv_i h10 50 = (-1) := e12
        have y19 : zv_i h10 25 = zv_i h7 25 := (zv_wi w11 rfl)
        refine zr_iv (cj := 215) (q' := zp_m215) (As := [.int (zI (p)), .int (zI (zv_i h 25 + 7))]) (rest := []) (pc := 61) rfl rfl rfl rfl rfl rfl (Nat.le_of_ble_eq_true rfl) rfl (Nat.le_of_ble_eq_true rfl) ih10 ((zm_actsX (h := h10) ih10 (p := p) (t := zv_i h 25 + 7) (by omega) (by omega) (by omega) (by omega) (zg_dz.c2 (dE (by omega)).z (zv_ri hI2 (k := 25) rfl).1 (zv_ri hI2 (k := 25) rfl).2 (zv_ri ih7 (k := 25) rfl).2 (by rw [zv_wa w11 rfl, zv_wa w8 rfl]) (by rw [zv_wa w11 rfl, zv_wa w8 rfl]) (by have q1 := zv_wi hw (k := 25) rfl; omega) (zv_wi w11 rfl) (fun j j0 j1 => by rw [zv_wa w11 rfl, zv_wa w8 rfl]; rw [ws j j0 (by omega), zv_wa hw rfl]) (fun j j0 j1 => zv_wa w11 rfl j)) (zg_VWm vi (by omega) (by omega) (fun j j0 j1 => by rw [zv_wa w11 rfl, zv_wa w8 rfl, ws j j0 (by omega)]) (fun j j0 => by rw [zv_wb w11 rfl, zv_wb w8 rfl, zv_wb hw rfl]) (by rw [zv_wi w11 rfl, zv_wi w8 rfl, zv_wi hw rfl]) (fun j j0 => by rw [zv_wa w11 rfl, zv_wa w8 rfl, zv_wa hw rfl])) (by omega) (by omega) (by omega) (by omega) (by omega) ((hc.w (((hw.wd rfl : zb_W [(70, 0), (44, 26), (44, 25), (61, 0), (69, 0), (44, 50), (44, 14), (44, 42), (44, 43), (44, 49), (44, 41), (44, 38), (71, 0), (72, 0)] h _).tr (w8.wd rfl)).tr (w11.wd rfl)) rfl rfl) p (by omega) (by omega))).up (Nat.le_of_ble_eq_true rfl)) ?_
        rintro r20 h23 ⟨ih23, w24, r20q, x22⟩
        subst r20q
        try dsimp only at x22
        have aX := x22
        show zx_T zp_P 7 zp_m216 64 [(3, .int (zI (v5))), (2, .int (zI (zv_i h 25 + 7))), (0, .ref 44), (1, .int (zI (p)))] [] h23 _
        refine zx_T.l (i := .aload_n 0) (k := 1) (v := .ref 44) (pc := 64) rfl rfl rfl ?_
        refine zr_gi (k := 42) (lo := 0) (hi := 1) (e := zv_i h23 42) (pc := 65) rfl rfl rfl ih23 rfl (fun g25a g25b => ?_)
        refine zr_i1 (x := zv_i h23 42) (t := 106) (pc := 68) rfl rfl (by omega) (by omega) (fun (c26 : ¬ (zv_i h23 42) = 0) => ?_) (fun (c26 : ¬ (¬ (zv_i h23 42) = 0)) => ?_)
        · have y34 : zv_i h23 1 = zv_i h 1 := ((zv_wi w24 rfl).trans ((zv_wi w11 rfl).trans ((zv_wi w8 rfl).trans (zv_wi hw rfl))))
          exact zr_vr (pc := 106) rfl rfl ⟨ih23, ((((hw.wd rfl : zb_W [(70, 0), (44, 26), (44, 25), (61, 0), (69, 0), (44, 50), (44, 14), (44, 42), (44, 43), (44, 49), (44, 41), (44, 38), (71, 0), (72, 0)] h _).tr (w8.wd rfl)).tr (w11.wd rfl)).tr (w24.wd rfl)), rfl, by dsimp only; exact zf_st_i bh aX (by omega)⟩
        · refine zx_T.l (i := .aload_n 0) (k := 1) (v := .ref 44) (pc := 71) rfl rfl rfl ?_
          refine zr_gi (k := 50) (lo := (-1)) (hi := 59) (e := zv_i h23 50) (pc := 72) rfl rfl rfl ih23 rfl (fun g35a g35b => ?_)
          refine zx_T.s (i := .iconst (-1)) (k := 1) (st' := [.int (zI ((-1))), .int (zI (zv_i h23 50))]) (pc := 75) rfl rfl ?_
          refine zr_i2 (x := zv_i h23 50) (y := (-1)) (t := 106) (pc := 76) rfl rfl (by omega) (by omega) (by omega) (by omega) (fun (c36 : ¬ (zv_i h23 50) = (-1)) => ?_) (fun (c36 : ¬ (¬ (zv_i h23 50) = (-1))) => ?_)
          · have y44 : zv_i h23 1 = zv_i h 1 := ((zv_wi w24 rfl).trans ((zv_wi w11 rfl).trans ((zv_wi w8 rfl).trans (zv_wi hw rfl))))
            exact zr_vr (pc := 106) rfl rfl ⟨ih23, ((((hw.wd rfl : zb_W [(70, 0), (44, 26), (44, 25), (61, 0), (69, 0), (44, 50), (44, 14), (44, 42), (44, 43), (44, 49), (44, 41), (44, 38), (71, 0), (72, 0)] h _).tr (w8.wd rfl)).tr (w11.wd rfl)).tr (w24.wd rfl)), rfl, by dsimp only; exact zf_st_i bh aX (by omega)⟩
          · refine zx_T.l (i := .iload_n 1) (k := 1) (v := .int (zI (p))) (pc := 79) rfl rfl rfl ?_
            refine zx_T.s (i := .iconst 1) (k := 1) (st' := [.int (zI (1)), .int (zI (p))]) (pc := 80) rfl rfl ?_
            refine zr_add (x := p) (y := 1) (e := p + 1) (pc := 81) rfl (by omega) ?_
            refine zx_T.l (i := .aload_n 0) (k := 1) (v := .ref 44) (pc := 82) rfl rfl rfl ?_
            refine zr_gi (k := 1) (lo := 0) (hi := 60) (e := zv_i h 1) (pc := 83) rfl rfl rfl ih23 ((zv_wi w24 rfl).trans ((zv_wi w11 rfl).trans ((zv_wi w8 rfl).trans (zv_wi hw rfl)))) (fun g45a g45b => ?_)
            refine zr_i2 (x := p + 1) (y := zv_i h 1) (t := 99) (pc := 86) rfl rfl (by omega) (by omega) (by omega) (by omega) (fun (c46 : ¬ (p + 1) = (zv_i h 1)) => ?_) (fun (c46 : ¬ (¬ (p + 1) = (zv_i h 1))) => ?_)
            · refine zx_T.l (i := .aload_n 0) (k := 1) (v := .ref 44) (pc := 99) rfl rfl rfl ?_
              refine zx_T.l (i := .iload_n 1) (k := 1) (v := .int (zI (p))) (pc := 100) rfl rfl rfl ?_
              refine zx_T.s (i := .iconst 1) (k := 1) (st' := [.int (zI (1)), .int (zI (p)), .ref 44]) (pc := 101) rfl rfl ?_
              refine zr_add (x := p) (y := 1) (e := p + 1) (pc := 102) rfl (by omega) ?_
              refine zr_pi (k := 50) (lo := (-1)) (hi := 59) (e := p + 1) (pc := 103) rfl rfl rfl rfl rfl rfl ih23 (by omega) (by omega) (fun h47 ih47 w48 e49 => ?_)
              have y50 : zv_i h47 42 = zv_i h23 42 := (zv_wi w48 rfl)
              have y51 : zv_i h47 43 = zv_i h23 43 := (zv_wi w48 rfl)
              have y52 : zv_i h47 38 = zv_i h23 38 := (zv_wi w48 rfl)
              have y53 : zv_i h47 41 = zv_i h23 41 := (zv_wi w48 rfl)
              have y54 : zv_i h47 50 = p + 1 := e49
              have y55 : zv_i h47 14 = zv_i h23 14 := (zv_wi w48 rfl)
              have y56 : zv_i h47 49 = zv_i h23 49 := (zv_wi w48 rfl)
              have y57 : zv_i h47 1 = zv_i h 1 := ((zv_wi w48 rfl).trans ((zv_wi w24 rfl).trans ((zv_wi w11 rfl).trans ((zv_wi w8 rfl).trans (zv_wi hw rfl)))))
              exact zr_vr (pc := 106) rfl rfl ⟨ih47, (((((hw.wd rfl : zb_W [(70, 0), (44, 26), (44, 25), (61, 0), (69, 0), (44, 50), (44, 14), (44, 42), (44, 43), (44, 49), (44, 41), (44, 38), (71, 0), (72, 0)] h _).tr (w8.wd rfl)).tr (w11.wd rfl)).tr (w24.wd rfl)).tr (w48.wd rfl)), rfl, by dsimp only; exact zf_st_n bh aX (by omega) (w48.wd rfl) (by omega)⟩
            · refine zx_T.l (i := .aload_n 0) (k := 1) (v := .ref 44) (pc := 89) rfl rfl rfl ?_
              refine zx_T.s (i := .bipush 6) (k := 2) (st' := [.int (zI (6)), .ref 44]) (pc := 90) rfl rfl ?_
              refine zx_T.l (i := .iload_n 1) (k := 1) (v := .int (zI (p))) (pc := 92) rfl rfl rfl ?_
              refine zr_iv (cj := 208) (q' := zp_m208) (As := [.int (zI (6)), .int (zI (p))]) (rest := []) (pc := 93) rfl rfl rfl rfl rfl rfl (Nat.le_of_ble_eq_true rfl) rfl (Nat.le_of_ble_eq_true rfl) ih23 ((zm_badX (h := h23) ih23 (w := 6) (p := p) (by omega) (by omega) (by omega) (by omega)).up (Nat.le_of_ble_eq_true rfl)) ?_
              rintro r58 h61 ⟨ih61, w62, r58q, x60⟩
              subst r58q
              try dsimp only at x60
              show zx_T zp_P 7 zp_m216 96 [(3, .int (zI (v5))), (2, .int (zI (zv_i h 25 + 7))), (0, .ref 44), (1, .int (zI (p)))] [] h61 _
              refine zx_T.j (i := .goto 10) (k := 3) (pc' := 106) (st' := []) (pc := 96) rfl rfl rfl rfl rfl ?_
              have y65 : zv_i h61 38 = zv_i h23 38 := (zv_wi w62 rfl)
              have y66 : zv_i h61 41 = zv_i h23 41 := (zv_wi w62 rfl)
              have y67 : zv_i h61 50 = zv_i h23 50 := (zv_wi w62 rfl)
              have y69 : zv_i h61 49 = zv_i h23 49 := (zv_wi w62 rfl)
              have y70 : zv_i h61 1 = zv_i h 1 := ((zv_wi w62 rfl).trans ((zv_wi w24 rfl).trans ((zv_wi w11 rfl).trans ((zv_wi w8 rfl).trans (zv_wi hw rfl)))))
              exact zr_vr (pc := 106) rfl rfl ⟨ih61, (((((hw.wd rfl : zb_W [(70, 0), (44, 26), (44, 25), (61, 0), (69, 0), (44, 50), (44, 14), (44, 42), (44, 43), (44, 49), (44, 41), (44, 38), (71, 0), (72, 0)] h _).tr (w8.wd rfl)).tr (w11.wd rfl)).tr (w24.wd rfl)).tr (w62.wd rfl)), rfl, by dsimp only; exact zf_st_n bh aX (by omega) (w62.wd rfl) (by omega)⟩
      · refine zx_T.l (i := .aload_n 0) (k := 1) (v := .ref 44) (pc := 46) rfl rfl rfl ?_
        refine zx_T.l (i := .iload_n 3) (k := 1) (v := .int (zI (v5))) (pc := 47) rfl rfl rfl ?_
        refine zx_T.l (i := .iload_n 1) (k := 1) (v := .int (zI (p))) (pc := 48) rfl rfl rfl ?_
        refine zr_iv (cj := 208) (q' := zp_m208) (As := [.int (zI (v5)), .int (zI (p))]) (rest := []) (pc := 49) rfl rfl rfl rfl rfl rfl (Nat.le_of_ble_eq_true rfl) rfl (Nat.le_of_ble_eq_true rfl) ih7 ((zm_badX (h := h7) ih7 (w := v5) (p := p) (by omega) (by omega) (by omega) (by omega)).up (Nat.le_of_ble_eq_true rfl)) ?_
        rintro r71 h74 ⟨ih74, w75, r71q, x73⟩
        subst r71q
        try dsimp only at x73
        have xF : zv_i h74 14 = (zs_ap (zv_a h 45 p) (zv_a h 46 p) (0, zv_i h 25, zv_a h 61)).1 := x73.1.trans (by rw [dB.1]; have q := dF.1; rw [show zv_a h2 45 = zv_a h 45 from funext (fun q => zv_wa hw rfl q), show zv_a h2 46 = zv_a h 46 from funext (fun q => zv_wa hw rfl q), show zv_a h2 61 = zv_a h 61 from funext (fun q => zv_wa hw rfl q), zv_wi hw (k := 25) rfl] at q; exact q)
        show zx_T zp_P 7 zp_m216 52 [(3, .int (zI (v5))), (2, .int (zI (zv_i h 25 + 7))), (0, .ref 44), (1, .int (zI (p)))] [] h74 _
        have y78 : zv_i h74 38 = zv_i h 38 := ((zv_wi w75 rfl).trans ((zv_wi w8 rfl).trans (zv_wi hw rfl)))
        have y79 : zv_i h74 41 = zv_i h 41 := ((zv_wi w75 rfl).trans ((zv_wi w8 rfl).trans (zv_wi hw rfl)))
        have y80 : zv_i h74 50 = zv_i h 50 := ((zv_wi w75 rfl).trans ((zv_wi w8 rfl).trans (zv_wi hw rfl)))
        have y82 : zv_i h74 49 = zv_i h 49 := ((zv_wi w75 rfl).trans ((zv_wi w8 rfl).trans (zv_wi hw rfl)))
        have y83 : zv_i h74 1 = zv_i h 1 := ((zv_wi w75 rfl).trans ((zv_wi w8 rfl).trans (zv_wi hw rfl)))
        exact zr_vr (pc := 52) rfl rfl ⟨ih74, (((hw.wd rfl : zb_W [(70, 0), (44, 26), (44, 25), (61, 0), (69, 0), (44, 50), (44, 14), (44, 42), (44, 43), (44, 49), (44, 41), (44, 38), (71, 0), (72, 0)] h _).tr (w8.wd rfl)).tr (w75.wd rfl)), rfl, by dsimp only; exact Or.inl ⟨fun z => by have q := xF.trans z; omega, xF, (show zv_i h74 42 = 1 by omega), (show zv_i h74 43 = -10 - p by omega), (show zv_i h74 49 = zv_i h 49 by omega), (show zv_i h74 41 = zv_i h 41 by omega)⟩⟩
    · refine zx_T.l (i := .aload_n 0) (k := 1) (v := .ref 44) (pc := 8) rfl rfl rfl ?_
      refine zr_gr (k := 37) (b := 70) (pc := 9) rfl rfl rfl hI2 ?_
      refine zx_T.l (i := .iload_n 2) (k := 1) (v := .int (zI (k))) (pc := 12) rfl rfl rfl ?_
      refine zx_T.l (i := .aload_n 0) (k := 1) (v := .ref 44) (pc := 13) rfl rfl rfl ?_
      refine zr_gr (k := 24) (b := 61) (pc := 14) rfl rfl rfl hI2 ?_
      refine zx_T.l (i := .iload_n 2) (k := 1) (v := .int (zI (k))) (pc := 17) rfl rfl rfl ?_
      refine zr_al (n := 14) (lo := 0) (hi := 8) (e := zv_a h 61 k) (pc := 18) rfl rfl rfl hI2 (by omega) (by omega) (zv_wa hw rfl k) (fun g84a g84b => ?_)
      refine zr_as (n := 14) (lo := 0) (hi := 8) (e := zv_a h 61 k) (pc := 19) rfl rfl rfl rfl hI2 (by omega) (by omega) (by omega) (by omega) (fun h85 ih85 w86 s87 => ?_)
      refine zr_inc (x := k) (n := 1) (y := k + 1) (ls' := [(2, .int (zI (k + 1))), (0, .ref 44), (1, .int (zI (p)))]) (pc := 20) rfl rfl rfl (by omega) rfl ?_
      refine zx_T.j (i := .goto (-21)) (k := 3) (pc' := 2) (st' := []) (pc := 23) rfl rfl rfl rfl rfl ?_
      have a70 : ∀ j, 0 ≤ j → zv_a h85 70 j = if j = k then zv_a h 61 k else zv_a h2 70 j := fun j hj => by rw [s87 j hj]
      refine zx_T.lk (ls' := [(0, .ref 44), (1, .int (zI (p))), (2, .int (zI (k + 1)))]) rfl ⟨rfl, rfl, rfl, trivial⟩ ?_
      exact ih (h2 := h85) (k := k + 1) ih85 (by omega) (by omega) ((hw.wd rfl : zb_W [(70, 0)] h _).tr (w86.wd rfl)) (fun j j0 j1 => by first | omega | (have b9 := a70 j j0; split at b9 <;> first | (next e9 => rw [b9, e9]; done) | (rw [b9]; exact ws j j0 (by omega)))) (by omega)
set_option maxRecDepth 100000 in
set_option maxHeartbeats 8000000 in
theorem zm_stepX {h : zx_H} (hI : zb_I zc_H h) {p : Int} (p1 : 0 ≤ p) (p2 : p < zv_i h 1) (hc : zg_CI h) (vi : zg_VI h) (t9 : zv_i h 38 ≤ 399) (r9 : zv_i h 41 ≤ 1000000) (r8 : (-5) ≤ zv_i h 41) (x0 : zv_i h 42 = 0) (n8 : ¬ zv_a h 61 8 = 3) : zx_T zp_P 7 zp_m216 0 [(0, .ref 44), (1, .int (zI (p)))] [] h (zr_V [(70, 0), (44, 26), (44, 25), (61, 0), (69, 0), (44, 50), (44, 14), (44, 42), (44, 43), (44, 49), (44, 41), (44, 38), (71, 0), (72, 0)] h (fun h' => zf_st (zr_Pg h) (zf_of h p) (zf_of h' (zv_i h' 50)))) := by
  have hS := zv_ri hI (k := 25) rfl
  have hC := zv_ri hI (k := 1) rfl
  refine zx_T.s (i := .iconst 0) (k := 1) (st' := [.int (zI (0))]) (pc := 0) rfl rfl ?_
  refine zx_T.t (i := .istore_n 2) (k := 1) (ls' := [(2, .int (zI (0))), (0, .ref 44), (1, .int (zI (p)))]) (st' := []) (pc := 1) rfl rfl rfl rfl ?_
  refine zx_T.lk (ls' := [(0, .ref 44), (1, .int (zI (p))), (2, .int (zI (0)))]) rfl ⟨rfl, rfl, rfl, trivial⟩ ?_
  exact zm_stepX_L (h := h) hI (p := p) p1 p2 hc vi t9 r9 r8 x0 n8 ((14 - 0 : Int).toNat + 1) (h2 := h) (k := 0) hI (by omega) (by omega) zb_W.rf (fun j j0 j1 => by first | omega | (have b9 := a70 j j0; split at b9 <;> first | (next e9 => rw [b9, e9]; done) | (rw [b9]; exact ws j j0 (by omega)))) (Nat.lt_succ_self _)
