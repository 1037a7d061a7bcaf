/-! ===== 97zu: class and reference, step by step ===== -/
def zf_S (g : Int → Int) (u v : zK) : Prop := u.S = v.S ∧ (∀ j, 0 ≤ j → j < 8 + u.S → v.N j = u.N j) ∧ zw_ok (0, u.S, u.N) ∧ zk_in u.S u.N ∧ zf_vs g u.n v.n v.L u.S u.N u.V v.V ∧ zf_rows g u.n u.L u.C v.n v.L v.C ∧ 0 ≤ v.n
/-- an INT is topmost -/
def zf_tp (u : zK) : Int := if 0 < u.S ∧ u.N (u.S + 7) = 1 then 1 else 0
/-- k steps done, both go on -/
def zf_G (P : zP) (g : Int → Int) (u v : zK) (k : Int) : Prop := zf_S g u v ∧ (u.p = v.p ∧ 0 ≤ u.p ∧ u.p < P.n) ∧ (u.e = 0 ∧ v.e = 0 ∧ u.f = 0 ∧ v.f = 0 ∧ u.o = 2 ∧ u.c = 0 ∧ v.c = 0 ∧ u.r = v.r) ∧ 2 * u.n + zf_tp u ≤ 16 + k ∧ v.n ≤ 8 + k
/-- both have ended at p -/
def zf_E (p : Int) (u v : zK) : Prop := (u.e = 1 ∧ v.e = 1) ∧ u.p = p ∧ u.f = v.f ∧ (u.f = 0 → v.o = u.o) ∧ (¬ u.f = 0 → v.o = -10 - p) ∧ u.c = v.c ∧ u.r = v.r ∧ (u.f = 0 → u.o = 0 ∨ u.o = 1) ∧ (u.f = 0 → u.o = 0 → ∃ g, zf_S g u v ∧ u.n ≤ 158 ∧ v.n ≤ 1000)
def zf_go (P : zP) (u u' v v' : zK) : Prop := ((0 ≤ u'.p ∧ u'.p < P.n) ∧ v'.p = u'.p ∧ u'.f = u.f ∧ v'.f = v.f ∧ u'.e = u.e ∧ v'.e = v.e) ∨ (u'.p = u.p ∧ u'.e = 1 ∧ v'.e = 1 ∧ u'.f = v'.f ∧ ¬ u'.f = 0 ∧ v'.o = -10 - v.p)
section ZY
variable {P : zP} {g : Int → Int} {u u' v v' : zK} {k : Int}
theorem zf_tp_le : 0 ≤ zf_tp u ∧ zf_tp u ≤ 1 := by unfold zf_tp; split <;> omega
theorem zf_gt_go {q : Int} (a : zk_gt P u u' q) (b : zf_gt P v v' q) : zf_go P u u' v v' := by
  rcases a with ⟨a1, a2, a3, a4⟩ | ⟨a1, a2, a3, a4⟩
  · rcases b with ⟨b1, b2, b3, b4, b5⟩ | ⟨b1, b2⟩
    · exact Or.inl ⟨by rw [a2]; exact a1, by rw [b2, a2], a3, b3, a4, b4⟩
    · exact absurd a1 b1
  · rcases b with ⟨b1, b2⟩ | ⟨b1, b2, b3, b4⟩
    · exact absurd b1 a1
    · exact Or.inr ⟨a2, a4, b3, by rw [a3, b2], by rw [a3]; decide, b4⟩
theorem zf_nx_go (a : (u.p + 1 < P.n ∧ u'.p = u.p + 1 ∧ u'.f = u.f ∧ u'.e = u.e) ∨ (¬ u.p + 1 < P.n ∧ u'.p = u.p ∧ u'.f = 6 ∧ u'.e = 1)) (b : zf_nx P v v') (e : u.p = v.p ∧ 0 ≤ u.p ∧ u.p < P.n) : zf_go P u u' v v' := by
  rcases a with ⟨a1, a2, a3, a4⟩ | ⟨a1, a2, a3, a4⟩
  · rcases b with ⟨b1, b2, b3, b4, b5⟩ | ⟨b1, b2⟩
    · exact Or.inl ⟨by omega, by omega, a3, b3, a4, b4⟩
    · omega
  · rcases b with ⟨b1, b2⟩ | ⟨b1, b2, b3, b4⟩
    · omega
    · exact Or.inr ⟨a2, a4, b3, by rw [a3, b2], by rw [a3]; decide, b4⟩
theorem zf_gf_go (a : zk_gf P u u') (b : zf_gf P v v') (e : u.p = v.p ∧ 0 ≤ u.p ∧ u.p < P.n) (t1 : P.op u.p = 25 ∨ P.op u.p = 27 → zi32 (zk_tv u 0) = v.V (v.S + 7)) (t2 : P.op u.p = 26 → (zk_kd u 0 = 4 ↔ v.N (v.S + 7) = 4)) : zf_go P u u' v v' := by
  obtain ⟨a1, a2, a3⟩ := a
  obtain ⟨b1, b2, b3⟩ := b
  rw [← e.1] at b1 b2 b3
  by_cases c1 : P.op u.p = 24 ∨ (P.op u.p = 25 ∧ zi32 (zk_tv u 0) = 0) ∨ (P.op u.p = 26 ∧ zk_kd u 0 = 4) ∨ (P.op u.p = 27 ∧ zi32 (zk_tv u 0) = 0)
  · refine zf_gt_go (a1 c1) (b1 ?_)
    rcases c1 with c | c | c | c
    · exact Or.inl c
    · exact Or.inr (Or.inl ⟨c.1, by rw [← t1 (Or.inl c.1)]; exact c.2⟩)
    · exact Or.inr (Or.inr (Or.inl ⟨c.1, (t2 c.1).mp c.2⟩))
    · exact Or.inr (Or.inr (Or.inr ⟨c.1, by rw [← t1 (Or.inr c.1)]; exact c.2⟩))
  · by_cases c2 : P.op u.p = 27 ∧ zi32 (zk_tv u 0) = 1
    · exact zf_gt_go (a2 c2) (b2 ⟨c2.1, by rw [← t1 (Or.inr c2.1)]; exact c2.2⟩)
    · refine zf_nx_go (a3 fun z => ?_) (b3 fun z => ?_) e
      · rcases z with z | z | z | ⟨z1, z | z⟩
        · exact c1 (Or.inl z)
        · exact c1 (Or.inr (Or.inl z))
        · exact c1 (Or.inr (Or.inr (Or.inl z)))
        · exact c1 (Or.inr (Or.inr (Or.inr ⟨z1, z⟩)))
        · exact c2 ⟨z1, z⟩
      · rcases z with z | z | z | ⟨z1, z | z⟩
        · exact c1 (Or.inl z)
        · exact c1 (Or.inr (Or.inl ⟨z.1, (t1 (Or.inl z.1)).trans z.2⟩))
        · exact c1 (Or.inr (Or.inr (Or.inl ⟨z.1, (t2 z.1).mpr z.2⟩)))
        · exact c1 (Or.inr (Or.inr (Or.inr ⟨z1, (t1 (Or.inr z1)).trans z⟩)))
        · exact c2 ⟨z1, (t1 (Or.inr z1)).trans z⟩
/-- a fault that is raised, by the machine or by the code -/
theorem zf_raise (hP : P.gd) (G : zf_G P g u v k) (k9 : 0 ≤ k) (hl : ∀ j, 0 ≤ j → j < 8 → (zk_x P u).2.2 j = u.N j) (hl2 : ∀ j, 0 ≤ j → j < 8 → (zf_x P v).2.2 j = v.N j) (rw1 : zk_rw u u') (n1 : v.n ≤ v'.n) (n2 : v'.n ≤ v.n + 1) (R : zf_rows g u.n u.L u.C v'.n v'.L v'.C) (lk : ∀ q, 0 ≤ q → q < v.n → v'.L q = v.L q) {kd w c : Int} (kk : kd = 7 ∨ kd = 8) (hw : (0 ≤ w ∧ w < v'.n) ∧ v'.L w = c ∧ -2147483648 ≤ c ∧ c ≤ 2147483647) (hr : u'.r = v'.r) (a : zk_ra P u u' kd c) (b : zf_ra P v v' kd w c) : (∃ g', zf_G P g' u' v' (k + 1)) ∨ zf_E u.p u' v' := by
  obtain ⟨⟨q1, q2, q3, q4, q5, q6, q7⟩, ⟨e1, e2, e3⟩, ⟨c1, c2, c3, c4, c5, c6, c7, c8⟩, m1, m2⟩ := G
  obtain ⟨t, ta, a⟩ := a
  obtain ⟨s, sa, b⟩ := b
  rw [← e1] at sa
  have ts := ta.u sa
  subst ts
  have s0 : 0 ≤ u.S := q3.2.1
  rcases a with ⟨a1, a2, a3, a4, a5, a6⟩ | ⟨a1, a2, a3, a4, a5, a6, a7⟩
  · rcases b with ⟨b1, b2, b3, b4, b5⟩ | ⟨b1, _⟩
    · exact Or.inr ⟨⟨a4, b4⟩, a6, by rw [a5, b5, c3, c4], fun _ => by rw [b3, a3], fun z => absurd (a5.trans c3) z, by rw [a2, b2], hr, fun _ => Or.inr a3, fun _ z => by rw [a3] at z; exact absurd z (by decide)⟩
    · omega
  · rcases b with ⟨b1, _⟩ | ⟨b1, b2, b3, b4, b5, b6, b7⟩
    · omega
    · rcases zf_gt_go a7 b7 with ⟨g1, g2, g3, g4, g5, g6⟩ | ⟨g1, g2, g3, g4, g5, g6⟩
      · refine Or.inl ⟨g, ⟨by rw [a2, b2], fun j j0 j1 => ?_, ?_, fun j j0 j1 => ?_, ?_, R.sm rw1.1 rw1.2.1 rw1.2.2, by omega⟩, ⟨g2.symm, g1⟩, ⟨by rw [g5, c1], by rw [g6, c2], by rw [g3, c3], by rw [g4, c4], by rw [a5, c5], by rw [a6, c6], by rw [b6, c7], hr⟩, ?_, by omega⟩
        · rw [a2] at j1
          by_cases y : j = 8
          · rw [y, b4, a3 8 (by decide), if_pos rfl]
          · rw [b3 j j0 (by omega), hl2 j j0 (by omega), a3 j j0, if_neg y, hl j j0 (by omega), q2 j j0 (by omega)]
        · rw [a2]
          refine ⟨⟨zw_cg q3.1.1 (fun j j0 j1 => by show u'.N j = u.N j; rw [a3 j j0, if_neg (by omega)]; exact hl j j0 j1), fun j j0 j1 => ?_⟩, by show (0 : Int) ≤ 1; decide, by show (1 : Int) ≤ 6; decide⟩
          have y : j = 8 := by dsimp only at j1; omega
          have z9 : u'.N j = kd := by rw [a3 j (by omega), if_pos y]
          show (u'.N j = 2 → _) ∧ (u'.N j = 3 → _)
          rw [z9]
          exact ⟨fun z => by omega, fun z => by omega⟩
        · rw [a2] at j1
          by_cases y : j = 8
          · rw [a3 j j0, if_pos y]; omega
          · rw [a3 j j0, if_neg y, hl j j0 (by omega)]; exact q4 j j0 (by omega)
        · rw [a2]
          refine ⟨fun j j0 j1 z => ?_, fun j j0 j1 z => ?_⟩
          · have eN : u'.N j = u.N j := by rw [a3 j j0, if_neg (by omega)]; exact hl j j0 j1
            rw [eN] at z ⊢
            rw [a4 j j0, if_neg (by omega), b5 j j0, if_neg (by omega)]
            exact (q5.1 j j0 j1 z).m (by rw [rw1.1]; exact Int.le_refl _) n1 (fun _ _ _ => rfl) lk
          · have y : j = 8 := by omega
            have z9 : u'.N j = kd := by rw [a3 j (by omega), if_pos y]
            rw [z9, if_neg (by omega), a4 j (by omega), if_pos y, b5 j (by omega), if_pos y]
            exact ⟨fun z => by omega, fun z => by omega, fun z => by omega, fun _ => hw⟩
        · have t2 : zf_tp u' = 0 := by
            unfold zf_tp
            rw [a2, if_neg]
            intro z
            have z9 : u'.N (1 + 7) = kd := by rw [a3 _ (by decide), if_pos (by decide)]
            omega
          have := (zf_tp_le (u := u)).1
          have := rw1.1
          omega
      · exact Or.inr ⟨⟨g2, g3⟩, g1, g4, fun z => absurd z g5, fun _ => by rw [g6, e1], by rw [a6, b6, c6, c7], hr, fun z => absurd z g5, fun z => absurd z g5⟩
theorem zf_rf_6 {o a t r : Int} {K V L : Int → Int} (b : zf_rf o a t K V L r) : 0 ≤ r ∧ r ≤ 6 := by
  obtain ⟨y1, y2, y3, y4, y5, y6, y7⟩ := b
  by_cases e : o = 7
  · have z := y1 e; clear y1 y2 y3 y4 y5 y6 y7; omega
  by_cases e : o = 13
  · have z := y2 e; clear y1 y2 y3 y4 y5 y6 y7; omega
  by_cases e : o = 17
  · have z := y3 e; clear y1 y2 y3 y4 y5 y6 y7; rcases z with z | z | z <;> omega
  by_cases e : o = 18
  · have z := y4 e; clear y1 y2 y3 y4 y5 y6 y7; rcases z with z | z | z <;> omega
  by_cases e : o = 21
  · have z := y6 e; clear y1 y2 y3 y4 y5 y6 y7; rcases z with z | z <;> omega
  by_cases e : o = 19 ∨ o = 20 ∨ o = 22
  · have z := y5 e; clear y1 y2 y3 y4 y5 y6 y7; omega
  · have z := y7 (by clear y1 y2 y3 y4 y5 y6 y7; omega); omega
set_option maxHeartbeats 4000000 in
/-- a step -/
theorem zf_step (hP : P.gd) (hO : ∀ p, 0 ≤ p → p < P.n → -2147483648 ≤ P.one p ∧ P.one p ≤ 2147483647) (k9 : 0 ≤ k ∧ k ≤ 299) (G : zf_G P g u v k) (A : zk_st P u u') (B : zf_st P v v') : (∃ g', zf_G P g' u' v' (k + 1)) ∨ zf_E u.p u' v' := by
  have G9 := G
  obtain ⟨⟨q1, q2, q3, q4, q5, q6, q7⟩, ⟨e1, e2, e3⟩, ⟨c1, c2, c3, c4, c5, c6, c7, c8⟩, m1, m2⟩ := G
  obtain ⟨ho, h21⟩ := hP.1 u.p e2 e3
  have hone := hO u.p e2 e3
  have tp0 := (zf_tp_le (u := u)).1
  have s0 : 0 ≤ u.S := q3.2.1
  have fC := zc_ap_f (o := P.op u.p) (a := P.one u.p) (x := (0, u.S, u.N)) rfl q3 ho (fun z => (h21 z).1)
  have fR : zt_ag (zs_ap (P.op u.p) (P.one u.p) (0, u.S, u.N)) (zs_ap (P.op u.p) (P.one u.p) (0, v.S, v.N)) := zs_ap_ag ⟨rfl, q1, fun j j0 j1 => (q2 j j0 (by dsimp only at j1; omega)).symm⟩ s0 ho
  have wX := zw_ap q3 ho (fun z => (h21 z).1)
  have kX : zk_T (zs_ap (P.op u.p) (P.one u.p) (0, u.S, u.N)) := zk_ap ho s0 q4 (fun z => by have := h21 z; omega)
  have eX : zf_x P v = zs_ap (P.op u.p) (P.one u.p) (0, v.S, v.N) := by unfold zf_x; rw [← e1]
  have eU : zk_x P u = zc_ap (P.op u.p) (P.one u.p) (0, u.S, u.N) := rfl
  rw [← eX] at fR
  rw [← eU] at fC
  rcases A with ⟨a1, a2, a3, a4, a5, a6, a7⟩ | ⟨a1, r, a2, a3⟩
  · rcases B with ⟨b1, b2, b3, b4, b5, b6⟩ | ⟨b1, _⟩
    · exact Or.inr ⟨⟨a3, b3⟩, a4, by rw [a2, b2, fC.1, fR.1], fun z => absurd (a2.symm.trans z) a1, fun _ => by rw [b4, e1], by rw [a6, b5, c6, c7], by rw [a7, b6, c8], fun z => absurd (a2.symm.trans z) a1, fun z => absurd (a2.symm.trans z) a1⟩
    · exact absurd (fC.1.trans (fR.1.trans b1)) a1
  · rcases B with ⟨b1, _⟩ | ⟨b1, r2, b2, b3⟩
    · exact absurd (fR.1.symm.trans (fC.1.symm.trans a1)) b1
    · have x0 : (zs_ap (P.op u.p) (P.one u.p) (0, u.S, u.N)).1 = 0 := fC.1.symm.trans a1
      have aG := fC.2 a1
      rw [← e1, ← q1] at b2
      have rr : r = r2 := zf_rf_u q3 q2 q5 q6 (by omega) (by omega) x0 a2 b2
      subst rr
      have nb : ∀ j, 0 ≤ j → j < 8 + u.S → v.N j = u.N j := q2
      have locs : (P.op u.p = 7 ∨ P.op u.p = 13 ∨ (17 ≤ P.op u.p ∧ P.op u.p ≤ 22)) → (∀ j, 0 ≤ j → j < 8 → (zk_x P u).2.2 j = u.N j) ∧ (∀ j, 0 ≤ j → j < 8 → (zf_x P v).2.2 j = v.N j) := fun z => by
        have l := zf_loc q3 z x0
        have sS : 0 ≤ (zs_ap (P.op u.p) (P.one u.p) (0, u.S, u.N)).2.1 := wX.2.1
        have sC : (zk_x P u).2.1 = (zs_ap (P.op u.p) (P.one u.p) (0, u.S, u.N)).2.1 := aG.2.1
        refine ⟨fun j j0 j1 => (aG.2.2 j j0 (by omega)).trans (l j j0 j1), fun j j0 j1 => (fR.2.2 j j0 (by omega)).symm.trans ((l j j0 j1).trans (q2 j j0 (by omega)).symm)⟩
      rcases a3 with ⟨a3, a4, a5, a6⟩ | ⟨a3, a4, a5⟩
      · rcases b3 with ⟨_, b4, b5, b6⟩ | ⟨b3, _⟩
        · have zo : P.op u.p = 7 ∨ P.op u.p = 13 ∨ (17 ≤ P.op u.p ∧ P.op u.p ≤ 22) := Classical.byContradiction fun y => a3 (a2.2.2.2.2.2.2 y)
          obtain ⟨l1, l2⟩ := locs zo
          have r6 : 0 ≤ r ∧ r ≤ 6 := zf_rf_6 b2
          exact zf_raise hP G9 k9.1 l1 l2 a5 (by have := b5.1; omega) (by have := b5.1; omega) (q6.th b5) b5.l.2 (Or.inl rfl) ⟨by have := b5.1; omega, by rw [b5.2.1 _ q7, if_pos rfl], by omega⟩ (by omega) a6 b6
        · exact absurd b3 a3
      · subst a3
        rcases b3 with ⟨b3, _⟩ | ⟨_, b4, b5⟩
        · exact absurd rfl b3
        · rw [← e1] at b5
          have hr : u'.r = v'.r := by rw [a4, b4, c8]
          rcases a5 with ⟨a5, a6, a7⟩ | ⟨a5, a6, a7, a8, a9, a10, a11, a12, a13, a14⟩ | ⟨a5, a6, a7, a8, a9, a10, a11, a12, a13⟩
          · rcases b5 with ⟨b5, b6, b7⟩ | ⟨b5, _⟩ | ⟨b5, _⟩
            · obtain ⟨l1, l2⟩ := locs (by omega)
              rw [a5] at x0
              obtain ⟨d1, t1, _⟩ := zf_o22 x0
              have k1 : u.N (u.S + 7) = 7 ∨ u.N (u.S + 7) = 8 := by
                rcases b2.2.2.2.2.1 (Or.inr (Or.inr a5)) with z | z
                · omega
                · have z1 := z.1
                  rw [q2 _ (by omega) (by omega)] at z1
                  omega
              obtain ⟨y1, y2, y3⟩ := zf_at7 q5 (j := u.S + 7) (by omega) (by omega) k1
              rw [← q1, q2 _ (by omega) (by omega), zi32_i (by omega) (by omega), y2] at b7
              have kd : zk_kd u 0 = u.N (u.S + 7) := by unfold zk_kd; rw [if_pos (by omega), show u.S + 7 - 0 = u.S + 7 by omega]
              have tv : zk_tv u 0 = u.V (u.S + 7) := by unfold zk_tv; rw [show u.S + 7 - 0 = u.S + 7 by omega]
              rw [kd, tv] at a7
              exact zf_raise hP G9 k9.1 l1 l2 a6 (by have := b6.1; omega) (by have := b6.1; omega) (q6.rs b6) b6.l.2 k1 ⟨by have := b6.1; omega, by rw [b6.2.1 _ y1.1]; exact y2, y3⟩ hr a7 b7
            · omega
            · exact absurd a5 b5
          · rcases b5 with ⟨b5, _⟩ | ⟨b5, b6, b7, b8, b9, b10, b11, b12, b13⟩ | ⟨_, b5, _⟩
            · omega
            · have xe : zs_ap (P.op u.p) (P.one u.p) (0, u.S, u.N) = (0, u.S, u.N) := by rw [a5]; rfl
              have uS : u'.S = u.S := by rw [a7, aG.2.1, xe]
              have uN : ∀ j, 0 ≤ j → j < 8 + u.S → u'.N j = u.N j := fun j j0 j1 => by
                rw [a8 j j0]
                have z := aG.2.2 j j0 (by have z2 := aG.2.1; rw [xe] at z2; have z3 : (zk_x P u).2.1 = u.S := z2; omega)
                rw [xe] at z
                exact z
              refine Or.inr ⟨⟨a11, b11⟩, a14, by rw [a12, b12, c3, c4], fun _ => by rw [b10, a10], fun z => absurd (a12.trans c3) z, by rw [a13, b13, c6, c7], hr, fun _ => Or.inl a10, fun _ _ => ⟨g, ⟨by rw [uS, b7, q1], fun j j0 j1 => ?_, ?_, fun j j0 j1 => ?_, ?_, (q6.sm a6.1 a6.2.1 a6.2.2).rs b6, by have := b6.1; omega⟩, by have := a6.1; omega, by have := b6.1; omega⟩⟩
              · rw [uS] at j1
                rw [b8 j j0, uN j j0 j1]; exact q2 j j0 j1
              · rw [uS]
                exact ⟨⟨zw_cg q3.1.1 (fun j j0 j1 => uN j j0 (by omega)), zw_cg q3.1.2 (fun j j0 j1 => uN j (by omega) j1)⟩, q3.2⟩
              · rw [uS] at j1
                rw [uN j j0 j1]; exact q4 j j0 j1
              · rw [uS]
                exact (q5.m (by rw [a6.1]; exact Int.le_refl _) b6.l.1 (fun _ _ _ => rfl) b6.l.2).dn (Int.le_refl _) (fun j j0 j1 => uN j j0 (by omega)) a9 b9
            · exact absurd a5 b5
          · rcases b5 with ⟨b5, _⟩ | ⟨b5, _⟩ | ⟨_, _, b5, b6, b7, b8, b9, b10⟩
            · exact absurd b5 a5
            · exact absurd b5 a6
            · have sC : (zk_x P u).2.1 = (zs_ap (P.op u.p) (P.one u.p) (0, u.S, u.N)).2.1 := aG.2.1
              have sR : (zf_x P v).2.1 = (zs_ap (P.op u.p) (P.one u.p) (0, u.S, u.N)).2.1 := fR.2.1.symm
              rw [sC] at a7 a10 a12
              rw [← q1] at b7
              have s1 : 0 ≤ (zs_ap (P.op u.p) (P.one u.p) (0, u.S, u.N)).2.1 := wX.2.1
              have eN : ∀ j, 0 ≤ j → j < 8 + (zs_ap (P.op u.p) (P.one u.p) (0, u.S, u.N)).2.1 → u'.N j = if P.op u.p = 21 ∧ j = (zs_ap (P.op u.p) (P.one u.p) (0, u.S, u.N)).2.1 + 7 then u.N (u.S + 7) else (zs_ap (P.op u.p) (P.one u.p) (0, u.S, u.N)).2.2 j := fun j j0 j1 => by
                by_cases y : P.op u.p = 21
                · rw [a12 y j j0]
                  have d1 : ¬ u.S = 0 := by rw [y] at x0; exact (zf_o21 x0).1
                  by_cases y2 : j = (zs_ap (P.op u.p) (P.one u.p) (0, u.S, u.N)).2.1 + 7
                  · rw [if_pos y2, if_pos ⟨y, y2⟩]
                    unfold zk_kd
                    rw [if_pos (by omega), show u.S + 7 - 0 = u.S + 7 by omega]
                  · rw [if_neg y2, if_neg (fun z => y2 z.2)]
                    exact aG.2.2 j j0 (by omega)
                · rw [if_neg (fun z => y z.1), a11 y j j0]
                  exact aG.2.2 j j0 (by omega)
              obtain ⟨g', vs', rows'⟩ := zf_all ho a5 a6 (fun z => (h21 z).1) q3 q2 q5 q6 (by omega) (by omega) hone x0 b2 a10 b7 eN
              have t21 : P.op u.p = 21 → (zs_ap (P.op u.p) (P.one u.p) (0, u.S, u.N)).2.1 = u.S ∧ ∀ j, 0 ≤ j → j < 8 + u.S → u'.N j = u.N j := fun y => by
                have z1 := h21 y
                have x1 := x0
                rw [y] at x1
                obtain ⟨d1, d2, w1, _, _, _, w5⟩ := zf_o21 x1
                have w6 : (zs_ap (P.op u.p) (P.one u.p) (0, u.S, u.N)).2.1 = u.S := by
                  rw [y, w1]; unfold zs_wd; rw [if_neg (by omega)]; omega
                refine ⟨w6, fun j j0 j1 => ?_⟩
                rw [eN j j0 (by omega), w6]
                by_cases y2 : j = u.S + 7
                · rw [if_pos ⟨y, y2⟩, y2]
                · rw [if_neg (fun z => y2 z.2), y]; exact w5 j (by omega)
              have uW : zw_ok (0, u'.S, u'.N) := by
                rw [a7]
                by_cases y : P.op u.p = 21
                · obtain ⟨y1, y2⟩ := t21 y
                  rw [y1]
                  exact ⟨⟨zw_cg q3.1.1 (fun j j0 j1 => y2 j j0 (by omega)), zw_cg q3.1.2 (fun j j0 j1 => y2 j (by omega) j1)⟩, q3.2⟩
                · have eM : ∀ j, 0 ≤ j → j < 8 + (zs_ap (P.op u.p) (P.one u.p) (0, u.S, u.N)).2.1 → u'.N j = (zs_ap (P.op u.p) (P.one u.p) (0, u.S, u.N)).2.2 j := fun j j0 j1 => by rw [eN j j0 j1, if_neg (fun z => y z.1)]
                  exact ⟨⟨zw_cg wX.1.1 (fun j j0 j1 => eM j j0 (by omega)), zw_cg wX.1.2 (fun j j0 j1 => eM j (by omega) j1)⟩, wX.2⟩
              have uK : zk_in u'.S u'.N := fun j j0 j1 => by
                rw [a7] at j1
                by_cases y : P.op u.p = 21
                · obtain ⟨y1, y2⟩ := t21 y
                  rw [y2 j j0 (by omega)]; exact q4 j j0 (by omega)
                · rw [eN j j0 j1, if_neg (fun z => y z.1)]; exact kX j j0 j1
              have uV : ∀ j, 0 ≤ j → j < 8 + u'.S → v'.N j = u'.N j := fun j j0 j1 => by
                rw [a7] at j1
                by_cases y : P.op u.p = 21
                · obtain ⟨y1, y2⟩ := t21 y
                  have d1 : ¬ u.S = 0 := by rw [y] at x0; exact (zf_o21 x0).1
                  rw [y2 j j0 (by omega), b9 y j j0, ← q1]
                  by_cases y3 : j = u.S + 7
                  · rw [if_pos y3, y3]; exact q2 _ (by omega) (by omega)
                  · rw [if_neg y3, ← fR.2.2 j j0 (by omega)]
                    have z := eN j j0 j1
                    rw [if_neg (fun z => y3 (by omega)), y2 j j0 (by omega)] at z
                    exact z.symm
                · rw [b8 y j j0, ← fR.2.2 j j0 (by omega), eN j j0 j1, if_neg (fun z => y z.1)]
              have nn : (P.op u.p = 7 → u'.n = u.n + 1) ∧ (¬ P.op u.p = 7 → u'.n = u.n) := by
                refine ⟨fun y => ?_, fun y => (a10.2.2.2.2.2.2.2.1 y).1⟩
                have x1 := x0
                rw [y] at x1
                obtain ⟨d1, d2, _⟩ := zf_o7 x1
                obtain ⟨z1, z2⟩ := zf_at1 q5 (j := u.S + 7) (by omega) (by omega) d2
                have z3 := b2.1 y
                have e0 : zi32 (zk_tv u 0) = v.V (u.S + 7) := by unfold zk_tv; rw [show u.S + 7 - 0 = u.S + 7 by omega, zi32_i z2.1 z2.2, z1]
                exact (a10.2.2.1 y ⟨by omega, by rw [e0]; omega⟩).2.1
              have mm : v'.n ≤ v.n + 1 ∧ 0 ≤ v'.n := by
                obtain ⟨f1, f2, f3, f4, f5, f6, f7, f8, f9, f10, f11, f12, f13, f14, f15, f16, f17⟩ := b7
                by_cases y : P.op u.p = 4 ∨ P.op u.p = 5
                · have := (f3 y).1.1; omega
                by_cases y : P.op u.p = 6
                · have := (f4 y).1.1; omega
                by_cases y : P.op u.p = 7
                · have := (f5 y).1.1; omega
                by_cases y : P.op u.p = 18
                · have := (f13 y).2.2.1; omega
                · have := (f17 (by omega)).1; omega
              have phi : 2 * u'.n + zf_tp u' ≤ 16 + (k + 1) := by
                have t1 := (zf_tp_le (u := u')).2
                by_cases y : P.op u.p = 7
                · have z := nn.1 y
                  have x1 := x0
                  rw [y] at x1
                  obtain ⟨d1, d2, w⟩ := zf_o7 x1
                  have t0 : zf_tp u = 1 := by unfold zf_tp; rw [if_pos ⟨by omega, d2⟩]
                  have w1 : (zs_ap (P.op u.p) (P.one u.p) (0, u.S, u.N)).2.1 = u.S := by rw [y, w.1]; show u.S - 1 + 1 = u.S; omega
                  have t2 : zf_tp u' = 0 := by
                    unfold zf_tp
                    rw [if_neg]
                    rintro ⟨_, z2⟩
                    rw [a7, w1, eN _ (by omega) (by omega), if_neg (fun z => by omega), y, show u.S + 7 = u.S - 1 + 8 by omega, w.2.2.1] at z2
                    exact absurd z2 (by decide)
                  omega
                · have := nn.2 y; omega
              have sS : zf_S g' u' v' := ⟨by rw [a7, b5, sR], uV, uW, uK, by rw [a7]; exact vs', rows', mm.2⟩
              have t1 : P.op u.p = 25 ∨ P.op u.p = 27 → zi32 (zk_tv u 0) = v.V (v.S + 7) := fun y => by
                have d : ¬ u.S = 0 ∧ u.N (u.S + 7) = 1 := by
                  rcases y with y | y
                  · rw [y] at x0; obtain ⟨d1, d2, _⟩ := zf_n1 (show (zs_need 1 (0, u.S, u.N)).1 = 0 from x0); exact ⟨d1, d2⟩
                  · rw [y] at x0; obtain ⟨d1, d2, _⟩ := zf_n1 (show (zs_need 1 (0, u.S, u.N)).1 = 0 from x0); exact ⟨d1, d2⟩
                obtain ⟨z1, z2⟩ := zf_at1 q5 (j := u.S + 7) (by omega) (by omega) d.2
                unfold zk_tv
                rw [show u.S + 7 - 0 = u.S + 7 by omega, zi32_i z2.1 z2.2, ← z1, q1]
              have t2 : P.op u.p = 26 → (zk_kd u 0 = 4 ↔ v.N (v.S + 7) = 4) := fun y => by
                have d : ¬ u.S = 0 := by rw [y] at x0; exact (zf_n5 (show (zs_need 5 (0, u.S, u.N)).1 = 0 from x0)).1
                unfold zk_kd
                rw [if_pos (by omega), show u.S + 7 - 0 = u.S + 7 by omega, ← q1, q2 _ (by omega) (by omega)]
              rcases zf_gf_go a13 b10 ⟨e1, e2, e3⟩ t1 t2 with ⟨g1, g2, g3, g4, g5, g6⟩ | ⟨g1, g2, g3, g4, g5, g6⟩
              · exact Or.inl ⟨g', sS, ⟨g2.symm, g1⟩, ⟨by rw [g5, c1], by rw [g6, c2], by rw [g3, c3], by rw [g4, c4], by rw [a8, c5], by rw [a9, c6], by rw [b6, c7], hr⟩, phi, by omega⟩
              · exact Or.inr ⟨⟨g2, g3⟩, g1, g4, fun z => absurd z g5, fun _ => by rw [g6, e1], by rw [a9, b6, c6, c7], hr, fun z => absurd z g5, fun z => absurd z g5⟩
end ZY
