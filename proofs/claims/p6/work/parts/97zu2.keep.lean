/-! ===== 97zu2: a step of the class keeps what it rests on ===== -/
theorem zk_keep {P : zP} {u u' : zK} (hP : P.gd) (pl : 0 ≤ u.p ∧ u.p < P.n) (q3 : zw_ok (0, u.S, u.N)) (q4 : zk_in u.S u.N) (A : zk_st P u u') : (u'.e = 1 ∨ (u'.e = u.e ∧ (0 ≤ u'.p ∧ u'.p < P.n) ∧ zw_ok (0, u'.S, u'.N) ∧ zk_in u'.S u'.N)) ∧ (u'.r = u.r ∨ u'.r = u.r + 1) := by
  obtain ⟨ho, h21⟩ := hP.1 u.p pl.1 pl.2
  have s0 : 0 ≤ u.S := q3.2.1
  have fC := zc_ap_f (o := P.op u.p) (a := P.one u.p) (x := (0, u.S, u.N)) rfl q3 ho (fun z => (h21 z).1)
  have wX := zw_ap q3 ho (fun z => (h21 z).1)
  have kX : zk_T (zs_ap (P.op u.p) (P.one u.p) (0, u.S, u.N)) := zk_ap ho s0 q4 (fun z => by have := h21 z; omega)
  have eU : zk_x P u = zc_ap (P.op u.p) (P.one u.p) (0, u.S, u.N) := rfl
  rw [← eU] at fC
  rcases A with ⟨a1, a2, a3, a4, a5, a6, a7⟩ | ⟨a1, r, a2, a3⟩
  · exact ⟨Or.inl a3, Or.inl a7⟩
  · have x0 : (zs_ap (P.op u.p) (P.one u.p) (0, u.S, u.N)).1 = 0 := fC.1.symm.trans a1
    have aG := fC.2 a1
    have sC : (zk_x P u).2.1 = (zs_ap (P.op u.p) (P.one u.p) (0, u.S, u.N)).2.1 := aG.2.1
    have sS : 0 ≤ (zs_ap (P.op u.p) (P.one u.p) (0, u.S, u.N)).2.1 := wX.2.1
    have rs : ∀ {kd c : Int}, (kd = 4 ∨ kd = 7 ∨ kd = 8) → zk_ra P u u' kd c → (u'.e = 1 ∨ (u'.e = u.e ∧ (0 ≤ u'.p ∧ u'.p < P.n) ∧ zw_ok (0, u'.S, u'.N) ∧ zk_in u'.S u'.N)) := fun {kd c} kk a => by
      obtain ⟨t, ta, a⟩ := a
      rcases a with ⟨_, _, _, b4, _⟩ | ⟨b1, b2, b3, b4, b5, b6, b7⟩
      · exact Or.inl b4
      · rcases b7 with ⟨g1, g2, g3, g4⟩ | ⟨_, _, _, g4⟩
        · refine Or.inr ⟨g4, by rw [g2]; exact g1, ?_, ?_⟩
          · rw [b2]
            refine ⟨⟨zw_cg wX.1.1 (fun j j0 j1 => by show u'.N j = _; rw [b3 j j0, if_neg (by omega)]; exact aG.2.2 j j0 (by omega)), fun j j0 j1 => ?_⟩, by show (0 : Int) ≤ 1; decide, by show (1 : Int) ≤ 6; decide⟩
            have y : j = 8 := by dsimp only at j1; omega
            have z9 : u'.N j = kd := by rw [b3 j (by omega), if_pos y]
            show (u'.N j = 2 → _) ∧ (u'.N j = 3 → _)
            rw [z9]
            exact ⟨fun z => by omega, fun z => by omega⟩
          · rw [b2]
            intro j j0 j1
            by_cases y : j = 8
            · rw [b3 j j0, if_pos y]; omega
            · rw [b3 j j0, if_neg y, aG.2.2 j j0 (by omega)]; exact kX j j0 (by omega)
        · exact Or.inl g4
    rcases a3 with ⟨a3, a4, a5, a6⟩ | ⟨a3, a4, a5⟩
    · exact ⟨rs (by omega) a6, Or.inr a4⟩
    · refine ⟨?_, Or.inl a4⟩
      rcases a5 with ⟨a5, a6, a7⟩ | ⟨a5, a6, a7, a8, a9, a10, a11, a12, a13, a14⟩ | ⟨a5, a6, a7, a8, a9, a10, a11, a12, a13⟩
      · refine rs ?_ a7
        rw [a5] at x0
        obtain ⟨d1, t1, _⟩ := zf_o22 x0
        have kd : zk_kd u 0 = u.N (u.S + 7) := by unfold zk_kd; rw [if_pos (by omega), show u.S + 7 - 0 = u.S + 7 by omega]
        omega
      · exact Or.inl a11
      · rw [sC] at a7 a10 a12
        have go : u'.e = 1 ∨ (u'.e = u.e ∧ (0 ≤ u'.p ∧ u'.p < P.n)) := by
          have gt : ∀ q, zk_gt P u u' q → u'.e = 1 ∨ (u'.e = u.e ∧ (0 ≤ u'.p ∧ u'.p < P.n)) := fun q g => by
            rcases g with ⟨g1, g2, g3, g4⟩ | ⟨_, _, _, g4⟩
            · exact Or.inr ⟨g4, by rw [g2]; exact g1⟩
            · exact Or.inl g4
          obtain ⟨g1, g2, g3⟩ := a13
          by_cases c1 : P.op u.p = 24 ∨ (P.op u.p = 25 ∧ zi32 (zk_tv u 0) = 0) ∨ (P.op u.p = 26 ∧ zk_kd u 0 = 4) ∨ (P.op u.p = 27 ∧ zi32 (zk_tv u 0) = 0)
          · exact gt _ (g1 c1)
          · by_cases c2 : P.op u.p = 27 ∧ zi32 (zk_tv u 0) = 1
            · exact gt _ (g2 c2)
            · have g4 := g3 (fun z => by
                rcases z with z | z | z | ⟨z1, z | z⟩
                · exact c1 (Or.inl z)
                · exact c1 (Or.inr (Or.inl z))
                · exact c1 (Or.inr (Or.inr (Or.inl z)))
                · exact c1 (Or.inr (Or.inr (Or.inr ⟨z1, z⟩)))
                · exact c2 ⟨z1, z⟩)
              rcases g4 with ⟨y1, y2, y3, y4⟩ | ⟨_, _, _, y4⟩
              · exact Or.inr ⟨y4, by omega⟩
              · exact Or.inl y4
        rcases go with go | ⟨go1, go2⟩
        · exact Or.inl go
        · refine Or.inr ⟨go1, go2, ?_⟩
          have eN : ∀ j, 0 ≤ j → j < 8 + (zs_ap (P.op u.p) (P.one u.p) (0, u.S, u.N)).2.1 → u'.N j = if P.op u.p = 21 ∧ j = (zs_ap (P.op u.p) (P.one u.p) (0, u.S, u.N)).2.1 + 7 then u.N (u.S + 7) else (zs_ap (P.op u.p) (P.one u.p) (0, u.S, u.N)).2.2 j := fun j j0 j1 => by
            by_cases y : P.op u.p = 21
            · rw [a12 y j j0]
              have d1 : ¬ u.S = 0 := by rw [y] at x0; exact (zf_o21 x0).1
              by_cases y2 : j = (zs_ap (P.op u.p) (P.one u.p) (0, u.S, u.N)).2.1 + 7
              · rw [if_pos y2, if_pos ⟨y, y2⟩]
                unfold zk_kd
                rw [if_pos (by omega), show u.S + 7 - 0 = u.S + 7 by omega]
              · rw [if_neg y2, if_neg (fun z => y2 z.2)]
                exact aG.2.2 j j0 (by omega)
            · rw [if_neg (fun z => y z.1), a11 y j j0]
              exact aG.2.2 j j0 (by omega)
          have t21 : P.op u.p = 21 → (zs_ap (P.op u.p) (P.one u.p) (0, u.S, u.N)).2.1 = u.S ∧ ∀ j, 0 ≤ j → j < 8 + u.S → u'.N j = u.N j := fun y => by
            have z1 := h21 y
            have x1 := x0
            rw [y] at x1
            obtain ⟨d1, d2, w1, _, _, _, w5⟩ := zf_o21 x1
            have w6 : (zs_ap (P.op u.p) (P.one u.p) (0, u.S, u.N)).2.1 = u.S := by
              rw [y, w1]; unfold zs_wd; rw [if_neg (by omega)]; omega
            refine ⟨w6, fun j j0 j1 => ?_⟩
            rw [eN j j0 (by omega), w6]
            by_cases y2 : j = u.S + 7
            · rw [if_pos ⟨y, y2⟩, y2]
            · rw [if_neg (fun z => y2 z.2), y]; exact w5 j (by omega)
          rw [a7]
          by_cases y : P.op u.p = 21
          · obtain ⟨y1, y2⟩ := t21 y
            rw [y1]
            exact ⟨⟨⟨zw_cg q3.1.1 (fun j j0 j1 => y2 j j0 (by omega)), zw_cg q3.1.2 (fun j j0 j1 => y2 j (by omega) j1)⟩, q3.2⟩, fun j j0 j1 => by rw [y2 j j0 j1]; exact q4 j j0 j1⟩
          · have eM : ∀ j, 0 ≤ j → j < 8 + (zs_ap (P.op u.p) (P.one u.p) (0, u.S, u.N)).2.1 → u'.N j = (zs_ap (P.op u.p) (P.one u.p) (0, u.S, u.N)).2.2 j := fun j j0 j1 => by rw [eN j j0 j1, if_neg (fun z => y z.1)]
            exact ⟨⟨⟨zw_cg wX.1.1 (fun j j0 j1 => eM j j0 (by omega)), zw_cg wX.1.2 (fun j j0 j1 => eM j (by omega) j1)⟩, wX.2⟩, fun j j0 j1 => by rw [eM j j0 j1]; exact kX j j0 j1⟩
theorem zk_plc {P : zP} {u u' : zK} (pl : 0 ≤ u.p ∧ u.p < P.n) (A : zk_st P u u') : 0 ≤ u'.p ∧ u'.p < P.n := by
  have gt : ∀ q, zk_gt P u u' q → 0 ≤ u'.p ∧ u'.p < P.n := fun q g => by
    rcases g with ⟨g1, g2, _⟩ | ⟨_, g2, _⟩
    · rw [g2]; exact g1
    · rw [g2]; exact pl
  have ra : ∀ k c, zk_ra P u u' k c → 0 ≤ u'.p ∧ u'.p < P.n := fun k c a => by
    obtain ⟨t, _, a⟩ := a
    rcases a with ⟨_, _, _, _, _, b6⟩ | ⟨_, _, _, _, _, _, b7⟩
    · rw [b6]; exact pl
    · exact gt _ b7
  rcases A with ⟨_, _, _, a4, _⟩ | ⟨_, r, _, a3⟩
  · rw [a4]; exact pl
  · rcases a3 with ⟨_, _, _, a6⟩ | ⟨_, _, a5⟩
    · exact ra _ _ a6
    · rcases a5 with ⟨_, _, a7⟩ | ⟨_, _, _, _, _, _, _, _, _, a14⟩ | ⟨_, _, _, _, _, _, _, _, a13⟩
      · exact ra _ _ a7
      · rw [a14]; exact pl
      · obtain ⟨g1, g2, g3⟩ := a13
        by_cases c1 : P.op u.p = 24 ∨ (P.op u.p = 25 ∧ zi32 (zk_tv u 0) = 0) ∨ (P.op u.p = 26 ∧ zk_kd u 0 = 4) ∨ (P.op u.p = 27 ∧ zi32 (zk_tv u 0) = 0)
        · exact gt _ (g1 c1)
        · by_cases c2 : P.op u.p = 27 ∧ zi32 (zk_tv u 0) = 1
          · exact gt _ (g2 c2)
          · have g4 := g3 (fun z => by
              rcases z with z | z | z | ⟨z1, z | z⟩
              · exact c1 (Or.inl z)
              · exact c1 (Or.inr (Or.inl z))
              · exact c1 (Or.inr (Or.inr (Or.inl z)))
              · exact c1 (Or.inr (Or.inr (Or.inr ⟨z1, z⟩)))
              · exact c2 ⟨z1, z⟩)
            rcases g4 with ⟨y1, y2, _⟩ | ⟨_, y2, _⟩
            · omega
            · rw [y2]; exact pl
