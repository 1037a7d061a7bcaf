/-! ===== 87d: a table as the class holds it ===== -/
/-- rows that hold a table: sizes (-1: not reached), kinds (fourteen a place); whether something was changed -/
def zc_a (D B : Int → Int) (c : Int) (s : zS) : Prop := (∀ p, 0 ≤ p → p < 60 → (¬ D p = -1 ↔ s.R p)) ∧ (∀ p, s.R p → D p = s.S p ∧ ∀ j, 0 ≤ j → j < 8 + s.S p → B (14 * p + j) = s.K p j) ∧ (c = 1 ↔ s.ch)
theorem zc_a_cg {P : zP} {D B D' B' : Int → Int} {c c' : Int} {s : zS} (n60 : P.n ≤ 60) (hi : zs_in P s) (h : zc_a D B c s) (ed : ∀ q, 0 ≤ q → D' q = D q) (eb : ∀ q, 0 ≤ q → B' q = B q) (e : c' = c) : zc_a D' B' c' s := by
  refine ⟨fun p p0 p1 => by rw [ed p p0]; exact h.1 p p0 p1, fun p hp => ?_, by rw [e]; exact h.2.2⟩
  have i := hi p hp
  have b := h.2.1 p hp
  exact ⟨by rw [ed p i.1]; exact b.1, fun j j0 j1 => by rw [eb _ (by omega)]; exact b.2 j j0 j1⟩
theorem zc_a_join {P : zP} {D B D' B' row ρ : Int → Int} {c c' q m e : Int} {s : zS} (n60 : P.n ≤ 60) (m0 : 0 ≤ m) (m6 : m ≤ 6) (ho : zs_ok P s) (h : zc_a D B c s) (hr : ∀ j, 0 ≤ j → j < 8 + m → row j = ρ j)
    (J : (¬ (0 ≤ q ∧ q < P.n) ∧ e = 7 ∧ (∀ q, 0 ≤ q → D' q = D q) ∧ (∀ q, 0 ≤ q → B' q = B q) ∧ c' = c)
      ∨ ((0 ≤ q ∧ q < P.n) ∧ D q = -1 ∧ e = 0 ∧ c' = 1 ∧ (∀ p, 0 ≤ p → D' p = if p = q then m else D p) ∧ (∀ j, 0 ≤ j → j < 8 + m → B' (14 * q + j) = row j) ∧ ∀ p, 0 ≤ p → (p < 14 * q ∨ 14 * q + 14 ≤ p) → B' p = B p)
      ∨ ((0 ≤ q ∧ q < P.n) ∧ ¬ D q = -1 ∧ ¬ D q = m ∧ e = 5 ∧ (∀ q, 0 ≤ q → D' q = D q) ∧ (∀ q, 0 ≤ q → B' q = B q) ∧ c' = c)
      ∨ ((0 ≤ q ∧ q < P.n) ∧ ¬ D q = -1 ∧ D q = m ∧ e = 0 ∧ (∀ p, 0 ≤ p → D' p = D p) ∧ (∀ p, 0 ≤ p → B' p = if 14 * q ≤ p ∧ p < 14 * q + (m + 8) then zs_jn (B p) (row (p - 14 * q)) else B p) ∧ (c' = 1 ↔ c = 1 ∨ ∃ j, 0 ≤ j ∧ j < m + 8 ∧ ¬ zs_jn (B (14 * q + j)) (row j) = B (14 * q + j)))) :
    e = (zs_join P s q ρ m).1 ∧ zc_a D' B' c' (zs_join P s q ρ m).2 := by
  have rq : 0 ≤ q ∧ q < P.n → (¬ D q = -1 ↔ s.R q) := fun z => h.1 q z.1 (by omega)
  rcases J with ⟨j1, j2, j3, j5, j6⟩ | ⟨j1, j2, j3, j4, j5, j6, j7⟩ | ⟨j1, j2, j3, j4, j5, j7, j8⟩ | ⟨j1, j2, j3, j4, j5, j7, j8⟩
  · rcases zs_join_c (P := P) (s := s) (q := q) (m := m) (row := ρ) with ⟨_, x⟩ | ⟨x, _⟩ | ⟨x, _⟩ | ⟨x, _⟩
    · rw [x]; exact ⟨j2, zc_a_cg n60 ho.2 h j3 j5 j6⟩
    · exact absurd x j1
    · exact absurd x j1
    · exact absurd x j1
  · have nr : ¬ s.R q := fun z => ((rq j1).2 z) j2
    rcases zs_join_c (P := P) (s := s) (q := q) (m := m) (row := ρ) with ⟨x, _⟩ | ⟨_, _, x⟩ | ⟨_, x, _⟩ | ⟨_, x, _⟩
    · exact absurd j1 x
    · rw [x]
      refine ⟨j3, fun p p0 p1 => ?_, fun p hp => ?_, ⟨fun _ => trivial, fun _ => j4⟩⟩
      · show ¬ D' p = -1 ↔ p = q ∨ s.R p
        rw [j5 p p0]
        by_cases z : p = q
        · rw [if_pos z]; exact ⟨fun _ => Or.inl z, fun _ => by omega⟩
        · rw [if_neg z]; exact ⟨fun y => Or.inr ((h.1 p p0 p1).1 y), fun y => (h.1 p p0 p1).2 (y.resolve_left z)⟩
      · show D' p = (if p = q then m else s.S p) ∧ ∀ j, 0 ≤ j → j < 8 + (if p = q then m else s.S p) → B' (14 * p + j) = (if p = q then ρ else s.K p) j
        by_cases z : p = q
        · rw [if_pos z, if_pos z, z]
          exact ⟨by rw [j5 q j1.1, if_pos rfl], fun j j0 jj => (j6 j j0 jj).trans (hr j j0 jj)⟩
        · have hp2 : s.R p := Or.resolve_left hp z
          have i := ho.2 p hp2
          have b := h.2.1 p hp2
          have w := (ho.1 p hp2).2
          dsimp only at w
          rw [if_neg z, if_neg z]
          refine ⟨by rw [j5 p i.1, if_neg z]; exact b.1, fun j j0 jj => ?_⟩
          rw [j7 _ (by omega) (by omega)]
          exact b.2 j j0 jj
    · exact absurd x nr
    · exact absurd x nr
  · have yr : s.R q := (rq j1).1 j2
    rcases zs_join_c (P := P) (s := s) (q := q) (m := m) (row := ρ) with ⟨x, _⟩ | ⟨_, x, _⟩ | ⟨_, _, _, x⟩ | ⟨_, _, x, _⟩
    · exact absurd j1 x
    · exact absurd yr x
    · rw [x]; exact ⟨j4, zc_a_cg n60 ho.2 h j5 j7 j8⟩
    · exact absurd ((h.2.1 q yr).1.trans x) j3
  · have yr : s.R q := (rq j1).1 j2
    have sq := (h.2.1 q yr).1
    have kq := (h.2.1 q yr).2
    rcases zs_join_c (P := P) (s := s) (q := q) (m := m) (row := ρ) with ⟨x, _⟩ | ⟨_, x, _⟩ | ⟨_, _, x, _⟩ | ⟨_, _, x0, x⟩
    · exact absurd j1 x
    · exact absurd yr x
    · exact absurd (sq.symm.trans j3) x
    · rw [x]
      refine ⟨j4, fun p p0 p1 => by rw [j5 p p0]; exact h.1 p p0 p1, fun p hp => ?_, ?_⟩
      · have hp2 : s.R p := hp
        have i := ho.2 p hp2
        have b := h.2.1 p hp2
        have w := (ho.1 p hp2).2
        dsimp only at w
        refine ⟨by rw [j5 p i.1]; exact b.1, fun j j0 (jj : j < 8 + s.S p) => ?_⟩
        show B' (14 * p + j) = if p = q then zs_jn (s.K p j) (ρ j) else s.K p j
        rw [j7 _ (by omega)]
        by_cases z : p = q
        · subst z
          rw [if_pos rfl, if_pos (by omega), show 14 * p + j - 14 * p = j by omega, b.2 j j0 jj, hr j j0 (by omega)]
        · rw [if_neg z, if_neg (by omega)]; exact b.2 j j0 jj
      · show c' = 1 ↔ s.ch ∨ ∃ j, 0 ≤ j ∧ j < 8 + m ∧ ¬ zs_jn (s.K q j) (ρ j) = s.K q j
        rw [j8]
        refine ⟨fun z => ?_, fun z => ?_⟩
        · rcases z with z | ⟨j, j0, jm, z⟩
          · exact Or.inl (h.2.2.1 z)
          · refine Or.inr ⟨j, j0, by omega, ?_⟩
            rw [← kq j j0 (by omega), ← hr j j0 (by omega)]; exact z
        · rcases z with z | ⟨j, j0, jm, z⟩
          · exact Or.inl (h.2.2.2 z)
          · refine Or.inr ⟨j, j0, by omega, ?_⟩
            rw [kq j j0 (by omega), hr j j0 (by omega)]; exact z
