/-! ===== 87b: a table in rows of ints ===== -/
/-- rows that hold a table: reached (1), kinds (fourteen a place), sizes; whether something was changed -/
def zr_a (A B C : Int → Int) (c : Int) (s : zS) : Prop := (∀ p, 0 ≤ p → p < 60 → (A p = 1 ↔ s.R p)) ∧ (∀ p, s.R p → C p = s.S p ∧ ∀ j, 0 ≤ j → j < 8 + s.S p → B (14 * p + j) = s.K p j) ∧ (c = 1 ↔ s.ch)
theorem zr_a_cg {P : zP} {A B C A' B' C' : Int → Int} {c c' : Int} {s : zS} (n60 : P.n ≤ 60) (hi : zs_in P s) (h : zr_a A B C c s) (ea : ∀ q, 0 ≤ q → A' q = A q) (ec : ∀ q, 0 ≤ q → C' q = C q) (eb : ∀ q, 0 ≤ q → B' q = B q) (e : c' = c) : zr_a A' B' C' c' s := by
  refine ⟨fun p p0 p1 => by rw [ea p p0]; exact h.1 p p0 p1, fun p hp => ?_, by rw [e]; exact h.2.2⟩
  have i := hi p hp
  have b := h.2.1 p hp
  exact ⟨by rw [ec p i.1]; exact b.1, fun j j0 j1 => by rw [eb _ (by omega)]; exact b.2 j j0 j1⟩
theorem zr_a_join {P : zP} {A B C A' B' C' row ρ : Int → Int} {c c' q m e : Int} {s : zS} (n60 : P.n ≤ 60) (m0 : 0 ≤ m) (m6 : m ≤ 6) (ho : zs_ok P s) (h : zr_a A B C c s) (hr : ∀ j, 0 ≤ j → j < 8 + m → row j = ρ j)
    (J : (¬ (0 ≤ q ∧ q < P.n) ∧ e = 7 ∧ (∀ q, 0 ≤ q → A' q = A q) ∧ (∀ q, 0 ≤ q → C' q = C q) ∧ (∀ q, 0 ≤ q → B' q = B q) ∧ c' = c)
      ∨ ((0 ≤ q ∧ q < P.n) ∧ ¬ A q = 1 ∧ e = 0 ∧ c' = 1 ∧ (∀ p, 0 ≤ p → A' p = if p = q then 1 else A p) ∧ (∀ p, 0 ≤ p → C' p = if p = q then m else C p) ∧ ∀ p, 0 ≤ p → B' p = if 14 * q ≤ p ∧ p < 14 * q + (m + 8) then row (p - 14 * q) else B p)
      ∨ ((0 ≤ q ∧ q < P.n) ∧ A q = 1 ∧ ¬ C q = m ∧ e = 5 ∧ (∀ q, 0 ≤ q → A' q = A q) ∧ (∀ q, 0 ≤ q → C' q = C q) ∧ (∀ q, 0 ≤ q → B' q = B q) ∧ c' = c)
      ∨ ((0 ≤ q ∧ q < P.n) ∧ A q = 1 ∧ C q = m ∧ e = 0 ∧ (∀ p, 0 ≤ p → A' p = A p) ∧ (∀ p, 0 ≤ p → C' p = C p) ∧ (∀ p, 0 ≤ p → B' p = if 14 * q ≤ p ∧ p < 14 * q + (m + 8) then zs_jn (B p) (row (p - 14 * q)) else B p) ∧ (c' = 1 ↔ c = 1 ∨ ∃ j, 0 ≤ j ∧ j < m + 8 ∧ ¬ zs_jn (B (14 * q + j)) (row j) = B (14 * q + j)))) :
    e = (zs_join P s q ρ m).1 ∧ zr_a A' B' C' c' (zs_join P s q ρ m).2 := by
  have rq : 0 ≤ q ∧ q < P.n → (A q = 1 ↔ s.R q) := fun z => h.1 q z.1 (by omega)
  rcases J with ⟨j1, j2, j3, j4, j5, j6⟩ | ⟨j1, j2, j3, j4, j5, j6, j7⟩ | ⟨j1, j2, j3, j4, j5, j6, j7, j8⟩ | ⟨j1, j2, j3, j4, j5, j6, j7, j8⟩
  · rcases zs_join_c (P := P) (s := s) (q := q) (m := m) (row := ρ) with ⟨_, x⟩ | ⟨x, _⟩ | ⟨x, _⟩ | ⟨x, _⟩
    · rw [x]; exact ⟨j2, zr_a_cg n60 ho.2 h j3 j4 j5 j6⟩
    · exact absurd x j1
    · exact absurd x j1
    · exact absurd x j1
  · have nr : ¬ s.R q := fun z => j2 ((rq j1).2 z)
    rcases zs_join_c (P := P) (s := s) (q := q) (m := m) (row := ρ) with ⟨x, _⟩ | ⟨_, _, x⟩ | ⟨_, x, _⟩ | ⟨_, x, _⟩
    · exact absurd j1 x
    · rw [x]
      refine ⟨j3, fun p p0 p1 => ?_, fun p hp => ?_, ⟨fun _ => trivial, fun _ => j4⟩⟩
      · show A' p = 1 ↔ p = q ∨ s.R p
        rw [j5 p p0]
        by_cases z : p = q
        · rw [if_pos z]; exact ⟨fun _ => Or.inl z, fun _ => rfl⟩
        · rw [if_neg z]; exact ⟨fun y => Or.inr ((h.1 p p0 p1).1 y), fun y => (h.1 p p0 p1).2 (y.resolve_left z)⟩
      · show C' p = (if p = q then m else s.S p) ∧ ∀ j, 0 ≤ j → j < 8 + (if p = q then m else s.S p) → B' (14 * p + j) = (if p = q then ρ else s.K p) j
        by_cases z : p = q
        · rw [if_pos z, if_pos z, z]
          refine ⟨by rw [j6 q j1.1, if_pos rfl], fun j j0 jj => ?_⟩
          rw [j7 _ (by omega), if_pos (by omega), show 14 * q + j - 14 * q = j by omega]
          exact hr j j0 jj
        · have hp2 : s.R p := Or.resolve_left hp z
          have i := ho.2 p hp2
          have b := h.2.1 p hp2
          have w := (ho.1 p hp2).2
          dsimp only at w
          rw [if_neg z, if_neg z]
          refine ⟨by rw [j6 p i.1, if_neg z]; exact b.1, fun j j0 jj => ?_⟩
          rw [j7 _ (by omega), if_neg (by omega)]
          exact b.2 j j0 jj
    · exact absurd x nr
    · exact absurd x nr
  · have yr : s.R q := (rq j1).1 j2
    rcases zs_join_c (P := P) (s := s) (q := q) (m := m) (row := ρ) with ⟨x, _⟩ | ⟨_, x, _⟩ | ⟨_, _, _, x⟩ | ⟨_, _, x, _⟩
    · exact absurd j1 x
    · exact absurd yr x
    · rw [x]; exact ⟨j4, zr_a_cg n60 ho.2 h j5 j6 j7 j8⟩
    · exact absurd ((h.2.1 q yr).1.trans x) j3
  · have yr : s.R q := (rq j1).1 j2
    have sq := (h.2.1 q yr).1
    have kq := (h.2.1 q yr).2
    rcases zs_join_c (P := P) (s := s) (q := q) (m := m) (row := ρ) with ⟨x, _⟩ | ⟨_, x, _⟩ | ⟨_, _, x, _⟩ | ⟨_, _, x0, x⟩
    · exact absurd j1 x
    · exact absurd yr x
    · exact absurd (sq.symm.trans j3) x
    · rw [x]
      refine ⟨j4, fun p p0 p1 => by rw [j5 p p0]; exact h.1 p p0 p1, fun p hp => ?_, ?_⟩
      · have hp2 : s.R p := hp
        have i := ho.2 p hp2
        have b := h.2.1 p hp2
        have w := (ho.1 p hp2).2
        dsimp only at w
        refine ⟨by rw [j6 p i.1]; exact b.1, fun j j0 (jj : j < 8 + s.S p) => ?_⟩
        show B' (14 * p + j) = if p = q then zs_jn (s.K p j) (ρ j) else s.K p j
        rw [j7 _ (by omega)]
        by_cases z : p = q
        · subst z
          rw [if_pos rfl, if_pos (by omega), show 14 * p + j - 14 * p = j by omega, b.2 j j0 jj, hr j j0 (by omega)]
        · rw [if_neg z, if_neg (by omega)]; exact b.2 j j0 jj
      · show c' = 1 ↔ s.ch ∨ ∃ j, 0 ≤ j ∧ j < 8 + m ∧ ¬ zs_jn (s.K q j) (ρ j) = s.K q j
        rw [j8]
        refine ⟨fun z => ?_, fun z => ?_⟩
        · rcases z with z | ⟨j, j0, jm, z⟩
          · exact Or.inl (h.2.2.1 z)
          · refine Or.inr ⟨j, j0, by omega, ?_⟩
            rw [← kq j j0 (by omega), ← hr j j0 (by omega)]; exact z
        · rcases z with z | ⟨j, j0, jm, z⟩
          · exact Or.inl (h.2.2.2 z)
          · refine Or.inr ⟨j, j0, by omega, ?_⟩
            rw [kq j j0 (by omega), hr j j0 (by omega)]; exact z
