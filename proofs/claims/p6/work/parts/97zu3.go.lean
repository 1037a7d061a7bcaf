/-! ===== 97zu3: a run from its beginning to its end ===== -/
def zf_n0 (K A : Int → Int) (j : Int) : Int := if 5 ≤ K j ∧ A j < 0 then 4 else K j
/-- how many ROWs, how many things of any sort, stand below a local -/
def zf_cn (K A : Int → Int) : Nat → Int
  | 0 => 0
  | i + 1 => zf_cn K A i + (if K i = 6 ∧ 0 ≤ A i then 1 else 0)
def zf_cm (K A : Int → Int) : Nat → Int
  | 0 => 0
  | i + 1 => zf_cm K A i + (if 5 ≤ K i ∧ 0 ≤ A i then 1 else 0)
/-- what the class lays ahead of the first step -/
def zk_b0 (K A : Int → Int) (u : zK) : Prop := u.S = 0 ∧ (∀ j, 0 ≤ j → j < 8 → u.N j = zf_n0 K A j) ∧ u.n = zf_cn K A 8 ∧ (∀ j, 0 ≤ j → j < 8 → (K j = 1 → u.V j = zi32 (A j)) ∧ (K j = 2 → u.V j = A j) ∧ (K j = 6 → 0 ≤ A j → u.V j = zf_cn K A j.toNat ∧ u.L (zf_cn K A j.toNat) = zi7 (A j) ∧ ∀ i, 0 ≤ i → i < zi7 (A j) → u.C (20 * zf_cn K A j.toNat + i) = 0) ∧ (5 ≤ K j → ¬ (K j = 6 ∧ 0 ≤ A j) → u.V j = 0))
/-- what the reference lays -/
def zf_b0 (K A : Int → Int) (v : zK) : Prop := v.S = 0 ∧ (∀ j, 0 ≤ j → j < 8 → v.N j = zf_n0 K A j) ∧ v.n = zf_cm K A 8 ∧ (∀ j, 0 ≤ j → j < 8 → (K j = 1 → v.V j = zi32 (A j)) ∧ (K j = 2 → v.V j = A j) ∧ (5 ≤ K j → 0 ≤ A j → v.V j = zf_cm K A j.toNat ∧ v.L (zf_cm K A j.toNat) = (if K j = 6 then zi7 (A j) else 0) ∧ ∀ i, 0 ≤ i → i < 20 → v.C (20 * zf_cm K A j.toNat + i) = 0))
section ZB0
variable {K A : Int → Int}
theorem zf_cn_le : ∀ {i k : Nat}, i ≤ k → zf_cn K A i ≤ zf_cn K A k
  | _, 0, h => by rw [Nat.le_zero.mp h]; exact Int.le_refl _
  | i, k + 1, h => by
    by_cases e : i = k + 1
    · rw [e]; exact Int.le_refl _
    · refine Int.le_trans (zf_cn_le (show i ≤ k by omega)) ?_
      show zf_cn K A k ≤ zf_cn K A k + _
      split <;> omega
theorem zf_cm_le : ∀ {i k : Nat}, i ≤ k → zf_cm K A i ≤ zf_cm K A k
  | _, 0, h => by rw [Nat.le_zero.mp h]; exact Int.le_refl _
  | i, k + 1, h => by
    by_cases e : i = k + 1
    · rw [e]; exact Int.le_refl _
    · refine Int.le_trans (zf_cm_le (show i ≤ k by omega)) ?_
      show zf_cm K A k ≤ zf_cm K A k + _
      split <;> omega
theorem zf_cn_b : ∀ k : Nat, 0 ≤ zf_cn K A k ∧ zf_cn K A k ≤ k
  | 0 => ⟨Int.le_refl _, Int.le_refl _⟩
  | k + 1 => by
    have h := zf_cn_b k
    have e : zf_cn K A (k + 1) = zf_cn K A k + (if K k = 6 ∧ 0 ≤ A k then 1 else 0) := rfl
    rw [e]
    split <;> omega
theorem zf_cm_b : ∀ k : Nat, 0 ≤ zf_cm K A k ∧ zf_cm K A k ≤ k
  | 0 => ⟨Int.le_refl _, Int.le_refl _⟩
  | k + 1 => by
    have h := zf_cm_b k
    have e : zf_cm K A (k + 1) = zf_cm K A k + (if 5 ≤ K k ∧ 0 ≤ A k then 1 else 0) := rfl
    rw [e]
    split <;> omega
theorem zf_cn_s {i k : Nat} (h : i < k) (z : K i = 6 ∧ 0 ≤ A i) : zf_cn K A i < zf_cn K A k := by
  have a := zf_cn_le (K := K) (A := A) (show i + 1 ≤ k by omega)
  have e : zf_cn K A (i + 1) = zf_cn K A i + (if K i = 6 ∧ 0 ≤ A i then 1 else 0) := rfl
  rw [if_pos z] at e
  omega
theorem zf_cm_s {i k : Nat} (h : i < k) (z : 5 ≤ K i ∧ 0 ≤ A i) : zf_cm K A i < zf_cm K A k := by
  have a := zf_cm_le (K := K) (A := A) (show i + 1 ≤ k by omega)
  have e : zf_cm K A (i + 1) = zf_cm K A i + (if 5 ≤ K i ∧ 0 ≤ A i then 1 else 0) := rfl
  rw [if_pos z] at e
  omega
theorem zf_cn_ex : ∀ (k : Nat) {q : Int}, 0 ≤ q → q < zf_cn K A k → ∃ j : Nat, j < k ∧ (K j = 6 ∧ 0 ≤ A j) ∧ zf_cn K A j = q
  | 0, q, q0, q1 => by have : q < 0 := q1; omega
  | k + 1, q, q0, q1 => by
    have e : zf_cn K A (k + 1) = zf_cn K A k + (if K k = 6 ∧ 0 ≤ A k then 1 else 0) := rfl
    by_cases c : q < zf_cn K A k
    · obtain ⟨j, j1, j2⟩ := zf_cn_ex k q0 c
      exact ⟨j, by omega, j2⟩
    · by_cases z : K k = 6 ∧ 0 ≤ A k
      · rw [if_pos z] at e
        exact ⟨k, by omega, z, by omega⟩
      · rw [if_neg z] at e
        omega
/-- both have laid the same -/
theorem zf_begin {P : zP} {u v : zK} (hP : P.gd) (hn : 0 < P.n) (a : zk_b0 (zs_row P) A u) (b : zf_b0 (zs_row P) A v) (hu : u.p = 0 ∧ u.e = 0 ∧ u.f = 0 ∧ u.o = 2 ∧ u.c = 0) (hv : v.p = 0 ∧ v.e = 0 ∧ v.f = 0 ∧ v.c = 0) (hr : u.r = v.r) : ∃ g, zf_G P g u v 0 := by
  obtain ⟨a1, a2, a3, a4⟩ := a
  obtain ⟨b1, b2, b3, b4⟩ := b
  obtain ⟨_, _, hw, hk⟩ := hP
  generalize zs_row P = K at *
  have ex : ∀ q : Int, ∃ x : Int, 0 ≤ q → q < u.n → ∃ j : Nat, j < 8 ∧ (K j = 6 ∧ 0 ≤ A j) ∧ zf_cn K A j = q ∧ x = zf_cm K A j := fun q => by
    by_cases c : 0 ≤ q ∧ q < u.n
    · rw [a3] at c
      obtain ⟨j, j1, j2, j3⟩ := zf_cn_ex 8 c.1 c.2
      exact ⟨_, fun _ _ => ⟨j, j1, j2, j3, rfl⟩⟩
    · exact ⟨0, fun z1 z2 => absurd ⟨z1, z2⟩ c⟩
  obtain ⟨g, hg⟩ := Classical.axiomOfChoice ex
  have cn8 := zf_cn_b (K := K) (A := A) 8
  have cm8 := zf_cm_b (K := K) (A := A) 8
  have uN : ∀ j, 0 ≤ j → j < 8 → (u.N j = 2 ↔ K j = 2) ∧ (u.N j = 3 ↔ K j = 3) := fun j j0 j1 => by
    rw [a2 j j0 j1]
    unfold zf_n0
    split
    · omega
    · omega
  refine ⟨g, ⟨by rw [a1, b1], fun j j0 j1 => ?_, ?_, fun j j0 j1 => ?_, ?_, ?_, by omega⟩, ⟨by rw [hu.1, hv.1], by omega, by omega⟩, ⟨hu.2.1, hv.2.1, hu.2.2.1, hv.2.2.1, hu.2.2.2.1, hu.2.2.2.2, hv.2.2.2, hr⟩, ?_, by omega⟩
  · rw [a1] at j1
    rw [b2 j j0 (by omega), a2 j j0 (by omega)]
  · rw [a1]
    refine ⟨⟨fun j j0 j1 => ?_, fun j j0 j1 => ?_⟩, by show (0 : Int) ≤ 0; decide, by show (0 : Int) ≤ 6; decide⟩
    · have w := hw j j0 j1
      have n0 := uN j j0 j1
      show (u.N j = 2 → j + 1 < 8 ∧ u.N (j + 1) = 3) ∧ (u.N j = 3 → 0 < j ∧ u.N (j - 1) = 2)
      refine ⟨fun z => ?_, fun z => ?_⟩
      · have y := w.1 (n0.1.mp z)
        exact ⟨y.1, (uN (j + 1) (by omega) y.1).2.mpr y.2⟩
      · have y := w.2 (n0.2.mp z)
        exact ⟨y.1, (uN (j - 1) (by omega) (by omega)).1.mpr y.2⟩
    · exfalso
      have j2 : j < 8 + 0 := j1
      omega
  · rw [a1] at j1
    rw [a2 j j0 (by omega)]
    have y := hk j j0 (by omega)
    unfold zf_n0
    split <;> omega
  · rw [a1]
    refine ⟨fun j j0 j1 z => ?_, fun j j0 j1 => by omega⟩
    obtain ⟨x1, x2, x3, x4⟩ := a4 j j0 j1
    obtain ⟨y1, y2, y3⟩ := b4 j j0 j1
    have ej : ((j.toNat : Nat) : Int) = j := Int.toNat_of_nonneg j0
    rw [a2 j j0 j1]
    unfold zf_n0
    by_cases c : 5 ≤ K j ∧ A j < 0
    · rw [if_pos c]; exact zf_rel0 (by omega)
    · rw [if_neg c]
      refine ⟨fun c1 => ?_, fun c2 => ?_, fun c6 => ?_, fun c7 => ?_⟩
      · rw [x1 c1, y1 c1]; exact ⟨rfl, zi32_r _⟩
      · have c3 : ¬ K j = 3 := fun y => z ((uN j j0 j1).2.mpr y)
        have c4 : K j = 2 := by omega
        rw [x2 c4, y2 c4]
      · have d := x3 c6 (by omega)
        have e := y3 (by omega) (by omega)
        have s1 := zf_cn_s (K := K) (A := A) (i := j.toNat) (k := 8) (by omega) (by rw [ej]; omega)
        have q0 := (zf_cn_b (K := K) (A := A) j.toNat).1
        rw [d.1, e.1]
        refine ⟨⟨q0, by omega⟩, ?_⟩
        obtain ⟨i, i1, i2, i3, i4⟩ := hg _ q0 (by omega)
        have : i = j.toNat := by
          rcases Nat.lt_trichotomy i j.toNat with l | l | l
          · have := zf_cn_s (K := K) (A := A) l i2; omega
          · exact l
          · have := zf_cn_s (K := K) (A := A) l (by rw [ej]; omega); omega
        rw [i4, this]
      · have d := x4 (by omega) (by omega)
        have e := y3 (by omega) (by omega)
        have s1 := zf_cm_s (K := K) (A := A) (i := j.toNat) (k := 8) (by omega) (by rw [ej]; omega)
        have q0 := (zf_cm_b (K := K) (A := A) j.toNat).1
        have e2 := e.2.1
        rw [if_neg (by omega)] at e2
        rw [d, e.1]
        exact ⟨⟨q0, by omega⟩, e2, by decide, by decide⟩
  · refine ⟨by omega, fun q q0 q1 => ?_, fun q r q0 q1 r0 r1 e => ?_⟩
    · obtain ⟨j, j1, j2, j3, j4⟩ := hg q q0 q1
      have d := (a4 j (by omega) (by omega)).2.2.1 j2.1 j2.2
      have e := (b4 j (by omega) (by omega)).2.2 (by omega) j2.2
      rw [show ((j : Int).toNat) = j from Int.toNat_natCast j] at d e
      rw [j3] at d
      rw [← j4] at e
      have s1 := zf_cm_s (K := K) (A := A) (i := j) (k := 8) j1 (by omega)
      have q9 := (zf_cm_b (K := K) (A := A) j).1
      have z7 := zi7_r (A j)
      have e2 := e.2.1
      rw [if_pos j2.1] at e2
      refine ⟨by omega, by rw [e2, d.2.1], by rw [d.2.1]; omega, fun i i0 i1 => ?_⟩
      rw [d.2.1] at i1
      rw [d.2.2 i i0 i1, e.2.2 i i0 (by omega)]
      exact ⟨rfl, by decide, by decide⟩
    · obtain ⟨j, j1, j2, j3, j4⟩ := hg q q0 q1
      obtain ⟨i, i1, i2, i3, i4⟩ := hg r r0 r1
      rw [j4, i4] at e
      have : i = j := by
        rcases Nat.lt_trichotomy i j with l | l | l
        · have := zf_cm_s (K := K) (A := A) l (by omega); omega
        · exact l
        · have := zf_cm_s (K := K) (A := A) l (by omega); omega
      rw [← j3, ← i3, this]
  · have t0 : zf_tp u = 0 := by unfold zf_tp; rw [a1, if_neg (by omega)]
    omega
end ZB0
/-- k steps, none behind an end -/
def zk_go (st : zK → zK → Prop) (u0 u : zK) (k : Int) : Prop := 0 ≤ k ∧ ∃ s : Nat → zK, s 0 = u0 ∧ (∀ i : Nat, (i : Int) < k → (s i).e = 0 ∧ st (s i) (s (i + 1))) ∧ s k.toNat = u
theorem zk_go.z {st : zK → zK → Prop} {u : zK} : zk_go st u u 0 := ⟨by decide, fun _ => u, rfl, fun i z => by omega, rfl⟩
theorem zk_go.s {st : zK → zK → Prop} {u0 u u' : zK} {k : Int} (a : zk_go st u0 u k) (e : u.e = 0) (b : st u u') : zk_go st u0 u' (k + 1) := by
  obtain ⟨k0, s, s1, s2, s3⟩ := a
  refine ⟨by omega, fun i => if (i : Int) ≤ k then s i else u', ?_, fun i z => ?_, ?_⟩
  · show (if ((0 : Nat) : Int) ≤ k then s 0 else u') = u0
    rw [if_pos (by omega)]; exact s1
  · dsimp only
    by_cases c : (i : Int) < k
    · rw [if_pos (by omega), if_pos (by omega)]; exact s2 i c
    · have : i = k.toNat := by omega
      rw [if_pos (by omega), if_neg (by omega), this, s3]
      exact ⟨e, b⟩
  · show (if (((k + 1).toNat : Nat) : Int) ≤ k then s (k + 1).toNat else u') = u'
    rw [if_neg (by omega)]
/-- the same, and q is the place of the last step -/
def zk_gl (st : zK → zK → Prop) (u0 u : zK) (k q : Int) : Prop := 0 ≤ k ∧ ∃ s : Nat → zK, s 0 = u0 ∧ (∀ i : Nat, (i : Int) < k → (s i).e = 0 ∧ st (s i) (s (i + 1))) ∧ s k.toNat = u ∧ (1 ≤ k → (s (k - 1).toNat).p = q)
theorem zk_gl.z {st : zK → zK → Prop} {u : zK} {q : Int} : zk_gl st u u 0 q := ⟨by decide, fun _ => u, rfl, fun i z => by omega, rfl, fun z => by omega⟩
theorem zk_gl.s {st : zK → zK → Prop} {u0 u u' : zK} {k q q' : Int} (a : zk_gl st u0 u k q) (e : u.e = 0) (b : st u u') (hq : u.p = q') : zk_gl st u0 u' (k + 1) q' := by
  obtain ⟨k0, s, s1, s2, s3, _⟩ := a
  refine ⟨by omega, fun i => if (i : Int) ≤ k then s i else u', ?_, fun i z => ?_, ?_, fun _ => ?_⟩
  · show (if ((0 : Nat) : Int) ≤ k then s 0 else u') = u0
    rw [if_pos (by omega)]; exact s1
  · dsimp only
    by_cases c : (i : Int) < k
    · rw [if_pos (by omega), if_pos (by omega)]; exact s2 i c
    · have : i = k.toNat := by omega
      rw [if_pos (by omega), if_neg (by omega), this, s3]
      exact ⟨e, b⟩
  · show (if (((k + 1).toNat : Nat) : Int) ≤ k then s (k + 1).toNat else u') = u'
    rw [if_neg (by omega)]
  · show zK.p (if (((k + 1 - 1).toNat : Nat) : Int) ≤ k then s (k + 1 - 1).toNat else u') = q'
    rw [if_pos (by omega), show (k + 1 - 1).toNat = k.toNat by omega, s3]; exact hq
theorem zf_chain {P : zP} {g : Int → Int} {u0 v0 u v : zK} {m k1 k2 q : Int} (hP : P.gd) (hO : ∀ p, 0 ≤ p → p < P.n → -2147483648 ≤ P.one p ∧ P.one p ≤ 2147483647) (m3 : m ≤ 300) (G : zf_G P g u0 v0 0) (a : zk_go (zk_st P) u0 u k1) (b : zk_gl (zf_st P) v0 v k2 q) (a1 : k1 ≤ m) (b1 : k2 ≤ m) (ae : u.e = 1 ∨ k1 = m) (be : v.e = 1 ∨ k2 = m) : k1 = k2 ∧ ((k1 = m ∧ ∃ g', zf_G P g' u v k1) ∨ (1 ≤ k1 ∧ zf_E q u v)) := by
  obtain ⟨a0, s, s1, s2, s3⟩ := a
  obtain ⟨b0, r, r1, r2, r3, r4⟩ := b
  have C : ∀ i : Nat, (i : Int) ≤ k1 → (i : Int) ≤ k2 → (∃ g', zf_G P g' (s i) (r i) i) ∨ ∃ j : Nat, i = j + 1 ∧ zf_E (r j).p (s i) (r i) := fun i => by
    induction i with
    | zero => exact fun _ _ => Or.inl ⟨g, by rw [s1, r1]; exact G⟩
    | succ i ih =>
      intro c1 c2
      obtain ⟨e1, t1⟩ := s2 i (by omega)
      obtain ⟨e2, t2⟩ := r2 i (by omega)
      rcases ih (by omega) (by omega) with ⟨g', h⟩ | ⟨j, h1, h4⟩
      · rcases zf_step hP hO (by omega) h t1 t2 with y | y
        · exact Or.inl y
        · exact Or.inr ⟨i, rfl, by rw [← h.2.1.1]; exact y⟩
      · have := h4.1.1; omega
  have eq : k1 = k2 := by
    rcases Int.lt_trichotomy k1 k2 with z | z | z
    · exfalso
      have u1 : u.e = 1 := by rcases ae with y | y; exact y; omega
      have c := C k1.toNat (by omega) (by omega)
      have r4 := (r2 k1.toNat (by omega)).1
      rw [s3] at c
      rcases c with ⟨g', c⟩ | ⟨j, _, c⟩
      · have := c.2.2.1.1; omega
      · have := c.1.2; omega
    · exact z
    · exfalso
      have u1 : v.e = 1 := by rcases be with y | y; exact y; omega
      have c := C k2.toNat (by omega) (by omega)
      have r4 := (s2 k2.toNat (by omega)).1
      rw [r3] at c
      rcases c with ⟨g', c⟩ | ⟨j, _, c⟩
      · have := c.2.2.1.2.1; omega
      · have := c.1.1; omega
  refine ⟨eq, ?_⟩
  have c := C k1.toNat (by omega) (by omega)
  rw [s3] at c
  rw [show k1.toNat = k2.toNat by omega, r3] at c
  rcases c with ⟨g', c⟩ | ⟨j, c1, c4⟩
  · have := c.2.2.1.1
    exact Or.inl ⟨by rcases ae with y | y; omega; exact y, g', by rw [show ((k2.toNat : Nat) : Int) = k1 by omega] at c; exact c⟩
  · refine Or.inr ⟨by omega, ?_⟩
    have z := r4 (by omega)
    rw [show (k2 - 1).toNat = j by omega] at z
    rw [z] at c4
    exact c4
/-- what is told of a run's end: class, reference -/
def zk_tK (u : zK) : Int := if u.o = 0 ∧ u.f = 0 then (if 0 < u.S then (if u.N (u.S + 7) = 3 then 2 else u.N (u.S + 7)) else -1) else -1
def zk_tN (u : zK) : Int := if zk_tK u = 1 ∨ zk_tK u = 2 ∨ zk_tK u = 7 ∨ zk_tK u = 8 then u.V (u.S + 7) else if zk_tK u = 6 then (if 0 ≤ zi32 (u.V (u.S + 7)) ∧ zi32 (u.V (u.S + 7)) < u.n then u.L (zi32 (u.V (u.S + 7))) else 0) else 0
def zf_tK (v : zK) : Int := if v.o = 0 ∧ 0 < v.S then (if v.N (v.S + 7) = 3 then 2 else v.N (v.S + 7)) else -1
def zf_tN (v : zK) : Int := if v.o = 0 ∧ 0 < v.S then (if v.N (v.S + 7) = 1 then v.V (v.S + 7) else if v.N (v.S + 7) = 3 then v.V (v.S + 6) else if 6 ≤ v.N (v.S + 7) then v.L (zi32 (v.V (v.S + 7))) else 0) else 0
theorem zf_told {q : Int} {u v : zK} (q0 : -1 ≤ q) (h : zf_E q u v) : zk_tK u = zf_tK v ∧ zk_tN u = zf_tN v := by
  obtain ⟨_, _, e3, e4, e5, _, _, e8, e9⟩ := h
  by_cases c : u.f = 0 ∧ u.o = 0
  · obtain ⟨g, ⟨q1, q2, q3, q4, q5, q6, q7⟩, n1, n2⟩ := e9 c.1 c.2
    have vo : v.o = 0 := (e4 c.1).trans c.2
    have s0 : 0 ≤ u.S := q3.2.1
    by_cases s : 0 < u.S
    · have nt : v.N (v.S + 7) = u.N (u.S + 7) := by rw [← q1]; exact q2 _ (by omega) (by omega)
      have kk := q4 (u.S + 7) (by omega) (by omega)
      have t2 := zf_top q3 (by omega)
      have k1 : zk_tK u = if u.N (u.S + 7) = 3 then 2 else u.N (u.S + 7) := by unfold zk_tK; rw [if_pos ⟨c.2, c.1⟩, if_pos s]
      have k2 : zf_tK v = if u.N (u.S + 7) = 3 then 2 else u.N (u.S + 7) := by unfold zf_tK; rw [if_pos ⟨vo, by omega⟩, nt]
      refine ⟨k1.trans k2.symm, ?_⟩
      unfold zk_tN zf_tN
      rw [k1, if_pos (show v.o = 0 ∧ 0 < v.S from ⟨vo, by omega⟩), nt, ← q1]
      by_cases y3 : u.N (u.S + 7) = 3
      · have h9 := zf_h9 q3 (j := u.S + 7) (by omega) (by omega) y3
        have a := zf_at3 q5 (j := u.S + 7) (by omega) (by omega) y3
        rw [if_pos y3, if_pos (by omega), if_neg (by omega), if_pos y3, ← a, show u.S + 7 - 1 = u.S + 6 by omega]
      · rw [if_neg y3]
        by_cases y1 : u.N (u.S + 7) = 1
        · have a := zf_at1 q5 (j := u.S + 7) (by omega) (by omega) y1
          rw [if_pos (by omega), if_pos y1, a.1]
        · rw [if_neg y1, if_neg y3]
          by_cases y7 : u.N (u.S + 7) = 7 ∨ u.N (u.S + 7) = 8
          · obtain ⟨a1, a2, a3⟩ := zf_at7 q5 (j := u.S + 7) (by omega) (by omega) y7
            rw [if_pos (by omega), if_pos (by omega), zi32_i (by omega) (by omega), a2]
          · rw [if_neg (by omega)]
            by_cases y6 : u.N (u.S + 7) = 6
            · obtain ⟨a1, a2⟩ := zf_at6 q5 (j := u.S + 7) (by omega) (by omega) y6
              obtain ⟨p1, p2, p3, p4⟩ := q6.2.1 _ a1.1 a1.2
              rw [if_pos y6, if_pos (show 6 ≤ u.N (u.S + 7) by omega), zi32_i (show -2147483648 ≤ u.V (u.S + 7) by omega) (by omega), if_pos a1, a2, zi32_i (by omega) (by omega), p2]
            · rw [if_neg y6, if_neg (by omega)]
    · have k1 : zk_tK u = -1 := by unfold zk_tK; rw [if_pos ⟨c.2, c.1⟩, if_neg s]
      have k2 : zf_tK v = -1 := by unfold zf_tK; rw [if_neg (by omega)]
      refine ⟨k1.trans k2.symm, ?_⟩
      unfold zk_tN zf_tN
      rw [k1, if_neg (by decide), if_neg (by decide), if_neg (by omega)]
  · have k1 : zk_tK u = -1 := by unfold zk_tK; rw [if_neg (fun z => c ⟨z.2, z.1⟩)]
    have vo : ¬ v.o = 0 := fun z => by
      by_cases f : u.f = 0
      · exact c ⟨f, by rw [← e4 f]; exact z⟩
      · have := e5 f; omega
    have k2 : zf_tK v = -1 := by unfold zf_tK; rw [if_neg (fun z => vo z.1)]
    refine ⟨k1.trans k2.symm, ?_⟩
    unfold zk_tN zf_tN
    rw [k1, if_neg (by decide), if_neg (by decide), if_neg (fun z => vo z.1)]
theorem zf_told2 {P : zP} {g : Int → Int} {u v : zK} {k : Int} (h : zf_G P g u v k) : zk_tK u = -1 ∧ zk_tN u = 0 := by
  have k1 : zk_tK u = -1 := by unfold zk_tK; rw [if_neg (fun z => by have := h.2.2.1.2.2.2.2.1; omega)]
  exact ⟨k1, by unfold zk_tN; rw [k1, if_neg (by decide), if_neg (by decide)]⟩
/-- what the class lays for a local -/
def zk_blx (A : Int → Int) (i : Int) (N V : Int → Int) (n : Int) (L C N' V' : Int → Int) (n' : Int) (L' C' : Int → Int) : Prop := (N i = 1 → zk_lc i V V' (zi32 (A i))) ∧ (N i = 2 → zk_lc i V V' (A i)) ∧ (¬ (N i = 6 ∧ 0 ≤ A i) → (5 ≤ N i → zk_lc i V V' 0) ∧ n' = n ∧ zk_sm L L' ∧ zk_sm C C') ∧ (N i = 6 ∧ 0 ≤ A i → zk_lc i V V' n ∧ n' = n + 1 ∧ zk_lc n L L' (zi7 (A i)) ∧ ∀ j, 0 ≤ j → C' j = if 20 * n ≤ j ∧ j < 20 * n + zi7 (A i) then 0 else C j) ∧ (∀ j, 0 ≤ j → ¬ j = i → V' j = V j) ∧ zk_lc i N N' (zf_n0 N A i)
def zk_bl (A : Int → Int) (i : Int) (u u' : zK) : Prop := zk_blx A i u.N u.V u.n u.L u.C u'.N u'.V u'.n u'.L u'.C
def zk_bi (K A : Int → Int) (i : Int) (u : zK) : Prop := (∀ j, 0 ≤ j → j < 8 → u.N j = if j < i then zf_n0 K A j else K j) ∧ u.n = zf_cn K A i.toNat ∧ (∀ j, 0 ≤ j → j < i → (K j = 1 → u.V j = zi32 (A j)) ∧ (K j = 2 → u.V j = A j) ∧ (K j = 6 → 0 ≤ A j → u.V j = zf_cn K A j.toNat ∧ u.L (zf_cn K A j.toNat) = zi7 (A j) ∧ ∀ i, 0 ≤ i → i < zi7 (A j) → u.C (20 * zf_cn K A j.toNat + i) = 0) ∧ (5 ≤ K j → ¬ (K j = 6 ∧ 0 ≤ A j) → u.V j = 0))
theorem zk_bi_s {K A : Int → Int} {i : Int} {u u' : zK} (i0 : 0 ≤ i) (i8 : i < 8) (a : zk_bi K A i u) (b : zk_bl A i u u') : zk_bi K A (i + 1) u' := by
  obtain ⟨a1, a2, a3⟩ := a
  obtain ⟨b1, b2, b3, b4, b5, b6⟩ := b
  have Ni : u.N i = K i := by rw [a1 i i0 i8, if_neg (by omega)]
  have n0 : zf_n0 u.N A i = zf_n0 K A i := by unfold zf_n0; rw [Ni]
  rw [Ni] at b1 b2 b3 b4
  rw [n0] at b6
  have ei : ((i.toNat : Nat) : Int) = i := Int.toNat_of_nonneg i0
  have cs : zf_cn K A (i + 1).toNat = zf_cn K A i.toNat + (if K i = 6 ∧ 0 ≤ A i then 1 else 0) := by
    rw [show (i + 1).toNat = i.toNat + 1 by omega]
    show zf_cn K A i.toNat + (if K (i.toNat : Int) = 6 ∧ 0 ≤ A (i.toNat : Int) then 1 else 0) = _
    rw [ei]
  have cb := (zf_cn_b (K := K) (A := A) i.toNat).1
  refine ⟨fun j j0 j1 => ?_, ?_, fun j j0 j1 => ?_⟩
  · rw [b6 j j0]
    by_cases y : j = i
    · rw [if_pos y, if_pos (by omega), y]
    · rw [if_neg y, a1 j j0 j1]
      by_cases y2 : j < i
      · rw [if_pos y2, if_pos (by omega)]
      · rw [if_neg y2, if_neg (by omega)]
  · rw [cs]
    by_cases y : K i = 6 ∧ 0 ≤ A i
    · rw [if_pos y, (b4 y).2.1, a2]
    · rw [if_neg y, (b3 y).2.1, a2]; omega
  · by_cases y : j = i
    · subst y
      refine ⟨fun z => by rw [b1 z j j0, if_pos rfl], fun z => by rw [b2 z j j0, if_pos rfl], fun z1 z2 => ?_, fun z1 z2 => by rw [(b3 z2).1 z1 j j0, if_pos rfl]⟩
      obtain ⟨c1, c2, c3, c4⟩ := b4 ⟨z1, z2⟩
      rw [a2] at c1 c3 c4
      refine ⟨by rw [c1 j j0, if_pos rfl], by rw [c3 _ cb, if_pos rfl], fun i i0 i1 => by rw [c4 _ (by omega), if_pos (by omega)]⟩
    · obtain ⟨x1, x2, x3, x4⟩ := a3 j j0 (by omega)
      have vj := b5 j j0 y
      refine ⟨fun z => by rw [vj]; exact x1 z, fun z => by rw [vj]; exact x2 z, fun z1 z2 => ?_, fun z1 z2 => by rw [vj]; exact x4 z1 z2⟩
      obtain ⟨c1, c2, c3⟩ := x3 z1 z2
      have ej : ((j.toNat : Nat) : Int) = j := Int.toNat_of_nonneg j0
      have lt := zf_cn_s (K := K) (A := A) (i := j.toNat) (k := i.toNat) (by omega) (by rw [ej]; exact ⟨z1, z2⟩)
      have cj := (zf_cn_b (K := K) (A := A) j.toNat).1
      rw [vj]
      by_cases w : K i = 6 ∧ 0 ≤ A i
      · obtain ⟨d1, d2, d3, d4⟩ := b4 w
        rw [a2] at d3 d4
        have z7 := zi7_r (A j)
        exact ⟨c1, by rw [d3 _ cj, if_neg (by omega)]; exact c2, fun i i0 i1 => by rw [d4 _ (by omega), if_neg (by omega)]; exact c3 i i0 i1⟩
      · obtain ⟨d1, d2, d3, d4⟩ := b3 w
        exact ⟨c1, by rw [d3 _ cj]; exact c2, fun i i0 i1 => by rw [d4 _ (by omega)]; exact c3 i i0 i1⟩
theorem zk_bi_e {K A : Int → Int} {u : zK} (s : u.S = 0) (a : zk_bi K A 8 u) : zk_b0 K A u := ⟨s, fun j j0 j1 => by rw [a.1 j j0 j1, if_pos j1], a.2.1, fun j j0 j1 => a.2.2 j j0 j1⟩
/-- what the reference lays for a local -/
def zf_bl (A : Int → Int) (i : Int) (u u' : zK) : Prop := (u.N i = 1 → zk_lc i u.V u'.V (zi32 (A i))) ∧ (u.N i = 2 → zk_lc i u.V u'.V (A i)) ∧ (5 ≤ u.N i ∧ 0 ≤ A i → zk_lc i u.V u'.V u.n ∧ zf_th u.n u.L u.C (if u.N i = 6 then zi7 (A i) else 0) u'.n u'.L u'.C) ∧ (¬ (5 ≤ u.N i ∧ 0 ≤ A i) → zf_rs u.n u.L u.C u'.n u'.L u'.C) ∧ (∀ j, 0 ≤ j → ¬ j = i → u'.V j = u.V j) ∧ zk_lc i u.N u'.N (zf_n0 u.N A i)
def zf_bi (K A : Int → Int) (i : Int) (v : zK) : Prop := (∀ j, 0 ≤ j → j < 8 → v.N j = if j < i then zf_n0 K A j else K j) ∧ v.n = zf_cm K A i.toNat ∧ (∀ j, 0 ≤ j → j < i → (K j = 1 → v.V j = zi32 (A j)) ∧ (K j = 2 → v.V j = A j) ∧ (5 ≤ K j → 0 ≤ A j → v.V j = zf_cm K A j.toNat ∧ v.L (zf_cm K A j.toNat) = (if K j = 6 then zi7 (A j) else 0) ∧ ∀ i, 0 ≤ i → i < 20 → v.C (20 * zf_cm K A j.toNat + i) = 0))
theorem zf_bi_s {K A : Int → Int} {i : Int} {u u' : zK} (i0 : 0 ≤ i) (i8 : i < 8) (a : zf_bi K A i u) (b : zf_bl A i u u') : zf_bi K A (i + 1) u' := by
  obtain ⟨a1, a2, a3⟩ := a
  obtain ⟨b1, b2, b3, b4, b5, b6⟩ := b
  have Ni : u.N i = K i := by rw [a1 i i0 i8, if_neg (by omega)]
  have n0 : zf_n0 u.N A i = zf_n0 K A i := by unfold zf_n0; rw [Ni]
  rw [Ni] at b1 b2 b3 b4
  rw [n0] at b6
  have ei : ((i.toNat : Nat) : Int) = i := Int.toNat_of_nonneg i0
  have cs : zf_cm K A (i + 1).toNat = zf_cm K A i.toNat + (if 5 ≤ K i ∧ 0 ≤ A i then 1 else 0) := by
    rw [show (i + 1).toNat = i.toNat + 1 by omega]
    show zf_cm K A i.toNat + (if 5 ≤ K (i.toNat : Int) ∧ 0 ≤ A (i.toNat : Int) then 1 else 0) = _
    rw [ei]
  have cb := (zf_cm_b (K := K) (A := A) i.toNat).1
  refine ⟨fun j j0 j1 => ?_, ?_, fun j j0 j1 => ?_⟩
  · rw [b6 j j0]
    by_cases y : j = i
    · rw [if_pos y, if_pos (by omega), y]
    · rw [if_neg y, a1 j j0 j1]
      by_cases y2 : j < i
      · rw [if_pos y2, if_pos (by omega)]
      · rw [if_neg y2, if_neg (by omega)]
  · rw [cs]
    by_cases y : 5 ≤ K i ∧ 0 ≤ A i
    · rw [if_pos y, (b3 y).2.1, a2]
    · rw [if_neg y, (b4 y).1, a2]; omega
  · by_cases y : j = i
    · subst y
      refine ⟨fun z => by rw [b1 z j j0, if_pos rfl], fun z => by rw [b2 z j j0, if_pos rfl], fun z1 z2 => ?_⟩
      obtain ⟨c1, c2, c3, c4⟩ := b3 ⟨z1, z2⟩
      rw [a2] at c1 c3 c4
      exact ⟨by rw [c1 j j0, if_pos rfl], by rw [c3 _ cb, if_pos rfl], fun i i0 i1 => by rw [c4 _ (by omega), if_pos (by omega)]⟩
    · obtain ⟨x1, x2, x3⟩ := a3 j j0 (by omega)
      have vj := b5 j j0 y
      refine ⟨fun z => by rw [vj]; exact x1 z, fun z => by rw [vj]; exact x2 z, fun z1 z2 => ?_⟩
      obtain ⟨c1, c2, c3⟩ := x3 z1 z2
      have ej : ((j.toNat : Nat) : Int) = j := Int.toNat_of_nonneg j0
      have lt := zf_cm_s (K := K) (A := A) (i := j.toNat) (k := i.toNat) (by omega) (by rw [ej]; exact ⟨z1, z2⟩)
      have cj := (zf_cm_b (K := K) (A := A) j.toNat).1
      rw [vj]
      by_cases w : 5 ≤ K i ∧ 0 ≤ A i
      · obtain ⟨d1, d2, d3, d4⟩ := b3 w
        rw [a2] at d3 d4
        exact ⟨c1, by rw [d3 _ cj, if_neg (by omega)]; exact c2, fun i i0 i1 => by rw [d4 _ (by omega), if_neg (by omega)]; exact c3 i i0 i1⟩
      · obtain ⟨d1, d2, d3⟩ := b4 w
        exact ⟨c1, by rw [d2 _ cj]; exact c2, fun i i0 i1 => by rw [d3 _ (by omega)]; exact c3 i i0 i1⟩
theorem zf_cm_z {K A : Int → Int} : ∀ {i k : Nat}, i ≤ k → (∀ j : Nat, i ≤ j → j < k → K j = 0) → zf_cm K A k = zf_cm K A i
  | _, 0, h, _ => by rw [Nat.le_zero.mp h]
  | i, k + 1, h, z => by
    by_cases e : i = k + 1
    · rw [e]
    · have c := zf_cm_z (A := A) (show i ≤ k by omega) (fun j j0 j1 => z j j0 (by omega))
      have z9 := z k (by omega) (by omega)
      show zf_cm K A k + _ = _
      rw [if_neg (by omega), c]; omega
theorem zf_bi_e {K A : Int → Int} {i : Int} {v : zK} (i0 : 0 ≤ i) (i8 : i ≤ 8) (s : v.S = 0) (z : ∀ j, i ≤ j → j < 8 → K j = 0) (a : zf_bi K A i v) : zf_b0 K A v := by
  refine ⟨s, fun j j0 j1 => ?_, ?_, fun j j0 j1 => ?_⟩
  · rw [a.1 j j0 j1]
    by_cases y : j < i
    · rw [if_pos y]
    · rw [if_neg y]; unfold zf_n0; rw [if_neg (by have := z j (by omega) j1; omega)]
  · rw [a.2.1]; exact (zf_cm_z (show i.toNat ≤ 8 by omega) (fun j j0 j1 => z j (by omega) (by omega))).symm
  · by_cases y : j < i
    · exact a.2.2 j j0 y
    · have := z j (by omega) j1
      exact ⟨fun c => by omega, fun c => by omega, fun c => by omega⟩
