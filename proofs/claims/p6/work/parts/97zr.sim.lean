/-! ===== 97zr: values alike in class and reference ===== -/
/-- a value of kind k: x in the class, y in the reference -/
def zf_rel (g : Int → Int) (n n2 : Int) (L2 : Int → Int) (k x y : Int) : Prop := (k = 1 → x = y ∧ -2147483648 ≤ x ∧ x ≤ 2147483647) ∧ (k = 2 ∨ k = 3 → x = y) ∧ (k = 6 → (0 ≤ x ∧ x < n) ∧ y = g x) ∧ (k = 7 ∨ k = 8 → (0 ≤ y ∧ y < n2) ∧ L2 y = x ∧ -2147483648 ≤ x ∧ x ≤ 2147483647)
def zf_vs (g : Int → Int) (n n2 : Int) (L2 : Int → Int) (S : Int) (N V V2 : Int → Int) : Prop := (∀ j, 0 ≤ j → j < 8 → ¬ N j = 3 → zf_rel g n n2 L2 (N j) (V j) (V2 j)) ∧ (∀ j, 8 ≤ j → j < 8 + S → ¬ N j = 2 → zf_rel g n n2 L2 (N j) (V j) (V2 (if N j = 3 then j - 1 else j)))
def zf_rows (g : Int → Int) (n : Int) (L C : Int → Int) (n2 : Int) (L2 C2 : Int → Int) : Prop := 0 ≤ n ∧ (∀ q, 0 ≤ q → q < n → (0 ≤ g q ∧ g q < n2) ∧ L2 (g q) = L q ∧ (0 ≤ L q ∧ L q ≤ 20) ∧ (∀ i, 0 ≤ i → i < L q → C (20 * q + i) = C2 (20 * g q + i) ∧ -2147483648 ≤ C (20 * q + i) ∧ C (20 * q + i) ≤ 2147483647)) ∧ (∀ q r, 0 ≤ q → q < n → 0 ≤ r → r < n → g q = g r → q = r)
theorem zf_rel0 {g : Int → Int} {n n2 : Int} {L2 : Int → Int} {k x y : Int} (h : k = 0 ∨ k = 4 ∨ k = 5) : zf_rel g n n2 L2 k x y := ⟨fun z => by omega, fun z => by omega, fun z => by omega, fun z => by omega⟩
/-- things made anew leave all as it was -/
theorem zf_rel.m {g g' : Int → Int} {n n' n2 n2' : Int} {L2 L2' : Int → Int} {k x y : Int} (h : zf_rel g n n2 L2 k x y) (a : n ≤ n') (b : n2 ≤ n2') (c : ∀ q, 0 ≤ q → q < n → g' q = g q) (d : ∀ q, 0 ≤ q → q < n2 → L2' q = L2 q) : zf_rel g' n' n2' L2' k x y := by
  obtain ⟨h1, h2, h3, h4⟩ := h
  refine ⟨h1, h2, fun z => ?_, fun z => ?_⟩
  · obtain ⟨⟨q1, q2⟩, q3⟩ := h3 z
    exact ⟨⟨q1, by omega⟩, q3.trans (c x q1 q2).symm⟩
  · obtain ⟨⟨q1, q2⟩, q3, q4⟩ := h4 z
    exact ⟨⟨q1, by omega⟩, (d y q1 q2).trans q3, q4⟩
theorem zf_vs.m {g g' : Int → Int} {n n' n2 n2' : Int} {L2 L2' : Int → Int} {S : Int} {N V V2 : Int → Int} (h : zf_vs g n n2 L2 S N V V2) (a : n ≤ n') (b : n2 ≤ n2') (c : ∀ q, 0 ≤ q → q < n → g' q = g q) (d : ∀ q, 0 ≤ q → q < n2 → L2' q = L2 q) : zf_vs g' n' n2' L2' S N V V2 :=
  ⟨fun j j0 j1 z => (h.1 j j0 j1 z).m a b c d, fun j j0 j1 z => (h.2 j j0 j1 z).m a b c d⟩
theorem zf_rows.th {g : Int → Int} {n : Int} {L C : Int → Int} {n2 : Int} {L2 C2 : Int → Int} (h : zf_rows g n L C n2 L2 C2) {n2' : Int} {L2' C2' : Int → Int} {c : Int} (t : zf_th n2 L2 C2 c n2' L2' C2') : zf_rows g n L C n2' L2' C2' := by
  obtain ⟨h0, h1, h2⟩ := h
  obtain ⟨t1, t2, t3⟩ := t
  refine ⟨h0, fun q q0 q1 => ?_, h2⟩
  obtain ⟨⟨a1, a2⟩, b, c1, d⟩ := h1 q q0 q1
  refine ⟨⟨a1, by omega⟩, by rw [t2 _ a1, if_neg (by omega)]; exact b, c1, fun i i0 i1 => ?_⟩
  rw [t3 _ (by omega), if_neg (by omega)]
  exact d i i0 i1
theorem zf_th.l {n : Int} {L C : Int → Int} {c n' : Int} {L' C' : Int → Int} (t : zf_th n L C c n' L' C') : (n ≤ n') ∧ (∀ q, 0 ≤ q → q < n → L' q = L q) := ⟨by have := t.1; omega, fun q q0 q1 => by rw [t.2.1 q q0, if_neg (by omega)]⟩
/-- a k upon the lowest B places -/
theorem zf_vs.up {g : Int → Int} {n n2 : Int} {L2 : Int → Int} {S : Int} {N V V2 : Int → Int} (h : zf_vs g n n2 L2 S N V V2) {B k : Int} {x : zT} (u : zf_up B k N x) (b0 : 0 ≤ B) (b1 : B ≤ S) (k3 : ¬ k = 3) {N' V' V2' : Int → Int} (eN : ∀ j, 0 ≤ j → j < 8 + x.2.1 → N' j = x.2.2 j) (eV : ∀ j, 0 ≤ j → j < 8 + B → V' j = V j) (eV2 : ∀ j, 0 ≤ j → j < 8 + B → V2' j = V2 j) (r : zf_rel g n n2 L2 k (V' (x.2.1 + 7)) (V2' (B + 8))) : zf_vs g n n2 L2 x.2.1 N' V' V2' := by
  obtain ⟨u1, u2, u3, u4, u5⟩ := u
  have w1 : (k = 2 → x.2.1 = B + 2) ∧ (¬ k = 2 → x.2.1 = B + 1) := by
    unfold zs_wd at u1
    refine ⟨fun z => by rw [if_pos z] at u1; exact u1, fun z => by rw [if_neg z] at u1; exact u1⟩
  have w2 : B + 1 ≤ x.2.1 := by by_cases z : k = 2; have := w1.1 z; omega; have := w1.2 z; omega
  refine ⟨fun j j0 j1 z => ?_, fun j j0 j1 z => ?_⟩
  · have e : N' j = N j := (eN j j0 (by omega)).trans (u5 j (by omega))
    rw [e] at z ⊢
    rw [eV j j0 (by omega), eV2 j j0 (by omega)]
    exact h.1 j j0 j1 z
  · by_cases c : j < B + 8
    · have e : N' j = N j := (eN j (by omega) (by omega)).trans (u5 j c)
      rw [e] at z ⊢
      have q := h.2 j j0 (by omega) z
      rw [eV j (by omega) (by omega)]
      by_cases y : N j = 3
      · rw [if_pos y] at q ⊢
        rw [eV2 (j - 1) (by omega) (by omega)]; exact q
      · rw [if_neg y] at q ⊢
        rw [eV2 j (by omega) (by omega)]; exact q
    · by_cases y : j = B + 8
      · have e : N' j = k := by rw [eN j (by omega) (by omega), y]; exact u3
        rw [e] at z ⊢
        rw [if_neg k3, y]
        have e2 := w1.2 z
        rw [show x.2.1 + 7 = B + 8 by omega] at r
        exact r
      · have z2 : k = 2 := Classical.byContradiction fun c2 => by have := w1.2 c2; omega
        have e2 := w1.1 z2
        have y2 : j = B + 9 := by omega
        have e : N' j = 3 := by rw [eN j (by omega) (by omega), y2]; exact u4 z2
        rw [e, if_pos rfl, y2, show B + 9 - 1 = B + 8 by omega, show B + 9 = x.2.1 + 7 by omega]
        exact ⟨fun c9 => by omega, fun _ => r.2.1 (Or.inl z2), fun c9 => by omega, fun c9 => by omega⟩
/-- nothing but places of the stack gone -/
theorem zf_vs.dn {g : Int → Int} {n n2 : Int} {L2 : Int → Int} {S : Int} {N V V2 : Int → Int} (h : zf_vs g n n2 L2 S N V V2) {S' : Int} {N' V' V2' : Int → Int} (b1 : S' ≤ S) (eN : ∀ j, 0 ≤ j → j < 8 + S' ∨ j < 8 → N' j = N j) (eV : ∀ j, 0 ≤ j → V' j = V j) (eV2 : ∀ j, 0 ≤ j → V2' j = V2 j) : zf_vs g n n2 L2 S' N' V' V2' := by
  refine ⟨fun j j0 j1 z => ?_, fun j j0 j1 z => ?_⟩
  · rw [eN j j0 (Or.inr j1)] at z ⊢
    rw [eV j j0, eV2 j j0]; exact h.1 j j0 j1 z
  · rw [eN j (by omega) (Or.inl j1)] at z ⊢
    rw [eV j (by omega)]
    have q := h.2 j j0 (by omega) z
    rw [eV2 _ (by split <;> omega)]; exact q
/-- one local anew, others as they were or worth nothing -/
theorem zf_vs.lo {g : Int → Int} {n n2 : Int} {L2 : Int → Int} {S : Int} {N V V2 : Int → Int} (h : zf_vs g n n2 L2 S N V V2) (hw : ¬ N 8 = 3 ∨ S = 0) {S' a : Int} {N' V' V2' : Int → Int} (b1 : S' ≤ S) (a0 : 0 ≤ a ∧ a ≤ 7) (e8 : ∀ j, 8 ≤ j → j < 8 + S' → N' j = N j) (eN : ∀ j, 0 ≤ j → j < 8 → ¬ j = a → N' j = 0 ∨ N' j = 3 ∨ N' j = N j) (eV : ∀ j, 0 ≤ j → ¬ j = a → V' j = V j) (eV2 : ∀ j, 0 ≤ j → ¬ j = a → V2' j = V2 j) (r : zf_rel g n n2 L2 (N' a) (V' a) (V2' a)) : zf_vs g n n2 L2 S' N' V' V2' := by
  refine ⟨fun j j0 j1 z => ?_, fun j j0 j1 z => ?_⟩
  · by_cases y : j = a
    · rw [y]; exact r
    · rcases eN j j0 j1 y with e | e | e
      · rw [e]; exact zf_rel0 (Or.inl rfl)
      · exact absurd e z
      · rw [e] at z ⊢
        rw [eV j j0 y, eV2 j j0 y]; exact h.1 j j0 j1 z
  · rw [e8 j j0 j1] at z ⊢
    rw [eV j (by omega) (by omega)]
    have q := h.2 j j0 (by omega) z
    by_cases y : N j = 3
    · rw [if_pos y] at q ⊢
      have : ¬ j = 8 := fun e => by rw [e] at y; rcases hw with w | w; exact w y; omega
      rw [eV2 _ (by omega) (by omega)]; exact q
    · rw [if_neg y] at q ⊢
      rw [eV2 _ (by omega) (by omega)]; exact q
theorem zf_rows.sm {g : Int → Int} {n : Int} {L C : Int → Int} {n2 : Int} {L2 C2 : Int → Int} (h : zf_rows g n L C n2 L2 C2) {n' : Int} {L' C' : Int → Int} (a : n' = n) (b : zk_sm L L') (c : zk_sm C C') : zf_rows g n' L' C' n2 L2 C2 := by
  subst a
  obtain ⟨h0, h1, h2⟩ := h
  refine ⟨h0, fun q q0 q1 => ?_, h2⟩
  rw [b q q0]
  obtain ⟨p1, p2, p3, p4⟩ := h1 q q0 q1
  refine ⟨p1, p2, p3, fun i i0 i1 => ?_⟩
  rw [c _ (by omega)]; exact p4 i i0 i1
theorem zf_rows.rs {g : Int → Int} {n : Int} {L C : Int → Int} {n2 : Int} {L2 C2 : Int → Int} (h : zf_rows g n L C n2 L2 C2) {n2' : Int} {L2' C2' : Int → Int} (r : zf_rs n2 L2 C2 n2' L2' C2') : zf_rows g n L C n2' L2' C2' := by
  obtain ⟨a, b, c⟩ := r
  subst a
  obtain ⟨h0, h1, h2⟩ := h
  refine ⟨h0, fun q q0 q1 => ?_, h2⟩
  obtain ⟨p1, p2, p3, p4⟩ := h1 q q0 q1
  refine ⟨p1, (b _ p1.1).trans p2, p3, fun i i0 i1 => ?_⟩
  rw [c _ (by omega)]; exact p4 i i0 i1
theorem zf_rs.l {n : Int} {L C : Int → Int} {n' : Int} {L' C' : Int → Int} (t : zf_rs n L C n' L' C') : (n ≤ n') ∧ (∀ q, 0 ≤ q → q < n → L' q = L q) := ⟨by have := t.1; omega, fun q q0 _ => t.2.1 q q0⟩
