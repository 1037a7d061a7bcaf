/-! ===== 87: what making keeps ===== -/
/-- the code is one that the calls can lay -/
def zP.ok (P : zP) : Prop := (∀ p, 0 ≤ p → p < P.n → (0 ≤ P.op p ∧ P.op p ≤ 28) ∧ (P.op p = 21 → 5 ≤ P.one p)) ∧ (∀ h, 0 ≤ h → h < P.hn → ¬ P.tk h = 2 ∧ ¬ P.tk h = 3) ∧ zw_loc 0 8 (zs_row P)
/-- reached places stay so, and are places of the code -/
def zs_le (s t : zS) : Prop := ∀ p, s.R p → t.R p
def zs_in (P : zP) (s : zS) : Prop := ∀ p, s.R p → 0 ≤ p ∧ p < P.n
theorem zs_join_in {P : zP} {s : zS} {q m : Int} {row : Int → Int} (h : zs_in P s) : zs_in P (zs_join P s q row m).2 := by
  rcases zs_join_c (P := P) (s := s) (q := q) (m := m) (row := row) with ⟨_, e⟩ | ⟨c, _, e⟩ | ⟨_, _, _, e⟩ | ⟨_, _, e3, e⟩ <;> rw [e]
  · exact h
  · intro p hp
    rcases hp with z | z
    · subst z; exact c
    · exact h p z
  · exact h
  · exact h
/-- what holds of a table -/
def zs_ok (P : zP) (s : zS) : Prop := zw_s s ∧ zs_in P s
theorem zs_ok_join {P : zP} {s : zS} {q m : Int} {row : Int → Int} (h : zs_ok P s) (hr : zw_ok (0, m, row)) : zs_ok P (zs_join P s q row m).2 := ⟨zw_join h.1 hr, zs_join_in h.2⟩
theorem zs_ok_hs {P : zP} {p : Int} (hP : P.ok) : ∀ (n : Nat) (s : zS), (n : Int) ≤ P.hn → zs_ok P s → s.R p → zs_ok P (zs_hs P p n s).2 ∧ (zs_hs P p n s).2.R p
  | 0, s, _, h, r => ⟨h, r⟩
  | n + 1, s, hn, h, r => by
    show zs_ok P (if P.fr (P.hn - ((n : Int) + 1)) ≤ p ∧ p < P.to (P.hn - ((n : Int) + 1)) then _ else _ : Int × zS).2 ∧ (if P.fr (P.hn - ((n : Int) + 1)) ≤ p ∧ p < P.to (P.hn - ((n : Int) + 1)) then _ else _ : Int × zS).2.R p
    have k := hP.2.1 (P.hn - ((n : Int) + 1)) (by omega) (by omega)
    have a := zs_ok_join (q := P.ha (P.hn - ((n : Int) + 1))) h (zw_arm (k := P.tk (P.hn - ((n : Int) + 1))) (h.1 p r) k)
    have b : (zs_join P s (P.ha (P.hn - ((n : Int) + 1))) (zs_arm s p (P.tk (P.hn - ((n : Int) + 1)))) 1).2.R p := zs_join_R r
    split
    · split
      · exact zs_ok_hs hP n _ (by omega) a b
      · exact ⟨a, b⟩
    · exact zs_ok_hs hP n s (by omega) h r
theorem zs_ok_w {P : zP} {p : Int} {s : zS} (hP : P.ok) (h : zs_ok P s) (r : s.R p) : zs_ok P (zs_w P p s).2 ∧ zs_le s (zs_w P p s).2 := by
  have c := h.2 p r
  have x : zw_ok (zs_x P p s) := zw_ap (h.1 p r) (hP.1 p c.1 c.2).1 (hP.1 p c.1 c.2).2
  have x2 : zw_ok (0, (zs_x P p s).2.1, (zs_x P p s).2.2) := x
  have j : ∀ {t : zS} {q : Int}, zs_ok P t ∧ zs_le s t → zs_ok P (zs_join P t q (zs_x P p s).2.2 (zs_x P p s).2.1).2 ∧ zs_le s (zs_join P t q (zs_x P p s).2.2 (zs_x P p s).2.1).2 := fun z => ⟨zs_ok_join z.1 x2, fun q hq => zs_join_R (z.2 q hq)⟩
  have i : zs_ok P s ∧ zs_le s s := ⟨h, fun _ z => z⟩
  unfold zs_w
  split
  · exact i
  · have a0 : zs_ok P (zs_w0 P p (zs_x P p s) s).2 ∧ zs_le s (zs_w0 P p (zs_x P p s) s).2 := by
      unfold zs_w0
      split
      · exact j i
      · exact i
    have a1 : zs_ok P (zs_w1 P p (zs_x P p s) (zs_w0 P p (zs_x P p s) s)).2 ∧ zs_le s (zs_w1 P p (zs_x P p s) (zs_w0 P p (zs_x P p s) s)).2 := by
      unfold zs_w1
      split
      · exact j a0
      · exact a0
    unfold zs_w2
    split
    · exact a1
    · split
      · exact a1
      · exact j a1
theorem zs_ok_work {P : zP} {p : Int} {s : zS} (hP : P.ok) (hn : 0 ≤ P.hn) (h : zs_ok P s) (r : s.R p) : zs_ok P (zs_work P p s).2 := by
  have a := zs_ok_hs hP P.hn.toNat s (by omega) h r
  unfold zs_work
  split
  · exact a.1
  · exact (zs_ok_w hP a.1 a.2).1
theorem zs_ok_pass {P : zP} (hP : P.ok) (hn : 0 ≤ P.hn) : ∀ (n : Nat) (s : zS), zs_ok P s → zs_ok P (zs_pass P n s).2.2
  | 0, s, h => h
  | n + 1, s, h => by
    show zs_ok P (zi (s.R (P.n - ((n : Int) + 1))) _ _ : Int × Int × zS).2.2
    by_cases c : s.R (P.n - ((n : Int) + 1))
    · rw [zi_t c]
      split
      · exact zs_ok_pass hP hn n _ (zs_ok_work hP hn h c)
      · exact zs_ok_work hP hn h c
    · rw [zi_f c]; exact zs_ok_pass hP hn n s h
theorem zs_ok_first {P : zP} (hP : P.ok) (n1 : 1 ≤ P.n) : zs_ok P (zs_first P) := ⟨zw_first hP.2.2, fun p (hp : p = 0) => by omega⟩
