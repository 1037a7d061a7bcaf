/-! ===== 87c: a place worked out, step by step ===== -/
/-- the ways of a place, k of them gone -/
noncomputable def zs_wk (P : zP) (p : Int) (x : zT) (s : zS) (k : Int) : Int × zS := if k = 0 then (x.1, s) else if k = 1 then zs_w0 P p x s else zs_w1 P p x (zs_w0 P p x s)
theorem zs_work_f {P : zP} {p : Int} {s : zS} {r : Int × zS} (h : zs_hs P p P.hn.toNat s = r) (f : ¬ r.1 = 0) : zs_work P p s = r := by
  unfold zs_work
  rw [h, if_pos f]
theorem zs_work_g {P : zP} {p : Int} {s s1 : zS} (h : zs_hs P p P.hn.toNat s = (0, s1)) : zs_work P p s = zs_w P p s1 := by
  unfold zs_work
  rw [h, if_neg (fun z => z rfl)]
/-- how many ways -/
def zs_js (P : zP) (p : Int) : Int := if P.op p = 27 then 2 else if 24 ≤ P.op p ∧ P.op p ≤ 26 then 1 else 0
/-- the k-th way -/
def zs_wy (P : zP) (p k : Int) : Int := if k = 0 then P.one p else P.two p
theorem zs_wk_s {P : zP} {p k : Int} {x : zT} {s s2 : zS} (k0 : 0 ≤ k) (k1 : k < zs_js P p) (h : (0, s2) = zs_wk P p x s k) : zs_join P s2 (zs_wy P p k) x.2.2 x.2.1 = zs_wk P p x s (k + 1) := by
  unfold zs_js at k1
  rcases (show k = 0 ∨ (k = 1 ∧ P.op p = 27) by split at k1 <;> first | omega | (split at k1 <;> omega)) with z | ⟨z, o⟩
  · subst z
    have h' : (0, s2) = (x.1, s) := h
    have e : s2 = s := congrArg Prod.snd h'
    rw [e]
    show zs_join P s (P.one p) x.2.2 x.2.1 = zs_w0 P p x s
    unfold zs_w0
    rw [if_pos]
    split at k1
    · omega
    · split at k1 <;> omega
  · subst z
    have h' : (0, s2) = zs_w0 P p x s := h
    show zs_join P s2 (P.two p) x.2.2 x.2.1 = zs_w1 P p x (zs_w0 P p x s)
    rw [← h']
    unfold zs_w1
    rw [if_pos ⟨rfl, o⟩]
/-- where the ways end: all of them gone, or one at fault -/
theorem zs_wk_e {P : zP} {p k f : Int} {x : zT} {s s2 : zS} (k0 : 0 ≤ k) (k2 : k ≤ zs_js P p) (x0 : x.1 = 0) (h : (f, s2) = zs_wk P p x s k) (e : zs_js P p ≤ k ∨ ¬ f = 0) : (f, s2) = zs_w1 P p x (zs_w0 P p x s) := by
  unfold zs_js at k2 e
  rcases (show k = 0 ∨ k = 1 ∨ k = 2 by split at k2 <;> first | omega | (split at k2 <;> omega)) with z | z | z
  · subst z
    have h' : (f, s2) = (x.1, s) := h
    have e1 : f = 0 := (congrArg Prod.fst h').trans x0
    have o : ¬ (24 ≤ P.op p ∧ P.op p ≤ 27) := by
      split at e
      · omega
      · split at e <;> omega
    unfold zs_w1 zs_w0
    rw [if_neg o, if_neg (by omega), h', x0]
  · subst z
    have h' : (f, s2) = zs_w0 P p x s := h
    rw [← h']
    unfold zs_w1
    rw [if_neg]
    intro y
    have y1 : f = 0 := y.1
    rw [if_pos y.2] at e
    omega
  · subst z
    exact h
/-- rounds -/
theorem zs_rounds_s {P : zP} {c : Int} {s : zS} (c1 : c < 3421) : zs_rounds P (3421 - c).toNat c s = zi s.ch (if (zs_pass P P.n.toNat (zs_un s)).1 = 0 then zs_rounds P (3421 - (c + 1)).toNat (c + 1) (zs_pass P P.n.toNat (zs_un s)).2.2 else ((zs_pass P P.n.toNat (zs_un s)).1, (zs_pass P P.n.toNat (zs_un s)).2.1, c + 1, (zs_pass P P.n.toNat (zs_un s)).2.2)) (0, 0, c, s) := by
  obtain ⟨n, hn⟩ : ∃ n : Nat, (3421 - (c + 1)).toNat = n := ⟨_, rfl⟩
  have e : (3421 - c).toNat = n + 1 := by omega
  rw [e, hn]
  rfl
theorem zs_rounds_e {P : zP} {c : Int} {s : zS} (h : ¬ s.ch ∨ 3421 ≤ c) : zs_rounds P (3421 - c).toNat c s = (0, 0, c, s) := by
  by_cases d : c < 3421
  · rw [zs_rounds_s d, zi_f (h.resolve_right (by omega))]
  · have e : (3421 - c).toNat = 0 := by omega
    rw [e]
    rfl
theorem zs_ok_un {P : zP} {s : zS} (h : zs_ok P s) : zs_ok P (zs_un s) := h
/-- a join ahead of all others -/
theorem zs_first_join {P : zP} {s : zS} {row : Int → Int} (n1 : 1 ≤ P.n) (r : ∀ p, ¬ s.R p) : (zs_join P s 0 row 0).1 = 0 ∧ (∀ p, (zs_join P s 0 row 0).2.R p ↔ p = 0) ∧ (zs_join P s 0 row 0).2.S 0 = 0 ∧ (zs_join P s 0 row 0).2.K 0 = row ∧ (zs_join P s 0 row 0).2.ch := by
  rcases zs_join_c (P := P) (s := s) (q := 0) (m := 0) (row := row) with ⟨x, _⟩ | ⟨_, _, x⟩ | ⟨_, x, _⟩ | ⟨_, x, _⟩
  · exact absurd x (by omega)
  · rw [x]
    exact ⟨rfl, fun p => ⟨fun z => Or.resolve_right z (r p), fun z => Or.inl z⟩, rfl, rfl, trivial⟩
  · exact absurd x (r 0)
  · exact absurd x (r 0)
