/-! ===== 86: TO MAKE, worked by pure functions ===== -/
theorem zs_jn_2 {a b v : Int} (h : zs_jn a b = v) (hv : v = 2 ∨ v = 3) : a = v ∧ b = v := by
  unfold zs_jn at h
  split at h
  · omega
  · split at h
    · omega
    · split at h <;> omega
theorem zs_jn_self {a : Int} : zs_jn a a = a := by unfold zs_jn; rw [if_pos (Or.inl rfl)]
theorem zw_jn {f u : Int} {M N : Int → Int} (hm : zw_loc f u M) (hn : zw_loc f u N) : zw_loc f u (fun j => zs_jn (M j) (N j)) := by
  refine fun j j0 j1 => ⟨fun z => ?_, fun z => ?_⟩
  · have c := zs_jn_2 z (Or.inl rfl)
    have b := (hm j j0 j1).1 c.1
    refine ⟨b.1, ?_⟩
    show zs_jn (M (j + 1)) (N (j + 1)) = 3
    rw [b.2, ((hn j j0 j1).1 c.2).2, zs_jn_self]
  · have c := zs_jn_2 z (Or.inr rfl)
    have b := (hm j j0 j1).2 c.1
    refine ⟨b.1, ?_⟩
    show zs_jn (M (j - 1)) (N (j - 1)) = 2
    rw [b.2, ((hn j j0 j1).2 c.2).2, zs_jn_self]
theorem zs_wh_id {f u : Int} {N : Int → Int} (h : zw_loc f u N) (j : Int) : zs_wh f u N j = N j := by
  unfold zs_wh
  by_cases c : j < f ∨ u ≤ j
  · rw [if_pos c]
  · have b := h j (by omega) (by omega)
    rw [if_neg c]
    by_cases d : N j = 2
    · rw [if_pos d, if_pos (b.1 d), d]
    · rw [if_neg d]
      by_cases e : N j = 3
      · rw [if_pos e, if_pos (b.2 e), e]
      · rw [if_neg e]
/-- code, handlers, parameters: how many, ops, first and second numbers; how many, from, to, at, what they take; how many, which -/
abbrev zP : Type := Int × (Int → Int) × (Int → Int) × (Int → Int) × Int × (Int → Int) × (Int → Int) × (Int → Int) × (Int → Int) × Int × (Int → Int)
def zP.n (P : zP) : Int := P.1
def zP.op (P : zP) : Int → Int := P.2.1
def zP.one (P : zP) : Int → Int := P.2.2.1
def zP.two (P : zP) : Int → Int := P.2.2.2.1
def zP.hn (P : zP) : Int := P.2.2.2.2.1
def zP.fr (P : zP) : Int → Int := P.2.2.2.2.2.1
def zP.to (P : zP) : Int → Int := P.2.2.2.2.2.2.1
def zP.ha (P : zP) : Int → Int := P.2.2.2.2.2.2.2.1
def zP.tk (P : zP) : Int → Int := P.2.2.2.2.2.2.2.2.1
def zP.pn (P : zP) : Int := P.2.2.2.2.2.2.2.2.2.1
def zP.pr (P : zP) : Int → Int := P.2.2.2.2.2.2.2.2.2.2
/-- which places are reached, the size of the stack there, the kinds there; whether something was changed -/
abbrev zS : Type := (Int → Prop) × (Int → Int) × (Int → Int → Int) × Prop
def zS.R (s : zS) : Int → Prop := s.1
def zS.S (s : zS) : Int → Int := s.2.1
def zS.K (s : zS) : Int → Int → Int := s.2.2.1
def zS.ch (s : zS) : Prop := s.2.2.2
noncomputable def zi {α : Type} (c : Prop) (a b : α) : α := @ite α c (Classical.propDecidable c) a b
theorem zi_t {α : Type} {c : Prop} {a b : α} (h : c) : zi c a b = a := @if_pos c (Classical.propDecidable c) h α a b
theorem zi_f {α : Type} {c : Prop} {a b : α} (h : ¬ c) : zi c a b = b := @if_neg c (Classical.propDecidable c) h α a b
noncomputable def zs_join (P : zP) (s : zS) (q : Int) (row : Int → Int) (m : Int) : Int × zS :=
  if ¬ (0 ≤ q ∧ q < P.n) then (7, s)
  else zi (s.R q)
    (if ¬ s.S q = m then (5, s) else (0, s.R, s.S, fun p j => if p = q then zs_jn (s.K p j) (row j) else s.K p j, s.ch ∨ ∃ j, 0 ≤ j ∧ j < 8 + m ∧ ¬ zs_jn (s.K q j) (row j) = s.K q j))
    (0, fun p => p = q ∨ s.R p, fun p => if p = q then m else s.S p, fun p => if p = q then row else s.K p, True)
def zs_arm (s : zS) (p k : Int) (j : Int) : Int := if j = 8 then k else s.K p j
noncomputable def zs_hs (P : zP) (p : Int) : Nat → zS → Int × zS
  | 0, s => (0, s)
  | n + 1, s => if P.fr (P.hn - (n + 1)) ≤ p ∧ p < P.to (P.hn - (n + 1)) then
      (if (zs_join P s (P.ha (P.hn - (n + 1))) (zs_arm s p (P.tk (P.hn - (n + 1)))) 1).1 = 0 then zs_hs P p n (zs_join P s (P.ha (P.hn - (n + 1))) (zs_arm s p (P.tk (P.hn - (n + 1)))) 1).2 else zs_join P s (P.ha (P.hn - (n + 1))) (zs_arm s p (P.tk (P.hn - (n + 1)))) 1)
    else zs_hs P p n s
noncomputable def zs_w0 (P : zP) (p : Int) (x : zT) (s : zS) : Int × zS := if 24 ≤ P.op p ∧ P.op p ≤ 27 then zs_join P s (P.one p) x.2.2 x.2.1 else (0, s)
noncomputable def zs_w1 (P : zP) (p : Int) (x : zT) (r : Int × zS) : Int × zS := if r.1 = 0 ∧ P.op p = 27 then zs_join P r.2 (P.two p) x.2.2 x.2.1 else r
noncomputable def zs_w2 (P : zP) (p : Int) (x : zT) (r : Int × zS) : Int × zS := if ¬ r.1 = 0 ∨ (22 ≤ P.op p ∧ P.op p ≤ 24) then r else if p + 1 = P.n then (6, r.2) else zs_join P r.2 (p + 1) x.2.2 x.2.1
def zs_x (P : zP) (p : Int) (s : zS) : zT := zs_ap (P.op p) (P.one p) (0, s.S p, s.K p)
noncomputable def zs_w (P : zP) (p : Int) (s : zS) : Int × zS := if ¬ (zs_x P p s).1 = 0 then ((zs_x P p s).1, s) else zs_w2 P p (zs_x P p s) (zs_w1 P p (zs_x P p s) (zs_w0 P p (zs_x P p s) s))
noncomputable def zs_work (P : zP) (p : Int) (s : zS) : Int × zS := if ¬ (zs_hs P p P.hn.toNat s).1 = 0 then zs_hs P p P.hn.toNat s else zs_w P p (zs_hs P p P.hn.toNat s).2
/-- fault, where, behind it -/
noncomputable def zs_pass (P : zP) : Nat → zS → Int × Int × zS
  | 0, s => (0, 0, s)
  | n + 1, s => zi (s.R (P.n - (n + 1)))
      (if (zs_work P (P.n - (n + 1)) s).1 = 0 then zs_pass P n (zs_work P (P.n - (n + 1)) s).2 else ((zs_work P (P.n - (n + 1)) s).1, P.n - (n + 1), (zs_work P (P.n - (n + 1)) s).2))
      (zs_pass P n s)
def zs_un (s : zS) : zS := (s.R, s.S, s.K, False)
/-- fault, where, rounds, behind them -/
noncomputable def zs_rounds (P : zP) : Nat → Int → zS → Int × Int × Int × zS
  | 0, c, s => (0, 0, c, s)
  | n + 1, c, s => zi s.ch
      (if (zs_pass P P.n.toNat (zs_un s)).1 = 0 then zs_rounds P n (c + 1) (zs_pass P P.n.toNat (zs_un s)).2.2 else ((zs_pass P P.n.toNat (zs_un s)).1, (zs_pass P P.n.toNat (zs_un s)).2.1, c + 1, (zs_pass P P.n.toNat (zs_un s)).2.2))
      (0, 0, c, s)
def zs_row (P : zP) (j : Int) : Int := if j < P.pn then P.pr j else 0
def zs_first (P : zP) : zS := (fun p => p = 0, fun _ => 0, fun _ => zs_row P, True)
noncomputable def zs_make (P : zP) : Int × Int × Int × zS := zs_rounds P 3421 0 (zs_first P)
/-- the four ways of a join -/
theorem zs_join_c {P : zP} {s : zS} {q m : Int} {row : Int → Int} : (¬ (0 ≤ q ∧ q < P.n) ∧ zs_join P s q row m = (7, s)) ∨ ((0 ≤ q ∧ q < P.n) ∧ ¬ s.R q ∧ zs_join P s q row m = (0, fun p => p = q ∨ s.R p, fun p => if p = q then m else s.S p, fun p => if p = q then row else s.K p, True)) ∨ ((0 ≤ q ∧ q < P.n) ∧ s.R q ∧ ¬ s.S q = m ∧ zs_join P s q row m = (5, s)) ∨ ((0 ≤ q ∧ q < P.n) ∧ s.R q ∧ s.S q = m ∧ zs_join P s q row m = (0, s.R, s.S, fun p j => if p = q then zs_jn (s.K p j) (row j) else s.K p j, s.ch ∨ ∃ j, 0 ≤ j ∧ j < 8 + m ∧ ¬ zs_jn (s.K q j) (row j) = s.K q j)) := by
  unfold zs_join
  by_cases c : 0 ≤ q ∧ q < P.n
  · rw [if_neg (show ¬ ¬ (0 ≤ q ∧ q < P.n) from fun z => z c)]
    by_cases d : s.R q
    · rw [zi_t d]
      by_cases e : s.S q = m
      · rw [if_neg (show ¬ ¬ s.S q = m from fun z => z e)]; exact Or.inr (Or.inr (Or.inr ⟨c, d, e, rfl⟩))
      · rw [if_pos e]; exact Or.inr (Or.inr (Or.inl ⟨c, d, e, rfl⟩))
    · rw [zi_f d]; exact Or.inr (Or.inl ⟨c, d, rfl⟩)
  · rw [if_pos c]; exact Or.inl ⟨c, rfl⟩
/-- every reached place has whole kinds -/
def zw_s (s : zS) : Prop := ∀ p, s.R p → zw_ok (0, s.S p, s.K p)
theorem zw_join {P : zP} {s : zS} {q m : Int} {row : Int → Int} (h : zw_s s) (hr : zw_ok (0, m, row)) : zw_s (zs_join P s q row m).2 := by
  rcases zs_join_c (P := P) (s := s) (q := q) (m := m) (row := row) with ⟨_, e⟩ | ⟨_, _, e⟩ | ⟨_, _, _, e⟩ | ⟨_, _, e3, e⟩ <;> rw [e]
  · exact h
  · intro p hp
    show zw_ok (0, if p = q then m else s.S p, if p = q then row else s.K p)
    by_cases c : p = q
    · rw [if_pos c, if_pos c]; exact hr
    · rw [if_neg c, if_neg c]; exact h p (Or.resolve_left hp c)
  · exact h
  · intro p hp
    have a := h p hp
    show zw_ok (0, s.S p, fun j => if p = q then zs_jn (s.K p j) (row j) else s.K p j)
    by_cases c : p = q
    · subst c
      simp only [if_true]
      exact ⟨⟨zw_jn a.1.1 hr.1.1, zw_jn a.1.2 (by rw [e3]; exact hr.1.2)⟩, a.2⟩
    · simp only [c, if_false]
      exact a
theorem zs_join_R {P : zP} {s : zS} {q m : Int} {row : Int → Int} {p : Int} (h : s.R p) : (zs_join P s q row m).2.R p := by
  rcases zs_join_c (P := P) (s := s) (q := q) (m := m) (row := row) with ⟨_, e⟩ | ⟨_, _, e⟩ | ⟨_, _, _, e⟩ | ⟨_, _, e3, e⟩ <;> rw [e]
  · exact h
  · exact Or.inr h
  · exact h
  · exact h
/-- a join with a place's own locals leaves its locals -/
theorem zs_join_loc {P : zP} {s : zS} {q m p k : Int} (h : s.R p) {j : Int} (j1 : j < 8) : (zs_join P s q (zs_arm s p k) m).2.K p j = s.K p j := by
  rcases zs_join_c (P := P) (s := s) (q := q) (m := m) (row := zs_arm s p k) with ⟨_, e⟩ | ⟨_, c, e⟩ | ⟨_, _, _, e⟩ | ⟨_, _, e3, e⟩ <;> rw [e]
  · show (if p = q then zs_arm s p k else s.K p) j = _
    rw [if_neg (show ¬ p = q from fun z => c (z ▸ h))]
  · show (if p = q then zs_jn (s.K p j) (zs_arm s p k j) else s.K p j) = _
    by_cases e : p = q
    · rw [if_pos e]; unfold zs_arm; rw [if_neg (by omega), zs_jn_self]
    · rw [if_neg e]
theorem zw_arm {s : zS} {p k : Int} (h : zw_ok (0, s.S p, s.K p)) (hk : ¬ k = 2 ∧ ¬ k = 3) : zw_ok (0, 1, zs_arm s p k) := by
  refine ⟨⟨zw_cg h.1.1 (fun j _ j1 => by show zs_arm s p k j = _; unfold zs_arm; rw [if_neg (by omega)]), fun j j0 j1 => ?_⟩, by show (0 : Int) ≤ 1; omega, by show (1 : Int) ≤ 6; omega⟩
  have e : j = 8 := by dsimp only at j1; omega
  subst e
  have e : zs_arm s p k 8 = k := rfl
  dsimp only
  rw [e]
  exact ⟨fun z => absurd z hk.1, fun z => absurd z hk.2⟩
theorem zw_first {P : zP} (h : zw_loc 0 8 (zs_row P)) : zw_s (zs_first P) := fun p _ => ⟨⟨h, fun j j0 (j1 : j < 8 + 0) => by omega⟩, by show (0 : Int) ≤ 0; omega, by show (0 : Int) ≤ 6; omega⟩
/-- a step of the handlers' loop -/
theorem zs_hs_s {P : zP} {p h : Int} {s : zS} (h1 : h < P.hn) : zs_hs P p (P.hn - h).toNat s = if P.fr h ≤ p ∧ p < P.to h then (if (zs_join P s (P.ha h) (zs_arm s p (P.tk h)) 1).1 = 0 then zs_hs P p (P.hn - (h + 1)).toNat (zs_join P s (P.ha h) (zs_arm s p (P.tk h)) 1).2 else zs_join P s (P.ha h) (zs_arm s p (P.tk h)) 1) else zs_hs P p (P.hn - (h + 1)).toNat s := by
  obtain ⟨n, hn⟩ : ∃ n : Nat, (P.hn - (h + 1)).toNat = n := ⟨_, rfl⟩
  have e : (P.hn - h).toNat = n + 1 := by omega
  have e2 : P.hn - ((n : Int) + 1) = h := by omega
  rw [e, hn]
  show (if P.fr (P.hn - ((n : Int) + 1)) ≤ p ∧ p < P.to (P.hn - ((n : Int) + 1)) then _ else _) = _
  rw [e2]
theorem zs_pass_s {P : zP} {p : Int} {s : zS} (h1 : p < P.n) : zs_pass P (P.n - p).toNat s = zi (s.R p) (if (zs_work P p s).1 = 0 then zs_pass P (P.n - (p + 1)).toNat (zs_work P p s).2 else ((zs_work P p s).1, p, (zs_work P p s).2)) (zs_pass P (P.n - (p + 1)).toNat s) := by
  obtain ⟨n, hn⟩ : ∃ n : Nat, (P.n - (p + 1)).toNat = n := ⟨_, rfl⟩
  have e : (P.n - p).toNat = n + 1 := by omega
  have e2 : P.n - ((n : Int) + 1) = p := by omega
  rw [e, hn]
  show zi (s.R (P.n - ((n : Int) + 1))) _ _ = _
  rw [e2]
