/-! ===== 14: one step of the interpreter by itself; more fuel, more depth ===== -/
abbrev zx_R : Type := (Nat × zx_L × List Value × zx_H) ⊕ (Option Value ⊕ (List Value ⊕ (Nat × List Value × List Value)))
def zx_o (P : zx_P) (q : zx_M) (pc : Nat) (ls : zx_L) (st : List Value) (h : zx_H) : Option zx_R :=
  match zx_at (zx_mi q) pc with
  | none => none
  | some (i, len) =>
    match zx_s i st with
    | some (k, st') => if len = k then some (.inl (pc + k, ls, st', h)) else none
    | none =>
    match zx_l i ls with
    | some (k, v) => if len = k then some (.inl (pc + k, ls, v :: st, h)) else none
    | none =>
    match zx_t i (zx_ml q) ls st with
    | some (k, ls', st') => if len = k then some (.inl (pc + k, ls', st', h)) else none
    | none =>
    match zx_j i len pc st with
    | some (pc', st') => some (.inl (pc', ls, st', h))
    | none =>
    match zx_g P (zx_mo q) i st h with
    | some (k, st', h') => if len = k then some (.inl (pc + k, ls, st', h')) else none
    | none =>
    match zx_r i len (zx_mr q) st with
    | some r => some (.inr (.inl r))
    | none =>
    match zx_n P (zx_mo q) i len st with
    | some st' => some (.inr (.inr (.inl st')))
    | none =>
    match zx_k P (zx_mo q) i len st h with
    | some z => some (.inr (.inr (.inr z)))
    | none => none
def zx_nx (P : zx_P) (n d : Nat) (q : zx_M) (pc : Nat) (ls : zx_L) (h : zx_H) (o : Option zx_R) : Option (Option Value × zx_H) :=
  match o with
  | none => none
  | some (.inl (pc', ls', st', h')) => zx_x P n d q pc' ls' st' h'
  | some (.inr (.inl r)) => some (r, h)
  | some (.inr (.inr (.inl st'))) => (match d with
    | 0 => none
    | d' + 1 => zx_x P n (d' + 1) q (pc + 3) ls st' h)
  | some (.inr (.inr (.inr (cj, as, rest)))) => (match d with
    | 0 => none
    | d' + 1 => (match (zx_pm P)[cj]? with
      | none => none
      | some q' => (match zx_x P n d' q' 0 (lv_args 0 as) [] h with
        | none => none
        | some (r, h') => zx_x P n (d' + 1) q (pc + 3) ls (r.toList ++ rest) h')))
theorem zx_x_succ (P : zx_P) (n d : Nat) (q : zx_M) (pc : Nat) (ls : zx_L) (st : List Value) (h : zx_H) : zx_x P (n + 1) d q pc ls st h = zx_nx P n d q pc ls h (zx_o P q pc ls st h) := by
  rw [zx_x]
  unfold zx_o
  cases zx_at (zx_mi q) pc with
  | none => rfl
  | some il =>
    obtain ⟨i, len⟩ := il
    dsimp only
    cases zx_s i st with
    | some z => obtain ⟨k, st'⟩ := z; dsimp only; split <;> rfl
    | none =>
      dsimp only
      cases zx_l i ls with
      | some z => obtain ⟨k, st'⟩ := z; dsimp only; split <;> rfl
      | none =>
        dsimp only
        cases zx_t i (zx_ml q) ls st with
        | some z => obtain ⟨k, ls', st'⟩ := z; dsimp only; split <;> rfl
        | none =>
          dsimp only
          cases zx_j i len pc st with
          | some z => rfl
          | none =>
            dsimp only
            cases zx_g P (zx_mo q) i st h with
            | some z => obtain ⟨k, st', h'⟩ := z; dsimp only; split <;> rfl
            | none =>
              dsimp only
              cases zx_r i len (zx_mr q) st with
              | some z => rfl
              | none =>
                dsimp only
                cases zx_n P (zx_mo q) i len st with
                | some z => rfl
                | none =>
                  dsimp only
                  cases zx_k P (zx_mo q) i len st h with
                  | some z => rfl
                  | none => rfl
theorem zx_mono {P : zx_P} : ∀ (n m d e : Nat) (q : zx_M) (pc : Nat) (ls : zx_L) (st : List Value) (h : zx_H) (R : Option Value × zx_H), n ≤ m → d ≤ e → zx_x P n d q pc ls st h = some R → zx_x P m e q pc ls st h = some R := by
  intro n
  induction n with
  | zero => intro m d e q pc ls st h R _ _ hx; simp [zx_x] at hx
  | succ n ih =>
    intro m d e q pc ls st h R hm hd hx
    obtain ⟨m, rfl⟩ : ∃ k, m = k + 1 := ⟨m - 1, by omega⟩
    have hm : n ≤ m := by omega
    rw [zx_x_succ] at hx ⊢
    unfold zx_nx at hx ⊢
    split at hx
    · cases hx
    · exact ih m d e _ _ _ _ _ _ hm hd hx
    · exact hx
    · split at hx
      · cases hx
      · next d' =>
        obtain ⟨e, rfl⟩ : ∃ k, e = k + 1 := ⟨e - 1, by omega⟩
        exact ih m _ _ _ _ _ _ _ _ hm hd hx
    · split at hx
      · cases hx
      · next d' =>
        obtain ⟨e, rfl⟩ : ∃ k, e = k + 1 := ⟨e - 1, by omega⟩
        dsimp only at hx ⊢
        split at hx
        · cases hx
        · next q' hq' =>
          split at hx
          · cases hx
          · next r h' hr =>
            rw [ih m d' e _ _ _ _ _ _ hm (by omega) hr]
            exact ih m _ _ _ _ _ _ _ _ hm hd hx
/-- it comes to an end, so -/
def zx_T (P : zx_P) (d : Nat) (q : zx_M) (pc : Nat) (ls : zx_L) (st : List Value) (h : zx_H) (F : Option Value → zx_H → Prop) : Prop := ∃ n r h', zx_x P n d q pc ls st h = some (r, h') ∧ F r h'
theorem zx_T.go {P : zx_P} {d : Nat} {q : zx_M} {pc pc' : Nat} {ls ls' : zx_L} {st st' : List Value} {h h' : zx_H} {F : Option Value → zx_H → Prop} (ho : zx_o P q pc ls st h = some (.inl (pc', ls', st', h'))) (ht : zx_T P d q pc' ls' st' h' F) : zx_T P d q pc ls st h F := by
  obtain ⟨n, r, h2, hx, hf⟩ := ht
  exact ⟨n + 1, r, h2, by rw [zx_x_succ, ho]; exact hx, hf⟩
theorem zx_T.rt {P : zx_P} {d : Nat} {q : zx_M} {pc : Nat} {ls : zx_L} {st : List Value} {h : zx_H} {F : Option Value → zx_H → Prop} {r : Option Value} (ho : zx_o P q pc ls st h = some (.inr (.inl r))) (hf : F r h) : zx_T P d q pc ls st h F :=
  ⟨1, r, h, by rw [zx_x_succ, ho]; rfl, hf⟩
theorem zx_T.mn {P : zx_P} {d : Nat} {q : zx_M} {pc : Nat} {ls : zx_L} {st st' : List Value} {h : zx_H} {F : Option Value → zx_H → Prop} (ho : zx_o P q pc ls st h = some (.inr (.inr (.inl st')))) (ht : zx_T P (d + 1) q (pc + 3) ls st' h F) : zx_T P (d + 1) q pc ls st h F := by
  obtain ⟨n, r, h2, hx, hf⟩ := ht
  exact ⟨n + 1, r, h2, by rw [zx_x_succ, ho]; exact hx, hf⟩
theorem zx_T.cl {P : zx_P} {d : Nat} {q q' : zx_M} {pc cj n1 : Nat} {ls : zx_L} {st as rest : List Value} {h h1 : zx_H} {r1 : Option Value} {F : Option Value → zx_H → Prop} (ho : zx_o P q pc ls st h = some (.inr (.inr (.inr (cj, as, rest))))) (hq : (zx_pm P)[cj]? = some q') (hc : zx_x P n1 d q' 0 (lv_args 0 as) [] h = some (r1, h1)) (ht : zx_T P (d + 1) q (pc + 3) ls (r1.toList ++ rest) h1 F) : zx_T P (d + 1) q pc ls st h F := by
  obtain ⟨n, r, h2, hx, hf⟩ := ht
  refine ⟨max n n1 + 1, r, h2, ?_, hf⟩
  rw [zx_x_succ, ho]
  unfold zx_nx
  dsimp only
  rw [hq]
  dsimp only
  rw [zx_mono n1 (max n n1) d d _ _ _ _ _ _ (Nat.le_max_right _ _) (Nat.le_refl _) hc]
  exact zx_mono n (max n n1) _ _ _ _ _ _ _ _ (Nat.le_max_left _ _) (Nat.le_refl _) hx
