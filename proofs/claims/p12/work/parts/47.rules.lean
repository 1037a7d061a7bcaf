/-! ===== 47: fewer locals, in another order, do as well ===== -/
def zx_in (ls : zx_L) : zx_L → Prop
  | [] => True
  | q :: r => zx_lk ls q.1 = some q.2 ∧ zx_in ls r
def zx_nd : zx_L → Bool
  | [] => true
  | q :: r => r.all (fun p => !(Nat.beq p.1 q.1)) && zx_nd r
theorem zx_lkm {ls : zx_L} {j : Nat} {w : Value} (h : zx_lk ls j = some w) : (j, w) ∈ ls := by
  induction ls with
  | nil => cases h
  | cons q r ih =>
    rw [zx_lk] at h
    split at h
    · next e => rw [← Nat.eq_of_beq_eq_true e, ← Option.some.inj h]; exact List.mem_cons_self
    · exact List.mem_cons_of_mem _ (ih h)
theorem zx_lk_nd {ls : zx_L} (hn : zx_nd ls = true) {j : Nat} {w : Value} (h : (j, w) ∈ ls) : zx_lk ls j = some w := by
  induction ls with
  | nil => cases h
  | cons q r ih =>
    rw [zx_nd, Bool.and_eq_true] at hn
    rw [zx_lk]
    rcases List.mem_cons.mp h with e | e
    · subst e
      rw [show Nat.beq j j = true from Nat.beq_refl j]
    · have h1 := List.all_eq_true.mp hn.1 (j, w) e
      split
      · next e2 => have := Nat.eq_of_beq_eq_true e2; subst this; simp [Nat.beq_refl] at h1
      · exact ih hn.2 e
theorem zx_nd_filter {ls : zx_L} {p : Nat × Value → Bool} (hn : zx_nd ls = true) : zx_nd (ls.filter p) = true := by
  induction ls with
  | nil => rfl
  | cons q r ih =>
    rw [zx_nd, Bool.and_eq_true] at hn
    rw [List.filter_cons]
    split
    · rw [zx_nd, Bool.and_eq_true]
      refine ⟨List.all_eq_true.mpr fun x hx => ?_, ih hn.2⟩
      exact List.all_eq_true.mp hn.1 x (List.mem_filter.mp hx).1
    · exact ih hn.2
theorem zx_lkf {ls : zx_L} {p : Nat × Value → Bool} {j : Nat} {w : Value} (h : zx_lk ls j = some w) (hp : p (j, w) = true) : zx_lk (ls.filter p) j = some w := by
  induction ls with
  | nil => cases h
  | cons q r ih =>
    rw [zx_lk] at h
    split at h
    · next e =>
      have e1 := Nat.eq_of_beq_eq_true e
      have e2 := Option.some.inj h
      have e3 : q = (j, w) := by rw [← e1, ← e2]
      subst e3
      rw [List.filter_cons, if_pos hp, zx_lk, e]
    · next e =>
      rw [List.filter_cons]
      split
      · rw [zx_lk, e]; exact ih h
      · exact ih h
def zx_sb (ls' ls : zx_L) : Prop := zx_nd ls' = true ∧ ∀ j w, zx_lk ls' j = some w → zx_lk ls j = some w
theorem zx_sb_fl {ls' ls : zx_L} {i : Nat} {v : Value} {p : Nat × Value → Bool} (h : zx_sb ls' ls) (hp : ∀ q, p q = true → Nat.beq q.1 i = false) : zx_sb ((i, v) :: ls'.filter p) ((i, v) :: ls.filter p) := by
  refine ⟨?_, fun j w e => ?_⟩
  · rw [zx_nd, Bool.and_eq_true]
    refine ⟨List.all_eq_true.mpr fun x hx => ?_, zx_nd_filter h.1⟩
    rw [hp x (List.mem_filter.mp hx).2]; rfl
  · rw [zx_lk] at e ⊢
    split at e
    · next e2 => exact e
    · have h1 := List.mem_filter.mp (zx_lkm e)
      exact zx_lkf (h.2 j w (zx_lk_nd h.1 h1.1)) h1.2
theorem zx_beq_f {a b : Nat} (h : (!(a == b)) = true) : Nat.beq a b = false := by
  cases e : Nat.beq a b with
  | false => rfl
  | true => rw [Nat.eq_of_beq_eq_true e] at h; simp at h
theorem zx_sb1 {ls' ls : zx_L} {i : Nat} {v : Value} (h : zx_sb ls' ls) : zx_sb (zx_set1 ls' i v) (zx_set1 ls i v) :=
  zx_sb_fl h fun q hq => zx_beq_f (zb_and hq).1
theorem zx_sb2 {ls' ls : zx_L} {i : Nat} {v : Value} (h : zx_sb ls' ls) : zx_sb (zx_set2 ls' i v) (zx_set2 ls i v) :=
  zx_sb_fl h fun q hq => zx_beq_f (zb_and hq).1
theorem zx_sb_gi {ls' ls : zx_L} (h : zx_sb ls' ls) {k n : Nat} {z : Nat × Value} (e : zx_gi ls' k n = some z) : zx_gi ls k n = some z := by
  unfold zx_gi at e ⊢
  split at e
  · next e9 => rw [h.2 _ _ e9]; exact e
  · cases e
theorem zx_sb_gl {ls' ls : zx_L} (h : zx_sb ls' ls) {k n : Nat} {z : Nat × Value} (e : zx_gl ls' k n = some z) : zx_gl ls k n = some z := by
  unfold zx_gl at e ⊢
  split at e
  · next e9 => rw [h.2 _ _ e9]; exact e
  · cases e
theorem zx_sb_gr {ls' ls : zx_L} (h : zx_sb ls' ls) {k n : Nat} {z : Nat × Value} (e : zx_gr ls' k n = some z) : zx_gr ls k n = some z := by
  unfold zx_gr at e ⊢
  split at e
  · next e9 => rw [h.2 _ _ e9]; exact e
  · cases e
theorem zx_sb_l {ls' ls : zx_L} (h : zx_sb ls' ls) {i : Instr} {z : Nat × Value} (e : zx_l i ls' = some z) : zx_l i ls = some z := by
  unfold zx_l at e ⊢
  split at e
  · exact zx_sb_gi h e
  · exact zx_sb_gi h e
  · exact zx_sb_gl h e
  · exact zx_sb_gl h e
  · exact zx_sb_gr h e
  · exact zx_sb_gr h e
  · cases e
/-- a load is nothing else -/
theorem zx_l_only {P : zx_P} {o nL n pc : Nat} {ls' ls : zx_L} {i : Instr} {z : Nat × Value} (e : zx_l i ls = some z) (st : List Value) (h : zx_H) (r : Option FieldType) : zx_t i nL ls' st = none ∧ zx_j i n pc st = none ∧ zx_g P o i st h = none ∧ zx_r i n r st = none ∧ zx_n P o i n st = none ∧ zx_k P o i n st h = none := by
  unfold zx_l at e
  split at e
  all_goals first | (cases e; done) | exact ⟨rfl, rfl, rfl, rfl, rfl, rfl⟩
theorem zx_sb_t {ls' ls : zx_L} (h : zx_sb ls' ls) {i : Instr} {nL k : Nat} {st st' : List Value} {l1 : zx_L} (e : zx_t i nL ls' st = some (k, l1, st')) : ∃ l2, zx_t i nL ls st = some (k, l2, st') ∧ zx_sb l1 l2 := by
  unfold zx_t at e ⊢
  split at e
  · split at e
    · next hc => cases e; exact ⟨_, by rw [if_pos hc], zx_sb1 h⟩
    · cases e
  · split at e
    · next hc => cases e; exact ⟨_, by rw [if_pos hc], zx_sb1 h⟩
    · cases e
  · split at e
    · next hc => cases e; exact ⟨_, by rw [if_pos hc], zx_sb2 h⟩
    · cases e
  · split at e
    · next hc => cases e; exact ⟨_, by rw [if_pos hc], zx_sb2 h⟩
    · cases e
  · split at e
    · next hc => cases e; exact ⟨_, by rw [if_pos hc], zx_sb1 h⟩
    · cases e
  · split at e
    · next hc => cases e; exact ⟨_, by rw [if_pos hc], zx_sb1 h⟩
    · cases e
  · split at e
    · next x e9 =>
      split at e
      · next hc => cases e; exact ⟨_, by simp only [h.2 _ _ e9]; rw [if_pos hc], zx_sb1 h⟩
      · cases e
    · cases e
  · cases e
/-- a store is no other thing, whatever the locals -/
theorem zx_t_none {ls' ls : zx_L} (h : zx_sb ls' ls) {P : zx_P} {o nL n pc : Nat} {i : Instr} {st : List Value} {hp : zx_H} {r : Option FieldType} (e : zx_t i nL ls' st = none) (e2 : ¬ zx_t i nL ls st = none) : zx_j i n pc st = none ∧ zx_g P o i st hp = none ∧ zx_r i n r st = none ∧ zx_n P o i n st = none ∧ zx_k P o i n st hp = none := by
  unfold zx_t at e2
  split at e2
  all_goals first | exact absurd rfl e2 | exact ⟨rfl, rfl, rfl, rfl, rfl⟩
theorem zx_sb_o {P : zx_P} {q : zx_M} {pc : Nat} {ls' ls : zx_L} {st : List Value} {h : zx_H} (hs : zx_sb ls' ls) {R : zx_R} (e : zx_o P q pc ls' st h = some R) :
    (∃ pc' l1 l2 st' h', R = .inl (pc', l1, st', h') ∧ zx_o P q pc ls st h = some (.inl (pc', l2, st', h')) ∧ zx_sb l1 l2) ∨ (∃ z, R = .inr z ∧ zx_o P q pc ls st h = some (.inr z)) := by
  unfold zx_o at e ⊢
  cases ea : zx_at (zx_mi q) pc with
  | none => simp only [ea] at e; cases e
  | some il =>
  obtain ⟨i, len⟩ := il
  simp only [ea] at e ⊢
  cases e1 : zx_s i st with
  | some z =>
    obtain ⟨k, st'⟩ := z
    simp only [e1] at e ⊢
    by_cases hc : len = k
    · rw [if_pos hc] at e ⊢; cases e; exact Or.inl ⟨_, _, _, _, _, rfl, rfl, hs⟩
    · rw [if_neg hc] at e; cases e
  | none =>
  simp only [e1] at e ⊢
  cases e2 : zx_l i ls' with
  | some z =>
    obtain ⟨k, v⟩ := z
    simp only [e2] at e
    simp only [zx_sb_l hs e2]
    by_cases hc : len = k
    · rw [if_pos hc] at e ⊢; cases e; exact Or.inl ⟨_, _, _, _, _, rfl, rfl, hs⟩
    · rw [if_neg hc] at e; cases e
  | none =>
  simp only [e2] at e
  cases e2' : zx_l i ls with
  | some z =>
    obtain ⟨a1, a2, a3, a4, a5, a6⟩ := zx_l_only (P := P) (o := zx_mo q) (nL := zx_ml q) (n := len) (pc := pc) (ls' := ls') e2' st h (zx_mr q)
    simp only [a1, a2, a3, a4, a5, a6] at e
    cases e
  | none =>
  cases e3 : zx_t i (zx_ml q) ls' st with
  | some z =>
    obtain ⟨k, l1, st'⟩ := z
    obtain ⟨l2, e4, e5⟩ := zx_sb_t hs e3
    simp only [e3] at e
    simp only [e4]
    by_cases hc : len = k
    · rw [if_pos hc] at e ⊢; cases e; exact Or.inl ⟨_, _, _, _, _, rfl, rfl, e5⟩
    · rw [if_neg hc] at e; cases e
  | none =>
  by_cases e3' : zx_t i (zx_ml q) ls st = none
  · simp only [e3] at e
    simp only [e3']
    cases e4 : zx_j i len pc st with
    | some z => obtain ⟨pc', st'⟩ := z; simp only [e4] at e ⊢; cases e; exact Or.inl ⟨_, _, _, _, _, rfl, rfl, hs⟩
    | none =>
    simp only [e4] at e ⊢
    cases e5 : zx_g P (zx_mo q) i st h with
    | some z =>
      obtain ⟨k, st', h'⟩ := z
      simp only [e5] at e ⊢
      by_cases hc : len = k
      · rw [if_pos hc] at e ⊢; cases e; exact Or.inl ⟨_, _, _, _, _, rfl, rfl, hs⟩
      · rw [if_neg hc] at e; cases e
    | none =>
    simp only [e5] at e ⊢
    refine Or.inr ?_
    cases e6 : zx_r i len (zx_mr q) st with
    | some z => simp only [e6] at e ⊢; cases e; exact ⟨_, rfl, rfl⟩
    | none =>
    simp only [e6] at e ⊢
    cases e7 : zx_n P (zx_mo q) i len st with
    | some z => simp only [e7] at e ⊢; cases e; exact ⟨_, rfl, rfl⟩
    | none =>
    simp only [e7] at e ⊢
    cases e8 : zx_k P (zx_mo q) i len st h with
    | some z => simp only [e8] at e ⊢; cases e; exact ⟨_, rfl, rfl⟩
    | none => simp only [e8] at e; cases e
  · obtain ⟨a2, a3, a4, a5, a6⟩ := zx_t_none (P := P) (o := zx_mo q) (n := len) (pc := pc) (hp := h) (r := zx_mr q) hs e3 e3'
    simp only [e3, a2, a3, a4, a5, a6] at e
    cases e
theorem zx_sb_x {P : zx_P} : ∀ (n d : Nat) (q : zx_M) (pc : Nat) (ls' ls : zx_L) (st : List Value) (h : zx_H) (R : Option Value × zx_H), zx_sb ls' ls → zx_x P n d q pc ls' st h = some R → zx_x P n d q pc ls st h = some R := by
  intro n
  induction n with
  | zero => intro d q pc ls' ls st h R _ hx; simp [zx_x] at hx
  | succ n ih =>
    intro d q pc ls' ls st h R hs hx
    rw [zx_x_succ] at hx ⊢
    cases e : zx_o P q pc ls' st h with
    | none => rw [e] at hx; cases hx
    | some z =>
      rw [e] at hx
      rcases zx_sb_o hs e with ⟨pc', l1, l2, st', h', rfl, e2, e3⟩ | ⟨z, rfl, e2⟩
      · rw [e2]; exact ih _ _ _ _ _ _ _ _ e3 hx
      · rw [e2]
        unfold zx_nx at hx ⊢
        rcases z with r | st' | ⟨cj, as, rest⟩
        · exact hx
        · dsimp only at hx ⊢
          split at hx
          · cases hx
          · exact ih _ _ _ _ _ _ _ _ hs hx
        · dsimp only at hx ⊢
          split at hx
          · cases hx
          · split at hx
            · cases hx
            · next q' hq' =>
              split at hx
              · cases hx
              · next r h' hr => exact ih _ _ _ _ _ _ _ _ hs hx
theorem zx_in_lk {ls : zx_L} : ∀ {ls' : zx_L}, zx_in ls ls' → ∀ j w, zx_lk ls' j = some w → zx_lk ls j = some w
  | [], _, _, _, e => by cases e
  | q :: r, h, j, w, e => by
    rw [zx_lk] at e
    split at e
    · next e2 => rw [← Nat.eq_of_beq_eq_true e2, ← Option.some.inj e]; exact h.1
    · exact zx_in_lk h.2 j w e
theorem zx_T.lk {P : zx_P} {d : Nat} {q : zx_M} {pc : Nat} {ls ls' : zx_L} {st : List Value} {h : zx_H} {F : Option Value → zx_H → Prop} (hn : zx_nd ls' = true) (hl : zx_in ls ls') (ht : zx_T P d q pc ls' st h F) : zx_T P d q pc ls st h F := by
  obtain ⟨n, r, h', hx, hf⟩ := ht
  exact ⟨n, r, h', zx_sb_x n d q pc ls' ls st h _ ⟨hn, zx_in_lk hl⟩ hx, hf⟩
theorem zx_T.im {P : zx_P} {d : Nat} {q : zx_M} {pc : Nat} {ls : zx_L} {st : List Value} {h : zx_H} {F G : Option Value → zx_H → Prop} (ht : zx_T P d q pc ls st h F) (hi : ∀ r h', F r h' → G r h') : zx_T P d q pc ls st h G := by
  obtain ⟨n, r, h', hx, hf⟩ := ht
  exact ⟨n, r, h', hx, hi r h' hf⟩
