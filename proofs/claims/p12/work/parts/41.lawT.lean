/-! ===== 41: rules for stretches of the law ===== -/
theorem zl_mono {P P2 : zx_P} {stop d : Nat} {q : zx_M} : ∀ (n m pc : Nat) (ls : zx_L) (st : List Value) (h : zx_H) (R : zx_L × List Value × zx_H), n ≤ m → zl_x P P2 stop q d n pc ls st h = some R → zl_x P P2 stop q d m pc ls st h = some R := by
  intro n
  induction n with
  | zero => intro m pc ls st h R _ hx; simp [zl_x] at hx
  | succ n ih =>
    intro m pc ls st h R hm hx
    obtain ⟨m, rfl⟩ : ∃ k, m = k + 1 := ⟨m - 1, by omega⟩
    have hm : n ≤ m := by omega
    rw [zl_x] at hx ⊢
    split at hx
    · split at hx
      · next e => rw [if_pos e]; exact hx
      · next e => rw [if_neg e]; exact ih _ _ _ _ _ _ hm hx
    · split at hx
      · cases hx
      · next q' hq' =>
        split at hx
        · cases hx
        · next r h' hr =>
          rw [zx_mono n m d d _ _ _ _ _ _ hm (Nat.le_refl _) hr]
          exact ih _ _ _ _ _ _ hm hx
    · cases hx
def zl_T (P P2 : zx_P) (stop : Nat) (q : zx_M) (d pc : Nat) (ls : zx_L) (st : List Value) (h : zx_H) (F : zx_L → List Value → zx_H → Prop) : Prop := ∃ n ls' st' h', zl_x P P2 stop q d n pc ls st h = some (ls', st', h') ∧ F ls' st' h'
section ZLT
variable {P P2 : zx_P} {stop d pc : Nat} {q : zx_M} {ls : zx_L} {st : List Value} {h : zx_H} {F : zx_L → List Value → zx_H → Prop}
theorem zl_T.go {pc' : Nat} {ls' : zx_L} {st' : List Value} {h' : zx_H} (ho : zx_o P2 q pc ls st h = some (.inl (pc', ls', st', h'))) (hs : ¬ pc' = stop) (ht : zl_T P P2 stop q d pc' ls' st' h' F) : zl_T P P2 stop q d pc ls st h F := by
  obtain ⟨n, a, b, c, hx, hf⟩ := ht
  exact ⟨n + 1, a, b, c, by rw [zl_x, ho]; dsimp only; rw [if_neg hs]; exact hx, hf⟩
theorem zl_T.en {ls' : zx_L} {st' : List Value} {h' : zx_H} (ho : zx_o P2 q pc ls st h = some (.inl (stop, ls', st', h'))) (hf : F ls' st' h') : zl_T P P2 stop q d pc ls st h F :=
  ⟨1, ls', st', h', by rw [zl_x, ho]; dsimp only; rw [if_pos rfl], hf⟩
theorem zl_T.cl {cj : Nat} {as rest : List Value} {q' : zx_M} {Fc : Option Value → zx_H → Prop} (ho : zx_o P2 q pc ls st h = some (.inr (.inr (.inr (cj, as, rest))))) (hq : (zx_pm P)[cj]? = some q') (hc : zx_T P d q' 0 (lv_args 0 as) [] h Fc) (ht : ∀ r1 h1, Fc r1 h1 → zl_T P P2 stop q d (pc + 3) ls (r1.toList ++ rest) h1 F) : zl_T P P2 stop q d pc ls st h F := by
  obtain ⟨n1, r1, h1, hc, hf⟩ := hc
  obtain ⟨n, a, b, c, hx, hF⟩ := ht r1 h1 hf
  refine ⟨max n n1 + 1, a, b, c, ?_, hF⟩
  rw [zl_x, ho]
  dsimp only
  rw [hq]
  dsimp only
  rw [zx_mono n1 (max n n1) d d _ _ _ _ _ _ (Nat.le_max_right _ _) (Nat.le_refl _) hc]
  exact zl_mono n (max n n1) _ _ _ _ _ (Nat.le_max_left _ _) hx
/-- an instruction on the stack; a load; a store; a jump; the heap -/
theorem zl_T.s {i : Instr} {k : Nat} {st' : List Value} (ha : zx_at (zx_mi q) pc = some (i, k)) (e : zx_s i st = some (k, st')) (hs : ¬ pc + k = stop) (ht : zl_T P P2 stop q d (pc + k) ls st' h F) : zl_T P P2 stop q d pc ls st h F :=
  zl_T.go (by unfold zx_o; simp only [ha, e]; rw [if_pos trivial]) hs ht
theorem zl_T.l {i : Instr} {k : Nat} {v : Value} (ha : zx_at (zx_mi q) pc = some (i, k)) (e0 : zx_s i st = none) (e : zx_l i ls = some (k, v)) (hs : ¬ pc + k = stop) (ht : zl_T P P2 stop q d (pc + k) ls (v :: st) h F) : zl_T P P2 stop q d pc ls st h F :=
  zl_T.go (by unfold zx_o; simp only [ha, e0, e]; rw [if_pos trivial]) hs ht
theorem zl_T.t {i : Instr} {k : Nat} {ls' : zx_L} {st' : List Value} (ha : zx_at (zx_mi q) pc = some (i, k)) (e0 : zx_s i st = none) (e1 : zx_l i ls = none) (e : zx_t i (zx_ml q) ls st = some (k, ls', st')) (hs : ¬ pc + k = stop) (ht : zl_T P P2 stop q d (pc + k) ls' st' h F) : zl_T P P2 stop q d pc ls st h F :=
  zl_T.go (by unfold zx_o; simp only [ha, e0, e1, e]; rw [if_pos trivial]) hs ht
theorem zl_T.j {i : Instr} {k pc' : Nat} {st' : List Value} (ha : zx_at (zx_mi q) pc = some (i, k)) (e0 : zx_s i st = none) (e1 : zx_l i ls = none) (e2 : zx_t i (zx_ml q) ls st = none) (e : zx_j i k pc st = some (pc', st')) (hs : ¬ pc' = stop) (ht : zl_T P P2 stop q d pc' ls st' h F) : zl_T P P2 stop q d pc ls st h F :=
  zl_T.go (by unfold zx_o; simp only [ha, e0, e1, e2, e]) hs ht
theorem zl_T.js {i : Instr} {k : Nat} {st' : List Value} (ha : zx_at (zx_mi q) pc = some (i, k)) (e0 : zx_s i st = none) (e1 : zx_l i ls = none) (e2 : zx_t i (zx_ml q) ls st = none) (e : zx_j i k pc st = some (stop, st')) (hf : F ls st' h) : zl_T P P2 stop q d pc ls st h F :=
  zl_T.en (by unfold zx_o; simp only [ha, e0, e1, e2, e]) hf
theorem zl_T.g {i : Instr} {k : Nat} {st' : List Value} {h' : zx_H} (ha : zx_at (zx_mi q) pc = some (i, k)) (e0 : zx_s i st = none) (e1 : zx_l i ls = none) (e2 : zx_t i (zx_ml q) ls st = none) (e3 : zx_j i k pc st = none) (e : zx_g P2 (zx_mo q) i st h = some (k, st', h')) (hs : ¬ pc + k = stop) (ht : zl_T P P2 stop q d (pc + k) ls st' h' F) : zl_T P P2 stop q d pc ls st h F :=
  zl_T.go (by unfold zx_o; simp only [ha, e0, e1, e2, e3, e]; rw [if_pos trivial]) hs ht
theorem zl_T.c {i : Instr} {k cj : Nat} {as rest : List Value} {q' : zx_M} {Fc : Option Value → zx_H → Prop} (ha : zx_at (zx_mi q) pc = some (i, k)) (e0 : zx_s i st = none) (e1 : zx_l i ls = none) (e2 : zx_t i (zx_ml q) ls st = none) (e3 : zx_j i k pc st = none) (e4 : zx_g P2 (zx_mo q) i st h = none) (e5 : zx_r i k (zx_mr q) st = none) (e6 : zx_n P2 (zx_mo q) i k st = none) (e : zx_k P2 (zx_mo q) i k st h = some (cj, as, rest)) (hq : (zx_pm P)[cj]? = some q') (hc : zx_T P d q' 0 (lv_args 0 as) [] h Fc) (ht : ∀ r1 h1, Fc r1 h1 → zl_T P P2 stop q d (pc + 3) ls (r1.toList ++ rest) h1 F) : zl_T P P2 stop q d pc ls st h F :=
  zl_T.cl (by unfold zx_o; simp only [ha, e0, e1, e2, e3, e4, e5, e6, e]) hq hc ht
end ZLT
