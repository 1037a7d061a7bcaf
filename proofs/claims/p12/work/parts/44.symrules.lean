/-! ===== 44: rules for a method's own run, instruction by instruction ===== -/
section ZXT
variable {P : zx_P} {d pc : Nat} {q : zx_M} {ls : zx_L} {st : List Value} {h : zx_H} {F : Option Value → zx_H → Prop}
theorem zx_T.s {i : Instr} {k : Nat} {st' : List Value} (ha : zx_at (zx_mi q) pc = some (i, k)) (e : zx_s i st = some (k, st')) (ht : zx_T P d q (pc + k) ls st' h F) : zx_T P d q pc ls st h F :=
  zx_T.go (by unfold zx_o; simp only [ha, e]; rw [if_pos trivial]) ht
theorem zx_T.l {i : Instr} {k : Nat} {v : Value} (ha : zx_at (zx_mi q) pc = some (i, k)) (e0 : zx_s i st = none) (e : zx_l i ls = some (k, v)) (ht : zx_T P d q (pc + k) ls (v :: st) h F) : zx_T P d q pc ls st h F :=
  zx_T.go (by unfold zx_o; simp only [ha, e0, e]; rw [if_pos trivial]) ht
theorem zx_T.t {i : Instr} {k : Nat} {ls' : zx_L} {st' : List Value} (ha : zx_at (zx_mi q) pc = some (i, k)) (e0 : zx_s i st = none) (e1 : zx_l i ls = none) (e : zx_t i (zx_ml q) ls st = some (k, ls', st')) (ht : zx_T P d q (pc + k) ls' st' h F) : zx_T P d q pc ls st h F :=
  zx_T.go (by unfold zx_o; simp only [ha, e0, e1, e]; rw [if_pos trivial]) ht
theorem zx_T.j {i : Instr} {k pc' : Nat} {st' : List Value} (ha : zx_at (zx_mi q) pc = some (i, k)) (e0 : zx_s i st = none) (e1 : zx_l i ls = none) (e2 : zx_t i (zx_ml q) ls st = none) (e : zx_j i k pc st = some (pc', st')) (ht : zx_T P d q pc' ls st' h F) : zx_T P d q pc ls st h F :=
  zx_T.go (by unfold zx_o; simp only [ha, e0, e1, e2, e]) ht
theorem zx_T.g {i : Instr} {k : Nat} {st' : List Value} {h' : zx_H} (ha : zx_at (zx_mi q) pc = some (i, k)) (e0 : zx_s i st = none) (e1 : zx_l i ls = none) (e2 : zx_t i (zx_ml q) ls st = none) (e3 : zx_j i k pc st = none) (e : zx_g P (zx_mo q) i st h = some (k, st', h')) (ht : zx_T P d q (pc + k) ls st' h' F) : zx_T P d q pc ls st h F :=
  zx_T.go (by unfold zx_o; simp only [ha, e0, e1, e2, e3, e]; rw [if_pos trivial]) ht
theorem zx_T.r {i : Instr} {k : Nat} {r : Option Value} (ha : zx_at (zx_mi q) pc = some (i, k)) (e0 : zx_s i st = none) (e1 : zx_l i ls = none) (e2 : zx_t i (zx_ml q) ls st = none) (e3 : zx_j i k pc st = none) (e4 : zx_g P (zx_mo q) i st h = none) (e : zx_r i k (zx_mr q) st = some r) (hf : F r h) : zx_T P d q pc ls st h F :=
  zx_T.rt (by unfold zx_o; simp only [ha, e0, e1, e2, e3, e4, e]) hf
theorem zx_T.c {i : Instr} {k cj : Nat} {as rest : List Value} {q' : zx_M} {Fc : Option Value → zx_H → Prop} (ha : zx_at (zx_mi q) pc = some (i, k)) (e0 : zx_s i st = none) (e1 : zx_l i ls = none) (e2 : zx_t i (zx_ml q) ls st = none) (e3 : zx_j i k pc st = none) (e4 : zx_g P (zx_mo q) i st h = none) (e5 : zx_r i k (zx_mr q) st = none) (e6 : zx_n P (zx_mo q) i k st = none) (e : zx_k P (zx_mo q) i k st h = some (cj, as, rest)) (hq : (zx_pm P)[cj]? = some q') (hc : zx_T P d q' 0 (lv_args 0 as) [] h Fc) (ht : ∀ r1 h1, Fc r1 h1 → zx_T P (d + 1) q (pc + 3) ls (r1.toList ++ rest) h1 F) : zx_T P (d + 1) q pc ls st h F := by
  obtain ⟨n, r1, h1, hx, hf⟩ := hc
  exact zx_T.cl (by unfold zx_o; simp only [ha, e0, e1, e2, e3, e4, e5, e6, e]) hq hx (ht r1 h1 hf)
end ZXT
