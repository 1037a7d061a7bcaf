/-! ===== 97zk: a run's step in the class, as it goes ===== -/
def zk_sm (A A' : Int → Int) : Prop := ∀ j, 0 ≤ j → A' j = A j
def zk_vp (S : Int) (V V' : Int → Int) (v : Int) : Prop := ∀ j, 0 ≤ j → V' j = if j = S + 7 then v else V j
def zk_lc (a : Int) (V V' : Int → Int) (v : Int) : Prop := ∀ j, 0 ≤ j → V' j = if j = a then v else V j
def zk_hc (n : Int) (L : Int → Int) (r i : Int) : Prop := (0 ≤ r ∧ r < n) ∧ 0 ≤ i ∧ i < L r
/-- the machine's own refusal of an op, 0 for none -/
def zk_rf (o a : Int) (K T : Int → Int) (n : Int) (L : Int → Int) (e : Int) : Prop :=
  (o = 7 → (zi32 (T 0) < 0 ∧ e = 3) ∨ (20 < zi32 (T 0) ∧ e = 6) ∨ ((0 ≤ zi32 (T 0) ∧ zi32 (T 0) ≤ 20) ∧ e = 0)) ∧
  (o = 13 → (zi32 (T 0) = 0 ∧ e = 5) ∨ (¬ zi32 (T 0) = 0 ∧ e = 0)) ∧
  (o = 17 → (K 1 = 4 ∧ e = 1) ∨ (¬ K 1 = 4 ∧ zk_hc n L (zi32 (T 1)) (zi32 (T 0)) ∧ e = 0) ∨ (¬ K 1 = 4 ∧ ¬ zk_hc n L (zi32 (T 1)) (zi32 (T 0)) ∧ e = 2)) ∧
  (o = 18 → (K 2 = 4 ∧ e = 1) ∨ (¬ K 2 = 4 ∧ zk_hc n L (zi32 (T 2)) (zi32 (T 1)) ∧ e = 0) ∨ (¬ K 2 = 4 ∧ ¬ zk_hc n L (zi32 (T 2)) (zi32 (T 1)) ∧ e = 2)) ∧
  (o = 19 ∨ o = 20 ∨ o = 22 → (K 0 = 4 ∧ e = 1) ∨ (¬ K 0 = 4 ∧ e = 0)) ∧
  (o = 21 → (zc_g (K 0) a ∧ e = 0) ∨ (¬ zc_g (K 0) a ∧ e = 4)) ∧
  (¬ (o = 7 ∨ o = 13 ∨ (17 ≤ o ∧ o ≤ 22)) → e = 0)
def zk_rk (o S n : Int) (T V L C V' C' : Int → Int) : Prop :=
  (o = 12 → zk_vp S V V' (zi32 (zi32 (T 1) + zi32 (T 0)))) ∧
  (o = 13 → ¬ zi32 (T 0) = 0 → zk_vp S V V' (zi32 (Int.tdiv (zi32 (T 1)) (zi32 (T 0))))) ∧
  (o = 14 → zk_vp S V V' (zi64 (T 2 + T 0))) ∧
  (o = 15 → zk_vp S V V' (zi32 (T 0))) ∧
  (o = 16 ∨ o = 20 → zk_vp S V V' (T 0)) ∧
  (o = 17 → zk_hc n L (zi32 (T 1)) (zi32 (T 0)) → zk_vp S V V' (C (20 * zi32 (T 1) + zi32 (T 0)))) ∧
  (o = 18 → zk_sm V V' ∧ (zk_hc n L (zi32 (T 2)) (zi32 (T 1)) → zk_lc (20 * zi32 (T 2) + zi32 (T 1)) C C' (zi32 (T 0)))) ∧
  (o = 19 → 0 ≤ zi32 (T 0) ∧ zi32 (T 0) < n → zk_vp S V V' (L (zi32 (T 0)))) ∧
  (¬ (12 ≤ o ∧ o ≤ 20) → zk_sm V V') ∧
  (¬ o = 18 → zk_sm C C')
/-- what an op does to values and rows -/
def zk_wk (o a b S n : Int) (T V L C : Int → Int) (n' : Int) (V' L' C' : Int → Int) : Prop :=
  (o = 1 ∨ o = 2 ∨ o = 6 → zk_vp S V V' a) ∧
  (o = 3 ∨ o = 4 ∨ o = 5 → zk_vp S V V' 0) ∧
  (o = 7 → n < 158 ∧ 0 ≤ zi32 (T 0) ∧ zi32 (T 0) ≤ 20 → zk_vp S V V' n ∧ n' = n + 1 ∧ zk_lc n L L' (zi32 (T 0)) ∧ ∀ j, 0 ≤ j → C' j = if 20 * n ≤ j ∧ j < 20 * n + zi32 (T 0) then 0 else C j) ∧
  (o = 8 → 0 ≤ a ∧ a ≤ 7 → zk_vp S V V' (V a)) ∧
  (o = 9 → 0 ≤ a ∧ a ≤ 7 → zk_lc a V V' (T 0)) ∧
  (o = 28 → 0 ≤ a ∧ a ≤ 7 → zk_lc a V V' (zi32 (zi32 (V a) + b))) ∧
  (o = 0 ∨ o = 10 ∨ o = 11 ∨ o = 21 ∨ (22 ≤ o ∧ o ≤ 27) → zk_sm V V') ∧
  (¬ o = 7 → n' = n ∧ zk_sm L L') ∧
  (¬ o = 7 ∧ ¬ o = 18 → zk_sm C C') ∧
  (12 ≤ o ∧ o ≤ 20 → zk_rk o S n T V L C V' C')
