/-! ===== 97zv: the reference, method by method (by program) ===== -/
/-- a jump of the reference's -/
def zf_gth (h h' : zx_H) (p q : Int) : Prop := ((0 ≤ q ∧ q < zv_i h 1) ∧ zv_i h' 50 = q ∧ zv_i h' 14 = zv_i h 14 ∧ zv_i h' 42 = zv_i h 42 ∧ zv_i h' 43 = zv_i h 43) ∨ (¬ (0 ≤ q ∧ q < zv_i h 1) ∧ zv_i h' 14 = 7 ∧ zv_i h' 42 = 1 ∧ zv_i h' 43 = -10 - p)
def zf_rah (h h' : zx_H) (p k w c : Int) : Prop := ∃ i, zk_tk (zv_i h 5) (zv_a h 48) (zv_a h 49) (zv_a h 51) p k i ∧
  ((i = -1 ∧ zv_i h' 49 = c ∧ zv_i h' 43 = 1 ∧ zv_i h' 42 = 1 ∧ zv_i h' 14 = zv_i h 14) ∨
   (0 ≤ i ∧ zv_i h' 25 = 1 ∧ (∀ j, 0 ≤ j → j < 8 → zv_a h' 61 j = zv_a h 61 j) ∧ zv_a h' 61 8 = k ∧ zk_lc 8 (zv_b h 69) (zv_b h' 69) w ∧ zv_i h' 49 = zv_i h 49 ∧ zf_gth h h' p (zv_a h 50 i)))
def zf_reh (h h' : zx_H) (p q : Int) : Prop := zv_i h' 41 = zv_i h 41 + 1 ∧ zf_th (zv_i h 38) (zv_a h 71) (zv_a h 72) (q) (zv_i h' 38) (zv_a h' 71) (zv_a h' 72) ∧ zf_rah h h' p 7 (zv_i h 38) q
def zf_gfh (h h' : zx_H) (p t : Int) : Prop :=
  ((zv_a h 45 p = 24 ∨ (zv_a h 45 p = 25 ∧ zv_b h 69 t = 0) ∨ (zv_a h 45 p = 26 ∧ zv_a h 70 t = 4) ∨ (zv_a h 45 p = 27 ∧ zv_b h 69 t = 0)) → zf_gth h h' p (zv_a h 46 p)) ∧
  ((zv_a h 45 p = 27 ∧ zv_b h 69 t = 1) → zf_gth h h' p (zv_a h 47 p)) ∧
  (¬ (zv_a h 45 p = 24 ∨ (zv_a h 45 p = 25 ∧ zv_b h 69 t = 0) ∨ (zv_a h 45 p = 26 ∧ zv_a h 70 t = 4) ∨ (zv_a h 45 p = 27 ∧ (zv_b h 69 t = 0 ∨ zv_b h 69 t = 1))) → zv_i h' 50 = zv_i h 50 ∧ zv_i h' 14 = zv_i h 14 ∧ zv_i h' 42 = zv_i h 42 ∧ zv_i h' 43 = zv_i h 43)
def zf_ach (h h' : zx_H) (p t : Int) : Prop := ∃ r, zf_rf (zv_a h 45 p) (zv_a h 46 p) t (zv_a h 70) (zv_b h 69) (zv_a h 71) r ∧
  ((¬ r = 0 ∧ zf_reh h h' p r) ∨ (r = 0 ∧ zv_i h' 41 = zv_i h 41 ∧
    ((zv_a h 45 p = 22 ∧ zf_rs (zv_i h 38) (zv_a h 71) (zv_a h 72) (zv_i h' 38) (zv_a h' 71) (zv_a h' 72) ∧ zf_rah h h' p (zv_a h 70 t) (zi32 (zv_b h 69 t)) (zv_a h 71 (zi32 (zv_b h 69 t)))) ∨
     (zv_a h 45 p = 23 ∧ zf_rs (zv_i h 38) (zv_a h 71) (zv_a h 72) (zv_i h' 38) (zv_a h' 71) (zv_a h' 72) ∧ zv_i h' 25 = zv_i h 25 ∧ zk_sm (zv_a h 61) (zv_a h' 61) ∧ zk_sm (zv_b h 69) (zv_b h' 69) ∧ zv_i h' 43 = 0 ∧ zv_i h' 42 = 1 ∧ zv_i h' 14 = zv_i h 14 ∧ zv_i h' 49 = zv_i h 49) ∨
     (¬ zv_a h 45 p = 22 ∧ ¬ zv_a h 45 p = 23 ∧ zv_i h' 25 = zv_i h 25 ∧ zv_i h' 49 = zv_i h 49 ∧
      zf_wk (zv_a h 45 p) (zv_a h 46 p) (zv_a h 47 p) t (zv_i h 38) (zv_a h 70) (zv_b h 69) (zv_a h 71) (zv_a h 72) (zv_i h' 38) (zv_b h' 69) (zv_a h' 71) (zv_a h' 72) ∧
      (¬ zv_a h 45 p = 21 → zk_sm (zv_a h 61) (zv_a h' 61)) ∧ (zv_a h 45 p = 21 → zk_lc t (zv_a h 61) (zv_a h' 61) (zv_a h 70 t)) ∧ zf_gfh h h' p t))))
theorem zf_rf0 {o a t : Int} {K V L : Int → Int} (z : ¬ (o = 7 ∨ o = 13 ∨ (17 ≤ o ∧ o ≤ 22))) : zf_rf o a t K V L 0 := ⟨fun y => absurd (by omega) z, fun y => absurd (by omega) z, fun y => absurd (by omega) z, fun y => absurd (by omega) z, fun y => absurd (by omega) z, fun y => absurd (by omega) z, fun _ => rfl⟩
theorem zf_gf0 {h h' : zx_H} {p t : Int} (z : zv_a h 45 p < 24 ∨ 27 < zv_a h 45 p) (e : zv_i h' 50 = zv_i h 50 ∧ zv_i h' 14 = zv_i h 14 ∧ zv_i h' 42 = zv_i h 42 ∧ zv_i h' 43 = zv_i h 43) : zf_gfh h h' p t := ⟨fun y => by omega, fun y => by omega, fun _ => e⟩
theorem zf_aci {h h' : zx_H} {p t o : Int} (eo : zv_a h 45 p = o) (n2 : ¬ o = 22) (n3 : ¬ o = 23) (rf : zf_rf o (zv_a h 46 p) t (zv_a h 70) (zv_b h 69) (zv_a h 71) 0) (e1 : zv_i h' 41 = zv_i h 41) (e2 : zv_i h' 25 = zv_i h 25) (e3 : zv_i h' 49 = zv_i h 49) (wk : zf_wk o (zv_a h 46 p) (zv_a h 47 p) t (zv_i h 38) (zv_a h 70) (zv_b h 69) (zv_a h 71) (zv_a h 72) (zv_i h' 38) (zv_b h' 69) (zv_a h' 71) (zv_a h' 72)) (m1 : ¬ o = 21 → zk_sm (zv_a h 61) (zv_a h' 61)) (m2 : o = 21 → zk_lc t (zv_a h 61) (zv_a h' 61) (zv_a h 70 t)) (gf : zf_gfh h h' p t) : zf_ach h h' p t := by
  subst eo
  exact ⟨0, rf, Or.inr ⟨rfl, e1, Or.inr (Or.inr ⟨n2, n3, e2, e3, wk, m1, m2, gf⟩)⟩⟩
theorem zf_acr {h h' : zx_H} {p t o r : Int} (eo : zv_a h 45 p = o) (rf : zf_rf o (zv_a h 46 p) t (zv_a h 70) (zv_b h 69) (zv_a h 71) r) (n : ¬ r = 0) (re : zf_reh h h' p r) : zf_ach h h' p t := by
  subst eo
  exact ⟨r, rf, Or.inl ⟨n, re⟩⟩
theorem zf_rah.ba {W : List (Nat × Nat)} {h h1 h' : zx_H} {p k w c : Int} (a : zf_rah h1 h' p k w c) (b : zb_W W h h1) (e : (za_in W 44 1 || za_in W 44 5 || za_in W 48 0 || za_in W 49 0 || za_in W 50 0 || za_in W 51 0 || za_in W 44 14 || za_in W 44 49 || za_in W 44 42 || za_in W 44 43 || za_in W 69 0) = false) (hn : ∀ j, 0 ≤ j → j < 8 → zv_a h1 61 j = zv_a h 61 j) : zf_rah h h' p k w c := by
  simp only [Bool.or_eq_false_iff] at e
  obtain ⟨⟨⟨⟨⟨⟨⟨⟨⟨⟨e1, e2⟩, e3⟩, e4⟩, e5⟩, e6⟩, e7⟩, e8⟩, e9⟩, e10⟩, e11⟩ := e
  obtain ⟨i, t, a⟩ := a
  rw [zv_wi b e2, show zv_a h1 48 = zv_a h 48 from funext (fun q => zv_wa b e3 q), show zv_a h1 49 = zv_a h 49 from funext (fun q => zv_wa b e4 q), show zv_a h1 51 = zv_a h 51 from funext (fun q => zv_wa b e6 q)] at t
  refine ⟨i, t, ?_⟩
  rcases a with ⟨a1, a2, a3, a4, a5⟩ | ⟨a1, a2, a3, a4, a5, a6, a7⟩
  · exact Or.inl ⟨a1, a2, a3, a4, a5.trans (zv_wi b e7)⟩
  · refine Or.inr ⟨a1, a2, fun j j0 j1 => (a3 j j0 j1).trans (hn j j0 j1), a4, fun j j0 => by rw [a5 j j0, zv_wb b e11], a6.trans (zv_wi b e8), ?_⟩
    unfold zf_gth at a7 ⊢
    rw [zv_wi b e1, zv_wa b e5, zv_wi b e7, zv_wi b e9, zv_wi b e10] at a7
    exact a7

section ZWI
variable {a b t n n' : Int} {K V L C V' L' C' : Int → Int}
theorem zf_wi0 (x : zk_sm V V') (y : zf_rs n L C n' L' C') : zf_wk 0 a b t n K V L C n' V' L' C' := ⟨(fun z => absurd z (by decide)), (fun z => absurd z (by decide)), (fun z => absurd z (by decide)), (fun z => absurd z (by decide)), (fun z => absurd z (by decide)), (fun z => absurd z (by decide)), (fun z => absurd z (by decide)), (fun z => absurd z (by decide)), (fun z => absurd z (by decide)), (fun z => absurd z (by decide)), (fun z => absurd z (by decide)), (fun z => absurd z (by decide)), (fun z => absurd z (by decide)), (fun z => absurd z (by decide)), (fun z => absurd z (by decide)), (fun _ => x), (fun _ => y)⟩
theorem zf_wi1 (x : zk_lc (t + 1) V V' a) (y : zf_rs n L C n' L' C') : zf_wk 1 a b t n K V L C n' V' L' C' := ⟨(fun _ => x), (fun z => absurd z (by decide)), (fun z => absurd z (by decide)), (fun z => absurd z (by decide)), (fun z => absurd z (by decide)), (fun z => absurd z (by decide)), (fun z => absurd z (by decide)), (fun z => absurd z (by decide)), (fun z => absurd z (by decide)), (fun z => absurd z (by decide)), (fun z => absurd z (by decide)), (fun z => absurd z (by decide)), (fun z => absurd z (by decide)), (fun z => absurd z (by decide)), (fun z => absurd z (by decide)), (fun z => absurd z (by decide)), (fun _ => y)⟩
theorem zf_wi2 (x : zk_lc (t + 1) V V' a) (y : zf_rs n L C n' L' C') : zf_wk 2 a b t n K V L C n' V' L' C' := ⟨(fun _ => x), (fun z => absurd z (by decide)), (fun z => absurd z (by decide)), (fun z => absurd z (by decide)), (fun z => absurd z (by decide)), (fun z => absurd z (by decide)), (fun z => absurd z (by decide)), (fun z => absurd z (by decide)), (fun z => absurd z (by decide)), (fun z => absurd z (by decide)), (fun z => absurd z (by decide)), (fun z => absurd z (by decide)), (fun z => absurd z (by decide)), (fun z => absurd z (by decide)), (fun z => absurd z (by decide)), (fun z => absurd z (by decide)), (fun _ => y)⟩
theorem zf_wi3 (x : zk_lc (t + 1) V V' 0) (y : zf_rs n L C n' L' C') : zf_wk 3 a b t n K V L C n' V' L' C' := ⟨(fun z => absurd z (by decide)), (fun _ => x), (fun z => absurd z (by decide)), (fun z => absurd z (by decide)), (fun z => absurd z (by decide)), (fun z => absurd z (by decide)), (fun z => absurd z (by decide)), (fun z => absurd z (by decide)), (fun z => absurd z (by decide)), (fun z => absurd z (by decide)), (fun z => absurd z (by decide)), (fun z => absurd z (by decide)), (fun z => absurd z (by decide)), (fun z => absurd z (by decide)), (fun z => absurd z (by decide)), (fun z => absurd z (by decide)), (fun _ => y)⟩
theorem zf_wi4 (x : zf_th n L C 0 n' L' C' ∧ zk_lc (t + 1) V V' n) : zf_wk 4 a b t n K V L C n' V' L' C' := ⟨(fun z => absurd z (by decide)), (fun z => absurd z (by decide)), (fun _ => x), (fun z => absurd z (by decide)), (fun z => absurd z (by decide)), (fun z => absurd z (by decide)), (fun z => absurd z (by decide)), (fun z => absurd z (by decide)), (fun z => absurd z (by decide)), (fun z => absurd z (by decide)), (fun z => absurd z (by decide)), (fun z => absurd z (by decide)), (fun z => absurd z (by decide)), (fun z => absurd z (by decide)), (fun z => absurd z (by decide)), (fun z => absurd z (by decide)), (fun z => absurd z (by decide))⟩
theorem zf_wi5 (x : zf_th n L C 0 n' L' C' ∧ zk_lc (t + 1) V V' n) : zf_wk 5 a b t n K V L C n' V' L' C' := ⟨(fun z => absurd z (by decide)), (fun z => absurd z (by decide)), (fun _ => x), (fun z => absurd z (by decide)), (fun z => absurd z (by decide)), (fun z => absurd z (by decide)), (fun z => absurd z (by decide)), (fun z => absurd z (by decide)), (fun z => absurd z (by decide)), (fun z => absurd z (by decide)), (fun z => absurd z (by decide)), (fun z => absurd z (by decide)), (fun z => absurd z (by decide)), (fun z => absurd z (by decide)), (fun z => absurd z (by decide)), (fun z => absurd z (by decide)), (fun z => absurd z (by decide))⟩
theorem zf_wi6 (x : zf_th n L C a n' L' C' ∧ zk_lc (t + 1) V V' n) : zf_wk 6 a b t n K V L C n' V' L' C' := ⟨(fun z => absurd z (by decide)), (fun z => absurd z (by decide)), (fun z => absurd z (by decide)), (fun _ => x), (fun z => absurd z (by decide)), (fun z => absurd z (by decide)), (fun z => absurd z (by decide)), (fun z => absurd z (by decide)), (fun z => absurd z (by decide)), (fun z => absurd z (by decide)), (fun z => absurd z (by decide)), (fun z => absurd z (by decide)), (fun z => absurd z (by decide)), (fun z => absurd z (by decide)), (fun z => absurd z (by decide)), (fun z => absurd z (by decide)), (fun z => absurd z (by decide))⟩
theorem zf_wi7 (x : zf_th n L C (zi32 (V t)) n' L' C' ∧ zk_lc t V V' n) : zf_wk 7 a b t n K V L C n' V' L' C' := ⟨(fun z => absurd z (by decide)), (fun z => absurd z (by decide)), (fun z => absurd z (by decide)), (fun z => absurd z (by decide)), (fun _ => x), (fun z => absurd z (by decide)), (fun z => absurd z (by decide)), (fun z => absurd z (by decide)), (fun z => absurd z (by decide)), (fun z => absurd z (by decide)), (fun z => absurd z (by decide)), (fun z => absurd z (by decide)), (fun z => absurd z (by decide)), (fun z => absurd z (by decide)), (fun z => absurd z (by decide)), (fun z => absurd z (by decide)), (fun z => absurd z (by decide))⟩
theorem zf_wi8 (x : zk_lc (t + 1) V V' (V a)) (y : zf_rs n L C n' L' C') : zf_wk 8 a b t n K V L C n' V' L' C' := ⟨(fun z => absurd z (by decide)), (fun z => absurd z (by decide)), (fun z => absurd z (by decide)), (fun z => absurd z (by decide)), (fun z => absurd z (by decide)), (fun _ => x), (fun z => absurd z (by decide)), (fun z => absurd z (by decide)), (fun z => absurd z (by decide)), (fun z => absurd z (by decide)), (fun z => absurd z (by decide)), (fun z => absurd z (by decide)), (fun z => absurd z (by decide)), (fun z => absurd z (by decide)), (fun z => absurd z (by decide)), (fun z => absurd z (by decide)), (fun _ => y)⟩
theorem zf_wi9 (x : zk_lc a V V' (if K t = 3 then V (t - 1) else V t)) (y : zf_rs n L C n' L' C') : zf_wk 9 a b t n K V L C n' V' L' C' := ⟨(fun z => absurd z (by decide)), (fun z => absurd z (by decide)), (fun z => absurd z (by decide)), (fun z => absurd z (by decide)), (fun z => absurd z (by decide)), (fun z => absurd z (by decide)), (fun _ => x), (fun z => absurd z (by decide)), (fun z => absurd z (by decide)), (fun z => absurd z (by decide)), (fun z => absurd z (by decide)), (fun z => absurd z (by decide)), (fun z => absurd z (by decide)), (fun z => absurd z (by decide)), (fun z => absurd z (by decide)), (fun z => absurd z (by decide)), (fun _ => y)⟩
theorem zf_wi10 (x : zk_sm V V') (y : zf_rs n L C n' L' C') : zf_wk 10 a b t n K V L C n' V' L' C' := ⟨(fun z => absurd z (by decide)), (fun z => absurd z (by decide)), (fun z => absurd z (by decide)), (fun z => absurd z (by decide)), (fun z => absurd z (by decide)), (fun z => absurd z (by decide)), (fun z => absurd z (by decide)), (fun z => absurd z (by decide)), (fun z => absurd z (by decide)), (fun z => absurd z (by decide)), (fun z => absurd z (by decide)), (fun z => absurd z (by decide)), (fun z => absurd z (by decide)), (fun z => absurd z (by decide)), (fun z => absurd z (by decide)), (fun _ => x), (fun _ => y)⟩
theorem zf_wi11 (x : zk_sm V V') (y : zf_rs n L C n' L' C') : zf_wk 11 a b t n K V L C n' V' L' C' := ⟨(fun z => absurd z (by decide)), (fun z => absurd z (by decide)), (fun z => absurd z (by decide)), (fun z => absurd z (by decide)), (fun z => absurd z (by decide)), (fun z => absurd z (by decide)), (fun z => absurd z (by decide)), (fun z => absurd z (by decide)), (fun z => absurd z (by decide)), (fun z => absurd z (by decide)), (fun z => absurd z (by decide)), (fun z => absurd z (by decide)), (fun z => absurd z (by decide)), (fun z => absurd z (by decide)), (fun z => absurd z (by decide)), (fun _ => x), (fun _ => y)⟩
theorem zf_wi12 (x : zk_lc (t - 1) V V' (zi32 (zi64 (V (t - 1) + V t)))) (y : zf_rs n L C n' L' C') : zf_wk 12 a b t n K V L C n' V' L' C' := ⟨(fun z => absurd z (by decide)), (fun z => absurd z (by decide)), (fun z => absurd z (by decide)), (fun z => absurd z (by decide)), (fun z => absurd z (by decide)), (fun z => absurd z (by decide)), (fun z => absurd z (by decide)), (fun _ => x), (fun z => absurd z (by decide)), (fun z => absurd z (by decide)), (fun z => absurd z (by decide)), (fun z => absurd z (by decide)), (fun z => absurd z (by decide)), (fun z => absurd z (by decide)), (fun z => absurd z (by decide)), (fun z => absurd z (by decide)), (fun _ => y)⟩
theorem zf_wi13 (x : zk_lc (t - 1) V V' (zi32 (Int.tdiv (V (t - 1)) (V t)))) (y : zf_rs n L C n' L' C') : zf_wk 13 a b t n K V L C n' V' L' C' := ⟨(fun z => absurd z (by decide)), (fun z => absurd z (by decide)), (fun z => absurd z (by decide)), (fun z => absurd z (by decide)), (fun z => absurd z (by decide)), (fun z => absurd z (by decide)), (fun z => absurd z (by decide)), (fun z => absurd z (by decide)), (fun _ => x), (fun z => absurd z (by decide)), (fun z => absurd z (by decide)), (fun z => absurd z (by decide)), (fun z => absurd z (by decide)), (fun z => absurd z (by decide)), (fun z => absurd z (by decide)), (fun z => absurd z (by decide)), (fun _ => y)⟩
theorem zf_wi14 (x : zk_lc (t - 3) V V' (zi64 (V (t - 3) + V (t - 1)))) (y : zf_rs n L C n' L' C') : zf_wk 14 a b t n K V L C n' V' L' C' := ⟨(fun z => absurd z (by decide)), (fun z => absurd z (by decide)), (fun z => absurd z (by decide)), (fun z => absurd z (by decide)), (fun z => absurd z (by decide)), (fun z => absurd z (by decide)), (fun z => absurd z (by decide)), (fun z => absurd z (by decide)), (fun z => absurd z (by decide)), (fun _ => x), (fun z => absurd z (by decide)), (fun z => absurd z (by decide)), (fun z => absurd z (by decide)), (fun z => absurd z (by decide)), (fun z => absurd z (by decide)), (fun z => absurd z (by decide)), (fun _ => y)⟩
theorem zf_wi15 (x : zk_lc (t - 1) V V' (zi32 (V (t - 1)))) (y : zf_rs n L C n' L' C') : zf_wk 15 a b t n K V L C n' V' L' C' := ⟨(fun z => absurd z (by decide)), (fun z => absurd z (by decide)), (fun z => absurd z (by decide)), (fun z => absurd z (by decide)), (fun z => absurd z (by decide)), (fun z => absurd z (by decide)), (fun z => absurd z (by decide)), (fun z => absurd z (by decide)), (fun z => absurd z (by decide)), (fun z => absurd z (by decide)), (fun _ => x), (fun z => absurd z (by decide)), (fun z => absurd z (by decide)), (fun z => absurd z (by decide)), (fun z => absurd z (by decide)), (fun z => absurd z (by decide)), (fun _ => y)⟩
theorem zf_wi16 (x : zk_sm V V') (y : zf_rs n L C n' L' C') : zf_wk 16 a b t n K V L C n' V' L' C' := ⟨(fun z => absurd z (by decide)), (fun z => absurd z (by decide)), (fun z => absurd z (by decide)), (fun z => absurd z (by decide)), (fun z => absurd z (by decide)), (fun z => absurd z (by decide)), (fun z => absurd z (by decide)), (fun z => absurd z (by decide)), (fun z => absurd z (by decide)), (fun z => absurd z (by decide)), (fun z => absurd z (by decide)), (fun z => absurd z (by decide)), (fun z => absurd z (by decide)), (fun z => absurd z (by decide)), (fun z => absurd z (by decide)), (fun _ => x), (fun _ => y)⟩
theorem zf_wi17 (x : zk_lc (t - 1) V V' (C (20 * zi32 (V (t - 1)) + zi32 (V t)))) (y : zf_rs n L C n' L' C') : zf_wk 17 a b t n K V L C n' V' L' C' := ⟨(fun z => absurd z (by decide)), (fun z => absurd z (by decide)), (fun z => absurd z (by decide)), (fun z => absurd z (by decide)), (fun z => absurd z (by decide)), (fun z => absurd z (by decide)), (fun z => absurd z (by decide)), (fun z => absurd z (by decide)), (fun z => absurd z (by decide)), (fun z => absurd z (by decide)), (fun z => absurd z (by decide)), (fun _ => x), (fun z => absurd z (by decide)), (fun z => absurd z (by decide)), (fun z => absurd z (by decide)), (fun z => absurd z (by decide)), (fun _ => y)⟩
theorem zf_wi18 (x : zk_sm V V' ∧ zk_lc (20 * zi32 (V (t - 2)) + zi32 (V (t - 1))) C C' (zi32 (V t)) ∧ n' = n ∧ zk_sm L L') : zf_wk 18 a b t n K V L C n' V' L' C' := ⟨(fun z => absurd z (by decide)), (fun z => absurd z (by decide)), (fun z => absurd z (by decide)), (fun z => absurd z (by decide)), (fun z => absurd z (by decide)), (fun z => absurd z (by decide)), (fun z => absurd z (by decide)), (fun z => absurd z (by decide)), (fun z => absurd z (by decide)), (fun z => absurd z (by decide)), (fun z => absurd z (by decide)), (fun z => absurd z (by decide)), (fun _ => x), (fun z => absurd z (by decide)), (fun z => absurd z (by decide)), (fun z => absurd z (by decide)), (fun z => absurd z (by decide))⟩
theorem zf_wi19 (x : zk_lc t V V' (L (zi32 (V t)))) (y : zf_rs n L C n' L' C') : zf_wk 19 a b t n K V L C n' V' L' C' := ⟨(fun z => absurd z (by decide)), (fun z => absurd z (by decide)), (fun z => absurd z (by decide)), (fun z => absurd z (by decide)), (fun z => absurd z (by decide)), (fun z => absurd z (by decide)), (fun z => absurd z (by decide)), (fun z => absurd z (by decide)), (fun z => absurd z (by decide)), (fun z => absurd z (by decide)), (fun z => absurd z (by decide)), (fun z => absurd z (by decide)), (fun z => absurd z (by decide)), (fun _ => x), (fun z => absurd z (by decide)), (fun z => absurd z (by decide)), (fun _ => y)⟩
theorem zf_wi20 (x : zk_lc t V V' (L (zi32 (V t)))) (y : zf_rs n L C n' L' C') : zf_wk 20 a b t n K V L C n' V' L' C' := ⟨(fun z => absurd z (by decide)), (fun z => absurd z (by decide)), (fun z => absurd z (by decide)), (fun z => absurd z (by decide)), (fun z => absurd z (by decide)), (fun z => absurd z (by decide)), (fun z => absurd z (by decide)), (fun z => absurd z (by decide)), (fun z => absurd z (by decide)), (fun z => absurd z (by decide)), (fun z => absurd z (by decide)), (fun z => absurd z (by decide)), (fun z => absurd z (by decide)), (fun _ => x), (fun z => absurd z (by decide)), (fun z => absurd z (by decide)), (fun _ => y)⟩
theorem zf_wi21 (x : zk_sm V V') (y : zf_rs n L C n' L' C') : zf_wk 21 a b t n K V L C n' V' L' C' := ⟨(fun z => absurd z (by decide)), (fun z => absurd z (by decide)), (fun z => absurd z (by decide)), (fun z => absurd z (by decide)), (fun z => absurd z (by decide)), (fun z => absurd z (by decide)), (fun z => absurd z (by decide)), (fun z => absurd z (by decide)), (fun z => absurd z (by decide)), (fun z => absurd z (by decide)), (fun z => absurd z (by decide)), (fun z => absurd z (by decide)), (fun z => absurd z (by decide)), (fun z => absurd z (by decide)), (fun z => absurd z (by decide)), (fun _ => x), (fun _ => y)⟩
theorem zf_wi24 (x : zk_sm V V') (y : zf_rs n L C n' L' C') : zf_wk 24 a b t n K V L C n' V' L' C' := ⟨(fun z => absurd z (by decide)), (fun z => absurd z (by decide)), (fun z => absurd z (by decide)), (fun z => absurd z (by decide)), (fun z => absurd z (by decide)), (fun z => absurd z (by decide)), (fun z => absurd z (by decide)), (fun z => absurd z (by decide)), (fun z => absurd z (by decide)), (fun z => absurd z (by decide)), (fun z => absurd z (by decide)), (fun z => absurd z (by decide)), (fun z => absurd z (by decide)), (fun z => absurd z (by decide)), (fun z => absurd z (by decide)), (fun _ => x), (fun _ => y)⟩
theorem zf_wi25 (x : zk_sm V V') (y : zf_rs n L C n' L' C') : zf_wk 25 a b t n K V L C n' V' L' C' := ⟨(fun z => absurd z (by decide)), (fun z => absurd z (by decide)), (fun z => absurd z (by decide)), (fun z => absurd z (by decide)), (fun z => absurd z (by decide)), (fun z => absurd z (by decide)), (fun z => absurd z (by decide)), (fun z => absurd z (by decide)), (fun z => absurd z (by decide)), (fun z => absurd z (by decide)), (fun z => absurd z (by decide)), (fun z => absurd z (by decide)), (fun z => absurd z (by decide)), (fun z => absurd z (by decide)), (fun z => absurd z (by decide)), (fun _ => x), (fun _ => y)⟩
theorem zf_wi26 (x : zk_sm V V') (y : zf_rs n L C n' L' C') : zf_wk 26 a b t n K V L C n' V' L' C' := ⟨(fun z => absurd z (by decide)), (fun z => absurd z (by decide)), (fun z => absurd z (by decide)), (fun z => absurd z (by decide)), (fun z => absurd z (by decide)), (fun z => absurd z (by decide)), (fun z => absurd z (by decide)), (fun z => absurd z (by decide)), (fun z => absurd z (by decide)), (fun z => absurd z (by decide)), (fun z => absurd z (by decide)), (fun z => absurd z (by decide)), (fun z => absurd z (by decide)), (fun z => absurd z (by decide)), (fun z => absurd z (by decide)), (fun _ => x), (fun _ => y)⟩
theorem zf_wi27 (x : zk_sm V V') (y : zf_rs n L C n' L' C') : zf_wk 27 a b t n K V L C n' V' L' C' := ⟨(fun z => absurd z (by decide)), (fun z => absurd z (by decide)), (fun z => absurd z (by decide)), (fun z => absurd z (by decide)), (fun z => absurd z (by decide)), (fun z => absurd z (by decide)), (fun z => absurd z (by decide)), (fun z => absurd z (by decide)), (fun z => absurd z (by decide)), (fun z => absurd z (by decide)), (fun z => absurd z (by decide)), (fun z => absurd z (by decide)), (fun z => absurd z (by decide)), (fun z => absurd z (by decide)), (fun z => absurd z (by decide)), (fun _ => x), (fun _ => y)⟩
theorem zf_wi28 (x : zk_lc a V V' (zi32 (zi64 (V a + b)))) (y : zf_rs n L C n' L' C') : zf_wk 28 a b t n K V L C n' V' L' C' := ⟨(fun z => absurd z (by decide)), (fun z => absurd z (by decide)), (fun z => absurd z (by decide)), (fun z => absurd z (by decide)), (fun z => absurd z (by decide)), (fun z => absurd z (by decide)), (fun z => absurd z (by decide)), (fun z => absurd z (by decide)), (fun z => absurd z (by decide)), (fun z => absurd z (by decide)), (fun z => absurd z (by decide)), (fun z => absurd z (by decide)), (fun z => absurd z (by decide)), (fun z => absurd z (by decide)), (fun _ => x), (fun z => absurd z (by decide)), (fun _ => y)⟩
end ZWI

set_option maxRecDepth 100000 in
set_option maxHeartbeats 4000000 in
theorem zm_thingX_L {h : zx_H} (hI : zb_I zc_H h) {m : Int} (m1 : -2147483648 ≤ m) (m2 : m ≤ 2147483647) (t9 : zv_i h 38 ≤ 399) (n : Nat) : (∀ {h2 : zx_H} {k : Int} (hI2 : zb_I zc_H h2) (k1 : 0 ≤ k) (k2 : k ≤ 20) (hw : zb_W [(71, 0), (72, 0)] h h2) (ho : ∀ j, 0 ≤ j → zv_a h2 71 j = if j = zv_i h 38 then m else zv_a h 71 j) (hcl : ∀ j, 0 ≤ j → zv_a h2 72 j = if 20 * zv_i h 38 ≤ j ∧ j < 20 * zv_i h 38 + k then 0 else zv_a h 72 j), (20 - k : Int).toNat < n → zx_T zp_P 0 zp_m205 12 [(0, .ref 44), (1, .int (zI (m))), (2, .int (zI (k)))] [] h2 (zr_R [(44, 38), (71, 0), (72, 0)] h (fun e h' => e = zv_i h 38 ∧ zf_th (zv_i h 38) (zv_a h 71) (zv_a h 72) (m) (zv_i h' 38) (zv_a h' 71) (zv_a h' 72)))) := by
  induction n with
  | zero => exact fun _ _ _ _ _ _ hm => absurd hm (Nat.not_lt_zero _)
  | succ n ih =>
    intro h2 k hI2 k1 k2 hw ho hcl hm
    have hT := zv_ri hI (k := 38) rfl
    refine zx_T.l (i := .iload_n 2) (k := 1) (v := .int (zI (k))) (pc := 12) rfl rfl rfl ?_
    refine zx_T.s (i := .bipush 20) (k := 2) (st' := [.int (zI (20)), .int (zI (k))]) (pc := 13) rfl rfl ?_
    refine zr_i2 (x := k) (y := 20) (t := 39) (pc := 15) rfl rfl (by omega) (by omega) (by omega) (by omega) (fun (c1 : 20 ≤ k) => ?_) (fun (c1 : ¬ (20 ≤ k)) => ?_)
    · refine zx_T.l (i := .aload_n 0) (k := 1) (v := .ref 44) (pc := 39) rfl rfl rfl ?_
      refine zx_T.s (i := .dup) (k := 1) (st' := [.ref 44, .ref 44]) (pc := 40) rfl rfl ?_
      refine zr_gi (k := 38) (lo := 0) (hi := 400) (e := zv_i h 38) (pc := 41) rfl rfl rfl hI2 (zv_wi hw rfl) (fun g2a g2b => ?_)
      refine zx_T.s (i := .iconst 1) (k := 1) (st' := [.int (zI (1)), .int (zI (zv_i h 38)), .ref 44]) (pc := 44) rfl rfl ?_
      refine zr_add (x := zv_i h 38) (y := 1) (e := zv_i h 38 + 1) (pc := 45) rfl (by omega) ?_
      refine zr_pi (k := 38) (lo := 0) (hi := 400) (e := zv_i h 38 + 1) (pc := 46) rfl rfl rfl rfl rfl rfl hI2 (by omega) (by omega) (fun h3 ih3 w4 e5 => ?_)
      refine zx_T.l (i := .aload_n 0) (k := 1) (v := .ref 44) (pc := 49) rfl rfl rfl ?_
      refine zr_gi (k := 38) (lo := 0) (hi := 400) (e := zv_i h 38 + 1) (pc := 50) rfl rfl rfl ih3 e5 (fun g6a g6b => ?_)
      refine zx_T.s (i := .iconst 1) (k := 1) (st' := [.int (zI (1)), .int (zI (zv_i h 38 + 1))]) (pc := 53) rfl rfl ?_
      refine zr_sub (x := zv_i h 38 + 1) (y := 1) (e := zv_i h 38) (pc := 54) rfl (by omega) ?_
      have y7 : zv_i h3 38 = zv_i h 38 + 1 := e5
      have a71 : ∀ j, 0 ≤ j → zv_a h3 71 j = zv_a h2 71 j := fun j hj => by rw [zv_wa w4 rfl j]
      have a72 : ∀ j, 0 ≤ j → zv_a h3 72 j = zv_a h2 72 j := fun j hj => by rw [zv_wa w4 rfl j]
      exact zr_ir (x := zv_i h 38) (pc := 55) rfl rfl rfl ⟨ih3, ((hw.wd rfl : zb_W [(44, 38), (71, 0), (72, 0)] h _).tr (w4.wd rfl)), _, rfl, by dsimp only; exact ⟨by omega, by omega, fun j j0 => by rw [a71 j j0]; exact ho j j0, fun j j0 => by rw [a72 j j0, hcl j j0, show k = 20 by omega]⟩⟩
    · refine zx_T.l (i := .aload_n 0) (k := 1) (v := .ref 44) (pc := 18) rfl rfl rfl ?_
      refine zr_gr (k := 40) (b := 72) (pc := 19) rfl rfl rfl hI2 ?_
      refine zx_T.s (i := .bipush 20) (k := 2) (st' := [.int (zI (20)), .ref 72]) (pc := 22) rfl rfl ?_
      refine zx_T.l (i := .aload_n 0) (k := 1) (v := .ref 44) (pc := 24) rfl rfl rfl ?_
      refine zr_gi (k := 38) (lo := 0) (hi := 400) (e := zv_i h 38) (pc := 25) rfl rfl rfl hI2 (zv_wi hw rfl) (fun g10a g10b => ?_)
      refine zr_mul (x := 20) (y := zv_i h 38) (e := 20 * (zv_i h 38)) (pc := 28) rfl (by omega) ?_
      refine zx_T.l (i := .iload_n 2) (k := 1) (v := .int (zI (k))) (pc := 29) rfl rfl rfl ?_
      refine zr_add (x := 20 * (zv_i h 38)) (y := k) (e := 20 * (zv_i h 38) + k) (pc := 30) rfl (by omega) ?_
      refine zx_T.s (i := .iconst 0) (k := 1) (st' := [.int (zI (0)), .int (zI (20 * (zv_i h 38) + k)), .ref 72]) (pc := 31) rfl rfl ?_
      refine zr_as (n := 8000) (lo := (-2147483648)) (hi := 2147483647) (e := 0) (pc := 32) rfl rfl rfl rfl hI2 (by omega) (by omega) (by omega) (by omega) (fun h11 ih11 w12 s13 => ?_)
      refine zr_inc (x := k) (n := 1) (y := k + 1) (ls' := [(2, .int (zI (k + 1))), (0, .ref 44), (1, .int (zI (m)))]) (pc := 33) rfl rfl rfl (by omega) rfl ?_
      refine zx_T.j (i := .goto (-24)) (k := 3) (pc' := 12) (st' := []) (pc := 36) rfl rfl rfl rfl rfl ?_
      have a71 : ∀ j, 0 ≤ j → zv_a h11 71 j = zv_a h2 71 j := fun j hj => by rw [zv_wa w12 rfl j]
      have a72 : ∀ j, 0 ≤ j → zv_a h11 72 j = if j = 20 * (zv_i h 38) + k then 0 else zv_a h2 72 j := fun j hj => by rw [s13 j hj]
      refine zx_T.lk (ls' := [(0, .ref 44), (1, .int (zI (m))), (2, .int (zI (k + 1)))]) rfl ⟨rfl, rfl, rfl, trivial⟩ ?_
      exact ih (h2 := h11) (k := k + 1) ih11 (by omega) (by omega) ((hw.wd rfl : zb_W [(71, 0), (72, 0)] h _).tr (w12.wd rfl)) (fun j j0 => by first | exact a71 j j0 | (rw [a71 j j0]; exact ho j j0)) (fun j j0 => by rw [a72 j j0]; by_cases z : j = 20 * zv_i h 38 + k; rw [if_pos z, if_pos (by omega)]; rw [if_neg z, hcl j j0]; by_cases z2 : 20 * zv_i h 38 ≤ j ∧ j < 20 * zv_i h 38 + k; rw [if_pos z2, if_pos (by omega)]; rw [if_neg z2, if_neg (by omega)]) (by omega)
set_option maxRecDepth 100000 in
set_option maxHeartbeats 4000000 in
theorem zm_thingX {h : zx_H} (hI : zb_I zc_H h) {m : Int} (m1 : -2147483648 ≤ m) (m2 : m ≤ 2147483647) (t9 : zv_i h 38 ≤ 399) : zx_T zp_P 0 zp_m205 0 [(0, .ref 44), (1, .int (zI (m)))] [] h (zr_R [(44, 38), (71, 0), (72, 0)] h (fun e h' => e = zv_i h 38 ∧ zf_th (zv_i h 38) (zv_a h 71) (zv_a h 72) (m) (zv_i h' 38) (zv_a h' 71) (zv_a h' 72))) := by
  have hT := zv_ri hI (k := 38) rfl
  refine zx_T.l (i := .aload_n 0) (k := 1) (v := .ref 44) (pc := 0) rfl rfl rfl ?_
  refine zr_gr (k := 39) (b := 71) (pc := 1) rfl rfl rfl hI ?_
  refine zx_T.l (i := .aload_n 0) (k := 1) (v := .ref 44) (pc := 4) rfl rfl rfl ?_
  refine zr_gi (k := 38) (lo := 0) (hi := 400) (e := zv_i h 38) (pc := 5) rfl rfl rfl hI rfl (fun g16a g16b => ?_)
  refine zx_T.l (i := .iload_n 1) (k := 1) (v := .int (zI (m))) (pc := 8) rfl rfl rfl ?_
  refine zr_as (n := 400) (lo := (-2147483648)) (hi := 2147483647) (e := m) (pc := 9) rfl rfl rfl rfl hI (by omega) (by omega) (by omega) (by omega) (fun h17 ih17 w18 s19 => ?_)
  refine zx_T.s (i := .iconst 0) (k := 1) (st' := [.int (zI (0))]) (pc := 10) rfl rfl ?_
  refine zx_T.t (i := .istore_n 2) (k := 1) (ls' := [(2, .int (zI (0))), (0, .ref 44), (1, .int (zI (m)))]) (st' := []) (pc := 11) rfl rfl rfl rfl ?_
  have a71 : ∀ j, 0 ≤ j → zv_a h17 71 j = if j = zv_i h 38 then m else zv_a h 71 j := fun j hj => by rw [s19 j hj]
  have a72 : ∀ j, 0 ≤ j → zv_a h17 72 j = zv_a h 72 j := fun j hj => by rw [zv_wa w18 rfl j]
  refine zx_T.lk (ls' := [(0, .ref 44), (1, .int (zI (m))), (2, .int (zI (0)))]) rfl ⟨rfl, rfl, rfl, trivial⟩ ?_
  exact zm_thingX_L (h := h) hI (m := m) m1 m2 t9 ((20 - 0 : Int).toNat + 1) (h2 := h17) (k := 0) ih17 (by omega) (by omega) (w18.wd rfl : zb_W [(71, 0), (72, 0)] h _) (fun j j0 => by first | exact a71 j j0 | (rw [a71 j j0]; exact ho j j0)) (fun j j0 => by rw [a72 j j0, if_neg (by omega)]) (Nat.lt_succ_self _)

set_option maxRecDepth 100000 in
set_option maxHeartbeats 4000000 in
theorem zm_badX {h : zx_H} (hI : zb_I zc_H h) {w : Int} {p : Int} (w1 : -2147483648 ≤ w) (w2 : w ≤ 2147483647) (p1 : 0 ≤ p) (p2 : p ≤ 59) : zx_T zp_P 1 zp_m208 0 [(0, .ref 44), (1, .int (zI (w))), (2, .int (zI (p)))] [] h (zr_V [(44, 14), (44, 42), (44, 43)] h (fun h' => zv_i h' 14 = w ∧ zv_i h' 42 = 1 ∧ zv_i h' 43 = -10 - p)) := by
  refine zx_T.l (i := .aload_n 0) (k := 1) (v := .ref 44) (pc := 0) rfl rfl rfl ?_
  refine zx_T.l (i := .iload_n 1) (k := 1) (v := .int (zI (w))) (pc := 1) rfl rfl rfl ?_
  refine zr_pi (k := 14) (lo := (-2147483648)) (hi := 2147483647) (e := w) (pc := 2) rfl rfl rfl rfl rfl rfl hI (by omega) (by omega) (fun h1 ih1 w2 e3 => ?_)
  refine zx_T.l (i := .aload_n 0) (k := 1) (v := .ref 44) (pc := 5) rfl rfl rfl ?_
  refine zx_T.s (i := .bipush (-10)) (k := 2) (st' := [.int (zI ((-10))), .ref 44]) (pc := 6) rfl rfl ?_
  refine zx_T.l (i := .iload_n 2) (k := 1) (v := .int (zI (p))) (pc := 8) rfl rfl rfl ?_
  refine zr_sub (x := (-10)) (y := p) (e := (-1) * p - 10) (pc := 9) rfl (by omega) ?_
  refine zr_iv (cj := 207) (q' := zp_m207) (As := [.int (zI ((-1) * p - 10))]) (rest := []) (pc := 10) rfl rfl rfl rfl rfl rfl (Nat.le_of_ble_eq_true rfl) rfl (Nat.le_of_ble_eq_true rfl) ih1 ((zm_over (h := h1) ih1 (w := (-1) * p - 10) (by omega) (by omega)).up (Nat.le_of_ble_eq_true rfl)) ?_
  rintro r4 h7 ⟨ih7, w8, r4q, x6⟩
  subst r4q
  try dsimp only at x6
  show zx_T zp_P 1 zp_m208 13 [(0, .ref 44), (1, .int (zI (w))), (2, .int (zI (p)))] [] h7 _
  have y9 : zv_i h7 14 = w := ((zv_wi w8 rfl).trans e3)
  exact zr_vr (pc := 13) rfl rfl ⟨ih7, ((w2.wd rfl : zb_W [(44, 14), (44, 42), (44, 43)] h _).tr (w8.wd rfl)), rfl, by dsimp only; omega⟩

set_option maxRecDepth 100000 in
set_option maxHeartbeats 4000000 in
theorem zm_goX {h : zx_H} (hI : zb_I zc_H h) {q : Int} {p : Int} (q1 : -2147483648 ≤ q) (q2 : q ≤ 2147483647) (p1 : 0 ≤ p) (p2 : p ≤ 59) : zx_T zp_P 2 zp_m209 0 [(0, .ref 44), (1, .int (zI (q))), (2, .int (zI (p)))] [] h (zr_V [(44, 50), (44, 14), (44, 42), (44, 43)] h (fun h' => zf_gth h h' p q)) := by
  have hC := zv_ri hI (k := 1) rfl
  refine zx_T.l (i := .iload_n 1) (k := 1) (v := .int (zI (q))) (pc := 0) rfl rfl rfl ?_
  refine zx_T.s (i := .iconst 0) (k := 1) (st' := [.int (zI (0)), .int (zI (q))]) (pc := 1) rfl rfl ?_
  refine zx_T.l (i := .aload_n 0) (k := 1) (v := .ref 44) (pc := 2) rfl rfl rfl ?_
  refine zr_gi (k := 1) (lo := 0) (hi := 60) (e := zv_i h 1) (pc := 3) rfl rfl rfl hI rfl (fun g1a g1b => ?_)
  refine zx_T.s (i := .iconst 1) (k := 1) (st' := [.int (zI (1)), .int (zI (zv_i h 1)), .int (zI (0)), .int (zI (q))]) (pc := 6) rfl rfl ?_
  refine zr_sub (x := zv_i h 1) (y := 1) (e := zv_i h 1 - 1) (pc := 7) rfl (by omega) ?_
  refine zr_is (cj := 155) (q' := zp_m155) (As := [.int (zI (q)), .int (zI (0)), .int (zI (zv_i h 1 - 1))]) (rest := []) (pc := 8) rfl rfl rfl rfl rfl rfl (Nat.le_of_ble_eq_true rfl) rfl (Nat.le_of_ble_eq_true rfl) rfl ((zm_in (h := h) hI (v := q) (l := 0) (u := zv_i h 1 - 1) (by omega) (by omega) (by omega) (by omega) (by omega) (by omega)).up (Nat.le_of_ble_eq_true rfl)) ?_
  rintro r2 h5 ⟨h5q, v3, r2q, x4⟩
  subst h5q r2q
  try dsimp only at x4
  show zx_T zp_P 2 zp_m209 11 [(0, .ref 44), (1, .int (zI (q))), (2, .int (zI (p)))] [.int (zI (v3))] h _
  refine zr_i1 (x := v3) (t := 22) (pc := 11) rfl rfl (by omega) (by omega) (fun (c6 : v3 = 0) => ?_) (fun (c6 : ¬ (v3 = 0)) => ?_)
  · refine zx_T.l (i := .aload_n 0) (k := 1) (v := .ref 44) (pc := 22) rfl rfl rfl ?_
    refine zx_T.s (i := .bipush 7) (k := 2) (st' := [.int (zI (7)), .ref 44]) (pc := 23) rfl rfl ?_
    refine zx_T.l (i := .iload_n 2) (k := 1) (v := .int (zI (p))) (pc := 25) rfl rfl rfl ?_
    refine zr_iv (cj := 208) (q' := zp_m208) (As := [.int (zI (7)), .int (zI (p))]) (rest := []) (pc := 26) rfl rfl rfl rfl rfl rfl (Nat.le_of_ble_eq_true rfl) rfl (Nat.le_of_ble_eq_true rfl) hI ((zm_badX (h := h) hI (w := 7) (p := p) (by omega) (by omega) (by omega) (by omega)).up (Nat.le_of_ble_eq_true rfl)) ?_
    rintro r7 h10 ⟨ih10, w11, r7q, x9⟩
    subst r7q
    try dsimp only at x9
    show zx_T zp_P 2 zp_m209 29 [(0, .ref 44), (1, .int (zI (q))), (2, .int (zI (p)))] [] h10 _
    have y12 : zv_i h10 50 = zv_i h 50 := (zv_wi w11 rfl)
    exact zr_vr (pc := 29) rfl rfl ⟨ih10, (w11.wd rfl : zb_W [(44, 50), (44, 14), (44, 42), (44, 43)] h _), rfl, by dsimp only; unfold zf_gth; omega⟩
  · refine zx_T.l (i := .aload_n 0) (k := 1) (v := .ref 44) (pc := 14) rfl rfl rfl ?_
    refine zx_T.l (i := .iload_n 1) (k := 1) (v := .int (zI (q))) (pc := 15) rfl rfl rfl ?_
    refine zr_pi (k := 50) (lo := (-1)) (hi := 59) (e := q) (pc := 16) rfl rfl rfl rfl rfl rfl hI (by omega) (by omega) (fun h16 ih16 w17 e18 => ?_)
    refine zx_T.j (i := .goto 10) (k := 3) (pc' := 29) (st' := []) (pc := 19) rfl rfl rfl rfl rfl ?_
    have y19 : zv_i h16 50 = q := e18
    have y20 : zv_i h16 42 = zv_i h 42 := (zv_wi w17 rfl)
    have y21 : zv_i h16 14 = zv_i h 14 := (zv_wi w17 rfl)
    have y22 : zv_i h16 43 = zv_i h 43 := (zv_wi w17 rfl)
    exact zr_vr (pc := 29) rfl rfl ⟨ih16, (w17.wd rfl : zb_W [(44, 50), (44, 14), (44, 42), (44, 43)] h _), rfl, by dsimp only; unfold zf_gth; omega⟩

set_option maxRecDepth 100000 in
set_option maxHeartbeats 4000000 in
theorem zm_goesAsY {h : zx_H} (hI : zb_I zc_H h) {a : Int} {b : Int} (a1 : 0 ≤ a) (a2 : a ≤ 8) (b1 : 0 ≤ b) (b2 : b ≤ 8) : zx_T zp_P 0 zp_m156 0 [(0, .int (zI (a))), (1, .int (zI (b)))] [] h (zr_P h (fun e => ((e = 1 ∧ zc_g a b) ∨ (e = 0 ∧ ¬ zc_g a b)) ∧ 0 ≤ e ∧ e ≤ 1)) := by
  refine zx_T.l (i := .iload_n 0) (k := 1) (v := .int (zI (a))) (pc := 0) rfl rfl rfl ?_
  refine zx_T.l (i := .iload_n 1) (k := 1) (v := .int (zI (b))) (pc := 1) rfl rfl rfl ?_
  refine zr_i2 (x := a) (y := b) (t := 53) (pc := 2) rfl rfl (by omega) (by omega) (by omega) (by omega) (fun (c1 : a = b) => ?_) (fun (c1 : ¬ (a = b)) => ?_)
  · refine zx_T.s (i := .iconst 1) (k := 1) (st' := [.int (zI (1))]) (pc := 53) rfl rfl ?_
    refine zx_T.j (i := .goto 4) (k := 3) (pc' := 58) (st' := [.int (zI (1))]) (pc := 54) rfl rfl rfl rfl rfl ?_
    exact zr_ir (x := 1) (pc := 58) rfl rfl (zr_nb (by omega) (by omega)) ⟨rfl, _, rfl, by dsimp only; exact ⟨by unfold zc_g; omega, by omega, by omega⟩⟩
  · refine zx_T.l (i := .iload_n 1) (k := 1) (v := .int (zI (b))) (pc := 5) rfl rfl rfl ?_
    refine zr_i1 (x := b) (t := 53) (pc := 6) rfl rfl (by omega) (by omega) (fun (c2 : b = 0) => ?_) (fun (c2 : ¬ (b = 0)) => ?_)
    · refine zx_T.s (i := .iconst 1) (k := 1) (st' := [.int (zI (1))]) (pc := 53) rfl rfl ?_
      refine zx_T.j (i := .goto 4) (k := 3) (pc' := 58) (st' := [.int (zI (1))]) (pc := 54) rfl rfl rfl rfl rfl ?_
      exact zr_ir (x := 1) (pc := 58) rfl rfl (zr_nb (by omega) (by omega)) ⟨rfl, _, rfl, by dsimp only; exact ⟨by unfold zc_g; omega, by omega, by omega⟩⟩
    · refine zx_T.l (i := .iload_n 0) (k := 1) (v := .int (zI (a))) (pc := 9) rfl rfl rfl ?_
      refine zx_T.s (i := .iconst 4) (k := 1) (st' := [.int (zI (4)), .int (zI (a))]) (pc := 10) rfl rfl ?_
      refine zr_i2 (x := a) (y := 4) (t := 19) (pc := 11) rfl rfl (by omega) (by omega) (by omega) (by omega) (fun (c3 : ¬ a = 4) => ?_) (fun (c3 : ¬ (¬ a = 4)) => ?_)
      · refine zx_T.l (i := .iload_n 0) (k := 1) (v := .int (zI (a))) (pc := 19) rfl rfl rfl ?_
        refine zx_T.s (i := .bipush 6) (k := 2) (st' := [.int (zI (6)), .int (zI (a))]) (pc := 20) rfl rfl ?_
        refine zr_i2 (x := a) (y := 6) (t := 31) (pc := 22) rfl rfl (by omega) (by omega) (by omega) (by omega) (fun (c4 : a = 6) => ?_) (fun (c4 : ¬ (a = 6)) => ?_)
        · refine zx_T.l (i := .iload_n 1) (k := 1) (v := .int (zI (b))) (pc := 31) rfl rfl rfl ?_
          refine zx_T.s (i := .iconst 5) (k := 1) (st' := [.int (zI (5)), .int (zI (b))]) (pc := 32) rfl rfl ?_
          refine zr_i2 (x := b) (y := 5) (t := 53) (pc := 33) rfl rfl (by omega) (by omega) (by omega) (by omega) (fun (c5 : b = 5) => ?_) (fun (c5 : ¬ (b = 5)) => ?_)
          · refine zx_T.s (i := .iconst 1) (k := 1) (st' := [.int (zI (1))]) (pc := 53) rfl rfl ?_
            refine zx_T.j (i := .goto 4) (k := 3) (pc' := 58) (st' := [.int (zI (1))]) (pc := 54) rfl rfl rfl rfl rfl ?_
            exact zr_ir (x := 1) (pc := 58) rfl rfl (zr_nb (by omega) (by omega)) ⟨rfl, _, rfl, by dsimp only; exact ⟨by unfold zc_g; omega, by omega, by omega⟩⟩
          · refine zx_T.l (i := .iload_n 0) (k := 1) (v := .int (zI (a))) (pc := 36) rfl rfl rfl ?_
            refine zx_T.s (i := .bipush 8) (k := 2) (st' := [.int (zI (8)), .int (zI (a))]) (pc := 37) rfl rfl ?_
            refine zr_i2 (x := a) (y := 8) (t := 57) (pc := 39) rfl rfl (by omega) (by omega) (by omega) (by omega) (fun (c6 : ¬ a = 8) => ?_) (fun (c6 : ¬ (¬ a = 8)) => False.elim (by omega))
            refine zx_T.s (i := .iconst 0) (k := 1) (st' := [.int (zI (0))]) (pc := 57) rfl rfl ?_
            exact zr_ir (x := 0) (pc := 58) rfl rfl (zr_nb (by omega) (by omega)) ⟨rfl, _, rfl, by dsimp only; exact ⟨by unfold zc_g; omega, by omega, by omega⟩⟩
        · refine zx_T.l (i := .iload_n 0) (k := 1) (v := .int (zI (a))) (pc := 25) rfl rfl rfl ?_
          refine zx_T.s (i := .bipush 7) (k := 2) (st' := [.int (zI (7)), .int (zI (a))]) (pc := 26) rfl rfl ?_
          refine zr_i2 (x := a) (y := 7) (t := 36) (pc := 28) rfl rfl (by omega) (by omega) (by omega) (by omega) (fun (c7 : ¬ a = 7) => ?_) (fun (c7 : ¬ (¬ a = 7)) => ?_)
          · refine zx_T.l (i := .iload_n 0) (k := 1) (v := .int (zI (a))) (pc := 36) rfl rfl rfl ?_
            refine zx_T.s (i := .bipush 8) (k := 2) (st' := [.int (zI (8)), .int (zI (a))]) (pc := 37) rfl rfl ?_
            refine zr_i2 (x := a) (y := 8) (t := 57) (pc := 39) rfl rfl (by omega) (by omega) (by omega) (by omega) (fun (c8 : ¬ a = 8) => ?_) (fun (c8 : ¬ (¬ a = 8)) => ?_)
            · refine zx_T.s (i := .iconst 0) (k := 1) (st' := [.int (zI (0))]) (pc := 57) rfl rfl ?_
              exact zr_ir (x := 0) (pc := 58) rfl rfl (zr_nb (by omega) (by omega)) ⟨rfl, _, rfl, by dsimp only; exact ⟨by unfold zc_g; omega, by omega, by omega⟩⟩
            · refine zx_T.l (i := .iload_n 1) (k := 1) (v := .int (zI (b))) (pc := 42) rfl rfl rfl ?_
              refine zx_T.s (i := .bipush 7) (k := 2) (st' := [.int (zI (7)), .int (zI (b))]) (pc := 43) rfl rfl ?_
              refine zr_i2 (x := b) (y := 7) (t := 53) (pc := 45) rfl rfl (by omega) (by omega) (by omega) (by omega) (fun (c9 : b = 7) => ?_) (fun (c9 : ¬ (b = 7)) => ?_)
              · refine zx_T.s (i := .iconst 1) (k := 1) (st' := [.int (zI (1))]) (pc := 53) rfl rfl ?_
                refine zx_T.j (i := .goto 4) (k := 3) (pc' := 58) (st' := [.int (zI (1))]) (pc := 54) rfl rfl rfl rfl rfl ?_
                exact zr_ir (x := 1) (pc := 58) rfl rfl (zr_nb (by omega) (by omega)) ⟨rfl, _, rfl, by dsimp only; exact ⟨by unfold zc_g; omega, by omega, by omega⟩⟩
              · refine zx_T.l (i := .iload_n 1) (k := 1) (v := .int (zI (b))) (pc := 48) rfl rfl rfl ?_
                refine zx_T.s (i := .iconst 5) (k := 1) (st' := [.int (zI (5)), .int (zI (b))]) (pc := 49) rfl rfl ?_
                refine zr_i2 (x := b) (y := 5) (t := 57) (pc := 50) rfl rfl (by omega) (by omega) (by omega) (by omega) (fun (c10 : ¬ b = 5) => ?_) (fun (c10 : ¬ (¬ b = 5)) => ?_)
                · refine zx_T.s (i := .iconst 0) (k := 1) (st' := [.int (zI (0))]) (pc := 57) rfl rfl ?_
                  exact zr_ir (x := 0) (pc := 58) rfl rfl (zr_nb (by omega) (by omega)) ⟨rfl, _, rfl, by dsimp only; exact ⟨by unfold zc_g; omega, by omega, by omega⟩⟩
                · refine zx_T.s (i := .iconst 1) (k := 1) (st' := [.int (zI (1))]) (pc := 53) rfl rfl ?_
                  refine zx_T.j (i := .goto 4) (k := 3) (pc' := 58) (st' := [.int (zI (1))]) (pc := 54) rfl rfl rfl rfl rfl ?_
                  exact zr_ir (x := 1) (pc := 58) rfl rfl (zr_nb (by omega) (by omega)) ⟨rfl, _, rfl, by dsimp only; exact ⟨by unfold zc_g; omega, by omega, by omega⟩⟩
          · refine zx_T.l (i := .iload_n 1) (k := 1) (v := .int (zI (b))) (pc := 31) rfl rfl rfl ?_
            refine zx_T.s (i := .iconst 5) (k := 1) (st' := [.int (zI (5)), .int (zI (b))]) (pc := 32) rfl rfl ?_
            refine zr_i2 (x := b) (y := 5) (t := 53) (pc := 33) rfl rfl (by omega) (by omega) (by omega) (by omega) (fun (c11 : b = 5) => ?_) (fun (c11 : ¬ (b = 5)) => ?_)
            · refine zx_T.s (i := .iconst 1) (k := 1) (st' := [.int (zI (1))]) (pc := 53) rfl rfl ?_
              refine zx_T.j (i := .goto 4) (k := 3) (pc' := 58) (st' := [.int (zI (1))]) (pc := 54) rfl rfl rfl rfl rfl ?_
              exact zr_ir (x := 1) (pc := 58) rfl rfl (zr_nb (by omega) (by omega)) ⟨rfl, _, rfl, by dsimp only; exact ⟨by unfold zc_g; omega, by omega, by omega⟩⟩
            · refine zx_T.l (i := .iload_n 0) (k := 1) (v := .int (zI (a))) (pc := 36) rfl rfl rfl ?_
              refine zx_T.s (i := .bipush 8) (k := 2) (st' := [.int (zI (8)), .int (zI (a))]) (pc := 37) rfl rfl ?_
              refine zr_i2 (x := a) (y := 8) (t := 57) (pc := 39) rfl rfl (by omega) (by omega) (by omega) (by omega) (fun (c12 : ¬ a = 8) => ?_) (fun (c12 : ¬ (¬ a = 8)) => False.elim (by omega))
              refine zx_T.s (i := .iconst 0) (k := 1) (st' := [.int (zI (0))]) (pc := 57) rfl rfl ?_
              exact zr_ir (x := 0) (pc := 58) rfl rfl (zr_nb (by omega) (by omega)) ⟨rfl, _, rfl, by dsimp only; exact ⟨by unfold zc_g; omega, by omega, by omega⟩⟩
      · refine zx_T.l (i := .iload_n 1) (k := 1) (v := .int (zI (b))) (pc := 14) rfl rfl rfl ?_
        refine zx_T.s (i := .iconst 5) (k := 1) (st' := [.int (zI (5)), .int (zI (b))]) (pc := 15) rfl rfl ?_
        refine zr_i2 (x := b) (y := 5) (t := 53) (pc := 16) rfl rfl (by omega) (by omega) (by omega) (by omega) (fun (c13 : 5 ≤ b) => ?_) (fun (c13 : ¬ (5 ≤ b)) => ?_)
        · refine zx_T.s (i := .iconst 1) (k := 1) (st' := [.int (zI (1))]) (pc := 53) rfl rfl ?_
          refine zx_T.j (i := .goto 4) (k := 3) (pc' := 58) (st' := [.int (zI (1))]) (pc := 54) rfl rfl rfl rfl rfl ?_
          exact zr_ir (x := 1) (pc := 58) rfl rfl (zr_nb (by omega) (by omega)) ⟨rfl, _, rfl, by dsimp only; exact ⟨by unfold zc_g; omega, by omega, by omega⟩⟩
        · refine zx_T.l (i := .iload_n 0) (k := 1) (v := .int (zI (a))) (pc := 19) rfl rfl rfl ?_
          refine zx_T.s (i := .bipush 6) (k := 2) (st' := [.int (zI (6)), .int (zI (a))]) (pc := 20) rfl rfl ?_
          refine zr_i2 (x := a) (y := 6) (t := 31) (pc := 22) rfl rfl (by omega) (by omega) (by omega) (by omega) (fun (c14 : a = 6) => False.elim (by omega)) (fun (c14 : ¬ (a = 6)) => ?_)
          refine zx_T.l (i := .iload_n 0) (k := 1) (v := .int (zI (a))) (pc := 25) rfl rfl rfl ?_
          refine zx_T.s (i := .bipush 7) (k := 2) (st' := [.int (zI (7)), .int (zI (a))]) (pc := 26) rfl rfl ?_
          refine zr_i2 (x := a) (y := 7) (t := 36) (pc := 28) rfl rfl (by omega) (by omega) (by omega) (by omega) (fun (c15 : ¬ a = 7) => ?_) (fun (c15 : ¬ (¬ a = 7)) => False.elim (by omega))
          refine zx_T.l (i := .iload_n 0) (k := 1) (v := .int (zI (a))) (pc := 36) rfl rfl rfl ?_
          refine zx_T.s (i := .bipush 8) (k := 2) (st' := [.int (zI (8)), .int (zI (a))]) (pc := 37) rfl rfl ?_
          refine zr_i2 (x := a) (y := 8) (t := 57) (pc := 39) rfl rfl (by omega) (by omega) (by omega) (by omega) (fun (c16 : ¬ a = 8) => ?_) (fun (c16 : ¬ (¬ a = 8)) => False.elim (by omega))
          refine zx_T.s (i := .iconst 0) (k := 1) (st' := [.int (zI (0))]) (pc := 57) rfl rfl ?_
          exact zr_ir (x := 0) (pc := 58) rfl rfl (zr_nb (by omega) (by omega)) ⟨rfl, _, rfl, by dsimp only; exact ⟨by unfold zc_g; omega, by omega, by omega⟩⟩

set_option maxRecDepth 100000 in
set_option maxHeartbeats 4000000 in
theorem zm_raiseX_L {h : zx_H} (hI : zb_I zc_H h) {p : Int} {k : Int} {w : Int} (p1 : 0 ≤ p) (p2 : p ≤ 59) (k1 : 7 ≤ k) (k2 : k ≤ 8) (w1 : 0 ≤ w) (w2 : w ≤ 399) (n : Nat) : (∀ {t : Int} (t1 : 0 ≤ t) (t2 : t ≤ zv_i h 5) (no : ∀ i, 0 ≤ i → i < t → ¬ ((zv_a h 48 i ≤ p ∧ p < zv_a h 49 i) ∧ zc_g k (zv_a h 51 i))), (10 - t : Int).toNat < n → zx_T zp_P 3 zp_m210 3 [(0, .ref 44), (1, .int (zI (p))), (2, .int (zI (k))), (3, .int (zI (w))), (4, .int (zI (t)))] [] h (zr_V [(44, 25), (61, 0), (69, 0), (44, 50), (44, 14), (44, 42), (44, 43), (44, 49)] h (fun h' => zf_rah h h' p k w (zv_a h 71 w)))) := by
  induction n with
  | zero => exact fun _ _ _ hm => absurd hm (Nat.not_lt_zero _)
  | succ n ih =>
    intro t t1 t2 no hm
    have hH := zv_ri hI (k := 5) rfl
    refine zx_T.l (i := .iload 4) (k := 2) (v := .int (zI (t))) (pc := 3) rfl rfl rfl ?_
    refine zx_T.l (i := .aload_n 0) (k := 1) (v := .ref 44) (pc := 5) rfl rfl rfl ?_
    refine zr_gi (k := 5) (lo := 0) (hi := 6) (e := zv_i h 5) (pc := 6) rfl rfl rfl hI rfl (fun g1a g1b => ?_)
    refine zr_i2 (x := t) (y := zv_i h 5) (t := 77) (pc := 9) rfl rfl (by omega) (by omega) (by omega) (by omega) (fun (c2 : (zv_i h 5) ≤ t) => ?_) (fun (c2 : ¬ ((zv_i h 5) ≤ t)) => ?_)
    · refine zx_T.l (i := .aload_n 0) (k := 1) (v := .ref 44) (pc := 77) rfl rfl rfl ?_
      refine zx_T.l (i := .aload_n 0) (k := 1) (v := .ref 44) (pc := 78) rfl rfl rfl ?_
      refine zr_gr (k := 39) (b := 71) (pc := 79) rfl rfl rfl hI ?_
      refine zx_T.l (i := .iload_n 3) (k := 1) (v := .int (zI (w))) (pc := 82) rfl rfl rfl ?_
      refine zr_al (n := 400) (lo := (-2147483648)) (hi := 2147483647) (e := zv_a h 71 w) (pc := 83) rfl rfl rfl hI (by omega) (by omega) rfl (fun g3a g3b => ?_)
      refine zr_pi (k := 49) (lo := (-2147483648)) (hi := 2147483647) (e := zv_a h 71 w) (pc := 84) rfl rfl rfl rfl rfl rfl hI (by omega) (by omega) (fun h4 ih4 w5 e6 => ?_)
      refine zx_T.l (i := .aload_n 0) (k := 1) (v := .ref 44) (pc := 87) rfl rfl rfl ?_
      refine zx_T.s (i := .iconst 1) (k := 1) (st' := [.int (zI (1)), .ref 44]) (pc := 88) rfl rfl ?_
      refine zr_iv (cj := 207) (q' := zp_m207) (As := [.int (zI (1))]) (rest := []) (pc := 89) rfl rfl rfl rfl rfl rfl (Nat.le_of_ble_eq_true rfl) rfl (Nat.le_of_ble_eq_true rfl) ih4 ((zm_over (h := h4) ih4 (w := 1) (by omega) (by omega)).up (Nat.le_of_ble_eq_true rfl)) ?_
      rintro r7 h10 ⟨ih10, w11, r7q, x9⟩
      subst r7q
      try dsimp only at x9
      show zx_T zp_P 3 zp_m210 92 [(0, .ref 44), (1, .int (zI (p))), (2, .int (zI (k))), (3, .int (zI (w))), (4, .int (zI (t)))] [] h10 _
      have y12 : zv_i h10 50 = zv_i h 50 := ((zv_wi w11 rfl).trans (zv_wi w5 rfl))
      have y14 : zv_i h10 14 = zv_i h 14 := ((zv_wi w11 rfl).trans (zv_wi w5 rfl))
      have y16 : zv_i h10 49 = zv_a h 71 w := ((zv_wi w11 rfl).trans e6)
      have y17 : zv_i h10 25 = zv_i h 25 := ((zv_wi w11 rfl).trans (zv_wi w5 rfl))
      have a61 : ∀ j, 0 ≤ j → zv_a h10 61 j = zv_a h 61 j := fun j hj => by rw [zv_wa w11 rfl j, zv_wa w5 rfl j]
      have b69 : ∀ j, 0 ≤ j → zv_b h10 69 j = zv_b h 69 j := fun j hj => by rw [zv_wb w11 rfl j, zv_wb w5 rfl j]
      exact zr_vr (pc := 92) rfl rfl ⟨ih10, ((w5.wd rfl : zb_W [(44, 25), (61, 0), (69, 0), (44, 50), (44, 14), (44, 42), (44, 43), (44, 49)] h _).tr (w11.wd rfl)), rfl, by dsimp only; exact ⟨-1, Or.inl ⟨rfl, fun i i0 i1 => no i i0 (by omega)⟩, Or.inl ⟨rfl, by omega, by omega, by omega, by omega⟩⟩⟩
    · refine zx_T.l (i := .aload_n 0) (k := 1) (v := .ref 44) (pc := 12) rfl rfl rfl ?_
      refine zx_T.l (i := .iload 4) (k := 2) (v := .int (zI (t))) (pc := 13) rfl rfl rfl ?_
      refine zx_T.l (i := .iload_n 1) (k := 1) (v := .int (zI (p))) (pc := 15) rfl rfl rfl ?_
      refine zr_iv (cj := 171) (q' := zp_m171) (As := [.int (zI (t)), .int (zI (p))]) (rest := []) (pc := 16) rfl rfl rfl rfl rfl rfl (Nat.le_of_ble_eq_true rfl) rfl (Nat.le_of_ble_eq_true rfl) hI ((zm_has (h := h) hI (t := t) (p := p) (by omega) (by omega) (by omega) (by omega)).up (Nat.le_of_ble_eq_true rfl)) ?_
      rintro r20 h23 ⟨h23q, v21, r20q, x22⟩
      subst h23q r20q
      try dsimp only at x22
      have hx := x22
      show zx_T zp_P 3 zp_m210 19 [(0, .ref 44), (1, .int (zI (p))), (2, .int (zI (k))), (3, .int (zI (w))), (4, .int (zI (t)))] [.int (zI (v21))] h _
      refine zr_i1 (x := v21) (t := 71) (pc := 19) rfl rfl (by omega) (by omega) (fun (c24 : v21 = 0) => ?_) (fun (c24 : ¬ (v21 = 0)) => ?_)
      · first | (have gM : ¬ zc_g k (zv_a h 51 t) := (by rcases gX.1 with z | z; (exfalso; omega); exact z.2)) | (have hM : ¬ (zv_a h 48 t ≤ p ∧ p < zv_a h 49 t) := (by omega))
        refine zr_inc (x := t) (n := 1) (y := t + 1) (ls' := [(4, .int (zI (t + 1))), (0, .ref 44), (1, .int (zI (p))), (2, .int (zI (k))), (3, .int (zI (w)))]) (pc := 71) rfl rfl rfl (by omega) rfl ?_
        refine zx_T.j (i := .goto (-71)) (k := 3) (pc' := 3) (st' := []) (pc := 74) rfl rfl rfl rfl rfl ?_
        refine zx_T.lk (ls' := [(0, .ref 44), (1, .int (zI (p))), (2, .int (zI (k))), (3, .int (zI (w))), (4, .int (zI (t + 1)))]) rfl ⟨rfl, rfl, rfl, rfl, rfl, trivial⟩ ?_
        exact ih (t := t + 1) (by omega) (by omega) (fun i i0 i1 => by by_cases z : i = t; subst z; exact fun y => (by first | (exact absurd y.1 hM) | (exact gM y.2)); exact no i i0 (by omega)) (by omega)
      · refine zx_T.l (i := .iload_n 2) (k := 1) (v := .int (zI (k))) (pc := 22) rfl rfl rfl ?_
        refine zx_T.l (i := .aload_n 0) (k := 1) (v := .ref 44) (pc := 23) rfl rfl rfl ?_
        refine zr_gr (k := 9) (b := 51) (pc := 24) rfl rfl rfl hI ?_
        refine zx_T.l (i := .iload 4) (k := 2) (v := .int (zI (t))) (pc := 27) rfl rfl rfl ?_
        refine zr_al (n := 6) (lo := 0) (hi := 8) (e := zv_a h 51 t) (pc := 29) rfl rfl rfl hI (by omega) (by omega) rfl (fun g25a g25b => ?_)
        refine zr_is (cj := 156) (q' := zp_m156) (As := [.int (zI (k)), .int (zI (zv_a h 51 t))]) (rest := []) (pc := 30) rfl rfl rfl rfl rfl rfl (Nat.le_of_ble_eq_true rfl) rfl (Nat.le_of_ble_eq_true rfl) rfl ((zm_goesAsY (h := h) hI (a := k) (b := zv_a h 51 t) (by omega) (by omega) (by omega) (by omega)).up (Nat.le_of_ble_eq_true rfl)) ?_
        rintro r26 h29 ⟨h29q, v27, r26q, x28⟩
        subst h29q r26q
        try dsimp only at x28
        have gX := x28
        show zx_T zp_P 3 zp_m210 33 [(0, .ref 44), (1, .int (zI (p))), (2, .int (zI (k))), (3, .int (zI (w))), (4, .int (zI (t)))] [.int (zI (v27))] h _
        refine zr_i1 (x := v27) (t := 71) (pc := 33) rfl rfl (by omega) (by omega) (fun (c30 : v27 = 0) => ?_) (fun (c30 : ¬ (v27 = 0)) => ?_)
        · first | (have gM : ¬ zc_g k (zv_a h 51 t) := (by rcases gX.1 with z | z; (exfalso; omega); exact z.2)) | (have hM : ¬ (zv_a h 48 t ≤ p ∧ p < zv_a h 49 t) := (by omega))
          refine zr_inc (x := t) (n := 1) (y := t + 1) (ls' := [(4, .int (zI (t + 1))), (0, .ref 44), (1, .int (zI (p))), (2, .int (zI (k))), (3, .int (zI (w)))]) (pc := 71) rfl rfl rfl (by omega) rfl ?_
          refine zx_T.j (i := .goto (-71)) (k := 3) (pc' := 3) (st' := []) (pc := 74) rfl rfl rfl rfl rfl ?_
          refine zx_T.lk (ls' := [(0, .ref 44), (1, .int (zI (p))), (2, .int (zI (k))), (3, .int (zI (w))), (4, .int (zI (t + 1)))]) rfl ⟨rfl, rfl, rfl, rfl, rfl, trivial⟩ ?_
          exact ih (t := t + 1) (by omega) (by omega) (fun i i0 i1 => by by_cases z : i = t; subst z; exact fun y => (by first | (exact absurd y.1 hM) | (exact gM y.2)); exact no i i0 (by omega)) (by omega)
        · refine zx_T.l (i := .aload_n 0) (k := 1) (v := .ref 44) (pc := 36) rfl rfl rfl ?_
          refine zx_T.s (i := .iconst 1) (k := 1) (st' := [.int (zI (1)), .ref 44]) (pc := 37) rfl rfl ?_
          refine zr_pi (k := 25) (lo := 0) (hi := 6) (e := 1) (pc := 38) rfl rfl rfl rfl rfl rfl hI (by omega) (by omega) (fun h31 ih31 w32 e33 => ?_)
          refine zx_T.l (i := .aload_n 0) (k := 1) (v := .ref 44) (pc := 41) rfl rfl rfl ?_
          refine zr_gr (k := 24) (b := 61) (pc := 42) rfl rfl rfl ih31 ?_
          refine zx_T.s (i := .bipush 8) (k := 2) (st' := [.int (zI (8)), .ref 61]) (pc := 45) rfl rfl ?_
          refine zx_T.l (i := .iload_n 2) (k := 1) (v := .int (zI (k))) (pc := 47) rfl rfl rfl ?_
          refine zr_as (n := 14) (lo := 0) (hi := 8) (e := k) (pc := 48) rfl rfl rfl rfl ih31 (by omega) (by omega) (by omega) (by omega) (fun h34 ih34 w35 s36 => ?_)
          refine zx_T.l (i := .aload_n 0) (k := 1) (v := .ref 44) (pc := 49) rfl rfl rfl ?_
          refine zr_gr (k := 36) (b := 69) (pc := 50) rfl rfl rfl ih34 ?_
          refine zx_T.s (i := .bipush 8) (k := 2) (st' := [.int (zI (8)), .ref 69]) (pc := 53) rfl rfl ?_
          refine zx_T.l (i := .iload_n 3) (k := 1) (v := .int (zI (w))) (pc := 55) rfl rfl rfl ?_
          refine zr_i2l (pc := 56) rfl (by omega) (by omega) ?_
          refine zr_ls2 (n := 14) (e := w) (pc := 57) rfl rfl rfl ih34 (by omega) (by omega) (by omega) (by omega) (fun h37 ih37 w38 s39 => ?_)
          refine zx_T.l (i := .aload_n 0) (k := 1) (v := .ref 44) (pc := 58) rfl rfl rfl ?_
          refine zx_T.l (i := .aload_n 0) (k := 1) (v := .ref 44) (pc := 59) rfl rfl rfl ?_
          refine zr_gr (k := 8) (b := 50) (pc := 60) rfl rfl rfl ih37 ?_
          refine zx_T.l (i := .iload 4) (k := 2) (v := .int (zI (t))) (pc := 63) rfl rfl rfl ?_
          refine zr_al (n := 6) (lo := 0) (hi := 60) (e := zv_a h 50 t) (pc := 65) rfl rfl rfl ih37 (by omega) (by omega) ((zv_wa w38 rfl t).trans ((zv_wa w35 rfl t).trans (zv_wa w32 rfl t))) (fun g40a g40b => ?_)
          refine zx_T.l (i := .iload_n 1) (k := 1) (v := .int (zI (p))) (pc := 66) rfl rfl rfl ?_
          refine zr_iv (cj := 209) (q' := zp_m209) (As := [.int (zI (zv_a h 50 t)), .int (zI (p))]) (rest := []) (pc := 67) rfl rfl rfl rfl rfl rfl (Nat.le_of_ble_eq_true rfl) rfl (Nat.le_of_ble_eq_true rfl) ih37 ((zm_goX (h := h37) ih37 (q := zv_a h 50 t) (p := p) (by omega) (by omega) (by omega) (by omega)).up (Nat.le_of_ble_eq_true rfl)) ?_
          rintro r41 h44 ⟨ih44, w45, r41q, x43⟩
          subst r41q
          try dsimp only at x43
          have gx := x43
          show zx_T zp_P 3 zp_m210 70 [(0, .ref 44), (1, .int (zI (p))), (2, .int (zI (k))), (3, .int (zI (w))), (4, .int (zI (t)))] [] h44 _
          have y50 : zv_i h44 49 = zv_i h 49 := ((zv_wi w45 rfl).trans ((zv_wi w38 rfl).trans ((zv_wi w35 rfl).trans (zv_wi w32 rfl))))
          have y51 : zv_i h44 25 = 1 := ((zv_wi w45 rfl).trans ((zv_wi w38 rfl).trans ((zv_wi w35 rfl).trans e33)))
          have a61 : ∀ j, 0 ≤ j → zv_a h44 61 j = if j = 8 then k else zv_a h 61 j := fun j hj => by rw [zv_wa w45 rfl j, zv_wa w38 rfl j, s36 j hj, zv_wa w32 rfl j]
          have b69 : ∀ j, 0 ≤ j → zv_b h44 69 j = if j = 8 then w else zv_b h 69 j := fun j hj => by rw [zv_wb w45 rfl j, s39 j hj, zv_wb w35 rfl j, zv_wb w32 rfl j]
          exact zr_vr (pc := 70) rfl rfl ⟨ih44, ((((w32.wd rfl : zb_W [(44, 25), (61, 0), (69, 0), (44, 50), (44, 14), (44, 42), (44, 43), (44, 49)] h _).tr (w35.wd rfl)).tr (w38.wd rfl)).tr (w45.wd rfl)), rfl, by dsimp only; have gT := gx; unfold zf_gth at gT; rw [zv_wi (((w32.wd rfl : zb_W [(44, 25), (61, 0), (69, 0)] h _).tr (w35.wd rfl)).tr (w38.wd rfl)) (k := 1) rfl, zv_wi (((w32.wd rfl : zb_W [(44, 25), (61, 0), (69, 0)] h _).tr (w35.wd rfl)).tr (w38.wd rfl)) (k := 14) rfl, zv_wi (((w32.wd rfl : zb_W [(44, 25), (61, 0), (69, 0)] h _).tr (w35.wd rfl)).tr (w38.wd rfl)) (k := 42) rfl, zv_wi (((w32.wd rfl : zb_W [(44, 25), (61, 0), (69, 0)] h _).tr (w35.wd rfl)).tr (w38.wd rfl)) (k := 43) rfl] at gT; exact ⟨t, Or.inr ⟨⟨by omega, by omega⟩, ⟨by omega, by rcases gX.1 with z | z; exact z.2; exfalso; omega⟩, fun i i0 i1 => no i i0 i1⟩, Or.inr ⟨by omega, by omega, fun j j0 j1 => by rw [a61 j j0, if_neg (by omega)], by rw [a61 8 (by decide), if_pos rfl], fun j j0 => by rw [b69 j j0], by omega, gT⟩⟩⟩
set_option maxRecDepth 100000 in
set_option maxHeartbeats 4000000 in
theorem zm_raiseX {h : zx_H} (hI : zb_I zc_H h) {p : Int} {k : Int} {w : Int} (p1 : 0 ≤ p) (p2 : p ≤ 59) (k1 : 7 ≤ k) (k2 : k ≤ 8) (w1 : 0 ≤ w) (w2 : w ≤ 399) : zx_T zp_P 3 zp_m210 0 [(0, .ref 44), (1, .int (zI (p))), (2, .int (zI (k))), (3, .int (zI (w)))] [] h (zr_V [(44, 25), (61, 0), (69, 0), (44, 50), (44, 14), (44, 42), (44, 43), (44, 49)] h (fun h' => zf_rah h h' p k w (zv_a h 71 w))) := by
  have hH := zv_ri hI (k := 5) rfl
  refine zx_T.s (i := .iconst 0) (k := 1) (st' := [.int (zI (0))]) (pc := 0) rfl rfl ?_
  refine zx_T.t (i := .istore 4) (k := 2) (ls' := [(4, .int (zI (0))), (0, .ref 44), (1, .int (zI (p))), (2, .int (zI (k))), (3, .int (zI (w)))]) (st' := []) (pc := 1) rfl rfl rfl rfl ?_
  refine zx_T.lk (ls' := [(0, .ref 44), (1, .int (zI (p))), (2, .int (zI (k))), (3, .int (zI (w))), (4, .int (zI (0)))]) rfl ⟨rfl, rfl, rfl, rfl, rfl, trivial⟩ ?_
  exact zm_raiseX_L (h := h) hI (p := p) (k := k) (w := w) p1 p2 k1 k2 w1 w2 ((10 - 0 : Int).toNat + 1) (t := 0) (by omega) (by omega) (fun i i0 i1 => absurd i1 (by omega)) (Nat.lt_succ_self _)

set_option maxRecDepth 100000 in
set_option maxHeartbeats 4000000 in
theorem zm_refuseX {h : zx_H} (hI : zb_I zc_H h) {p : Int} {q : Int} (p1 : 0 ≤ p) (p2 : p ≤ 59) (q1 : -2147483648 ≤ q) (q2 : q ≤ 2147483647) (t9 : zv_i h 38 ≤ 399) (r9 : zv_i h 41 ≤ 1000000) (r8 : (-5) ≤ zv_i h 41) : zx_T zp_P 4 zp_m211 0 [(0, .ref 44), (1, .int (zI (p))), (2, .int (zI (q)))] [] h (zr_V [(44, 25), (61, 0), (69, 0), (44, 50), (44, 14), (44, 42), (44, 43), (44, 49), (44, 41), (44, 38), (71, 0), (72, 0)] h (fun h' => zf_reh h h' p q)) := by
  have hT := zv_ri hI (k := 38) rfl
  refine zx_T.l (i := .aload_n 0) (k := 1) (v := .ref 44) (pc := 0) rfl rfl rfl ?_
  refine zx_T.s (i := .dup) (k := 1) (st' := [.ref 44, .ref 44]) (pc := 1) rfl rfl ?_
  refine zr_gi (k := 41) (lo := (-2147483648)) (hi := 2147483647) (e := zv_i h 41) (pc := 2) rfl rfl rfl hI rfl (fun g1a g1b => ?_)
  refine zx_T.s (i := .iconst 1) (k := 1) (st' := [.int (zI (1)), .int (zI (zv_i h 41)), .ref 44]) (pc := 5) rfl rfl ?_
  refine zr_add (x := zv_i h 41) (y := 1) (e := zv_i h 41 + 1) (pc := 6) rfl (by omega) ?_
  refine zr_pi (k := 41) (lo := (-2147483648)) (hi := 2147483647) (e := zv_i h 41 + 1) (pc := 7) rfl rfl rfl rfl rfl rfl hI (by omega) (by omega) (fun h3 ih3 w4 e5 => ?_)
  refine zx_T.l (i := .aload_n 0) (k := 1) (v := .ref 44) (pc := 10) rfl rfl rfl ?_
  refine zx_T.l (i := .iload_n 1) (k := 1) (v := .int (zI (p))) (pc := 11) rfl rfl rfl ?_
  refine zx_T.s (i := .bipush 7) (k := 2) (st' := [.int (zI (7)), .int (zI (p)), .ref 44]) (pc := 12) rfl rfl ?_
  refine zx_T.l (i := .aload_n 0) (k := 1) (v := .ref 44) (pc := 14) rfl rfl rfl ?_
  refine zx_T.l (i := .iload_n 2) (k := 1) (v := .int (zI (q))) (pc := 15) rfl rfl rfl ?_
  have y6 : zv_i h3 38 = zv_i h 38 := (zv_wi w4 rfl)
  refine zr_iv (cj := 205) (q' := zp_m205) (As := [.int (zI (q))]) (rest := [.int (zI (7)), .int (zI (p)), .ref 44]) (pc := 16) rfl rfl rfl rfl rfl rfl (Nat.le_of_ble_eq_true rfl) rfl (Nat.le_of_ble_eq_true rfl) ih3 ((zm_thingX (h := h3) ih3 (m := q) (by omega) (by omega) (by omega)).up (Nat.le_of_ble_eq_true rfl)) ?_
  rintro r7 h10 ⟨ih10, w11, v8, r7q, x9⟩
  subst r7q
  try dsimp only at x9
  have tX := x9
  show zx_T zp_P 4 zp_m211 19 [(0, .ref 44), (1, .int (zI (p))), (2, .int (zI (q)))] [.int (zI (v8)), .int (zI (7)), .int (zI (p)), .ref 44] h10 _
  refine zr_iv (cj := 210) (q' := zp_m210) (As := [.int (zI (p)), .int (zI (7)), .int (zI (v8))]) (rest := []) (pc := 19) rfl rfl rfl rfl rfl rfl (Nat.le_of_ble_eq_true rfl) rfl (Nat.le_of_ble_eq_true rfl) ih10 ((zm_raiseX (h := h10) ih10 (p := p) (k := 7) (w := v8) (by omega) (by omega) (by omega) (by omega) (by omega) (by omega)).up (Nat.le_of_ble_eq_true rfl)) ?_
  rintro r12 h15 ⟨ih15, w16, r12q, x14⟩
  subst r12q
  try dsimp only at x14
  have rX := x14
  show zx_T zp_P 4 zp_m211 22 [(0, .ref 44), (1, .int (zI (p))), (2, .int (zI (q)))] [] h15 _
  have y17 : zv_i h15 38 = zv_i h10 38 := (zv_wi w16 rfl)
  have y18 : zv_i h15 41 = zv_i h 41 + 1 := ((zv_wi w16 rfl).trans ((zv_wi w11 rfl).trans e5))
  have a71 : ∀ j, 0 ≤ j → zv_a h15 71 j = zv_a h10 71 j := fun j hj => by rw [zv_wa w16 rfl j]
  have a72 : ∀ j, 0 ≤ j → zv_a h15 72 j = zv_a h10 72 j := fun j hj => by rw [zv_wa w16 rfl j]
  exact zr_vr (pc := 22) rfl rfl ⟨ih15, (((w4.wd rfl : zb_W [(44, 25), (61, 0), (69, 0), (44, 50), (44, 14), (44, 42), (44, 43), (44, 49), (44, 41), (44, 38), (71, 0), (72, 0)] h _).tr (w11.wd rfl)).tr (w16.wd rfl)), rfl, by dsimp only; exact ⟨by omega, ⟨by have := tX.2.1; omega, fun j j0 => by rw [a71 j j0, tX.2.2.1 j j0, zv_wi w4 rfl, zv_wa w4 rfl], fun j j0 => by rw [a72 j j0, tX.2.2.2 j j0, zv_wi w4 rfl, zv_wa w4 rfl]⟩, by have r2 := rX; rw [tX.1, tX.2.2.1 _ (by omega), if_pos rfl, zv_wi w4 rfl] at r2; exact r2.ba ((w4.wd rfl : zb_W [(44, 41), (44, 38), (71, 0), (72, 0)] h _).tr (w11.wd rfl)) rfl (fun j _ _ => zv_wa ((w4.wd rfl : zb_W [(44, 41), (44, 38), (71, 0), (72, 0)] h _).tr (w11.wd rfl)) rfl j)⟩⟩
