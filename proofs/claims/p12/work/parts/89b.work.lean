/-! ===== 89b: for a place worked out in the reference ===== -/
theorem zx_T.and {P : zx_P} {d : Nat} {q : zx_M} {pc : Nat} {ls : zx_L} {st : List Value} {h : zx_H} {F G : Option Value → zx_H → Prop} (a : zx_T P d q pc ls st h F) (b : zx_T P d q pc ls st h G) : zx_T P d q pc ls st h (fun r h' => F r h' ∧ G r h') := by
  obtain ⟨n, r, h1, e1, f⟩ := a
  obtain ⟨m, r2, h2, e2, g⟩ := b
  have x1 := zx_mono n (n + m) d d q pc ls st h _ (Nat.le_add_right n m) (Nat.le_refl d) e1
  have x2 := zx_mono m (n + m) d d q pc ls st h _ (Nat.le_add_left m n) (Nat.le_refl d) e2
  have e := x1.symm.trans x2
  have e3 : (r, h1) = (r2, h2) := Option.some.inj e
  have e4 : r = r2 := congrArg Prod.fst e3
  have e5 : h1 = h2 := congrArg Prod.snd e3
  subst e4
  subst e5
  exact ⟨n, r, h1, e1, f, g⟩
theorem zr_J_e {h h' : zx_H} {q m e : Int} {row : Int → Int} (J : zr_J h h' q m e row) : 0 ≤ e ∧ e ≤ 7 := by
  rcases J with ⟨_, z, _⟩ | ⟨_, _, z, _⟩ | ⟨_, _, _, z, _⟩ | ⟨_, _, _, z, _⟩ <;> omega
theorem zs_x_ok {P : zP} {p : Int} {s : zS} (hP : P.ok) (h : zs_ok P s) (r : s.R p) : zw_ok (zs_x P p s) := by
  have c := h.2 p r
  exact zw_ap (h.1 p r) (hP.1 p c.1 c.2).1 (hP.1 p c.1 c.2).2
theorem zw_ok_ag {x : zT} {S : Int} {N : Int → Int} (h : zw_ok x) (e : S = x.2.1) (a : ∀ j, 0 ≤ j → j < x.2.1 + 8 → N j = x.2.2 j) : zw_ok (0, S, N) := by
  subst e
  have b := h.2
  exact ⟨⟨zw_cg h.1.1 (fun j j0 j1 => a j j0 (by omega)), zw_cg h.1.2 (fun j j0 (j1 : j < 8 + x.2.1) => a j (by omega) (by omega))⟩, h.2⟩
theorem zs_js_0 {P : zP} {p : Int} : 0 ≤ zs_js P p ∧ zs_js P p ≤ 2 := by
  unfold zs_js
  split
  · omega
  · split <;> omega
/-- what an op does, out of what was laid -/
theorem zr_does {h2 h3 h4 : zx_H} {P : zP} {p e : Int} {s : zS} (hP : P.ok) (o : zs_ok P s) (r : s.R p) (a : zr_A h2 s) (ys : zv_i h3 25 = zv_a h2 56 p) (yj : ∀ j, 0 ≤ j → j < 14 → zv_a h3 61 j = zv_a h2 55 (14 * p + j)) (d : e = zv_i h4 26 ∧ zt_eq (zv_i h4 26, zv_i h4 25, zv_a h4 61) (zs_ap (P.op p) (P.one p) (0, zv_i h3 25, zv_a h3 61))) : zt_ag (e, zv_i h4 25, zv_a h4 61) (zs_x P p s) := by
  have b := a.2.1 p r
  have w := (o.1 p r).2
  have c := o.2 p r
  dsimp only at w
  have g : zt_ag (0, zv_i h3 25, zv_a h3 61) (0, s.S p, s.K p) := ⟨rfl, by show zv_i h3 25 = s.S p; rw [ys]; exact b.1, fun j j0 (j1 : j < zv_i h3 25 + 8) => by
    have q : zv_i h3 25 = s.S p := ys.trans b.1
    show zv_a h3 61 j = s.K p j
    rw [yj j j0 (by omega)]
    exact b.2 j j0 (by omega)⟩
  have k := zs_ap_ag (o := P.op p) (a := P.one p) g (by show 0 ≤ zv_i h3 25; rw [ys, b.1]; exact w.1) (hP.1 p c.1 c.2).1
  rw [d.1]
  exact d.2.ag.tr k
theorem zs_wk_0 {P : zP} {p k f : Int} {x : zT} {s s2 : zS} (h : (f, s2) = zs_wk P p x s k) (xk : ¬ x.1 = 0 → k = 0) (f0 : f = 0) : x.1 = 0 := by
  by_cases c : x.1 = 0
  · exact c
  · have z := xk c
    subst z
    have h' : (f, s2) = (x.1, s) := h
    have e : f = x.1 := congrArg Prod.fst h'
    omega
theorem zs_w_end {P : zP} {p k f : Int} {s s2 : zS} (k0 : 0 ≤ k) (k2 : k ≤ zs_js P p) (h : (f, s2) = zs_wk P p (zs_x P p s) s k) (xk : ¬ (zs_x P p s).1 = 0 → k = 0) (e : zs_js P p ≤ k ∨ ¬ f = 0) (c : ¬ f = 0 ∨ (22 ≤ P.op p ∧ P.op p ≤ 24)) : zs_w P p s = (f, s2) := by
  unfold zs_w
  by_cases x0 : (zs_x P p s).1 = 0
  · rw [if_neg (fun z => z x0), ← zs_wk_e k0 k2 x0 h e]
    unfold zs_w2
    rw [if_pos c]
  · rw [if_pos x0]
    have z := xk x0
    subst z
    exact h.symm
theorem zs_w_on {P : zP} {p k f : Int} {s s2 : zS} (k0 : 0 ≤ k) (k2 : k ≤ zs_js P p) (h : (f, s2) = zs_wk P p (zs_x P p s) s k) (xk : ¬ (zs_x P p s).1 = 0 → k = 0) (f0 : f = 0) (e : zs_js P p ≤ k) (c : ¬ (22 ≤ P.op p ∧ P.op p ≤ 24)) : zs_w P p s = if p + 1 = P.n then (6, s2) else zs_join P s2 (p + 1) (zs_x P p s).2.2 (zs_x P p s).2.1 := by
  have x0 := zs_wk_0 h xk f0
  unfold zs_w
  rw [if_neg (fun z => z x0), ← zs_wk_e k0 k2 x0 h (Or.inl e)]
  unfold zs_w2
  rw [if_neg (fun z => z.elim (fun y => y f0) c)]
