/-! ===== 97o: TO JUDGE, worked by pure functions ===== -/
/-- the frame of a place: the first, or none -/
def zs_fai (F : zF) (p : Int) : Nat → Int
  | 0 => -1
  | n + 1 => if zs_fai F p n = -1 ∧ F.pl n = p then n else zs_fai F p n
def zs_fa (F : zF) (p : Int) : Int := zs_fai F p F.n.toNat
def zf_at (F : zF) (p f : Int) : Prop := (f = -1 ∧ ∀ j, 0 ≤ j → j < F.n → ¬ F.pl j = p) ∨ (0 ≤ f ∧ f < F.n ∧ F.pl f = p ∧ ∀ j, 0 ≤ j → j < f → ¬ F.pl j = p)
theorem zs_fai_n {F : zF} {p : Int} : ∀ n : Nat, (∀ j, 0 ≤ j → j < (n : Int) → ¬ F.pl j = p) → zs_fai F p n = -1
  | 0, _ => rfl
  | n + 1, h => by
    show (if zs_fai F p n = -1 ∧ F.pl n = p then (n : Int) else zs_fai F p n) = -1
    rw [if_neg (fun z => h n (by omega) (by omega) z.2)]
    exact zs_fai_n n (fun j j0 j1 => h j j0 (by omega))
theorem zs_fai_y {F : zF} {p f : Int} (f0 : 0 ≤ f) (h : F.pl f = p) (h2 : ∀ j, 0 ≤ j → j < f → ¬ F.pl j = p) : ∀ n : Nat, f < (n : Int) → zs_fai F p n = f
  | 0, h => by omega
  | n + 1, h3 => by
    show (if zs_fai F p n = -1 ∧ F.pl n = p then (n : Int) else zs_fai F p n) = f
    by_cases c : f < (n : Int)
    · rw [zs_fai_y f0 h h2 n c, if_neg (by omega)]
    · have e : f = (n : Int) := by omega
      rw [if_pos ⟨zs_fai_n n (fun j j0 j1 => h2 j j0 (by omega)), by rw [← e]; exact h⟩]
      exact e.symm
theorem zs_fa_of {F : zF} {p f : Int} (n0 : 0 ≤ F.n) (h : zf_at F p f) : zs_fa F p = f := by
  rcases h with ⟨a, b⟩ | ⟨a, b, c, d⟩
  · rw [a]; exact zs_fai_n _ (fun j j0 j1 => b j j0 (by omega))
  · exact zs_fai_y a c d _ (by omega)
theorem zs_fa_at {F : zF} {p : Int} (n0 : 0 ≤ F.n) : zf_at F p (zs_fa F p) := by
  by_cases c : ∀ j, 0 ≤ j → j < F.n → ¬ F.pl j = p
  · exact Or.inl ⟨zs_fai_n _ (fun j j0 j1 => c j j0 (by omega)), c⟩
  · have least : ∀ n : Nat, (∀ j, 0 ≤ j → j < (n : Int) → ¬ F.pl j = p) ∨ ∃ f, 0 ≤ f ∧ f < (n : Int) ∧ F.pl f = p ∧ ∀ j, 0 ≤ j → j < f → ¬ F.pl j = p := fun n => by
      induction n with
      | zero => exact Or.inl (fun j j0 j1 => absurd j1 (by omega))
      | succ n ih =>
        rcases ih with a | ⟨f, f0, f1, f2, f3⟩
        · by_cases d : F.pl n = p
          · exact Or.inr ⟨n, by omega, by omega, d, fun j j0 j1 => a j j0 j1⟩
          · refine Or.inl (fun j j0 j1 => ?_)
            by_cases e : j = (n : Int)
            · rw [e]; exact d
            · exact a j j0 (by omega)
        · exact Or.inr ⟨f, f0, by omega, f2, f3⟩
    rcases least F.n.toNat with a | ⟨f, f0, f1, f2, f3⟩
    · exact absurd (fun j j0 j1 => a j j0 (by omega)) c
    · rw [show zs_fa F p = f from zs_fai_y f0 f2 f3 _ f1]
      exact Or.inr ⟨f0, by omega, f2, f3⟩
theorem zs_fa_cg {F G : zF} {p : Int} (e : F.n = G.n) (h : ∀ f, 0 ≤ f → f < F.n → F.pl f = G.pl f) : zs_fa F p = zs_fa G p := by
  unfold zs_fa
  rw [e]
  have key : ∀ n : Nat, (n : Int) ≤ F.n → zs_fai F p n = zs_fai G p n := fun n => by
    induction n with
    | zero => intro _; rfl
    | succ n ih =>
      intro hn
      show (if zs_fai F p n = -1 ∧ F.pl n = p then (n : Int) else zs_fai F p n) = (if zs_fai G p n = -1 ∧ G.pl n = p then (n : Int) else zs_fai G p n)
      rw [ih (by omega), h n (by omega) (by omega)]
  by_cases c : 0 ≤ F.n
  · exact key _ (by omega)
  · rw [show G.n.toNat = 0 by omega]; rfl
/-- locals go; all goes -/
def zs_lg (N R : Int → Int) : Prop := ∀ j, 0 ≤ j → j < 8 → zc_g (N j) (R j)
def zs_gg (S : Int) (N : Int → Int) (S' : Int) (R : Int → Int) : Prop := S = S' ∧ zs_lg N R ∧ ∀ j, 0 ≤ j → j < S → zc_g (N (8 + j)) (R (8 + j))
def zs_gx (x : zT) (F : zF) (f : Int) : Prop := zs_gg x.2.1 x.2.2 (F.st f) (F.kf f)
/-- handlers hold -/
def zs_hh (P : zP) (F : zF) (p : Int) (x : zT) (t : Int) : Prop := P.fr t ≤ p ∧ p < P.to t → ¬ zs_fa F (P.ha t) = -1 ∧ zs_lg x.2.2 (F.kf (zs_fa F (P.ha t))) ∧ F.st (zs_fa F (P.ha t)) = 1 ∧ zc_g (P.tk t) (F.kf (zs_fa F (P.ha t)) 8)
def zs_hw (P : zP) (F : zF) (p : Int) (x : zT) (k : Int) : Prop := ¬ zs_fa F (zs_wy P p k) = -1 ∧ zs_gx x F (zs_fa F (zs_wy P p k))
def zs_rt (P : zP) (F : zF) (p : Int) (x : zT) : Prop := (∀ t, 0 ≤ t → t < P.hn → zs_hh P F p x t) ∧ (zs_ap (P.op p) (P.one p) x).1 = 0 ∧ ∀ k, 0 ≤ k → k < zs_js P p → zs_hw P F p (zs_ap (P.op p) (P.one p) x) k
def zs_go (P : zP) (p : Int) : Prop := ¬ (22 ≤ P.op p ∧ P.op p ≤ 24)
/-- what is laid at a place -/
noncomputable def zs_in1 (F : zF) (p : Int) (x : zT) : zT := if zs_fa F p = -1 then x else (0, F.st (zs_fa F p), F.kf (zs_fa F p))
noncomputable def zs_jg (P : zP) (s : zS) (F : zF) : Nat → Prop → zT → Int
  | 0, _, _ => 1
  | n + 1, came, x => zi (s.R (P.n - (n + 1)))
      (zi (¬ zs_fa F (P.n - (n + 1)) = -1 → came → zs_gx x F (zs_fa F (P.n - (n + 1))))
        (zi (zs_rt P F (P.n - (n + 1)) (zs_in1 F (P.n - (n + 1)) x))
          (zs_jg P s F n (zs_go P (P.n - (n + 1))) (zs_ap (P.op (P.n - (n + 1))) (P.one (P.n - (n + 1))) (zs_in1 F (P.n - (n + 1)) x)))
          (-10 - (P.n - (n + 1))))
        (-10 - (P.n - (n + 1))))
      (zs_jg P s F n False x)
theorem zs_jg_s {P : zP} {s : zS} {F : zF} {p : Int} {came : Prop} {x : zT} (h1 : p < P.n) : zs_jg P s F (P.n - p).toNat came x = zi (s.R p) (zi (¬ zs_fa F p = -1 → came → zs_gx x F (zs_fa F p)) (zi (zs_rt P F p (zs_in1 F p x)) (zs_jg P s F (P.n - (p + 1)).toNat (zs_go P p) (zs_ap (P.op p) (P.one p) (zs_in1 F p x))) (-10 - p)) (-10 - p)) (zs_jg P s F (P.n - (p + 1)).toNat False x) := by
  obtain ⟨n, hn⟩ : ∃ n : Nat, (P.n - (p + 1)).toNat = n := ⟨_, rfl⟩
  have e : (P.n - p).toNat = n + 1 := by omega
  have e2 : P.n - ((n : Int) + 1) = p := by omega
  rw [e, hn]
  show zi (s.R (P.n - ((n : Int) + 1))) _ _ = _
  rw [e2]
/-- whole kinds of a frame -/
def zF.wh (F : zF) (f : Int) : Prop := zw_loc 0 8 (F.kf f) ∧ zw_loc 8 (8 + F.st f) (F.kf f)
/-- what judge answers -/
def zs_jd (P : zP) (s : zS) (F : zF) (e : Int) : Prop := (∃ f, 0 ≤ f ∧ f < F.n ∧ ¬ F.wh f ∧ (∀ g, 0 ≤ g → g < f → F.wh g) ∧ e = -10 - F.pl f) ∨ ((∀ f, 0 ≤ f → f < F.n → F.wh f) ∧ e = zs_jg P s F P.n.toNat True (0, 0, zs_row P))
theorem zs_jd_u {P : zP} {s : zS} {F : zF} {e e' : Int} (a : zs_jd P s F e) (b : zs_jd P s F e') : e = e' := by
  rcases a with ⟨f, f0, f1, f2, f3, f4⟩ | ⟨a1, a2⟩
  · rcases b with ⟨g, g0, g1, g2, g3, g4⟩ | ⟨b1, b2⟩
    · have c : f = g := by
        rcases (show f < g ∨ f = g ∨ g < f by omega) with z | z | z
        · exact absurd (g3 f f0 z) f2
        · exact z
        · exact absurd (f3 g g0 z) g2
      rw [f4, g4, c]
    · exact absurd (b1 f f0 f1) f2
  · rcases b with ⟨g, g0, g1, g2, g3, g4⟩ | ⟨b1, b2⟩
    · exact absurd (a1 g g0 g1) g2
    · rw [a2, b2]
/-- a reached place without a frame was come to from the one ahead of it -/
def zs_lk (P : zP) (s : zS) (F : zF) : Prop := ∀ p, 0 ≤ p → p < P.n → s.R p → zs_fa F p = -1 → p = 0 ∨ (s.R (p - 1) ∧ zs_go P (p - 1))
theorem zs_fr_pl {P : zP} {s : zS} {p : Int} (p0 : 0 ≤ p) (r : s.R p) (i : zs_isf P s p) : ∀ n : Nat, p < (n : Int) → 0 ≤ (zs_fr P s n).n ∧ ∃ f, 0 ≤ f ∧ f < (zs_fr P s n).n ∧ (zs_fr P s n).pl f = p
  | 0, h => by omega
  | n + 1, h => by
    show 0 ≤ (zi (s.R n ∧ zs_isf P s n) _ _ : zF).n ∧ ∃ f, 0 ≤ f ∧ f < (zi (s.R n ∧ zs_isf P s n) _ _ : zF).n ∧ (zi (s.R n ∧ zs_isf P s n) _ _ : zF).pl f = p
    have n0 : ∀ m : Nat, 0 ≤ (zs_fr P s m).n := fun m => by
      induction m with
      | zero => show (0 : Int) ≤ 0; omega
      | succ m ih =>
        show 0 ≤ (zi (s.R m ∧ zs_isf P s m) _ _ : zF).n
        by_cases c : s.R m ∧ zs_isf P s m
        · rw [zi_t c]; show 0 ≤ (zs_fr P s m).n + 1; omega
        · rw [zi_f c]; exact ih
    by_cases e : p = (n : Int)
    · subst e
      rw [zi_t ⟨r, i⟩]
      have z := n0 n
      exact ⟨by show 0 ≤ (zs_fr P s n).n + 1; omega, (zs_fr P s n).n, z, by show (zs_fr P s n).n < (zs_fr P s n).n + 1; omega, by show (if (zs_fr P s n).n = (zs_fr P s n).n then (n : Int) else _) = _; rw [if_pos rfl]⟩
    · obtain ⟨z, f, f0, f1, f2⟩ := zs_fr_pl p0 r i n (by omega)
      by_cases c : s.R n ∧ zs_isf P s n
      · rw [zi_t c]
        exact ⟨by show 0 ≤ (zs_fr P s n).n + 1; omega, f, f0, by show f < (zs_fr P s n).n + 1; omega, by show (if f = (zs_fr P s n).n then (n : Int) else (zs_fr P s n).pl f) = p; rw [if_neg (by omega)]; exact f2⟩
      · rw [zi_f c]; exact ⟨z, f, f0, f1, f2⟩
theorem zs_fr_lk {P : zP} {s : zS} {F : zF} (e : F.n = (zs_fr P s P.n.toNat).n) (h : ∀ f, 0 ≤ f → f < F.n → F.pl f = (zs_fr P s P.n.toNat).pl f) : zs_lk P s F := fun p p0 p1 r a => by
  rw [zs_fa_cg e h] at a
  by_cases i : zs_isf P s p
  · obtain ⟨z, f, f0, f1, f2⟩ := zs_fr_pl p0 r i P.n.toNat (by omega)
    rcases zs_fa_at (F := zs_fr P s P.n.toNat) (p := p) z with b | b
    · exact absurd f2 (b.2 f f0 f1)
    · omega
  · by_cases c : p = 0
    · exact Or.inl c
    · refine Or.inr ⟨Classical.byContradiction (fun z => i (Or.inr ⟨by omega, Or.inl z⟩)), fun z => i (Or.inr ⟨by omega, Or.inr z⟩)⟩
theorem zs_lg_ag {N N' R : Int → Int} (h : ∀ j, 0 ≤ j → j < 8 → N j = N' j) : zs_lg N R ↔ zs_lg N' R :=
  ⟨fun a j j0 j1 => by rw [← h j j0 j1]; exact a j j0 j1, fun a j j0 j1 => by rw [h j j0 j1]; exact a j j0 j1⟩
theorem zs_gg_ag {S S1 : Int} {N : Int → Int} {x : zT} {R : Int → Int} (s0 : 0 ≤ x.2.1) (e : S = x.2.1) (h : ∀ j, 0 ≤ j → j < 8 + x.2.1 → N j = x.2.2 j) : zs_gg S N S1 R ↔ zs_gg x.2.1 x.2.2 S1 R := by
  subst e
  unfold zs_gg
  rw [zs_lg_ag (fun j j0 j1 => h j j0 (by omega))]
  exact ⟨fun a => ⟨a.1, a.2.1, fun j j0 j1 => by rw [← h (8 + j) (by omega) (by omega)]; exact a.2.2 j j0 j1⟩, fun a => ⟨a.1, a.2.1, fun j j0 j1 => by rw [h (8 + j) (by omega) (by omega)]; exact a.2.2 j j0 j1⟩⟩
theorem zr_faE {h : zx_H} {F : zF} {p e : Int} (hF : zr_Fr h F) (oF : F.ok) (a : (e = (-1) ∧ ∀ j, 0 ≤ j → j < zv_i h 19 → ¬ zv_a h 57 j = p) ∨ (0 ≤ e ∧ e < zv_i h 19 ∧ zv_a h 57 e = p ∧ ∀ j, 0 ≤ j → j < e → ¬ zv_a h 57 j = p)) : zs_fa F p = e ∧ (e = -1 ∨ (0 ≤ e ∧ e < F.n)) := by
  have n := hF.1
  refine ⟨zs_fa_of oF.1 ?_, by omega⟩
  rcases a with ⟨a1, a2⟩ | ⟨a1, a2, a3, a4⟩
  · exact Or.inl ⟨a1, fun j j0 j1 => by rw [← (hF.2 j j0 j1).1]; exact a2 j j0 (by omega)⟩
  · exact Or.inr ⟨a1, by omega, by rw [← (hF.2 e a1 (by omega)).1]; exact a3, fun j j0 j1 => by rw [← (hF.2 j j0 (by omega)).1]; exact a4 j j0 j1⟩
/-- whole: as the reference looks at it -/
theorem zf_w1 {D : Int → Int} {b l : Int} {K : Int → Int} (l0 : 0 ≤ l) (l8 : l ≤ 8) (h : ∀ j, 0 ≤ j → j < l → D (b + j) = K j) (z : ∀ j, l ≤ j → j < 8 → K j = 0) : zw_loc b (b + l) D ↔ zw_loc 0 8 K := by
  refine ⟨fun a j j0 j1 => ?_, fun a q q0 q1 => ?_⟩
  · by_cases c : j < l
    · have y := a (b + j) (by omega) (by omega)
      rw [h j j0 c] at y
      refine ⟨fun k => ?_, fun k => ?_⟩
      · have y1 := y.1 k
        have e := h (j + 1) (by omega) (by omega)
        rw [show b + (j + 1) = b + j + 1 by omega] at e
        exact ⟨by omega, by omega⟩
      · have y1 := y.2 k
        have e := h (j - 1) (by omega) (by omega)
        rw [show b + (j - 1) = b + j - 1 by omega] at e
        exact ⟨by omega, by omega⟩
    · have y := z j (by omega) j1
      exact ⟨fun k => by omega, fun k => by omega⟩
  · obtain ⟨j, e⟩ : ∃ j, q = b + j := ⟨q - b, by omega⟩
    subst e
    have y := a j (by omega) (by omega)
    rw [h j (by omega) (by omega)]
    refine ⟨fun k => ?_, fun k => ?_⟩
    · have y1 := y.1 k
      by_cases c : j + 1 < l
      · have e := h (j + 1) (by omega) c
        rw [show b + (j + 1) = b + j + 1 by omega] at e
        exact ⟨by omega, by omega⟩
      · have e := z (j + 1) (by omega) y1.1
        omega
    · have y1 := y.2 k
      have e := h (j - 1) (by omega) (by omega)
      rw [show b + (j - 1) = b + j - 1 by omega] at e
      exact ⟨by omega, by omega⟩
theorem zf_w2 {D : Int → Int} {b m : Int} {K : Int → Int} (m0 : 0 ≤ m) (h : ∀ j, 0 ≤ j → j < m → D (b + j) = K (8 + j)) : zw_loc b (b + m) D ↔ zw_loc 8 (8 + m) K := by
  refine ⟨fun a j j0 j1 => ?_, fun a q q0 q1 => ?_⟩
  · have y := a (b + (j - 8)) (by omega) (by omega)
    have e := h (j - 8) (by omega) (by omega)
    rw [show 8 + (j - 8) = j by omega] at e
    rw [e] at y
    refine ⟨fun k => ?_, fun k => ?_⟩
    · have y1 := y.1 k
      have e2 := h (j - 8 + 1) (by omega) (by omega)
      rw [show b + (j - 8 + 1) = b + (j - 8) + 1 by omega, show 8 + (j - 8 + 1) = j + 1 by omega] at e2
      exact ⟨by omega, by omega⟩
    · have y1 := y.2 k
      have e2 := h (j - 8 - 1) (by omega) (by omega)
      rw [show b + (j - 8 - 1) = b + (j - 8) - 1 by omega, show 8 + (j - 8 - 1) = j - 1 by omega] at e2
      exact ⟨by omega, by omega⟩
  · obtain ⟨j, e⟩ : ∃ j, q = b + j := ⟨q - b, by omega⟩
    subst e
    have y := a (8 + j) (by omega) (by omega)
    rw [h j (by omega) (by omega)]
    refine ⟨fun k => ?_, fun k => ?_⟩
    · have y1 := y.1 k
      have e2 := h (j + 1) (by omega) (by omega)
      rw [show b + (j + 1) = b + j + 1 by omega, show 8 + (j + 1) = 8 + j + 1 by omega] at e2
      exact ⟨by omega, by omega⟩
    · have y1 := y.2 k
      have e2 := h (j - 1) (by omega) (by omega)
      rw [show b + (j - 1) = b + j - 1 by omega, show 8 + (j - 1) = 8 + j - 1 by omega] at e2
      exact ⟨by omega, by omega⟩
/-- what an op does, out of what is laid -/
theorem zr_dx {P : zP} {p e S S' : Int} {N N' : Int → Int} {x : zT} (ho : 0 ≤ P.op p ∧ P.op p ≤ 28) (x0 : x.1 = 0) (s0 : 0 ≤ x.2.1) (eS : S = x.2.1) (eN : ∀ j, 0 ≤ j → j < 8 + x.2.1 → N j = x.2.2 j) (d : zt_eq (e, S', N') (zs_ap (P.op p) (P.one p) (0, S, N))) : e = (zs_ap (P.op p) (P.one p) x).1 ∧ S' = (zs_ap (P.op p) (P.one p) x).2.1 ∧ ∀ j, 0 ≤ j → j < 8 + (zs_ap (P.op p) (P.one p) x).2.1 → N' j = (zs_ap (P.op p) (P.one p) x).2.2 j := by
  have g : zt_ag (0, S, N) x := ⟨x0.symm, eS, fun j j0 (j1 : j < S + 8) => eN j j0 (by omega)⟩
  have k := d.ag.tr (zs_ap_ag (o := P.op p) (a := P.one p) g (by show 0 ≤ S; omega) ho)
  exact ⟨k.1, k.2.1, fun j j0 j1 => k.2.2 j j0 (by rw [k.2.1]; omega)⟩
theorem zc_faE {h : zx_H} {F : zF} {p e : Int} (hF : zc_Fr h F) (oF : F.ok) (a : (e = -1 ∧ ∀ j, 0 ≤ j → j < zv_f h 10 3 → ¬ zv_a h 14 j = p) ∨ (0 ≤ e ∧ e < zv_f h 10 3 ∧ zv_a h 14 e = p ∧ ∀ j, 0 ≤ j → j < e → ¬ zv_a h 14 j = p)) : zs_fa F p = e ∧ (e = -1 ∨ (0 ≤ e ∧ e < F.n)) := by
  have n := hF.1
  refine ⟨zs_fa_of oF.1 ?_, by omega⟩
  rcases a with ⟨a1, a2⟩ | ⟨a1, a2, a3, a4⟩
  · exact Or.inl ⟨a1, fun j j0 j1 => by rw [← (hF.2 j j0 j1).1]; exact a2 j j0 (by omega)⟩
  · exact Or.inr ⟨a1, by omega, by rw [← (hF.2 e a1 (by omega)).1]; exact a3, fun j j0 j1 => by rw [← (hF.2 j j0 (by omega)).1]; exact a4 j j0 j1⟩
/-- what an op does in the class, out of what is laid -/
theorem zc_dx {P : zP} {p e S S' : Int} {N N' : Int → Int} {x : zT} (ho : 0 ≤ P.op p ∧ P.op p ≤ 28) (ha : P.op p = 21 → 5 ≤ P.one p) (x0 : x.1 = 0) (xo : zw_ok x) (eS : S = x.2.1) (eN : ∀ j, 0 ≤ j → j < 8 + x.2.1 → N j = x.2.2 j) (d : zt_eq (e, S', N') (zc_ap (P.op p) (P.one p) (0, S, N))) : e = (zs_ap (P.op p) (P.one p) x).1 ∧ (e = 0 → S' = (zs_ap (P.op p) (P.one p) x).2.1 ∧ ∀ j, 0 ≤ j → j < 8 + (zs_ap (P.op p) (P.one p) x).2.1 → N' j = (zs_ap (P.op p) (P.one p) x).2.2 j) := by
  have w2 : zw_ok (0, S, N) := zw_ok_ag xo eS (fun j j0 j1 => eN j j0 (by omega))
  have f := zc_ap_f (o := P.op p) (a := P.one p) (x := (0, S, N)) rfl w2 ho ha
  have g : zt_ag (0, S, N) x := ⟨x0.symm, eS, fun j j0 (j1 : j < S + 8) => eN j j0 (by omega)⟩
  have k := zs_ap_ag (o := P.op p) (a := P.one p) g w2.2.1 ho
  refine ⟨d.1.trans (f.1.trans k.1), fun z => ?_⟩
  have e0 : (zc_ap (P.op p) (P.one p) (0, S, N)).1 = 0 := d.1.symm.trans z
  have t := (d.ag.tr (f.2 e0)).tr k
  exact ⟨t.2.1, fun j j0 j1 => t.2.2 j j0 (by rw [t.2.1]; omega)⟩
/-- a State that holds what a frame says -/
def zc_st4 (S : Int) (N : Int → Int) (F : zF) (f : Int) : Prop := S = F.st f ∧ ∀ j, 0 ≤ j → j < 8 + F.st f → N j = F.kf f j
theorem zc_Fr_rd {h : zx_H} {F : zF} {f S : Int} {N : Int → Int} (hF : zc_Fr h F) (oF : F.ok) (f0 : 0 ≤ f) (f1 : f < F.n) (t : (0 ≤ zv_a h 13 f → zv_a h 13 f ≤ 6 → S = zv_a h 13 f) ∧ ∀ j, 0 ≤ j → j < 14 → N j = zv_a h 12 (14 * f + j)) : zc_st4 S N F f := by
  have a := hF.2 f f0 f1
  have b := (oF.2.2 f f0 f1).2.2.1
  have c := a.2.2.1
  exact ⟨(t.1 (by omega) (by omega)).trans c, fun j j0 j1 => (t.2 j j0 (by omega)).trans (a.2.2.2 j j0 j1)⟩
theorem zs_lg_st {N M : Int → Int} {S : Int} {x : zT} {F : zF} {f : Int} (xs : 0 ≤ x.2.1) (fs : 0 ≤ F.st f) (xN : ∀ j, 0 ≤ j → j < 8 + x.2.1 → N j = x.2.2 j) (m : zc_st4 S M F f) : zs_lg N M ↔ zs_lg x.2.2 (F.kf f) :=
  ⟨fun a j j0 j1 => by rw [← xN j j0 (by omega), ← m.2 j j0 (by omega)]; exact a j j0 j1, fun a j j0 j1 => by rw [xN j j0 (by omega), m.2 j j0 (by omega)]; exact a j j0 j1⟩
theorem zs_gg_st {S S1 : Int} {N M : Int → Int} {x : zT} {F : zF} {f : Int} (xs : 0 ≤ x.2.1) (fs : 0 ≤ F.st f) (xS : S = x.2.1) (xN : ∀ j, 0 ≤ j → j < 8 + x.2.1 → N j = x.2.2 j) (m : zc_st4 S1 M F f) : zs_gg S N S1 M ↔ zs_gx x F f := by
  unfold zs_gx zs_gg
  rw [zs_lg_st xs fs xN m, xS, m.1]
  refine ⟨fun a => ⟨a.1, a.2.1, fun j j0 j1 => ?_⟩, fun a => ⟨a.1, a.2.1, fun j j0 j1 => ?_⟩⟩
  · have e := a.1
    rw [← xN (8 + j) (by omega) (by omega), ← m.2 (8 + j) (by omega) (by omega)]; exact a.2.2 j j0 j1
  · have e := a.1
    rw [xN (8 + j) (by omega) (by omega), m.2 (8 + j) (by omega) (by omega)]; exact a.2.2 j j0 j1
theorem zc_wh {S : Int} {N : Int → Int} {F : zF} {f : Int} (m : zc_st4 S N F f) (s0 : 0 ≤ F.st f) : (zw_loc 0 8 N ∧ zw_loc 8 (8 + S) N) ↔ F.wh f := by
  have e := m.1
  subst e
  exact ⟨fun a => ⟨zw_cg a.1 (fun j j0 j1 => (m.2 j j0 (by omega)).symm), zw_cg a.2 (fun j j0 j1 => (m.2 j (by omega) j1).symm)⟩, fun a => ⟨zw_cg a.1 (fun j j0 j1 => m.2 j j0 (by omega)), zw_cg a.2 (fun j j0 j1 => m.2 j (by omega) j1)⟩⟩
/-- what entering a place tells -/
def zc_en (F : zF) (p c e : Int) (x : zT) (S S' : Int) (N N' : Int → Int) : Prop := (zs_fa F p = -1 ∧ e = c ∧ S' = S ∧ ∀ j, N' j = N j) ∨ (¬ zs_fa F p = -1 ∧ (0 ≤ zs_fa F p ∧ zs_fa F p < F.n) ∧ ((e = 1 ∧ (c = 1 → zs_gx x F (zs_fa F p)) ∧ zc_st4 S' N' F (zs_fa F p)) ∨ (e = 0 ∧ c = 1 ∧ ¬ zs_gx x F (zs_fa F p))))
theorem zc_ent {F : zF} {p c e S S' : Int} {N N' : Int → Int} {x : zT} {came : Prop} (cm : c = 1 ↔ came) (oF : F.ok) (wa : ∀ g, 0 ≤ g → g < F.n → F.wh g) (x0 : x.1 = 0) (xo : zw_ok x) (xk : zk_in x.2.1 x.2.2) (xS : S = x.2.1) (xN : ∀ j, 0 ≤ j → j < 8 + x.2.1 → N j = x.2.2 j) (E : zc_en F p c e x S S' N N') (e1 : ¬ e = 0) : (¬ zs_fa F p = -1 → came → zs_gx x F (zs_fa F p)) ∧ (zs_in1 F p x).1 = 0 ∧ zw_ok (zs_in1 F p x) ∧ zk_in (zs_in1 F p x).2.1 (zs_in1 F p x).2.2 ∧ S' = (zs_in1 F p x).2.1 ∧ ∀ j, 0 ≤ j → j < 8 + (zs_in1 F p x).2.1 → N' j = (zs_in1 F p x).2.2 j := by
  unfold zs_in1
  rcases E with ⟨a, b, c', d⟩ | ⟨a, a2, b⟩
  · rw [if_pos a]
    exact ⟨fun z => absurd a z, x0, xo, xk, c'.trans xS, fun j j0 j1 => (d j).trans (xN j j0 j1)⟩
  · rw [if_neg a]
    rcases b with ⟨_, b2, b3⟩ | ⟨b1, _⟩
    · have o := oF.2.2 _ a2.1 a2.2
      exact ⟨fun _ z => b2 (cm.2 z), rfl, ⟨wa _ a2.1 a2.2, o.2.2.1⟩, o.2.2.2.1, b3.1, b3.2⟩
    · exact absurd b1 e1
theorem zc_enf {F : zF} {p c e S S' : Int} {N N' : Int → Int} {x : zT} {came : Prop} (cm : c = 1 ↔ came) (E : zc_en F p c e x S S' N N') (e0 : e = 0) (c0 : zs_fa F p = -1 → c = 1) : ¬ (¬ zs_fa F p = -1 → came → zs_gx x F (zs_fa F p)) := by
  rcases E with ⟨a, b, _⟩ | ⟨a, _, b⟩
  · have := c0 a; omega
  · rcases b with ⟨b1, _⟩ | ⟨_, b2, b3⟩
    · omega
    · exact fun z => b3 (z a (cm.1 b2))
/-- an entry's place among the kinds -/
def zF.co (F : zF) (f i : Int) : Int := if i < F.lo f then i else 8 + i - F.lo f
def zF.plant (F : zF) (f i k : Int) : zF := (F.n, F.pl, F.lo, F.st, fun g j => if g = f ∧ j = F.co f i then k else F.kf g j)
theorem zF.ok.plant {F : zF} {f i k : Int} (h : F.ok) (f0 : 0 ≤ f) (f1 : f < F.n) (i0 : 0 ≤ i) (i1 : i < F.lo f + F.st f) (k0 : 0 ≤ k ∧ k ≤ 8) : (F.plant f i k).ok := by
  refine ⟨h.1, h.2.1, fun g g0 g1 => ?_⟩
  have a := h.2.2 g g0 g1
  have b := h.2.2 f f0 f1
  refine ⟨a.1, a.2.1, a.2.2.1, fun j j0 j1 => ?_, fun j j0 j1 => ?_⟩
  · show 0 ≤ (if g = f ∧ j = F.co f i then k else F.kf g j) ∧ (if g = f ∧ j = F.co f i then k else F.kf g j) ≤ 8
    by_cases c : g = f ∧ j = F.co f i
    · rw [if_pos c]; exact k0
    · rw [if_neg c]; exact a.2.2.2.1 j j0 j1
  · show (if g = f ∧ j = F.co f i then k else F.kf g j) = 0
    rw [if_neg]
    · exact a.2.2.2.2 j j0 j1
    · rintro ⟨rfl, e⟩
      have j2 : F.lo g ≤ j := j0
      unfold zF.co at e
      split at e <;> omega
theorem zr_Fr_pl {h h' : zx_H} {F : zF} {f i k : Int} (a : zr_Fr h F) (o : F.ok) (f0 : 0 ≤ f) (f1 : f < F.n) (i0 : 0 ≤ i) (i1 : i < F.lo f + F.st f) (e1 : zv_i h' 19 = zv_i h 19) (e2 : zv_a h' 57 = zv_a h 57) (e3 : zv_a h' 58 = zv_a h 58) (e4 : zv_a h' 59 = zv_a h 59) (e5 : ∀ q, 0 ≤ q → zv_a h' 60 q = if q = 14 * f + i then k else zv_a h 60 q) : zr_Fr h' (F.plant f i k) := by
  unfold zr_Fr
  rw [e1, e2, e3, e4]
  have bf := (o.2.2 f f0 f1).2
  refine ⟨a.1, fun g g0 g1 => ?_⟩
  have b := a.2 g g0 g1
  have og := (o.2.2 g g0 g1).2
  refine ⟨b.1, b.2.1, b.2.2.1, fun j j0 j1 => ?_, fun j j0 j1 => ?_⟩
  · have j2 : j < F.lo g := j1
    show zv_a h' 60 (14 * g + j) = if g = f ∧ j = F.co f i then k else F.kf g j
    rw [e5 _ (by omega)]
    by_cases c : g = f ∧ j = F.co f i
    · obtain ⟨c1, c2⟩ := c
      subst c1
      have q : 14 * g + j = 14 * g + i := by
        have c3 := c2
        unfold zF.co at c3
        split at c3 <;> omega
      rw [if_pos q, if_pos ⟨rfl, c2⟩]
    · rw [if_neg c, if_neg]
      · exact b.2.2.2.1 j j0 j2
      · intro z
        have d : g = f := by omega
        refine c ⟨d, ?_⟩
        subst d
        unfold zF.co
        rw [if_pos (by omega)]
        omega
  · have j2 : j < F.st g := j1
    show zv_a h' 60 (14 * g + F.lo g + j) = if g = f ∧ 8 + j = F.co f i then k else F.kf g (8 + j)
    rw [e5 _ (by omega)]
    by_cases c : g = f ∧ 8 + j = F.co f i
    · obtain ⟨c1, c2⟩ := c
      subst c1
      have q : 14 * g + F.lo g + j = 14 * g + i := by
        have c3 := c2
        unfold zF.co at c3
        split at c3 <;> omega
      rw [if_pos q, if_pos ⟨rfl, c2⟩]
    · rw [if_neg c, if_neg]
      · exact b.2.2.2.2 j j0 j2
      · intro z
        have d : g = f := by omega
        refine c ⟨d, ?_⟩
        subst d
        unfold zF.co
        rw [if_neg (by omega)]
        omega
theorem zc_Fr_pl {h h' : zx_H} {F : zF} {f i k : Int} (a : zc_Fr h F) (o : F.ok) (f0 : 0 ≤ f) (f1 : f < F.n) (i0 : 0 ≤ i) (i1 : i < F.lo f + F.st f) (e1 : zv_f h' 10 3 = zv_f h 10 3) (e2 : zv_a h' 14 = zv_a h 14) (e3 : zv_a h' 15 = zv_a h 15) (e4 : zv_a h' 13 = zv_a h 13) (e5 : ∀ q, 0 ≤ q → zv_a h' 12 q = if q = 14 * f + F.co f i then k else zv_a h 12 q) : zc_Fr h' (F.plant f i k) := by
  unfold zc_Fr
  rw [e1, e2, e3, e4]
  have bf := (o.2.2 f f0 f1).2
  have cr : 0 ≤ F.co f i ∧ F.co f i < 14 := by unfold zF.co; split <;> omega
  refine ⟨a.1, fun g g0 g1 => ?_⟩
  have b := a.2 g g0 g1
  have og := (o.2.2 g g0 g1).2
  refine ⟨b.1, b.2.1, b.2.2.1, fun j j0 j1 => ?_⟩
  have j2 : j < 8 + F.st g := j1
  show zv_a h' 12 (14 * g + j) = if g = f ∧ j = F.co f i then k else F.kf g j
  rw [e5 _ (by omega)]
  by_cases c : g = f ∧ j = F.co f i
  · rw [if_pos c, if_pos (by rw [c.1, c.2])]
  · rw [if_neg c, if_neg (fun z => c ⟨by omega, by omega⟩)]
    exact b.2.2.2 j j0 j2
theorem zs_lk_pl {P : zP} {s : zS} {F : zF} {f i k : Int} (h : zs_lk P s F) : zs_lk P s (F.plant f i k) := fun p p0 p1 r a => h p p0 p1 r (by rw [← a]; exact zs_fa_cg rfl (fun _ _ _ => rfl))
