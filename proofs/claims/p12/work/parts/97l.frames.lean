/-! ===== 90a: frames, as pure functions ===== -/
/-- used locals -/
def zs_ul (row : Int → Int) : Nat → Int
  | 0 => 0
  | n + 1 => if row n = 0 then zs_ul row n else n + 1
theorem zs_ul_r {row : Int → Int} : ∀ n : Nat, 0 ≤ zs_ul row n ∧ zs_ul row n ≤ n
  | 0 => ⟨Int.le_refl _, Int.le_refl _⟩
  | n + 1 => by
    have a := zs_ul_r (row := row) n
    unfold zs_ul
    split <;> omega
theorem zs_ul_z {row : Int → Int} : ∀ (n : Nat) (j : Int), zs_ul row n ≤ j → j < n → row j = 0
  | 0, j, _, h => by have := zs_ul_r (row := row) 0; omega
  | n + 1, j, h1, h2 => by
    unfold zs_ul at h1
    split at h1
    · next c =>
      by_cases e : j = (n : Int)
      · rw [e]; exact c
      · exact zs_ul_z n j h1 (by omega)
    · omega
/-- it is found so -/
theorem zs_ul_u {row : Int → Int} {u : Int} : ∀ n : Nat, 0 ≤ u → u ≤ n → (∀ j, u ≤ j → j < n → row j = 0) → (1 ≤ u → ¬ row (u - 1) = 0) → zs_ul row n = u
  | 0, h0, h1, _, _ => by unfold zs_ul; omega
  | n + 1, h0, h1, h2, h3 => by
    unfold zs_ul
    by_cases c : u ≤ (n : Int)
    · rw [if_pos (h2 n c (by omega))]
      exact zs_ul_u n h0 c (fun j j0 j1 => h2 j j0 (by omega)) h3
    · have e : u = (n : Int) + 1 := by omega
      rw [if_neg (by have := h3 (by omega); rw [e, show (n : Int) + 1 - 1 = n by omega] at this; exact this)]
      omega
theorem zs_ul_cg {row row' : Int → Int} : ∀ n : Nat, (∀ j, 0 ≤ j → j < (n : Int) → row j = row' j) → zs_ul row n = zs_ul row' n
  | 0, _ => rfl
  | n + 1, h => by
    unfold zs_ul
    rw [h n (by omega) (by omega), zs_ul_cg n (fun j j0 j1 => h j j0 (by omega))]
/-- frames: how many, places, locals, stack, kinds -/
abbrev zF : Type := Int × (Int → Int) × (Int → Int) × (Int → Int) × (Int → Int → Int)
def zF.n (F : zF) : Int := F.1
def zF.pl (F : zF) : Int → Int := F.2.1
def zF.lo (F : zF) : Int → Int := F.2.2.1
def zF.st (F : zF) : Int → Int := F.2.2.2.1
def zF.kf (F : zF) : Int → Int → Int := F.2.2.2.2
def zF.add (F : zF) (p S : Int) (K : Int → Int) : zF := (F.n + 1, fun f => if f = F.n then p else F.pl f, fun f => if f = F.n then zs_ul K 8 else F.lo f, fun f => if f = F.n then S else F.st f, fun f => if f = F.n then K else F.kf f)
noncomputable def zs_fr (P : zP) (s : zS) : Nat → zF
  | 0 => (0, fun _ => 0, fun _ => 0, fun _ => 0, fun _ _ => 0)
  | n + 1 => zi (s.R n ∧ zs_isf P s n) ((zs_fr P s n).add n (s.S n) (s.K n)) (zs_fr P s n)
theorem zs_fr_s {P : zP} {s : zS} {p : Int} (p0 : 0 ≤ p) : zs_fr P s (p + 1).toNat = zi (s.R p ∧ zs_isf P s p) ((zs_fr P s p.toNat).add p (s.S p) (s.K p)) (zs_fr P s p.toNat) := by
  obtain ⟨n, hn⟩ : ∃ n : Nat, p.toNat = n := ⟨_, rfl⟩
  have e : (p + 1).toNat = n + 1 := by omega
  have e2 : p = (n : Int) := by omega
  rw [e, hn]
  show zi (s.R n ∧ zs_isf P s n) _ _ = _
  rw [← e2]
theorem zs_fr_n {P : zP} {s : zS} : ∀ n : Nat, (zs_fr P s n).n = zs_fc P s n
  | 0 => rfl
  | n + 1 => by
    show (zi (s.R n ∧ zs_isf P s n) _ _ : zF).n = zs_fc P s n + zi (s.R n ∧ zs_isf P s n) 1 0
    by_cases c : s.R n ∧ zs_isf P s n
    · rw [zi_t c, zi_t c, ← zs_fr_n n]; rfl
    · rw [zi_f c, zi_f c, ← zs_fr_n n]; omega
/-- what holds of frames -/
def zF.ok (F : zF) : Prop := 0 ≤ F.n ∧ F.n ≤ 60 ∧ ∀ f, 0 ≤ f → f < F.n → (0 ≤ F.pl f ∧ F.pl f < 60) ∧ (0 ≤ F.lo f ∧ F.lo f ≤ 8) ∧ (0 ≤ F.st f ∧ F.st f ≤ 6) ∧ zk_in (F.st f) (F.kf f) ∧ ∀ j, F.lo f ≤ j → j < 8 → F.kf f j = 0
/-- as the reference holds them: rows of places, locals, stack, kinds (locals, then the stack) -/
def zr_f4 (n : Int) (A B C D : Int → Int) (F : zF) : Prop := n = F.n ∧ ∀ f, 0 ≤ f → f < F.n → A f = F.pl f ∧ B f = F.lo f ∧ C f = F.st f ∧ (∀ j, 0 ≤ j → j < F.lo f → D (14 * f + j) = F.kf f j) ∧ ∀ j, 0 ≤ j → j < F.st f → D (14 * f + F.lo f + j) = F.kf f (8 + j)
/-- as the class holds them -/
def zc_f4 (n : Int) (A B C D : Int → Int) (F : zF) : Prop := n = F.n ∧ ∀ f, 0 ≤ f → f < F.n → A f = F.pl f ∧ B f = F.lo f ∧ C f = F.st f ∧ ∀ j, 0 ≤ j → j < 8 + F.st f → D (14 * f + j) = F.kf f j
theorem zr_f4_add {n n' p S : Int} {A B C D A' B' C' D' K : Int → Int} {F : zF} (h : zr_f4 n A B C D F) (o : F.ok) (s0 : 0 ≤ S) (s6 : S ≤ 6) (en : n' = n + 1) (ea : ∀ f, 0 ≤ f → A' f = if f = n then p else A f) (eb : ∀ f, 0 ≤ f → B' f = if f = n then zs_ul K 8 else B f) (ec : ∀ f, 0 ≤ f → C' f = if f = n then S else C f) (d1 : ∀ j, 0 ≤ j → j < zs_ul K 8 → D' (14 * n + j) = K j) (d2 : ∀ j, 0 ≤ j → j < S → D' (14 * n + zs_ul K 8 + j) = K (8 + j)) (d3 : ∀ q, 0 ≤ q → q < 14 * n → D' q = D q) : zr_f4 n' A' B' C' D' (F.add p S K) := by
  have e := h.1
  subst e
  refine ⟨en, fun f f0 (f1 : f < F.n + 1) => ?_⟩
  show A' f = (if f = F.n then p else F.pl f) ∧ B' f = (if f = F.n then zs_ul K 8 else F.lo f) ∧ C' f = (if f = F.n then S else F.st f) ∧ (∀ j, 0 ≤ j → j < (if f = F.n then zs_ul K 8 else F.lo f) → D' (14 * f + j) = (if f = F.n then K else F.kf f) j) ∧ ∀ j, 0 ≤ j → j < (if f = F.n then S else F.st f) → D' (14 * f + (if f = F.n then zs_ul K 8 else F.lo f) + j) = (if f = F.n then K else F.kf f) (8 + j)
  rw [ea f f0, eb f f0, ec f f0]
  by_cases c : f = F.n
  · subst c
    simp only [if_true]
    exact ⟨trivial, trivial, trivial, d1, d2⟩
  · have g := h.2 f f0 (by omega)
    have q := o.2.2 f f0 (by omega)
    simp only [c, if_false]
    refine ⟨g.1, g.2.1, g.2.2.1, fun j j0 j1 => ?_, fun j j0 j1 => ?_⟩
    · rw [d3 _ (by omega) (by omega)]; exact g.2.2.2.1 j j0 j1
    · rw [d3 _ (by omega) (by omega)]; exact g.2.2.2.2 j j0 j1
theorem zc_f4_add {n n' p S : Int} {A B C D A' B' C' D' K : Int → Int} {F : zF} (h : zc_f4 n A B C D F) (o : F.ok) (s0 : 0 ≤ S) (s6 : S ≤ 6) (en : n' = n + 1) (ea : ∀ f, 0 ≤ f → A' f = if f = n then p else A f) (eb : ∀ f, 0 ≤ f → B' f = if f = n then zs_ul K 8 else B f) (ec : ∀ f, 0 ≤ f → C' f = if f = n then S else C f) (d1 : ∀ j, 0 ≤ j → j < 8 + S → D' (14 * n + j) = K j) (d3 : ∀ q, 0 ≤ q → q < 14 * n → D' q = D q) : zc_f4 n' A' B' C' D' (F.add p S K) := by
  have e := h.1
  subst e
  refine ⟨en, fun f f0 (f1 : f < F.n + 1) => ?_⟩
  show A' f = (if f = F.n then p else F.pl f) ∧ B' f = (if f = F.n then zs_ul K 8 else F.lo f) ∧ C' f = (if f = F.n then S else F.st f) ∧ ∀ j, 0 ≤ j → j < 8 + (if f = F.n then S else F.st f) → D' (14 * f + j) = (if f = F.n then K else F.kf f) j
  rw [ea f f0, eb f f0, ec f f0]
  by_cases c : f = F.n
  · subst c
    simp only [if_true]
    exact ⟨trivial, trivial, trivial, d1⟩
  · have g := h.2 f f0 (by omega)
    have q := o.2.2 f f0 (by omega)
    simp only [c, if_false]
    refine ⟨g.1, g.2.1, g.2.2.1, fun j j0 j1 => ?_⟩
    rw [d3 _ (by omega) (by omega)]; exact g.2.2.2 j j0 j1
theorem zF.ok.add {F : zF} {p S : Int} {K : Int → Int} (h : F.ok) (f9 : F.n ≤ 59) (p0 : 0 ≤ p) (p1 : p < 60) (s0 : 0 ≤ S) (s6 : S ≤ 6) (k : zk_in S K) : (F.add p S K).ok := by
  refine ⟨by show 0 ≤ F.n + 1; have := h.1; omega, by show F.n + 1 ≤ 60; omega, fun f f0 (f1 : f < F.n + 1) => ?_⟩
  show (0 ≤ (if f = F.n then p else F.pl f) ∧ (if f = F.n then p else F.pl f) < 60) ∧ (0 ≤ (if f = F.n then zs_ul K 8 else F.lo f) ∧ (if f = F.n then zs_ul K 8 else F.lo f) ≤ 8) ∧ (0 ≤ (if f = F.n then S else F.st f) ∧ (if f = F.n then S else F.st f) ≤ 6) ∧ zk_in (if f = F.n then S else F.st f) (if f = F.n then K else F.kf f) ∧ ∀ j, (if f = F.n then zs_ul K 8 else F.lo f) ≤ j → j < 8 → (if f = F.n then K else F.kf f) j = 0
  by_cases c : f = F.n
  · simp only [c, if_true]
    have u := zs_ul_r (row := K) 8
    exact ⟨⟨p0, p1⟩, ⟨u.1, u.2⟩, ⟨s0, s6⟩, k, fun j j0 j1 => zs_ul_z 8 j j0 j1⟩
  · simp only [c, if_false]
    exact h.2.2 f f0 (by omega)
theorem zs_fr_ok {P : zP} {s : zS} (o : zs_ok P s) (nn : zs_nn s) (n60 : P.n ≤ 60) : ∀ n : Nat, (n : Int) ≤ 60 → (zs_fr P s n).ok ∧ (zs_fr P s n).n ≤ n
  | 0, _ => ⟨⟨by show (0 : Int) ≤ 0; omega, by show (0 : Int) ≤ 60; omega, fun f f0 (f1 : f < 0) => absurd f1 (by omega)⟩, by show (0 : Int) ≤ 0; omega⟩
  | n + 1, hn => by
    have a := zs_fr_ok o nn n60 n (by omega)
    show (zi (s.R n ∧ zs_isf P s n) _ _ : zF).ok ∧ (zi (s.R n ∧ zs_isf P s n) _ _ : zF).n ≤ _
    by_cases c : s.R n ∧ zs_isf P s n
    · rw [zi_t c]
      have w := (o.1 n c.1).2
      have i := o.2 n c.1
      dsimp only at w
      exact ⟨a.1.add (by omega) (by omega) (by omega) w.1 w.2 (nn n c.1), by show (zs_fr P s n).n + 1 ≤ _; have := a.2; omega⟩
    · rw [zi_f c]; exact ⟨a.1, by have := a.2; omega⟩
/-- the frames of a heap -/
def zr_Fr (h : zx_H) (F : zF) : Prop := zr_f4 (zv_i h 19) (zv_a h 57) (zv_a h 58) (zv_a h 59) (zv_a h 60) F
def zc_Fr (h : zx_H) (F : zF) : Prop := zc_f4 (zv_f h 10 3) (zv_a h 14) (zv_a h 15) (zv_a h 13) (zv_a h 12) F
theorem zr_nn {h : zx_H} {s : zS} {P : zP} (hI : zb_I zc_H h) (o : zs_ok P s) (n60 : P.n ≤ 60) (a : zr_A h s) : zs_nn s := fun p r j j0 j1 => by
  have b := (a.2.1 p r).2 j j0 j1
  have c := zv_ra hI (a := 55) rfl rfl (14 * p + j)
  omega
theorem zr_Fr_0 {h : zx_H} {P : zP} {s : zS} (e : zv_i h 19 = 0) : zr_Fr h (zs_fr P s 0) := ⟨e, fun f f0 (f1 : f < 0) => absurd f1 (by omega)⟩
theorem zr_Fr_add {h h' : zx_H} {F : zF} {p : Int} {s : zS} (fr : zr_Fr h F) (o : F.ok) (a : zr_A h s) (r : s.R p) (w : 0 ≤ s.S p ∧ s.S p ≤ 6) (k : zv_i h' 19 = zv_i h 19 + 1 ∧ (∀ f, 0 ≤ f → zv_a h' 57 f = if f = zv_i h 19 then p else zv_a h 57 f) ∧ (∀ f, 0 ≤ f → zv_a h' 58 f = if f = zv_i h 19 then zs_ul (fun j => zv_a h 55 (14 * p + j)) 8 else zv_a h 58 f) ∧ (∀ f, 0 ≤ f → zv_a h' 59 f = if f = zv_i h 19 then zv_a h 56 p else zv_a h 59 f) ∧ (∀ j, 0 ≤ j → j < zs_ul (fun j => zv_a h 55 (14 * p + j)) 8 → zv_a h' 60 (14 * zv_i h 19 + j) = zv_a h 55 (14 * p + j)) ∧ (∀ j, 0 ≤ j → j < zv_a h 56 p → zv_a h' 60 (14 * zv_i h 19 + zs_ul (fun j => zv_a h 55 (14 * p + j)) 8 + j) = zv_a h 55 (14 * p + (8 + j))) ∧ (∀ q, 0 ≤ q → q < 14 * zv_i h 19 → zv_a h' 60 q = zv_a h 60 q)) : zr_Fr h' (F.add p (s.S p) (s.K p)) := by
  have b := a.2.1 p r
  have u : zs_ul (fun j => zv_a h 55 (14 * p + j)) 8 = zs_ul (s.K p) 8 := zs_ul_cg 8 (fun j j0 j1 => b.2 j j0 (by have j2 : j < 8 := j1; omega))
  have ur := zs_ul_r (row := s.K p) 8
  rw [u, b.1] at k
  obtain ⟨k1, k2, k3, k4, k5, k6, k7⟩ := k
  refine zr_f4_add fr o w.1 w.2 k1 k2 k3 k4 (fun j j0 j1 => ?_) (fun j j0 j1 => ?_) k7
  · rw [k5 j j0 j1]; exact b.2 j j0 (by omega)
  · rw [k6 j j0 j1]; exact b.2 (8 + j) (by omega) (by omega)
theorem zc_Fr_0 {h : zx_H} {P : zP} {s : zS} (e : zv_f h 10 3 = 0) : zc_Fr h (zs_fr P s 0) := ⟨e, fun f f0 (f1 : f < 0) => absurd f1 (by omega)⟩
theorem zc_Fr_add {h h1 h' : zx_H} {F : zF} {p : Int} {s : zS} (fr : zc_Fr h F) (w1 : zb_W [(20, 1), (21, 0)] h h1) (o : F.ok) (a : zc_A h s) (r : s.R p) (w : 0 ≤ s.S p ∧ s.S p ≤ 6) (t : (0 ≤ zv_a h 19 p → zv_a h 19 p ≤ 6 → zv_f h1 20 1 = zv_a h 19 p) ∧ ∀ j, 0 ≤ j → j < 14 → zv_a h1 21 j = zv_a h 18 (14 * p + j)) (k : zv_f h' 10 3 = zv_f h1 10 3 + 1 ∧ (∀ f, 0 ≤ f → zv_a h' 14 f = if f = zv_f h1 10 3 then p else zv_a h1 14 f) ∧ (∀ f, 0 ≤ f → zv_a h' 15 f = if f = zv_f h1 10 3 then zs_ul (zv_a h1 21) 8 else zv_a h1 15 f) ∧ (∀ f, 0 ≤ f → zv_a h' 13 f = if f = zv_f h1 10 3 then zv_f h1 20 1 else zv_a h1 13 f) ∧ (∀ q, 0 ≤ q → zv_a h' 12 q = if 14 * zv_f h1 10 3 ≤ q ∧ q < 14 * zv_f h1 10 3 + 14 then zv_a h1 21 (q - 14 * zv_f h1 10 3) else zv_a h1 12 q)) : zc_Fr h' (F.add p (s.S p) (s.K p)) := by
  have b := a.2.1 p r
  have s1 : zv_f h1 20 1 = s.S p := (t.1 (by omega) (by omega)).trans b.1
  have n1 : zv_f h1 10 3 = zv_f h 10 3 := zv_wf w1 rfl
  have row : ∀ j, 0 ≤ j → j < 8 + s.S p → zv_a h1 21 j = s.K p j := fun j j0 j1 => (t.2 j j0 (by omega)).trans (b.2 j j0 j1)
  have u : zs_ul (zv_a h1 21) 8 = zs_ul (s.K p) 8 := zs_ul_cg 8 (fun j j0 j1 => row j j0 (by have j2 : j < 8 := j1; omega))
  have q0 := o.1
  have n0 : zv_f h 10 3 = F.n := fr.1
  rw [u, s1, n1] at k
  obtain ⟨k1, k2, k3, k4, k5⟩ := k
  refine zc_f4_add fr o w.1 w.2 k1 (fun f f0 => by rw [k2 f f0, zv_wa w1 rfl]) (fun f f0 => by rw [k3 f f0, zv_wa w1 rfl]) (fun f f0 => by rw [k4 f f0, zv_wa w1 rfl]) (fun j j0 j1 => ?_) (fun q q0 q1 => by rw [k5 q q0, if_neg (by omega), zv_wa w1 rfl])
  rw [k5 _ (by omega), if_pos (by omega), show 14 * zv_f h 10 3 + j - 14 * zv_f h 10 3 = j by omega]
  exact row j j0 j1
def zc_fin (W : List (Nat × Nat)) : Bool := za_in W 10 3 || za_in W 14 0 || za_in W 15 0 || za_in W 13 0 || za_in W 12 0
theorem zc_Fr_w {W : List (Nat × Nat)} {h h' : zx_H} {F : zF} (w : zb_W W h h') (e : zc_fin W = false) (a : zc_Fr h F) : zc_Fr h' F := by
  unfold zc_fin at e
  simp only [Bool.or_eq_false_iff] at e
  obtain ⟨⟨⟨⟨e1, e2⟩, e3⟩, e4⟩, e5⟩ := e
  unfold zc_Fr
  rw [zv_wf w e1, show zv_a h' 14 = zv_a h 14 from funext (fun q => zv_wa w e2 q), show zv_a h' 15 = zv_a h 15 from funext (fun q => zv_wa w e3 q), show zv_a h' 13 = zv_a h 13 from funext (fun q => zv_wa w e4 q), show zv_a h' 12 = zv_a h 12 from funext (fun q => zv_wa w e5 q)]
  exact a
def zr_fin (W : List (Nat × Nat)) : Bool := za_in W 44 19 || za_in W 57 0 || za_in W 58 0 || za_in W 59 0 || za_in W 60 0
theorem zr_Fr_w {W : List (Nat × Nat)} {h h' : zx_H} {F : zF} (w : zb_W W h h') (e : zr_fin W = false) (a : zr_Fr h F) : zr_Fr h' F := by
  unfold zr_fin at e
  simp only [Bool.or_eq_false_iff] at e
  obtain ⟨⟨⟨⟨e1, e2⟩, e3⟩, e4⟩, e5⟩ := e
  unfold zr_Fr
  rw [zv_wi w e1, show zv_a h' 57 = zv_a h 57 from funext (fun q => zv_wa w e2 q), show zv_a h' 58 = zv_a h 58 from funext (fun q => zv_wa w e3 q), show zv_a h' 59 = zv_a h 59 from funext (fun q => zv_wa w e4 q), show zv_a h' 60 = zv_a h 60 from funext (fun q => zv_wa w e5 q)]
  exact a
