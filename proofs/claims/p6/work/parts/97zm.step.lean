/-! ===== 97zm: a run's step in the class, as a relation of states ===== -/
/-- (size, kinds, values), (rows, their lengths, cells), (place, ended, outcome, fault, code not taken, refusals) -/
abbrev zK : Type := (Int × (Int → Int) × (Int → Int)) × (Int × (Int → Int) × (Int → Int)) × (Int × Int × Int × Int × Int × Int)
def zK.S (u : zK) : Int := u.1.1
def zK.N (u : zK) : Int → Int := u.1.2.1
def zK.V (u : zK) : Int → Int := u.1.2.2
def zK.n (u : zK) : Int := u.2.1.1
def zK.L (u : zK) : Int → Int := u.2.1.2.1
def zK.C (u : zK) : Int → Int := u.2.1.2.2
def zK.p (u : zK) : Int := u.2.2.1
def zK.e (u : zK) : Int := u.2.2.2.1
def zK.o (u : zK) : Int := u.2.2.2.2.1
def zK.f (u : zK) : Int := u.2.2.2.2.2.1
def zK.c (u : zK) : Int := u.2.2.2.2.2.2.1
def zK.r (u : zK) : Int := u.2.2.2.2.2.2.2
def zk_of (h : zx_H) : zK := ((zv_f h 36 1, zv_a h 37, zv_b h 38), (zv_f h 41 2, zv_a h 42, zv_a h 43), (zv_f h 34 9, zv_f h 34 8, zv_f h 34 11, zv_f h 34 12, zv_fl h 34 13, zv_f h 34 14))
def zk_kd (u : zK) (d : Int) : Int := if d < u.S then u.N (u.S + 7 - d) else -1
def zk_tv (u : zK) (d : Int) : Int := u.V (u.S + 7 - d)
def zk_x (P : zP) (u : zK) : zT := zc_ap (P.op u.p) (P.one u.p) (0, u.S, u.N)
def zk_rw (u u' : zK) : Prop := u'.n = u.n ∧ zk_sm u.L u'.L ∧ zk_sm u.C u'.C
def zk_gt (P : zP) (u u' : zK) (q : Int) : Prop := ((0 ≤ q ∧ q < P.n) ∧ u'.p = q ∧ u'.f = u.f ∧ u'.e = u.e) ∨ (¬ (0 ≤ q ∧ q < P.n) ∧ u'.p = u.p ∧ u'.f = 7 ∧ u'.e = 1)
def zk_gf (P : zP) (u u' : zK) : Prop :=
  ((P.op u.p = 24 ∨ (P.op u.p = 25 ∧ zi32 (zk_tv u 0) = 0) ∨ (P.op u.p = 26 ∧ zk_kd u 0 = 4) ∨ (P.op u.p = 27 ∧ zi32 (zk_tv u 0) = 0)) → zk_gt P u u' (P.one u.p)) ∧
  ((P.op u.p = 27 ∧ zi32 (zk_tv u 0) = 1) → zk_gt P u u' (P.two u.p)) ∧
  (¬ (P.op u.p = 24 ∨ (P.op u.p = 25 ∧ zi32 (zk_tv u 0) = 0) ∨ (P.op u.p = 26 ∧ zk_kd u 0 = 4) ∨ (P.op u.p = 27 ∧ (zi32 (zk_tv u 0) = 0 ∨ zi32 (zk_tv u 0) = 1))) →
    ((u.p + 1 < P.n ∧ u'.p = u.p + 1 ∧ u'.f = u.f ∧ u'.e = u.e) ∨ (¬ u.p + 1 < P.n ∧ u'.p = u.p ∧ u'.f = 6 ∧ u'.e = 1)))
def zk_ra (P : zP) (u u' : zK) (k c : Int) : Prop := ∃ t, zk_tk P.hn P.fr P.to P.tk u.p k t ∧
  ((t = -1 ∧ u'.c = c ∧ u'.o = 1 ∧ u'.e = 1 ∧ u'.f = u.f ∧ u'.p = u.p) ∨
   (0 ≤ t ∧ u'.S = 1 ∧ zk_lc 8 (zk_x P u).2.2 u'.N k ∧ zk_lc 8 u.V u'.V c ∧ u'.o = u.o ∧ u'.c = u.c ∧ zk_gt P u u' (P.ha t)))
def zk_st (P : zP) (u u' : zK) : Prop :=
  (¬ (zk_x P u).1 = 0 ∧ u'.f = (zk_x P u).1 ∧ u'.e = 1 ∧ u'.p = u.p ∧ u'.o = u.o ∧ u'.c = u.c ∧ u'.r = u.r) ∨
  ((zk_x P u).1 = 0 ∧ ∃ r, zk_rf (P.op u.p) (P.one u.p) (zk_kd u) (zk_tv u) u.n u.L r ∧
    ((¬ r = 0 ∧ u'.r = u.r + 1 ∧ zk_rw u u' ∧ zk_ra P u u' 7 r) ∨
     (r = 0 ∧ u'.r = u.r ∧
      ((P.op u.p = 22 ∧ zk_rw u u' ∧ zk_ra P u u' (zk_kd u 0) (zk_tv u 0)) ∨
       (P.op u.p = 23 ∧ zk_rw u u' ∧ u'.S = (zk_x P u).2.1 ∧ zk_sm (zk_x P u).2.2 u'.N ∧ zk_sm u.V u'.V ∧ u'.o = 0 ∧ u'.e = 1 ∧ u'.f = u.f ∧ u'.c = u.c ∧ u'.p = u.p) ∨
       (¬ P.op u.p = 22 ∧ ¬ P.op u.p = 23 ∧ u'.S = (zk_x P u).2.1 ∧ u'.o = u.o ∧ u'.c = u.c ∧
        zk_wk (P.op u.p) (P.one u.p) (P.two u.p) (zk_x P u).2.1 u.n (zk_tv u) u.V u.L u.C u'.n u'.V u'.L u'.C ∧
        (¬ P.op u.p = 21 → zk_sm (zk_x P u).2.2 u'.N) ∧ (P.op u.p = 21 → zk_lc ((zk_x P u).2.1 + 7) (zk_x P u).2.2 u'.N (zk_kd u 0)) ∧
        zk_gf P u u')))))
theorem zk_rf_cg {o a : Int} {K T K' T' : Int → Int} {n : Int} {L : Int → Int} {e : Int} (g : ∀ q, 0 ≤ q → q < 3 → K q = K' q ∧ T q = T' q) (w : zk_rf o a K T n L e) : zk_rf o a K' T' n L e := by
  obtain ⟨k0, t0⟩ := g 0 (by decide) (by decide)
  obtain ⟨k1, t1⟩ := g 1 (by decide) (by decide)
  obtain ⟨k2, t2⟩ := g 2 (by decide) (by decide)
  unfold zk_rf at w ⊢
  rw [k0, k1, k2, t0, t1, t2] at w
  exact w
theorem zk_rk_cg {o S n : Int} {T T' V L C V' C' : Int → Int} (g : ∀ q, 0 ≤ q → q < 3 → T q = T' q) (w : zk_rk o S n T V L C V' C') : zk_rk o S n T' V L C V' C' := by
  have t0 := g 0 (by decide) (by decide)
  have t1 := g 1 (by decide) (by decide)
  have t2 := g 2 (by decide) (by decide)
  unfold zk_rk at w ⊢
  rw [t0, t1, t2] at w
  exact w
theorem zk_wk_cg {o a b S n : Int} {T T' V L C : Int → Int} {n' : Int} {V' L' C' : Int → Int} (g : ∀ q, 0 ≤ q → q < 3 → T q = T' q) (w : zk_wk o a b S n T V L C n' V' L' C') : zk_wk o a b S n T' V L C n' V' L' C' := by
  have t0 := g 0 (by decide) (by decide)
  obtain ⟨w1, w2, w3, w4, w5, w6, w7, w8, w9, w10⟩ := w
  refine ⟨w1, w2, ?_, w4, ?_, w6, w7, w8, w9, fun z => zk_rk_cg g (w10 z)⟩
  · rw [t0] at w3; exact w3
  · rw [t0] at w5; exact w5
section ZKI
variable {h h' : zx_H} {o a : Int}
theorem zk_st_f (ho : o = zv_a h 2 (zv_f h 34 9)) (ha : a = zv_a h 3 (zv_f h 34 9)) {e : Int} (x : e = (zc_ap o a (0, zv_f h 36 1, zv_a h 37)).1) (n : ¬ e = 0) (q1 : zv_f h' 34 12 = e) (q2 : zv_f h' 34 8 = 1) (q3 : zv_f h' 34 9 = zv_f h 34 9) (q4 : zv_f h' 34 11 = zv_f h 34 11) (q5 : zv_fl h' 34 13 = zv_fl h 34 13) (q6 : zv_f h' 34 14 = zv_f h 34 14) : zk_st (zc_Pg h) (zk_of h) (zk_of h') := by
  subst ho ha x
  exact Or.inl ⟨n, q1, q2, q3, q4, q5, q6⟩
theorem zk_rw_i {W : List (Nat × Nat)} (w : zb_W W h h') (e1 : za_in W 41 2 = false) (e2 : za_in W 42 0 = false) (e3 : za_in W 43 0 = false) : zk_rw (zk_of h) (zk_of h') := ⟨zv_wf w e1, fun j _ => zv_wa w e2 j, fun j _ => zv_wa w e3 j⟩
/-- what raise tells, at a heap whose kinds are those behind the op's -/
theorem zk_ra_i (ho : o = zv_a h 2 (zv_f h 34 9)) (ha : a = zv_a h 3 (zv_f h 34 9)) {Na : Int → Int} (xN : ∀ j, 0 ≤ j → Na j = (zc_ap o a (0, zv_f h 36 1, zv_a h 37)).2.2 j) {k c : Int}
    (r : ∃ t, zk_tk (zv_f h 1 8) (zv_a h 5) (zv_a h 6) (zv_a h 8) (zv_f h 34 9) k t ∧ ((t = -1 ∧ zv_fl h' 34 13 = c ∧ zv_f h' 34 11 = 1 ∧ zv_f h' 34 8 = 1 ∧ zv_f h' 34 12 = zv_f h 34 12 ∧ zv_f h' 34 9 = zv_f h 34 9) ∨ (0 ≤ t ∧ zv_f h' 36 1 = 1 ∧ zk_lc 8 Na (zv_a h' 37) k ∧ zk_lc 8 (zv_b h 38) (zv_b h' 38) c ∧ zv_f h' 34 11 = zv_f h 34 11 ∧ zv_fl h' 34 13 = zv_fl h 34 13 ∧ (((0 ≤ zv_a h 7 t ∧ zv_a h 7 t < zv_f h 1 3) ∧ zv_f h' 34 9 = zv_a h 7 t ∧ zv_f h' 34 12 = zv_f h 34 12 ∧ zv_f h' 34 8 = zv_f h 34 8) ∨ (¬ (0 ≤ zv_a h 7 t ∧ zv_a h 7 t < zv_f h 1 3) ∧ zv_f h' 34 9 = zv_f h 34 9 ∧ zv_f h' 34 12 = 7 ∧ zv_f h' 34 8 = 1))))) : zk_ra (zc_Pg h) (zk_of h) (zk_of h') k c := by
  subst ho ha
  obtain ⟨t, t1, t2⟩ := r
  refine ⟨t, t1, ?_⟩
  rcases t2 with y | ⟨y1, y2, y3, y4, y5, y6, y7⟩
  · exact Or.inl ⟨y.1, y.2.1, y.2.2.1, y.2.2.2.1, y.2.2.2.2.1, y.2.2.2.2.2⟩
  · exact Or.inr ⟨y1, y2, fun j j0 => by rw [show (zk_of h').N j = zv_a h' 37 j from rfl, y3 j j0]; by_cases z : j = 8; rw [if_pos z, if_pos z]; rw [if_neg z, if_neg z, xN j j0]; rfl, y4, y5, y6, y7⟩
end ZKI
