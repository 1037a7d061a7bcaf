/-! ===== 97zq: a run's step in the reference, as a relation of states ===== -/
def zf_th (n : Int) (L C : Int → Int) (c n' : Int) (L' C' : Int → Int) : Prop := n' = n + 1 ∧ zk_lc n L L' c ∧ ∀ j, 0 ≤ j → C' j = if 20 * n ≤ j ∧ j < 20 * n + 20 then 0 else C j
def zf_rs (n : Int) (L C : Int → Int) (n' : Int) (L' C' : Int → Int) : Prop := n' = n ∧ zk_sm L L' ∧ zk_sm C C'
/-- the machine's own refusal, 0 for none: t is the topmost place -/
def zf_rf (o a t : Int) (K V L : Int → Int) (e : Int) : Prop :=
  (o = 7 → (V t < 0 ∧ e = 3) ∨ (20 < V t ∧ e = 6) ∨ ((0 ≤ V t ∧ V t ≤ 20) ∧ e = 0)) ∧
  (o = 13 → (V t = 0 ∧ e = 5) ∨ (¬ V t = 0 ∧ e = 0)) ∧
  (o = 17 → (K (t - 1) = 4 ∧ e = 1) ∨ (¬ K (t - 1) = 4 ∧ (0 ≤ V t ∧ V t < L (zi32 (V (t - 1)))) ∧ e = 0) ∨ (¬ K (t - 1) = 4 ∧ ¬ (0 ≤ V t ∧ V t < L (zi32 (V (t - 1)))) ∧ e = 2)) ∧
  (o = 18 → (K (t - 2) = 4 ∧ e = 1) ∨ (¬ K (t - 2) = 4 ∧ (0 ≤ V (t - 1) ∧ V (t - 1) < L (zi32 (V (t - 2)))) ∧ e = 0) ∨ (¬ K (t - 2) = 4 ∧ ¬ (0 ≤ V (t - 1) ∧ V (t - 1) < L (zi32 (V (t - 2)))) ∧ e = 2)) ∧
  (o = 19 ∨ o = 20 ∨ o = 22 → (K t = 4 ∧ e = 1) ∨ (¬ K t = 4 ∧ e = 0)) ∧
  (o = 21 → (zc_g (K t) a ∧ e = 0) ∨ (¬ zc_g (K t) a ∧ e = 4)) ∧
  (¬ (o = 7 ∨ o = 13 ∨ (17 ≤ o ∧ o ≤ 22)) → e = 0)
/-- what an op does to values and things -/
def zf_wk (o a b t n : Int) (K V L C : Int → Int) (n' : Int) (V' L' C' : Int → Int) : Prop :=
  (o = 1 ∨ o = 2 → zk_lc (t + 1) V V' a) ∧
  (o = 3 → zk_lc (t + 1) V V' 0) ∧
  (o = 4 ∨ o = 5 → zf_th n L C 0 n' L' C' ∧ zk_lc (t + 1) V V' n) ∧
  (o = 6 → zf_th n L C a n' L' C' ∧ zk_lc (t + 1) V V' n) ∧
  (o = 7 → zf_th n L C (zi32 (V t)) n' L' C' ∧ zk_lc t V V' n) ∧
  (o = 8 → zk_lc (t + 1) V V' (V a)) ∧
  (o = 9 → zk_lc a V V' (if K t = 3 then V (t - 1) else V t)) ∧
  (o = 12 → zk_lc (t - 1) V V' (zi32 (zi64 (V (t - 1) + V t)))) ∧
  (o = 13 → zk_lc (t - 1) V V' (zi32 (Int.tdiv (V (t - 1)) (V t)))) ∧
  (o = 14 → zk_lc (t - 3) V V' (zi64 (V (t - 3) + V (t - 1)))) ∧
  (o = 15 → zk_lc (t - 1) V V' (zi32 (V (t - 1)))) ∧
  (o = 17 → zk_lc (t - 1) V V' (C (20 * zi32 (V (t - 1)) + zi32 (V t)))) ∧
  (o = 18 → zk_sm V V' ∧ zk_lc (20 * zi32 (V (t - 2)) + zi32 (V (t - 1))) C C' (zi32 (V t)) ∧ n' = n ∧ zk_sm L L') ∧
  (o = 19 ∨ o = 20 → zk_lc t V V' (L (zi32 (V t)))) ∧
  (o = 28 → zk_lc a V V' (zi32 (zi64 (V a + b)))) ∧
  (o = 0 ∨ o = 10 ∨ o = 11 ∨ o = 16 ∨ o = 21 ∨ (24 ≤ o ∧ o ≤ 27) → zk_sm V V') ∧
  (¬ (4 ≤ o ∧ o ≤ 7) ∧ ¬ o = 18 → zf_rs n L C n' L' C')
/-- a state: as the class's; p: the next place, o: the answer, c: the code that is told -/
def zf_x (P : zP) (v : zK) : zT := zs_ap (P.op v.p) (P.one v.p) (0, v.S, v.N)
def zf_gt (P : zP) (v v' : zK) (q : Int) : Prop := ((0 ≤ q ∧ q < P.n) ∧ v'.p = q ∧ v'.f = v.f ∧ v'.e = v.e ∧ v'.o = v.o) ∨ (¬ (0 ≤ q ∧ q < P.n) ∧ v'.f = 7 ∧ v'.e = 1 ∧ v'.o = -10 - v.p)
def zf_nx (P : zP) (v v' : zK) : Prop := (¬ v.p + 1 = P.n ∧ v'.p = v.p + 1 ∧ v'.f = v.f ∧ v'.e = v.e ∧ v'.o = v.o) ∨ (v.p + 1 = P.n ∧ v'.f = 6 ∧ v'.e = 1 ∧ v'.o = -10 - v.p)
def zf_gf (P : zP) (v v' : zK) : Prop :=
  ((P.op v.p = 24 ∨ (P.op v.p = 25 ∧ v.V (v.S + 7) = 0) ∨ (P.op v.p = 26 ∧ v.N (v.S + 7) = 4) ∨ (P.op v.p = 27 ∧ v.V (v.S + 7) = 0)) → zf_gt P v v' (P.one v.p)) ∧
  ((P.op v.p = 27 ∧ v.V (v.S + 7) = 1) → zf_gt P v v' (P.two v.p)) ∧
  (¬ (P.op v.p = 24 ∨ (P.op v.p = 25 ∧ v.V (v.S + 7) = 0) ∨ (P.op v.p = 26 ∧ v.N (v.S + 7) = 4) ∨ (P.op v.p = 27 ∧ (v.V (v.S + 7) = 0 ∨ v.V (v.S + 7) = 1))) → zf_nx P v v')
/-- a fault of kind k, thing w (its code among L1), goes to a handler -/
def zf_ra (P : zP) (v v' : zK) (k w c : Int) : Prop := ∃ t, zk_tk P.hn P.fr P.to P.tk v.p k t ∧
  ((t = -1 ∧ v'.c = c ∧ v'.o = 1 ∧ v'.e = 1 ∧ v'.f = v.f) ∨
   (0 ≤ t ∧ v'.S = 1 ∧ (∀ j, 0 ≤ j → j < 8 → v'.N j = (zf_x P v).2.2 j) ∧ v'.N 8 = k ∧ zk_lc 8 v.V v'.V w ∧ v'.c = v.c ∧ zf_gt P v v' (P.ha t)))
def zf_st (P : zP) (v v' : zK) : Prop :=
  (¬ (zf_x P v).1 = 0 ∧ v'.f = (zf_x P v).1 ∧ v'.e = 1 ∧ v'.o = -10 - v.p ∧ v'.c = v.c ∧ v'.r = v.r) ∨
  ((zf_x P v).1 = 0 ∧ ∃ r, zf_rf (P.op v.p) (P.one v.p) (v.S + 7) v.N v.V v.L r ∧
    ((¬ r = 0 ∧ v'.r = v.r + 1 ∧ zf_th v.n v.L v.C r v'.n v'.L v'.C ∧ zf_ra P v v' 7 v.n r) ∨
     (r = 0 ∧ v'.r = v.r ∧
      ((P.op v.p = 22 ∧ zf_rs v.n v.L v.C v'.n v'.L v'.C ∧ zf_ra P v v' (v.N (v.S + 7)) (zi32 (v.V (v.S + 7))) (v.L (zi32 (v.V (v.S + 7))))) ∨
       (P.op v.p = 23 ∧ zf_rs v.n v.L v.C v'.n v'.L v'.C ∧ v'.S = v.S ∧ zk_sm v.N v'.N ∧ zk_sm v.V v'.V ∧ v'.o = 0 ∧ v'.e = 1 ∧ v'.f = v.f ∧ v'.c = v.c) ∨
       (¬ P.op v.p = 22 ∧ ¬ P.op v.p = 23 ∧ v'.S = (zf_x P v).2.1 ∧ v'.c = v.c ∧
        zf_wk (P.op v.p) (P.one v.p) (P.two v.p) (v.S + 7) v.n v.N v.V v.L v.C v'.n v'.V v'.L v'.C ∧
        (¬ P.op v.p = 21 → zk_sm (zf_x P v).2.2 v'.N) ∧ (P.op v.p = 21 → zk_lc (v.S + 7) (zf_x P v).2.2 v'.N (v.N (v.S + 7))) ∧
        zf_gf P v v')))))
