/-! ===== 94b: the class's heap and the table; kinds and no others ===== -/
theorem zk_jn {a b : Int} (ha : 0 ≤ a ∧ a ≤ 8) (hb : 0 ≤ b ∧ b ≤ 8) : 0 ≤ zs_jn a b ∧ zs_jn a b ≤ 8 := by
  unfold zs_jn
  split
  · exact hb
  · split
    · exact ha
    · split <;> omega
def zk_T (x : zT) : Prop := zk_in x.2.1 x.2.2
theorem zk_le {S S' : Int} {N : Int → Int} (h : zk_in S N) (l : S' ≤ S) : zk_in S' N := fun j j0 j1 => h j j0 (by omega)
theorem zk_need {w : Int} {x : zT} (h : zk_T x) : zk_T (zs_need w x) := by
  unfold zs_need
  split
  · exact h
  · split
    · exact h
    · split
      · exact zk_le h (by dsimp only; split <;> omega)
      · exact h
theorem zk_push {k : Int} {x : zT} (h : zk_T x) (hk : 0 ≤ k ∧ k ≤ 8) : zk_T (zs_push k x) := by
  unfold zs_push
  split
  · exact h
  · split
    · exact h
    · intro j j0 j1
      dsimp only at j1 ⊢
      unfold zs_wd at j1
      split
      · exact hk
      · split
        · omega
        · exact h j j0 (by split at j1 <;> omega)
theorem zk_pop1 {x : zT} (h : zk_T x) : zk_T (zs_pop1 x) := by
  unfold zs_pop1
  split
  · exact h
  · split
    · exact h
    · exact zk_le h (by dsimp only; omega)
theorem zk_pop2 {x : zT} (h : zk_T x) : zk_T (zs_pop2 x) := by
  unfold zs_pop2
  split
  · exact h
  · split
    · exact zk_le h (by dsimp only; omega)
    · exact zk_pop1 (zk_le (S' := x.2.1 - 1) h (by omega))
theorem zk_load {a : Int} {x : zT} (s0 : 0 ≤ x.2.1) (h : zk_T x) : zk_T (zs_load a x) := by
  unfold zs_load
  split
  · exact h
  · split
    · exact h
    · exact zk_push h (h a (by omega) (by omega))
theorem zk_wh {N : Int → Int} {j : Int} (h : 0 ≤ N j ∧ N j ≤ 8) : 0 ≤ zs_wh 0 8 N j ∧ zs_wh 0 8 N j ≤ 8 := by
  unfold zs_wh
  split
  · exact h
  · split
    · split <;> omega
    · split
      · split <;> omega
      · exact h
theorem zk_store {a : Int} {x : zT} (s0 : 0 ≤ x.2.1) (h : zk_T x) : zk_T (zs_store a x) := by
  unfold zs_store
  split
  · exact h
  · next c =>
    have t := h (x.2.1 + 7) (by omega) (by omega)
    split
    · exact h
    · split
      · split
        · intro j j0 j1
          dsimp only at j1 ⊢
          refine zk_wh ?_
          split
          · omega
          · split
            · omega
            · exact h j j0 (by omega)
        · exact zk_le h (by dsimp only; omega)
      · split
        · intro j j0 j1
          dsimp only at j1 ⊢
          refine zk_wh ?_
          split
          · exact t
          · exact h j j0 (by omega)
        · exact zk_le h (by dsimp only; omega)
theorem zk_inc {a : Int} {x : zT} (h : zk_T x) : zk_T (zs_inc a x) := by
  unfold zs_inc
  split
  · exact h
  · split
    · exact h
    · exact h
theorem zk_ap {o a : Int} {x : zT} (ho : 0 ≤ o ∧ o ≤ 28) (s0 : 0 ≤ x.2.1) (h : zk_T x) (ha : o = 21 → 0 ≤ a ∧ a ≤ 8) : zk_T (zs_ap o a x) := by
  rcases zs_ops ho with e | e | e | e | e | e | e | e | e | e | e | e | e | e | e | e | e | e | e | e | e | e | e | e | e | e | e | e | e <;> subst e
  · rw [zs_ap_0]; exact h
  · rw [zs_ap_1]; exact zk_push h (by decide)
  · rw [zs_ap_2]; exact zk_push h (by decide)
  · rw [zs_ap_3]; exact zk_push h (by decide)
  · rw [zs_ap_4]; exact zk_push h (by decide)
  · rw [zs_ap_5]; exact zk_push h (by decide)
  · rw [zs_ap_6]; exact zk_push h (by decide)
  · rw [zs_ap_7]; exact zk_push (zk_need h) (by decide)
  · rw [zs_ap_8]; exact zk_load s0 h
  · rw [zs_ap_9]; exact zk_store s0 h
  · rw [zs_ap_10]; exact zk_pop1 h
  · rw [zs_ap_11]; exact zk_pop2 h
  · rw [zs_ap_12]; exact zk_push (zk_need (zk_need h)) (by decide)
  · rw [zs_ap_13]; exact zk_push (zk_need (zk_need h)) (by decide)
  · rw [zs_ap_14]; exact zk_push (zk_need (zk_need h)) (by decide)
  · rw [zs_ap_15]; exact zk_push (zk_need h) (by decide)
  · rw [zs_ap_16]; exact zk_push (zk_need h) (by decide)
  · rw [zs_ap_17]; exact zk_push (zk_need (zk_need h)) (by decide)
  · rw [zs_ap_18]; exact zk_need (zk_need (zk_need h))
  · rw [zs_ap_19]; exact zk_push (zk_need h) (by decide)
  · rw [zs_ap_20]; exact zk_push (zk_need h) (by decide)
  · rw [zs_ap_21]; exact zk_push (zk_need h) (ha rfl)
  · rw [zs_ap_22]; exact zk_need h
  · rw [zs_ap_23]; exact h
  · rw [zs_ap_24]; exact h
  · rw [zs_ap_25]; exact zk_need h
  · rw [zs_ap_26]; exact zk_need h
  · rw [zs_ap_27]; exact zk_need h
  · rw [zs_ap_28]; exact zk_inc h
/-- kinds of every reached place -/
def zs_nn (s : zS) : Prop := ∀ p, s.R p → zk_in (s.S p) (s.K p)
theorem zs_nn_join {P : zP} {s : zS} {q m : Int} {row : Int → Int} (h : zs_nn s) (hr : zk_in m row) : zs_nn (zs_join P s q row m).2 := by
  rcases zs_join_c (P := P) (s := s) (q := q) (m := m) (row := row) with ⟨_, e⟩ | ⟨_, _, e⟩ | ⟨_, _, _, e⟩ | ⟨_, _, e3, e⟩ <;> rw [e]
  · exact h
  · intro p hp
    show zk_in (if p = q then m else s.S p) (if p = q then row else s.K p)
    by_cases c : p = q
    · rw [if_pos c, if_pos c]; exact hr
    · rw [if_neg c, if_neg c]; exact h p (Or.resolve_left hp c)
  · exact h
  · intro p hp j j0 j1
    have a := h p hp j j0 j1
    show 0 ≤ (if p = q then zs_jn (s.K p j) (row j) else s.K p j) ∧ (if p = q then zs_jn (s.K p j) (row j) else s.K p j) ≤ 8
    by_cases c : p = q
    · rw [if_pos c]
      subst c
      exact zk_jn a (hr j j0 (by rw [← e3]; exact j1))
    · rw [if_neg c]; exact a
theorem zk_arm {s : zS} {p k : Int} (h : zk_in (s.S p) (s.K p)) (s0 : 0 ≤ s.S p) (hk : 0 ≤ k ∧ k ≤ 8) : zk_in 1 (zs_arm s p k) := fun j j0 j1 => by
  unfold zs_arm
  split
  · exact hk
  · exact h j j0 (by omega)
/-- numbers of kinds in the code -/
def zP.nn (P : zP) : Prop := (∀ p, 0 ≤ p → p < P.n → P.op p = 21 → 5 ≤ P.one p ∧ P.one p ≤ 8) ∧ (∀ t, 0 ≤ t → t < P.hn → 0 ≤ P.tk t ∧ P.tk t ≤ 8) ∧ (∀ j, 0 ≤ j → j < 8 → 0 ≤ zs_row P j ∧ zs_row P j ≤ 8)
theorem zs_nn_first {P : zP} (h : P.nn) : zs_nn (zs_first P) := fun p _ j j0 (j1 : j < 8 + 0) => h.2.2 j j0 (by omega)
theorem zs_nn_hs {P : zP} {p : Int} (hP : P.ok) (hQ : P.nn) : ∀ (n : Nat) (s : zS), (n : Int) ≤ P.hn → zs_ok P s → s.R p → zs_nn s → zs_nn (zs_hs P p n s).2
  | 0, s, _, _, _, h => h
  | n + 1, s, hn, o, r, h => by
    have k := hP.2.1 (P.hn - ((n : Int) + 1)) (by omega) (by omega)
    have k2 := hQ.2.1 (P.hn - ((n : Int) + 1)) (by omega) (by omega)
    have a := zs_ok_join (q := P.ha (P.hn - ((n : Int) + 1))) o (zw_arm (k := P.tk (P.hn - ((n : Int) + 1))) (o.1 p r) k)
    have b : (zs_join P s (P.ha (P.hn - ((n : Int) + 1))) (zs_arm s p (P.tk (P.hn - ((n : Int) + 1)))) 1).2.R p := zs_join_R r
    have c := zs_nn_join (P := P) (q := P.ha (P.hn - ((n : Int) + 1))) h (zk_arm (k := P.tk (P.hn - ((n : Int) + 1))) (h p r) (o.1 p r).2.1 k2)
    show zs_nn (if P.fr (P.hn - ((n : Int) + 1)) ≤ p ∧ p < P.to (P.hn - ((n : Int) + 1)) then _ else _ : Int × zS).2
    split
    · split
      · exact zs_nn_hs hP hQ n _ (by omega) a b c
      · exact c
    · exact zs_nn_hs hP hQ n s (by omega) o r h
theorem zs_x_k {P : zP} {p : Int} {s : zS} (hP : P.ok) (hQ : P.nn) (o : zs_ok P s) (r : s.R p) (h : zs_nn s) : zk_in (zs_x P p s).2.1 (zs_x P p s).2.2 := by
  have c := o.2 p r
  exact zk_ap (x := (0, s.S p, s.K p)) (hP.1 p c.1 c.2).1 (o.1 p r).2.1 (h p r) (fun z => by have := hQ.1 p c.1 c.2 z; omega)
theorem zs_nn_w {P : zP} {p : Int} {s : zS} (hP : P.ok) (hQ : P.nn) (o : zs_ok P s) (r : s.R p) (h : zs_nn s) : zs_nn (zs_w P p s).2 := by
  have x := zs_x_k hP hQ o r h
  have j : ∀ {t : zS} {q : Int}, zs_nn t → zs_nn (zs_join P t q (zs_x P p s).2.2 (zs_x P p s).2.1).2 := fun z => zs_nn_join z x
  unfold zs_w
  split
  · exact h
  · have a0 : zs_nn (zs_w0 P p (zs_x P p s) s).2 := by
      unfold zs_w0
      split
      · exact j h
      · exact h
    have a1 : zs_nn (zs_w1 P p (zs_x P p s) (zs_w0 P p (zs_x P p s) s)).2 := by
      unfold zs_w1
      split
      · exact j a0
      · exact a0
    unfold zs_w2
    split
    · exact a1
    · split
      · exact a1
      · exact j a1
theorem zs_nn_work {P : zP} {p : Int} {s : zS} (hP : P.ok) (hQ : P.nn) (hn : 0 ≤ P.hn) (o : zs_ok P s) (r : s.R p) (h : zs_nn s) : zs_nn (zs_work P p s).2 := by
  have a := zs_ok_hs hP P.hn.toNat s (by omega) o r
  have b := zs_nn_hs hP hQ P.hn.toNat s (by omega) o r h
  unfold zs_work
  split
  · exact b
  · exact zs_nn_w hP hQ a.1 a.2 b
theorem zs_nn_pass {P : zP} (hP : P.ok) (hQ : P.nn) (hn : 0 ≤ P.hn) : ∀ (n : Nat) (s : zS), zs_ok P s → zs_nn s → zs_nn (zs_pass P n s).2.2
  | 0, s, _, h => h
  | n + 1, s, o, h => by
    show zs_nn (zi (s.R (P.n - ((n : Int) + 1))) _ _ : Int × Int × zS).2.2
    by_cases c : s.R (P.n - ((n : Int) + 1))
    · rw [zi_t c]
      split
      · exact zs_nn_pass hP hQ hn n _ (zs_ok_work hP hn o c) (zs_nn_work hP hQ hn o c h)
      · exact zs_nn_work hP hQ hn o c h
    · rw [zi_f c]; exact zs_nn_pass hP hQ hn n s o h
/-- the class's code and table -/
def zc_Pg (h : zx_H) : zP := (zv_f h 1 3, zv_a h 2, zv_a h 3, zv_a h 4, zv_f h 1 8, zv_a h 5, zv_a h 6, zv_a h 7, zv_a h 8, zv_f h 1 10, zv_a h 9)
def zc_A (h : zx_H) (s : zS) : Prop := zc_a (zv_a h 19) (zv_a h 18) (zv_f h 16 5) s
def zc_in (W : List (Nat × Nat)) : Bool := za_in W 1 3 || za_in W 2 0 || za_in W 3 0 || za_in W 4 0 || za_in W 1 8 || za_in W 5 0 || za_in W 6 0 || za_in W 7 0 || za_in W 8 0 || za_in W 1 10 || za_in W 9 0
theorem zc_Pg_g {W : List (Nat × Nat)} {h h' : zx_H} (w : zb_W W h h') (e : zc_in W = false) : zc_Pg h' = zc_Pg h := by
  unfold zc_in at e
  simp only [Bool.or_eq_false_iff] at e
  obtain ⟨⟨⟨⟨⟨⟨⟨⟨⟨⟨a, b⟩, c⟩, d⟩, e⟩, f⟩, g⟩, i⟩, j⟩, k⟩, l⟩ := e
  have e45 : zv_a h' 2 = zv_a h 2 := funext (fun q => zv_wa w b q)
  have e46 : zv_a h' 3 = zv_a h 3 := funext (fun q => zv_wa w c q)
  have e47 : zv_a h' 4 = zv_a h 4 := funext (fun q => zv_wa w d q)
  have e48 : zv_a h' 5 = zv_a h 5 := funext (fun q => zv_wa w f q)
  have e49 : zv_a h' 6 = zv_a h 6 := funext (fun q => zv_wa w g q)
  have e50 : zv_a h' 7 = zv_a h 7 := funext (fun q => zv_wa w i q)
  have e51 : zv_a h' 8 = zv_a h 8 := funext (fun q => zv_wa w j q)
  have e52 : zv_a h' 9 = zv_a h 9 := funext (fun q => zv_wa w l q)
  unfold zc_Pg
  rw [zv_wf w a, zv_wf w e, zv_wf w k, e45, e46, e47, e48, e49, e50, e51, e52]
theorem zc_A_g {W : List (Nat × Nat)} {h h' : zx_H} {s : zS} (w : zb_W W h h') (a1 : za_in W 19 0 = false) (a2 : za_in W 18 0 = false) (a3 : za_in W 16 5 = false) (a : zc_A h s) : zc_A h' s := by
  have e4 : zv_a h' 19 = zv_a h 19 := funext (fun q => zv_wa w a1 q)
  have e5 : zv_a h' 18 = zv_a h 18 := funext (fun q => zv_wa w a2 q)
  have f : zv_f h' 16 5 = zv_f h 16 5 := zv_wf w a3
  unfold zc_A
  rw [e4, e5, f]
  exact a
def zc_J (h h' : zx_H) (q e : Int) : Prop :=
  (¬ (0 ≤ q ∧ q < zv_f h 1 3) ∧ e = 7 ∧ (∀ q, 0 ≤ q → zv_a h' 19 q = zv_a h 19 q) ∧ (∀ q, 0 ≤ q → zv_a h' 18 q = zv_a h 18 q) ∧ zv_f h' 16 5 = zv_f h 16 5)
  ∨ ((0 ≤ q ∧ q < zv_f h 1 3) ∧ zv_a h 19 q = -1 ∧ e = 0 ∧ zv_f h' 16 5 = 1 ∧ (∀ p, 0 ≤ p → zv_a h' 19 p = if p = q then zv_f h 20 1 else zv_a h 19 p) ∧ (∀ j, 0 ≤ j → j < 8 + zv_f h 20 1 → zv_a h' 18 (14 * q + j) = zv_a h 21 j) ∧ ∀ p, 0 ≤ p → (p < 14 * q ∨ 14 * q + 14 ≤ p) → zv_a h' 18 p = zv_a h 18 p)
  ∨ ((0 ≤ q ∧ q < zv_f h 1 3) ∧ ¬ zv_a h 19 q = -1 ∧ ¬ zv_a h 19 q = zv_f h 20 1 ∧ e = 5 ∧ (∀ q, 0 ≤ q → zv_a h' 19 q = zv_a h 19 q) ∧ (∀ q, 0 ≤ q → zv_a h' 18 q = zv_a h 18 q) ∧ zv_f h' 16 5 = zv_f h 16 5)
  ∨ ((0 ≤ q ∧ q < zv_f h 1 3) ∧ ¬ zv_a h 19 q = -1 ∧ zv_a h 19 q = zv_f h 20 1 ∧ e = 0 ∧ (∀ p, 0 ≤ p → zv_a h' 19 p = zv_a h 19 p) ∧ (∀ p, 0 ≤ p → zv_a h' 18 p = if 14 * q ≤ p ∧ p < 14 * q + (zv_f h 20 1 + 8) then zs_jn (zv_a h 18 p) (zv_a h 21 (p - 14 * q)) else zv_a h 18 p) ∧ (zv_f h' 16 5 = 1 ↔ zv_f h 16 5 = 1 ∨ ∃ j, 0 ≤ j ∧ j < zv_f h 20 1 + 8 ∧ ¬ zs_jn (zv_a h 18 (14 * q + j)) (zv_a h 21 j) = zv_a h 18 (14 * q + j)))
theorem zc_J_e {h h' : zx_H} {q e : Int} (J : zc_J h h' q e) : 0 ≤ e ∧ e ≤ 7 := by
  rcases J with ⟨_, z, _⟩ | ⟨_, _, z, _⟩ | ⟨_, _, _, z, _⟩ | ⟨_, _, _, z, _⟩ <;> omega
theorem zc_A_join {h h' : zx_H} {s : zS} {ρ : Int → Int} {q e : Int} (hI : zb_I zc_H h) (ho : zs_ok (zc_Pg h) s) (a : zc_A h s) (hr : ∀ j, 0 ≤ j → j < 8 + zv_f h 20 1 → zv_a h 21 j = ρ j) (J : zc_J h h' q e) : e = (zs_join (zc_Pg h) s q ρ (zv_f h 20 1)).1 ∧ zc_A h' (zs_join (zc_Pg h) s q ρ (zv_f h 20 1)).2 := by
  have h1 := zw_ri hI (a := 1) (k := 3) rfl
  have h2 := zw_ri hI (a := 20) (k := 1) rfl
  exact zc_a_join (P := zc_Pg h) (row := zv_a h 21) h1.2 h2.1 h2.2 ho a hr J
/-- the table's kinds at a reached place -/
theorem zc_kq {h : zx_H} {s : zS} {q : Int} (n : zs_nn s) (a : zc_A h s) (r : s.R q) : ∀ j, 0 ≤ j → j < 8 + zv_a h 19 q → 0 ≤ zv_a h 18 (14 * q + j) ∧ zv_a h 18 (14 * q + j) ≤ 8 := fun j j0 j1 => by
  have b := a.2.1 q r
  rw [b.2 j j0 (by rw [← b.1]; exact j1)]
  exact n q r j j0 (by rw [← b.1]; exact j1)
/-- what an op does in the class, out of what was read -/
theorem zc_wop {P : zP} {p e S0 S' : Int} {N0 N' : Int → Int} {s : zS} (hP : P.ok) (o : zs_ok P s) (r : s.R p) (hS : S0 = s.S p) (hN : ∀ j, 0 ≤ j → j < 8 + s.S p → N0 j = s.K p j) (d : zt_eq (e, S', N') (zc_ap (P.op p) (P.one p) (0, S0, N0))) : e = (zs_x P p s).1 ∧ (e = 0 → S' = (zs_x P p s).2.1 ∧ ∀ j, 0 ≤ j → j < (zs_x P p s).2.1 + 8 → N' j = (zs_x P p s).2.2 j) := by
  have c := o.2 p r
  have w := o.1 p r
  have w2 : zw_ok (0, S0, N0) := zw_ok_ag w hS (fun j j0 (j1 : j < s.S p + 8) => hN j j0 (by omega))
  have f := zc_ap_f (o := P.op p) (a := P.one p) (x := (0, S0, N0)) rfl w2 (hP.1 p c.1 c.2).1 (hP.1 p c.1 c.2).2
  have g : zt_ag (0, S0, N0) (0, s.S p, s.K p) := ⟨rfl, hS, fun j j0 (j1 : j < S0 + 8) => hN j j0 (by omega)⟩
  have k := zs_ap_ag (o := P.op p) (a := P.one p) g w2.2.1 (hP.1 p c.1 c.2).1
  refine ⟨d.1.trans (f.1.trans k.1), fun z => ?_⟩
  have e0 : (zc_ap (P.op p) (P.one p) (0, S0, N0)).1 = 0 := d.1.symm.trans z
  have t := (d.ag.tr (f.2 e0)).tr k
  exact ⟨t.2.1, fun j j0 j1 => t.2.2 j j0 (by rw [t.2.1]; exact j1)⟩
theorem zs_w_f {P : zP} {p : Int} {s : zS} (f : ¬ (zs_x P p s).1 = 0) : zs_w P p s = ((zs_x P p s).1, s) := by
  unfold zs_w
  rw [if_pos f]
theorem zs_pair {r : Int × zS} (h : r.1 = 0) : r = (0, r.2) := Prod.ext h rfl
