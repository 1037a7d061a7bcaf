/-! ===== 64: the same rules for any object of the heap (the class's own) ===== -/
def zv_f (h : zx_H) (a k : Nat) : Int := match zx_fld h a k with
  | some (.int x) => x.toInt
  | _ => 0
def zv_fl (h : zx_H) (a k : Nat) : Int := match zx_fld h a k with
  | some (.long x) => x.toInt
  | _ => 0
theorem zv_wf {W : List (Nat × Nat)} {h h' : zx_H} {a k : Nat} (w : zb_W W h h') (e : za_in W a k = false) : zv_f h' a k = zv_f h a k := by unfold zv_f; rw [w.1 a k e]
theorem zv_wfl {W : List (Nat × Nat)} {h h' : zx_H} {a k : Nat} (w : zb_W W h h') (e : za_in W a k = false) : zv_fl h' a k = zv_fl h a k := by unfold zv_fl; rw [w.1 a k e]
def zw_f (a k : Nat) : Option (Nat × za_T) := match (zc_H[a]? : Option za_D) with
  | some (.inr (ci, fd)) => (fd[k]?).map (fun t => (ci, t))
  | _ => none
theorem zw_o {h : zx_H} (hI : zb_I zc_H h) {a k ci : Nat} {t : za_T} (e : zw_f a k = some (ci, t)) : ∃ fd fs, zc_H[a]? = some (.inr (ci, fd)) ∧ fd[k]? = some t ∧ h[a]? = some (.inr (ci, fs)) ∧ zb_A zb_T fs fd := by
  unfold zw_f at e
  split at e
  · next ci' fd hfd =>
    obtain ⟨t', e1, e2⟩ := Option.map_eq_some_iff.mp e
    cases e2
    obtain ⟨fs, e3, e4⟩ := hI.obj hfd
    exact ⟨fd, fs, hfd, e1, e3, e4⟩
  · cases e
theorem zw_v {h : zx_H} (hI : zb_I zc_H h) {a k ci : Nat} {t : za_T} (e : zw_f a k = some (ci, t)) : ∃ fs v, h[a]? = some (.inr (ci, fs)) ∧ fs[k]? = some v ∧ zb_T v t := by
  obtain ⟨fd, fs, _, e2, e3, e4⟩ := zw_o hI e
  obtain ⟨v, e5, e6⟩ := e4.at1 k e2
  exact ⟨fs, v, e3, e5, e6⟩
theorem zw_fi {h : zx_H} (hI : zb_I zc_H h) {a k ci : Nat} {lo hi : Int} (e : zw_f a k = some (ci, .inl (lo, hi))) : zx_fld h a k = some (.int (zI (zv_f h a k))) ∧ lo ≤ zv_f h a k ∧ zv_f h a k ≤ hi := by
  obtain ⟨fs, v, e1, e3, x, rfl, e5, e6⟩ := zw_v hI e
  have e7 : zx_fld h a k = some (.int x) := by unfold zx_fld; rw [e1]; exact e3
  have e8 : zv_f h a k = x.toInt := by unfold zv_f; rw [e7]
  rw [e8, e7, zI, Int32.ofInt_toInt]
  exact ⟨rfl, e5, e6⟩
theorem zw_ri {h : zx_H} (hI : zb_I zc_H h) {a k ci : Nat} {lo hi : Int} (e : zw_f a k = some (ci, .inl (lo, hi))) : lo ≤ zv_f h a k ∧ zv_f h a k ≤ hi := (zw_fi hI e).2
section ZW
variable {d pc : Nat} {q : zx_M} {ls : zx_L} {r : List Value} {h : zx_H} {F : Option Value → zx_H → Prop}
theorem zw_gi {a idx k ci : Nat} {lo hi e : Int} (ha : zx_at (zx_mi q) pc = some (.getfield idx, 3)) (hp : zx_pf zp_P (zx_mo q) idx = some (ci, k)) (hk : zw_f a k = some (ci, .inl (lo, hi))) (hI : zb_I zc_H h) (he : zv_f h a k = e) (ht : lo ≤ e → e ≤ hi → zx_T zp_P d q (pc + 3) ls (.int (zI e) :: r) h F) : zx_T zp_P d q pc ls (.ref a :: r) h F := by
  obtain ⟨fs, v, e1, _, _⟩ := zw_v hI hk
  obtain ⟨e3, e4, e5⟩ := zw_fi hI hk
  rw [he] at e3 e4 e5
  refine zx_T.g (st' := .int (zI e) :: r) (h' := h) ha rfl rfl rfl rfl ?_ (ht e4 e5)
  show (zx_gf zp_P (zx_mo q) idx a h).map _ = _
  rw [zb_gfx hp e1]
  unfold zx_fld at e3
  rw [e1] at e3
  dsimp only at e3
  rw [e3]; rfl
theorem zw_gl {a idx k ci : Nat} {e : Int} (ha : zx_at (zx_mi q) pc = some (.getfield idx, 3)) (hp : zx_pf zp_P (zx_mo q) idx = some (ci, k)) (hk : zw_f a k = some (ci, .inr (.inl ()))) (hI : zb_I zc_H h) (he : zv_fl h a k = e) (ht : zx_T zp_P d q (pc + 3) ls (.long (zL e) :: r) h F) : zx_T zp_P d q pc ls (.ref a :: r) h F := by
  obtain ⟨fs, v, e1, e3, x, rfl⟩ := zw_v hI hk
  have e7 : zx_fld h a k = some (.long x) := by unfold zx_fld; rw [e1]; exact e3
  have e8 : zv_fl h a k = x.toInt := by unfold zv_fl; rw [e7]
  refine zx_T.g (st' := .long (zL e) :: r) (h' := h) ha rfl rfl rfl rfl ?_ ht
  show (zx_gf zp_P (zx_mo q) idx a h).map _ = _
  rw [zb_gfx hp e1, e3, ← he, e8, zL, Int64.ofInt_toInt]; rfl
theorem zw_gr {a idx k b ci : Nat} (ha : zx_at (zx_mi q) pc = some (.getfield idx, 3)) (hp : zx_pf zp_P (zx_mo q) idx = some (ci, k)) (hk : zw_f a k = some (ci, .inr (.inr b))) (hI : zb_I zc_H h) (ht : zx_T zp_P d q (pc + 3) ls (.ref b :: r) h F) : zx_T zp_P d q pc ls (.ref a :: r) h F := by
  obtain ⟨fs, v, e1, e3, e4⟩ := zw_v hI hk
  have e5 : v = .ref b := e4
  subst e5
  refine zx_T.g (st' := .ref b :: r) (h' := h) ha rfl rfl rfl rfl ?_ ht
  show (zx_gf zp_P (zx_mo q) idx a h).map _ = _
  rw [zb_gfx hp e1, e3]; rfl
theorem zw_put {a k ci : Nat} {t : za_T} {idx o : Nat} {ty : FieldType} {v : Value} (hp : zx_pf zp_P o idx = some (ci, k)) (hk : zw_f a k = some (ci, t)) (hty : za_pty zp_P o idx = some ty) (hn : narrow ty v = v ∧ fits ty v = true) (hv : zb_T v t) (hI : zb_I zc_H h) : ∃ h', zx_pu zp_P o idx a v h = some h' ∧ zb_I zc_H h' ∧ zb_W [(a, k)] h h' ∧ zx_fld h' a k = some v := by
  obtain ⟨fd, fs, hfd, e2, e3, e4⟩ := zw_o hI hk
  obtain ⟨p1, p2, p3, _, p5⟩ := zb_put hI hp hfd e2 e3 e4 hty hn hv (W := [(a, k)]) (za_in_iff.mpr List.mem_cons_self)
  exact ⟨_, p1, p2, p5, by rw [zb_fld_set e3 p3, if_pos ⟨rfl, rfl⟩]⟩
theorem zw_pi {a idx k ci : Nat} {ty : FieldType} {lo hi e : Int} (ha : zx_at (zx_mi q) pc = some (.putfield idx, 3)) (hp : zx_pf zp_P (zx_mo q) idx = some (ci, k)) (hk : zw_f a k = some (ci, .inl (lo, hi))) (hty : za_pty zp_P (zx_mo q) idx = some ty) (hf : za_fty ty (lo, hi) = true) (hr : za_inr lo hi = true) (hI : zb_I zc_H h) (h1 : lo ≤ e) (h2 : e ≤ hi) (ht : ∀ h', zb_I zc_H h' → zb_W [(a, k)] h h' → zv_f h' a k = e → zx_T zp_P d q (pc + 3) ls r h' F) : zx_T zp_P d q pc ls (.int (zI e) :: .ref a :: r) h F := by
  have hr := zb_inr hr
  have e0 : (zI e).toInt = e := zI_i (by omega) (by omega)
  obtain ⟨h', p1, p2, p3, p4⟩ := zw_put hp hk hty (zb_fty (x := zI e) hf (by rw [e0]; exact h1) (by rw [e0]; exact h2)) ⟨zI e, rfl, by rw [e0]; exact h1, by rw [e0]; exact h2⟩ hI
  refine zx_T.g (st' := r) (h' := h') ha rfl rfl rfl rfl ?_ (ht h' p2 p3 (by unfold zv_f; rw [p4]; exact e0))
  show (zx_pu zp_P (zx_mo q) idx a (.int (zI e)) h).map _ = _
  rw [p1]; rfl
theorem zw_pl {a idx k ci : Nat} {e : Int} (ha : zx_at (zx_mi q) pc = some (.putfield idx, 3)) (hp : zx_pf zp_P (zx_mo q) idx = some (ci, k)) (hk : zw_f a k = some (ci, .inr (.inl ()))) (hty : za_pty zp_P (zx_mo q) idx = some .long) (hI : zb_I zc_H h) (ht : ∀ h', zb_I zc_H h' → zb_W [(a, k)] h h' → zv_fl h' a k = (zL e).toInt → zx_T zp_P d q (pc + 3) ls r h' F) : zx_T zp_P d q pc ls (.long (zL e) :: .ref a :: r) h F := by
  obtain ⟨h', p1, p2, p3, p4⟩ := zw_put hp hk hty (v := .long (zL e)) ⟨rfl, rfl⟩ ⟨zL e, rfl⟩ hI
  refine zx_T.g (st' := r) (h' := h') ha rfl rfl rfl rfl ?_ (ht h' p2 p3 (by unfold zv_fl; rw [p4]))
  show (zx_pu zp_P (zx_mo q) idx a (.long (zL e)) h).map _ = _
  rw [p1]; rfl
theorem zw_iv {b ci idx cj : Nat} {q' : zx_M} {As rest st : List Value} {Fc : Option Value → zx_H → Prop} (ha : zx_at (zx_mi q) pc = some (.invokevirtual idx, 3)) (hp : zx_pc zp_P (zx_mo q) idx = some cj) (hq : (zx_pm zp_P)[cj]? = some q') (hm : zx_mc q' = some ci) (hoc : za_oc zc_H b ci = true) (hst : st = As.reverse ++ .ref b :: rest) (hl : As.length = zx_mp q') (hcat : (rest.map fun v => v.category).sum ≤ 8) (hml : Nat.ble (zx_ml q') 21 = true) (hsl : (lg_sl (.ref b :: As)).length ≤ zx_ml q') (hI : zb_I zc_H h) (hc : zx_T zp_P d q' 0 (lv_args 0 (.ref b :: As)) [] h Fc) (ht : ∀ r1 h1, Fc r1 h1 → zx_T zp_P (d + 1) q (pc + 3) ls (r1.toList ++ rest) h1 F) : zx_T zp_P (d + 1) q pc ls st h F := by
  obtain ⟨fs, hfs⟩ : ∃ fs, h[b]? = some (.inr (ci, fs)) := by
    unfold za_oc at hoc
    split at hoc
    · next cj9 fd9 e9 =>
      obtain ⟨fs, e8, _⟩ := hI.obj e9
      rw [← Nat.eq_of_beq_eq_true hoc]
      exact ⟨fs, e8⟩
    · cases hoc
  have hdrop : st.drop (zx_mp q') = .ref b :: rest := by rw [hst, ← hl, ← List.length_reverse, List.drop_left]
  have htake : st.take (zx_mp q') = As.reverse := by rw [hst, ← hl, ← List.length_reverse, List.take_left]
  refine zx_T.c (cj := cj) (as := .ref b :: As) (rest := rest) (q' := q') ha rfl rfl rfl rfl rfl rfl rfl ?_ hq hc ht
  unfold zx_k
  simp only [hp, hq, hdrop, hfs, htake, List.reverse_reverse]
  rw [if_pos ⟨trivial, hm, by rw [List.length_reverse]; exact hl, hcat, Nat.le_of_ble_eq_true hml, hsl⟩]
/-- long answers -/
theorem zr_lr {x : Int} (ha : zx_at (zx_mi q) pc = some (.lreturn, 1)) (hr : zx_mr q = some .long) (hf : F (some (.long (zL x))) h) : zx_T zp_P d q pc ls [.long (zL x)] h F :=
  zx_T.r (r := some (.long (zL x))) ha rfl rfl rfl rfl rfl (by unfold zx_r; simp only [hr]; rfl) hf
end ZW
def zr_G (W : List (Nat × Nat)) (h : zx_H) (E : Int → zx_H → Prop) : Option Value → zx_H → Prop := fun r h' => zb_I zc_H h' ∧ zb_W W h h' ∧ ∃ e, r = some (.long (zL e)) ∧ E e h'
/-- Math.min, of which the machine has its own -/
theorem zr_min {idx : Nat} {d pc : Nat} {q : zx_M} {ls : zx_L} {r : List Value} {h : zx_H} {F : Option Value → zx_H → Prop} {x y : Int} (ha : zx_at (zx_mi q) pc = some (.invokestatic idx, 3)) (hn : zx_pn zp_P (zx_mo q) idx = true) (hcat : (r.map fun v => v.category).sum ≤ 8) (h1 : -2147483648 ≤ x) (h2 : x ≤ 2147483647) (h3 : -2147483648 ≤ y) (h4 : y ≤ 2147483647) (ht : ∀ z, (z = x ∧ x ≤ y) ∨ (z = y ∧ y < x) → zx_T zp_P (d + 1) q (pc + 3) ls (.int (zI z) :: r) h F) : zx_T zp_P (d + 1) q pc ls (.int (zI y) :: .int (zI x) :: r) h F := by
  have hx := zI_i h1 h2
  have hy := zI_i h3 h4
  have hb : zI y < zI x ↔ y < x := by rw [Int32.lt_iff_toInt_lt, hx, hy]
  obtain ⟨n, r1, h', hx1, hf⟩ : zx_T zp_P (d + 1) q (pc + 3) ls (.int (if zI y < zI x then zI y else zI x) :: r) h F := by
    by_cases c : y < x
    · rw [if_pos (hb.mpr c)]; exact ht y (Or.inr ⟨rfl, c⟩)
    · rw [if_neg (fun z => c (hb.mp z))]; exact ht x (Or.inl ⟨rfl, by omega⟩)
  refine ⟨n + 1, r1, h', ?_, hf⟩
  rw [zx_x_succ]
  have ho : zx_o zp_P q pc ls (.int (zI y) :: .int (zI x) :: r) h = some (.inr (.inr (.inl (.int (if zI y < zI x then zI y else zI x) :: r)))) := by
    unfold zx_o
    simp only [ha]
    have e7 : zx_n zp_P (zx_mo q) (.invokestatic idx) 3 (.int (zI y) :: .int (zI x) :: r) = some (.int (if zI y < zI x then zI y else zI x) :: r) := by
      unfold zx_n
      simp only
      rw [if_pos ⟨hn, trivial, hcat⟩]
    simp only [show zx_s (.invokestatic idx) (.int (zI y) :: .int (zI x) :: r) = none from rfl, show zx_l (.invokestatic idx) ls = none from rfl, show zx_t (.invokestatic idx) (zx_ml q) ls (.int (zI y) :: .int (zI x) :: r) = none from rfl, show zx_j (.invokestatic idx) 3 pc (.int (zI y) :: .int (zI x) :: r) = none from rfl, show zx_g zp_P (zx_mo q) (.invokestatic idx) (.int (zI y) :: .int (zI x) :: r) h = none from rfl, show zx_r (.invokestatic idx) 3 (zx_mr q) (.int (zI y) :: .int (zI x) :: r) = none from rfl, e7]
  rw [ho]
  exact hx1
