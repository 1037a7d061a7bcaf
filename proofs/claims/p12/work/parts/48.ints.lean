/-! ===== 48: the reference's fields and rows as whole numbers; rules for its methods ===== -/
abbrev zI (x : Int) : Int32 := Int32.ofInt x
abbrev zL (x : Int) : Int64 := Int64.ofInt x
theorem zI_i {x : Int} (h1 : -2147483648 ≤ x) (h2 : x ≤ 2147483647) : (zI x).toInt = x := Int32.toInt_ofInt_of_le (by omega) (by omega)
theorem zL_i {x : Int} (h1 : -9223372036854775808 ≤ x) (h2 : x ≤ 9223372036854775807) : (zL x).toInt = x := Int64.toInt_ofInt_of_le (by omega) (by omega)
theorem zI_c {x : Int} (h1 : 0 ≤ x) (h2 : x ≤ 2147483647) : (zI x).toNatClampNeg = x.toNat := by rw [← Int32.toNat_toInt, zI_i (by omega) h2]
def zv_i (h : zx_H) (k : Nat) : Int := match zx_fld h 44 k with
  | some (.int x) => x.toInt
  | _ => 0
def zv_l (h : zx_H) (k : Nat) : Int := match zx_fld h 44 k with
  | some (.long x) => x.toInt
  | _ => 0
def zv_a (h : zx_H) (a : Nat) (i : Int) : Int := match zx_arr h a with
  | some (_, _, .inl f) => (f i.toNat).toInt
  | _ => 0
def zv_b (h : zx_H) (a : Nat) (i : Int) : Int := match zx_arr h a with
  | some (_, _, .inr (.inl f)) => (f i.toNat).toInt
  | _ => 0
section ZVW
variable {W : List (Nat × Nat)} {h h' : zx_H} {a k : Nat}
theorem zv_wi (w : zb_W W h h') (e : za_in W 44 k = false) : zv_i h' k = zv_i h k := by unfold zv_i; rw [w.1 44 k e]
theorem zv_wl (w : zb_W W h h') (e : za_in W 44 k = false) : zv_l h' k = zv_l h k := by unfold zv_l; rw [w.1 44 k e]
theorem zv_wa (w : zb_W W h h') (e : za_in W a 0 = false) (i : Int) : zv_a h' a i = zv_a h a i := by unfold zv_a; rw [w.2 a e]
theorem zv_wb (w : zb_W W h h') (e : za_in W a 0 = false) (i : Int) : zv_b h' a i = zv_b h a i := by unfold zv_b; rw [w.2 a e]
end ZVW
/-- more may be written -/
theorem zb_W.wd {W V : List (Nat × Nat)} {h h' : zx_H} (a : zb_W V h h') (hs : V.all (fun q => za_in W q.1 q.2) = true) : zb_W W h h' :=
  a.sub fun x k hx => by
    have := List.all_eq_true.mp hs (x, k) (za_in_iff.mp hx)
    exact this
def zr_f (k : Nat) : Option za_T := match (zc_H[44]? : Option za_D) with
  | some (.inr (_, fd)) => fd[k]?
  | _ => none
theorem zr_o {h : zx_H} (hI : zb_I zc_H h) : ∃ fs, h[44]? = some (.inr (10, fs)) ∧ ∀ k t, zr_f k = some t → ∃ v, fs[k]? = some v ∧ zb_T v t := by
  obtain ⟨fd, hfd⟩ : ∃ fd, zc_H[44]? = some (.inr (10, fd)) := ⟨_, rfl⟩
  obtain ⟨fs, e1, e2⟩ := hI.obj hfd
  refine ⟨fs, e1, fun k t ht => ?_⟩
  have ht' : fd[k]? = some t := by unfold zr_f at ht; rw [hfd] at ht; exact ht
  exact e2.at1 k ht'
theorem zr_fi {h : zx_H} (hI : zb_I zc_H h) {k : Nat} {lo hi : Int} (e : zr_f k = some (.inl (lo, hi))) : zx_fld h 44 k = some (.int (zI (zv_i h k))) ∧ lo ≤ zv_i h k ∧ zv_i h k ≤ hi := by
  obtain ⟨fs, e1, e2⟩ := zr_o hI
  obtain ⟨v, e3, x, rfl, e5, e6⟩ := e2 k _ e
  have e7 : zx_fld h 44 k = some (.int x) := by unfold zx_fld; rw [e1]; exact e3
  have e8 : zv_i h k = x.toInt := by unfold zv_i; rw [e7]
  rw [e8, e7, zI, Int32.ofInt_toInt]
  exact ⟨rfl, e5, e6⟩
theorem zv_ri {h : zx_H} (hI : zb_I zc_H h) {k : Nat} {lo hi : Int} (e : zr_f k = some (.inl (lo, hi))) : lo ≤ zv_i h k ∧ zv_i h k ≤ hi := (zr_fi hI e).2
theorem zr_fa {h : zx_H} (hI : zb_I zc_H h) {a t n : Nat} {lo hi : Int} (e : zc_H[a]? = some (.inl (t, n, lo, hi))) (ht : ¬ t = 1) : ∃ f : Nat → Int32, h[a]? = some (.inl (t, n, .inl f)) ∧ (∀ i : Int, zv_a h a i = (f i.toNat).toInt) ∧ ∀ i : Int, lo ≤ zv_a h a i ∧ zv_a h a i ≤ hi := by
  obtain ⟨f, e1, e2⟩ := hI.arr e ht
  have e3 : ∀ i : Int, zv_a h a i = (f i.toNat).toInt := fun i => by unfold zv_a zx_arr; rw [e1]
  exact ⟨f, e1, e3, fun i => by rw [e3]; exact e2 _⟩
theorem zv_ra {h : zx_H} (hI : zb_I zc_H h) {a t n : Nat} {lo hi : Int} (e : zc_H[a]? = some (.inl (t, n, lo, hi))) (ht : Nat.beq t 1 = false) (i : Int) : lo ≤ zv_a h a i ∧ zv_a h a i ≤ hi := by
  obtain ⟨f, _, _, e3⟩ := zr_fa hI e (fun z => by rw [z] at ht; cases ht)
  exact e3 i
theorem zr_fb {h : zx_H} (hI : zb_I zc_H h) {a n : Nat} {lo hi : Int} (e : zc_H[a]? = some (.inl (1, n, lo, hi))) : ∃ f : Nat → Int64, h[a]? = some (.inl (1, n, .inr (.inl f))) ∧ ∀ i : Int, zv_b h a i = (f i.toNat).toInt := by
  obtain ⟨f, e1⟩ := hI.lng e
  exact ⟨f, e1, fun i => by unfold zv_b zx_arr; rw [e1]⟩
theorem zv_rb {h : zx_H} (a : Nat) (i : Int) : -9223372036854775808 ≤ zv_b h a i ∧ zv_b h a i ≤ 9223372036854775807 := by
  unfold zv_b
  split
  · next f e =>
    have h1 := Int64.le_toInt (f i.toNat)
    have h2 := Int64.toInt_lt (f i.toNat)
    omega
  · omega
section ZR
variable {d pc : Nat} {q : zx_M} {ls : zx_L} {r : List Value} {h : zx_H} {F : Option Value → zx_H → Prop}
theorem zr_gi {idx k : Nat} {lo hi e : Int} (ha : zx_at (zx_mi q) pc = some (.getfield idx, 3)) (hp : zx_pf zp_P (zx_mo q) idx = some (10, k)) (hk : zr_f k = some (.inl (lo, hi))) (hI : zb_I zc_H h) (he : zv_i h k = e) (ht : lo ≤ e → e ≤ hi → zx_T zp_P d q (pc + 3) ls (.int (zI e) :: r) h F) : zx_T zp_P d q pc ls (.ref 44 :: r) h F := by
  obtain ⟨fs, e1, _⟩ := zr_o hI
  obtain ⟨e3, e4, e5⟩ := zr_fi hI hk
  rw [he] at e3 e4 e5
  refine zx_T.g (st' := .int (zI e) :: r) (h' := h) ha rfl rfl rfl rfl ?_ (ht e4 e5)
  show (zx_gf zp_P (zx_mo q) idx 44 h).map _ = _
  rw [zb_gfx hp e1]
  unfold zx_fld at e3
  rw [e1] at e3
  dsimp only at e3
  rw [e3]; rfl
theorem zr_gl {idx k : Nat} {e : Int} (ha : zx_at (zx_mi q) pc = some (.getfield idx, 3)) (hp : zx_pf zp_P (zx_mo q) idx = some (10, k)) (hk : zr_f k = some (.inr (.inl ()))) (hI : zb_I zc_H h) (he : zv_l h k = e) (ht : zx_T zp_P d q (pc + 3) ls (.long (zL e) :: r) h F) : zx_T zp_P d q pc ls (.ref 44 :: r) h F := by
  obtain ⟨fs, e1, e2⟩ := zr_o hI
  obtain ⟨v, e3, x, rfl⟩ := e2 k _ hk
  have e7 : zx_fld h 44 k = some (.long x) := by unfold zx_fld; rw [e1]; exact e3
  have e8 : zv_l h k = x.toInt := by unfold zv_l; rw [e7]
  refine zx_T.g (st' := .long (zL e) :: r) (h' := h) ha rfl rfl rfl rfl ?_ ht
  show (zx_gf zp_P (zx_mo q) idx 44 h).map _ = _
  rw [zb_gfx hp e1, e3, ← he, e8, zL, Int64.ofInt_toInt]; rfl
theorem zr_gr {idx k b : Nat} (ha : zx_at (zx_mi q) pc = some (.getfield idx, 3)) (hp : zx_pf zp_P (zx_mo q) idx = some (10, k)) (hk : zr_f k = some (.inr (.inr b))) (hI : zb_I zc_H h) (ht : zx_T zp_P d q (pc + 3) ls (.ref b :: r) h F) : zx_T zp_P d q pc ls (.ref 44 :: r) h F := by
  obtain ⟨fs, e1, e2⟩ := zr_o hI
  obtain ⟨v, e3, e4⟩ := e2 k _ hk
  have e5 : v = .ref b := e4
  subst e5
  refine zx_T.g (st' := .ref b :: r) (h' := h) ha rfl rfl rfl rfl ?_ ht
  show (zx_gf zp_P (zx_mo q) idx 44 h).map _ = _
  rw [zb_gfx hp e1, e3]; rfl
theorem zr_put {k : Nat} {t : za_T} {idx o : Nat} {ty : FieldType} {v : Value} (hp : zx_pf zp_P o idx = some (10, k)) (hk : zr_f k = some t) (hty : za_pty zp_P o idx = some ty) (hn : narrow ty v = v ∧ fits ty v = true) (hv : zb_T v t) (hI : zb_I zc_H h) : ∃ h', zx_pu zp_P o idx 44 v h = some h' ∧ zb_I zc_H h' ∧ zb_W [(44, k)] h h' ∧ zx_fld h' 44 k = some v := by
  obtain ⟨fd, hfd⟩ : ∃ fd, zc_H[44]? = some (.inr (10, fd)) := ⟨_, rfl⟩
  obtain ⟨fs, e1, e2⟩ := hI.obj hfd
  have hk' : fd[k]? = some t := by unfold zr_f at hk; rw [hfd] at hk; exact hk
  obtain ⟨p1, p2, p3, _, p5⟩ := zb_put hI hp hfd hk' e1 e2 hty hn hv (W := [(44, k)]) (za_in_iff.mpr List.mem_cons_self)
  exact ⟨_, p1, p2, p5, by rw [zb_fld_set e1 p3, if_pos ⟨rfl, rfl⟩]⟩
theorem zr_pi {idx k : Nat} {ty : FieldType} {lo hi e : Int} (ha : zx_at (zx_mi q) pc = some (.putfield idx, 3)) (hp : zx_pf zp_P (zx_mo q) idx = some (10, k)) (hk : zr_f k = some (.inl (lo, hi))) (hty : za_pty zp_P (zx_mo q) idx = some ty) (hf : za_fty ty (lo, hi) = true) (hr : za_inr lo hi = true) (hI : zb_I zc_H h) (h1 : lo ≤ e) (h2 : e ≤ hi) (ht : ∀ h', zb_I zc_H h' → zb_W [(44, k)] h h' → zv_i h' k = e → zx_T zp_P d q (pc + 3) ls r h' F) : zx_T zp_P d q pc ls (.int (zI e) :: .ref 44 :: r) h F := by
  have hr := zb_inr hr
  have e0 : (zI e).toInt = e := zI_i (by omega) (by omega)
  obtain ⟨h', p1, p2, p3, p4⟩ := zr_put hp hk hty (zb_fty (x := zI e) hf (by rw [e0]; exact h1) (by rw [e0]; exact h2)) ⟨zI e, rfl, by rw [e0]; exact h1, by rw [e0]; exact h2⟩ hI
  refine zx_T.g (st' := r) (h' := h') ha rfl rfl rfl rfl ?_ (ht h' p2 p3 (by unfold zv_i; rw [p4]; exact e0))
  show (zx_pu zp_P (zx_mo q) idx 44 (.int (zI e)) h).map _ = _
  rw [p1]; rfl
theorem zr_pl {idx k : Nat} {e : Int} (ha : zx_at (zx_mi q) pc = some (.putfield idx, 3)) (hp : zx_pf zp_P (zx_mo q) idx = some (10, k)) (hk : zr_f k = some (.inr (.inl ()))) (hty : za_pty zp_P (zx_mo q) idx = some .long) (hI : zb_I zc_H h) (ht : ∀ h', zb_I zc_H h' → zb_W [(44, k)] h h' → zx_T zp_P d q (pc + 3) ls r h' F) : zx_T zp_P d q pc ls (.long (zL e) :: .ref 44 :: r) h F := by
  obtain ⟨h', p1, p2, p3, p4⟩ := zr_put hp hk hty (v := .long (zL e)) ⟨rfl, rfl⟩ ⟨zL e, rfl⟩ hI
  refine zx_T.g (st' := r) (h' := h') ha rfl rfl rfl rfl ?_ (ht h' p2 p3)
  show (zx_pu zp_P (zx_mo q) idx 44 (.long (zL e)) h).map _ = _
  rw [p1]; rfl
theorem zr_ix {n : Nat} {i : Int} (h1 : 0 ≤ i) (h2 : i < n) (hn : n ≤ 100000) : ¬ (zI i < 0 ∨ n ≤ (zI i).toNatClampNeg) ∧ (zI i).toNatClampNeg = i.toNat := by
  have e0 : (zI i).toInt = i := zI_i (by omega) (by omega)
  exact ⟨zb_idx (by omega) (by omega), zI_c h1 (by omega)⟩
theorem zr_al {a n : Nat} {lo hi i e : Int} (ha : zx_at (zx_mi q) pc = some (.iaload, 1)) (hc : zc_H[a]? = some (.inl (0, n, lo, hi))) (hn : Nat.ble n 100000 = true) (hI : zb_I zc_H h) (h1 : 0 ≤ i) (h2 : i < n) (he : zv_a h a i = e) (ht : lo ≤ e → e ≤ hi → zx_T zp_P d q (pc + 1) ls (.int (zI e) :: r) h F) : zx_T zp_P d q pc ls (.int (zI i) :: .ref a :: r) h F := by
  obtain ⟨f, e1, e2, e3⟩ := zr_fa hI hc (by omega)
  obtain ⟨x1, x2⟩ := zr_ix h1 h2 (Nat.le_of_ble_eq_true hn)
  have e4 := e3 i
  rw [he] at e4
  refine zx_T.g (st' := .int (zI e) :: r) (h' := h) ha rfl rfl rfl rfl ?_ (ht e4.1 e4.2)
  simp only [zx_g, e1]
  rw [if_neg x1, x2, ← he, e2, zI, Int32.ofInt_toInt]
theorem zr_bl {a n : Nat} {lo hi i e : Int} (ha : zx_at (zx_mi q) pc = some (.baload, 1)) (hc : zc_H[a]? = some (.inl (2, n, lo, hi))) (hn : Nat.ble n 100000 = true) (hI : zb_I zc_H h) (h1 : 0 ≤ i) (h2 : i < n) (he : zv_a h a i = e) (ht : lo ≤ e → e ≤ hi → zx_T zp_P d q (pc + 1) ls (.int (zI e) :: r) h F) : zx_T zp_P d q pc ls (.int (zI i) :: .ref a :: r) h F := by
  obtain ⟨f, e1, e2, e3⟩ := zr_fa hI hc (by omega)
  obtain ⟨x1, x2⟩ := zr_ix h1 h2 (Nat.le_of_ble_eq_true hn)
  have e4 := e3 i
  rw [he] at e4
  refine zx_T.g (st' := .int (zI e) :: r) (h' := h) ha rfl rfl rfl rfl ?_ (ht e4.1 e4.2)
  simp only [zx_g, e1]
  rw [if_neg x1, x2, ← he, e2, zI, Int32.ofInt_toInt]
theorem zr_ll {a n : Nat} {lo hi i e : Int} (ha : zx_at (zx_mi q) pc = some (.laload, 1)) (hc : zc_H[a]? = some (.inl (1, n, lo, hi))) (hn : Nat.ble n 100000 = true) (hI : zb_I zc_H h) (h1 : 0 ≤ i) (h2 : i < n) (he : zv_b h a i = e) (ht : zx_T zp_P d q (pc + 1) ls (.long (zL e) :: r) h F) : zx_T zp_P d q pc ls (.int (zI i) :: .ref a :: r) h F := by
  obtain ⟨f, e1, e2⟩ := zr_fb hI hc
  obtain ⟨x1, x2⟩ := zr_ix h1 h2 (Nat.le_of_ble_eq_true hn)
  refine zx_T.g (st' := .long (zL e) :: r) (h' := h) ha rfl rfl rfl rfl ?_ ht
  simp only [zx_g, e1]
  rw [if_neg x1, x2, ← he, e2, zL, Int64.ofInt_toInt]
theorem zr_upd {f : Nat → Int32} {i j : Int} {x : Int32} (h1 : 0 ≤ i) (hj : 0 ≤ j) : (upd f i.toNat x j.toNat).toInt = if j = i then x.toInt else (f j.toNat).toInt := by
  unfold upd
  by_cases e : j = i
  · rw [if_pos e, if_pos (by rw [e])]
  · rw [if_neg e, if_neg (by omega)]
theorem zr_as {a n : Nat} {lo hi i e : Int} (ha : zx_at (zx_mi q) pc = some (.iastore, 1)) (hc : zc_H[a]? = some (.inl (0, n, lo, hi))) (hn : Nat.ble n 100000 = true) (hr : za_inr lo hi = true) (hI : zb_I zc_H h) (h1 : 0 ≤ i) (h2 : i < n) (h3 : lo ≤ e) (h4 : e ≤ hi) (ht : ∀ h', zb_I zc_H h' → zb_W [(a, 0)] h h' → (∀ j, 0 ≤ j → zv_a h' a j = if j = i then e else zv_a h a j) → zx_T zp_P d q (pc + 1) ls r h' F) : zx_T zp_P d q pc ls (.int (zI e) :: .int (zI i) :: .ref a :: r) h F := by
  have hr := zb_inr hr
  have e0 : (zI e).toInt = e := zI_i (by omega) (by omega)
  obtain ⟨f, e1, e2⟩ := hI.arr hc (by omega)
  obtain ⟨x1, x2⟩ := zr_ix h1 h2 (Nat.le_of_ble_eq_true hn)
  have hl : a < h.length := (List.getElem?_eq_some_iff.mp e1).1
  obtain ⟨p1, p2⟩ := zb_arrw (x' := (0, n, .inl (upd f i.toNat (zI e)))) hI hc e1 ⟨rfl, rfl, by omega, fun j => by
    unfold upd; split
    · omega
    · exact e2 j⟩ (W := [(a, 0)]) (za_in_iff.mpr List.mem_cons_self)
  refine zx_T.g (st' := r) (h' := h.set a (.inl (0, n, .inl (upd f i.toNat (zI e))))) ha rfl rfl rfl rfl ?_ (ht _ p1 p2 fun j hj => ?_)
  · simp only [zx_g, e1]
    rw [if_neg x1, x2]
  · have q1 : zv_a (h.set a (.inl (0, n, .inl (upd f i.toNat (zI e))))) a j = (upd f i.toNat (zI e) j.toNat).toInt := by
      unfold zv_a zx_arr
      rw [List.getElem?_set, if_pos rfl, if_pos hl]
    have q2 : zv_a h a j = (f j.toNat).toInt := by unfold zv_a zx_arr; rw [e1]
    rw [q1, q2, zr_upd h1 hj, e0]
theorem zr_bs {a n : Nat} {i e : Int} (ha : zx_at (zx_mi q) pc = some (.bastore, 1)) (hc : zc_H[a]? = some (.inl (2, n, 0, 1))) (hn : Nat.ble n 100000 = true) (hI : zb_I zc_H h) (h1 : 0 ≤ i) (h2 : i < n) (h3 : 0 ≤ e) (h4 : e ≤ 1) (ht : ∀ h', zb_I zc_H h' → zb_W [(a, 0)] h h' → (∀ j, 0 ≤ j → zv_a h' a j = if j = i then e else zv_a h a j) → zx_T zp_P d q (pc + 1) ls r h' F) : zx_T zp_P d q pc ls (.int (zI e) :: .int (zI i) :: .ref a :: r) h F := by
  have e0 : (zI e).toInt = e := zI_i (by omega) (by omega)
  have e9 : (vp_nar .boolean (zI e)).toInt = e := by
    rcases zb_01 (x := zI e) (by omega) (by omega) with z | z
    · rw [z, show (vp_nar .boolean 0).toInt = 0 by decide +kernel, ← e0, z]; rfl
    · rw [z, show (vp_nar .boolean 1).toInt = 1 by decide +kernel, ← e0, z]; decide +kernel
  obtain ⟨f, e1, e2⟩ := hI.arr hc (by omega)
  obtain ⟨x1, x2⟩ := zr_ix h1 h2 (Nat.le_of_ble_eq_true hn)
  have hl : a < h.length := (List.getElem?_eq_some_iff.mp e1).1
  obtain ⟨p1, p2⟩ := zb_arrw (x' := (2, n, .inl (upd f i.toNat (vp_nar .boolean (zI e))))) hI hc e1 ⟨rfl, rfl, by omega, fun j => by
    unfold upd; split
    · omega
    · exact e2 j⟩ (W := [(a, 0)]) (za_in_iff.mpr List.mem_cons_self)
  refine zx_T.g (st' := r) (h' := h.set a (.inl (2, n, .inl (upd f i.toNat (vp_nar .boolean (zI e)))))) ha rfl rfl rfl rfl ?_ (ht _ p1 p2 fun j hj => ?_)
  · simp only [zx_g, e1]
    rw [if_neg x1, x2]
  · have q1 : zv_a (h.set a (.inl (2, n, .inl (upd f i.toNat (vp_nar .boolean (zI e)))))) a j = (upd f i.toNat (vp_nar .boolean (zI e)) j.toNat).toInt := by
      unfold zv_a zx_arr
      rw [List.getElem?_set, if_pos rfl, if_pos hl]
    have q2 : zv_a h a j = (f j.toNat).toInt := by unfold zv_a zx_arr; rw [e1]
    rw [q1, q2, zr_upd h1 hj, e9]
theorem zr_ls {a n : Nat} {lo hi i e : Int} (ha : zx_at (zx_mi q) pc = some (.lastore, 1)) (hc : zc_H[a]? = some (.inl (1, n, lo, hi))) (hn : Nat.ble n 100000 = true) (hI : zb_I zc_H h) (h1 : 0 ≤ i) (h2 : i < n) (ht : ∀ h', zb_I zc_H h' → zb_W [(a, 0)] h h' → (∀ j, 0 ≤ j → zv_b h' a j = if j = i then (zL e).toInt else zv_b h a j) → zx_T zp_P d q (pc + 1) ls r h' F) : zx_T zp_P d q pc ls (.long (zL e) :: .int (zI i) :: .ref a :: r) h F := by
  obtain ⟨f, e1⟩ := hI.lng hc
  obtain ⟨x1, x2⟩ := zr_ix h1 h2 (Nat.le_of_ble_eq_true hn)
  have hl : a < h.length := (List.getElem?_eq_some_iff.mp e1).1
  obtain ⟨p1, p2⟩ := zb_arrw (x' := (1, n, .inr (.inl (vp_updL f i.toNat (zL e))))) hI hc e1 ⟨rfl, rfl, rfl⟩ (W := [(a, 0)]) (za_in_iff.mpr List.mem_cons_self)
  refine zx_T.g (st' := r) (h' := h.set a (.inl (1, n, .inr (.inl (vp_updL f i.toNat (zL e)))))) ha rfl rfl rfl rfl ?_ (ht _ p1 p2 fun j hj => ?_)
  · simp only [zx_g, e1]
    rw [if_neg x1, x2]
  · have q1 : zv_b (h.set a (.inl (1, n, .inr (.inl (vp_updL f i.toNat (zL e)))))) a j = (vp_updL f i.toNat (zL e) j.toNat).toInt := by
      unfold zv_b zx_arr
      rw [List.getElem?_set, if_pos rfl, if_pos hl]
    have q2 : zv_b h a j = (f j.toNat).toInt := by unfold zv_b zx_arr; rw [e1]
    rw [q1, q2]
    unfold vp_updL
    by_cases e : j = i
    · rw [if_pos e, if_pos (by rw [e])]
    · rw [if_neg e, if_neg (by omega)]
/-- numbers on the stack -/
theorem zr_add {x y e : Int} (ha : zx_at (zx_mi q) pc = some (.iadd, 1)) (he : x + y = e) (ht : zx_T zp_P d q (pc + 1) ls (.int (zI e) :: r) h F) : zx_T zp_P d q pc ls (.int (zI y) :: .int (zI x) :: r) h F :=
  zx_T.s ha (by show some (1, Value.int (zI x + zI y) :: r) = _; rw [zI, zI, ← Int32.ofInt_add, he]) ht
theorem zr_sub {x y e : Int} (ha : zx_at (zx_mi q) pc = some (.isub, 1)) (he : x - y = e) (ht : zx_T zp_P d q (pc + 1) ls (.int (zI e) :: r) h F) : zx_T zp_P d q pc ls (.int (zI y) :: .int (zI x) :: r) h F :=
  zx_T.s ha (by show some (1, Value.int (zI x - zI y) :: r) = _; rw [zI, zI, ← Int32.ofInt_sub, he]) ht
theorem zr_mul {x y e : Int} (ha : zx_at (zx_mi q) pc = some (.imul, 1)) (he : x * y = e) (ht : zx_T zp_P d q (pc + 1) ls (.int (zI e) :: r) h F) : zx_T zp_P d q pc ls (.int (zI y) :: .int (zI x) :: r) h F :=
  zx_T.s ha (by show some (1, Value.int (zI x * zI y) :: r) = _; rw [zI, zI, ← Int32.ofInt_mul, he]) ht
theorem zr_ladd {x y e : Int} (ha : zx_at (zx_mi q) pc = some (.ladd, 1)) (he : x + y = e) (ht : zx_T zp_P d q (pc + 1) ls (.long (zL e) :: r) h F) : zx_T zp_P d q pc ls (.long (zL y) :: .long (zL x) :: r) h F :=
  zx_T.s ha (by show some (1, Value.long (zL x + zL y) :: r) = _; rw [zL, zL, ← Int64.ofInt_add, he]) ht
theorem zr_ldiv {x y : Int} (ha : zx_at (zx_mi q) pc = some (.ldiv, 1)) (h1 : -9223372036854775808 ≤ y) (h2 : y ≤ 9223372036854775807) (h3 : ¬ y = 0) (ht : ∀ z, zx_T zp_P d q (pc + 1) ls (.long (zL z) :: r) h F) : zx_T zp_P d q pc ls (.long (zL y) :: .long (zL x) :: r) h F := by
  have hy : ¬ zL y = 0 := fun e => h3 (by have := zL_i h1 h2; rw [e] at this; exact this.symm)
  refine zx_T.s (st' := .long (zL (zL x / zL y).toInt) :: r) ha ?_ (ht _)
  show (if zL y = 0 then none else some (1, Value.long (zL x / zL y) :: r)) = _
  rw [if_neg hy, show zL (zL x / zL y).toInt = zL x / zL y from Int64.ofInt_toInt _]
theorem zr_i2l {x : Int} (ha : zx_at (zx_mi q) pc = some (.i2l, 1)) (h1 : -2147483648 ≤ x) (h2 : x ≤ 2147483647) (ht : zx_T zp_P d q (pc + 1) ls (.long (zL x) :: r) h F) : zx_T zp_P d q pc ls (.int (zI x) :: r) h F :=
  zx_T.s ha (by
    show some (1, Value.long (zI x).toInt64 :: r) = _
    rw [show (zI x).toInt64 = zL x from Int64.toInt_inj.mp (by rw [Int32.toInt_toInt64, zI_i h1 h2, zL_i (by omega) (by omega)])]) ht
theorem zr_l2i {x : Int} (ha : zx_at (zx_mi q) pc = some (.l2i, 1)) (ht : zx_T zp_P d q (pc + 1) ls (.int (zI x) :: r) h F) : zx_T zp_P d q pc ls (.long (zL x) :: r) h F :=
  zx_T.s ha (by show some (1, Value.int (zL x).toInt32 :: r) = _; rw [zL, Int64.toInt32_ofInt]) ht
/-- some number, of the ints -/
theorem zr_any {x : Int} (ht : ∀ y, -2147483648 ≤ y → y ≤ 2147483647 → zx_T zp_P d q pc ls (.int (zI y) :: r) h F) : zx_T zp_P d q pc ls (.int (zI x) :: r) h F := by
  have := ht (zI x).toInt (by have := Int32.le_toInt (zI x); omega) (by have := Int32.toInt_lt (zI x); omega)
  rwa [zI, Int32.ofInt_toInt] at this
theorem zr_and7 {x : Int} (ha : zx_at (zx_mi q) pc = some (.land, 1)) (ht : ∀ z, 0 ≤ z → z ≤ 7 → zx_T zp_P d q (pc + 1) ls (.long (zL z) :: r) h F) : zx_T zp_P d q pc ls (.long 7 :: .long (zL x) :: r) h F := by
  have hb : 0 ≤ (zL x &&& 7).toInt ∧ (zL x &&& 7).toInt ≤ 7 := by
    have e1 : (zL x &&& 7).toInt = ((zL x).toBitVec &&& 7#64).toInt := rfl
    have e2 : ((zL x).toBitVec &&& 7#64).toNat ≤ 7 := by
      rw [BitVec.toNat_and]; exact Nat.and_le_right
    rw [e1, BitVec.toInt_eq_toNat_of_lt (by omega)]
    omega
  refine zx_T.s (st' := .long (zL (zL x &&& 7).toInt) :: r) ha ?_ (ht _ hb.1 hb.2)
  show some (1, Value.long (zL x &&& 7) :: r) = _
  rw [show zL (zL x &&& 7).toInt = zL x &&& 7 from Int64.ofInt_toInt _]
def zr_sg (x y : Int) : Int := if y < x then 1 else if x = y then 0 else -1
theorem zr_lcmp {x y : Int} (ha : zx_at (zx_mi q) pc = some (.lcmp, 1)) (h1 : -9223372036854775808 ≤ x) (h2 : x ≤ 9223372036854775807) (h3 : -9223372036854775808 ≤ y) (h4 : y ≤ 9223372036854775807) (ht : ∀ z, (z = 1 ∧ y < x) ∨ (z = 0 ∧ x = y) ∨ (z = -1 ∧ x < y) → zx_T zp_P d q (pc + 1) ls (.int (zI z) :: r) h F) : zx_T zp_P d q pc ls (.long (zL y) :: .long (zL x) :: r) h F := by
  have hx := zL_i h1 h2
  have hy := zL_i h3 h4
  have key : ∃ z, lg_cmp (zL x) (zL y) = zI z ∧ ((z = 1 ∧ y < x) ∨ (z = 0 ∧ x = y) ∨ (z = -1 ∧ x < y)) := by
    unfold lg_cmp
    split
    · next e => rw [gt_iff_lt, Int64.lt_iff_toInt_lt, hx, hy] at e; exact ⟨1, rfl, Or.inl ⟨rfl, e⟩⟩
    · next e =>
      rw [gt_iff_lt, Int64.lt_iff_toInt_lt, hx, hy] at e
      split
      · next e2 => exact ⟨0, rfl, Or.inr (Or.inl ⟨rfl, by rw [← hx, ← hy, e2]⟩)⟩
      · next e2 =>
        have : ¬ x = y := fun z => e2 (by rw [z])
        exact ⟨-1, rfl, Or.inr (Or.inr ⟨rfl, by omega⟩)⟩
  obtain ⟨z, e, hz⟩ := key
  exact zx_T.s (st' := .int (zI z) :: r) ha (by show some (1, Value.int (lg_cmp (zL x) (zL y)) :: r) = _; rw [e]) (ht z hz)
theorem zr_inc {k : Nat} {n x y : Int} {ls' : zx_L} (ha : zx_at (zx_mi q) pc = some (.iinc k n, 3)) (hk : zx_lk ls k = some (.int (zI x))) (hl : Nat.blt k (zx_ml q) = true) (hy : x + n = y) (e : zx_set1 ls k (.int (zI y)) = ls') (ht : zx_T zp_P d q (pc + 3) ls' r h F) : zx_T zp_P d q pc ls r h F := by
  refine zx_T.t (ls' := ls') (st' := r) ha rfl rfl ?_ ht
  unfold zx_t
  simp only [hk]
  rw [if_pos (by rw [← Nat.blt_eq]; exact hl), ← e, ← hy, zI, zI, Int32.ofInt_add]
/-- branches -/
def zr_c (k : Jvm.ClassFile.Cond) (x y : Int) : Prop := match k with
  | .eq => x = y
  | .ne => ¬ x = y
  | .lt => x < y
  | .ge => y ≤ x
  | .gt => y < x
  | .le => x ≤ y
theorem zr_cm {k : Jvm.ClassFile.Cond} {x y : Int} (h1 : -2147483648 ≤ x) (h2 : x ≤ 2147483647) (h3 : -2147483648 ≤ y) (h4 : y ≤ 2147483647) : zx_cmp k (zI x) (zI y) = true ↔ zr_c k x y := by
  have hx := zI_i h1 h2
  have hy := zI_i h3 h4
  have he : zI x = zI y ↔ x = y := ⟨fun z => by rw [← hx, ← hy, z], fun z => by rw [z]⟩
  unfold zx_cmp zr_c
  cases k <;> simp only [decide_eq_true_eq, Int32.lt_iff_toInt_lt, Int32.le_iff_toInt_le, hx, hy, he]
theorem zr_i1 {k : Jvm.ClassFile.Cond} {off x : Int} {t : Nat} (ha : zx_at (zx_mi q) pc = some (.ifCond k off, 3)) (hg : zx_tg pc off = some t) (h1 : -2147483648 ≤ x) (h2 : x ≤ 2147483647) (ht : zr_c k x 0 → zx_T zp_P d q t ls r h F) (hf : ¬ zr_c k x 0 → zx_T zp_P d q (pc + 3) ls r h F) : zx_T zp_P d q pc ls (.int (zI x) :: r) h F := by
  have hc : zx_cmp k (zI x) 0 = true ↔ zr_c k x 0 := zr_cm (k := k) (y := 0) h1 h2 (by omega) (by omega)
  by_cases c : zr_c k x 0
  · refine zx_T.j (pc' := t) (st' := r) ha rfl rfl rfl ?_ (ht c)
    show (if (3 : Nat) = 3 then (match zx_tg pc off with
      | some t => some (if zx_cmp k (zI x) 0 then t else pc + 3, r)
      | none => none) else none) = _
    rw [if_pos rfl, hg]
    dsimp only
    rw [if_pos (hc.mpr c)]
  · refine zx_T.j (pc' := pc + 3) (st' := r) ha rfl rfl rfl ?_ (hf c)
    show (if (3 : Nat) = 3 then (match zx_tg pc off with
      | some t => some (if zx_cmp k (zI x) 0 then t else pc + 3, r)
      | none => none) else none) = _
    rw [if_pos rfl, hg]
    dsimp only
    rw [if_neg (fun z => c (hc.mp z))]
theorem zr_i2 {k : Jvm.ClassFile.Cond} {off x y : Int} {t : Nat} (ha : zx_at (zx_mi q) pc = some (.if_icmp k off, 3)) (hg : zx_tg pc off = some t) (h1 : -2147483648 ≤ x) (h2 : x ≤ 2147483647) (h3 : -2147483648 ≤ y) (h4 : y ≤ 2147483647) (ht : zr_c k x y → zx_T zp_P d q t ls r h F) (hf : ¬ zr_c k x y → zx_T zp_P d q (pc + 3) ls r h F) : zx_T zp_P d q pc ls (.int (zI y) :: .int (zI x) :: r) h F := by
  have hc := zr_cm (k := k) h1 h2 h3 h4
  by_cases c : zr_c k x y
  · refine zx_T.j (pc' := t) (st' := r) ha rfl rfl rfl ?_ (ht c)
    show (if (3 : Nat) = 3 then (match zx_tg pc off with
      | some t => some (if zx_cmp k (zI x) (zI y) then t else pc + 3, r)
      | none => none) else none) = _
    rw [if_pos rfl, hg]
    dsimp only
    rw [if_pos (hc.mpr c)]
  · refine zx_T.j (pc' := pc + 3) (st' := r) ha rfl rfl rfl ?_ (hf c)
    show (if (3 : Nat) = 3 then (match zx_tg pc off with
      | some t => some (if zx_cmp k (zI x) (zI y) then t else pc + 3, r)
      | none => none) else none) = _
    rw [if_pos rfl, hg]
    dsimp only
    rw [if_neg (fun z => c (hc.mp z))]
/-- a switch at a known number -/
theorem zr_sw {i : Instr} {len t : Nat} {x k : Int} (ha : zx_at (zx_mi q) pc = some (i, len)) (hx : x = k) (e0 : zx_s i (.int (zI k) :: r) = none) (e1 : zx_l i ls = none) (e2 : zx_t i (zx_ml q) ls (.int (zI k) :: r) = none) (e : zx_j i len pc (.int (zI k) :: r) = some (t, r)) (ht : zx_T zp_P d q t ls r h F) : zx_T zp_P d q pc ls (.int (zI x) :: r) h F := by
  subst hx
  exact zx_T.j ha e0 e1 e2 e ht
/-- calls of the reference's own methods -/
theorem zr_iv {idx cj : Nat} {q' : zx_M} {As rest st : List Value} {Fc : Option Value → zx_H → Prop} (ha : zx_at (zx_mi q) pc = some (.invokevirtual idx, 3)) (hp : zx_pc zp_P (zx_mo q) idx = some cj) (hq : (zx_pm zp_P)[cj]? = some q') (hm : zx_mc q' = some 10) (hst : st = As.reverse ++ .ref 44 :: rest) (hl : As.length = zx_mp q') (hcat : (rest.map fun v => v.category).sum ≤ 8) (hml : Nat.ble (zx_ml q') 21 = true) (hsl : (lg_sl (.ref 44 :: As)).length ≤ zx_ml q') (hI : zb_I zc_H h) (hc : zx_T zp_P d q' 0 (lv_args 0 (.ref 44 :: As)) [] h Fc) (ht : ∀ r1 h1, Fc r1 h1 → zx_T zp_P (d + 1) q (pc + 3) ls (r1.toList ++ rest) h1 F) : zx_T zp_P (d + 1) q pc ls st h F := by
  obtain ⟨fs, hfs, _⟩ := zr_o hI
  have hdrop : st.drop (zx_mp q') = .ref 44 :: rest := by rw [hst, ← hl, ← List.length_reverse, List.drop_left]
  have htake : st.take (zx_mp q') = As.reverse := by rw [hst, ← hl, ← List.length_reverse, List.take_left]
  refine zx_T.c (cj := cj) (as := .ref 44 :: As) (rest := rest) (q' := q') ha rfl rfl rfl rfl rfl rfl rfl ?_ hq hc ht
  unfold zx_k
  simp only [hp, hq, hdrop, hfs, htake, List.reverse_reverse]
  rw [if_pos ⟨trivial, hm, by rw [List.length_reverse]; exact hl, hcat, Nat.le_of_ble_eq_true hml, hsl⟩]
theorem zr_is {idx cj : Nat} {q' : zx_M} {As rest st : List Value} {Fc : Option Value → zx_H → Prop} (ha : zx_at (zx_mi q) pc = some (.invokestatic idx, 3)) (hp : zx_pc zp_P (zx_mo q) idx = some cj) (hq : (zx_pm zp_P)[cj]? = some q') (hm : zx_mc q' = none) (hst : st = As.reverse ++ rest) (hl : As.length = zx_mp q') (hcat : (rest.map fun v => v.category).sum ≤ 8) (hml : Nat.ble (zx_ml q') 21 = true) (hsl : (lg_sl As).length ≤ zx_ml q') (e6 : zx_n zp_P (zx_mo q) (.invokestatic idx) 3 st = none) (hc : zx_T zp_P d q' 0 (lv_args 0 As) [] h Fc) (ht : ∀ r1 h1, Fc r1 h1 → zx_T zp_P (d + 1) q (pc + 3) ls (r1.toList ++ rest) h1 F) : zx_T zp_P (d + 1) q pc ls st h F := by
  have hdrop : st.drop (zx_mp q') = rest := by rw [hst, ← hl, ← List.length_reverse, List.drop_left]
  have htake : st.take (zx_mp q') = As.reverse := by rw [hst, ← hl, ← List.length_reverse, List.take_left]
  refine zx_T.c (cj := cj) (as := As) (rest := rest) (q' := q') ha rfl rfl rfl rfl rfl rfl e6 ?_ hq hc ht
  unfold zx_k
  simp only [hp, hq, hdrop, htake, List.reverse_reverse]
  rw [if_pos ⟨trivial, hm, by rw [List.length_reverse]; exact hl, hcat, Nat.le_of_ble_eq_true hml, hsl⟩]
theorem zr_ir {x : Int} {ty : FieldType} (ha : zx_at (zx_mi q) pc = some (.ireturn, 1)) (hr : zx_mr q = some ty) (hn : narrow ty (.int (zI x)) = .int (zI x)) (hf : F (some (.int (zI x))) h) : zx_T zp_P d q pc ls [.int (zI x)] h F :=
  zx_T.r (r := some (.int (zI x))) ha rfl rfl rfl rfl rfl (by unfold zx_r; simp only [hr]; rw [if_pos ⟨trivial, hn⟩]) hf
theorem zr_nb {x : Int} (h1 : 0 ≤ x) (h2 : x ≤ 1) : narrow .boolean (.int (zI x)) = .int (zI x) := by
  rcases (show x = 0 ∨ x = 1 by omega) with rfl | rfl <;> decide +kernel
theorem zr_vr (ha : zx_at (zx_mi q) pc = some (.return_, 1)) (hr : zx_mr q = none) (hf : F none h) : zx_T zp_P d q pc ls [] h F :=
  zx_T.r (r := none) ha rfl rfl rfl rfl rfl (by unfold zx_r; simp only [hr]; rfl) hf
end ZR
/-- what methods leave: pure; with an int; with nothing -/
def zr_P (h : zx_H) (E : Int → Prop) : Option Value → zx_H → Prop := fun r h' => h = h' ∧ ∃ e, r = some (.int (zI e)) ∧ E e
def zr_R (W : List (Nat × Nat)) (h : zx_H) (E : Int → zx_H → Prop) : Option Value → zx_H → Prop := fun r h' => zb_I zc_H h' ∧ zb_W W h h' ∧ ∃ e, r = some (.int (zI e)) ∧ E e h'
def zr_V (W : List (Nat × Nat)) (h : zx_H) (E : zx_H → Prop) : Option Value → zx_H → Prop := fun r h' => zb_I zc_H h' ∧ zb_W W h h' ∧ r = none ∧ E h'
