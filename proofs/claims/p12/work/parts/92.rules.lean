/-! ===== 92: rules that the class's own methods want besides ===== -/
theorem zw_sn {h : zx_H} (hI : zb_I zc_H h) {a : Nat} (ha : Nat.ble 1000 a = true) : h[a]? = none := by
  have e : h.length = zc_H.length := zb_A.len hI
  have e2 : zc_H.length ≤ 1000 := by decide
  have e3 := Nat.le_of_ble_eq_true ha
  exact List.getElem?_eq_none_iff.mpr (by omega)
section ZWR
variable {d pc : Nat} {q : zx_M} {ls : zx_L} {r : List Value} {h : zx_H} {F : Option Value → zx_H → Prop}
theorem zw_gs {idx k : Nat} (ha : zx_at (zx_mi q) pc = some (.getstatic idx, 3)) (hp : zx_ps zp_P (zx_mo q) idx = some k) (ht : zx_T zp_P d q (pc + 3) ls (.ref k :: r) h F) : zx_T zp_P d q pc ls r h F := by
  refine zx_T.g (st' := .ref k :: r) (h' := h) ha rfl rfl rfl rfl ?_ ht
  show (zx_ps zp_P (zx_mo q) idx).map _ = _
  rw [hp]; rfl
theorem zw_sl {a n : Nat} {f : Nat → Int32} {e : Int} (ha : zx_at (zx_mi q) pc = some (.arraylength, 1)) (hI : zb_I zc_H h) (hb : Nat.ble 1000 a = true) (hp : zx_pa zp_P a = some (n, f)) (he : Int32.ofNat n = zI e) (ht : zx_T zp_P d q (pc + 1) ls (.int (zI e) :: r) h F) : zx_T zp_P d q pc ls (.ref a :: r) h F := by
  refine zx_T.g (st' := .int (zI e) :: r) (h' := h) ha rfl rfl rfl rfl ?_ ht
  simp only [zx_g, zw_sn hI hb, hp, he]
theorem zw_sa {a n : Nat} {f : Nat → Int32} {i e : Int} (ha : zx_at (zx_mi q) pc = some (.iaload, 1)) (hI : zb_I zc_H h) (hb : Nat.ble 1000 a = true) (hp : zx_pa zp_P a = some (n, f)) (hn : Nat.ble n 100000 = true) (h1 : 0 ≤ i) (h2 : i < n) (he : f i.toNat = zI e) (ht : zx_T zp_P d q (pc + 1) ls (.int (zI e) :: r) h F) : zx_T zp_P d q pc ls (.int (zI i) :: .ref a :: r) h F := by
  obtain ⟨x1, x2⟩ := zr_ix h1 h2 (Nat.le_of_ble_eq_true hn)
  refine zx_T.g (st' := .int (zI e) :: r) (h' := h) ha rfl rfl rfl rfl ?_ ht
  simp only [zx_g, zw_sn hI hb, hp]
  rw [if_neg x1, x2, he]
theorem zw_len {a t n : Nat} {lo hi e : Int} (ha : zx_at (zx_mi q) pc = some (.arraylength, 1)) (hc : zc_H[a]? = some (.inl (t, n, lo, hi))) (ht0 : t = 0) (he : Int32.ofNat n = zI e) (hI : zb_I zc_H h) (ht : zx_T zp_P d q (pc + 1) ls (.int (zI e) :: r) h F) : zx_T zp_P d q pc ls (.ref a :: r) h F := by
  subst ht0
  obtain ⟨f, e1, _, _⟩ := zr_fa hI hc (by omega)
  refine zx_T.g (st' := .int (zI e) :: r) (h' := h) ha rfl rfl rfl rfl ?_ ht
  simp only [zx_g, e1, he]
  rfl
theorem zI_and15 {x : Int} (x0 : 0 ≤ x) (x1 : x ≤ 2147483647) : zI x &&& zI 15 = zI (x % 16) := by
  have a1 := zI_i (x := x) (by omega) x1
  have a2 := zI_i (x := x % 16) (by omega) (by omega)
  have n1 : (zI x).toBitVec.toNat = x.toNat := by
    have z : (zI x).toBitVec.toInt = x := a1
    have z2 := BitVec.toInt_eq_toNat_cond (zI x).toBitVec
    have z3 := (zI x).toBitVec.isLt
    rw [z] at z2
    split at z2 <;> omega
  have e2 : ((zI x).toBitVec &&& 15#32).toNat = x.toNat % 16 := by
    rw [BitVec.toNat_and, n1]
    exact Nat.and_two_pow_sub_one_eq_mod x.toNat 4
  apply Int32.toInt_inj.mp
  rw [a2]
  show ((zI x).toBitVec &&& 15#32).toInt = _
  rw [BitVec.toInt_eq_toNat_of_lt (by omega), e2]
  omega
theorem zI_ushr4 {x : Int} (x0 : 0 ≤ x) (x1 : x ≤ 2147483647) : ((zI x).toUInt32 >>> ((zI 4).toUInt32 &&& Int32.toUInt32 31)).toInt32 = zI (x / 16) := by
  have a1 := zI_i (x := x) (by omega) x1
  have a2 := zI_i (x := x / 16) (by omega) (by omega)
  have n1 : (zI x).toBitVec.toNat = x.toNat := by
    have z : (zI x).toBitVec.toInt = x := a1
    have z2 := BitVec.toInt_eq_toNat_cond (zI x).toBitVec
    have z3 := (zI x).toBitVec.isLt
    rw [z] at z2
    split at z2 <;> omega
  have e0 : (zI 4).toUInt32 &&& Int32.toUInt32 31 = 4 := by decide
  rw [e0]
  have e2 : ((zI x).toUInt32 >>> (4 : UInt32)).toBitVec.toNat = x.toNat / 16 := by
    have z : ((zI x).toUInt32 >>> (4 : UInt32)).toNat = (zI x).toUInt32.toNat >>> 4 := UInt32.toNat_shiftRight _ _
    have z2 : (zI x).toUInt32.toNat = x.toNat := n1
    rw [z2, Nat.shiftRight_eq_div_pow] at z
    exact z
  apply Int32.toInt_inj.mp
  rw [a2]
  show ((zI x).toUInt32 >>> (4 : UInt32)).toBitVec.toInt = _
  rw [BitVec.toInt_eq_toNat_of_lt (by omega), e2]
  omega
theorem zw_and {x e : Int} (ha : zx_at (zx_mi q) pc = some (.iand, 1)) (x0 : 0 ≤ x) (x1 : x ≤ 2147483647) (he : x % 16 = e) (ht : zx_T zp_P d q (pc + 1) ls (.int (zI e) :: r) h F) : zx_T zp_P d q pc ls (.int (zI 15) :: .int (zI x) :: r) h F := by
  subst he
  exact zx_T.s (i := .iand) (st' := .int (zI (x % 16)) :: r) ha (by show some (1, Value.int (zI x &&& zI 15) :: r) = _; rw [zI_and15 x0 x1]) ht
theorem zw_ushr {x e : Int} (ha : zx_at (zx_mi q) pc = some (.iushr, 1)) (x0 : 0 ≤ x) (x1 : x ≤ 2147483647) (he : x / 16 = e) (ht : zx_T zp_P d q (pc + 1) ls (.int (zI e) :: r) h F) : zx_T zp_P d q pc ls (.int (zI 4) :: .int (zI x) :: r) h F := by
  subst he
  exact zx_T.s (i := .iushr) (st' := .int (zI (x / 16)) :: r) ha (by show some (1, Value.int (((zI x).toUInt32 >>> ((zI 4).toUInt32 &&& Int32.toUInt32 31)).toInt32) :: r) = _; rw [zI_ushr4 x0 x1]) ht
end ZWR
/-- the static rows -/
theorem zw_tk {o : Int} (o0 : 0 ≤ o) (o1 : o ≤ 28) : zp_a0.getD o.toNat 0 = zI (zc_tk o) := by
  rcases zs_ops ⟨o0, o1⟩ with e | e | e | e | e | e | e | e | e | e | e | e | e | e | e | e | e | e | e | e | e | e | e | e | e | e | e | e | e <;> subst e <;> decide
theorem zw_gv0 {o a : Int} (c : ¬ o = 21) : zc_gv o a = zc_gv o 0 := by
  unfold zc_gv
  rw [if_neg c, if_neg c]
theorem zw_gv {o a : Int} (o0 : 0 ≤ o) (o1 : o ≤ 28) (c : ¬ o = 21) : zp_a1.getD o.toNat 0 = zI (zc_gv o a) := by
  rw [zw_gv0 c]
  rcases zs_ops ⟨o0, o1⟩ with e | e | e | e | e | e | e | e | e | e | e | e | e | e | e | e | e | e | e | e | e | e | e | e | e | e | e | e | e <;> subst e <;> first | exact absurd rfl c | decide
theorem zw_gvr {o a : Int} (o0 : 0 ≤ o) (o1 : o ≤ 28) (c : ¬ o = 21) : 0 ≤ zc_gv o a ∧ zc_gv o a ≤ 8 := by
  rw [zw_gv0 c]
  rcases zs_ops ⟨o0, o1⟩ with e | e | e | e | e | e | e | e | e | e | e | e | e | e | e | e | e | e | e | e | e | e | e | e | e | e | e | e | e <;> subst e <;> first | exact absurd rfl c | decide
theorem zw_tkr {o : Int} (o0 : 0 ≤ o) (o1 : o ≤ 28) : 0 ≤ zc_tk o ∧ zc_tk o ≤ 8995 := by
  rcases zs_ops ⟨o0, o1⟩ with e | e | e | e | e | e | e | e | e | e | e | e | e | e | e | e | e | e | e | e | e | e | e | e | e | e | e | e | e <;> subst e <;> decide
section ZWS
variable {d pc : Nat} {q : zx_M} {ls : zx_L} {r : List Value} {h : zx_H} {F : Option Value → zx_H → Prop}
theorem zw_swd {d0 lo hi : Int} {offs : Array Int} {len t : Nat} {x : Int} (ha : zx_at (zx_mi q) pc = some (.tableswitch d0 lo hi offs, len)) (hx : x < lo ∨ hi < x) (x0 : -2147483648 ≤ x) (x1 : x ≤ 2147483647) (e : zx_tg pc d0 = some t) (ht : zx_T zp_P d q t ls r h F) : zx_T zp_P d q pc ls (.int (zI x) :: r) h F := by
  refine zx_T.j (i := .tableswitch d0 lo hi offs) (k := len) (pc' := t) (st' := r) ha rfl rfl rfl ?_ ht
  show (if (zI x).toInt < lo ∨ hi < (zI x).toInt then (zx_tg pc d0).map (fun t => (t, r)) else _) = _
  rw [zI_i x0 x1, if_pos hx, e]
  rfl
end ZWS
