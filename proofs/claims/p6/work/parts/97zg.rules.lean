/-! ===== 97zg: numbers that wrap ===== -/
def zi32 (x : Int) : Int := (zI x).toInt
def zi64 (x : Int) : Int := (zL x).toInt
def zi7 (x : Int) : Int := (zL x &&& 7).toInt
theorem zi32_r (x : Int) : -2147483648 ≤ zi32 x ∧ zi32 x ≤ 2147483647 := by
  have h1 := Int32.le_toInt (zI x)
  have h2 := Int32.toInt_lt (zI x)
  unfold zi32
  omega
theorem zi64_r (x : Int) : -9223372036854775808 ≤ zi64 x ∧ zi64 x ≤ 9223372036854775807 := by
  have h1 := Int64.le_toInt (zL x)
  have h2 := Int64.toInt_lt (zL x)
  unfold zi64
  omega
theorem zI_32 (x : Int) : zI (zi32 x) = zI x := Int32.ofInt_toInt _
theorem zL_64 (x : Int) : zL (zi64 x) = zL x := Int64.ofInt_toInt _
theorem zi32_i {x : Int} (h1 : -2147483648 ≤ x) (h2 : x ≤ 2147483647) : zi32 x = x := zI_i h1 h2
theorem zi64_i {x : Int} (h1 : -9223372036854775808 ≤ x) (h2 : x ≤ 9223372036854775807) : zi64 x = x := zL_i h1 h2
theorem zi32_64 (x : Int) : zi32 (zi64 x) = zi32 x := by
  unfold zi32 zi64
  have e : zI (zL x).toInt = zI x := by
    have e1 : (zL (zL x).toInt).toInt32 = (zL x).toInt32 := by rw [show zL (zL x).toInt = zL x from Int64.ofInt_toInt _]
    rw [zL, Int64.toInt32_ofInt, zL, Int64.toInt32_ofInt] at e1
    exact e1
  rw [e]
theorem zi32_32 (x : Int) : zi32 (zi32 x) = zi32 x := zi32_i (zi32_r x).1 (zi32_r x).2
theorem zi7_r (x : Int) : 0 ≤ zi7 x ∧ zi7 x ≤ 7 := by
  unfold zi7
  have e1 : (zL x &&& 7).toInt = ((zL x).toBitVec &&& 7#64).toInt := rfl
  have e2 : ((zL x).toBitVec &&& 7#64).toNat ≤ 7 := by
    rw [BitVec.toNat_and]; exact Nat.and_le_right
  rw [e1, BitVec.toInt_eq_toNat_of_lt (by omega)]
  omega
section ZG
variable {d pc : Nat} {q : zx_M} {ls : zx_L} {r : List Value} {h : zx_H} {F : Option Value → zx_H → Prop}
theorem zr_n32 {x : Int} (ht : -2147483648 ≤ zi32 x → zi32 x ≤ 2147483647 → zx_T zp_P d q pc ls (.int (zI (zi32 x)) :: r) h F) : zx_T zp_P d q pc ls (.int (zI x) :: r) h F := by
  have z := ht (zi32_r x).1 (zi32_r x).2
  rw [zI_32] at z
  exact z
theorem zr_n64 {x : Int} (ht : -9223372036854775808 ≤ zi64 x → zi64 x ≤ 9223372036854775807 → zx_T zp_P d q pc ls (.long (zL (zi64 x)) :: r) h F) : zx_T zp_P d q pc ls (.long (zL x) :: r) h F := by
  have z := ht (zi64_r x).1 (zi64_r x).2
  rw [zL_64] at z
  exact z
theorem zr_div32 {x y : Int} (ha : zx_at (zx_mi q) pc = some (.idiv, 1)) (h1 : -2147483648 ≤ x) (h2 : x ≤ 2147483647) (h3 : -2147483648 ≤ y) (h4 : y ≤ 2147483647) (h5 : ¬ y = 0) (ht : -2147483648 ≤ zi32 (x.tdiv y) → zi32 (x.tdiv y) ≤ 2147483647 → zx_T zp_P d q (pc + 1) ls (.int (zI (zi32 (x.tdiv y))) :: r) h F) : zx_T zp_P d q pc ls (.int (zI y) :: .int (zI x) :: r) h F := by
  have hy : ¬ zI y = 0 := fun e => h5 (by have := zI_i h3 h4; rw [e] at this; exact this.symm)
  have e9 : zI x / zI y = zI (zi32 (x.tdiv y)) := by
    rw [zI_32]
    exact Int32.toInt_inj.mp (by rw [Int32.toInt_div, zI_i h1 h2, zI_i h3 h4, zI, Int32.toInt_ofInt])
  refine zx_T.s (st' := .int (zI (zi32 (x.tdiv y))) :: r) ha ?_ (ht (zi32_r _).1 (zi32_r _).2)
  show (if zI y = 0 then none else some (1, Value.int (zI x / zI y) :: r)) = _
  rw [if_neg hy, e9]
theorem zr_div64 {x y : Int} (ha : zx_at (zx_mi q) pc = some (.ldiv, 1)) (h1 : -9223372036854775808 ≤ x) (h2 : x ≤ 9223372036854775807) (h3 : -9223372036854775808 ≤ y) (h4 : y ≤ 9223372036854775807) (h5 : ¬ y = 0) (ht : zx_T zp_P d q (pc + 1) ls (.long (zL (x.tdiv y)) :: r) h F) : zx_T zp_P d q pc ls (.long (zL y) :: .long (zL x) :: r) h F := by
  have hy : ¬ zL y = 0 := fun e => h5 (by have := zL_i h3 h4; rw [e] at this; exact this.symm)
  have e9 : zL x / zL y = zL (x.tdiv y) := Int64.toInt_inj.mp (by rw [Int64.toInt_div, zL_i h1 h2, zL_i h3 h4, zL, Int64.toInt_ofInt])
  refine zx_T.s (st' := .long (zL (x.tdiv y)) :: r) ha ?_ ht
  show (if zL y = 0 then none else some (1, Value.long (zL x / zL y) :: r)) = _
  rw [if_neg hy, e9]
theorem zr_and7x {x : Int} (ha : zx_at (zx_mi q) pc = some (.land, 1)) (ht : 0 ≤ zi7 x → zi7 x ≤ 7 → zx_T zp_P d q (pc + 1) ls (.long (zL (zi7 x)) :: r) h F) : zx_T zp_P d q pc ls (.long 7 :: .long (zL x) :: r) h F := by
  refine zx_T.s (st' := .long (zL (zi7 x)) :: r) ha ?_ (ht (zi7_r x).1 (zi7_r x).2)
  show some (1, Value.long (zL x &&& 7) :: r) = _
  rw [show zL (zi7 x) = zL x &&& 7 from Int64.ofInt_toInt _]
theorem zr_pl2 {idx k : Nat} {e : Int} (ha : zx_at (zx_mi q) pc = some (.putfield idx, 3)) (hp : zx_pf zp_P (zx_mo q) idx = some (10, k)) (hk : zr_f k = some (.inr (.inl ()))) (hty : za_pty zp_P (zx_mo q) idx = some .long) (hI : zb_I zc_H h) (h1 : -9223372036854775808 ≤ e) (h2 : e ≤ 9223372036854775807) (ht : ∀ h', zb_I zc_H h' → zb_W [(44, k)] h h' → zv_l h' k = e → zx_T zp_P d q (pc + 3) ls r h' F) : zx_T zp_P d q pc ls (.long (zL e) :: .ref 44 :: r) h F := by
  obtain ⟨h', p1, p2, p3, p4⟩ := zr_put hp hk hty (v := .long (zL e)) ⟨rfl, rfl⟩ ⟨zL e, rfl⟩ hI
  refine zx_T.g (st' := r) (h' := h') ha rfl rfl rfl rfl ?_ (ht h' p2 p3 (by unfold zv_l; rw [p4]; exact zL_i h1 h2))
  show (zx_pu zp_P (zx_mo q) idx 44 (.long (zL e)) h).map _ = _
  rw [p1]; rfl
theorem zw_pl2 {a idx k ci : Nat} {e : Int} (ha : zx_at (zx_mi q) pc = some (.putfield idx, 3)) (hp : zx_pf zp_P (zx_mo q) idx = some (ci, k)) (hk : zw_f a k = some (ci, .inr (.inl ()))) (hty : za_pty zp_P (zx_mo q) idx = some .long) (hI : zb_I zc_H h) (h1 : -9223372036854775808 ≤ e) (h2 : e ≤ 9223372036854775807) (ht : ∀ h', zb_I zc_H h' → zb_W [(a, k)] h h' → zv_fl h' a k = e → zx_T zp_P d q (pc + 3) ls r h' F) : zx_T zp_P d q pc ls (.long (zL e) :: .ref a :: r) h F :=
  zw_pl ha hp hk hty hI (fun h' a1 a2 a3 => ht h' a1 a2 (a3.trans (zL_i h1 h2)))
theorem zr_ls2 {a n : Nat} {lo hi i e : Int} (ha : zx_at (zx_mi q) pc = some (.lastore, 1)) (hc : zc_H[a]? = some (.inl (1, n, lo, hi))) (hn : Nat.ble n 100000 = true) (hI : zb_I zc_H h) (h1 : 0 ≤ i) (h2 : i < n) (h3 : -9223372036854775808 ≤ e) (h4 : e ≤ 9223372036854775807) (ht : ∀ h', zb_I zc_H h' → zb_W [(a, 0)] h h' → (∀ j, 0 ≤ j → zv_b h' a j = if j = i then e else zv_b h a j) → zx_T zp_P d q (pc + 1) ls r h' F) : zx_T zp_P d q pc ls (.long (zL e) :: .int (zI i) :: .ref a :: r) h F :=
  zr_ls ha hc hn hI h1 h2 (fun h' a1 a2 a3 => ht h' a1 a2 (fun j j0 => by rw [a3 j j0, zL_i h3 h4]))
end ZG
def zr_Q (h : zx_H) (E : Int → Prop) : Option Value → zx_H → Prop := fun r h' => h = h' ∧ ∃ e, r = some (.long (zL e)) ∧ E e
/-- the first handler that takes such a fault; -1 -/
def zk_tk (hn : Int) (fr to tk : Int → Int) (p k e : Int) : Prop := (e = -1 ∧ ∀ t, 0 ≤ t → t < hn → ¬ ((fr t ≤ p ∧ p < to t) ∧ zc_g k (tk t))) ∨ ((0 ≤ e ∧ e < hn) ∧ ((fr e ≤ p ∧ p < to e) ∧ zc_g k (tk e)) ∧ ∀ t, 0 ≤ t → t < e → ¬ ((fr t ≤ p ∧ p < to t) ∧ zc_g k (tk t)))
theorem zk_tk.u {hn : Int} {fr to tk : Int → Int} {p k e1 e2 : Int} (a : zk_tk hn fr to tk p k e1) (b : zk_tk hn fr to tk p k e2) : e1 = e2 := by
  rcases a with a | a
  · rcases b with b | b
    · rw [a.1, b.1]
    · exact absurd b.2.1 (a.2 e2 b.1.1 b.1.2)
  · rcases b with b | b
    · exact absurd a.2.1 (b.2 e1 a.1.1 a.1.2)
    · rcases Int.lt_trichotomy e1 e2 with z | z | z
      · exact absurd a.2.1 (b.2.2 e1 a.1.1 z)
      · exact z
      · exact absurd b.2.1 (a.2.2 e2 b.1.1 z)
