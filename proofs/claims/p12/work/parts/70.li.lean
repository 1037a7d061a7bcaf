/-! ===== 70: what holds between calls; what each call keeps (by program) ===== -/
def zn_sb (W : List (Nat × Nat)) : Bool := za_in W 45 0 || za_in W 46 0 || za_in W 51 0 || za_in W 55 0 || za_in W 44 13 || zg_in9 W || za_in W 44 19 || za_in W 57 0 || za_in W 54 0 || za_in W 44 41
def zn_sr (W : List (Nat × Nat)) : Bool := za_in W 1 3 || za_in W 1 8 || za_in W 1 10 || za_in W 44 1 || za_in W 44 5 || za_in W 44 10 || za_in W 35 0 || za_in W 53 0
/-- the reference's own -/
def zn_B (h : zx_H) : Prop := zb_I zc_H h ∧ zg_CI h ∧ zg_TI h ∧ zg_KI h ∧ (zv_i h 13 = 1 → zg_C h) ∧ 0 ≤ zv_i h 41
/-- between class and reference -/
def zn_R (h : zx_H) : Prop := zv_f h 1 3 = zv_i h 1 ∧ zv_f h 1 8 = zv_i h 5 ∧ zv_f h 1 10 = zv_i h 10 ∧ ∀ j, 0 ≤ j → zv_b h 35 j = zv_b h 53 j
def zn_L (h : zx_H) : Prop := zn_B h ∧ zn_R h
theorem zn_B.w {W : List (Nat × Nat)} {h h' : zx_H} (a : zn_B h) (i : zb_I zc_H h') (w : zb_W W h h') (e : zn_sb W = false) : zn_B h' := by
  obtain ⟨_, a2, a3, a4, a5, a6⟩ := a
  unfold zn_sb at e
  simp only [Bool.or_eq_false_iff] at e
  obtain ⟨⟨⟨⟨⟨⟨⟨⟨⟨e1, e2⟩, e3⟩, e4⟩, e5⟩, e6⟩, e7⟩, e8⟩, e9⟩, e10⟩ := e
  exact ⟨i, a2.w w e1 e2, a3.w w e3, a4.w w e4, fun z => (a5 (by rw [← zv_wi w e5]; exact z)).w w e6 e7 e8 e9, by rw [zv_wi w e10]; exact a6⟩
theorem zn_R.w {W : List (Nat × Nat)} {h h' : zx_H} (a : zn_R h) (w : zb_W W h h') (e : zn_sr W = false) : zn_R h' := by
  obtain ⟨a1, a2, a3, a4⟩ := a
  unfold zn_sr at e
  simp only [Bool.or_eq_false_iff] at e
  obtain ⟨⟨⟨⟨⟨⟨⟨e1, e2⟩, e3⟩, e4⟩, e5⟩, e6⟩, e7⟩, e8⟩ := e
  exact ⟨by rw [zv_wf w e1, zv_wi w e4]; exact a1, by rw [zv_wf w e2, zv_wi w e5]; exact a2, by rw [zv_wf w e3, zv_wi w e6]; exact a3, fun j j0 => by rw [zv_wb w e7, zv_wb w e8]; exact a4 j j0⟩
theorem zn_ti (a : Int32) : zb_T (.int a) (.inl (-2147483648, 2147483647)) := ⟨a, rfl, by have := Int32.le_toInt a; dsimp only; omega, by have := Int32.toInt_lt a; dsimp only; omega⟩
def zn_i (k : za_K) : Bool := k.2.2.2.1.all (fun c => match c.1 with | some (.inl _) => true | _ => false)
def zn_l (k : za_K) : Bool := k.2.2.2.1.all (fun c => match c.1 with | some (.inr (.inl _)) => true | _ => false)
theorem zn_k {k : za_K} (hK : zb_K zp_P zc_H k) {q : zx_M} (hq : (zx_pm zp_P)[k.1]? = some q) (sb : zn_sb k.2.2.2.2 = false) (sr : zn_sr k.2.2.2.2 = false) (hi : zn_i k = true) {vs : List Value} {h : zx_H} (hL : zn_L h) (ha : zb_A zb_T vs k.2.2.1) : zx_T zp_P k.2.1 q 0 (lv_args 0 vs) [] h (fun r h1 => (∃ v, r = some (.int v)) ∧ zn_L h1) :=
  (hK q hq vs h ha hL.1.1).im fun r h' ⟨h1, h2, _, c, h4, h5, _⟩ => by
    refine ⟨?_, hL.1.w h1 h2 sb, hL.2.w h2 sr⟩
    have h6 := List.all_eq_true.mp hi c h4
    split at h6
    · next z e =>
      rw [e] at h5
      cases r with
      | none => exact h5.elim
      | some v => obtain ⟨x, rfl, _⟩ := h5; exact ⟨x, rfl⟩
    · cases h6
theorem zn_kl {k : za_K} (hK : zb_K zp_P zc_H k) {q : zx_M} (hq : (zx_pm zp_P)[k.1]? = some q) (sb : zn_sb k.2.2.2.2 = false) (sr : zn_sr k.2.2.2.2 = false) (hi : zn_l k = true) {vs : List Value} {h : zx_H} (hL : zn_L h) (ha : zb_A zb_T vs k.2.2.1) : zx_T zp_P k.2.1 q 0 (lv_args 0 vs) [] h (fun r h1 => (∃ v, r = some (.long v)) ∧ zn_L h1) :=
  (hK q hq vs h ha hL.1.1).im fun r h' ⟨h1, h2, _, c, h4, h5, _⟩ => by
    refine ⟨?_, hL.1.w h1 h2 sb, hL.2.w h2 sr⟩
    have h6 := List.all_eq_true.mp hi c h4
    split at h6
    · next z e =>
      rw [e] at h5
      cases r with
      | none => exact h5.elim
      | some v => obtain ⟨x, rfl⟩ := h5; exact ⟨x, rfl⟩
    · cases h6
theorem zn_r (a : Int32) : -2147483648 ≤ a.toInt ∧ a.toInt ≤ 2147483647 := by
  have h1 := Int32.le_toInt a
  have h2 := Int32.toInt_lt a
  omega
theorem zg_C.x {h h' : zx_H} (a : zg_C h) (e1 : zv_i h' 5 = zv_i h 5) (e2 : ∀ j, 0 ≤ j → zv_a h' 48 j = zv_a h 48 j ∧ zv_a h' 49 j = zv_a h 49 j ∧ zv_a h' 50 j = zv_a h 50 j) (e3 : zv_i h' 1 = zv_i h 1) (e4 : ∀ j, 0 ≤ j → zv_a h' 45 j = zv_a h 45 j ∧ zv_a h' 46 j = zv_a h 46 j ∧ zv_a h' 47 j = zv_a h 47 j) (e5 : ∀ j, zv_a h' 54 j = zv_a h 54 j) (e6 : zv_i h' 19 = zv_i h 19) (e7 : ∀ j, zv_a h' 57 j = zv_a h 57 j) : zg_C h' := by
  intro p p0 p1 p2
  rw [e3] at p1
  rw [e5] at p2
  obtain ⟨a1, a2, a3⟩ := a p p0 p1 p2
  obtain ⟨f1, f2, f3⟩ := e4 p p0
  have fa : ∀ x, zg_fa h x → zg_fa h' x := fun x ⟨f, g0, g1, g2⟩ => ⟨f, g0, by rw [e6]; exact g1, by rw [e7]; exact g2⟩
  refine ⟨fun i i0 i1 i2 i3 => ?_, fun z1 z2 => ?_, fun z => ?_⟩
  · obtain ⟨g1, g2, g3⟩ := e2 i i0
    rw [g3]
    rw [e1] at i1
    rw [g1] at i2
    rw [g2] at i3
    exact fa _ (a1 i i0 i1 i2 i3)
  · rw [f2]
    rw [f1] at z1 z2
    exact fa _ (a2 z1 z2)
  · rw [f3]
    rw [f1] at z
    exact fa _ (a3 z)

theorem zn_make {h : zx_H} (hL : zn_L h) : zx_T zp_P 5 zp_m176 0 (lv_args 0 [.ref 44]) [] h (fun r h1 => (∃ v, r = some (.int v)) ∧ zn_L h1) :=
  (zm_make hL.1.1 hL.1.2.2.2.1 hL.1.2.1 hL.1.2.2.1).im fun r h1 ⟨i1, w1, e, r1, x⟩ =>
    ⟨⟨_, r1⟩, ⟨i1, hL.1.2.1.w w1 rfl rfl, hL.1.2.2.1.w w1 rfl, x.1, x.2, by rw [zv_wi w1 rfl]; exact hL.1.2.2.2.2.2⟩, hL.2.w w1 rfl⟩
theorem zn_judge {h : zx_H} (hL : zn_L h) : zx_T zp_P 5 zp_m186 0 (lv_args 0 [.ref 44]) [] h (fun r h1 => (∃ v, r = some (.int v)) ∧ zn_L h1) :=
  (zm_judge hL.1.1 hL.1.2.1 hL.1.2.2.2.2.1).im fun r h1 ⟨i1, w1, e, r1, x⟩ => ⟨⟨_, r1⟩, hL.1.w i1 w1 rfl, hL.2.w w1 rfl⟩
theorem zn_packed {h : zx_H} (hL : zn_L h) : zx_T zp_P 3 zp_m194 0 (lv_args 0 [.ref 44]) [] h (fun r h1 => (∃ v, r = some (.int v)) ∧ zn_L h1) :=
  (zm_packed hL.1.1).im fun r h1 ⟨i1, w1, e, r1, x⟩ => ⟨⟨_, r1⟩, hL.1.w i1 w1 rfl, hL.2.w w1 rfl⟩
theorem zn_run {h : zx_H} (hL : zn_L h) (a : Int32) : zx_T zp_P 8 zp_m217 0 (lv_args 0 [.ref 44, .int a]) [] h (fun r h1 => (∃ v, r = some (.int v)) ∧ zn_L h1) := by
  have z := zm_run hL.1.1 (m := a.toInt) (zn_r a).1 (zn_r a).2 hL.1.2.1 hL.1.2.2.2.2.2
  simp only [zI, Int32.ofInt_toInt] at z
  exact z.im fun r h1 ⟨i1, w1, e, r1, x⟩ => ⟨⟨_, r1⟩, ⟨i1, hL.1.2.1.w w1 rfl rfl, hL.1.2.2.1.w w1 rfl, hL.1.2.2.2.1.w w1 rfl, fun z => (hL.1.2.2.2.2.1 (by rw [← zv_wi w1 rfl]; exact z)).w w1 rfl rfl rfl rfl, x⟩, hL.2.w w1 rfl⟩

set_option maxRecDepth 100000 in
theorem zn_c_make {h : zx_H} (hL : zn_L h)  : zx_T zp_P 7 zp_m139 0 (lv_args 0 [.ref 0]) [] h (fun r h1 => (∃ v, r = some (.int v)) ∧ zn_L h1) :=
  zn_k (k := zc_a68) zc_ao68 (q := zp_m139) rfl rfl rfl rfl hL ⟨rfl, trivial⟩

set_option maxRecDepth 100000 in
theorem zn_c_fault {h : zx_H} (hL : zn_L h)  : zx_T zp_P 0 zp_m140 0 (lv_args 0 [.ref 0]) [] h (fun r h1 => (∃ v, r = some (.int v)) ∧ zn_L h1) :=
  zn_k (k := zc_a69) zc_ao69 (q := zp_m140) rfl rfl rfl rfl hL ⟨rfl, trivial⟩

set_option maxRecDepth 100000 in
theorem zn_c_kind {h : zx_H} (hL : zn_L h) (x0 : Int32) (x1 : Int32) : zx_T zp_P 3 zp_m141 0 (lv_args 0 [.ref 0, .int x0, .int x1]) [] h (fun r h1 => (∃ v, r = some (.int v)) ∧ zn_L h1) :=
  zn_k (k := zc_a73) zc_ao73 (q := zp_m141) rfl rfl rfl rfl hL ⟨rfl, zn_ti x0, zn_ti x1, trivial⟩

set_option maxRecDepth 100000 in
theorem zn_c_size {h : zx_H} (hL : zn_L h) (x0 : Int32) : zx_T zp_P 2 zp_m142 0 (lv_args 0 [.ref 0, .int x0]) [] h (fun r h1 => (∃ v, r = some (.int v)) ∧ zn_L h1) :=
  zn_k (k := zc_a74) zc_ao74 (q := zp_m142) rfl rfl rfl rfl hL ⟨rfl, zn_ti x0, trivial⟩

set_option maxRecDepth 100000 in
theorem zn_c_frame {h : zx_H} (hL : zn_L h) (x0 : Int32) (x1 : Int32) : zx_T zp_P 5 zp_m143 0 (lv_args 0 [.ref 0, .int x0, .int x1]) [] h (fun r h1 => (∃ v, r = some (.int v)) ∧ zn_L h1) :=
  zn_k (k := zc_a86) zc_ao86 (q := zp_m143) rfl rfl rfl rfl hL ⟨rfl, zn_ti x0, zn_ti x1, trivial⟩

set_option maxRecDepth 100000 in
theorem zn_c_plant {h : zx_H} (hL : zn_L h) (x0 : Int32) (x1 : Int32) (x2 : Int32) : zx_T zp_P 5 zp_m144 0 (lv_args 0 [.ref 0, .int x0, .int x1, .int x2]) [] h (fun r h1 => (∃ v, r = some (.int v)) ∧ zn_L h1) :=
  zn_k (k := zc_a89) zc_ao89 (q := zp_m144) rfl rfl rfl rfl hL ⟨rfl, zn_ti x0, zn_ti x1, zn_ti x2, trivial⟩

set_option maxRecDepth 100000 in
theorem zn_c_judge {h : zx_H} (hL : zn_L h)  : zx_T zp_P 7 zp_m145 0 (lv_args 0 [.ref 0]) [] h (fun r h1 => (∃ v, r = some (.int v)) ∧ zn_L h1) :=
  zn_k (k := zc_a127) zc_ao127 (q := zp_m145) rfl rfl rfl rfl hL ⟨rfl, trivial⟩

set_option maxRecDepth 100000 in
theorem zn_c_packed {h : zx_H} (hL : zn_L h)  : zx_T zp_P 6 zp_m146 0 (lv_args 0 [.ref 0]) [] h (fun r h1 => (∃ v, r = some (.int v)) ∧ zn_L h1) :=
  zn_k (k := zc_a148) zc_ao148 (q := zp_m146) rfl rfl rfl rfl hL ⟨rfl, trivial⟩

set_option maxRecDepth 100000 in
theorem zn_c_run {h : zx_H} (hL : zn_L h) (x0 : Int32) : zx_T zp_P 6 zp_m149 0 (lv_args 0 [.ref 0, .int x0]) [] h (fun r h1 => (∃ v, r = some (.int v)) ∧ zn_L h1) :=
  zn_k (k := zc_a195) zc_ao195 (q := zp_m149) rfl rfl rfl rfl hL ⟨rfl, zn_ti x0, trivial⟩

set_option maxRecDepth 100000 in
theorem zn_c_told {h : zx_H} (hL : zn_L h) (x0 : Int32) : zx_T zp_P 4 zp_m150 0 (lv_args 0 [.ref 0, .int x0]) [] h (fun r h1 => (∃ v, r = some (.long v)) ∧ zn_L h1) :=
  zn_kl (k := zc_a200) zc_ao200 (q := zp_m150) rfl rfl rfl rfl hL ⟨rfl, zn_ti x0, trivial⟩

set_option maxRecDepth 100000 in
theorem zn_c_count {h : zx_H} (hL : zn_L h) (x0 : Int32) : zx_T zp_P 3 zp_m151 0 (lv_args 0 [.ref 0, .int x0]) [] h (fun r h1 => (∃ v, r = some (.int v)) ∧ zn_L h1) :=
  zn_k (k := zc_a203) zc_ao203 (q := zp_m151) rfl rfl rfl rfl hL ⟨rfl, zn_ti x0, trivial⟩

set_option maxRecDepth 100000 in
theorem zn_m_fault {h : zx_H} (hL : zn_L h)  : zx_T zp_P 0 zp_m199 0 (lv_args 0 [.ref 44]) [] h (fun r h1 => (∃ v, r = some (.int v)) ∧ zn_L h1) :=
  zn_k (k := zc_b17) zc_bo17 (q := zp_m199) rfl rfl rfl rfl hL ⟨rfl, trivial⟩

set_option maxRecDepth 100000 in
theorem zn_m_kind {h : zx_H} (hL : zn_L h) (x0 : Int32) (x1 : Int32) : zx_T zp_P 1 zp_m200 0 (lv_args 0 [.ref 44, .int x0, .int x1]) [] h (fun r h1 => (∃ v, r = some (.int v)) ∧ zn_L h1) :=
  zn_k (k := zc_b20) zc_bo20 (q := zp_m200) rfl rfl rfl rfl hL ⟨rfl, zn_ti x0, zn_ti x1, trivial⟩

set_option maxRecDepth 100000 in
theorem zn_m_size {h : zx_H} (hL : zn_L h) (x0 : Int32) : zx_T zp_P 1 zp_m201 0 (lv_args 0 [.ref 44, .int x0]) [] h (fun r h1 => (∃ v, r = some (.int v)) ∧ zn_L h1) :=
  zn_k (k := zc_b21) zc_bo21 (q := zp_m201) rfl rfl rfl rfl hL ⟨rfl, zn_ti x0, trivial⟩

set_option maxRecDepth 100000 in
theorem zn_m_frame {h : zx_H} (hL : zn_L h) (x0 : Int32) (x1 : Int32) : zx_T zp_P 1 zp_m202 0 (lv_args 0 [.ref 44, .int x0, .int x1]) [] h (fun r h1 => (∃ v, r = some (.int v)) ∧ zn_L h1) :=
  zn_k (k := zc_b22) zc_bo22 (q := zp_m202) rfl rfl rfl rfl hL ⟨rfl, zn_ti x0, zn_ti x1, trivial⟩

set_option maxRecDepth 100000 in
theorem zn_m_plant {h : zx_H} (hL : zn_L h) (x0 : Int32) (x1 : Int32) (x2 : Int32) : zx_T zp_P 1 zp_m203 0 (lv_args 0 [.ref 44, .int x0, .int x1, .int x2]) [] h (fun r h1 => (∃ v, r = some (.int v)) ∧ zn_L h1) :=
  zn_k (k := zc_b25) zc_bo25 (q := zp_m203) rfl rfl rfl rfl hL ⟨rfl, zn_ti x0, zn_ti x1, zn_ti x2, trivial⟩

set_option maxRecDepth 100000 in
theorem zn_m_out {h : zx_H} (hL : zn_L h) (x0 : Int32) : zx_T zp_P 0 zp_m195 0 (lv_args 0 [.ref 44, .int x0]) [] h (fun r h1 => (∃ v, r = some (.int v)) ∧ zn_L h1) :=
  zn_k (k := zc_b9) zc_bo9 (q := zp_m195) rfl rfl rfl rfl hL ⟨rfl, zn_ti x0, trivial⟩

set_option maxRecDepth 100000 in
theorem zn_m_told {h : zx_H} (hL : zn_L h) (x0 : Int32) : zx_T zp_P 0 zp_m218 0 (lv_args 0 [.ref 44, .int x0]) [] h (fun r h1 => (∃ v, r = some (.long v)) ∧ zn_L h1) :=
  zn_kl (k := zc_b28) zc_bo28 (q := zp_m218) rfl rfl rfl rfl hL ⟨rfl, zn_ti x0, trivial⟩

set_option maxRecDepth 100000 in
theorem zn_m_count {h : zx_H} (hL : zn_L h) (x0 : Int32) : zx_T zp_P 0 zp_m219 0 (lv_args 0 [.ref 44, .int x0]) [] h (fun r h1 => (∃ v, r = some (.int v)) ∧ zn_L h1) :=
  zn_k (k := zc_b29) zc_bo29 (q := zp_m219) rfl rfl rfl rfl hL ⟨rfl, zn_ti x0, trivial⟩

theorem zn_c_parameter {h : zx_H} (hI : zb_I zc_H h) (x0 : Int32) : zx_T zp_P 1 zp_m136 0 (lv_args 0 [.ref 0, .int x0]) [] h (zr_R [(9, 0), (1, 10), (16, 4)] h (fun e h' => zs_par x0.toInt e (zv_f h 1 10) (zv_f h' 1 10))) := by
  have z := zm_cParameter hI (c := x0.toInt) (zn_r x0).1 (zn_r x0).2
  simp only [zI, zL, Int32.ofInt_toInt] at z
  exact z

theorem zn_m_parameter {h : zx_H} (hI : zb_I zc_H h) (x0 : Int32) : zx_T zp_P 1 zp_m196 0 (lv_args 0 [.ref 44, .int x0]) [] h (zr_R [(44, 0), (44, 10), (52, 0), (44, 13)] h (fun e h' => zs_par x0.toInt e (zv_i h 10) (zv_i h' 10) ∧ (zv_i h' 13 = 0 ∨ zv_i h' 13 = zv_i h 13))) := by
  have z := zm_parameter hI (c := x0.toInt) (zn_r x0).1 (zn_r x0).2
  simp only [zI, zL, Int32.ofInt_toInt] at z
  exact z

theorem zn_c_operation {h : zx_H} (hI : zb_I zc_H h) (x0 : Int32) (x1 : Int32) (x2 : Int32) : zx_T zp_P 1 zp_m137 0 (lv_args 0 [.ref 0, .int x0, .int x1, .int x2]) [] h (zr_R [(2, 0), (3, 0), (4, 0), (1, 3), (16, 4)] h (fun e h' => zs_opn x0.toInt x1.toInt e (zv_f h 1 3) (zv_f h' 1 3))) := by
  have z := zm_cOperation hI (o := x0.toInt) (a := x1.toInt) (b := x2.toInt) (zn_r x0).1 (zn_r x0).2 (zn_r x1).1 (zn_r x1).2 (zn_r x2).1 (zn_r x2).2
  simp only [zI, zL, Int32.ofInt_toInt] at z
  exact z

theorem zn_m_operation {h : zx_H} (hI : zb_I zc_H h) (x0 : Int32) (x1 : Int32) (x2 : Int32) : zx_T zp_P 1 zp_m197 0 (lv_args 0 [.ref 44, .int x0, .int x1, .int x2]) [] h (zr_R [(44, 0), (44, 1), (45, 0), (46, 0), (47, 0), (44, 13)] h (fun e h' => zs_opn x0.toInt x1.toInt e (zv_i h 1) (zv_i h' 1) ∧ (zv_i h' 13 = 0 ∨ (zv_i h' 13 = zv_i h 13 ∧ zv_i h' 1 = zv_i h 1 ∧ ∀ j, 0 ≤ j → zv_a h' 45 j = zv_a h 45 j ∧ zv_a h' 46 j = zv_a h 46 j ∧ zv_a h' 47 j = zv_a h 47 j)) ∧ (zg_CI h → zg_CI h'))) := by
  have z := zm_operation hI (o := x0.toInt) (a := x1.toInt) (b := x2.toInt) (zn_r x0).1 (zn_r x0).2 (zn_r x1).1 (zn_r x1).2 (zn_r x2).1 (zn_r x2).2
  simp only [zI, zL, Int32.ofInt_toInt] at z
  exact z

theorem zn_c_handler {h : zx_H} (hI : zb_I zc_H h) (x0 : Int32) (x1 : Int32) (x2 : Int32) (x3 : Int32) : zx_T zp_P 1 zp_m138 0 (lv_args 0 [.ref 0, .int x0, .int x1, .int x2, .int x3]) [] h (zr_R [(5, 0), (6, 0), (7, 0), (8, 0), (1, 8), (16, 4)] h (fun e h' => zs_hnd x0.toInt x1.toInt x2.toInt x3.toInt e (zv_f h 1 8) (zv_f h' 1 8))) := by
  have z := zm_cHandler hI (f := x0.toInt) (t := x1.toInt) (p := x2.toInt) (k := x3.toInt) (zn_r x0).1 (zn_r x0).2 (zn_r x1).1 (zn_r x1).2 (zn_r x2).1 (zn_r x2).2 (zn_r x3).1 (zn_r x3).2
  simp only [zI, zL, Int32.ofInt_toInt] at z
  exact z

theorem zn_m_handler {h : zx_H} (hI : zb_I zc_H h) (x0 : Int32) (x1 : Int32) (x2 : Int32) (x3 : Int32) : zx_T zp_P 1 zp_m198 0 (lv_args 0 [.ref 44, .int x0, .int x1, .int x2, .int x3]) [] h (zr_R [(44, 0), (44, 5), (48, 0), (49, 0), (50, 0), (51, 0), (44, 13)] h (fun e h' => zs_hnd x0.toInt x1.toInt x2.toInt x3.toInt e (zv_i h 5) (zv_i h' 5) ∧ (zv_i h' 13 = 0 ∨ (zv_i h' 13 = zv_i h 13 ∧ zv_i h' 5 = zv_i h 5 ∧ ∀ j, 0 ≤ j → zv_a h' 48 j = zv_a h 48 j ∧ zv_a h' 49 j = zv_a h 49 j ∧ zv_a h' 50 j = zv_a h 50 j)) ∧ (zg_TI h → zg_TI h'))) := by
  have z := zm_handler hI (f := x0.toInt) (t := x1.toInt) (p := x2.toInt) (k := x3.toInt) (zn_r x0).1 (zn_r x0).2 (zn_r x1).1 (zn_r x1).2 (zn_r x2).1 (zn_r x2).2 (zn_r x3).1 (zn_r x3).2
  simp only [zI, zL, Int32.ofInt_toInt] at z
  exact z

theorem zn_c_argument {h : zx_H} (hI : zb_I zc_H h) (x0 : Int32) (x1 : Int64) : zx_T zp_P 1 zp_m148 0 (lv_args 0 [.ref 0, .int x0, .long x1]) [] h (zr_G [(35, 0)] h (fun e h' => zs_arg x0.toInt x1.toInt e (zv_b h 35) (zv_b h' 35))) := by
  have z := zm_cArgument hI (i := x0.toInt) (v := x1.toInt) (zn_r x0).1 (zn_r x0).2
  simp only [zI, zL, Int32.ofInt_toInt, Int64.ofInt_toInt] at z
  exact z

theorem zn_m_argument {h : zx_H} (hI : zb_I zc_H h) (x0 : Int32) (x1 : Int64) : zx_T zp_P 1 zp_m204 0 (lv_args 0 [.ref 44, .int x0, .long x1]) [] h (zr_G [(44, 0), (53, 0)] h (fun e h' => zs_arg x0.toInt x1.toInt e (zv_b h 53) (zv_b h' 53))) := by
  have z := zm_argument hI (i := x0.toInt) (v := x1.toInt) (zn_r x0).1 (zn_r x0).2
  simp only [zI, zL, Int32.ofInt_toInt, Int64.ofInt_toInt] at z
  exact z

theorem zn_c_clear {h : zx_H} (hI : zb_I zc_H h)  : zx_T zp_P 1 zp_m152 0 (lv_args 0 [.ref 0]) [] h (zr_R [(1, 3), (1, 8), (1, 10), (16, 4)] h (fun e h' => e = zv_f h 1 3 ∧ zv_f h' 1 3 = 0 ∧ zv_f h' 1 8 = 0 ∧ zv_f h' 1 10 = 0)) := by
  have z := zm_cClear hI  
  exact z

theorem zn_m_clear {h : zx_H} (hI : zb_I zc_H h)  : zx_T zp_P 0 zp_m220 0 (lv_args 0 [.ref 44]) [] h (zr_R [(44, 0), (44, 1), (44, 5), (44, 10), (44, 13)] h (fun e h' => e = zv_i h 1 ∧ zv_i h' 1 = 0 ∧ zv_i h' 5 = 0 ∧ zv_i h' 10 = 0 ∧ zv_i h' 13 = 0)) := by
  have z := zm_clear hI  
  exact z

section ZNP
variable {h h1 h2 : zx_H}
theorem zn_p_parameter {c e1 e2 : Int} (L : zn_L h) (i2 : zb_I zc_H h2) (w1 : zb_W [(9, 0), (1, 10), (16, 4)] h h1) (w2 : zb_W [(44, 0), (44, 10), (52, 0), (44, 13)] h1 h2) (x1 : zs_par c e1 (zv_f h 1 10) (zv_f h1 1 10)) (x2 : zs_par c e2 (zv_i h1 10) (zv_i h2 10) ∧ (zv_i h2 13 = 0 ∨ zv_i h2 13 = zv_i h1 13)) : zn_L h2 ∧ e1 = e2 := by
  obtain ⟨⟨_, b2, b3, b4, b5, b6⟩, ⟨r1, r2, r3, r4⟩⟩ := L
  obtain ⟨y1, y2⟩ := x2
  rw [zv_wi w1 rfl, ← r3] at y1
  have d := x1.d y1
  refine ⟨⟨⟨i2, (b2.w w1 rfl rfl).w w2 rfl rfl, (b3.w w1 rfl).w w2 rfl, (b4.w w1 rfl).w w2 rfl, fun z => ?_, by rw [zv_wi w2 rfl, zv_wi w1 rfl]; exact b6⟩, by rw [zv_wf w2 rfl, zv_wf w1 rfl, zv_wi w2 rfl, zv_wi w1 rfl]; exact r1, by rw [zv_wf w2 rfl, zv_wf w1 rfl, zv_wi w2 rfl, zv_wi w1 rfl]; exact r2, by rw [zv_wf w2 rfl]; exact d.2, fun j j0 => by rw [zv_wb w2 rfl, zv_wb w1 rfl, zv_wb w2 rfl, zv_wb w1 rfl]; exact r4 j j0⟩, d.1⟩
  have z1 : zv_i h 13 = 1 := by rw [← zv_wi w1 (k := 13) rfl]; omega
  exact ((b5 z1).w w1 rfl rfl rfl rfl).w w2 rfl rfl rfl rfl
theorem zn_p_operation {o a e1 e2 : Int} (L : zn_L h) (i2 : zb_I zc_H h2) (w1 : zb_W [(2, 0), (3, 0), (4, 0), (1, 3), (16, 4)] h h1) (w2 : zb_W [(44, 0), (44, 1), (45, 0), (46, 0), (47, 0), (44, 13)] h1 h2) (x1 : zs_opn o a e1 (zv_f h 1 3) (zv_f h1 1 3)) (x2 : zs_opn o a e2 (zv_i h1 1) (zv_i h2 1) ∧ (zv_i h2 13 = 0 ∨ (zv_i h2 13 = zv_i h1 13 ∧ zv_i h2 1 = zv_i h1 1 ∧ ∀ j, 0 ≤ j → zv_a h2 45 j = zv_a h1 45 j ∧ zv_a h2 46 j = zv_a h1 46 j ∧ zv_a h2 47 j = zv_a h1 47 j)) ∧ (zg_CI h1 → zg_CI h2)) : zn_L h2 ∧ e1 = e2 := by
  obtain ⟨⟨_, b2, b3, b4, b5, b6⟩, ⟨r1, r2, r3, r4⟩⟩ := L
  obtain ⟨y1, y2, y3⟩ := x2
  rw [zv_wi w1 rfl, ← r1] at y1
  have d := x1.d y1
  refine ⟨⟨⟨i2, y3 (b2.w w1 rfl rfl), (b3.w w1 rfl).w w2 rfl, (b4.w w1 rfl).w w2 rfl, fun z => ?_, by rw [zv_wi w2 rfl, zv_wi w1 rfl]; exact b6⟩, by rw [zv_wf w2 rfl]; exact d.2, by rw [zv_wf w2 rfl, zv_wf w1 rfl, zv_wi w2 rfl, zv_wi w1 rfl]; exact r2, by rw [zv_wf w2 rfl, zv_wf w1 rfl, zv_wi w2 rfl, zv_wi w1 rfl]; exact r3, fun j j0 => by rw [zv_wb w2 rfl, zv_wb w1 rfl, zv_wb w2 rfl, zv_wb w1 rfl]; exact r4 j j0⟩, d.1⟩
  rcases y2 with y2 | ⟨y4, y5, y6⟩
  · omega
  · have z1 : zv_i h 13 = 1 := by rw [← zv_wi w1 (k := 13) rfl]; omega
    exact ((b5 z1).w w1 rfl rfl rfl rfl).x (zv_wi w2 rfl) (fun j _ => ⟨zv_wa w2 rfl j, zv_wa w2 rfl j, zv_wa w2 rfl j⟩) y5 y6 (zv_wa w2 rfl) (zv_wi w2 rfl) (zv_wa w2 rfl)
theorem zn_p_handler {f t p k e1 e2 : Int} (L : zn_L h) (i2 : zb_I zc_H h2) (w1 : zb_W [(5, 0), (6, 0), (7, 0), (8, 0), (1, 8), (16, 4)] h h1) (w2 : zb_W [(44, 0), (44, 5), (48, 0), (49, 0), (50, 0), (51, 0), (44, 13)] h1 h2) (x1 : zs_hnd f t p k e1 (zv_f h 1 8) (zv_f h1 1 8)) (x2 : zs_hnd f t p k e2 (zv_i h1 5) (zv_i h2 5) ∧ (zv_i h2 13 = 0 ∨ (zv_i h2 13 = zv_i h1 13 ∧ zv_i h2 5 = zv_i h1 5 ∧ ∀ j, 0 ≤ j → zv_a h2 48 j = zv_a h1 48 j ∧ zv_a h2 49 j = zv_a h1 49 j ∧ zv_a h2 50 j = zv_a h1 50 j)) ∧ (zg_TI h1 → zg_TI h2)) : zn_L h2 ∧ e1 = e2 := by
  obtain ⟨⟨_, b2, b3, b4, b5, b6⟩, ⟨r1, r2, r3, r4⟩⟩ := L
  obtain ⟨y1, y2, y3⟩ := x2
  rw [zv_wi w1 rfl, ← r2] at y1
  have d := x1.d y1
  refine ⟨⟨⟨i2, (b2.w w1 rfl rfl).w w2 rfl rfl, y3 (b3.w w1 rfl), (b4.w w1 rfl).w w2 rfl, fun z => ?_, by rw [zv_wi w2 rfl, zv_wi w1 rfl]; exact b6⟩, by rw [zv_wf w2 rfl, zv_wf w1 rfl, zv_wi w2 rfl, zv_wi w1 rfl]; exact r1, by rw [zv_wf w2 rfl]; exact d.2, by rw [zv_wf w2 rfl, zv_wf w1 rfl, zv_wi w2 rfl, zv_wi w1 rfl]; exact r3, fun j j0 => by rw [zv_wb w2 rfl, zv_wb w1 rfl, zv_wb w2 rfl, zv_wb w1 rfl]; exact r4 j j0⟩, d.1⟩
  rcases y2 with y2 | ⟨y4, y5, y6⟩
  · omega
  · have z1 : zv_i h 13 = 1 := by rw [← zv_wi w1 (k := 13) rfl]; omega
    exact ((b5 z1).w w1 rfl rfl rfl rfl).x y5 y6 (zv_wi w2 rfl) (fun j _ => ⟨zv_wa w2 rfl j, zv_wa w2 rfl j, zv_wa w2 rfl j⟩) (zv_wa w2 rfl) (zv_wi w2 rfl) (zv_wa w2 rfl)
theorem zn_p_argument {i v e1 e2 : Int} (L : zn_L h) (i1 : zb_I zc_H h1) (i2 : zb_I zc_H h2) (w1 : zb_W [(35, 0)] h h1) (w2 : zb_W [(44, 0), (53, 0)] h1 h2) (x1 : zs_arg i v e1 (zv_b h 35) (zv_b h1 35)) (x2 : zs_arg i v e2 (zv_b h1 53) (zv_b h2 53)) : zn_L h2 ∧ e1 = e2 := by
  obtain ⟨b, ⟨r1, r2, r3, r4⟩⟩ := L
  have d := x1.d x2 (fun j j0 => by rw [zv_wb w1 (a := 53) rfl]; exact r4 j j0)
  exact ⟨⟨(b.w i1 w1 rfl).w i2 w2 rfl, by rw [zv_wf w2 rfl, zv_wf w1 rfl, zv_wi w2 rfl, zv_wi w1 rfl]; exact r1, by rw [zv_wf w2 rfl, zv_wf w1 rfl, zv_wi w2 rfl, zv_wi w1 rfl]; exact r2, by rw [zv_wf w2 rfl, zv_wf w1 rfl, zv_wi w2 rfl, zv_wi w1 rfl]; exact r3, fun j j0 => by rw [zv_wb w2 (a := 35) rfl]; exact d.2 j j0⟩, d.1⟩
theorem zn_p_clear {e1 e2 : Int} (L : zn_L h) (i2 : zb_I zc_H h2) (w1 : zb_W [(1, 3), (1, 8), (1, 10), (16, 4)] h h1) (w2 : zb_W [(44, 0), (44, 1), (44, 5), (44, 10), (44, 13)] h1 h2) (x1 : e1 = zv_f h 1 3 ∧ zv_f h1 1 3 = 0 ∧ zv_f h1 1 8 = 0 ∧ zv_f h1 1 10 = 0) (x2 : e2 = zv_i h1 1 ∧ zv_i h2 1 = 0 ∧ zv_i h2 5 = 0 ∧ zv_i h2 10 = 0 ∧ zv_i h2 13 = 0) : zn_L h2 ∧ e1 = e2 := by
  obtain ⟨⟨_, b2, b3, b4, b5, b6⟩, ⟨r1, r2, r3, r4⟩⟩ := L
  obtain ⟨x3, x4, x5, x6⟩ := x1
  obtain ⟨y3, y4, y5, y6, y7⟩ := x2
  rw [zv_wi w1 rfl] at y3
  exact ⟨⟨⟨i2, (b2.w w1 rfl rfl).w w2 rfl rfl, (b3.w w1 rfl).w w2 rfl, (b4.w w1 rfl).w w2 rfl, fun z => absurd z (by omega), by rw [zv_wi w2 rfl, zv_wi w1 rfl]; exact b6⟩, by rw [zv_wf w2 rfl]; omega, by rw [zv_wf w2 rfl]; omega, by rw [zv_wf w2 rfl]; omega, fun j j0 => by rw [zv_wb w2 rfl, zv_wb w1 rfl, zv_wb w2 rfl, zv_wb w1 rfl]; exact r4 j j0⟩, by omega⟩
end ZNP
