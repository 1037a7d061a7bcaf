/-! ===== 98: what holds between calls: the code, what is made (by program) ===== -/
def zn_s1 (W : List (Nat × Nat)) : Bool := za_in W 16 6 || za_in W 44 15 || za_in W 10 3 || za_in W 44 19 || za_in W 54 0 || za_in W 55 0 || za_in W 56 0 || za_in W 44 27 || za_in W 19 0 || za_in W 18 0 || za_in W 16 5
def zn_sx (W : List (Nat × Nat)) : Bool := zc_in W || zr_in W || za_in W 16 4 || za_in W 44 13 || zn_s1 W
def zn_X (h : zx_H) : Prop := zc_Pg h = zr_Pg h ∧ (zr_Pg h).gd ∧ zv_f h 16 4 = zv_i h 13 ∧ zv_f h 16 6 = zv_i h 15 ∧ (zv_i h 13 = 1 → zv_f h 10 3 = zv_i h 19 ∧ ∃ s, zs_ok (zr_Pg h) s ∧ zr_A h s ∧ zc_A h s)
def zn_O (h : zx_H) : Prop := zn_L h ∧ zn_X h
theorem zn_s1s {W : List (Nat × Nat)} (e : zn_s1 W = false) : za_in W 16 6 = false ∧ za_in W 44 15 = false ∧ za_in W 10 3 = false ∧ za_in W 44 19 = false ∧ za_in W 54 0 = false ∧ za_in W 55 0 = false ∧ za_in W 56 0 = false ∧ za_in W 44 27 = false ∧ za_in W 19 0 = false ∧ za_in W 18 0 = false ∧ za_in W 16 5 = false := by
  unfold zn_s1 at e
  simp only [Bool.or_eq_false_iff] at e
  obtain ⟨⟨⟨⟨⟨⟨⟨⟨⟨⟨e1, e2⟩, e3⟩, e4⟩, e5⟩, e6⟩, e7⟩, e8⟩, e9⟩, e10⟩, e11⟩ := e
  exact ⟨e1, e2, e3, e4, e5, e6, e7, e8, e9, e10, e11⟩
/-- what is made stays -/
theorem zn_ms {W : List (Nat × Nat)} {h h' : zx_H} (w : zb_W W h h') (e : zn_s1 W = false) {P : zP} (a : zv_f h 10 3 = zv_i h 19 ∧ ∃ s, zs_ok P s ∧ zr_A h s ∧ zc_A h s) : zv_f h' 10 3 = zv_i h' 19 ∧ ∃ s, zs_ok P s ∧ zr_A h' s ∧ zc_A h' s := by
  obtain ⟨e1, e2, e3, e4, e5, e6, e7, e8, e9, e10, e11⟩ := zn_s1s e
  obtain ⟨a1, s, a2, a3, a4⟩ := a
  exact ⟨by rw [zv_wf w e3, zv_wi w e4]; exact a1, s, a2, zr_A_g w e5 e6 e7 e8 a3, zc_A_g w e9 e10 e11 a4⟩
theorem zn_X.w {W : List (Nat × Nat)} {h h' : zx_H} (a : zn_X h) (w : zb_W W h h') (e : zn_sx W = false) : zn_X h' := by
  obtain ⟨a1, a2, a3, a4, a5⟩ := a
  unfold zn_sx at e
  simp only [Bool.or_eq_false_iff] at e
  obtain ⟨⟨⟨⟨e1, e2⟩, e3⟩, e4⟩, e5⟩ := e
  have f := zn_s1s e5
  unfold zn_X
  rw [zc_Pg_g w e1, zr_Pg_g w e2, zv_wf w e3, zv_wi w e4, zv_wf w f.1, zv_wi w f.2.1]
  exact ⟨a1, a2, a3, a4, fun z => zn_ms w e5 (a5 z)⟩
theorem zn_kN {k : za_K} (hK : zb_K zp_P zc_H k) {q : zx_M} (hq : (zx_pm zp_P)[k.1]? = some q) (sb : zn_sb k.2.2.2.2 = false) (sr : zn_sr k.2.2.2.2 = false) (sx : zn_sx k.2.2.2.2 = false) (hi : zn_i k = true) {vs : List Value} {h : zx_H} (hL : zn_O h) (ha : zb_A zb_T vs k.2.2.1) : zx_T zp_P k.2.1 q 0 (lv_args 0 vs) [] h (fun r h1 => (∃ v, r = some (.int v)) ∧ zn_O h1) :=
  (hK q hq vs h ha hL.1.1.1).im fun r h' ⟨h1, h2, _, c, h4, h5, _⟩ => by
    refine ⟨?_, ⟨hL.1.1.w h1 h2 sb, hL.1.2.w h2 sr⟩, hL.2.w h2 sx⟩
    have h6 := List.all_eq_true.mp hi c h4
    split at h6
    · next z e =>
      rw [e] at h5
      cases r with
      | none => exact h5.elim
      | some v => obtain ⟨x, rfl, _⟩ := h5; exact ⟨x, rfl⟩
    · cases h6
theorem zn_klN {k : za_K} (hK : zb_K zp_P zc_H k) {q : zx_M} (hq : (zx_pm zp_P)[k.1]? = some q) (sb : zn_sb k.2.2.2.2 = false) (sr : zn_sr k.2.2.2.2 = false) (sx : zn_sx k.2.2.2.2 = false) (hi : zn_l k = true) {vs : List Value} {h : zx_H} (hL : zn_O h) (ha : zb_A zb_T vs k.2.2.1) : zx_T zp_P k.2.1 q 0 (lv_args 0 vs) [] h (fun r h1 => (∃ v, r = some (.long v)) ∧ zn_O h1) :=
  (hK q hq vs h ha hL.1.1.1).im fun r h' ⟨h1, h2, _, c, h4, h5, _⟩ => by
    refine ⟨?_, ⟨hL.1.1.w h1 h2 sb, hL.1.2.w h2 sr⟩, hL.2.w h2 sx⟩
    have h6 := List.all_eq_true.mp hi c h4
    split at h6
    · next z e =>
      rw [e] at h5
      cases r with
      | none => exact h5.elim
      | some v => obtain ⟨x, rfl⟩ := h5; exact ⟨x, rfl⟩
    · cases h6
theorem zN_judge {h : zx_H} (hL : zn_O h) : zx_T zp_P 5 zp_m186 0 (lv_args 0 [.ref 44]) [] h (fun r h1 => (∃ v, r = some (.int v)) ∧ zn_O h1) :=
  (zm_judge hL.1.1.1 hL.1.1.2.1 hL.1.1.2.2.2.2.1).im fun r h1 ⟨i1, w1, e, r1, x⟩ => ⟨⟨_, r1⟩, ⟨hL.1.1.w i1 w1 rfl, hL.1.2.w w1 rfl⟩, hL.2.w w1 rfl⟩
theorem zN_packed {h : zx_H} (hL : zn_O h) : zx_T zp_P 3 zp_m194 0 (lv_args 0 [.ref 44]) [] h (fun r h1 => (∃ v, r = some (.int v)) ∧ zn_O h1) :=
  (zm_packed hL.1.1.1).im fun r h1 ⟨i1, w1, e, r1, x⟩ => ⟨⟨_, r1⟩, ⟨hL.1.1.w i1 w1 rfl, hL.1.2.w w1 rfl⟩, hL.2.w w1 rfl⟩
theorem zN_run {h : zx_H} (hL : zn_O h) (a : Int32) : zx_T zp_P 8 zp_m217 0 (lv_args 0 [.ref 44, .int a]) [] h (fun r h1 => (∃ v, r = some (.int v)) ∧ zn_O h1) := by
  have z := zm_run hL.1.1.1 (m := a.toInt) (zn_r a).1 (zn_r a).2 hL.1.1.2.1 hL.1.1.2.2.2.2.2
  simp only [zI, Int32.ofInt_toInt] at z
  exact z.im fun r h1 ⟨i1, w1, e, r1, x⟩ => ⟨⟨_, r1⟩, ⟨⟨i1, hL.1.1.2.1.w w1 rfl rfl, hL.1.1.2.2.1.w w1 rfl, hL.1.1.2.2.2.1.w w1 rfl, fun z => (hL.1.1.2.2.2.2.1 (by rw [← zv_wi w1 rfl]; exact z)).w w1 rfl rfl rfl rfl, x⟩, hL.1.2.w w1 rfl⟩, hL.2.w w1 rfl⟩

set_option maxRecDepth 100000 in
theorem zN_c_fault {h : zx_H} (hL : zn_O h)  : zx_T zp_P 0 zp_m140 0 (lv_args 0 [.ref 0]) [] h (fun r h1 => (∃ v, r = some (.int v)) ∧ zn_O h1) :=
  zn_kN (k := zc_a69) zc_ao69 (q := zp_m140) rfl rfl rfl rfl rfl hL ⟨rfl, trivial⟩

set_option maxRecDepth 100000 in
theorem zN_c_frame {h : zx_H} (hL : zn_O h) (x0 : Int32) (x1 : Int32) : zx_T zp_P 5 zp_m143 0 (lv_args 0 [.ref 0, .int x0, .int x1]) [] h (fun r h1 => (∃ v, r = some (.int v)) ∧ zn_O h1) :=
  zn_kN (k := zc_a86) zc_ao86 (q := zp_m143) rfl rfl rfl rfl rfl hL ⟨rfl, zn_ti x0, zn_ti x1, trivial⟩

set_option maxRecDepth 100000 in
theorem zN_c_plant {h : zx_H} (hL : zn_O h) (x0 : Int32) (x1 : Int32) (x2 : Int32) : zx_T zp_P 5 zp_m144 0 (lv_args 0 [.ref 0, .int x0, .int x1, .int x2]) [] h (fun r h1 => (∃ v, r = some (.int v)) ∧ zn_O h1) :=
  zn_kN (k := zc_a89) zc_ao89 (q := zp_m144) rfl rfl rfl rfl rfl hL ⟨rfl, zn_ti x0, zn_ti x1, zn_ti x2, trivial⟩

set_option maxRecDepth 100000 in
theorem zN_c_judge {h : zx_H} (hL : zn_O h)  : zx_T zp_P 7 zp_m145 0 (lv_args 0 [.ref 0]) [] h (fun r h1 => (∃ v, r = some (.int v)) ∧ zn_O h1) :=
  zn_kN (k := zc_a127) zc_ao127 (q := zp_m145) rfl rfl rfl rfl rfl hL ⟨rfl, trivial⟩

set_option maxRecDepth 100000 in
theorem zN_c_packed {h : zx_H} (hL : zn_O h)  : zx_T zp_P 6 zp_m146 0 (lv_args 0 [.ref 0]) [] h (fun r h1 => (∃ v, r = some (.int v)) ∧ zn_O h1) :=
  zn_kN (k := zc_a148) zc_ao148 (q := zp_m146) rfl rfl rfl rfl rfl hL ⟨rfl, trivial⟩

set_option maxRecDepth 100000 in
theorem zN_c_run {h : zx_H} (hL : zn_O h) (x0 : Int32) : zx_T zp_P 6 zp_m149 0 (lv_args 0 [.ref 0, .int x0]) [] h (fun r h1 => (∃ v, r = some (.int v)) ∧ zn_O h1) :=
  zn_kN (k := zc_a195) zc_ao195 (q := zp_m149) rfl rfl rfl rfl rfl hL ⟨rfl, zn_ti x0, trivial⟩

set_option maxRecDepth 100000 in
theorem zN_c_told {h : zx_H} (hL : zn_O h) (x0 : Int32) : zx_T zp_P 4 zp_m150 0 (lv_args 0 [.ref 0, .int x0]) [] h (fun r h1 => (∃ v, r = some (.long v)) ∧ zn_O h1) :=
  zn_klN (k := zc_a200) zc_ao200 (q := zp_m150) rfl rfl rfl rfl rfl hL ⟨rfl, zn_ti x0, trivial⟩

set_option maxRecDepth 100000 in
theorem zN_m_fault {h : zx_H} (hL : zn_O h)  : zx_T zp_P 0 zp_m199 0 (lv_args 0 [.ref 44]) [] h (fun r h1 => (∃ v, r = some (.int v)) ∧ zn_O h1) :=
  zn_kN (k := zc_b17) zc_bo17 (q := zp_m199) rfl rfl rfl rfl rfl hL ⟨rfl, trivial⟩

set_option maxRecDepth 100000 in
theorem zN_m_frame {h : zx_H} (hL : zn_O h) (x0 : Int32) (x1 : Int32) : zx_T zp_P 1 zp_m202 0 (lv_args 0 [.ref 44, .int x0, .int x1]) [] h (fun r h1 => (∃ v, r = some (.int v)) ∧ zn_O h1) :=
  zn_kN (k := zc_b22) zc_bo22 (q := zp_m202) rfl rfl rfl rfl rfl hL ⟨rfl, zn_ti x0, zn_ti x1, trivial⟩

set_option maxRecDepth 100000 in
theorem zN_m_plant {h : zx_H} (hL : zn_O h) (x0 : Int32) (x1 : Int32) (x2 : Int32) : zx_T zp_P 1 zp_m203 0 (lv_args 0 [.ref 44, .int x0, .int x1, .int x2]) [] h (fun r h1 => (∃ v, r = some (.int v)) ∧ zn_O h1) :=
  zn_kN (k := zc_b25) zc_bo25 (q := zp_m203) rfl rfl rfl rfl rfl hL ⟨rfl, zn_ti x0, zn_ti x1, zn_ti x2, trivial⟩

set_option maxRecDepth 100000 in
theorem zN_m_out {h : zx_H} (hL : zn_O h) (x0 : Int32) : zx_T zp_P 0 zp_m195 0 (lv_args 0 [.ref 44, .int x0]) [] h (fun r h1 => (∃ v, r = some (.int v)) ∧ zn_O h1) :=
  zn_kN (k := zc_b9) zc_bo9 (q := zp_m195) rfl rfl rfl rfl rfl hL ⟨rfl, zn_ti x0, trivial⟩

set_option maxRecDepth 100000 in
theorem zN_m_told {h : zx_H} (hL : zn_O h) (x0 : Int32) : zx_T zp_P 0 zp_m218 0 (lv_args 0 [.ref 44, .int x0]) [] h (fun r h1 => (∃ v, r = some (.long v)) ∧ zn_O h1) :=
  zn_klN (k := zc_b28) zc_bo28 (q := zp_m218) rfl rfl rfl rfl rfl hL ⟨rfl, zn_ti x0, trivial⟩

theorem zN_c_parameter {h : zx_H} (hI : zb_I zc_H h) (x0 : Int32) : zx_T zp_P 1 zp_m136 0 (lv_args 0 [.ref 0, .int x0]) [] h (zr_R [(9, 0), (1, 10), (16, 4)] h (fun e h' => (zs_par x0.toInt e (zv_f h 1 10) (zv_f h' 1 10)) ∧ (zs_a2 ((x0.toInt = 1 ∨ x0.toInt = 2 ∨ (5 ≤ x0.toInt ∧ x0.toInt ≤ 8)) ∧ ((x0.toInt = 2 ∧ zv_f h 1 10 + 2 ≤ 8) ∨ (¬ x0.toInt = 2 ∧ zv_f h 1 10 + 1 ≤ 8))) (zv_f h 1 10) x0.toInt (zv_a h 9) (zv_a h' 9) ∧ (((x0.toInt = 1 ∨ x0.toInt = 2 ∨ (5 ≤ x0.toInt ∧ x0.toInt ≤ 8)) ∧ ((x0.toInt = 2 ∧ zv_f h 1 10 + 2 ≤ 8) ∨ (¬ x0.toInt = 2 ∧ zv_f h 1 10 + 1 ≤ 8))) → zv_f h' 16 4 = 0) ∧ (¬ ((x0.toInt = 1 ∨ x0.toInt = 2 ∨ (5 ≤ x0.toInt ∧ x0.toInt ≤ 8)) ∧ ((x0.toInt = 2 ∧ zv_f h 1 10 + 2 ≤ 8) ∨ (¬ x0.toInt = 2 ∧ zv_f h 1 10 + 1 ≤ 8))) → zv_f h' 16 4 = zv_f h 16 4)))) := by
  have z := zm_cParameterX hI (c := x0.toInt) (zn_r x0).1 (zn_r x0).2
  simp only [zI, Int32.ofInt_toInt] at z
  exact ((zn_c_parameter hI x0).and z).im fun r h1 ⟨⟨i, w, e, r1, x⟩, ⟨_, _, _, _, y⟩⟩ => ⟨i, w, e, r1, x, y⟩

theorem zN_m_parameter {h : zx_H} (hI : zb_I zc_H h) (x0 : Int32) : zx_T zp_P 1 zp_m196 0 (lv_args 0 [.ref 44, .int x0]) [] h (zr_R [(44, 0), (44, 10), (52, 0), (44, 13)] h (fun e h' => (zs_par x0.toInt e (zv_i h 10) (zv_i h' 10) ∧ (zv_i h' 13 = 0 ∨ zv_i h' 13 = zv_i h 13)) ∧ (zs_a2 ((x0.toInt = 1 ∨ x0.toInt = 2 ∨ (5 ≤ x0.toInt ∧ x0.toInt ≤ 8)) ∧ ((x0.toInt = 2 ∧ zv_i h 10 + 2 ≤ 8) ∨ (¬ x0.toInt = 2 ∧ zv_i h 10 + 1 ≤ 8))) (zv_i h 10) x0.toInt (zv_a h 52) (zv_a h' 52) ∧ (((x0.toInt = 1 ∨ x0.toInt = 2 ∨ (5 ≤ x0.toInt ∧ x0.toInt ≤ 8)) ∧ ((x0.toInt = 2 ∧ zv_i h 10 + 2 ≤ 8) ∨ (¬ x0.toInt = 2 ∧ zv_i h 10 + 1 ≤ 8))) → zv_i h' 13 = 0) ∧ (¬ ((x0.toInt = 1 ∨ x0.toInt = 2 ∨ (5 ≤ x0.toInt ∧ x0.toInt ≤ 8)) ∧ ((x0.toInt = 2 ∧ zv_i h 10 + 2 ≤ 8) ∨ (¬ x0.toInt = 2 ∧ zv_i h 10 + 1 ≤ 8))) → zv_i h' 13 = zv_i h 13)))) := by
  have z := zm_parameterX hI (c := x0.toInt) (zn_r x0).1 (zn_r x0).2
  simp only [zI, Int32.ofInt_toInt] at z
  exact ((zn_m_parameter hI x0).and z).im fun r h1 ⟨⟨i, w, e, r1, x⟩, ⟨_, _, _, _, y⟩⟩ => ⟨i, w, e, r1, x, y⟩

theorem zN_c_operation {h : zx_H} (hI : zb_I zc_H h) (x0 : Int32) (x1 : Int32) (x2 : Int32) : zx_T zp_P 1 zp_m137 0 (lv_args 0 [.ref 0, .int x0, .int x1, .int x2]) [] h (zr_R [(2, 0), (3, 0), (4, 0), (1, 3), (16, 4)] h (fun e h' => (zs_opn x0.toInt x1.toInt e (zv_f h 1 3) (zv_f h' 1 3)) ∧ (zs_ad ((0 ≤ x0.toInt ∧ x0.toInt ≤ 28 ∧ (x0.toInt = 21 → 5 ≤ x1.toInt ∧ x1.toInt ≤ 8)) ∧ zv_f h 1 3 < 60) (zv_f h 1 3) x0.toInt (zv_a h 2) (zv_a h' 2) ∧ zs_ad ((0 ≤ x0.toInt ∧ x0.toInt ≤ 28 ∧ (x0.toInt = 21 → 5 ≤ x1.toInt ∧ x1.toInt ≤ 8)) ∧ zv_f h 1 3 < 60) (zv_f h 1 3) x1.toInt (zv_a h 3) (zv_a h' 3) ∧ zs_ad ((0 ≤ x0.toInt ∧ x0.toInt ≤ 28 ∧ (x0.toInt = 21 → 5 ≤ x1.toInt ∧ x1.toInt ≤ 8)) ∧ zv_f h 1 3 < 60) (zv_f h 1 3) x2.toInt (zv_a h 4) (zv_a h' 4) ∧ (((0 ≤ x0.toInt ∧ x0.toInt ≤ 28 ∧ (x0.toInt = 21 → 5 ≤ x1.toInt ∧ x1.toInt ≤ 8)) ∧ zv_f h 1 3 < 60) → zv_f h' 16 4 = 0) ∧ (¬ ((0 ≤ x0.toInt ∧ x0.toInt ≤ 28 ∧ (x0.toInt = 21 → 5 ≤ x1.toInt ∧ x1.toInt ≤ 8)) ∧ zv_f h 1 3 < 60) → zv_f h' 16 4 = zv_f h 16 4)))) := by
  have z := zm_cOperationX hI (o := x0.toInt) (a := x1.toInt) (b := x2.toInt) (zn_r x0).1 (zn_r x0).2 (zn_r x1).1 (zn_r x1).2 (zn_r x2).1 (zn_r x2).2
  simp only [zI, Int32.ofInt_toInt] at z
  exact ((zn_c_operation hI x0 x1 x2).and z).im fun r h1 ⟨⟨i, w, e, r1, x⟩, ⟨_, _, _, _, y⟩⟩ => ⟨i, w, e, r1, x, y⟩

theorem zN_m_operation {h : zx_H} (hI : zb_I zc_H h) (x0 : Int32) (x1 : Int32) (x2 : Int32) : zx_T zp_P 1 zp_m197 0 (lv_args 0 [.ref 44, .int x0, .int x1, .int x2]) [] h (zr_R [(44, 0), (44, 1), (45, 0), (46, 0), (47, 0), (44, 13)] h (fun e h' => (zs_opn x0.toInt x1.toInt e (zv_i h 1) (zv_i h' 1) ∧ (zv_i h' 13 = 0 ∨ (zv_i h' 13 = zv_i h 13 ∧ zv_i h' 1 = zv_i h 1 ∧ ∀ j, 0 ≤ j → zv_a h' 45 j = zv_a h 45 j ∧ zv_a h' 46 j = zv_a h 46 j ∧ zv_a h' 47 j = zv_a h 47 j)) ∧ (zg_CI h → zg_CI h')) ∧ (zs_ad ((0 ≤ x0.toInt ∧ x0.toInt ≤ 28 ∧ (x0.toInt = 21 → 5 ≤ x1.toInt ∧ x1.toInt ≤ 8)) ∧ zv_i h 1 < 60) (zv_i h 1) x0.toInt (zv_a h 45) (zv_a h' 45) ∧ zs_ad ((0 ≤ x0.toInt ∧ x0.toInt ≤ 28 ∧ (x0.toInt = 21 → 5 ≤ x1.toInt ∧ x1.toInt ≤ 8)) ∧ zv_i h 1 < 60) (zv_i h 1) x1.toInt (zv_a h 46) (zv_a h' 46) ∧ zs_ad ((0 ≤ x0.toInt ∧ x0.toInt ≤ 28 ∧ (x0.toInt = 21 → 5 ≤ x1.toInt ∧ x1.toInt ≤ 8)) ∧ zv_i h 1 < 60) (zv_i h 1) x2.toInt (zv_a h 47) (zv_a h' 47) ∧ (((0 ≤ x0.toInt ∧ x0.toInt ≤ 28 ∧ (x0.toInt = 21 → 5 ≤ x1.toInt ∧ x1.toInt ≤ 8)) ∧ zv_i h 1 < 60) → zv_i h' 13 = 0) ∧ (¬ ((0 ≤ x0.toInt ∧ x0.toInt ≤ 28 ∧ (x0.toInt = 21 → 5 ≤ x1.toInt ∧ x1.toInt ≤ 8)) ∧ zv_i h 1 < 60) → zv_i h' 13 = zv_i h 13)))) := by
  have z := zm_operationX hI (o := x0.toInt) (a := x1.toInt) (b := x2.toInt) (zn_r x0).1 (zn_r x0).2 (zn_r x1).1 (zn_r x1).2 (zn_r x2).1 (zn_r x2).2
  simp only [zI, Int32.ofInt_toInt] at z
  exact ((zn_m_operation hI x0 x1 x2).and z).im fun r h1 ⟨⟨i, w, e, r1, x⟩, ⟨_, _, _, _, y⟩⟩ => ⟨i, w, e, r1, x, y⟩

theorem zN_c_handler {h : zx_H} (hI : zb_I zc_H h) (x0 : Int32) (x1 : Int32) (x2 : Int32) (x3 : Int32) : zx_T zp_P 1 zp_m138 0 (lv_args 0 [.ref 0, .int x0, .int x1, .int x2, .int x3]) [] h (zr_R [(5, 0), (6, 0), (7, 0), (8, 0), (1, 8), (16, 4)] h (fun e h' => (zs_hnd x0.toInt x1.toInt x2.toInt x3.toInt e (zv_f h 1 8) (zv_f h' 1 8)) ∧ (zs_ad ((0 ≤ x0.toInt ∧ x0.toInt ≤ 60 ∧ 0 ≤ x1.toInt ∧ x1.toInt ≤ 60 ∧ 0 ≤ x2.toInt ∧ x2.toInt ≤ 60 ∧ 7 ≤ x3.toInt ∧ x3.toInt ≤ 8) ∧ zv_f h 1 8 < 6) (zv_f h 1 8) x0.toInt (zv_a h 5) (zv_a h' 5) ∧ zs_ad ((0 ≤ x0.toInt ∧ x0.toInt ≤ 60 ∧ 0 ≤ x1.toInt ∧ x1.toInt ≤ 60 ∧ 0 ≤ x2.toInt ∧ x2.toInt ≤ 60 ∧ 7 ≤ x3.toInt ∧ x3.toInt ≤ 8) ∧ zv_f h 1 8 < 6) (zv_f h 1 8) x1.toInt (zv_a h 6) (zv_a h' 6) ∧ zs_ad ((0 ≤ x0.toInt ∧ x0.toInt ≤ 60 ∧ 0 ≤ x1.toInt ∧ x1.toInt ≤ 60 ∧ 0 ≤ x2.toInt ∧ x2.toInt ≤ 60 ∧ 7 ≤ x3.toInt ∧ x3.toInt ≤ 8) ∧ zv_f h 1 8 < 6) (zv_f h 1 8) x2.toInt (zv_a h 7) (zv_a h' 7) ∧ zs_ad ((0 ≤ x0.toInt ∧ x0.toInt ≤ 60 ∧ 0 ≤ x1.toInt ∧ x1.toInt ≤ 60 ∧ 0 ≤ x2.toInt ∧ x2.toInt ≤ 60 ∧ 7 ≤ x3.toInt ∧ x3.toInt ≤ 8) ∧ zv_f h 1 8 < 6) (zv_f h 1 8) x3.toInt (zv_a h 8) (zv_a h' 8) ∧ (((0 ≤ x0.toInt ∧ x0.toInt ≤ 60 ∧ 0 ≤ x1.toInt ∧ x1.toInt ≤ 60 ∧ 0 ≤ x2.toInt ∧ x2.toInt ≤ 60 ∧ 7 ≤ x3.toInt ∧ x3.toInt ≤ 8) ∧ zv_f h 1 8 < 6) → zv_f h' 16 4 = 0) ∧ (¬ ((0 ≤ x0.toInt ∧ x0.toInt ≤ 60 ∧ 0 ≤ x1.toInt ∧ x1.toInt ≤ 60 ∧ 0 ≤ x2.toInt ∧ x2.toInt ≤ 60 ∧ 7 ≤ x3.toInt ∧ x3.toInt ≤ 8) ∧ zv_f h 1 8 < 6) → zv_f h' 16 4 = zv_f h 16 4)))) := by
  have z := zm_cHandlerX hI (f := x0.toInt) (t := x1.toInt) (p := x2.toInt) (k := x3.toInt) (zn_r x0).1 (zn_r x0).2 (zn_r x1).1 (zn_r x1).2 (zn_r x2).1 (zn_r x2).2 (zn_r x3).1 (zn_r x3).2
  simp only [zI, Int32.ofInt_toInt] at z
  exact ((zn_c_handler hI x0 x1 x2 x3).and z).im fun r h1 ⟨⟨i, w, e, r1, x⟩, ⟨_, _, _, _, y⟩⟩ => ⟨i, w, e, r1, x, y⟩

theorem zN_m_handler {h : zx_H} (hI : zb_I zc_H h) (x0 : Int32) (x1 : Int32) (x2 : Int32) (x3 : Int32) : zx_T zp_P 1 zp_m198 0 (lv_args 0 [.ref 44, .int x0, .int x1, .int x2, .int x3]) [] h (zr_R [(44, 0), (44, 5), (48, 0), (49, 0), (50, 0), (51, 0), (44, 13)] h (fun e h' => (zs_hnd x0.toInt x1.toInt x2.toInt x3.toInt e (zv_i h 5) (zv_i h' 5) ∧ (zv_i h' 13 = 0 ∨ (zv_i h' 13 = zv_i h 13 ∧ zv_i h' 5 = zv_i h 5 ∧ ∀ j, 0 ≤ j → zv_a h' 48 j = zv_a h 48 j ∧ zv_a h' 49 j = zv_a h 49 j ∧ zv_a h' 50 j = zv_a h 50 j)) ∧ (zg_TI h → zg_TI h')) ∧ (zs_ad ((0 ≤ x0.toInt ∧ x0.toInt ≤ 60 ∧ 0 ≤ x1.toInt ∧ x1.toInt ≤ 60 ∧ 0 ≤ x2.toInt ∧ x2.toInt ≤ 60 ∧ 7 ≤ x3.toInt ∧ x3.toInt ≤ 8) ∧ zv_i h 5 < 6) (zv_i h 5) x0.toInt (zv_a h 48) (zv_a h' 48) ∧ zs_ad ((0 ≤ x0.toInt ∧ x0.toInt ≤ 60 ∧ 0 ≤ x1.toInt ∧ x1.toInt ≤ 60 ∧ 0 ≤ x2.toInt ∧ x2.toInt ≤ 60 ∧ 7 ≤ x3.toInt ∧ x3.toInt ≤ 8) ∧ zv_i h 5 < 6) (zv_i h 5) x1.toInt (zv_a h 49) (zv_a h' 49) ∧ zs_ad ((0 ≤ x0.toInt ∧ x0.toInt ≤ 60 ∧ 0 ≤ x1.toInt ∧ x1.toInt ≤ 60 ∧ 0 ≤ x2.toInt ∧ x2.toInt ≤ 60 ∧ 7 ≤ x3.toInt ∧ x3.toInt ≤ 8) ∧ zv_i h 5 < 6) (zv_i h 5) x2.toInt (zv_a h 50) (zv_a h' 50) ∧ zs_ad ((0 ≤ x0.toInt ∧ x0.toInt ≤ 60 ∧ 0 ≤ x1.toInt ∧ x1.toInt ≤ 60 ∧ 0 ≤ x2.toInt ∧ x2.toInt ≤ 60 ∧ 7 ≤ x3.toInt ∧ x3.toInt ≤ 8) ∧ zv_i h 5 < 6) (zv_i h 5) x3.toInt (zv_a h 51) (zv_a h' 51) ∧ (((0 ≤ x0.toInt ∧ x0.toInt ≤ 60 ∧ 0 ≤ x1.toInt ∧ x1.toInt ≤ 60 ∧ 0 ≤ x2.toInt ∧ x2.toInt ≤ 60 ∧ 7 ≤ x3.toInt ∧ x3.toInt ≤ 8) ∧ zv_i h 5 < 6) → zv_i h' 13 = 0) ∧ (¬ ((0 ≤ x0.toInt ∧ x0.toInt ≤ 60 ∧ 0 ≤ x1.toInt ∧ x1.toInt ≤ 60 ∧ 0 ≤ x2.toInt ∧ x2.toInt ≤ 60 ∧ 7 ≤ x3.toInt ∧ x3.toInt ≤ 8) ∧ zv_i h 5 < 6) → zv_i h' 13 = zv_i h 13)))) := by
  have z := zm_handlerX hI (f := x0.toInt) (t := x1.toInt) (p := x2.toInt) (k := x3.toInt) (zn_r x0).1 (zn_r x0).2 (zn_r x1).1 (zn_r x1).2 (zn_r x2).1 (zn_r x2).2 (zn_r x3).1 (zn_r x3).2
  simp only [zI, Int32.ofInt_toInt] at z
  exact ((zn_m_handler hI x0 x1 x2 x3).and z).im fun r h1 ⟨⟨i, w, e, r1, x⟩, ⟨_, _, _, _, y⟩⟩ => ⟨i, w, e, r1, x, y⟩

theorem zN_c_clear {h : zx_H} (hI : zb_I zc_H h)  : zx_T zp_P 1 zp_m152 0 (lv_args 0 [.ref 0]) [] h (zr_R [(1, 3), (1, 8), (1, 10), (16, 4)] h (fun e h' => (e = zv_f h 1 3 ∧ zv_f h' 1 3 = 0 ∧ zv_f h' 1 8 = 0 ∧ zv_f h' 1 10 = 0) ∧ (zv_f h' 16 4 = 0))) := by
  have z := zm_cClearX hI  
  exact ((zn_c_clear hI ).and z).im fun r h1 ⟨⟨i, w, e, r1, x⟩, ⟨_, _, _, _, y⟩⟩ => ⟨i, w, e, r1, x, y⟩

theorem zN_m_clear {h : zx_H} (hI : zb_I zc_H h) : zx_T zp_P 0 zp_m220 0 (lv_args 0 [.ref 44]) [] h (zr_R [(44, 0), (44, 1), (44, 5), (44, 10), (44, 13)] h (fun e h' => (e = zv_i h 1 ∧ zv_i h' 1 = 0 ∧ zv_i h' 5 = 0 ∧ zv_i h' 10 = 0 ∧ zv_i h' 13 = 0) ∧ (True))) :=
  (zn_m_clear hI).im fun r h1 ⟨i, w, e, r1, x⟩ => ⟨i, w, e, r1, x, trivial⟩

theorem zn_X_eq {h : zx_H} (r : zn_R h) (e2 : ∀ j, 0 ≤ j → zv_a h 2 j = zv_a h 45 j) (e3 : ∀ j, 0 ≤ j → zv_a h 3 j = zv_a h 46 j) (e4 : ∀ j, 0 ≤ j → zv_a h 4 j = zv_a h 47 j) (e5 : ∀ j, 0 ≤ j → zv_a h 5 j = zv_a h 48 j) (e6 : ∀ j, 0 ≤ j → zv_a h 6 j = zv_a h 49 j) (e7 : ∀ j, 0 ≤ j → zv_a h 7 j = zv_a h 50 j) (e8 : ∀ j, 0 ≤ j → zv_a h 8 j = zv_a h 51 j) (e9 : ∀ j, 0 ≤ j → zv_a h 9 j = zv_a h 52 j) : zc_Pg h = zr_Pg h := by
  unfold zc_Pg zr_Pg
  rw [r.1, r.2.1, r.2.2.1, zv_ext e2, zv_ext e3, zv_ext e4, zv_ext e5, zv_ext e6, zv_ext e7, zv_ext e8, zv_ext e9]
/-- rows of the code, alike in both -/
theorem zn_X_r {h : zx_H} (e : zc_Pg h = zr_Pg h) : zv_a h 2 = zv_a h 45 ∧ zv_a h 3 = zv_a h 46 ∧ zv_a h 4 = zv_a h 47 ∧ zv_a h 5 = zv_a h 48 ∧ zv_a h 6 = zv_a h 49 ∧ zv_a h 7 = zv_a h 50 ∧ zv_a h 8 = zv_a h 51 ∧ zv_a h 9 = zv_a h 52 :=
  ⟨congrArg zP.op e, congrArg zP.one e, congrArg zP.two e, congrArg zP.fr e, congrArg zP.to e, congrArg zP.ha e, congrArg zP.tk e, congrArg zP.pr e⟩
theorem zn_X_add {W1 W2 : List (Nat × Nat)} {h h1 h2 : zx_H} (X : zn_X h) (w1 : zb_W W1 h h1) (w2 : zb_W W2 h1 h2) (f1 : zn_s1 W1 = false) (f2 : zn_s1 W2 = false) (eq : zc_Pg h2 = zr_Pg h2) (gd : (zr_Pg h2).gd) (md : zv_f h2 16 4 = zv_i h2 13) (same : zv_i h2 13 = 1 → zv_i h 13 = 1 ∧ zr_Pg h2 = zr_Pg h) : zn_X h2 := by
  have s1 := zn_s1s f1
  have s2 := zn_s1s f2
  refine ⟨eq, gd, md, by rw [zv_wf w2 s2.1, zv_wf w1 s1.1, zv_wi w2 s2.2.1, zv_wi w1 s1.2.1]; exact X.2.2.2.1, fun z => ?_⟩
  obtain ⟨y1, y2⟩ := same z
  rw [y2]
  exact zn_ms w2 f2 (zn_ms w1 f1 (X.2.2.2.2 y1))
theorem zs_row_e {h h' : zx_H} (e1 : zv_i h' 10 = zv_i h 10) (e2 : zv_a h' 52 = zv_a h 52) : zs_row (zr_Pg h') = zs_row (zr_Pg h) := by
  show (fun j => if j < zv_i h' 10 then zv_a h' 52 j else 0) = fun j => if j < zv_i h 10 then zv_a h 52 j else 0
  rw [e1, e2]
section ZNQ
variable {h h1 h2 : zx_H}
theorem zN_p_operation {o a b e1 e2 : Int} (N : zn_O h) (i1 : zb_I zc_H h1) (i2 : zb_I zc_H h2) (w1 : zb_W [(2, 0), (3, 0), (4, 0), (1, 3), (16, 4)] h h1) (w2 : zb_W [(44, 0), (44, 1), (45, 0), (46, 0), (47, 0), (44, 13)] h1 h2) (x1 : (zs_opn o a e1 (zv_f h 1 3) (zv_f h1 1 3)) ∧ (zs_ad ((0 ≤ o ∧ o ≤ 28 ∧ (o = 21 → 5 ≤ a ∧ a ≤ 8)) ∧ zv_f h 1 3 < 60) (zv_f h 1 3) o (zv_a h 2) (zv_a h1 2) ∧ zs_ad ((0 ≤ o ∧ o ≤ 28 ∧ (o = 21 → 5 ≤ a ∧ a ≤ 8)) ∧ zv_f h 1 3 < 60) (zv_f h 1 3) a (zv_a h 3) (zv_a h1 3) ∧ zs_ad ((0 ≤ o ∧ o ≤ 28 ∧ (o = 21 → 5 ≤ a ∧ a ≤ 8)) ∧ zv_f h 1 3 < 60) (zv_f h 1 3) b (zv_a h 4) (zv_a h1 4) ∧ (((0 ≤ o ∧ o ≤ 28 ∧ (o = 21 → 5 ≤ a ∧ a ≤ 8)) ∧ zv_f h 1 3 < 60) → zv_f h1 16 4 = 0) ∧ (¬ ((0 ≤ o ∧ o ≤ 28 ∧ (o = 21 → 5 ≤ a ∧ a ≤ 8)) ∧ zv_f h 1 3 < 60) → zv_f h1 16 4 = zv_f h 16 4))) (x2 : (zs_opn o a e2 (zv_i h1 1) (zv_i h2 1) ∧ (zv_i h2 13 = 0 ∨ (zv_i h2 13 = zv_i h1 13 ∧ zv_i h2 1 = zv_i h1 1 ∧ ∀ j, 0 ≤ j → zv_a h2 45 j = zv_a h1 45 j ∧ zv_a h2 46 j = zv_a h1 46 j ∧ zv_a h2 47 j = zv_a h1 47 j)) ∧ (zg_CI h1 → zg_CI h2)) ∧ (zs_ad ((0 ≤ o ∧ o ≤ 28 ∧ (o = 21 → 5 ≤ a ∧ a ≤ 8)) ∧ zv_i h1 1 < 60) (zv_i h1 1) o (zv_a h1 45) (zv_a h2 45) ∧ zs_ad ((0 ≤ o ∧ o ≤ 28 ∧ (o = 21 → 5 ≤ a ∧ a ≤ 8)) ∧ zv_i h1 1 < 60) (zv_i h1 1) a (zv_a h1 46) (zv_a h2 46) ∧ zs_ad ((0 ≤ o ∧ o ≤ 28 ∧ (o = 21 → 5 ≤ a ∧ a ≤ 8)) ∧ zv_i h1 1 < 60) (zv_i h1 1) b (zv_a h1 47) (zv_a h2 47) ∧ (((0 ≤ o ∧ o ≤ 28 ∧ (o = 21 → 5 ≤ a ∧ a ≤ 8)) ∧ zv_i h1 1 < 60) → zv_i h2 13 = 0) ∧ (¬ ((0 ≤ o ∧ o ≤ 28 ∧ (o = 21 → 5 ≤ a ∧ a ≤ 8)) ∧ zv_i h1 1 < 60) → zv_i h2 13 = zv_i h1 13))) : zn_O h2 ∧ e1 = e2 := by
  obtain ⟨L2, ee⟩ := zn_p_operation N.1 i2 w1 w2 x1.1 x2.1
  have r := zn_X_r N.2.1
  have n1 : zv_i h1 1 = zv_f h 1 3 := (zv_wi w1 rfl).trans N.1.2.1.symm
  obtain ⟨p1, p2, p3, p4, p5⟩ := x1.2
  obtain ⟨q1, q2, q3, q4, q5⟩ := x2.2
  have ic : ((0 ≤ o ∧ o ≤ 28 ∧ (o = 21 → 5 ≤ a ∧ a ≤ 8)) ∧ zv_f h 1 3 < 60) ↔ ((0 ≤ o ∧ o ≤ 28 ∧ (o = 21 → 5 ≤ a ∧ a ≤ 8)) ∧ zv_i h1 1 < 60) := by rw [n1]
  have m1 : zv_i h1 13 = zv_i h 13 := zv_wi w1 rfl
  have m2 : zv_f h2 16 4 = zv_f h1 16 4 := zv_wf w2 rfl
  have X3 := N.2.2.2.1
  have hn := zv_ri N.1.1.1 (k := 1) rfl
  have nn := x2.1.1
  refine ⟨⟨L2, zn_X_add N.2 w1 w2 rfl rfl (zn_X_eq L2.2 ?_ ?_ ?_ ?_ ?_ ?_ ?_ ?_) ⟨?_, ?_, ?_⟩ ?_ ?_⟩, ee⟩
  · intro j j0; rw [zv_wa w2 rfl]; exact zs_ad_eq p1 q1 ic n1.symm (fun j _ => by rw [zv_wa w1 rfl, r.1]) j j0
  · intro j j0; rw [zv_wa w2 rfl]; exact zs_ad_eq p2 q2 ic n1.symm (fun j _ => by rw [zv_wa w1 rfl, r.2.1]) j j0
  · intro j j0; rw [zv_wa w2 rfl]; exact zs_ad_eq p3 q3 ic n1.symm (fun j _ => by rw [zv_wa w1 rfl, r.2.2.1]) j j0
  · intro j _; rw [zv_wa w2 rfl, zv_wa w1 rfl, zv_wa w2 rfl, zv_wa w1 rfl, r.2.2.2.1]
  · intro j _; rw [zv_wa w2 rfl, zv_wa w1 rfl, zv_wa w2 rfl, zv_wa w1 rfl, r.2.2.2.2.1]
  · intro j _; rw [zv_wa w2 rfl, zv_wa w1 rfl, zv_wa w2 rfl, zv_wa w1 rfl, r.2.2.2.2.2.1]
  · intro j _; rw [zv_wa w2 rfl, zv_wa w1 rfl, zv_wa w2 rfl, zv_wa w1 rfl, r.2.2.2.2.2.2.1]
  · intro j _; rw [zv_wa w2 rfl, zv_wa w1 rfl, zv_wa w2 rfl, zv_wa w1 rfl, r.2.2.2.2.2.2.2]
  · intro p p0 p9
    have p9 : p < zv_i h2 1 := p9
    show (0 ≤ zv_a h2 45 p ∧ zv_a h2 45 p ≤ 28) ∧ (zv_a h2 45 p = 21 → 5 ≤ zv_a h2 46 p ∧ zv_a h2 46 p ≤ 8)
    have old : p < zv_i h 1 → (0 ≤ zv_a h 45 p ∧ zv_a h 45 p ≤ 28) ∧ (zv_a h 45 p = 21 → 5 ≤ zv_a h 46 p ∧ zv_a h 46 p ≤ 8) := fun z => N.2.2.1.1 p p0 z
    have n2 : zv_i h1 1 = zv_i h 1 := zv_wi w1 rfl
    by_cases c : (0 ≤ o ∧ o ≤ 28 ∧ (o = 21 → 5 ≤ a ∧ a ≤ 8)) ∧ zv_i h1 1 < 60
    · have y1 := q1.1 c p p0
      have y2 := q2.1 c p p0
      rw [zv_wa w1 rfl] at y1 y2
      by_cases d : p = zv_i h1 1
      · rw [if_pos d] at y1 y2; rw [y1, y2]; exact ⟨⟨c.1.1, c.1.2.1⟩, c.1.2.2⟩
      · rw [if_neg d] at y1 y2; rw [y1, y2]; exact old (by unfold zs_opn at nn; omega)
    · rw [q1.2 c p p0, q2.2 c p p0, zv_wa w1 rfl, zv_wa w1 rfl]; exact old (by unfold zs_opn at nn; omega)
  · intro t t0 t9
    have e5 : zv_i h2 5 = zv_i h 5 := (zv_wi w2 rfl).trans (zv_wi w1 rfl)
    have t9 : t < zv_i h2 5 := t9
    show 7 ≤ zv_a h2 51 t ∧ zv_a h2 51 t ≤ 8
    rw [zv_wa w2 rfl, zv_wa w1 rfl]
    exact N.2.2.1.2.1 t t0 (by show t < zv_i h 5; omega)
  · rw [zs_row_e (h := h) ((zv_wi w2 rfl).trans (zv_wi w1 rfl)) (funext (fun j => (zv_wa w2 rfl j).trans (zv_wa w1 rfl j)))]
    exact N.2.2.1.2.2
  · by_cases c : (0 ≤ o ∧ o ≤ 28 ∧ (o = 21 → 5 ≤ a ∧ a ≤ 8)) ∧ zv_i h1 1 < 60
    · rw [m2, p4 (ic.2 c), q4 c]
    · rw [m2, p5 (fun z => c (ic.1 z)), q5 c, m1]; exact X3
  · intro z
    by_cases c : (0 ≤ o ∧ o ≤ 28 ∧ (o = 21 → 5 ≤ a ∧ a ≤ 8)) ∧ zv_i h1 1 < 60
    · have := q4 c; omega
    · refine ⟨by rw [q5 c, m1] at z; exact z, ?_⟩
      have e1 : zv_i h2 1 = zv_i h 1 := by have n2 : zv_i h1 1 = zv_i h 1 := zv_wi w1 rfl; unfold zs_opn at nn; omega
      unfold zr_Pg
      rw [e1, zv_ext (fun j j0 => (q1.2 c j j0).trans (zv_wa w1 rfl j)), zv_ext (fun j j0 => (q2.2 c j j0).trans (zv_wa w1 rfl j)), zv_ext (fun j j0 => (q3.2 c j j0).trans (zv_wa w1 rfl j)), show zv_i h2 5 = zv_i h 5 from (zv_wi w2 rfl).trans (zv_wi w1 rfl), show zv_i h2 10 = zv_i h 10 from (zv_wi w2 rfl).trans (zv_wi w1 rfl), zv_ext (a := 48) (b := 48) (h := h2) (h' := h) (fun j _ => (zv_wa w2 rfl j).trans (zv_wa w1 rfl j)), zv_ext (a := 49) (b := 49) (h := h2) (h' := h) (fun j _ => (zv_wa w2 rfl j).trans (zv_wa w1 rfl j)), zv_ext (a := 50) (b := 50) (h := h2) (h' := h) (fun j _ => (zv_wa w2 rfl j).trans (zv_wa w1 rfl j)), zv_ext (a := 51) (b := 51) (h := h2) (h' := h) (fun j _ => (zv_wa w2 rfl j).trans (zv_wa w1 rfl j)), zv_ext (a := 52) (b := 52) (h := h2) (h' := h) (fun j _ => (zv_wa w2 rfl j).trans (zv_wa w1 rfl j))]
theorem zN_p_handler {f t p k e1 e2 : Int} (N : zn_O h) (i1 : zb_I zc_H h1) (i2 : zb_I zc_H h2) (w1 : zb_W [(5, 0), (6, 0), (7, 0), (8, 0), (1, 8), (16, 4)] h h1) (w2 : zb_W [(44, 0), (44, 5), (48, 0), (49, 0), (50, 0), (51, 0), (44, 13)] h1 h2) (x1 : (zs_hnd f t p k e1 (zv_f h 1 8) (zv_f h1 1 8)) ∧ (zs_ad ((0 ≤ f ∧ f ≤ 60 ∧ 0 ≤ t ∧ t ≤ 60 ∧ 0 ≤ p ∧ p ≤ 60 ∧ 7 ≤ k ∧ k ≤ 8) ∧ zv_f h 1 8 < 6) (zv_f h 1 8) f (zv_a h 5) (zv_a h1 5) ∧ zs_ad ((0 ≤ f ∧ f ≤ 60 ∧ 0 ≤ t ∧ t ≤ 60 ∧ 0 ≤ p ∧ p ≤ 60 ∧ 7 ≤ k ∧ k ≤ 8) ∧ zv_f h 1 8 < 6) (zv_f h 1 8) t (zv_a h 6) (zv_a h1 6) ∧ zs_ad ((0 ≤ f ∧ f ≤ 60 ∧ 0 ≤ t ∧ t ≤ 60 ∧ 0 ≤ p ∧ p ≤ 60 ∧ 7 ≤ k ∧ k ≤ 8) ∧ zv_f h 1 8 < 6) (zv_f h 1 8) p (zv_a h 7) (zv_a h1 7) ∧ zs_ad ((0 ≤ f ∧ f ≤ 60 ∧ 0 ≤ t ∧ t ≤ 60 ∧ 0 ≤ p ∧ p ≤ 60 ∧ 7 ≤ k ∧ k ≤ 8) ∧ zv_f h 1 8 < 6) (zv_f h 1 8) k (zv_a h 8) (zv_a h1 8) ∧ (((0 ≤ f ∧ f ≤ 60 ∧ 0 ≤ t ∧ t ≤ 60 ∧ 0 ≤ p ∧ p ≤ 60 ∧ 7 ≤ k ∧ k ≤ 8) ∧ zv_f h 1 8 < 6) → zv_f h1 16 4 = 0) ∧ (¬ ((0 ≤ f ∧ f ≤ 60 ∧ 0 ≤ t ∧ t ≤ 60 ∧ 0 ≤ p ∧ p ≤ 60 ∧ 7 ≤ k ∧ k ≤ 8) ∧ zv_f h 1 8 < 6) → zv_f h1 16 4 = zv_f h 16 4))) (x2 : (zs_hnd f t p k e2 (zv_i h1 5) (zv_i h2 5) ∧ (zv_i h2 13 = 0 ∨ (zv_i h2 13 = zv_i h1 13 ∧ zv_i h2 5 = zv_i h1 5 ∧ ∀ j, 0 ≤ j → zv_a h2 48 j = zv_a h1 48 j ∧ zv_a h2 49 j = zv_a h1 49 j ∧ zv_a h2 50 j = zv_a h1 50 j)) ∧ (zg_TI h1 → zg_TI h2)) ∧ (zs_ad ((0 ≤ f ∧ f ≤ 60 ∧ 0 ≤ t ∧ t ≤ 60 ∧ 0 ≤ p ∧ p ≤ 60 ∧ 7 ≤ k ∧ k ≤ 8) ∧ zv_i h1 5 < 6) (zv_i h1 5) f (zv_a h1 48) (zv_a h2 48) ∧ zs_ad ((0 ≤ f ∧ f ≤ 60 ∧ 0 ≤ t ∧ t ≤ 60 ∧ 0 ≤ p ∧ p ≤ 60 ∧ 7 ≤ k ∧ k ≤ 8) ∧ zv_i h1 5 < 6) (zv_i h1 5) t (zv_a h1 49) (zv_a h2 49) ∧ zs_ad ((0 ≤ f ∧ f ≤ 60 ∧ 0 ≤ t ∧ t ≤ 60 ∧ 0 ≤ p ∧ p ≤ 60 ∧ 7 ≤ k ∧ k ≤ 8) ∧ zv_i h1 5 < 6) (zv_i h1 5) p (zv_a h1 50) (zv_a h2 50) ∧ zs_ad ((0 ≤ f ∧ f ≤ 60 ∧ 0 ≤ t ∧ t ≤ 60 ∧ 0 ≤ p ∧ p ≤ 60 ∧ 7 ≤ k ∧ k ≤ 8) ∧ zv_i h1 5 < 6) (zv_i h1 5) k (zv_a h1 51) (zv_a h2 51) ∧ (((0 ≤ f ∧ f ≤ 60 ∧ 0 ≤ t ∧ t ≤ 60 ∧ 0 ≤ p ∧ p ≤ 60 ∧ 7 ≤ k ∧ k ≤ 8) ∧ zv_i h1 5 < 6) → zv_i h2 13 = 0) ∧ (¬ ((0 ≤ f ∧ f ≤ 60 ∧ 0 ≤ t ∧ t ≤ 60 ∧ 0 ≤ p ∧ p ≤ 60 ∧ 7 ≤ k ∧ k ≤ 8) ∧ zv_i h1 5 < 6) → zv_i h2 13 = zv_i h1 13))) : zn_O h2 ∧ e1 = e2 := by
  obtain ⟨L2, ee⟩ := zn_p_handler N.1 i2 w1 w2 x1.1 x2.1
  have r := zn_X_r N.2.1
  have n1 : zv_i h1 5 = zv_f h 1 8 := (zv_wi w1 rfl).trans N.1.2.2.1.symm
  obtain ⟨p1, p2, p3, p6, p4, p5⟩ := x1.2
  obtain ⟨q1, q2, q3, q6, q4, q5⟩ := x2.2
  have ic : ((0 ≤ f ∧ f ≤ 60 ∧ 0 ≤ t ∧ t ≤ 60 ∧ 0 ≤ p ∧ p ≤ 60 ∧ 7 ≤ k ∧ k ≤ 8) ∧ zv_f h 1 8 < 6) ↔ ((0 ≤ f ∧ f ≤ 60 ∧ 0 ≤ t ∧ t ≤ 60 ∧ 0 ≤ p ∧ p ≤ 60 ∧ 7 ≤ k ∧ k ≤ 8) ∧ zv_i h1 5 < 6) := by rw [n1]
  have m1 : zv_i h1 13 = zv_i h 13 := zv_wi w1 rfl
  have m2 : zv_f h2 16 4 = zv_f h1 16 4 := zv_wf w2 rfl
  have X3 := N.2.2.2.1
  have hn := zv_ri N.1.1.1 (k := 5) rfl
  have nn := x2.1.1
  refine ⟨⟨L2, zn_X_add N.2 w1 w2 rfl rfl (zn_X_eq L2.2 ?_ ?_ ?_ ?_ ?_ ?_ ?_ ?_) ⟨?_, ?_, ?_⟩ ?_ ?_⟩, ee⟩
  · intro j _; rw [zv_wa w2 rfl, zv_wa w1 rfl, zv_wa w2 rfl, zv_wa w1 rfl, r.1]
  · intro j _; rw [zv_wa w2 rfl, zv_wa w1 rfl, zv_wa w2 rfl, zv_wa w1 rfl, r.2.1]
  · intro j _; rw [zv_wa w2 rfl, zv_wa w1 rfl, zv_wa w2 rfl, zv_wa w1 rfl, r.2.2.1]
  · intro j j0; rw [zv_wa w2 rfl]; exact zs_ad_eq p1 q1 ic n1.symm (fun j _ => by rw [zv_wa w1 rfl, r.2.2.2.1]) j j0
  · intro j j0; rw [zv_wa w2 rfl]; exact zs_ad_eq p2 q2 ic n1.symm (fun j _ => by rw [zv_wa w1 rfl, r.2.2.2.2.1]) j j0
  · intro j j0; rw [zv_wa w2 rfl]; exact zs_ad_eq p3 q3 ic n1.symm (fun j _ => by rw [zv_wa w1 rfl, r.2.2.2.2.2.1]) j j0
  · intro j j0; rw [zv_wa w2 rfl]; exact zs_ad_eq p6 q6 ic n1.symm (fun j _ => by rw [zv_wa w1 rfl, r.2.2.2.2.2.2.1]) j j0
  · intro j _; rw [zv_wa w2 rfl, zv_wa w1 rfl, zv_wa w2 rfl, zv_wa w1 rfl, r.2.2.2.2.2.2.2]
  · intro p p0 p9
    have p9 : p < zv_i h2 1 := p9
    have e5 : zv_i h2 1 = zv_i h 1 := (zv_wi w2 rfl).trans (zv_wi w1 rfl)
    show (0 ≤ zv_a h2 45 p ∧ zv_a h2 45 p ≤ 28) ∧ (zv_a h2 45 p = 21 → 5 ≤ zv_a h2 46 p ∧ zv_a h2 46 p ≤ 8)
    rw [zv_wa w2 rfl, zv_wa w1 rfl, zv_wa w2 rfl, zv_wa w1 rfl]
    exact N.2.2.1.1 p p0 (by show p < zv_i h 1; omega)
  · intro s s0 s9
    have s9 : s < zv_i h2 5 := s9
    show 7 ≤ zv_a h2 51 s ∧ zv_a h2 51 s ≤ 8
    have old : s < zv_i h 5 → 7 ≤ zv_a h 51 s ∧ zv_a h 51 s ≤ 8 := fun z => N.2.2.1.2.1 s s0 z
    have n2 : zv_i h1 5 = zv_i h 5 := zv_wi w1 rfl
    by_cases c : (0 ≤ f ∧ f ≤ 60 ∧ 0 ≤ t ∧ t ≤ 60 ∧ 0 ≤ p ∧ p ≤ 60 ∧ 7 ≤ k ∧ k ≤ 8) ∧ zv_i h1 5 < 6
    · have y1 := q6.1 c s s0
      rw [zv_wa w1 rfl] at y1
      by_cases d : s = zv_i h1 5
      · rw [if_pos d] at y1; rw [y1]; omega
      · rw [if_neg d] at y1; rw [y1]; exact old (by unfold zs_hnd at nn; omega)
    · rw [q6.2 c s s0, zv_wa w1 rfl]; exact old (by unfold zs_hnd at nn; omega)
  · rw [zs_row_e (h := h) ((zv_wi w2 rfl).trans (zv_wi w1 rfl)) (funext (fun j => (zv_wa w2 rfl j).trans (zv_wa w1 rfl j)))]
    exact N.2.2.1.2.2
  · by_cases c : (0 ≤ f ∧ f ≤ 60 ∧ 0 ≤ t ∧ t ≤ 60 ∧ 0 ≤ p ∧ p ≤ 60 ∧ 7 ≤ k ∧ k ≤ 8) ∧ zv_i h1 5 < 6
    · rw [m2, p4 (ic.2 c), q4 c]
    · rw [m2, p5 (fun z => c (ic.1 z)), q5 c, m1]; exact X3
  · intro z
    by_cases c : (0 ≤ f ∧ f ≤ 60 ∧ 0 ≤ t ∧ t ≤ 60 ∧ 0 ≤ p ∧ p ≤ 60 ∧ 7 ≤ k ∧ k ≤ 8) ∧ zv_i h1 5 < 6
    · have := q4 c; omega
    · refine ⟨by rw [q5 c, m1] at z; exact z, ?_⟩
      have e1 : zv_i h2 5 = zv_i h 5 := by have n2 : zv_i h1 5 = zv_i h 5 := zv_wi w1 rfl; unfold zs_hnd at nn; omega
      unfold zr_Pg
      rw [e1, zv_ext (fun j j0 => (q1.2 c j j0).trans (zv_wa w1 rfl j)), zv_ext (fun j j0 => (q2.2 c j j0).trans (zv_wa w1 rfl j)), zv_ext (fun j j0 => (q3.2 c j j0).trans (zv_wa w1 rfl j)), zv_ext (fun j j0 => (q6.2 c j j0).trans (zv_wa w1 rfl j)), show zv_i h2 1 = zv_i h 1 from (zv_wi w2 rfl).trans (zv_wi w1 rfl), show zv_i h2 10 = zv_i h 10 from (zv_wi w2 rfl).trans (zv_wi w1 rfl), zv_ext (a := 45) (b := 45) (h := h2) (h' := h) (fun j _ => (zv_wa w2 rfl j).trans (zv_wa w1 rfl j)), zv_ext (a := 46) (b := 46) (h := h2) (h' := h) (fun j _ => (zv_wa w2 rfl j).trans (zv_wa w1 rfl j)), zv_ext (a := 47) (b := 47) (h := h2) (h' := h) (fun j _ => (zv_wa w2 rfl j).trans (zv_wa w1 rfl j)), zv_ext (a := 52) (b := 52) (h := h2) (h' := h) (fun j _ => (zv_wa w2 rfl j).trans (zv_wa w1 rfl j))]
theorem zN_p_parameter {c e1 e2 : Int} (N : zn_O h) (i1 : zb_I zc_H h1) (i2 : zb_I zc_H h2) (w1 : zb_W [(9, 0), (1, 10), (16, 4)] h h1) (w2 : zb_W [(44, 0), (44, 10), (52, 0), (44, 13)] h1 h2) (x1 : (zs_par c e1 (zv_f h 1 10) (zv_f h1 1 10)) ∧ (zs_a2 ((c = 1 ∨ c = 2 ∨ (5 ≤ c ∧ c ≤ 8)) ∧ ((c = 2 ∧ zv_f h 1 10 + 2 ≤ 8) ∨ (¬ c = 2 ∧ zv_f h 1 10 + 1 ≤ 8))) (zv_f h 1 10) c (zv_a h 9) (zv_a h1 9) ∧ (((c = 1 ∨ c = 2 ∨ (5 ≤ c ∧ c ≤ 8)) ∧ ((c = 2 ∧ zv_f h 1 10 + 2 ≤ 8) ∨ (¬ c = 2 ∧ zv_f h 1 10 + 1 ≤ 8))) → zv_f h1 16 4 = 0) ∧ (¬ ((c = 1 ∨ c = 2 ∨ (5 ≤ c ∧ c ≤ 8)) ∧ ((c = 2 ∧ zv_f h 1 10 + 2 ≤ 8) ∨ (¬ c = 2 ∧ zv_f h 1 10 + 1 ≤ 8))) → zv_f h1 16 4 = zv_f h 16 4))) (x2 : (zs_par c e2 (zv_i h1 10) (zv_i h2 10) ∧ (zv_i h2 13 = 0 ∨ zv_i h2 13 = zv_i h1 13)) ∧ (zs_a2 ((c = 1 ∨ c = 2 ∨ (5 ≤ c ∧ c ≤ 8)) ∧ ((c = 2 ∧ zv_i h1 10 + 2 ≤ 8) ∨ (¬ c = 2 ∧ zv_i h1 10 + 1 ≤ 8))) (zv_i h1 10) c (zv_a h1 52) (zv_a h2 52) ∧ (((c = 1 ∨ c = 2 ∨ (5 ≤ c ∧ c ≤ 8)) ∧ ((c = 2 ∧ zv_i h1 10 + 2 ≤ 8) ∨ (¬ c = 2 ∧ zv_i h1 10 + 1 ≤ 8))) → zv_i h2 13 = 0) ∧ (¬ ((c = 1 ∨ c = 2 ∨ (5 ≤ c ∧ c ≤ 8)) ∧ ((c = 2 ∧ zv_i h1 10 + 2 ≤ 8) ∨ (¬ c = 2 ∧ zv_i h1 10 + 1 ≤ 8))) → zv_i h2 13 = zv_i h1 13))) : zn_O h2 ∧ e1 = e2 := by
  obtain ⟨L2, ee⟩ := zn_p_parameter N.1 i2 w1 w2 x1.1 x2.1
  have r := zn_X_r N.2.1
  have n1 : zv_i h1 10 = zv_f h 1 10 := (zv_wi w1 rfl).trans N.1.2.2.2.1.symm
  obtain ⟨p1, p4, p5⟩ := x1.2
  obtain ⟨q1, q4, q5⟩ := x2.2
  have ic : ((c = 1 ∨ c = 2 ∨ (5 ≤ c ∧ c ≤ 8)) ∧ ((c = 2 ∧ zv_f h 1 10 + 2 ≤ 8) ∨ (¬ c = 2 ∧ zv_f h 1 10 + 1 ≤ 8))) ↔ ((c = 1 ∨ c = 2 ∨ (5 ≤ c ∧ c ≤ 8)) ∧ ((c = 2 ∧ zv_i h1 10 + 2 ≤ 8) ∨ (¬ c = 2 ∧ zv_i h1 10 + 1 ≤ 8))) := by rw [n1]
  have m1 : zv_i h1 13 = zv_i h 13 := zv_wi w1 rfl
  have m2 : zv_f h2 16 4 = zv_f h1 16 4 := zv_wf w2 rfl
  have X3 := N.2.2.2.1
  have hn := zv_ri N.1.1.1 (k := 10) rfl
  have nn := x2.1.1
  refine ⟨⟨L2, zn_X_add N.2 w1 w2 rfl rfl (zn_X_eq L2.2 ?_ ?_ ?_ ?_ ?_ ?_ ?_ ?_) ⟨?_, ?_, ?_⟩ ?_ ?_⟩, ee⟩
  · intro j _; rw [zv_wa w2 rfl, zv_wa w1 rfl, zv_wa w2 rfl, zv_wa w1 rfl, r.1]
  · intro j _; rw [zv_wa w2 rfl, zv_wa w1 rfl, zv_wa w2 rfl, zv_wa w1 rfl, r.2.1]
  · intro j _; rw [zv_wa w2 rfl, zv_wa w1 rfl, zv_wa w2 rfl, zv_wa w1 rfl, r.2.2.1]
  · intro j _; rw [zv_wa w2 rfl, zv_wa w1 rfl, zv_wa w2 rfl, zv_wa w1 rfl, r.2.2.2.1]
  · intro j _; rw [zv_wa w2 rfl, zv_wa w1 rfl, zv_wa w2 rfl, zv_wa w1 rfl, r.2.2.2.2.1]
  · intro j _; rw [zv_wa w2 rfl, zv_wa w1 rfl, zv_wa w2 rfl, zv_wa w1 rfl, r.2.2.2.2.2.1]
  · intro j _; rw [zv_wa w2 rfl, zv_wa w1 rfl, zv_wa w2 rfl, zv_wa w1 rfl, r.2.2.2.2.2.2.1]
  · intro j j0; rw [zv_wa w2 rfl]; exact zs_a2_eq p1 q1 ic n1.symm (fun j _ => by rw [zv_wa w1 rfl, r.2.2.2.2.2.2.2]) j j0
  · intro p p0 p9
    have p9 : p < zv_i h2 1 := p9
    have e5 : zv_i h2 1 = zv_i h 1 := (zv_wi w2 rfl).trans (zv_wi w1 rfl)
    show (0 ≤ zv_a h2 45 p ∧ zv_a h2 45 p ≤ 28) ∧ (zv_a h2 45 p = 21 → 5 ≤ zv_a h2 46 p ∧ zv_a h2 46 p ≤ 8)
    rw [zv_wa w2 rfl, zv_wa w1 rfl, zv_wa w2 rfl, zv_wa w1 rfl]
    exact N.2.2.1.1 p p0 (by show p < zv_i h 1; omega)
  · intro t t0 t9
    have e5 : zv_i h2 5 = zv_i h 5 := (zv_wi w2 rfl).trans (zv_wi w1 rfl)
    have t9 : t < zv_i h2 5 := t9
    show 7 ≤ zv_a h2 51 t ∧ zv_a h2 51 t ≤ 8
    rw [zv_wa w2 rfl, zv_wa w1 rfl]
    exact N.2.2.1.2.1 t t0 (by show t < zv_i h 5; omega)
  · have n2 : zv_i h1 10 = zv_i h 10 := zv_wi w1 rfl
    by_cases d : (c = 1 ∨ c = 2 ∨ (5 ≤ c ∧ c ≤ 8)) ∧ ((c = 2 ∧ zv_i h1 10 + 2 ≤ 8) ∨ (¬ c = 2 ∧ zv_i h1 10 + 1 ≤ 8))
    · exact zs_row_c (n := zv_i h1 10) (n' := zv_i h2 10) (k := c) (A := zv_a h1 52) (by omega) d.1 (by unfold zs_par at nn; omega) (q1.1 d) (by rw [n2, show zv_a h1 52 = zv_a h 52 from funext (fun j => zv_wa w1 rfl j)]; exact N.2.2.1.2.2.1) (by rw [n2, show zv_a h1 52 = zv_a h 52 from funext (fun j => zv_wa w1 rfl j)]; exact N.2.2.1.2.2.2)
    · rw [zs_row_e (h := h) (by unfold zs_par at nn; omega) (zv_ext (fun j j0 => (q1.2 d j j0).trans (zv_wa w1 rfl j)))]
      exact N.2.2.1.2.2
  · by_cases d : (c = 1 ∨ c = 2 ∨ (5 ≤ c ∧ c ≤ 8)) ∧ ((c = 2 ∧ zv_i h1 10 + 2 ≤ 8) ∨ (¬ c = 2 ∧ zv_i h1 10 + 1 ≤ 8))
    · rw [m2, p4 (ic.2 d), q4 d]
    · rw [m2, p5 (fun z => d (ic.1 z)), q5 d, m1]; exact X3
  · intro z
    by_cases d : (c = 1 ∨ c = 2 ∨ (5 ≤ c ∧ c ≤ 8)) ∧ ((c = 2 ∧ zv_i h1 10 + 2 ≤ 8) ∨ (¬ c = 2 ∧ zv_i h1 10 + 1 ≤ 8))
    · have := q4 d; omega
    · refine ⟨by rw [q5 d, m1] at z; exact z, ?_⟩
      have e1 : zv_i h2 10 = zv_i h 10 := by have n2 : zv_i h1 10 = zv_i h 10 := zv_wi w1 rfl; unfold zs_par at nn; omega
      unfold zr_Pg
      rw [e1, zv_ext (fun j j0 => (q1.2 d j j0).trans (zv_wa w1 rfl j)), show zv_i h2 1 = zv_i h 1 from (zv_wi w2 rfl).trans (zv_wi w1 rfl), show zv_i h2 5 = zv_i h 5 from (zv_wi w2 rfl).trans (zv_wi w1 rfl), zv_ext (a := 45) (b := 45) (h := h2) (h' := h) (fun j _ => (zv_wa w2 rfl j).trans (zv_wa w1 rfl j)), zv_ext (a := 46) (b := 46) (h := h2) (h' := h) (fun j _ => (zv_wa w2 rfl j).trans (zv_wa w1 rfl j)), zv_ext (a := 47) (b := 47) (h := h2) (h' := h) (fun j _ => (zv_wa w2 rfl j).trans (zv_wa w1 rfl j)), zv_ext (a := 48) (b := 48) (h := h2) (h' := h) (fun j _ => (zv_wa w2 rfl j).trans (zv_wa w1 rfl j)), zv_ext (a := 49) (b := 49) (h := h2) (h' := h) (fun j _ => (zv_wa w2 rfl j).trans (zv_wa w1 rfl j)), zv_ext (a := 50) (b := 50) (h := h2) (h' := h) (fun j _ => (zv_wa w2 rfl j).trans (zv_wa w1 rfl j)), zv_ext (a := 51) (b := 51) (h := h2) (h' := h) (fun j _ => (zv_wa w2 rfl j).trans (zv_wa w1 rfl j))]
theorem zN_p_clear {e1 e2 : Int} (N : zn_O h) (i1 : zb_I zc_H h1) (i2 : zb_I zc_H h2) (w1 : zb_W [(1, 3), (1, 8), (1, 10), (16, 4)] h h1) (w2 : zb_W [(44, 0), (44, 1), (44, 5), (44, 10), (44, 13)] h1 h2) (x1 : (e1 = zv_f h 1 3 ∧ zv_f h1 1 3 = 0 ∧ zv_f h1 1 8 = 0 ∧ zv_f h1 1 10 = 0) ∧ (zv_f h1 16 4 = 0)) (x2 : (e2 = zv_i h1 1 ∧ zv_i h2 1 = 0 ∧ zv_i h2 5 = 0 ∧ zv_i h2 10 = 0 ∧ zv_i h2 13 = 0) ∧ (True)) : zn_O h2 ∧ e1 = e2 := by
  obtain ⟨L2, ee⟩ := zn_p_clear N.1 i2 w1 w2 x1.1 x2.1
  have r := zn_X_r N.2.1
  have y := x2.1
  have z5 : zv_i h2 5 = 0 := y.2.2.1
  have z10 : zv_i h2 10 = 0 := y.2.2.2.1
  refine ⟨⟨L2, zn_X_add N.2 w1 w2 rfl rfl (zn_X_eq L2.2 ?_ ?_ ?_ ?_ ?_ ?_ ?_ ?_) ⟨?_, ?_, ?_⟩ ?_ ?_⟩, ee⟩
  · intro j _; rw [zv_wa w2 rfl, zv_wa w1 rfl, zv_wa w2 rfl, zv_wa w1 rfl, r.1]
  · intro j _; rw [zv_wa w2 rfl, zv_wa w1 rfl, zv_wa w2 rfl, zv_wa w1 rfl, r.2.1]
  · intro j _; rw [zv_wa w2 rfl, zv_wa w1 rfl, zv_wa w2 rfl, zv_wa w1 rfl, r.2.2.1]
  · intro j _; rw [zv_wa w2 rfl, zv_wa w1 rfl, zv_wa w2 rfl, zv_wa w1 rfl, r.2.2.2.1]
  · intro j _; rw [zv_wa w2 rfl, zv_wa w1 rfl, zv_wa w2 rfl, zv_wa w1 rfl, r.2.2.2.2.1]
  · intro j _; rw [zv_wa w2 rfl, zv_wa w1 rfl, zv_wa w2 rfl, zv_wa w1 rfl, r.2.2.2.2.2.1]
  · intro j _; rw [zv_wa w2 rfl, zv_wa w1 rfl, zv_wa w2 rfl, zv_wa w1 rfl, r.2.2.2.2.2.2.1]
  · intro j _; rw [zv_wa w2 rfl, zv_wa w1 rfl, zv_wa w2 rfl, zv_wa w1 rfl, r.2.2.2.2.2.2.2]
  · intro p p0 p9
    have p9 : p < zv_i h2 1 := p9
    omega
  · intro t t0 t9
    have t9 : t < zv_i h2 5 := t9
    omega
  · have e0 : ∀ j, 0 ≤ j → zs_row (zr_Pg h2) j = 0 := fun j j0 => by
      show (if j < zv_i h2 10 then zv_a h2 52 j else 0) = 0
      rw [if_neg (by omega)]
    exact ⟨fun j j0 j1 => ⟨fun z => by have := e0 j j0; omega, fun z => by have := e0 j j0; omega⟩, fun j j0 j1 => by have := e0 j j0; omega⟩
  · rw [zv_wf w2 rfl, x1.2]; omega
  · intro z; omega
theorem zN_p_argument {i v e1 e2 : Int} (N : zn_O h) (i1 : zb_I zc_H h1) (i2 : zb_I zc_H h2) (w1 : zb_W [(35, 0)] h h1) (w2 : zb_W [(44, 0), (53, 0)] h1 h2) (x1 : zs_arg i v e1 (zv_b h 35) (zv_b h1 35)) (x2 : zs_arg i v e2 (zv_b h1 53) (zv_b h2 53)) : zn_O h2 ∧ e1 = e2 := by
  obtain ⟨L2, ee⟩ := zn_p_argument N.1 i1 i2 w1 w2 x1 x2
  exact ⟨⟨L2, (N.2.w w1 rfl).w w2 rfl⟩, ee⟩
end ZNQ

theorem zN_c_make {h : zx_H} (hN : zn_O h) : zx_T zp_P 7 zp_m139 0 (lv_args 0 [.ref 0]) [] h (zr_R [(0, 6), (16, 4), (16, 5), (16, 6), (10, 3), (19, 0), (20, 1), (21, 0), (18, 0), (16, 7), (14, 0), (15, 0), (12, 0), (13, 0)] h (fun e h' => zc_M h' (zr_Pg h) e)) := by
  have z := zm_cMake hN.1.1.1 (by rw [hN.2.1]; exact hN.2.2.1.ok) (by rw [hN.2.1]; exact hN.2.2.1.nn)
  rw [hN.2.1] at z
  exact z
theorem zN_m_make {h h1 : zx_H} (hN : zn_O h) (i1 : zb_I zc_H h1) (w1 : zb_W [(0, 6), (16, 4), (16, 5), (16, 6), (10, 3), (19, 0), (20, 1), (21, 0), (18, 0), (16, 7), (14, 0), (15, 0), (12, 0), (13, 0)] h h1) : zx_T zp_P 5 zp_m176 0 (lv_args 0 [.ref 44]) [] h1 (zr_R [(44, 0), (44, 13), (44, 14), (44, 15), (44, 19), (54, 0), (44, 27), (56, 0), (55, 0), (63, 0), (44, 25), (61, 0), (62, 0), (44, 26), (57, 0), (58, 0), (59, 0), (60, 0)] h1 (fun e h' => (zg_KI h' ∧ (zv_i h' 13 = 1 → zg_C h')) ∧ zr_M h' (zr_Pg h) e)) := by
  have hk := hN.1.1.2.2.2.1.w w1 rfl
  have hc := hN.1.1.2.1.w w1 rfl rfl
  have ht := hN.1.1.2.2.1.w w1 rfl
  have z := zm_makeF i1 hk hc ht (by rw [zr_Pg_g w1 rfl]; exact hN.2.2.1.ok)
  rw [zr_Pg_g w1 rfl] at z
  exact ((zm_make i1 hk hc ht).and z).im fun r h' ⟨⟨i, w, e, r1, x⟩, ⟨_, _, e2, r2, y⟩⟩ => ⟨i, w, e2, r2, x, y⟩
theorem zN_p_make {h h1 h2 : zx_H} {e1 e2 : Int} (N : zn_O h) (i1 : zb_I zc_H h1) (i2 : zb_I zc_H h2) (w1 : zb_W [(0, 6), (16, 4), (16, 5), (16, 6), (10, 3), (19, 0), (20, 1), (21, 0), (18, 0), (16, 7), (14, 0), (15, 0), (12, 0), (13, 0)] h h1) (w2 : zb_W [(44, 0), (44, 13), (44, 14), (44, 15), (44, 19), (54, 0), (44, 27), (56, 0), (55, 0), (63, 0), (44, 25), (61, 0), (62, 0), (44, 26), (57, 0), (58, 0), (59, 0), (60, 0)] h1 h2) (x1 : zc_M h1 (zr_Pg h) e1) (x2 : (zg_KI h2 ∧ (zv_i h2 13 = 1 → zg_C h2)) ∧ zr_M h2 (zr_Pg h) e2) : zn_O h2 ∧ e1 = e2 := by
  obtain ⟨⟨_, b2, b3, b4, b5, b6⟩, R⟩ := N.1
  have B2 : zn_B h2 := ⟨i2, (b2.w w1 rfl rfl).w w2 rfl rfl, (b3.w w1 rfl).w w2 rfl, x2.1.1, x2.1.2, by rw [zv_wi w2 rfl, zv_wi w1 rfl]; exact b6⟩
  have R2 : zn_R h2 := (R.w w1 rfl).w w2 rfl
  have eP : zr_Pg h2 = zr_Pg h := (zr_Pg_g w2 rfl).trans (zr_Pg_g w1 rfl)
  have eC : zc_Pg h2 = zr_Pg h2 := by rw [zc_Pg_g w2 rfl, zc_Pg_g w1 rfl, eP]; exact N.2.1
  have m4 : zv_f h2 16 4 = zv_f h1 16 4 := zv_wf w2 rfl
  have m6 : zv_f h2 16 6 = zv_f h1 16 6 := zv_wf w2 rfl
  have m3 : zv_f h2 10 3 = zv_f h1 10 3 := zv_wf w2 rfl
  have gd : (zr_Pg h2).gd := by rw [eP]; exact N.2.2.1
  rcases x1 with ⟨a1, a2, a3, a4, a5⟩ | ⟨a1, a2, a3, a4, a5, a6⟩ | ⟨a1, a2, a3, a4, a5, a6, a7, a8, a9, a10⟩
  · rcases x2.2 with ⟨c1, c2, c3, c4, c5⟩ | ⟨c1, _⟩ | ⟨c1, _⟩
    · exact ⟨⟨⟨B2, R2⟩, eC, gd, by omega, by omega, fun z => absurd z (by omega)⟩, by omega⟩
    · omega
    · omega
  · rcases x2.2 with ⟨c1, _⟩ | ⟨c1, c2, c3, c4, c5, c6⟩ | ⟨c1, c2, _⟩
    · omega
    · exact ⟨⟨⟨B2, R2⟩, eC, gd, by omega, by omega, fun z => absurd z (by omega)⟩, by omega⟩
    · exact absurd c2 a2
  · rcases x2.2 with ⟨c1, _⟩ | ⟨c1, c2, _⟩ | ⟨c1, c2, c3, c4, c5, c6, c7, c8, c9⟩
    · omega
    · exact absurd a2 c2
    · exact ⟨⟨⟨B2, R2⟩, eC, gd, by omega, by omega, fun z => ⟨by omega, _, by rw [eP]; exact c9, c8, zc_A_g w2 rfl rfl rfl a8⟩⟩, by omega⟩
/-- the two tables, at a place of the code -/
theorem zn_at {h : zx_H} (X : zn_X h) (I : zb_I zc_H h) (md : ¬ zv_i h 13 = 0) {p : Int} (p0 : 0 ≤ p) (p1 : p < 60) : (zv_a h 54 p = 1 ∧ ¬ zv_a h 19 p = -1 ∧ zv_a h 56 p = zv_a h 19 p ∧ (0 ≤ zv_a h 19 p ∧ zv_a h 19 p ≤ 6) ∧ ∀ j, 0 ≤ j → j < 8 + zv_a h 19 p → zv_a h 55 (14 * p + j) = zv_a h 18 (14 * p + j)) ∨ (¬ zv_a h 54 p = 1 ∧ zv_a h 19 p = -1) := by
  have r := zv_ri I (k := 13) rfl
  obtain ⟨_, s, o, a, c⟩ := X.2.2.2.2 (by omega)
  by_cases R : s.R p
  · have w := (o.1 p R).2
    dsimp only at w
    have a2 := a.2.1 p R
    have c2 := c.2.1 p R
    refine Or.inl ⟨(a.1 p p0 p1).2 R, (c.1 p p0 p1).2 R, a2.1.trans c2.1.symm, by rw [c2.1]; exact w, fun j j0 j1 => ?_⟩
    rw [c2.1] at j1
    rw [a2.2 j j0 j1, c2.2 j j0 j1]
  · exact Or.inr ⟨fun z => R ((a.1 p p0 p1).1 z), Classical.byContradiction (fun z => R ((c.1 p p0 p1).1 z))⟩
theorem zn_dr {h : zx_H} (N : zn_O h) {p : Int} : 0 ≤ p → p < zv_f h 1 3 → ¬ zv_f h 16 4 = 0 → (-1) ≤ zv_a h 19 p ∧ zv_a h 19 p ≤ 6 := fun p0 p1 z => by
  have n := zw_ri N.1.1.1 (a := 1) (k := 3) rfl
  have e := N.2.2.2.1
  rcases zn_at N.2 N.1.1.1 (by omega) p0 (by omega) with t | t <;> omega

theorem zN_c_kind {h : zx_H} (hN : zn_O h) (x0 : Int32) (x1 : Int32) : zx_T zp_P 3 zp_m141 0 (lv_args 0 [.ref 0, .int x0, .int x1]) [] h (zr_R [] h (fun e h' => (¬ (0 ≤ x0.toInt ∧ x0.toInt < zv_f h 1 3) ∧ e = -2) ∨ ((0 ≤ x0.toInt ∧ x0.toInt < zv_f h 1 3) ∧ zv_f h 16 4 = 0 ∧ e = -3) ∨ ((0 ≤ x0.toInt ∧ x0.toInt < zv_f h 1 3) ∧ ¬ zv_f h 16 4 = 0 ∧ (¬ zv_a h 19 x0.toInt = -1 ∧ 0 ≤ x1.toInt ∧ x1.toInt < 8 + zv_a h 19 x0.toInt) ∧ e = zv_a h 18 (14 * x0.toInt + x1.toInt)) ∨ ((0 ≤ x0.toInt ∧ x0.toInt < zv_f h 1 3) ∧ ¬ zv_f h 16 4 = 0 ∧ ¬ (¬ zv_a h 19 x0.toInt = -1 ∧ 0 ≤ x1.toInt ∧ x1.toInt < 8 + zv_a h 19 x0.toInt) ∧ e = -1))) := by
  have z := zm_cKindX hN.1.1.1 (p := x0.toInt) (i := x1.toInt) (zn_r x0).1 (zn_r x0).2 (zn_r x1).1 (zn_r x1).2 (zn_dr hN)
  simp only [zI, Int32.ofInt_toInt] at z
  exact z.im fun r h' ⟨g, e, r1, x⟩ => by subst g; exact ⟨hN.1.1.1, zb_W.rf, e, r1, x⟩
theorem zN_m_kind {h : zx_H} (hI : zb_I zc_H h) (x0 : Int32) (x1 : Int32) : zx_T zp_P 1 zp_m200 0 (lv_args 0 [.ref 44, .int x0, .int x1]) [] h (zr_R [(44, 0)] h (fun e h' => (¬ (0 ≤ x0.toInt ∧ x0.toInt < zv_i h 1) ∧ e = -2) ∨ ((0 ≤ x0.toInt ∧ x0.toInt < zv_i h 1) ∧ zv_i h 13 = 0 ∧ e = -3) ∨ ((0 ≤ x0.toInt ∧ x0.toInt < zv_i h 1) ∧ ¬ zv_i h 13 = 0 ∧ (zv_a h 54 x0.toInt = 1 ∧ 0 ≤ x1.toInt ∧ x1.toInt < 8 + zv_a h 56 x0.toInt) ∧ e = zv_a h 55 (14 * x0.toInt + x1.toInt)) ∨ ((0 ≤ x0.toInt ∧ x0.toInt < zv_i h 1) ∧ ¬ zv_i h 13 = 0 ∧ ¬ (zv_a h 54 x0.toInt = 1 ∧ 0 ≤ x1.toInt ∧ x1.toInt < 8 + zv_a h 56 x0.toInt) ∧ e = -1))) := by
  have z := zm_kindX hI (p := x0.toInt) (i := x1.toInt) (zn_r x0).1 (zn_r x0).2 (zn_r x1).1 (zn_r x1).2
  simp only [zI, Int32.ofInt_toInt] at z
  exact z

theorem zN_c_size {h : zx_H} (hN : zn_O h) (x0 : Int32) : zx_T zp_P 3 zp_m142 0 (lv_args 0 [.ref 0, .int x0]) [] h (zr_R [] h (fun e h' => (¬ (0 ≤ x0.toInt ∧ x0.toInt < zv_f h 1 3) ∧ e = -2) ∨ ((0 ≤ x0.toInt ∧ x0.toInt < zv_f h 1 3) ∧ zv_f h 16 4 = 0 ∧ e = -3) ∨ ((0 ≤ x0.toInt ∧ x0.toInt < zv_f h 1 3) ∧ ¬ zv_f h 16 4 = 0 ∧ ¬ zv_a h 19 x0.toInt = -1 ∧ e = zv_a h 19 x0.toInt) ∨ ((0 ≤ x0.toInt ∧ x0.toInt < zv_f h 1 3) ∧ ¬ zv_f h 16 4 = 0 ∧ ¬ (¬ zv_a h 19 x0.toInt = -1) ∧ e = -1))) := by
  have z := zm_cSizeX hN.1.1.1 (p := x0.toInt) (zn_r x0).1 (zn_r x0).2
  simp only [zI, Int32.ofInt_toInt] at z
  exact z.im fun r h' ⟨g, e, r1, x⟩ => by subst g; exact ⟨hN.1.1.1, zb_W.rf, e, r1, x⟩
theorem zN_m_size {h : zx_H} (hI : zb_I zc_H h) (x0 : Int32) : zx_T zp_P 1 zp_m201 0 (lv_args 0 [.ref 44, .int x0]) [] h (zr_R [(44, 0)] h (fun e h' => (¬ (0 ≤ x0.toInt ∧ x0.toInt < zv_i h 1) ∧ e = -2) ∨ ((0 ≤ x0.toInt ∧ x0.toInt < zv_i h 1) ∧ zv_i h 13 = 0 ∧ e = -3) ∨ ((0 ≤ x0.toInt ∧ x0.toInt < zv_i h 1) ∧ ¬ zv_i h 13 = 0 ∧ zv_a h 54 x0.toInt = 1 ∧ e = zv_a h 56 x0.toInt) ∨ ((0 ≤ x0.toInt ∧ x0.toInt < zv_i h 1) ∧ ¬ zv_i h 13 = 0 ∧ ¬ (zv_a h 54 x0.toInt = 1) ∧ e = -1))) := by
  have z := zm_sizeX hI (p := x0.toInt) (zn_r x0).1 (zn_r x0).2
  simp only [zI, Int32.ofInt_toInt] at z
  exact z

theorem zN_c_count {h : zx_H} (hN : zn_O h) (x0 : Int32) : zx_T zp_P 3 zp_m151 0 (lv_args 0 [.ref 0, .int x0]) [] h (zr_R [] h (fun e h' => (x0.toInt = 0 ∧ e = zv_f h 1 3) ∨ (x0.toInt = 1 ∧ e = zv_f h 1 8) ∨ (x0.toInt = 2 ∧ e = zv_f h 1 10) ∨ (x0.toInt = 3 ∧ ((zv_f h 16 4 = 0 ∧ e = 0) ∨ (¬ zv_f h 16 4 = 0 ∧ e = zv_f h 10 3))) ∨ (x0.toInt = 4 ∧ ((zv_f h 16 4 = 0 ∧ e = 0) ∨ (¬ zv_f h 16 4 = 0 ∧ e = zs_cn (fun p => zv_a h 19 p = -1) (zv_f h 1 3).toNat))) ∨ (x0.toInt = 5 ∧ e = zv_f h 16 6) ∨ (¬ (0 ≤ x0.toInt ∧ x0.toInt ≤ 5) ∧ e = -2))) := by
  have z := zm_cCountX hN.1.1.1 (w := x0.toInt) (zn_r x0).1 (zn_r x0).2
  simp only [zI, Int32.ofInt_toInt] at z
  exact z.im fun r h' ⟨g, e, r1, x⟩ => by subst g; exact ⟨hN.1.1.1, zb_W.rf, e, r1, x⟩
theorem zN_m_count {h : zx_H} (hI : zb_I zc_H h) (x0 : Int32) : zx_T zp_P 0 zp_m219 0 (lv_args 0 [.ref 44, .int x0]) [] h (zr_R [(44, 0)] h (fun e h' => (x0.toInt = 0 ∧ e = zv_i h 1) ∨ (x0.toInt = 1 ∧ e = zv_i h 5) ∨ (x0.toInt = 2 ∧ e = zv_i h 10) ∨ (x0.toInt = 3 ∧ ((zv_i h 13 = 0 ∧ e = 0) ∨ (¬ zv_i h 13 = 0 ∧ e = zv_i h 19))) ∨ (x0.toInt = 4 ∧ ((zv_i h 13 = 0 ∧ e = 0) ∨ (¬ zv_i h 13 = 0 ∧ e = zs_cn (fun p => ¬ zv_a h 54 p = 1) (zv_i h 1).toNat))) ∨ (x0.toInt = 5 ∧ e = zv_i h 15) ∨ (¬ (0 ≤ x0.toInt ∧ x0.toInt ≤ 5) ∧ e = -2))) := by
  have z := zm_countX hI (w := x0.toInt) (zn_r x0).1 (zn_r x0).2
  simp only [zI, Int32.ofInt_toInt] at z
  exact z

theorem zN_p_kind {h h1 h2 : zx_H} {p i e1 e2 : Int} (N : zn_O h) (i1 : zb_I zc_H h1) (i2 : zb_I zc_H h2) (w1 : zb_W [] h h1) (w2 : zb_W [(44, 0)] h1 h2) (x1 : (¬ (0 ≤ p ∧ p < zv_f h 1 3) ∧ e1 = -2) ∨ ((0 ≤ p ∧ p < zv_f h 1 3) ∧ zv_f h 16 4 = 0 ∧ e1 = -3) ∨ ((0 ≤ p ∧ p < zv_f h 1 3) ∧ ¬ zv_f h 16 4 = 0 ∧ (¬ zv_a h 19 p = -1 ∧ 0 ≤ i ∧ i < 8 + zv_a h 19 p) ∧ e1 = zv_a h 18 (14 * p + i)) ∨ ((0 ≤ p ∧ p < zv_f h 1 3) ∧ ¬ zv_f h 16 4 = 0 ∧ ¬ (¬ zv_a h 19 p = -1 ∧ 0 ≤ i ∧ i < 8 + zv_a h 19 p) ∧ e1 = -1)) (x2 : (¬ (0 ≤ p ∧ p < zv_i h1 1) ∧ e2 = -2) ∨ ((0 ≤ p ∧ p < zv_i h1 1) ∧ zv_i h1 13 = 0 ∧ e2 = -3) ∨ ((0 ≤ p ∧ p < zv_i h1 1) ∧ ¬ zv_i h1 13 = 0 ∧ (zv_a h1 54 p = 1 ∧ 0 ≤ i ∧ i < 8 + zv_a h1 56 p) ∧ e2 = zv_a h1 55 (14 * p + i)) ∨ ((0 ≤ p ∧ p < zv_i h1 1) ∧ ¬ zv_i h1 13 = 0 ∧ ¬ (zv_a h1 54 p = 1 ∧ 0 ≤ i ∧ i < 8 + zv_a h1 56 p) ∧ e2 = -1)) : zn_O h2 ∧ e1 = e2 := by
  refine ⟨⟨⟨(N.1.1.w i1 w1 rfl).w i2 w2 rfl, (N.1.2.w w1 rfl).w w2 rfl⟩, (N.2.w w1 rfl).w w2 rfl⟩, ?_⟩
  have n := zw_ri N.1.1.1 (a := 1) (k := 3) rfl
  have m := zv_ri N.1.1.1 (k := 13) rfl
  have c1 := N.1.2.1
  have c2 := N.2.2.2.1
  have d1 : zv_i h1 1 = zv_i h 1 := zv_wi w1 rfl
  have d2 : zv_i h1 13 = zv_i h 13 := zv_wi w1 rfl
  have d3 : zv_a h1 54 p = zv_a h 54 p := zv_wa w1 rfl p
  have d4 : zv_a h1 56 p = zv_a h 56 p := zv_wa w1 rfl p
  have d5 : zv_a h1 55 (14 * p + i) = zv_a h 55 (14 * p + i) := zv_wa w1 rfl _
  have t := fun (z : ¬ zv_i h 13 = 0) (p0 : 0 ≤ p) (p1 : p < 60) => zn_at N.2 N.1.1.1 z p0 p1
  rcases x1 with x1 | x1 | x1 | x1 <;> rcases x2 with x2 | x2 | x2 | x2 <;> first
    | omega
    | (rcases t (by omega) (by omega) (by omega) with y | y <;> first | omega | (have y5 := y.2.2.2.2 i (by omega) (by omega); omega))

theorem zN_p_size {h h1 h2 : zx_H} {p e1 e2 : Int} (N : zn_O h) (i1 : zb_I zc_H h1) (i2 : zb_I zc_H h2) (w1 : zb_W [] h h1) (w2 : zb_W [(44, 0)] h1 h2) (x1 : (¬ (0 ≤ p ∧ p < zv_f h 1 3) ∧ e1 = -2) ∨ ((0 ≤ p ∧ p < zv_f h 1 3) ∧ zv_f h 16 4 = 0 ∧ e1 = -3) ∨ ((0 ≤ p ∧ p < zv_f h 1 3) ∧ ¬ zv_f h 16 4 = 0 ∧ ¬ zv_a h 19 p = -1 ∧ e1 = zv_a h 19 p) ∨ ((0 ≤ p ∧ p < zv_f h 1 3) ∧ ¬ zv_f h 16 4 = 0 ∧ ¬ (¬ zv_a h 19 p = -1) ∧ e1 = -1)) (x2 : (¬ (0 ≤ p ∧ p < zv_i h1 1) ∧ e2 = -2) ∨ ((0 ≤ p ∧ p < zv_i h1 1) ∧ zv_i h1 13 = 0 ∧ e2 = -3) ∨ ((0 ≤ p ∧ p < zv_i h1 1) ∧ ¬ zv_i h1 13 = 0 ∧ zv_a h1 54 p = 1 ∧ e2 = zv_a h1 56 p) ∨ ((0 ≤ p ∧ p < zv_i h1 1) ∧ ¬ zv_i h1 13 = 0 ∧ ¬ (zv_a h1 54 p = 1) ∧ e2 = -1)) : zn_O h2 ∧ e1 = e2 := by
  refine ⟨⟨⟨(N.1.1.w i1 w1 rfl).w i2 w2 rfl, (N.1.2.w w1 rfl).w w2 rfl⟩, (N.2.w w1 rfl).w w2 rfl⟩, ?_⟩
  have n := zw_ri N.1.1.1 (a := 1) (k := 3) rfl
  have m := zv_ri N.1.1.1 (k := 13) rfl
  have c1 := N.1.2.1
  have c2 := N.2.2.2.1
  have d1 : zv_i h1 1 = zv_i h 1 := zv_wi w1 rfl
  have d2 : zv_i h1 13 = zv_i h 13 := zv_wi w1 rfl
  have d3 : zv_a h1 54 p = zv_a h 54 p := zv_wa w1 rfl p
  have d4 : zv_a h1 56 p = zv_a h 56 p := zv_wa w1 rfl p
  have t := fun (z : ¬ zv_i h 13 = 0) (p0 : 0 ≤ p) (p1 : p < 60) => zn_at N.2 N.1.1.1 z p0 p1
  rcases x1 with x1 | x1 | x1 | x1 <;> rcases x2 with x2 | x2 | x2 | x2 <;> first
    | omega
    | (rcases t (by omega) (by omega) (by omega) with y | y <;> omega)

theorem zN_p_count {h h1 h2 : zx_H} {w e1 e2 : Int} (N : zn_O h) (i1 : zb_I zc_H h1) (i2 : zb_I zc_H h2) (w1 : zb_W [] h h1) (w2 : zb_W [(44, 0)] h1 h2) (x1 : (w = 0 ∧ e1 = zv_f h 1 3) ∨ (w = 1 ∧ e1 = zv_f h 1 8) ∨ (w = 2 ∧ e1 = zv_f h 1 10) ∨ (w = 3 ∧ ((zv_f h 16 4 = 0 ∧ e1 = 0) ∨ (¬ zv_f h 16 4 = 0 ∧ e1 = zv_f h 10 3))) ∨ (w = 4 ∧ ((zv_f h 16 4 = 0 ∧ e1 = 0) ∨ (¬ zv_f h 16 4 = 0 ∧ e1 = zs_cn (fun p => zv_a h 19 p = -1) (zv_f h 1 3).toNat))) ∨ (w = 5 ∧ e1 = zv_f h 16 6) ∨ (¬ (0 ≤ w ∧ w ≤ 5) ∧ e1 = -2)) (x2 : (w = 0 ∧ e2 = zv_i h1 1) ∨ (w = 1 ∧ e2 = zv_i h1 5) ∨ (w = 2 ∧ e2 = zv_i h1 10) ∨ (w = 3 ∧ ((zv_i h1 13 = 0 ∧ e2 = 0) ∨ (¬ zv_i h1 13 = 0 ∧ e2 = zv_i h1 19))) ∨ (w = 4 ∧ ((zv_i h1 13 = 0 ∧ e2 = 0) ∨ (¬ zv_i h1 13 = 0 ∧ e2 = zs_cn (fun p => ¬ zv_a h1 54 p = 1) (zv_i h1 1).toNat))) ∨ (w = 5 ∧ e2 = zv_i h1 15) ∨ (¬ (0 ≤ w ∧ w ≤ 5) ∧ e2 = -2)) : zn_O h2 ∧ e1 = e2 := by
  refine ⟨⟨⟨(N.1.1.w i1 w1 rfl).w i2 w2 rfl, (N.1.2.w w1 rfl).w w2 rfl⟩, (N.2.w w1 rfl).w w2 rfl⟩, ?_⟩
  have n := zw_ri N.1.1.1 (a := 1) (k := 3) rfl
  have m := zv_ri N.1.1.1 (k := 13) rfl
  have c1 := N.1.2.1
  have c2 := N.2.2.2.1
  have d1 : zv_i h1 1 = zv_i h 1 := zv_wi w1 rfl
  have d2 : zv_i h1 13 = zv_i h 13 := zv_wi w1 rfl
  have c3 := N.1.2.2.1
  have c4 := N.1.2.2.2.1
  have c5 := N.2.2.2.2.1
  have d3 : zv_i h1 5 = zv_i h 5 := zv_wi w1 rfl
  have d4 : zv_i h1 10 = zv_i h 10 := zv_wi w1 rfl
  have d5 : zv_i h1 15 = zv_i h 15 := zv_wi w1 rfl
  have d6 : zv_i h1 19 = zv_i h 19 := zv_wi w1 rfl
  have t3 : ¬ zv_i h 13 = 0 → zv_f h 10 3 = zv_i h 19 := fun z => (N.2.2.2.2.2 (by omega)).1
  have t4 : ¬ zv_i h 13 = 0 → zs_cn (fun p => zv_a h 19 p = -1) (zv_f h 1 3).toNat = zs_cn (fun p => ¬ zv_a h1 54 p = 1) (zv_i h1 1).toNat := fun z => by
    rw [d1, ← c1]
    refine zs_cn_cg _ (fun p p0 p1 => ?_)
    have p2 : p < 60 := by omega
    rw [zv_wa w1 rfl]
    rcases zn_at N.2 N.1.1.1 z (p := (p : Int)) (by omega) (by omega) with y | y
    · exact ⟨fun a => absurd a y.2.1, fun a => absurd y.1 a⟩
    · exact ⟨fun _ => y.1, fun _ => y.2⟩
  omega
