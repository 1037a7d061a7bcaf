/-! ===== 98g: what holds between calls: frames too (by program) ===== -/
def zn_Z (h : zx_H) (P : zP) : Prop := ∃ s F, zs_ok P s ∧ zr_A h s ∧ zc_A h s ∧ zr_Fr h F ∧ zc_Fr h F ∧ F.ok ∧ zs_lk P s F
def zn_V (h : zx_H) : Prop := zn_O h ∧ (zv_i h 13 = 1 → zn_Z h (zr_Pg h))
def zn_sv (W : List (Nat × Nat)) : Bool := zn_s1 W || zr_fin W || zc_fin W
theorem zn_Z.w {W : List (Nat × Nat)} {h h' : zx_H} {P : zP} (a : zn_Z h P) (w : zb_W W h h') (e : zn_sv W = false) : zn_Z h' P := by
  unfold zn_sv at e
  simp only [Bool.or_eq_false_iff] at e
  obtain ⟨⟨f1, f2⟩, f3⟩ := e
  obtain ⟨e1, e2, e3, e4, e5, e6, e7, e8, e9, e10, e11⟩ := zn_s1s f1
  obtain ⟨s, F, a0, a1, a2, a3, a4, a5, a6⟩ := a
  exact ⟨s, F, a0, zr_A_g w e5 e6 e7 e8 a1, zc_A_g w e9 e10 e11 a2, zr_Fr_w w f2 a3, zc_Fr_w w f3 a4, a5, a6⟩
/-- what stays where nothing of it is written -/
def zn_st (W : List (Nat × Nat)) : Bool := zn_sb W || zn_sr W || zn_sx W || zn_sv W
theorem zn_V.w {W : List (Nat × Nat)} {h h' : zx_H} (a : zn_V h) (i : zb_I zc_H h') (w : zb_W W h h') (e : zn_st W = false) : zn_V h' := by
  unfold zn_st at e
  simp only [Bool.or_eq_false_iff] at e
  obtain ⟨⟨⟨e1, e2⟩, e3⟩, e4⟩ := e
  have e5 := e3
  unfold zn_sx at e5
  simp only [Bool.or_eq_false_iff] at e5
  obtain ⟨⟨⟨⟨_, e6⟩, _⟩, e7⟩, _⟩ := e5
  refine ⟨⟨⟨a.1.1.1.w i w e1, a.1.1.2.w w e2⟩, a.1.2.w w e3⟩, fun z => ?_⟩
  rw [zv_wi w e7] at z
  rw [zr_Pg_g w e6]
  exact (a.2 z).w w e4
theorem zn_kV {k : za_K} (hK : zb_K zp_P zc_H k) {q : zx_M} (hq : (zx_pm zp_P)[k.1]? = some q) (st : zn_st k.2.2.2.2 = false) (hi : zn_i k = true) {vs : List Value} {h : zx_H} (hL : zn_V h) (ha : zb_A zb_T vs k.2.2.1) : zx_T zp_P k.2.1 q 0 (lv_args 0 vs) [] h (fun r h1 => (∃ v, r = some (.int v)) ∧ zn_V h1) :=
  (hK q hq vs h ha hL.1.1.1.1).im fun r h' ⟨h1, h2, _, c, h4, h5, _⟩ => by
    refine ⟨?_, hL.w h1 h2 st⟩
    have h6 := List.all_eq_true.mp hi c h4
    split at h6
    · next z e =>
      rw [e] at h5
      cases r with
      | none => exact h5.elim
      | some v => obtain ⟨x, rfl, _⟩ := h5; exact ⟨x, rfl⟩
    · cases h6
theorem zn_klV {k : za_K} (hK : zb_K zp_P zc_H k) {q : zx_M} (hq : (zx_pm zp_P)[k.1]? = some q) (st : zn_st k.2.2.2.2 = false) (hi : zn_l k = true) {vs : List Value} {h : zx_H} (hL : zn_V h) (ha : zb_A zb_T vs k.2.2.1) : zx_T zp_P k.2.1 q 0 (lv_args 0 vs) [] h (fun r h1 => (∃ v, r = some (.long v)) ∧ zn_V h1) :=
  (hK q hq vs h ha hL.1.1.1.1).im fun r h' ⟨h1, h2, _, c, h4, h5, _⟩ => by
    refine ⟨?_, hL.w h1 h2 st⟩
    have h6 := List.all_eq_true.mp hi c h4
    split at h6
    · next z e =>
      rw [e] at h5
      cases r with
      | none => exact h5.elim
      | some v => obtain ⟨x, rfl⟩ := h5; exact ⟨x, rfl⟩
    · cases h6
theorem zV_packed {h : zx_H} (hL : zn_V h) : zx_T zp_P 3 zp_m194 0 (lv_args 0 [.ref 44]) [] h (fun r h1 => (∃ v, r = some (.int v)) ∧ zn_V h1) :=
  (zm_packed hL.1.1.1.1).im fun r h1 ⟨i1, w1, e, r1, x⟩ => ⟨⟨_, r1⟩, hL.w i1 w1 rfl⟩
theorem zV_run {h : zx_H} (hL : zn_V h) (a : Int32) : zx_T zp_P 8 zp_m217 0 (lv_args 0 [.ref 44, .int a]) [] h (fun r h1 => (∃ v, r = some (.int v)) ∧ zn_V h1) := by
  have z := (zN_run hL.1 a).and (by
    have z := zm_run hL.1.1.1.1 (m := a.toInt) (zn_r a).1 (zn_r a).2 hL.1.1.1.2.1 hL.1.1.1.2.2.2.2.2
    simp only [zI, Int32.ofInt_toInt] at z
    exact z)
  exact z.im fun r h1 ⟨⟨v, N⟩, ⟨i1, w1, _⟩⟩ => ⟨v, N, fun z => by
    rw [zv_wi w1 rfl] at z
    rw [zr_Pg_g w1 rfl]
    exact (hL.2 z).w w1 rfl⟩

set_option maxRecDepth 100000 in
theorem zV_c_fault {h : zx_H} (hL : zn_V h)  : zx_T zp_P 0 zp_m140 0 (lv_args 0 [.ref 0]) [] h (fun r h1 => (∃ v, r = some (.int v)) ∧ zn_V h1) :=
  zn_kV (k := zc_a69) zc_ao69 (q := zp_m140) rfl rfl rfl hL ⟨rfl, trivial⟩

set_option maxRecDepth 100000 in
theorem zV_c_frame {h : zx_H} (hL : zn_V h) (x0 : Int32) (x1 : Int32) : zx_T zp_P 5 zp_m143 0 (lv_args 0 [.ref 0, .int x0, .int x1]) [] h (fun r h1 => (∃ v, r = some (.int v)) ∧ zn_V h1) :=
  zn_kV (k := zc_a86) zc_ao86 (q := zp_m143) rfl rfl rfl hL ⟨rfl, zn_ti x0, zn_ti x1, trivial⟩

set_option maxRecDepth 100000 in
theorem zV_c_packed {h : zx_H} (hL : zn_V h)  : zx_T zp_P 6 zp_m146 0 (lv_args 0 [.ref 0]) [] h (fun r h1 => (∃ v, r = some (.int v)) ∧ zn_V h1) :=
  zn_kV (k := zc_a148) zc_ao148 (q := zp_m146) rfl rfl rfl hL ⟨rfl, trivial⟩

set_option maxRecDepth 100000 in
theorem zV_c_run {h : zx_H} (hL : zn_V h) (x0 : Int32) : zx_T zp_P 6 zp_m149 0 (lv_args 0 [.ref 0, .int x0]) [] h (fun r h1 => (∃ v, r = some (.int v)) ∧ zn_V h1) :=
  zn_kV (k := zc_a195) zc_ao195 (q := zp_m149) rfl rfl rfl hL ⟨rfl, zn_ti x0, trivial⟩

set_option maxRecDepth 100000 in
theorem zV_c_told {h : zx_H} (hL : zn_V h) (x0 : Int32) : zx_T zp_P 4 zp_m150 0 (lv_args 0 [.ref 0, .int x0]) [] h (fun r h1 => (∃ v, r = some (.long v)) ∧ zn_V h1) :=
  zn_klV (k := zc_a200) zc_ao200 (q := zp_m150) rfl rfl rfl hL ⟨rfl, zn_ti x0, trivial⟩

set_option maxRecDepth 100000 in
theorem zV_m_fault {h : zx_H} (hL : zn_V h)  : zx_T zp_P 0 zp_m199 0 (lv_args 0 [.ref 44]) [] h (fun r h1 => (∃ v, r = some (.int v)) ∧ zn_V h1) :=
  zn_kV (k := zc_b17) zc_bo17 (q := zp_m199) rfl rfl rfl hL ⟨rfl, trivial⟩

set_option maxRecDepth 100000 in
theorem zV_m_frame {h : zx_H} (hL : zn_V h) (x0 : Int32) (x1 : Int32) : zx_T zp_P 1 zp_m202 0 (lv_args 0 [.ref 44, .int x0, .int x1]) [] h (fun r h1 => (∃ v, r = some (.int v)) ∧ zn_V h1) :=
  zn_kV (k := zc_b22) zc_bo22 (q := zp_m202) rfl rfl rfl hL ⟨rfl, zn_ti x0, zn_ti x1, trivial⟩

set_option maxRecDepth 100000 in
theorem zV_m_out {h : zx_H} (hL : zn_V h) (x0 : Int32) : zx_T zp_P 0 zp_m195 0 (lv_args 0 [.ref 44, .int x0]) [] h (fun r h1 => (∃ v, r = some (.int v)) ∧ zn_V h1) :=
  zn_kV (k := zc_b9) zc_bo9 (q := zp_m195) rfl rfl rfl hL ⟨rfl, zn_ti x0, trivial⟩

set_option maxRecDepth 100000 in
theorem zV_m_told {h : zx_H} (hL : zn_V h) (x0 : Int32) : zx_T zp_P 0 zp_m218 0 (lv_args 0 [.ref 44, .int x0]) [] h (fun r h1 => (∃ v, r = some (.long v)) ∧ zn_V h1) :=
  zn_klV (k := zc_b28) zc_bo28 (q := zp_m218) rfl rfl rfl hL ⟨rfl, zn_ti x0, trivial⟩

theorem zN_s_operation {h h1 h2 : zx_H} {o a b e1 e2 : Int} (N : zn_O h) (i1 : zb_I zc_H h1) (i2 : zb_I zc_H h2) (w1 : zb_W [(2, 0), (3, 0), (4, 0), (1, 3), (16, 4)] h h1) (w2 : zb_W [(44, 0), (44, 1), (45, 0), (46, 0), (47, 0), (44, 13)] h1 h2) (x1 : (zs_opn o a e1 (zv_f h 1 3) (zv_f h1 1 3)) ∧ (zs_ad ((0 ≤ o ∧ o ≤ 28 ∧ (o = 21 → 5 ≤ a ∧ a ≤ 8)) ∧ zv_f h 1 3 < 60) (zv_f h 1 3) o (zv_a h 2) (zv_a h1 2) ∧ zs_ad ((0 ≤ o ∧ o ≤ 28 ∧ (o = 21 → 5 ≤ a ∧ a ≤ 8)) ∧ zv_f h 1 3 < 60) (zv_f h 1 3) a (zv_a h 3) (zv_a h1 3) ∧ zs_ad ((0 ≤ o ∧ o ≤ 28 ∧ (o = 21 → 5 ≤ a ∧ a ≤ 8)) ∧ zv_f h 1 3 < 60) (zv_f h 1 3) b (zv_a h 4) (zv_a h1 4) ∧ (((0 ≤ o ∧ o ≤ 28 ∧ (o = 21 → 5 ≤ a ∧ a ≤ 8)) ∧ zv_f h 1 3 < 60) → zv_f h1 16 4 = 0) ∧ (¬ ((0 ≤ o ∧ o ≤ 28 ∧ (o = 21 → 5 ≤ a ∧ a ≤ 8)) ∧ zv_f h 1 3 < 60) → zv_f h1 16 4 = zv_f h 16 4))) (x2 : (zs_opn o a e2 (zv_i h1 1) (zv_i h2 1) ∧ (zv_i h2 13 = 0 ∨ (zv_i h2 13 = zv_i h1 13 ∧ zv_i h2 1 = zv_i h1 1 ∧ ∀ j, 0 ≤ j → zv_a h2 45 j = zv_a h1 45 j ∧ zv_a h2 46 j = zv_a h1 46 j ∧ zv_a h2 47 j = zv_a h1 47 j)) ∧ (zg_CI h1 → zg_CI h2)) ∧ (zs_ad ((0 ≤ o ∧ o ≤ 28 ∧ (o = 21 → 5 ≤ a ∧ a ≤ 8)) ∧ zv_i h1 1 < 60) (zv_i h1 1) o (zv_a h1 45) (zv_a h2 45) ∧ zs_ad ((0 ≤ o ∧ o ≤ 28 ∧ (o = 21 → 5 ≤ a ∧ a ≤ 8)) ∧ zv_i h1 1 < 60) (zv_i h1 1) a (zv_a h1 46) (zv_a h2 46) ∧ zs_ad ((0 ≤ o ∧ o ≤ 28 ∧ (o = 21 → 5 ≤ a ∧ a ≤ 8)) ∧ zv_i h1 1 < 60) (zv_i h1 1) b (zv_a h1 47) (zv_a h2 47) ∧ (((0 ≤ o ∧ o ≤ 28 ∧ (o = 21 → 5 ≤ a ∧ a ≤ 8)) ∧ zv_i h1 1 < 60) → zv_i h2 13 = 0) ∧ (¬ ((0 ≤ o ∧ o ≤ 28 ∧ (o = 21 → 5 ≤ a ∧ a ≤ 8)) ∧ zv_i h1 1 < 60) → zv_i h2 13 = zv_i h1 13))) : zv_i h2 13 = 1 → zv_i h 13 = 1 ∧ zr_Pg h2 = zr_Pg h := by
  have r := zn_X_r N.2.1
  have n1 : zv_i h1 1 = zv_f h 1 3 := (zv_wi w1 rfl).trans N.1.2.1.symm
  obtain ⟨p1, p2, p3, p4, p5⟩ := x1.2
  obtain ⟨q1, q2, q3, q4, q5⟩ := x2.2
  have ic : ((0 ≤ o ∧ o ≤ 28 ∧ (o = 21 → 5 ≤ a ∧ a ≤ 8)) ∧ zv_f h 1 3 < 60) ↔ ((0 ≤ o ∧ o ≤ 28 ∧ (o = 21 → 5 ≤ a ∧ a ≤ 8)) ∧ zv_i h1 1 < 60) := by rw [n1]
  have m1 : zv_i h1 13 = zv_i h 13 := zv_wi w1 rfl
  have m2 : zv_f h2 16 4 = zv_f h1 16 4 := zv_wf w2 rfl
  have X3 := N.2.2.2.1
  have hn := zv_ri N.1.1.1 (k := 1) rfl
  have nn := x2.1.1
  intro z
  by_cases c : (0 ≤ o ∧ o ≤ 28 ∧ (o = 21 → 5 ≤ a ∧ a ≤ 8)) ∧ zv_i h1 1 < 60
  · have := q4 c; omega
  · refine ⟨by rw [q5 c, m1] at z; exact z, ?_⟩
    have e1 : zv_i h2 1 = zv_i h 1 := by have n2 : zv_i h1 1 = zv_i h 1 := zv_wi w1 rfl; unfold zs_opn at nn; omega
    unfold zr_Pg
    rw [e1, zv_ext (fun j j0 => (q1.2 c j j0).trans (zv_wa w1 rfl j)), zv_ext (fun j j0 => (q2.2 c j j0).trans (zv_wa w1 rfl j)), zv_ext (fun j j0 => (q3.2 c j j0).trans (zv_wa w1 rfl j)), show zv_i h2 5 = zv_i h 5 from (zv_wi w2 rfl).trans (zv_wi w1 rfl), show zv_i h2 10 = zv_i h 10 from (zv_wi w2 rfl).trans (zv_wi w1 rfl), zv_ext (a := 48) (b := 48) (h := h2) (h' := h) (fun j _ => (zv_wa w2 rfl j).trans (zv_wa w1 rfl j)), zv_ext (a := 49) (b := 49) (h := h2) (h' := h) (fun j _ => (zv_wa w2 rfl j).trans (zv_wa w1 rfl j)), zv_ext (a := 50) (b := 50) (h := h2) (h' := h) (fun j _ => (zv_wa w2 rfl j).trans (zv_wa w1 rfl j)), zv_ext (a := 51) (b := 51) (h := h2) (h' := h) (fun j _ => (zv_wa w2 rfl j).trans (zv_wa w1 rfl j)), zv_ext (a := 52) (b := 52) (h := h2) (h' := h) (fun j _ => (zv_wa w2 rfl j).trans (zv_wa w1 rfl j))]

theorem zV_p_operation {h h1 h2 : zx_H} {o a b e1 e2 : Int} (N : zn_V h) (i1 : zb_I zc_H h1) (i2 : zb_I zc_H h2) (w1 : zb_W [(2, 0), (3, 0), (4, 0), (1, 3), (16, 4)] h h1) (w2 : zb_W [(44, 0), (44, 1), (45, 0), (46, 0), (47, 0), (44, 13)] h1 h2) (x1 : (zs_opn o a e1 (zv_f h 1 3) (zv_f h1 1 3)) ∧ (zs_ad ((0 ≤ o ∧ o ≤ 28 ∧ (o = 21 → 5 ≤ a ∧ a ≤ 8)) ∧ zv_f h 1 3 < 60) (zv_f h 1 3) o (zv_a h 2) (zv_a h1 2) ∧ zs_ad ((0 ≤ o ∧ o ≤ 28 ∧ (o = 21 → 5 ≤ a ∧ a ≤ 8)) ∧ zv_f h 1 3 < 60) (zv_f h 1 3) a (zv_a h 3) (zv_a h1 3) ∧ zs_ad ((0 ≤ o ∧ o ≤ 28 ∧ (o = 21 → 5 ≤ a ∧ a ≤ 8)) ∧ zv_f h 1 3 < 60) (zv_f h 1 3) b (zv_a h 4) (zv_a h1 4) ∧ (((0 ≤ o ∧ o ≤ 28 ∧ (o = 21 → 5 ≤ a ∧ a ≤ 8)) ∧ zv_f h 1 3 < 60) → zv_f h1 16 4 = 0) ∧ (¬ ((0 ≤ o ∧ o ≤ 28 ∧ (o = 21 → 5 ≤ a ∧ a ≤ 8)) ∧ zv_f h 1 3 < 60) → zv_f h1 16 4 = zv_f h 16 4))) (x2 : (zs_opn o a e2 (zv_i h1 1) (zv_i h2 1) ∧ (zv_i h2 13 = 0 ∨ (zv_i h2 13 = zv_i h1 13 ∧ zv_i h2 1 = zv_i h1 1 ∧ ∀ j, 0 ≤ j → zv_a h2 45 j = zv_a h1 45 j ∧ zv_a h2 46 j = zv_a h1 46 j ∧ zv_a h2 47 j = zv_a h1 47 j)) ∧ (zg_CI h1 → zg_CI h2)) ∧ (zs_ad ((0 ≤ o ∧ o ≤ 28 ∧ (o = 21 → 5 ≤ a ∧ a ≤ 8)) ∧ zv_i h1 1 < 60) (zv_i h1 1) o (zv_a h1 45) (zv_a h2 45) ∧ zs_ad ((0 ≤ o ∧ o ≤ 28 ∧ (o = 21 → 5 ≤ a ∧ a ≤ 8)) ∧ zv_i h1 1 < 60) (zv_i h1 1) a (zv_a h1 46) (zv_a h2 46) ∧ zs_ad ((0 ≤ o ∧ o ≤ 28 ∧ (o = 21 → 5 ≤ a ∧ a ≤ 8)) ∧ zv_i h1 1 < 60) (zv_i h1 1) b (zv_a h1 47) (zv_a h2 47) ∧ (((0 ≤ o ∧ o ≤ 28 ∧ (o = 21 → 5 ≤ a ∧ a ≤ 8)) ∧ zv_i h1 1 < 60) → zv_i h2 13 = 0) ∧ (¬ ((0 ≤ o ∧ o ≤ 28 ∧ (o = 21 → 5 ≤ a ∧ a ≤ 8)) ∧ zv_i h1 1 < 60) → zv_i h2 13 = zv_i h1 13))) : zn_V h2 ∧ e1 = e2 := by
  obtain ⟨a, ee⟩ := zN_p_operation N.1 i1 i2 w1 w2 x1 x2
  refine ⟨⟨a, fun z => ?_⟩, ee⟩
  obtain ⟨y1, y2⟩ := zN_s_operation N.1 i1 i2 w1 w2 x1 x2 z
  rw [y2]
  exact ((N.2 y1).w w1 rfl).w w2 rfl

theorem zN_s_handler {h h1 h2 : zx_H} {f t p k e1 e2 : Int} (N : zn_O h) (i1 : zb_I zc_H h1) (i2 : zb_I zc_H h2) (w1 : zb_W [(5, 0), (6, 0), (7, 0), (8, 0), (1, 8), (16, 4)] h h1) (w2 : zb_W [(44, 0), (44, 5), (48, 0), (49, 0), (50, 0), (51, 0), (44, 13)] h1 h2) (x1 : (zs_hnd f t p k e1 (zv_f h 1 8) (zv_f h1 1 8)) ∧ (zs_ad ((0 ≤ f ∧ f ≤ 60 ∧ 0 ≤ t ∧ t ≤ 60 ∧ 0 ≤ p ∧ p ≤ 60 ∧ 7 ≤ k ∧ k ≤ 8) ∧ zv_f h 1 8 < 6) (zv_f h 1 8) f (zv_a h 5) (zv_a h1 5) ∧ zs_ad ((0 ≤ f ∧ f ≤ 60 ∧ 0 ≤ t ∧ t ≤ 60 ∧ 0 ≤ p ∧ p ≤ 60 ∧ 7 ≤ k ∧ k ≤ 8) ∧ zv_f h 1 8 < 6) (zv_f h 1 8) t (zv_a h 6) (zv_a h1 6) ∧ zs_ad ((0 ≤ f ∧ f ≤ 60 ∧ 0 ≤ t ∧ t ≤ 60 ∧ 0 ≤ p ∧ p ≤ 60 ∧ 7 ≤ k ∧ k ≤ 8) ∧ zv_f h 1 8 < 6) (zv_f h 1 8) p (zv_a h 7) (zv_a h1 7) ∧ zs_ad ((0 ≤ f ∧ f ≤ 60 ∧ 0 ≤ t ∧ t ≤ 60 ∧ 0 ≤ p ∧ p ≤ 60 ∧ 7 ≤ k ∧ k ≤ 8) ∧ zv_f h 1 8 < 6) (zv_f h 1 8) k (zv_a h 8) (zv_a h1 8) ∧ (((0 ≤ f ∧ f ≤ 60 ∧ 0 ≤ t ∧ t ≤ 60 ∧ 0 ≤ p ∧ p ≤ 60 ∧ 7 ≤ k ∧ k ≤ 8) ∧ zv_f h 1 8 < 6) → zv_f h1 16 4 = 0) ∧ (¬ ((0 ≤ f ∧ f ≤ 60 ∧ 0 ≤ t ∧ t ≤ 60 ∧ 0 ≤ p ∧ p ≤ 60 ∧ 7 ≤ k ∧ k ≤ 8) ∧ zv_f h 1 8 < 6) → zv_f h1 16 4 = zv_f h 16 4))) (x2 : (zs_hnd f t p k e2 (zv_i h1 5) (zv_i h2 5) ∧ (zv_i h2 13 = 0 ∨ (zv_i h2 13 = zv_i h1 13 ∧ zv_i h2 5 = zv_i h1 5 ∧ ∀ j, 0 ≤ j → zv_a h2 48 j = zv_a h1 48 j ∧ zv_a h2 49 j = zv_a h1 49 j ∧ zv_a h2 50 j = zv_a h1 50 j)) ∧ (zg_TI h1 → zg_TI h2)) ∧ (zs_ad ((0 ≤ f ∧ f ≤ 60 ∧ 0 ≤ t ∧ t ≤ 60 ∧ 0 ≤ p ∧ p ≤ 60 ∧ 7 ≤ k ∧ k ≤ 8) ∧ zv_i h1 5 < 6) (zv_i h1 5) f (zv_a h1 48) (zv_a h2 48) ∧ zs_ad ((0 ≤ f ∧ f ≤ 60 ∧ 0 ≤ t ∧ t ≤ 60 ∧ 0 ≤ p ∧ p ≤ 60 ∧ 7 ≤ k ∧ k ≤ 8) ∧ zv_i h1 5 < 6) (zv_i h1 5) t (zv_a h1 49) (zv_a h2 49) ∧ zs_ad ((0 ≤ f ∧ f ≤ 60 ∧ 0 ≤ t ∧ t ≤ 60 ∧ 0 ≤ p ∧ p ≤ 60 ∧ 7 ≤ k ∧ k ≤ 8) ∧ zv_i h1 5 < 6) (zv_i h1 5) p (zv_a h1 50) (zv_a h2 50) ∧ zs_ad ((0 ≤ f ∧ f ≤ 60 ∧ 0 ≤ t ∧ t ≤ 60 ∧ 0 ≤ p ∧ p ≤ 60 ∧ 7 ≤ k ∧ k ≤ 8) ∧ zv_i h1 5 < 6) (zv_i h1 5) k (zv_a h1 51) (zv_a h2 51) ∧ (((0 ≤ f ∧ f ≤ 60 ∧ 0 ≤ t ∧ t ≤ 60 ∧ 0 ≤ p ∧ p ≤ 60 ∧ 7 ≤ k ∧ k ≤ 8) ∧ zv_i h1 5 < 6) → zv_i h2 13 = 0) ∧ (¬ ((0 ≤ f ∧ f ≤ 60 ∧ 0 ≤ t ∧ t ≤ 60 ∧ 0 ≤ p ∧ p ≤ 60 ∧ 7 ≤ k ∧ k ≤ 8) ∧ zv_i h1 5 < 6) → zv_i h2 13 = zv_i h1 13))) : zv_i h2 13 = 1 → zv_i h 13 = 1 ∧ zr_Pg h2 = zr_Pg h := by
  have r := zn_X_r N.2.1
  have n1 : zv_i h1 5 = zv_f h 1 8 := (zv_wi w1 rfl).trans N.1.2.2.1.symm
  obtain ⟨p1, p2, p3, p6, p4, p5⟩ := x1.2
  obtain ⟨q1, q2, q3, q6, q4, q5⟩ := x2.2
  have ic : ((0 ≤ f ∧ f ≤ 60 ∧ 0 ≤ t ∧ t ≤ 60 ∧ 0 ≤ p ∧ p ≤ 60 ∧ 7 ≤ k ∧ k ≤ 8) ∧ zv_f h 1 8 < 6) ↔ ((0 ≤ f ∧ f ≤ 60 ∧ 0 ≤ t ∧ t ≤ 60 ∧ 0 ≤ p ∧ p ≤ 60 ∧ 7 ≤ k ∧ k ≤ 8) ∧ zv_i h1 5 < 6) := by rw [n1]
  have m1 : zv_i h1 13 = zv_i h 13 := zv_wi w1 rfl
  have m2 : zv_f h2 16 4 = zv_f h1 16 4 := zv_wf w2 rfl
  have X3 := N.2.2.2.1
  have hn := zv_ri N.1.1.1 (k := 5) rfl
  have nn := x2.1.1
  intro z
  by_cases c : (0 ≤ f ∧ f ≤ 60 ∧ 0 ≤ t ∧ t ≤ 60 ∧ 0 ≤ p ∧ p ≤ 60 ∧ 7 ≤ k ∧ k ≤ 8) ∧ zv_i h1 5 < 6
  · have := q4 c; omega
  · refine ⟨by rw [q5 c, m1] at z; exact z, ?_⟩
    have e1 : zv_i h2 5 = zv_i h 5 := by have n2 : zv_i h1 5 = zv_i h 5 := zv_wi w1 rfl; unfold zs_hnd at nn; omega
    unfold zr_Pg
    rw [e1, zv_ext (fun j j0 => (q1.2 c j j0).trans (zv_wa w1 rfl j)), zv_ext (fun j j0 => (q2.2 c j j0).trans (zv_wa w1 rfl j)), zv_ext (fun j j0 => (q3.2 c j j0).trans (zv_wa w1 rfl j)), zv_ext (fun j j0 => (q6.2 c j j0).trans (zv_wa w1 rfl j)), show zv_i h2 1 = zv_i h 1 from (zv_wi w2 rfl).trans (zv_wi w1 rfl), show zv_i h2 10 = zv_i h 10 from (zv_wi w2 rfl).trans (zv_wi w1 rfl), zv_ext (a := 45) (b := 45) (h := h2) (h' := h) (fun j _ => (zv_wa w2 rfl j).trans (zv_wa w1 rfl j)), zv_ext (a := 46) (b := 46) (h := h2) (h' := h) (fun j _ => (zv_wa w2 rfl j).trans (zv_wa w1 rfl j)), zv_ext (a := 47) (b := 47) (h := h2) (h' := h) (fun j _ => (zv_wa w2 rfl j).trans (zv_wa w1 rfl j)), zv_ext (a := 52) (b := 52) (h := h2) (h' := h) (fun j _ => (zv_wa w2 rfl j).trans (zv_wa w1 rfl j))]

theorem zV_p_handler {h h1 h2 : zx_H} {f t p k e1 e2 : Int} (N : zn_V h) (i1 : zb_I zc_H h1) (i2 : zb_I zc_H h2) (w1 : zb_W [(5, 0), (6, 0), (7, 0), (8, 0), (1, 8), (16, 4)] h h1) (w2 : zb_W [(44, 0), (44, 5), (48, 0), (49, 0), (50, 0), (51, 0), (44, 13)] h1 h2) (x1 : (zs_hnd f t p k e1 (zv_f h 1 8) (zv_f h1 1 8)) ∧ (zs_ad ((0 ≤ f ∧ f ≤ 60 ∧ 0 ≤ t ∧ t ≤ 60 ∧ 0 ≤ p ∧ p ≤ 60 ∧ 7 ≤ k ∧ k ≤ 8) ∧ zv_f h 1 8 < 6) (zv_f h 1 8) f (zv_a h 5) (zv_a h1 5) ∧ zs_ad ((0 ≤ f ∧ f ≤ 60 ∧ 0 ≤ t ∧ t ≤ 60 ∧ 0 ≤ p ∧ p ≤ 60 ∧ 7 ≤ k ∧ k ≤ 8) ∧ zv_f h 1 8 < 6) (zv_f h 1 8) t (zv_a h 6) (zv_a h1 6) ∧ zs_ad ((0 ≤ f ∧ f ≤ 60 ∧ 0 ≤ t ∧ t ≤ 60 ∧ 0 ≤ p ∧ p ≤ 60 ∧ 7 ≤ k ∧ k ≤ 8) ∧ zv_f h 1 8 < 6) (zv_f h 1 8) p (zv_a h 7) (zv_a h1 7) ∧ zs_ad ((0 ≤ f ∧ f ≤ 60 ∧ 0 ≤ t ∧ t ≤ 60 ∧ 0 ≤ p ∧ p ≤ 60 ∧ 7 ≤ k ∧ k ≤ 8) ∧ zv_f h 1 8 < 6) (zv_f h 1 8) k (zv_a h 8) (zv_a h1 8) ∧ (((0 ≤ f ∧ f ≤ 60 ∧ 0 ≤ t ∧ t ≤ 60 ∧ 0 ≤ p ∧ p ≤ 60 ∧ 7 ≤ k ∧ k ≤ 8) ∧ zv_f h 1 8 < 6) → zv_f h1 16 4 = 0) ∧ (¬ ((0 ≤ f ∧ f ≤ 60 ∧ 0 ≤ t ∧ t ≤ 60 ∧ 0 ≤ p ∧ p ≤ 60 ∧ 7 ≤ k ∧ k ≤ 8) ∧ zv_f h 1 8 < 6) → zv_f h1 16 4 = zv_f h 16 4))) (x2 : (zs_hnd f t p k e2 (zv_i h1 5) (zv_i h2 5) ∧ (zv_i h2 13 = 0 ∨ (zv_i h2 13 = zv_i h1 13 ∧ zv_i h2 5 = zv_i h1 5 ∧ ∀ j, 0 ≤ j → zv_a h2 48 j = zv_a h1 48 j ∧ zv_a h2 49 j = zv_a h1 49 j ∧ zv_a h2 50 j = zv_a h1 50 j)) ∧ (zg_TI h1 → zg_TI h2)) ∧ (zs_ad ((0 ≤ f ∧ f ≤ 60 ∧ 0 ≤ t ∧ t ≤ 60 ∧ 0 ≤ p ∧ p ≤ 60 ∧ 7 ≤ k ∧ k ≤ 8) ∧ zv_i h1 5 < 6) (zv_i h1 5) f (zv_a h1 48) (zv_a h2 48) ∧ zs_ad ((0 ≤ f ∧ f ≤ 60 ∧ 0 ≤ t ∧ t ≤ 60 ∧ 0 ≤ p ∧ p ≤ 60 ∧ 7 ≤ k ∧ k ≤ 8) ∧ zv_i h1 5 < 6) (zv_i h1 5) t (zv_a h1 49) (zv_a h2 49) ∧ zs_ad ((0 ≤ f ∧ f ≤ 60 ∧ 0 ≤ t ∧ t ≤ 60 ∧ 0 ≤ p ∧ p ≤ 60 ∧ 7 ≤ k ∧ k ≤ 8) ∧ zv_i h1 5 < 6) (zv_i h1 5) p (zv_a h1 50) (zv_a h2 50) ∧ zs_ad ((0 ≤ f ∧ f ≤ 60 ∧ 0 ≤ t ∧ t ≤ 60 ∧ 0 ≤ p ∧ p ≤ 60 ∧ 7 ≤ k ∧ k ≤ 8) ∧ zv_i h1 5 < 6) (zv_i h1 5) k (zv_a h1 51) (zv_a h2 51) ∧ (((0 ≤ f ∧ f ≤ 60 ∧ 0 ≤ t ∧ t ≤ 60 ∧ 0 ≤ p ∧ p ≤ 60 ∧ 7 ≤ k ∧ k ≤ 8) ∧ zv_i h1 5 < 6) → zv_i h2 13 = 0) ∧ (¬ ((0 ≤ f ∧ f ≤ 60 ∧ 0 ≤ t ∧ t ≤ 60 ∧ 0 ≤ p ∧ p ≤ 60 ∧ 7 ≤ k ∧ k ≤ 8) ∧ zv_i h1 5 < 6) → zv_i h2 13 = zv_i h1 13))) : zn_V h2 ∧ e1 = e2 := by
  obtain ⟨a, ee⟩ := zN_p_handler N.1 i1 i2 w1 w2 x1 x2
  refine ⟨⟨a, fun z => ?_⟩, ee⟩
  obtain ⟨y1, y2⟩ := zN_s_handler N.1 i1 i2 w1 w2 x1 x2 z
  rw [y2]
  exact ((N.2 y1).w w1 rfl).w w2 rfl

theorem zN_s_parameter {h h1 h2 : zx_H} {c e1 e2 : Int} (N : zn_O h) (i1 : zb_I zc_H h1) (i2 : zb_I zc_H h2) (w1 : zb_W [(9, 0), (1, 10), (16, 4)] h h1) (w2 : zb_W [(44, 0), (44, 10), (52, 0), (44, 13)] h1 h2) (x1 : (zs_par c e1 (zv_f h 1 10) (zv_f h1 1 10)) ∧ (zs_a2 ((c = 1 ∨ c = 2 ∨ (5 ≤ c ∧ c ≤ 8)) ∧ ((c = 2 ∧ zv_f h 1 10 + 2 ≤ 8) ∨ (¬ c = 2 ∧ zv_f h 1 10 + 1 ≤ 8))) (zv_f h 1 10) c (zv_a h 9) (zv_a h1 9) ∧ (((c = 1 ∨ c = 2 ∨ (5 ≤ c ∧ c ≤ 8)) ∧ ((c = 2 ∧ zv_f h 1 10 + 2 ≤ 8) ∨ (¬ c = 2 ∧ zv_f h 1 10 + 1 ≤ 8))) → zv_f h1 16 4 = 0) ∧ (¬ ((c = 1 ∨ c = 2 ∨ (5 ≤ c ∧ c ≤ 8)) ∧ ((c = 2 ∧ zv_f h 1 10 + 2 ≤ 8) ∨ (¬ c = 2 ∧ zv_f h 1 10 + 1 ≤ 8))) → zv_f h1 16 4 = zv_f h 16 4))) (x2 : (zs_par c e2 (zv_i h1 10) (zv_i h2 10) ∧ (zv_i h2 13 = 0 ∨ zv_i h2 13 = zv_i h1 13)) ∧ (zs_a2 ((c = 1 ∨ c = 2 ∨ (5 ≤ c ∧ c ≤ 8)) ∧ ((c = 2 ∧ zv_i h1 10 + 2 ≤ 8) ∨ (¬ c = 2 ∧ zv_i h1 10 + 1 ≤ 8))) (zv_i h1 10) c (zv_a h1 52) (zv_a h2 52) ∧ (((c = 1 ∨ c = 2 ∨ (5 ≤ c ∧ c ≤ 8)) ∧ ((c = 2 ∧ zv_i h1 10 + 2 ≤ 8) ∨ (¬ c = 2 ∧ zv_i h1 10 + 1 ≤ 8))) → zv_i h2 13 = 0) ∧ (¬ ((c = 1 ∨ c = 2 ∨ (5 ≤ c ∧ c ≤ 8)) ∧ ((c = 2 ∧ zv_i h1 10 + 2 ≤ 8) ∨ (¬ c = 2 ∧ zv_i h1 10 + 1 ≤ 8))) → zv_i h2 13 = zv_i h1 13))) : zv_i h2 13 = 1 → zv_i h 13 = 1 ∧ zr_Pg h2 = zr_Pg h := by
  have r := zn_X_r N.2.1
  have n1 : zv_i h1 10 = zv_f h 1 10 := (zv_wi w1 rfl).trans N.1.2.2.2.1.symm
  obtain ⟨p1, p4, p5⟩ := x1.2
  obtain ⟨q1, q4, q5⟩ := x2.2
  have ic : ((c = 1 ∨ c = 2 ∨ (5 ≤ c ∧ c ≤ 8)) ∧ ((c = 2 ∧ zv_f h 1 10 + 2 ≤ 8) ∨ (¬ c = 2 ∧ zv_f h 1 10 + 1 ≤ 8))) ↔ ((c = 1 ∨ c = 2 ∨ (5 ≤ c ∧ c ≤ 8)) ∧ ((c = 2 ∧ zv_i h1 10 + 2 ≤ 8) ∨ (¬ c = 2 ∧ zv_i h1 10 + 1 ≤ 8))) := by rw [n1]
  have m1 : zv_i h1 13 = zv_i h 13 := zv_wi w1 rfl
  have m2 : zv_f h2 16 4 = zv_f h1 16 4 := zv_wf w2 rfl
  have X3 := N.2.2.2.1
  have hn := zv_ri N.1.1.1 (k := 10) rfl
  have nn := x2.1.1
  intro z
  by_cases d : (c = 1 ∨ c = 2 ∨ (5 ≤ c ∧ c ≤ 8)) ∧ ((c = 2 ∧ zv_i h1 10 + 2 ≤ 8) ∨ (¬ c = 2 ∧ zv_i h1 10 + 1 ≤ 8))
  · have := q4 d; omega
  · refine ⟨by rw [q5 d, m1] at z; exact z, ?_⟩
    have e1 : zv_i h2 10 = zv_i h 10 := by have n2 : zv_i h1 10 = zv_i h 10 := zv_wi w1 rfl; unfold zs_par at nn; omega
    unfold zr_Pg
    rw [e1, zv_ext (fun j j0 => (q1.2 d j j0).trans (zv_wa w1 rfl j)), show zv_i h2 1 = zv_i h 1 from (zv_wi w2 rfl).trans (zv_wi w1 rfl), show zv_i h2 5 = zv_i h 5 from (zv_wi w2 rfl).trans (zv_wi w1 rfl), zv_ext (a := 45) (b := 45) (h := h2) (h' := h) (fun j _ => (zv_wa w2 rfl j).trans (zv_wa w1 rfl j)), zv_ext (a := 46) (b := 46) (h := h2) (h' := h) (fun j _ => (zv_wa w2 rfl j).trans (zv_wa w1 rfl j)), zv_ext (a := 47) (b := 47) (h := h2) (h' := h) (fun j _ => (zv_wa w2 rfl j).trans (zv_wa w1 rfl j)), zv_ext (a := 48) (b := 48) (h := h2) (h' := h) (fun j _ => (zv_wa w2 rfl j).trans (zv_wa w1 rfl j)), zv_ext (a := 49) (b := 49) (h := h2) (h' := h) (fun j _ => (zv_wa w2 rfl j).trans (zv_wa w1 rfl j)), zv_ext (a := 50) (b := 50) (h := h2) (h' := h) (fun j _ => (zv_wa w2 rfl j).trans (zv_wa w1 rfl j)), zv_ext (a := 51) (b := 51) (h := h2) (h' := h) (fun j _ => (zv_wa w2 rfl j).trans (zv_wa w1 rfl j))]

theorem zV_p_parameter {h h1 h2 : zx_H} {c e1 e2 : Int} (N : zn_V h) (i1 : zb_I zc_H h1) (i2 : zb_I zc_H h2) (w1 : zb_W [(9, 0), (1, 10), (16, 4)] h h1) (w2 : zb_W [(44, 0), (44, 10), (52, 0), (44, 13)] h1 h2) (x1 : (zs_par c e1 (zv_f h 1 10) (zv_f h1 1 10)) ∧ (zs_a2 ((c = 1 ∨ c = 2 ∨ (5 ≤ c ∧ c ≤ 8)) ∧ ((c = 2 ∧ zv_f h 1 10 + 2 ≤ 8) ∨ (¬ c = 2 ∧ zv_f h 1 10 + 1 ≤ 8))) (zv_f h 1 10) c (zv_a h 9) (zv_a h1 9) ∧ (((c = 1 ∨ c = 2 ∨ (5 ≤ c ∧ c ≤ 8)) ∧ ((c = 2 ∧ zv_f h 1 10 + 2 ≤ 8) ∨ (¬ c = 2 ∧ zv_f h 1 10 + 1 ≤ 8))) → zv_f h1 16 4 = 0) ∧ (¬ ((c = 1 ∨ c = 2 ∨ (5 ≤ c ∧ c ≤ 8)) ∧ ((c = 2 ∧ zv_f h 1 10 + 2 ≤ 8) ∨ (¬ c = 2 ∧ zv_f h 1 10 + 1 ≤ 8))) → zv_f h1 16 4 = zv_f h 16 4))) (x2 : (zs_par c e2 (zv_i h1 10) (zv_i h2 10) ∧ (zv_i h2 13 = 0 ∨ zv_i h2 13 = zv_i h1 13)) ∧ (zs_a2 ((c = 1 ∨ c = 2 ∨ (5 ≤ c ∧ c ≤ 8)) ∧ ((c = 2 ∧ zv_i h1 10 + 2 ≤ 8) ∨ (¬ c = 2 ∧ zv_i h1 10 + 1 ≤ 8))) (zv_i h1 10) c (zv_a h1 52) (zv_a h2 52) ∧ (((c = 1 ∨ c = 2 ∨ (5 ≤ c ∧ c ≤ 8)) ∧ ((c = 2 ∧ zv_i h1 10 + 2 ≤ 8) ∨ (¬ c = 2 ∧ zv_i h1 10 + 1 ≤ 8))) → zv_i h2 13 = 0) ∧ (¬ ((c = 1 ∨ c = 2 ∨ (5 ≤ c ∧ c ≤ 8)) ∧ ((c = 2 ∧ zv_i h1 10 + 2 ≤ 8) ∨ (¬ c = 2 ∧ zv_i h1 10 + 1 ≤ 8))) → zv_i h2 13 = zv_i h1 13))) : zn_V h2 ∧ e1 = e2 := by
  obtain ⟨a, ee⟩ := zN_p_parameter N.1 i1 i2 w1 w2 x1 x2
  refine ⟨⟨a, fun z => ?_⟩, ee⟩
  obtain ⟨y1, y2⟩ := zN_s_parameter N.1 i1 i2 w1 w2 x1 x2 z
  rw [y2]
  exact ((N.2 y1).w w1 rfl).w w2 rfl

theorem zV_p_clear {h h1 h2 : zx_H} {e1 e2 : Int} (N : zn_V h) (i1 : zb_I zc_H h1) (i2 : zb_I zc_H h2) (w1 : zb_W [(1, 3), (1, 8), (1, 10), (16, 4)] h h1) (w2 : zb_W [(44, 0), (44, 1), (44, 5), (44, 10), (44, 13)] h1 h2) (x1 : (e1 = zv_f h 1 3 ∧ zv_f h1 1 3 = 0 ∧ zv_f h1 1 8 = 0 ∧ zv_f h1 1 10 = 0) ∧ (zv_f h1 16 4 = 0)) (x2 : (e2 = zv_i h1 1 ∧ zv_i h2 1 = 0 ∧ zv_i h2 5 = 0 ∧ zv_i h2 10 = 0 ∧ zv_i h2 13 = 0) ∧ (True)) : zn_V h2 ∧ e1 = e2 := by
  obtain ⟨a, ee⟩ := zN_p_clear N.1 i1 i2 w1 w2 x1 x2
  exact ⟨⟨a, fun z => absurd z (by have := x2.1; omega)⟩, ee⟩

theorem zV_p_argument {h h1 h2 : zx_H} {i v e1 e2 : Int} (N : zn_V h) (i1 : zb_I zc_H h1) (i2 : zb_I zc_H h2) (w1 : zb_W [(35, 0)] h h1) (w2 : zb_W [(44, 0), (53, 0)] h1 h2) (x1 : zs_arg i v e1 (zv_b h 35) (zv_b h1 35)) (x2 : zs_arg i v e2 (zv_b h1 53) (zv_b h2 53)) : zn_V h2 ∧ e1 = e2 := by
  obtain ⟨a, ee⟩ := zN_p_argument N.1 i1 i2 w1 w2 x1 x2
  refine ⟨⟨a, fun z => ?_⟩, ee⟩
  have y1 : zv_i h 13 = 1 := by rw [zv_wi w2 rfl, zv_wi w1 rfl] at z; exact z
  rw [zr_Pg_g w2 rfl, zr_Pg_g w1 rfl]
  exact ((N.2 y1).w w1 rfl).w w2 rfl

theorem zV_p_kind {h h1 h2 : zx_H} {p i e1 e2 : Int} (N : zn_V h) (i1 : zb_I zc_H h1) (i2 : zb_I zc_H h2) (w1 : zb_W [] h h1) (w2 : zb_W [(44, 0)] h1 h2) (x1 : (¬ (0 ≤ p ∧ p < zv_f h 1 3) ∧ e1 = -2) ∨ ((0 ≤ p ∧ p < zv_f h 1 3) ∧ zv_f h 16 4 = 0 ∧ e1 = -3) ∨ ((0 ≤ p ∧ p < zv_f h 1 3) ∧ ¬ zv_f h 16 4 = 0 ∧ (¬ zv_a h 19 p = -1 ∧ 0 ≤ i ∧ i < 8 + zv_a h 19 p) ∧ e1 = zv_a h 18 (14 * p + i)) ∨ ((0 ≤ p ∧ p < zv_f h 1 3) ∧ ¬ zv_f h 16 4 = 0 ∧ ¬ (¬ zv_a h 19 p = -1 ∧ 0 ≤ i ∧ i < 8 + zv_a h 19 p) ∧ e1 = -1)) (x2 : (¬ (0 ≤ p ∧ p < zv_i h1 1) ∧ e2 = -2) ∨ ((0 ≤ p ∧ p < zv_i h1 1) ∧ zv_i h1 13 = 0 ∧ e2 = -3) ∨ ((0 ≤ p ∧ p < zv_i h1 1) ∧ ¬ zv_i h1 13 = 0 ∧ (zv_a h1 54 p = 1 ∧ 0 ≤ i ∧ i < 8 + zv_a h1 56 p) ∧ e2 = zv_a h1 55 (14 * p + i)) ∨ ((0 ≤ p ∧ p < zv_i h1 1) ∧ ¬ zv_i h1 13 = 0 ∧ ¬ (zv_a h1 54 p = 1 ∧ 0 ≤ i ∧ i < 8 + zv_a h1 56 p) ∧ e2 = -1)) : zn_V h2 ∧ e1 = e2 := by
  obtain ⟨a, ee⟩ := zN_p_kind N.1 i1 i2 w1 w2 x1 x2
  refine ⟨⟨a, fun z => ?_⟩, ee⟩
  have y1 : zv_i h 13 = 1 := by rw [zv_wi w2 rfl, zv_wi w1 rfl] at z; exact z
  rw [zr_Pg_g w2 rfl, zr_Pg_g w1 rfl]
  exact ((N.2 y1).w w1 rfl).w w2 rfl

theorem zV_p_size {h h1 h2 : zx_H} {p e1 e2 : Int} (N : zn_V h) (i1 : zb_I zc_H h1) (i2 : zb_I zc_H h2) (w1 : zb_W [] h h1) (w2 : zb_W [(44, 0)] h1 h2) (x1 : (¬ (0 ≤ p ∧ p < zv_f h 1 3) ∧ e1 = -2) ∨ ((0 ≤ p ∧ p < zv_f h 1 3) ∧ zv_f h 16 4 = 0 ∧ e1 = -3) ∨ ((0 ≤ p ∧ p < zv_f h 1 3) ∧ ¬ zv_f h 16 4 = 0 ∧ ¬ zv_a h 19 p = -1 ∧ e1 = zv_a h 19 p) ∨ ((0 ≤ p ∧ p < zv_f h 1 3) ∧ ¬ zv_f h 16 4 = 0 ∧ ¬ (¬ zv_a h 19 p = -1) ∧ e1 = -1)) (x2 : (¬ (0 ≤ p ∧ p < zv_i h1 1) ∧ e2 = -2) ∨ ((0 ≤ p ∧ p < zv_i h1 1) ∧ zv_i h1 13 = 0 ∧ e2 = -3) ∨ ((0 ≤ p ∧ p < zv_i h1 1) ∧ ¬ zv_i h1 13 = 0 ∧ zv_a h1 54 p = 1 ∧ e2 = zv_a h1 56 p) ∨ ((0 ≤ p ∧ p < zv_i h1 1) ∧ ¬ zv_i h1 13 = 0 ∧ ¬ (zv_a h1 54 p = 1) ∧ e2 = -1)) : zn_V h2 ∧ e1 = e2 := by
  obtain ⟨a, ee⟩ := zN_p_size N.1 i1 i2 w1 w2 x1 x2
  refine ⟨⟨a, fun z => ?_⟩, ee⟩
  have y1 : zv_i h 13 = 1 := by rw [zv_wi w2 rfl, zv_wi w1 rfl] at z; exact z
  rw [zr_Pg_g w2 rfl, zr_Pg_g w1 rfl]
  exact ((N.2 y1).w w1 rfl).w w2 rfl

theorem zV_p_count {h h1 h2 : zx_H} {w e1 e2 : Int} (N : zn_V h) (i1 : zb_I zc_H h1) (i2 : zb_I zc_H h2) (w1 : zb_W [] h h1) (w2 : zb_W [(44, 0)] h1 h2) (x1 : (w = 0 ∧ e1 = zv_f h 1 3) ∨ (w = 1 ∧ e1 = zv_f h 1 8) ∨ (w = 2 ∧ e1 = zv_f h 1 10) ∨ (w = 3 ∧ ((zv_f h 16 4 = 0 ∧ e1 = 0) ∨ (¬ zv_f h 16 4 = 0 ∧ e1 = zv_f h 10 3))) ∨ (w = 4 ∧ ((zv_f h 16 4 = 0 ∧ e1 = 0) ∨ (¬ zv_f h 16 4 = 0 ∧ e1 = zs_cn (fun p => zv_a h 19 p = -1) (zv_f h 1 3).toNat))) ∨ (w = 5 ∧ e1 = zv_f h 16 6) ∨ (¬ (0 ≤ w ∧ w ≤ 5) ∧ e1 = -2)) (x2 : (w = 0 ∧ e2 = zv_i h1 1) ∨ (w = 1 ∧ e2 = zv_i h1 5) ∨ (w = 2 ∧ e2 = zv_i h1 10) ∨ (w = 3 ∧ ((zv_i h1 13 = 0 ∧ e2 = 0) ∨ (¬ zv_i h1 13 = 0 ∧ e2 = zv_i h1 19))) ∨ (w = 4 ∧ ((zv_i h1 13 = 0 ∧ e2 = 0) ∨ (¬ zv_i h1 13 = 0 ∧ e2 = zs_cn (fun p => ¬ zv_a h1 54 p = 1) (zv_i h1 1).toNat))) ∨ (w = 5 ∧ e2 = zv_i h1 15) ∨ (¬ (0 ≤ w ∧ w ≤ 5) ∧ e2 = -2)) : zn_V h2 ∧ e1 = e2 := by
  obtain ⟨a, ee⟩ := zN_p_count N.1 i1 i2 w1 w2 x1 x2
  refine ⟨⟨a, fun z => ?_⟩, ee⟩
  have y1 : zv_i h 13 = 1 := by rw [zv_wi w2 rfl, zv_wi w1 rfl] at z; exact z
  rw [zr_Pg_g w2 rfl, zr_Pg_g w1 rfl]
  exact ((N.2 y1).w w1 rfl).w w2 rfl

theorem zV_c_make {h : zx_H} (hN : zn_V h) : zx_T zp_P 7 zp_m139 0 (lv_args 0 [.ref 0]) [] h (zr_R [(0, 6), (16, 4), (16, 5), (16, 6), (10, 3), (19, 0), (20, 1), (21, 0), (18, 0), (16, 7), (14, 0), (15, 0), (12, 0), (13, 0)] h (fun e h' => zc_M h' (zr_Pg h) e ∧ (zv_f h' 16 4 = 1 → zc_Fr h' (zs_fr (zr_Pg h) (zs_make (zr_Pg h)).2.2.2 (zr_Pg h).n.toNat)))) := by
  have z := zm_cMakeH hN.1.1.1.1 (by rw [hN.1.2.1]; exact hN.1.2.2.1.ok) (by rw [hN.1.2.1]; exact hN.1.2.2.1.nn)
  rw [hN.1.2.1, show zv_f h 1 3 = (zr_Pg h).n from hN.1.1.2.1] at z
  exact z
theorem zV_m_make {h h1 : zx_H} (hN : zn_V h) (i1 : zb_I zc_H h1) (w1 : zb_W [(0, 6), (16, 4), (16, 5), (16, 6), (10, 3), (19, 0), (20, 1), (21, 0), (18, 0), (16, 7), (14, 0), (15, 0), (12, 0), (13, 0)] h h1) : zx_T zp_P 5 zp_m176 0 (lv_args 0 [.ref 44]) [] h1 (zr_R [(44, 0), (44, 13), (44, 14), (44, 15), (44, 19), (54, 0), (44, 27), (56, 0), (55, 0), (63, 0), (44, 25), (61, 0), (62, 0), (44, 26), (57, 0), (58, 0), (59, 0), (60, 0)] h1 (fun e h' => ((zg_KI h' ∧ (zv_i h' 13 = 1 → zg_C h')) ∧ zr_M h' (zr_Pg h) e) ∧ (zv_i h' 13 = 1 → zr_Fr h' (zs_fr (zr_Pg h) (zs_make (zr_Pg h)).2.2.2 (zr_Pg h).n.toNat)))) := by
  have hk := hN.1.1.1.2.2.2.1.w w1 rfl
  have hc := hN.1.1.1.2.1.w w1 rfl rfl
  have ht := hN.1.1.1.2.2.1.w w1 rfl
  have z := zm_makeH i1 hk hc ht (by rw [zr_Pg_g w1 rfl]; exact hN.1.2.2.1.ok)
  rw [zr_Pg_g w1 rfl, show zv_i h1 1 = (zr_Pg h).n from zv_wi w1 rfl] at z
  exact ((zm_make i1 hk hc ht).and z).im fun r h' ⟨⟨i, w, e, r1, x⟩, ⟨_, _, e2, r2, y⟩⟩ => ⟨i, w, e2, r2, ⟨x, y.1⟩, y.2⟩
theorem zV_p_make {h h1 h2 : zx_H} {e1 e2 : Int} (N : zn_V h) (i1 : zb_I zc_H h1) (i2 : zb_I zc_H h2) (w1 : zb_W [(0, 6), (16, 4), (16, 5), (16, 6), (10, 3), (19, 0), (20, 1), (21, 0), (18, 0), (16, 7), (14, 0), (15, 0), (12, 0), (13, 0)] h h1) (w2 : zb_W [(44, 0), (44, 13), (44, 14), (44, 15), (44, 19), (54, 0), (44, 27), (56, 0), (55, 0), (63, 0), (44, 25), (61, 0), (62, 0), (44, 26), (57, 0), (58, 0), (59, 0), (60, 0)] h1 h2) (x1 : zc_M h1 (zr_Pg h) e1 ∧ (zv_f h1 16 4 = 1 → zc_Fr h1 (zs_fr (zr_Pg h) (zs_make (zr_Pg h)).2.2.2 (zr_Pg h).n.toNat))) (x2 : ((zg_KI h2 ∧ (zv_i h2 13 = 1 → zg_C h2)) ∧ zr_M h2 (zr_Pg h) e2) ∧ (zv_i h2 13 = 1 → zr_Fr h2 (zs_fr (zr_Pg h) (zs_make (zr_Pg h)).2.2.2 (zr_Pg h).n.toNat))) : zn_V h2 ∧ e1 = e2 := by
  obtain ⟨a, ee⟩ := zN_p_make N.1 i1 i2 w1 w2 x1.1 x2.1
  refine ⟨⟨a, fun z => ?_⟩, ee⟩
  have eP : zr_Pg h2 = zr_Pg h := (zr_Pg_g w2 rfl).trans (zr_Pg_g w1 rfl)
  have m4 : zv_f h2 16 4 = zv_f h1 16 4 := zv_wf w2 rfl
  have md := a.2.2.2.1
  have f1 := zc_Fr_w w2 rfl (x1.2 (by omega))
  have f2 := x2.2 z
  have hn := zv_ri N.1.1.1.1 (k := 1) rfl
  rw [eP]
  rcases x1.1 with ⟨_, _, _, a4, _⟩ | ⟨_, _, _, _, a5, _⟩ | ⟨b1, b2, _, _, _, _, _, b8, b9, b10⟩
  · omega
  · omega
  · rcases x2.1.2 with ⟨_, _, _, c4, _⟩ | ⟨_, _, _, _, c5, _⟩ | ⟨_, _, _, _, _, _, _, c8, c9⟩
    · omega
    · omega
    · exact ⟨_, _, c9, c8, zc_A_g w2 rfl rfl rfl b8, f2, f1, (zs_fr_ok b9 b10 hn.2 _ (by show ((zv_i h 1).toNat : Int) ≤ 60; omega)).1, zs_fr_lk rfl (fun _ _ _ => rfl)⟩
theorem zn_gh {h : zx_H} (N : zn_V h) : ∃ s F, ¬ zv_i h 13 = 0 → zs_ok (zr_Pg h) s ∧ zr_A h s ∧ zc_A h s ∧ zr_Fr h F ∧ zc_Fr h F ∧ F.ok ∧ zs_lk (zr_Pg h) s F := by
  have r := zv_ri N.1.1.1.1 (k := 13) rfl
  by_cases c : zv_i h 13 = 0
  · exact ⟨zs_first (zr_Pg h), (0, fun _ => 0, fun _ => 0, fun _ => 0, fun _ _ => 0), fun z => absurd c z⟩
  · obtain ⟨s, F, a⟩ := N.2 (by omega)
    exact ⟨s, F, fun _ => a⟩
theorem zV_c_judge {h : zx_H} (N : zn_V h) {s : zS} {F : zF} (g : ¬ zv_i h 13 = 0 → zs_ok (zr_Pg h) s ∧ zr_A h s ∧ zc_A h s ∧ zr_Fr h F ∧ zc_Fr h F ∧ F.ok ∧ zs_lk (zr_Pg h) s F) : zx_T zp_P 7 zp_m145 0 (lv_args 0 [.ref 0]) [] h (zr_R [(23, 1), (24, 0), (25, 1), (26, 0)] h (fun e h' => (zv_i h 13 = 0 ∧ e = -3) ∨ (¬ zv_i h 13 = 0 ∧ zs_jd (zr_Pg h) s F e))) := by
  have m := N.1.2.2.2.1
  have z := zm_cJudgeX N.1.1.1.1 (by rw [N.1.2.1]; exact N.1.2.2.1.ok) (by rw [N.1.2.1]; exact N.1.2.2.1.nn) s F (fun z => (g (by omega)).2.2.1) (fun z => (g (by omega)).2.2.2.2.1) (fun z => (g (by omega)).2.2.2.2.2.1) (fun z => by rw [N.1.2.1]; exact (g (by omega)).2.2.2.2.2.2)
  rw [N.1.2.1, m] at z
  exact z
theorem zV_m_judge {h h1 : zx_H} (N : zn_V h) (i1 : zb_I zc_H h1) (w1 : zb_W [(23, 1), (24, 0), (25, 1), (26, 0)] h h1) {s : zS} {F : zF} (g : ¬ zv_i h 13 = 0 → zs_ok (zr_Pg h) s ∧ zr_A h s ∧ zc_A h s ∧ zr_Fr h F ∧ zc_Fr h F ∧ F.ok ∧ zs_lk (zr_Pg h) s F) : zx_T zp_P 5 zp_m186 0 (lv_args 0 [.ref 44]) [] h1 (zr_R [(44, 0), (44, 25), (44, 26), (61, 0)] h1 (fun e h' => (zv_i h 13 = 0 ∧ e = -3) ∨ (¬ zv_i h 13 = 0 ∧ zs_jd (zr_Pg h) s F e))) := by
  have m : zv_i h1 13 = zv_i h 13 := zv_wi w1 rfl
  have N1 := N.w i1 w1 rfl
  have z := zm_judgeF i1 N1.1.1.1.2.1 N1.1.1.1.2.2.2.2.1 N1.1.2.2.1.ok s F (fun z => zr_A_g w1 rfl rfl rfl rfl (g (by omega)).2.1) (fun z => zr_Fr_w w1 rfl (g (by omega)).2.2.2.1) (fun z => (g (by omega)).2.2.2.2.2.1)
  rw [zr_Pg_g w1 rfl, m] at z
  exact z
theorem zV_p_judge {h h1 h2 : zx_H} {e1 e2 : Int} {s : zS} {F : zF} (N : zn_V h) (i1 : zb_I zc_H h1) (i2 : zb_I zc_H h2) (w1 : zb_W [(23, 1), (24, 0), (25, 1), (26, 0)] h h1) (w2 : zb_W [(44, 0), (44, 25), (44, 26), (61, 0)] h1 h2) (x1 : (zv_i h 13 = 0 ∧ e1 = -3) ∨ (¬ zv_i h 13 = 0 ∧ zs_jd (zr_Pg h) s F e1)) (x2 : (zv_i h 13 = 0 ∧ e2 = -3) ∨ (¬ zv_i h 13 = 0 ∧ zs_jd (zr_Pg h) s F e2)) : zn_V h2 ∧ e1 = e2 := by
  refine ⟨(N.w i1 w1 rfl).w i2 w2 rfl, ?_⟩
  rcases x1 with a | a
  · rcases x2 with b | b
    · omega
    · exact absurd a.1 b.1
  · rcases x2 with b | b
    · exact absurd b.1 a.1
    · exact zs_jd_u a.2 b.2

theorem zn_r60 {h h' : zx_H} {F : zF} (w : zb_W [(44, 0), (60, 0)] h h') (e : ∀ q, 0 ≤ q → zv_a h' 60 q = zv_a h 60 q) (a : zr_Fr h F) : zr_Fr h' F := by
  unfold zr_Fr
  rw [zv_wi w rfl, zv_ext e, show zv_a h' 57 = zv_a h 57 from funext (fun q => zv_wa w rfl q), show zv_a h' 58 = zv_a h 58 from funext (fun q => zv_wa w rfl q), show zv_a h' 59 = zv_a h 59 from funext (fun q => zv_wa w rfl q)]
  exact a
theorem zn_c12 {h h' : zx_H} {F : zF} (w : zb_W [(12, 0)] h h') (e : ∀ q, 0 ≤ q → zv_a h' 12 q = zv_a h 12 q) (a : zc_Fr h F) : zc_Fr h' F := by
  unfold zc_Fr
  rw [zv_wf w rfl, zv_ext e, show zv_a h' 14 = zv_a h 14 from funext (fun q => zv_wa w rfl q), show zv_a h' 15 = zv_a h 15 from funext (fun q => zv_wa w rfl q), show zv_a h' 13 = zv_a h 13 from funext (fun q => zv_wa w rfl q)]
  exact a

theorem zV_c_plant {h : zx_H} (N : zn_V h) (x0 x1 x2 : Int32) : zx_T zp_P 6 zp_m144 0 (lv_args 0 [.ref 0, .int x0, .int x1, .int x2]) [] h (zr_R [(12, 0)] h (fun e h' => (((0 ≤ x2.toInt ∧ x2.toInt ≤ 8) ∧ ¬ zv_f h 16 4 = 0 ∧ ((0 ≤ x0.toInt ∧ x0.toInt < zv_f h 10 3) ∧ 0 ≤ x1.toInt ∧ x1.toInt < zv_a h 15 x0.toInt + zv_a h 13 x0.toInt)) ∧ ∀ q, 0 ≤ q → zv_a h' 12 q = if q = 14 * x0.toInt + (if x1.toInt < zv_a h 15 x0.toInt then x1.toInt else 8 + x1.toInt - zv_a h 15 x0.toInt) then x2.toInt else zv_a h 12 q) ∨ (¬ ((0 ≤ x2.toInt ∧ x2.toInt ≤ 8) ∧ ¬ zv_f h 16 4 = 0 ∧ ((0 ≤ x0.toInt ∧ x0.toInt < zv_f h 10 3) ∧ 0 ≤ x1.toInt ∧ x1.toInt < zv_a h 15 x0.toInt + zv_a h 13 x0.toInt)) ∧ ∀ q, 0 ≤ q → zv_a h' 12 q = zv_a h 12 q))) := by
  obtain ⟨s, F, g⟩ := zn_gh N
  have m := N.1.2.2.2.1
  have lr : ¬ zv_f h 16 4 = 0 → 0 ≤ x0.toInt → x0.toInt < zv_f h 10 3 → (0 ≤ zv_a h 15 x0.toInt ∧ zv_a h 15 x0.toInt ≤ 8) ∧ 0 ≤ zv_a h 13 x0.toInt ∧ zv_a h 13 x0.toInt ≤ 6 := fun z f0 f1 => by
    have y := g (by omega)
    have c := y.2.2.2.2.1
    have n := c.1
    have a := c.2 _ f0 (by omega)
    have b := (y.2.2.2.2.2.1).2.2 _ f0 (by omega)
    have b1 := b.2.1
    have b2 := b.2.2.1
    omega
  have z := zm_cPlantX N.1.1.1.1 (f := x0.toInt) (i := x1.toInt) (k := x2.toInt) (zn_r x0).1 (zn_r x0).2 (zn_r x1).1 (zn_r x1).2 (zn_r x2).1 (zn_r x2).2 lr (fun z w => by
    have y := g (by omega)
    have c := y.2.2.2.2.1
    have n := c.1
    have a := c.2 _ w.1.1 (by omega)
    have b := (y.2.2.2.2.2.1).2.2 _ w.1.1 (by omega)
    have b1 := b.2.1
    have b2 := b.2.2.1
    have a2 := a.2.1
    have a3 := a.2.2.1
    have jr : 0 ≤ (if x1.toInt < zv_a h 15 x0.toInt then x1.toInt else 8 + x1.toInt - zv_a h 15 x0.toInt) ∧ (if x1.toInt < zv_a h 15 x0.toInt then x1.toInt else 8 + x1.toInt - zv_a h 15 x0.toInt) < 8 + F.st x0.toInt := by split <;> omega
    rw [a.2.2.2 _ jr.1 jr.2]
    have kk := b.2.2.2.1 _ jr.1 jr.2
    omega)
  simp only [zI, Int32.ofInt_toInt] at z
  exact z
theorem zV_m_plant {h : zx_H} (hI : zb_I zc_H h) (x0 x1 x2 : Int32) : zx_T zp_P 1 zp_m203 0 (lv_args 0 [.ref 44, .int x0, .int x1, .int x2]) [] h (zr_R [(44, 0), (60, 0)] h (fun e h' => (((0 ≤ x2.toInt ∧ x2.toInt ≤ 8) ∧ ¬ zv_i h 13 = 0 ∧ (0 ≤ x0.toInt ∧ x0.toInt < zv_i h 19) ∧ 0 ≤ x1.toInt ∧ x1.toInt < zv_a h 58 x0.toInt + zv_a h 59 x0.toInt) ∧ ∀ q, 0 ≤ q → zv_a h' 60 q = if q = 14 * x0.toInt + x1.toInt then x2.toInt else zv_a h 60 q) ∨ (¬ ((0 ≤ x2.toInt ∧ x2.toInt ≤ 8) ∧ ¬ zv_i h 13 = 0 ∧ (0 ≤ x0.toInt ∧ x0.toInt < zv_i h 19) ∧ 0 ≤ x1.toInt ∧ x1.toInt < zv_a h 58 x0.toInt + zv_a h 59 x0.toInt) ∧ ∀ q, 0 ≤ q → zv_a h' 60 q = zv_a h 60 q))) := by
  have z := zm_plantX hI (f := x0.toInt) (i := x1.toInt) (k := x2.toInt) (zn_r x0).1 (zn_r x0).2 (zn_r x1).1 (zn_r x1).2 (zn_r x2).1 (zn_r x2).2
  simp only [zI, Int32.ofInt_toInt] at z
  exact z
theorem zV_p_plant {h h1 h2 : zx_H} {f i k : Int} (N : zn_V h) (i1 : zb_I zc_H h1) (i2 : zb_I zc_H h2) (w1 : zb_W [(12, 0)] h h1) (w2 : zb_W [(44, 0), (60, 0)] h1 h2) (x1 : (((0 ≤ k ∧ k ≤ 8) ∧ ¬ zv_f h 16 4 = 0 ∧ ((0 ≤ f ∧ f < zv_f h 10 3) ∧ 0 ≤ i ∧ i < zv_a h 15 f + zv_a h 13 f)) ∧ ∀ q, 0 ≤ q → zv_a h1 12 q = if q = 14 * f + (if i < zv_a h 15 f then i else 8 + i - zv_a h 15 f) then k else zv_a h 12 q) ∨ (¬ ((0 ≤ k ∧ k ≤ 8) ∧ ¬ zv_f h 16 4 = 0 ∧ ((0 ≤ f ∧ f < zv_f h 10 3) ∧ 0 ≤ i ∧ i < zv_a h 15 f + zv_a h 13 f)) ∧ ∀ q, 0 ≤ q → zv_a h1 12 q = zv_a h 12 q)) (x2 : (((0 ≤ k ∧ k ≤ 8) ∧ ¬ zv_i h1 13 = 0 ∧ (0 ≤ f ∧ f < zv_i h1 19) ∧ 0 ≤ i ∧ i < zv_a h1 58 f + zv_a h1 59 f) ∧ ∀ q, 0 ≤ q → zv_a h2 60 q = if q = 14 * f + i then k else zv_a h1 60 q) ∨ (¬ ((0 ≤ k ∧ k ≤ 8) ∧ ¬ zv_i h1 13 = 0 ∧ (0 ≤ f ∧ f < zv_i h1 19) ∧ 0 ≤ i ∧ i < zv_a h1 58 f + zv_a h1 59 f) ∧ ∀ q, 0 ≤ q → zv_a h2 60 q = zv_a h1 60 q)) : zn_V h2 := by
  have m := N.1.2.2.2.1
  have m1 : zv_i h1 13 = zv_i h 13 := zv_wi w1 rfl
  refine ⟨⟨⟨(N.1.1.1.w i1 w1 rfl).w i2 w2 rfl, (N.1.1.2.w w1 rfl).w w2 rfl⟩, (N.1.2.w w1 rfl).w w2 rfl⟩, fun z => ?_⟩
  have y1 : zv_i h 13 = 1 := by rw [zv_wi w2 rfl, m1] at z; exact z
  rw [zr_Pg_g w2 rfl, zr_Pg_g w1 rfl]
  obtain ⟨s, F, a0, a1, a2, a3, a4, a5, a6⟩ := N.2 y1
  have b1 := zr_A_g w2 rfl rfl rfl rfl (zr_A_g w1 rfl rfl rfl rfl a1)
  have b2 := zc_A_g w2 rfl rfl rfl (zc_A_g w1 rfl rfl rfl a2)
  have n1 := a3.1
  have n2 := a4.1
  have e1 : zv_i h1 19 = zv_i h 19 := zv_wi w1 rfl
  have e2 : zv_a h1 58 f = zv_a h 58 f := zv_wa w1 rfl f
  have e3 : zv_a h1 59 f = zv_a h 59 f := zv_wa w1 rfl f
  have r3 := zr_Fr_w w1 rfl a3
  by_cases c : 0 ≤ f ∧ f < F.n
  · have c3 := a3.2 f c.1 c.2
    have c4 := a4.2 f c.1 c.2
    have l3 := c3.2.1
    have l4 := c4.2.1
    have t3 := c3.2.2.1
    have t4 := c4.2.2.1
    by_cases d : (0 ≤ k ∧ k ≤ 8) ∧ 0 ≤ i ∧ i < F.lo f + F.st f
    · have y1' := (x1.resolve_right (fun z => z.1 (by omega))).2
      have y2 := (x2.resolve_right (fun z => z.1 (by omega))).2
      refine ⟨s, F.plant f i k, a0, b1, b2, zr_Fr_pl r3 a5 c.1 c.2 d.2.1 d.2.2 (zv_wi w2 rfl) (funext (fun q => zv_wa w2 rfl q)) (funext (fun q => zv_wa w2 rfl q)) (funext (fun q => zv_wa w2 rfl q)) y2, zc_Fr_w w2 rfl (zc_Fr_pl a4 a5 c.1 c.2 d.2.1 d.2.2 (zv_wf w1 rfl) (funext (fun q => zv_wa w1 rfl q)) (funext (fun q => zv_wa w1 rfl q)) (funext (fun q => zv_wa w1 rfl q)) (fun q q0 => ?_)), a5.plant c.1 c.2 d.2.1 d.2.2 d.1, zs_lk_pl a6⟩
      rw [y1' q q0, l4]
      rfl
    · have y1' := (x1.resolve_left (fun z => by have z1 := z.1; omega)).2
      have y2 := (x2.resolve_left (fun z => by have z1 := z.1; omega)).2
      exact ⟨s, F, a0, b1, b2, zn_r60 w2 y2 r3, zc_Fr_w w2 rfl (zn_c12 w1 y1' a4), a5, a6⟩
  · have y1' := (x1.resolve_left (fun z => by have z1 := z.1; omega)).2
    have y2 := (x2.resolve_left (fun z => by have z1 := z.1; omega)).2
    exact ⟨s, F, a0, b1, b2, zn_r60 w2 y2 r3, zc_Fr_w w2 rfl (zn_c12 w1 y1' a4), a5, a6⟩
