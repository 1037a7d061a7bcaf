/-! ===== 98l: what holds between calls: bytes too (by program) ===== -/
def zn_bt (h : zx_H) : Prop := zv_f h 27 4 = zv_i h 30 ∧ ∀ j, 0 ≤ j → j < zv_i h 30 → zv_a h 30 j = zv_a h 64 j
def zn_U (h : zx_H) : Prop := zn_V h ∧ zn_bt h
def zn_sp (W : List (Nat × Nat)) : Bool := za_in W 27 4 || za_in W 44 30 || za_in W 30 0 || za_in W 64 0
theorem zn_bt.w {W : List (Nat × Nat)} {h h' : zx_H} (a : zn_bt h) (w : zb_W W h h') (e : zn_sp W = false) : zn_bt h' := by
  unfold zn_sp at e
  simp only [Bool.or_eq_false_iff] at e
  obtain ⟨⟨⟨e1, e2⟩, e3⟩, e4⟩ := e
  exact ⟨by rw [zv_wf w e1, zv_wi w e2]; exact a.1, fun j j0 j1 => by rw [zv_wa w e3, zv_wa w e4]; exact a.2 j j0 (by rw [zv_wi w e2] at j1; exact j1)⟩
theorem zn_U.w {W : List (Nat × Nat)} {h h' : zx_H} (a : zn_U h) (i : zb_I zc_H h') (w : zb_W W h h') (e : zn_st W = false) (f : zn_sp W = false) : zn_U h' := ⟨a.1.w i w e, a.2.w w f⟩
theorem zn_kU {k : za_K} (hK : zb_K zp_P zc_H k) {q : zx_M} (hq : (zx_pm zp_P)[k.1]? = some q) (st : zn_st k.2.2.2.2 = false) (sp : zn_sp k.2.2.2.2 = false) (hi : zn_i k = true) {vs : List Value} {h : zx_H} (hL : zn_U h) (ha : zb_A zb_T vs k.2.2.1) : zx_T zp_P k.2.1 q 0 (lv_args 0 vs) [] h (fun r h1 => (∃ v, r = some (.int v)) ∧ zn_U h1) :=
  (hK q hq vs h ha hL.1.1.1.1.1).im fun r h' ⟨h1, h2, _, c, h4, h5, _⟩ => by
    refine ⟨?_, hL.w h1 h2 st sp⟩
    have h6 := List.all_eq_true.mp hi c h4
    split at h6
    · next z e =>
      rw [e] at h5
      cases r with
      | none => exact h5.elim
      | some v => obtain ⟨x, rfl, _⟩ := h5; exact ⟨x, rfl⟩
    · cases h6
theorem zn_klU {k : za_K} (hK : zb_K zp_P zc_H k) {q : zx_M} (hq : (zx_pm zp_P)[k.1]? = some q) (st : zn_st k.2.2.2.2 = false) (sp : zn_sp k.2.2.2.2 = false) (hi : zn_l k = true) {vs : List Value} {h : zx_H} (hL : zn_U h) (ha : zb_A zb_T vs k.2.2.1) : zx_T zp_P k.2.1 q 0 (lv_args 0 vs) [] h (fun r h1 => (∃ v, r = some (.long v)) ∧ zn_U h1) :=
  (hK q hq vs h ha hL.1.1.1.1.1).im fun r h' ⟨h1, h2, _, c, h4, h5, _⟩ => by
    refine ⟨?_, hL.w h1 h2 st sp⟩
    have h6 := List.all_eq_true.mp hi c h4
    split at h6
    · next z e =>
      rw [e] at h5
      cases r with
      | none => exact h5.elim
      | some v => obtain ⟨x, rfl⟩ := h5; exact ⟨x, rfl⟩
    · cases h6
theorem zU_run {h : zx_H} (hL : zn_U h) (a : Int32) : zx_T zp_P 8 zp_m217 0 (lv_args 0 [.ref 44, .int a]) [] h (fun r h1 => (∃ v, r = some (.int v)) ∧ zn_U h1) := by
  have z := (zV_run hL.1 a).and (by
    have z := zm_run hL.1.1.1.1.1 (m := a.toInt) (zn_r a).1 (zn_r a).2 hL.1.1.1.1.2.1 hL.1.1.1.1.2.2.2.2.2
    simp only [zI, Int32.ofInt_toInt] at z
    exact z)
  exact z.im fun r h1 ⟨⟨v, N⟩, ⟨i1, w1, _⟩⟩ => ⟨v, N, hL.2.w w1 rfl⟩

set_option maxRecDepth 100000 in
theorem zU_c_fault {h : zx_H} (hL : zn_U h)  : zx_T zp_P 0 zp_m140 0 (lv_args 0 [.ref 0]) [] h (fun r h1 => (∃ v, r = some (.int v)) ∧ zn_U h1) :=
  zn_kU (k := zc_a69) zc_ao69 (q := zp_m140) rfl rfl rfl rfl hL ⟨rfl, trivial⟩

set_option maxRecDepth 100000 in
theorem zU_c_frame {h : zx_H} (hL : zn_U h) (x0 : Int32) (x1 : Int32) : zx_T zp_P 5 zp_m143 0 (lv_args 0 [.ref 0, .int x0, .int x1]) [] h (fun r h1 => (∃ v, r = some (.int v)) ∧ zn_U h1) :=
  zn_kU (k := zc_a86) zc_ao86 (q := zp_m143) rfl rfl rfl rfl hL ⟨rfl, zn_ti x0, zn_ti x1, trivial⟩

set_option maxRecDepth 100000 in
theorem zU_c_run {h : zx_H} (hL : zn_U h) (x0 : Int32) : zx_T zp_P 6 zp_m149 0 (lv_args 0 [.ref 0, .int x0]) [] h (fun r h1 => (∃ v, r = some (.int v)) ∧ zn_U h1) :=
  zn_kU (k := zc_a195) zc_ao195 (q := zp_m149) rfl rfl rfl rfl hL ⟨rfl, zn_ti x0, trivial⟩

set_option maxRecDepth 100000 in
theorem zU_c_told {h : zx_H} (hL : zn_U h) (x0 : Int32) : zx_T zp_P 4 zp_m150 0 (lv_args 0 [.ref 0, .int x0]) [] h (fun r h1 => (∃ v, r = some (.long v)) ∧ zn_U h1) :=
  zn_klU (k := zc_a200) zc_ao200 (q := zp_m150) rfl rfl rfl rfl hL ⟨rfl, zn_ti x0, trivial⟩

set_option maxRecDepth 100000 in
theorem zU_m_fault {h : zx_H} (hL : zn_U h)  : zx_T zp_P 0 zp_m199 0 (lv_args 0 [.ref 44]) [] h (fun r h1 => (∃ v, r = some (.int v)) ∧ zn_U h1) :=
  zn_kU (k := zc_b17) zc_bo17 (q := zp_m199) rfl rfl rfl rfl hL ⟨rfl, trivial⟩

set_option maxRecDepth 100000 in
theorem zU_m_frame {h : zx_H} (hL : zn_U h) (x0 : Int32) (x1 : Int32) : zx_T zp_P 1 zp_m202 0 (lv_args 0 [.ref 44, .int x0, .int x1]) [] h (fun r h1 => (∃ v, r = some (.int v)) ∧ zn_U h1) :=
  zn_kU (k := zc_b22) zc_bo22 (q := zp_m202) rfl rfl rfl rfl hL ⟨rfl, zn_ti x0, zn_ti x1, trivial⟩

set_option maxRecDepth 100000 in
theorem zU_m_out {h : zx_H} (hL : zn_U h) (x0 : Int32) : zx_T zp_P 0 zp_m195 0 (lv_args 0 [.ref 44, .int x0]) [] h (fun r h1 => (∃ v, r = some (.int v)) ∧ zn_U h1) :=
  zn_kU (k := zc_b9) zc_bo9 (q := zp_m195) rfl rfl rfl rfl hL ⟨rfl, zn_ti x0, trivial⟩

set_option maxRecDepth 100000 in
theorem zU_m_told {h : zx_H} (hL : zn_U h) (x0 : Int32) : zx_T zp_P 0 zp_m218 0 (lv_args 0 [.ref 44, .int x0]) [] h (fun r h1 => (∃ v, r = some (.long v)) ∧ zn_U h1) :=
  zn_klU (k := zc_b28) zc_bo28 (q := zp_m218) rfl rfl rfl rfl hL ⟨rfl, zn_ti x0, trivial⟩

theorem zU_p_parameter {h h1 h2 : zx_H} {c e1 e2 : Int} (N : zn_U h) (i1 : zb_I zc_H h1) (i2 : zb_I zc_H h2) (w1 : zb_W [(9, 0), (1, 10), (16, 4)] h h1) (w2 : zb_W [(44, 0), (44, 10), (52, 0), (44, 13)] h1 h2) (x1 : (zs_par c e1 (zv_f h 1 10) (zv_f h1 1 10)) ∧ (zs_a2 ((c = 1 ∨ c = 2 ∨ (5 ≤ c ∧ c ≤ 8)) ∧ ((c = 2 ∧ zv_f h 1 10 + 2 ≤ 8) ∨ (¬ c = 2 ∧ zv_f h 1 10 + 1 ≤ 8))) (zv_f h 1 10) c (zv_a h 9) (zv_a h1 9) ∧ (((c = 1 ∨ c = 2 ∨ (5 ≤ c ∧ c ≤ 8)) ∧ ((c = 2 ∧ zv_f h 1 10 + 2 ≤ 8) ∨ (¬ c = 2 ∧ zv_f h 1 10 + 1 ≤ 8))) → zv_f h1 16 4 = 0) ∧ (¬ ((c = 1 ∨ c = 2 ∨ (5 ≤ c ∧ c ≤ 8)) ∧ ((c = 2 ∧ zv_f h 1 10 + 2 ≤ 8) ∨ (¬ c = 2 ∧ zv_f h 1 10 + 1 ≤ 8))) → zv_f h1 16 4 = zv_f h 16 4))) (x2 : (zs_par c e2 (zv_i h1 10) (zv_i h2 10) ∧ (zv_i h2 13 = 0 ∨ zv_i h2 13 = zv_i h1 13)) ∧ (zs_a2 ((c = 1 ∨ c = 2 ∨ (5 ≤ c ∧ c ≤ 8)) ∧ ((c = 2 ∧ zv_i h1 10 + 2 ≤ 8) ∨ (¬ c = 2 ∧ zv_i h1 10 + 1 ≤ 8))) (zv_i h1 10) c (zv_a h1 52) (zv_a h2 52) ∧ (((c = 1 ∨ c = 2 ∨ (5 ≤ c ∧ c ≤ 8)) ∧ ((c = 2 ∧ zv_i h1 10 + 2 ≤ 8) ∨ (¬ c = 2 ∧ zv_i h1 10 + 1 ≤ 8))) → zv_i h2 13 = 0) ∧ (¬ ((c = 1 ∨ c = 2 ∨ (5 ≤ c ∧ c ≤ 8)) ∧ ((c = 2 ∧ zv_i h1 10 + 2 ≤ 8) ∨ (¬ c = 2 ∧ zv_i h1 10 + 1 ≤ 8))) → zv_i h2 13 = zv_i h1 13))) : zn_U h2 ∧ e1 = e2 := by
  obtain ⟨a, ee⟩ := zV_p_parameter N.1 i1 i2 w1 w2 x1 x2
  exact ⟨⟨a, (N.2.w w1 rfl).w w2 rfl⟩, ee⟩

theorem zU_p_operation {h h1 h2 : zx_H} {o a b e1 e2 : Int} (N : zn_U h) (i1 : zb_I zc_H h1) (i2 : zb_I zc_H h2) (w1 : zb_W [(2, 0), (3, 0), (4, 0), (1, 3), (16, 4)] h h1) (w2 : zb_W [(44, 0), (44, 1), (45, 0), (46, 0), (47, 0), (44, 13)] h1 h2) (x1 : (zs_opn o a e1 (zv_f h 1 3) (zv_f h1 1 3)) ∧ (zs_ad ((0 ≤ o ∧ o ≤ 28 ∧ (o = 21 → 5 ≤ a ∧ a ≤ 8)) ∧ zv_f h 1 3 < 60) (zv_f h 1 3) o (zv_a h 2) (zv_a h1 2) ∧ zs_ad ((0 ≤ o ∧ o ≤ 28 ∧ (o = 21 → 5 ≤ a ∧ a ≤ 8)) ∧ zv_f h 1 3 < 60) (zv_f h 1 3) a (zv_a h 3) (zv_a h1 3) ∧ zs_ad ((0 ≤ o ∧ o ≤ 28 ∧ (o = 21 → 5 ≤ a ∧ a ≤ 8)) ∧ zv_f h 1 3 < 60) (zv_f h 1 3) b (zv_a h 4) (zv_a h1 4) ∧ (((0 ≤ o ∧ o ≤ 28 ∧ (o = 21 → 5 ≤ a ∧ a ≤ 8)) ∧ zv_f h 1 3 < 60) → zv_f h1 16 4 = 0) ∧ (¬ ((0 ≤ o ∧ o ≤ 28 ∧ (o = 21 → 5 ≤ a ∧ a ≤ 8)) ∧ zv_f h 1 3 < 60) → zv_f h1 16 4 = zv_f h 16 4))) (x2 : (zs_opn o a e2 (zv_i h1 1) (zv_i h2 1) ∧ (zv_i h2 13 = 0 ∨ (zv_i h2 13 = zv_i h1 13 ∧ zv_i h2 1 = zv_i h1 1 ∧ ∀ j, 0 ≤ j → zv_a h2 45 j = zv_a h1 45 j ∧ zv_a h2 46 j = zv_a h1 46 j ∧ zv_a h2 47 j = zv_a h1 47 j)) ∧ (zg_CI h1 → zg_CI h2)) ∧ (zs_ad ((0 ≤ o ∧ o ≤ 28 ∧ (o = 21 → 5 ≤ a ∧ a ≤ 8)) ∧ zv_i h1 1 < 60) (zv_i h1 1) o (zv_a h1 45) (zv_a h2 45) ∧ zs_ad ((0 ≤ o ∧ o ≤ 28 ∧ (o = 21 → 5 ≤ a ∧ a ≤ 8)) ∧ zv_i h1 1 < 60) (zv_i h1 1) a (zv_a h1 46) (zv_a h2 46) ∧ zs_ad ((0 ≤ o ∧ o ≤ 28 ∧ (o = 21 → 5 ≤ a ∧ a ≤ 8)) ∧ zv_i h1 1 < 60) (zv_i h1 1) b (zv_a h1 47) (zv_a h2 47) ∧ (((0 ≤ o ∧ o ≤ 28 ∧ (o = 21 → 5 ≤ a ∧ a ≤ 8)) ∧ zv_i h1 1 < 60) → zv_i h2 13 = 0) ∧ (¬ ((0 ≤ o ∧ o ≤ 28 ∧ (o = 21 → 5 ≤ a ∧ a ≤ 8)) ∧ zv_i h1 1 < 60) → zv_i h2 13 = zv_i h1 13))) : zn_U h2 ∧ e1 = e2 := by
  obtain ⟨a, ee⟩ := zV_p_operation N.1 i1 i2 w1 w2 x1 x2
  exact ⟨⟨a, (N.2.w w1 rfl).w w2 rfl⟩, ee⟩

theorem zU_p_handler {h h1 h2 : zx_H} {f t p k e1 e2 : Int} (N : zn_U h) (i1 : zb_I zc_H h1) (i2 : zb_I zc_H h2) (w1 : zb_W [(5, 0), (6, 0), (7, 0), (8, 0), (1, 8), (16, 4)] h h1) (w2 : zb_W [(44, 0), (44, 5), (48, 0), (49, 0), (50, 0), (51, 0), (44, 13)] h1 h2) (x1 : (zs_hnd f t p k e1 (zv_f h 1 8) (zv_f h1 1 8)) ∧ (zs_ad ((0 ≤ f ∧ f ≤ 60 ∧ 0 ≤ t ∧ t ≤ 60 ∧ 0 ≤ p ∧ p ≤ 60 ∧ 7 ≤ k ∧ k ≤ 8) ∧ zv_f h 1 8 < 6) (zv_f h 1 8) f (zv_a h 5) (zv_a h1 5) ∧ zs_ad ((0 ≤ f ∧ f ≤ 60 ∧ 0 ≤ t ∧ t ≤ 60 ∧ 0 ≤ p ∧ p ≤ 60 ∧ 7 ≤ k ∧ k ≤ 8) ∧ zv_f h 1 8 < 6) (zv_f h 1 8) t (zv_a h 6) (zv_a h1 6) ∧ zs_ad ((0 ≤ f ∧ f ≤ 60 ∧ 0 ≤ t ∧ t ≤ 60 ∧ 0 ≤ p ∧ p ≤ 60 ∧ 7 ≤ k ∧ k ≤ 8) ∧ zv_f h 1 8 < 6) (zv_f h 1 8) p (zv_a h 7) (zv_a h1 7) ∧ zs_ad ((0 ≤ f ∧ f ≤ 60 ∧ 0 ≤ t ∧ t ≤ 60 ∧ 0 ≤ p ∧ p ≤ 60 ∧ 7 ≤ k ∧ k ≤ 8) ∧ zv_f h 1 8 < 6) (zv_f h 1 8) k (zv_a h 8) (zv_a h1 8) ∧ (((0 ≤ f ∧ f ≤ 60 ∧ 0 ≤ t ∧ t ≤ 60 ∧ 0 ≤ p ∧ p ≤ 60 ∧ 7 ≤ k ∧ k ≤ 8) ∧ zv_f h 1 8 < 6) → zv_f h1 16 4 = 0) ∧ (¬ ((0 ≤ f ∧ f ≤ 60 ∧ 0 ≤ t ∧ t ≤ 60 ∧ 0 ≤ p ∧ p ≤ 60 ∧ 7 ≤ k ∧ k ≤ 8) ∧ zv_f h 1 8 < 6) → zv_f h1 16 4 = zv_f h 16 4))) (x2 : (zs_hnd f t p k e2 (zv_i h1 5) (zv_i h2 5) ∧ (zv_i h2 13 = 0 ∨ (zv_i h2 13 = zv_i h1 13 ∧ zv_i h2 5 = zv_i h1 5 ∧ ∀ j, 0 ≤ j → zv_a h2 48 j = zv_a h1 48 j ∧ zv_a h2 49 j = zv_a h1 49 j ∧ zv_a h2 50 j = zv_a h1 50 j)) ∧ (zg_TI h1 → zg_TI h2)) ∧ (zs_ad ((0 ≤ f ∧ f ≤ 60 ∧ 0 ≤ t ∧ t ≤ 60 ∧ 0 ≤ p ∧ p ≤ 60 ∧ 7 ≤ k ∧ k ≤ 8) ∧ zv_i h1 5 < 6) (zv_i h1 5) f (zv_a h1 48) (zv_a h2 48) ∧ zs_ad ((0 ≤ f ∧ f ≤ 60 ∧ 0 ≤ t ∧ t ≤ 60 ∧ 0 ≤ p ∧ p ≤ 60 ∧ 7 ≤ k ∧ k ≤ 8) ∧ zv_i h1 5 < 6) (zv_i h1 5) t (zv_a h1 49) (zv_a h2 49) ∧ zs_ad ((0 ≤ f ∧ f ≤ 60 ∧ 0 ≤ t ∧ t ≤ 60 ∧ 0 ≤ p ∧ p ≤ 60 ∧ 7 ≤ k ∧ k ≤ 8) ∧ zv_i h1 5 < 6) (zv_i h1 5) p (zv_a h1 50) (zv_a h2 50) ∧ zs_ad ((0 ≤ f ∧ f ≤ 60 ∧ 0 ≤ t ∧ t ≤ 60 ∧ 0 ≤ p ∧ p ≤ 60 ∧ 7 ≤ k ∧ k ≤ 8) ∧ zv_i h1 5 < 6) (zv_i h1 5) k (zv_a h1 51) (zv_a h2 51) ∧ (((0 ≤ f ∧ f ≤ 60 ∧ 0 ≤ t ∧ t ≤ 60 ∧ 0 ≤ p ∧ p ≤ 60 ∧ 7 ≤ k ∧ k ≤ 8) ∧ zv_i h1 5 < 6) → zv_i h2 13 = 0) ∧ (¬ ((0 ≤ f ∧ f ≤ 60 ∧ 0 ≤ t ∧ t ≤ 60 ∧ 0 ≤ p ∧ p ≤ 60 ∧ 7 ≤ k ∧ k ≤ 8) ∧ zv_i h1 5 < 6) → zv_i h2 13 = zv_i h1 13))) : zn_U h2 ∧ e1 = e2 := by
  obtain ⟨a, ee⟩ := zV_p_handler N.1 i1 i2 w1 w2 x1 x2
  exact ⟨⟨a, (N.2.w w1 rfl).w w2 rfl⟩, ee⟩

theorem zU_p_argument {h h1 h2 : zx_H} {i v e1 e2 : Int} (N : zn_U h) (i1 : zb_I zc_H h1) (i2 : zb_I zc_H h2) (w1 : zb_W [(35, 0)] h h1) (w2 : zb_W [(44, 0), (53, 0)] h1 h2) (x1 : zs_arg i v e1 (zv_b h 35) (zv_b h1 35)) (x2 : zs_arg i v e2 (zv_b h1 53) (zv_b h2 53)) : zn_U h2 ∧ e1 = e2 := by
  obtain ⟨a, ee⟩ := zV_p_argument N.1 i1 i2 w1 w2 x1 x2
  exact ⟨⟨a, (N.2.w w1 rfl).w w2 rfl⟩, ee⟩

theorem zU_p_clear {h h1 h2 : zx_H} {e1 e2 : Int} (N : zn_U h) (i1 : zb_I zc_H h1) (i2 : zb_I zc_H h2) (w1 : zb_W [(1, 3), (1, 8), (1, 10), (16, 4)] h h1) (w2 : zb_W [(44, 0), (44, 1), (44, 5), (44, 10), (44, 13)] h1 h2) (x1 : (e1 = zv_f h 1 3 ∧ zv_f h1 1 3 = 0 ∧ zv_f h1 1 8 = 0 ∧ zv_f h1 1 10 = 0) ∧ (zv_f h1 16 4 = 0)) (x2 : (e2 = zv_i h1 1 ∧ zv_i h2 1 = 0 ∧ zv_i h2 5 = 0 ∧ zv_i h2 10 = 0 ∧ zv_i h2 13 = 0) ∧ (True)) : zn_U h2 ∧ e1 = e2 := by
  obtain ⟨a, ee⟩ := zV_p_clear N.1 i1 i2 w1 w2 x1 x2
  exact ⟨⟨a, (N.2.w w1 rfl).w w2 rfl⟩, ee⟩

theorem zU_p_make {h h1 h2 : zx_H} {e1 e2 : Int} (N : zn_U h) (i1 : zb_I zc_H h1) (i2 : zb_I zc_H h2) (w1 : zb_W [(0, 6), (16, 4), (16, 5), (16, 6), (10, 3), (19, 0), (20, 1), (21, 0), (18, 0), (16, 7), (14, 0), (15, 0), (12, 0), (13, 0)] h h1) (w2 : zb_W [(44, 0), (44, 13), (44, 14), (44, 15), (44, 19), (54, 0), (44, 27), (56, 0), (55, 0), (63, 0), (44, 25), (61, 0), (62, 0), (44, 26), (57, 0), (58, 0), (59, 0), (60, 0)] h1 h2) (x1 : zc_M h1 (zr_Pg h) e1 ∧ (zv_f h1 16 4 = 1 → zc_Fr h1 (zs_fr (zr_Pg h) (zs_make (zr_Pg h)).2.2.2 (zr_Pg h).n.toNat))) (x2 : ((zg_KI h2 ∧ (zv_i h2 13 = 1 → zg_C h2)) ∧ zr_M h2 (zr_Pg h) e2) ∧ (zv_i h2 13 = 1 → zr_Fr h2 (zs_fr (zr_Pg h) (zs_make (zr_Pg h)).2.2.2 (zr_Pg h).n.toNat))) : zn_U h2 ∧ e1 = e2 := by
  obtain ⟨a, ee⟩ := zV_p_make N.1 i1 i2 w1 w2 x1 x2
  exact ⟨⟨a, (N.2.w w1 rfl).w w2 rfl⟩, ee⟩

theorem zU_p_kind {h h1 h2 : zx_H} {p i e1 e2 : Int} (N : zn_U h) (i1 : zb_I zc_H h1) (i2 : zb_I zc_H h2) (w1 : zb_W [] h h1) (w2 : zb_W [(44, 0)] h1 h2) (x1 : (¬ (0 ≤ p ∧ p < zv_f h 1 3) ∧ e1 = -2) ∨ ((0 ≤ p ∧ p < zv_f h 1 3) ∧ zv_f h 16 4 = 0 ∧ e1 = -3) ∨ ((0 ≤ p ∧ p < zv_f h 1 3) ∧ ¬ zv_f h 16 4 = 0 ∧ (¬ zv_a h 19 p = -1 ∧ 0 ≤ i ∧ i < 8 + zv_a h 19 p) ∧ e1 = zv_a h 18 (14 * p + i)) ∨ ((0 ≤ p ∧ p < zv_f h 1 3) ∧ ¬ zv_f h 16 4 = 0 ∧ ¬ (¬ zv_a h 19 p = -1 ∧ 0 ≤ i ∧ i < 8 + zv_a h 19 p) ∧ e1 = -1)) (x2 : (¬ (0 ≤ p ∧ p < zv_i h1 1) ∧ e2 = -2) ∨ ((0 ≤ p ∧ p < zv_i h1 1) ∧ zv_i h1 13 = 0 ∧ e2 = -3) ∨ ((0 ≤ p ∧ p < zv_i h1 1) ∧ ¬ zv_i h1 13 = 0 ∧ (zv_a h1 54 p = 1 ∧ 0 ≤ i ∧ i < 8 + zv_a h1 56 p) ∧ e2 = zv_a h1 55 (14 * p + i)) ∨ ((0 ≤ p ∧ p < zv_i h1 1) ∧ ¬ zv_i h1 13 = 0 ∧ ¬ (zv_a h1 54 p = 1 ∧ 0 ≤ i ∧ i < 8 + zv_a h1 56 p) ∧ e2 = -1)) : zn_U h2 ∧ e1 = e2 := by
  obtain ⟨a, ee⟩ := zV_p_kind N.1 i1 i2 w1 w2 x1 x2
  exact ⟨⟨a, (N.2.w w1 rfl).w w2 rfl⟩, ee⟩

theorem zU_p_size {h h1 h2 : zx_H} {p e1 e2 : Int} (N : zn_U h) (i1 : zb_I zc_H h1) (i2 : zb_I zc_H h2) (w1 : zb_W [] h h1) (w2 : zb_W [(44, 0)] h1 h2) (x1 : (¬ (0 ≤ p ∧ p < zv_f h 1 3) ∧ e1 = -2) ∨ ((0 ≤ p ∧ p < zv_f h 1 3) ∧ zv_f h 16 4 = 0 ∧ e1 = -3) ∨ ((0 ≤ p ∧ p < zv_f h 1 3) ∧ ¬ zv_f h 16 4 = 0 ∧ ¬ zv_a h 19 p = -1 ∧ e1 = zv_a h 19 p) ∨ ((0 ≤ p ∧ p < zv_f h 1 3) ∧ ¬ zv_f h 16 4 = 0 ∧ ¬ (¬ zv_a h 19 p = -1) ∧ e1 = -1)) (x2 : (¬ (0 ≤ p ∧ p < zv_i h1 1) ∧ e2 = -2) ∨ ((0 ≤ p ∧ p < zv_i h1 1) ∧ zv_i h1 13 = 0 ∧ e2 = -3) ∨ ((0 ≤ p ∧ p < zv_i h1 1) ∧ ¬ zv_i h1 13 = 0 ∧ zv_a h1 54 p = 1 ∧ e2 = zv_a h1 56 p) ∨ ((0 ≤ p ∧ p < zv_i h1 1) ∧ ¬ zv_i h1 13 = 0 ∧ ¬ (zv_a h1 54 p = 1) ∧ e2 = -1)) : zn_U h2 ∧ e1 = e2 := by
  obtain ⟨a, ee⟩ := zV_p_size N.1 i1 i2 w1 w2 x1 x2
  exact ⟨⟨a, (N.2.w w1 rfl).w w2 rfl⟩, ee⟩

theorem zU_p_count {h h1 h2 : zx_H} {w e1 e2 : Int} (N : zn_U h) (i1 : zb_I zc_H h1) (i2 : zb_I zc_H h2) (w1 : zb_W [] h h1) (w2 : zb_W [(44, 0)] h1 h2) (x1 : (w = 0 ∧ e1 = zv_f h 1 3) ∨ (w = 1 ∧ e1 = zv_f h 1 8) ∨ (w = 2 ∧ e1 = zv_f h 1 10) ∨ (w = 3 ∧ ((zv_f h 16 4 = 0 ∧ e1 = 0) ∨ (¬ zv_f h 16 4 = 0 ∧ e1 = zv_f h 10 3))) ∨ (w = 4 ∧ ((zv_f h 16 4 = 0 ∧ e1 = 0) ∨ (¬ zv_f h 16 4 = 0 ∧ e1 = zs_cn (fun p => zv_a h 19 p = -1) (zv_f h 1 3).toNat))) ∨ (w = 5 ∧ e1 = zv_f h 16 6) ∨ (¬ (0 ≤ w ∧ w ≤ 5) ∧ e1 = -2)) (x2 : (w = 0 ∧ e2 = zv_i h1 1) ∨ (w = 1 ∧ e2 = zv_i h1 5) ∨ (w = 2 ∧ e2 = zv_i h1 10) ∨ (w = 3 ∧ ((zv_i h1 13 = 0 ∧ e2 = 0) ∨ (¬ zv_i h1 13 = 0 ∧ e2 = zv_i h1 19))) ∨ (w = 4 ∧ ((zv_i h1 13 = 0 ∧ e2 = 0) ∨ (¬ zv_i h1 13 = 0 ∧ e2 = zs_cn (fun p => ¬ zv_a h1 54 p = 1) (zv_i h1 1).toNat))) ∨ (w = 5 ∧ e2 = zv_i h1 15) ∨ (¬ (0 ≤ w ∧ w ≤ 5) ∧ e2 = -2)) : zn_U h2 ∧ e1 = e2 := by
  obtain ⟨a, ee⟩ := zV_p_count N.1 i1 i2 w1 w2 x1 x2
  exact ⟨⟨a, (N.2.w w1 rfl).w w2 rfl⟩, ee⟩

theorem zU_p_judge {h h1 h2 : zx_H} {e1 e2 : Int} {s : zS} {F : zF} (N : zn_U h) (i1 : zb_I zc_H h1) (i2 : zb_I zc_H h2) (w1 : zb_W [(23, 1), (24, 0), (25, 1), (26, 0)] h h1) (w2 : zb_W [(44, 0), (44, 25), (44, 26), (61, 0)] h1 h2) (x1 : (zv_i h 13 = 0 ∧ e1 = -3) ∨ (¬ zv_i h 13 = 0 ∧ zs_jd (zr_Pg h) s F e1)) (x2 : (zv_i h 13 = 0 ∧ e2 = -3) ∨ (¬ zv_i h 13 = 0 ∧ zs_jd (zr_Pg h) s F e2)) : zn_U h2 ∧ e1 = e2 := by
  obtain ⟨a, ee⟩ := zV_p_judge N.1 i1 i2 w1 w2 x1 x2
  exact ⟨⟨a, (N.2.w w1 rfl).w w2 rfl⟩, ee⟩

theorem zU_p_plant {h h1 h2 : zx_H} {f i k : Int} (N : zn_U h) (i1 : zb_I zc_H h1) (i2 : zb_I zc_H h2) (w1 : zb_W [(12, 0)] h h1) (w2 : zb_W [(44, 0), (60, 0)] h1 h2) (x1 : (((0 ≤ k ∧ k ≤ 8) ∧ ¬ zv_f h 16 4 = 0 ∧ ((0 ≤ f ∧ f < zv_f h 10 3) ∧ 0 ≤ i ∧ i < zv_a h 15 f + zv_a h 13 f)) ∧ ∀ q, 0 ≤ q → zv_a h1 12 q = if q = 14 * f + (if i < zv_a h 15 f then i else 8 + i - zv_a h 15 f) then k else zv_a h 12 q) ∨ (¬ ((0 ≤ k ∧ k ≤ 8) ∧ ¬ zv_f h 16 4 = 0 ∧ ((0 ≤ f ∧ f < zv_f h 10 3) ∧ 0 ≤ i ∧ i < zv_a h 15 f + zv_a h 13 f)) ∧ ∀ q, 0 ≤ q → zv_a h1 12 q = zv_a h 12 q)) (x2 : (((0 ≤ k ∧ k ≤ 8) ∧ ¬ zv_i h1 13 = 0 ∧ (0 ≤ f ∧ f < zv_i h1 19) ∧ 0 ≤ i ∧ i < zv_a h1 58 f + zv_a h1 59 f) ∧ ∀ q, 0 ≤ q → zv_a h2 60 q = if q = 14 * f + i then k else zv_a h1 60 q) ∨ (¬ ((0 ≤ k ∧ k ≤ 8) ∧ ¬ zv_i h1 13 = 0 ∧ (0 ≤ f ∧ f < zv_i h1 19) ∧ 0 ≤ i ∧ i < zv_a h1 58 f + zv_a h1 59 f) ∧ ∀ q, 0 ≤ q → zv_a h2 60 q = zv_a h1 60 q)) : zn_U h2 := ⟨zV_p_plant N.1 i1 i2 w1 w2 x1 x2, (N.2.w w1 rfl).w w2 rfl⟩

theorem zU_c_packed {h : zx_H} (N : zn_U h) {s : zS} {F : zF} (g : ¬ zv_i h 13 = 0 → zs_ok (zr_Pg h) s ∧ zr_A h s ∧ zc_A h s ∧ zr_Fr h F ∧ zc_Fr h F ∧ F.ok ∧ zs_lk (zr_Pg h) s F) : zx_T zp_P 6 zp_m146 0 (lv_args 0 [.ref 0]) [] h (zr_R [(27, 4), (27, 6), (31, 0), (28, 1), (29, 0), (32, 0), (27, 8), (33, 0), (27, 10), (30, 0)] h (fun e h' => (zv_i h 13 = 0 ∧ e = -3 ∧ zv_f h' 27 4 = zv_f h 27 4 ∧ ∀ j, zv_a h' 30 j = zv_a h 30 j) ∨ (¬ zv_i h 13 = 0 ∧ e = zv_f h' 27 4 ∧ zs_bl (zv_f h' 27 4) (zv_a h' 30) (zs_pkd (zr_Pg h) F F.n.toNat)))) := by
  have m := N.1.1.2.2.2.1
  have z := zm_cPackedX N.1.1.1.1.1 F (fun z => (g (by omega)).2.2.2.2.1) (fun z => (g (by omega)).2.2.2.2.2.1) (by rw [N.1.1.2.1]; exact N.1.1.2.2.1.ok.2.2)
  rw [N.1.1.2.1, m] at z
  exact z
theorem zU_m_packed {h h1 : zx_H} (N : zn_U h) (i1 : zb_I zc_H h1) (w1 : zb_W [(27, 4), (27, 6), (31, 0), (28, 1), (29, 0), (32, 0), (27, 8), (33, 0), (27, 10), (30, 0)] h h1) {s : zS} {F : zF} (g : ¬ zv_i h 13 = 0 → zs_ok (zr_Pg h) s ∧ zr_A h s ∧ zc_A h s ∧ zr_Fr h F ∧ zc_Fr h F ∧ F.ok ∧ zs_lk (zr_Pg h) s F) : zx_T zp_P 3 zp_m194 0 (lv_args 0 [.ref 44]) [] h1 (zr_R [(44, 0), (44, 30), (64, 0), (65, 0), (66, 0), (67, 0), (68, 0)] h1 (fun e h' => (zv_i h 13 = 0 ∧ e = -3 ∧ zv_i h' 30 = zv_i h1 30 ∧ ∀ j, zv_a h' 64 j = zv_a h1 64 j) ∨ (¬ zv_i h 13 = 0 ∧ e = zv_i h' 30 ∧ zs_bl (zv_i h' 30) (zv_a h' 64) (zs_pkd (zr_Pg h) F F.n.toNat)))) := by
  have m : zv_i h1 13 = zv_i h 13 := zv_wi w1 rfl
  have z := zm_packedF i1 F (fun z => zr_Fr_w w1 rfl (g (by omega)).2.2.2.1) (fun z => (g (by omega)).2.2.2.2.2.1)
  rw [zr_Pg_g w1 rfl, m] at z
  exact z
theorem zU_p_packed {h h1 h2 : zx_H} {e1 e2 : Int} {F : zF} (N : zn_U h) (i1 : zb_I zc_H h1) (i2 : zb_I zc_H h2) (w1 : zb_W [(27, 4), (27, 6), (31, 0), (28, 1), (29, 0), (32, 0), (27, 8), (33, 0), (27, 10), (30, 0)] h h1) (w2 : zb_W [(44, 0), (44, 30), (64, 0), (65, 0), (66, 0), (67, 0), (68, 0)] h1 h2) (x1 : (zv_i h 13 = 0 ∧ e1 = -3 ∧ zv_f h1 27 4 = zv_f h 27 4 ∧ ∀ j, zv_a h1 30 j = zv_a h 30 j) ∨ (¬ zv_i h 13 = 0 ∧ e1 = zv_f h1 27 4 ∧ zs_bl (zv_f h1 27 4) (zv_a h1 30) (zs_pkd (zr_Pg h) F F.n.toNat))) (x2 : (zv_i h 13 = 0 ∧ e2 = -3 ∧ zv_i h2 30 = zv_i h1 30 ∧ ∀ j, zv_a h2 64 j = zv_a h1 64 j) ∨ (¬ zv_i h 13 = 0 ∧ e2 = zv_i h2 30 ∧ zs_bl (zv_i h2 30) (zv_a h2 64) (zs_pkd (zr_Pg h) F F.n.toNat))) : zn_U h2 ∧ e1 = e2 := by
  have V2 := (N.1.w i1 w1 rfl).w i2 w2 rfl
  have f2 : zv_f h2 27 4 = zv_f h1 27 4 := zv_wf w2 rfl
  have i0 : zv_i h1 30 = zv_i h 30 := zv_wi w1 rfl
  rcases x1 with a | a
  · rcases x2 with b | b
    · refine ⟨⟨V2, ?_, fun j j0 j1 => ?_⟩, by omega⟩
      · rw [f2, a.2.2.1, b.2.2.1, i0]; exact N.2.1
      · rw [zv_wa w2 rfl, a.2.2.2 j, b.2.2.2 j, zv_wa w1 rfl]
        exact N.2.2 j j0 (by rw [b.2.2.1, i0] at j1; exact j1)
    · exact absurd a.1 b.1
  · rcases x2 with b | b
    · exact absurd b.1 a.1
    · have l1 := a.2.2.1
      have l2 := b.2.2.1
      refine ⟨⟨V2, by rw [f2]; omega, fun j j0 j1 => ?_⟩, by omega⟩
      rw [zv_wa w2 rfl]
      have y1 := a.2.2.2 j.toNat (by omega)
      have y2 := b.2.2.2 j.toNat (by omega)
      rw [show ((j.toNat : Nat) : Int) = j by omega] at y1 y2
      rw [y1, y2]
