/-! ===== 98p: what holds between calls: what a run leaves too (by program) ===== -/
def zn_Y (h : zx_H) : Prop := zv_f h 34 14 = zv_i h 41 ∧ 0 ≤ zv_f h 34 14 ∧ zv_f h 34 7 = zv_i h 44 ∧ zv_f h 0 6 = zv_i h 14 ∧ (¬ zv_i h 44 = 0 → zk_tK (zk_of h) = zv_i h 45 ∧ zk_tN (zk_of h) = zv_l h 46 ∧ zv_f h 34 9 = zv_i h 47 ∧ zv_f h 34 10 = zv_i h 48 ∧ zv_fl h 34 13 = zv_i h 49)
def zn_Q (h : zx_H) : Prop := zn_O h ∧ zn_Y h
def zn_sy (W : List (Nat × Nat)) : Bool := za_in W 34 14 || za_in W 44 41 || za_in W 34 7 || za_in W 44 44 || za_in W 36 1 || za_in W 37 0 || za_in W 38 0 || za_in W 41 2 || za_in W 42 0 || za_in W 43 0 || za_in W 34 9 || za_in W 34 8 || za_in W 34 11 || za_in W 34 12 || za_in W 34 13 || za_in W 34 10 || za_in W 44 45 || za_in W 44 46 || za_in W 44 47 || za_in W 44 48 || za_in W 44 49 || za_in W 0 6 || za_in W 44 14
theorem zn_Y.w {W : List (Nat × Nat)} {h h' : zx_H} (a : zn_Y h) (w : zb_W W h h') (e : zn_sy W = false) : zn_Y h' := by
  unfold zn_sy at e
  simp only [Bool.or_eq_false_iff] at e
  obtain ⟨⟨⟨⟨⟨⟨⟨⟨⟨⟨⟨⟨⟨⟨⟨⟨⟨⟨⟨⟨⟨⟨e1, e2⟩, e3⟩, e4⟩, e5⟩, e6⟩, e7⟩, e8⟩, e9⟩, e10⟩, e11⟩, e12⟩, e13⟩, e14⟩, e15⟩, e16⟩, e17⟩, e18⟩, e19⟩, e20⟩, e21⟩, e22⟩, e23⟩ := e
  unfold zn_Y
  rw [zk_of_w w (by simp only [e5, e6, e7, e8, e9, e10, e11, e12, e13, e14, e15, e1, Bool.or_self])]
  rw [zv_wf w e1, zv_wi w e2, zv_wf w e3, zv_wi w e4, zv_wf w e11, zv_wfl w e15, zv_wf w e16, zv_wi w e17, zv_wl w e18, zv_wi w e19, zv_wi w e20, zv_wi w e21, zv_wf w e22, zv_wi w e23]
  exact a
def zn_sq (W : List (Nat × Nat)) : Bool := zn_sb W || zn_sr W || zn_sx W || zn_sy W
theorem zn_Q.w {W : List (Nat × Nat)} {h h' : zx_H} (a : zn_Q h) (i : zb_I zc_H h') (w : zb_W W h h') (e : zn_sq W = false) : zn_Q h' := by
  unfold zn_sq at e
  simp only [Bool.or_eq_false_iff] at e
  obtain ⟨⟨⟨e1, e2⟩, e3⟩, e4⟩ := e
  exact ⟨⟨⟨a.1.1.1.w i w e1, a.1.1.2.w w e2⟩, a.1.2.w w e3⟩, a.2.w w e4⟩

theorem zn_kQ {k : za_K} (hK : zb_K zp_P zc_H k) {q : zx_M} (hq : (zx_pm zp_P)[k.1]? = some q) (st : zn_sq k.2.2.2.2 = false) (hi : zn_i k = true) {vs : List Value} {h : zx_H} (hL : zn_Q h) (ha : zb_A zb_T vs k.2.2.1) : zx_T zp_P k.2.1 q 0 (lv_args 0 vs) [] h (fun r h1 => (∃ v, r = some (.int v)) ∧ zn_Q h1) :=
  (hK q hq vs h ha hL.1.1.1.1).im fun r h' ⟨h1, h2, _, c, h4, h5, _⟩ => by
    refine ⟨?_, hL.w h1 h2 st⟩
    have h6 := List.all_eq_true.mp hi c h4
    split at h6
    · next z e =>
      rw [e] at h5
      cases r with
      | none => exact h5.elim
      | some v => obtain ⟨x, rfl, _⟩ := h5; exact ⟨x, rfl⟩
    · cases h6

theorem zn_klQ {k : za_K} (hK : zb_K zp_P zc_H k) {q : zx_M} (hq : (zx_pm zp_P)[k.1]? = some q) (st : zn_sq k.2.2.2.2 = false) (hi : zn_l k = true) {vs : List Value} {h : zx_H} (hL : zn_Q h) (ha : zb_A zb_T vs k.2.2.1) : zx_T zp_P k.2.1 q 0 (lv_args 0 vs) [] h (fun r h1 => (∃ v, r = some (.long v)) ∧ zn_Q h1) :=
  (hK q hq vs h ha hL.1.1.1.1).im fun r h' ⟨h1, h2, _, c, h4, h5, _⟩ => by
    refine ⟨?_, hL.w h1 h2 st⟩
    have h6 := List.all_eq_true.mp hi c h4
    split at h6
    · next z e =>
      rw [e] at h5
      cases r with
      | none => exact h5.elim
      | some v => obtain ⟨x, rfl⟩ := h5; exact ⟨x, rfl⟩
    · cases h6

theorem zQ_judge {h : zx_H} (hL : zn_Q h) : zx_T zp_P 5 zp_m186 0 (lv_args 0 [.ref 44]) [] h (fun r h1 => (∃ v, r = some (.int v)) ∧ zn_Q h1) :=
  (zm_judge hL.1.1.1.1 hL.1.1.1.2.1 hL.1.1.1.2.2.2.2.1).im fun r h1 ⟨i1, w1, e, r1, x⟩ => ⟨⟨_, r1⟩, hL.w i1 w1 rfl⟩
theorem zQ_packed {h : zx_H} (hL : zn_Q h) : zx_T zp_P 3 zp_m194 0 (lv_args 0 [.ref 44]) [] h (fun r h1 => (∃ v, r = some (.int v)) ∧ zn_Q h1) :=
  (zm_packed hL.1.1.1.1).im fun r h1 ⟨i1, w1, e, r1, x⟩ => ⟨⟨_, r1⟩, hL.w i1 w1 rfl⟩

set_option maxRecDepth 100000 in
theorem zQ_c_frame {h : zx_H} (hL : zn_Q h) (x0 : Int32) (x1 : Int32) : zx_T zp_P 5 zp_m143 0 (lv_args 0 [.ref 0, .int x0, .int x1]) [] h (fun r h1 => (∃ v, r = some (.int v)) ∧ zn_Q h1) :=
  zn_kQ (k := zc_a86) zc_ao86 (q := zp_m143) rfl rfl rfl hL ⟨rfl, zn_ti x0, zn_ti x1, trivial⟩

set_option maxRecDepth 100000 in
theorem zQ_c_plant {h : zx_H} (hL : zn_Q h) (x0 : Int32) (x1 : Int32) (x2 : Int32) : zx_T zp_P 5 zp_m144 0 (lv_args 0 [.ref 0, .int x0, .int x1, .int x2]) [] h (fun r h1 => (∃ v, r = some (.int v)) ∧ zn_Q h1) :=
  zn_kQ (k := zc_a89) zc_ao89 (q := zp_m144) rfl rfl rfl hL ⟨rfl, zn_ti x0, zn_ti x1, zn_ti x2, trivial⟩

set_option maxRecDepth 100000 in
theorem zQ_c_judge {h : zx_H} (hL : zn_Q h)  : zx_T zp_P 7 zp_m145 0 (lv_args 0 [.ref 0]) [] h (fun r h1 => (∃ v, r = some (.int v)) ∧ zn_Q h1) :=
  zn_kQ (k := zc_a127) zc_ao127 (q := zp_m145) rfl rfl rfl hL ⟨rfl, trivial⟩

set_option maxRecDepth 100000 in
theorem zQ_c_packed {h : zx_H} (hL : zn_Q h)  : zx_T zp_P 6 zp_m146 0 (lv_args 0 [.ref 0]) [] h (fun r h1 => (∃ v, r = some (.int v)) ∧ zn_Q h1) :=
  zn_kQ (k := zc_a148) zc_ao148 (q := zp_m146) rfl rfl rfl hL ⟨rfl, trivial⟩

set_option maxRecDepth 100000 in
theorem zQ_m_frame {h : zx_H} (hL : zn_Q h) (x0 : Int32) (x1 : Int32) : zx_T zp_P 1 zp_m202 0 (lv_args 0 [.ref 44, .int x0, .int x1]) [] h (fun r h1 => (∃ v, r = some (.int v)) ∧ zn_Q h1) :=
  zn_kQ (k := zc_b22) zc_bo22 (q := zp_m202) rfl rfl rfl hL ⟨rfl, zn_ti x0, zn_ti x1, trivial⟩

set_option maxRecDepth 100000 in
theorem zQ_m_plant {h : zx_H} (hL : zn_Q h) (x0 : Int32) (x1 : Int32) (x2 : Int32) : zx_T zp_P 1 zp_m203 0 (lv_args 0 [.ref 44, .int x0, .int x1, .int x2]) [] h (fun r h1 => (∃ v, r = some (.int v)) ∧ zn_Q h1) :=
  zn_kQ (k := zc_b25) zc_bo25 (q := zp_m203) rfl rfl rfl hL ⟨rfl, zn_ti x0, zn_ti x1, zn_ti x2, trivial⟩

set_option maxRecDepth 100000 in
theorem zQ_m_out {h : zx_H} (hL : zn_Q h) (x0 : Int32) : zx_T zp_P 0 zp_m195 0 (lv_args 0 [.ref 44, .int x0]) [] h (fun r h1 => (∃ v, r = some (.int v)) ∧ zn_Q h1) :=
  zn_kQ (k := zc_b9) zc_bo9 (q := zp_m195) rfl rfl rfl hL ⟨rfl, zn_ti x0, trivial⟩

theorem zQ_p_operation {h h1 h2 : zx_H} {o a b e1 e2 : Int} (N : zn_Q h) (i1 : zb_I zc_H h1) (i2 : zb_I zc_H h2) (w1 : zb_W [(2, 0), (3, 0), (4, 0), (1, 3), (16, 4)] h h1) (w2 : zb_W [(44, 0), (44, 1), (45, 0), (46, 0), (47, 0), (44, 13)] h1 h2) (x1 : (zs_opn o a e1 (zv_f h 1 3) (zv_f h1 1 3)) ∧ (zs_ad ((0 ≤ o ∧ o ≤ 28 ∧ (o = 21 → 5 ≤ a ∧ a ≤ 8)) ∧ zv_f h 1 3 < 60) (zv_f h 1 3) o (zv_a h 2) (zv_a h1 2) ∧ zs_ad ((0 ≤ o ∧ o ≤ 28 ∧ (o = 21 → 5 ≤ a ∧ a ≤ 8)) ∧ zv_f h 1 3 < 60) (zv_f h 1 3) a (zv_a h 3) (zv_a h1 3) ∧ zs_ad ((0 ≤ o ∧ o ≤ 28 ∧ (o = 21 → 5 ≤ a ∧ a ≤ 8)) ∧ zv_f h 1 3 < 60) (zv_f h 1 3) b (zv_a h 4) (zv_a h1 4) ∧ (((0 ≤ o ∧ o ≤ 28 ∧ (o = 21 → 5 ≤ a ∧ a ≤ 8)) ∧ zv_f h 1 3 < 60) → zv_f h1 16 4 = 0) ∧ (¬ ((0 ≤ o ∧ o ≤ 28 ∧ (o = 21 → 5 ≤ a ∧ a ≤ 8)) ∧ zv_f h 1 3 < 60) → zv_f h1 16 4 = zv_f h 16 4))) (x2 : (zs_opn o a e2 (zv_i h1 1) (zv_i h2 1) ∧ (zv_i h2 13 = 0 ∨ (zv_i h2 13 = zv_i h1 13 ∧ zv_i h2 1 = zv_i h1 1 ∧ ∀ j, 0 ≤ j → zv_a h2 45 j = zv_a h1 45 j ∧ zv_a h2 46 j = zv_a h1 46 j ∧ zv_a h2 47 j = zv_a h1 47 j)) ∧ (zg_CI h1 → zg_CI h2)) ∧ (zs_ad ((0 ≤ o ∧ o ≤ 28 ∧ (o = 21 → 5 ≤ a ∧ a ≤ 8)) ∧ zv_i h1 1 < 60) (zv_i h1 1) o (zv_a h1 45) (zv_a h2 45) ∧ zs_ad ((0 ≤ o ∧ o ≤ 28 ∧ (o = 21 → 5 ≤ a ∧ a ≤ 8)) ∧ zv_i h1 1 < 60) (zv_i h1 1) a (zv_a h1 46) (zv_a h2 46) ∧ zs_ad ((0 ≤ o ∧ o ≤ 28 ∧ (o = 21 → 5 ≤ a ∧ a ≤ 8)) ∧ zv_i h1 1 < 60) (zv_i h1 1) b (zv_a h1 47) (zv_a h2 47) ∧ (((0 ≤ o ∧ o ≤ 28 ∧ (o = 21 → 5 ≤ a ∧ a ≤ 8)) ∧ zv_i h1 1 < 60) → zv_i h2 13 = 0) ∧ (¬ ((0 ≤ o ∧ o ≤ 28 ∧ (o = 21 → 5 ≤ a ∧ a ≤ 8)) ∧ zv_i h1 1 < 60) → zv_i h2 13 = zv_i h1 13))) : zn_Q h2 ∧ e1 = e2 := by
  obtain ⟨a, ee⟩ := zN_p_operation N.1 i1 i2 w1 w2 x1 x2
  exact ⟨⟨a, (N.2.w w1 rfl).w w2 rfl⟩, ee⟩

theorem zQ_p_handler {h h1 h2 : zx_H} {f t p k e1 e2 : Int} (N : zn_Q h) (i1 : zb_I zc_H h1) (i2 : zb_I zc_H h2) (w1 : zb_W [(5, 0), (6, 0), (7, 0), (8, 0), (1, 8), (16, 4)] h h1) (w2 : zb_W [(44, 0), (44, 5), (48, 0), (49, 0), (50, 0), (51, 0), (44, 13)] h1 h2) (x1 : (zs_hnd f t p k e1 (zv_f h 1 8) (zv_f h1 1 8)) ∧ (zs_ad ((0 ≤ f ∧ f ≤ 60 ∧ 0 ≤ t ∧ t ≤ 60 ∧ 0 ≤ p ∧ p ≤ 60 ∧ 7 ≤ k ∧ k ≤ 8) ∧ zv_f h 1 8 < 6) (zv_f h 1 8) f (zv_a h 5) (zv_a h1 5) ∧ zs_ad ((0 ≤ f ∧ f ≤ 60 ∧ 0 ≤ t ∧ t ≤ 60 ∧ 0 ≤ p ∧ p ≤ 60 ∧ 7 ≤ k ∧ k ≤ 8) ∧ zv_f h 1 8 < 6) (zv_f h 1 8) t (zv_a h 6) (zv_a h1 6) ∧ zs_ad ((0 ≤ f ∧ f ≤ 60 ∧ 0 ≤ t ∧ t ≤ 60 ∧ 0 ≤ p ∧ p ≤ 60 ∧ 7 ≤ k ∧ k ≤ 8) ∧ zv_f h 1 8 < 6) (zv_f h 1 8) p (zv_a h 7) (zv_a h1 7) ∧ zs_ad ((0 ≤ f ∧ f ≤ 60 ∧ 0 ≤ t ∧ t ≤ 60 ∧ 0 ≤ p ∧ p ≤ 60 ∧ 7 ≤ k ∧ k ≤ 8) ∧ zv_f h 1 8 < 6) (zv_f h 1 8) k (zv_a h 8) (zv_a h1 8) ∧ (((0 ≤ f ∧ f ≤ 60 ∧ 0 ≤ t ∧ t ≤ 60 ∧ 0 ≤ p ∧ p ≤ 60 ∧ 7 ≤ k ∧ k ≤ 8) ∧ zv_f h 1 8 < 6) → zv_f h1 16 4 = 0) ∧ (¬ ((0 ≤ f ∧ f ≤ 60 ∧ 0 ≤ t ∧ t ≤ 60 ∧ 0 ≤ p ∧ p ≤ 60 ∧ 7 ≤ k ∧ k ≤ 8) ∧ zv_f h 1 8 < 6) → zv_f h1 16 4 = zv_f h 16 4))) (x2 : (zs_hnd f t p k e2 (zv_i h1 5) (zv_i h2 5) ∧ (zv_i h2 13 = 0 ∨ (zv_i h2 13 = zv_i h1 13 ∧ zv_i h2 5 = zv_i h1 5 ∧ ∀ j, 0 ≤ j → zv_a h2 48 j = zv_a h1 48 j ∧ zv_a h2 49 j = zv_a h1 49 j ∧ zv_a h2 50 j = zv_a h1 50 j)) ∧ (zg_TI h1 → zg_TI h2)) ∧ (zs_ad ((0 ≤ f ∧ f ≤ 60 ∧ 0 ≤ t ∧ t ≤ 60 ∧ 0 ≤ p ∧ p ≤ 60 ∧ 7 ≤ k ∧ k ≤ 8) ∧ zv_i h1 5 < 6) (zv_i h1 5) f (zv_a h1 48) (zv_a h2 48) ∧ zs_ad ((0 ≤ f ∧ f ≤ 60 ∧ 0 ≤ t ∧ t ≤ 60 ∧ 0 ≤ p ∧ p ≤ 60 ∧ 7 ≤ k ∧ k ≤ 8) ∧ zv_i h1 5 < 6) (zv_i h1 5) t (zv_a h1 49) (zv_a h2 49) ∧ zs_ad ((0 ≤ f ∧ f ≤ 60 ∧ 0 ≤ t ∧ t ≤ 60 ∧ 0 ≤ p ∧ p ≤ 60 ∧ 7 ≤ k ∧ k ≤ 8) ∧ zv_i h1 5 < 6) (zv_i h1 5) p (zv_a h1 50) (zv_a h2 50) ∧ zs_ad ((0 ≤ f ∧ f ≤ 60 ∧ 0 ≤ t ∧ t ≤ 60 ∧ 0 ≤ p ∧ p ≤ 60 ∧ 7 ≤ k ∧ k ≤ 8) ∧ zv_i h1 5 < 6) (zv_i h1 5) k (zv_a h1 51) (zv_a h2 51) ∧ (((0 ≤ f ∧ f ≤ 60 ∧ 0 ≤ t ∧ t ≤ 60 ∧ 0 ≤ p ∧ p ≤ 60 ∧ 7 ≤ k ∧ k ≤ 8) ∧ zv_i h1 5 < 6) → zv_i h2 13 = 0) ∧ (¬ ((0 ≤ f ∧ f ≤ 60 ∧ 0 ≤ t ∧ t ≤ 60 ∧ 0 ≤ p ∧ p ≤ 60 ∧ 7 ≤ k ∧ k ≤ 8) ∧ zv_i h1 5 < 6) → zv_i h2 13 = zv_i h1 13))) : zn_Q h2 ∧ e1 = e2 := by
  obtain ⟨a, ee⟩ := zN_p_handler N.1 i1 i2 w1 w2 x1 x2
  exact ⟨⟨a, (N.2.w w1 rfl).w w2 rfl⟩, ee⟩

theorem zQ_p_parameter {h h1 h2 : zx_H} {c e1 e2 : Int} (N : zn_Q h) (i1 : zb_I zc_H h1) (i2 : zb_I zc_H h2) (w1 : zb_W [(9, 0), (1, 10), (16, 4)] h h1) (w2 : zb_W [(44, 0), (44, 10), (52, 0), (44, 13)] h1 h2) (x1 : (zs_par c e1 (zv_f h 1 10) (zv_f h1 1 10)) ∧ (zs_a2 ((c = 1 ∨ c = 2 ∨ (5 ≤ c ∧ c ≤ 8)) ∧ ((c = 2 ∧ zv_f h 1 10 + 2 ≤ 8) ∨ (¬ c = 2 ∧ zv_f h 1 10 + 1 ≤ 8))) (zv_f h 1 10) c (zv_a h 9) (zv_a h1 9) ∧ (((c = 1 ∨ c = 2 ∨ (5 ≤ c ∧ c ≤ 8)) ∧ ((c = 2 ∧ zv_f h 1 10 + 2 ≤ 8) ∨ (¬ c = 2 ∧ zv_f h 1 10 + 1 ≤ 8))) → zv_f h1 16 4 = 0) ∧ (¬ ((c = 1 ∨ c = 2 ∨ (5 ≤ c ∧ c ≤ 8)) ∧ ((c = 2 ∧ zv_f h 1 10 + 2 ≤ 8) ∨ (¬ c = 2 ∧ zv_f h 1 10 + 1 ≤ 8))) → zv_f h1 16 4 = zv_f h 16 4))) (x2 : (zs_par c e2 (zv_i h1 10) (zv_i h2 10) ∧ (zv_i h2 13 = 0 ∨ zv_i h2 13 = zv_i h1 13)) ∧ (zs_a2 ((c = 1 ∨ c = 2 ∨ (5 ≤ c ∧ c ≤ 8)) ∧ ((c = 2 ∧ zv_i h1 10 + 2 ≤ 8) ∨ (¬ c = 2 ∧ zv_i h1 10 + 1 ≤ 8))) (zv_i h1 10) c (zv_a h1 52) (zv_a h2 52) ∧ (((c = 1 ∨ c = 2 ∨ (5 ≤ c ∧ c ≤ 8)) ∧ ((c = 2 ∧ zv_i h1 10 + 2 ≤ 8) ∨ (¬ c = 2 ∧ zv_i h1 10 + 1 ≤ 8))) → zv_i h2 13 = 0) ∧ (¬ ((c = 1 ∨ c = 2 ∨ (5 ≤ c ∧ c ≤ 8)) ∧ ((c = 2 ∧ zv_i h1 10 + 2 ≤ 8) ∨ (¬ c = 2 ∧ zv_i h1 10 + 1 ≤ 8))) → zv_i h2 13 = zv_i h1 13))) : zn_Q h2 ∧ e1 = e2 := by
  obtain ⟨a, ee⟩ := zN_p_parameter N.1 i1 i2 w1 w2 x1 x2
  exact ⟨⟨a, (N.2.w w1 rfl).w w2 rfl⟩, ee⟩

theorem zQ_p_clear {h h1 h2 : zx_H} {e1 e2 : Int} (N : zn_Q h) (i1 : zb_I zc_H h1) (i2 : zb_I zc_H h2) (w1 : zb_W [(1, 3), (1, 8), (1, 10), (16, 4)] h h1) (w2 : zb_W [(44, 0), (44, 1), (44, 5), (44, 10), (44, 13)] h1 h2) (x1 : (e1 = zv_f h 1 3 ∧ zv_f h1 1 3 = 0 ∧ zv_f h1 1 8 = 0 ∧ zv_f h1 1 10 = 0) ∧ (zv_f h1 16 4 = 0)) (x2 : (e2 = zv_i h1 1 ∧ zv_i h2 1 = 0 ∧ zv_i h2 5 = 0 ∧ zv_i h2 10 = 0 ∧ zv_i h2 13 = 0) ∧ (True)) : zn_Q h2 ∧ e1 = e2 := by
  obtain ⟨a, ee⟩ := zN_p_clear N.1 i1 i2 w1 w2 x1 x2
  exact ⟨⟨a, (N.2.w w1 rfl).w w2 rfl⟩, ee⟩

theorem zQ_p_argument {h h1 h2 : zx_H} {i v e1 e2 : Int} (N : zn_Q h) (i1 : zb_I zc_H h1) (i2 : zb_I zc_H h2) (w1 : zb_W [(35, 0)] h h1) (w2 : zb_W [(44, 0), (53, 0)] h1 h2) (x1 : zs_arg i v e1 (zv_b h 35) (zv_b h1 35)) (x2 : zs_arg i v e2 (zv_b h1 53) (zv_b h2 53)) : zn_Q h2 ∧ e1 = e2 := by
  obtain ⟨a, ee⟩ := zN_p_argument N.1 i1 i2 w1 w2 x1 x2
  exact ⟨⟨a, (N.2.w w1 rfl).w w2 rfl⟩, ee⟩

theorem zQ_p_kind {h h1 h2 : zx_H} {p i e1 e2 : Int} (N : zn_Q h) (i1 : zb_I zc_H h1) (i2 : zb_I zc_H h2) (w1 : zb_W [] h h1) (w2 : zb_W [(44, 0)] h1 h2) (x1 : (¬ (0 ≤ p ∧ p < zv_f h 1 3) ∧ e1 = -2) ∨ ((0 ≤ p ∧ p < zv_f h 1 3) ∧ zv_f h 16 4 = 0 ∧ e1 = -3) ∨ ((0 ≤ p ∧ p < zv_f h 1 3) ∧ ¬ zv_f h 16 4 = 0 ∧ (¬ zv_a h 19 p = -1 ∧ 0 ≤ i ∧ i < 8 + zv_a h 19 p) ∧ e1 = zv_a h 18 (14 * p + i)) ∨ ((0 ≤ p ∧ p < zv_f h 1 3) ∧ ¬ zv_f h 16 4 = 0 ∧ ¬ (¬ zv_a h 19 p = -1 ∧ 0 ≤ i ∧ i < 8 + zv_a h 19 p) ∧ e1 = -1)) (x2 : (¬ (0 ≤ p ∧ p < zv_i h1 1) ∧ e2 = -2) ∨ ((0 ≤ p ∧ p < zv_i h1 1) ∧ zv_i h1 13 = 0 ∧ e2 = -3) ∨ ((0 ≤ p ∧ p < zv_i h1 1) ∧ ¬ zv_i h1 13 = 0 ∧ (zv_a h1 54 p = 1 ∧ 0 ≤ i ∧ i < 8 + zv_a h1 56 p) ∧ e2 = zv_a h1 55 (14 * p + i)) ∨ ((0 ≤ p ∧ p < zv_i h1 1) ∧ ¬ zv_i h1 13 = 0 ∧ ¬ (zv_a h1 54 p = 1 ∧ 0 ≤ i ∧ i < 8 + zv_a h1 56 p) ∧ e2 = -1)) : zn_Q h2 ∧ e1 = e2 := by
  obtain ⟨a, ee⟩ := zN_p_kind N.1 i1 i2 w1 w2 x1 x2
  exact ⟨⟨a, (N.2.w w1 rfl).w w2 rfl⟩, ee⟩

theorem zQ_p_size {h h1 h2 : zx_H} {p e1 e2 : Int} (N : zn_Q h) (i1 : zb_I zc_H h1) (i2 : zb_I zc_H h2) (w1 : zb_W [] h h1) (w2 : zb_W [(44, 0)] h1 h2) (x1 : (¬ (0 ≤ p ∧ p < zv_f h 1 3) ∧ e1 = -2) ∨ ((0 ≤ p ∧ p < zv_f h 1 3) ∧ zv_f h 16 4 = 0 ∧ e1 = -3) ∨ ((0 ≤ p ∧ p < zv_f h 1 3) ∧ ¬ zv_f h 16 4 = 0 ∧ ¬ zv_a h 19 p = -1 ∧ e1 = zv_a h 19 p) ∨ ((0 ≤ p ∧ p < zv_f h 1 3) ∧ ¬ zv_f h 16 4 = 0 ∧ ¬ (¬ zv_a h 19 p = -1) ∧ e1 = -1)) (x2 : (¬ (0 ≤ p ∧ p < zv_i h1 1) ∧ e2 = -2) ∨ ((0 ≤ p ∧ p < zv_i h1 1) ∧ zv_i h1 13 = 0 ∧ e2 = -3) ∨ ((0 ≤ p ∧ p < zv_i h1 1) ∧ ¬ zv_i h1 13 = 0 ∧ zv_a h1 54 p = 1 ∧ e2 = zv_a h1 56 p) ∨ ((0 ≤ p ∧ p < zv_i h1 1) ∧ ¬ zv_i h1 13 = 0 ∧ ¬ (zv_a h1 54 p = 1) ∧ e2 = -1)) : zn_Q h2 ∧ e1 = e2 := by
  obtain ⟨a, ee⟩ := zN_p_size N.1 i1 i2 w1 w2 x1 x2
  exact ⟨⟨a, (N.2.w w1 rfl).w w2 rfl⟩, ee⟩

theorem zQ_p_count {h h1 h2 : zx_H} {w e1 e2 : Int} (N : zn_Q h) (i1 : zb_I zc_H h1) (i2 : zb_I zc_H h2) (w1 : zb_W [] h h1) (w2 : zb_W [(44, 0)] h1 h2) (x1 : (w = 0 ∧ e1 = zv_f h 1 3) ∨ (w = 1 ∧ e1 = zv_f h 1 8) ∨ (w = 2 ∧ e1 = zv_f h 1 10) ∨ (w = 3 ∧ ((zv_f h 16 4 = 0 ∧ e1 = 0) ∨ (¬ zv_f h 16 4 = 0 ∧ e1 = zv_f h 10 3))) ∨ (w = 4 ∧ ((zv_f h 16 4 = 0 ∧ e1 = 0) ∨ (¬ zv_f h 16 4 = 0 ∧ e1 = zs_cn (fun p => zv_a h 19 p = -1) (zv_f h 1 3).toNat))) ∨ (w = 5 ∧ e1 = zv_f h 16 6) ∨ (¬ (0 ≤ w ∧ w ≤ 5) ∧ e1 = -2)) (x2 : (w = 0 ∧ e2 = zv_i h1 1) ∨ (w = 1 ∧ e2 = zv_i h1 5) ∨ (w = 2 ∧ e2 = zv_i h1 10) ∨ (w = 3 ∧ ((zv_i h1 13 = 0 ∧ e2 = 0) ∨ (¬ zv_i h1 13 = 0 ∧ e2 = zv_i h1 19))) ∨ (w = 4 ∧ ((zv_i h1 13 = 0 ∧ e2 = 0) ∨ (¬ zv_i h1 13 = 0 ∧ e2 = zs_cn (fun p => ¬ zv_a h1 54 p = 1) (zv_i h1 1).toNat))) ∨ (w = 5 ∧ e2 = zv_i h1 15) ∨ (¬ (0 ≤ w ∧ w ≤ 5) ∧ e2 = -2)) : zn_Q h2 ∧ e1 = e2 := by
  obtain ⟨a, ee⟩ := zN_p_count N.1 i1 i2 w1 w2 x1 x2
  exact ⟨⟨a, (N.2.w w1 rfl).w w2 rfl⟩, ee⟩

theorem zQ_p_make {h h1 h2 : zx_H} {e1 e2 : Int} (N : zn_Q h) (i1 : zb_I zc_H h1) (i2 : zb_I zc_H h2) (w1 : zb_W [(0, 6), (16, 4), (16, 5), (16, 6), (10, 3), (19, 0), (20, 1), (21, 0), (18, 0), (16, 7), (14, 0), (15, 0), (12, 0), (13, 0)] h h1) (w2 : zb_W [(44, 0), (44, 13), (44, 14), (44, 15), (44, 19), (54, 0), (44, 27), (56, 0), (55, 0), (63, 0), (44, 25), (61, 0), (62, 0), (44, 26), (57, 0), (58, 0), (59, 0), (60, 0)] h1 h2) (x1 : zc_M h1 (zr_Pg h) e1) (x2 : (zg_KI h2 ∧ (zv_i h2 13 = 1 → zg_C h2)) ∧ zr_M h2 (zr_Pg h) e2) : zn_Q h2 ∧ e1 = e2 := by
  obtain ⟨a, ee⟩ := zN_p_make N.1 i1 i2 w1 w2 x1 x2
  refine ⟨⟨a, ?_⟩, ee⟩
  obtain ⟨y1, y2, y3, y4, y5⟩ := N.2
  have f1 : zv_f h2 0 6 = zv_f h1 0 6 := zv_wf w2 rfl
  have ff : zv_f h1 0 6 = zv_i h2 14 := by
    rcases x1 with z | z | z
    · rcases x2.2 with y | y | y
      · omega
      · omega
      · omega
    · rcases x2.2 with y | y | y
      · omega
      · rw [z.2.2.2.1, y.2.2.2.1]
      · exact absurd y.2.1 z.2.1
    · rcases x2.2 with y | y | y
      · omega
      · exact absurd z.2.1 y.2.1
      · omega
  unfold zn_Y
  rw [zk_of_w w2 rfl, zk_of_w w1 rfl, f1, ff]
  refine ⟨by rw [zv_wf w2 rfl, zv_wf w1 rfl, zv_wi w2 rfl, zv_wi w1 rfl]; exact y1, by rw [zv_wf w2 rfl, zv_wf w1 rfl]; exact y2, by rw [zv_wf w2 rfl, zv_wf w1 rfl, zv_wi w2 rfl, zv_wi w1 rfl]; exact y3, rfl, fun z => ?_⟩
  rw [zv_wi w2 rfl, zv_wi w1 rfl] at z
  rw [zv_wi w2 rfl, zv_wi w1 rfl, zv_wl w2 rfl, zv_wl w1 rfl, zv_wf w2 rfl, zv_wf w1 rfl, zv_wi w2 (k := 47) rfl, zv_wi w1 (k := 47) rfl, zv_wf w2 rfl, zv_wf w1 rfl, zv_wi w2 (k := 48) rfl, zv_wi w1 (k := 48) rfl, zv_wfl w2 rfl, zv_wfl w1 rfl, zv_wi w2 (k := 49) rfl, zv_wi w1 (k := 49) rfl]
  exact y5 z

theorem zv_exb {h h' : zx_H} {a b : Nat} (e : ∀ j, 0 ≤ j → zv_b h a j = zv_b h' b j) : zv_b h a = zv_b h' b := funext (fun j => by
  by_cases c : 0 ≤ j
  · exact e j c
  · have n : ∀ (g : zx_H) (a : Nat), zv_b g a j = zv_b g a 0 := fun g a => by unfold zv_b; rw [show j.toNat = (0 : Int).toNat by omega]
    rw [n h a, n h' b]; exact e 0 (by decide))
theorem zQ_c_run {h : zx_H} (N : zn_Q h) (x0 : Int32) : zx_T zp_P 8 zp_m149 0 (lv_args 0 [.ref 0, .int x0]) [] h (zr_R [(34, 7), (34, 8), (34, 9), (34, 10), (34, 11), (34, 12), (34, 13), (34, 14), (36, 1), (37, 0), (38, 0), (39, 0), (40, 0), (41, 2), (42, 0), (43, 0), (0, 6)] h (fun e h' => ((x0.toInt < 0 ∨ 300 < x0.toInt) ∧ e = -2 ∧ h = h') ∨ ((0 ≤ x0.toInt ∧ x0.toInt ≤ 300) ∧ 1000 ≤ zv_f h 34 14 ∧ e = -4 ∧ h = h') ∨ ((0 ≤ x0.toInt ∧ x0.toInt ≤ 300) ∧ zv_f h 34 14 < 1000 ∧ zv_f h' 0 6 = zv_f h' 34 12 ∧ ((zv_f h' 34 12 = 0 ∧ e = zv_f h' 34 11) ∨ (¬ zv_f h' 34 12 = 0 ∧ e = -10 - zv_f h' 34 9)) ∧ ∃ u0, zk_bf h u0 ∧ zk_go (zk_st (zc_Pg h)) u0 (zk_of h') (zv_f h' 34 10) ∧ zv_f h' 34 10 ≤ x0.toInt ∧ (zv_f h' 34 8 = 1 ∨ zv_f h' 34 10 = x0.toInt) ∧ zv_f h' 34 7 = 1 ∧ (0 ≤ zv_f h' 34 14 ∧ zv_f h' 34 14 ≤ 1300) ∧ (-1) ≤ zv_f h' 34 9 ∧ zv_f h' 34 9 ≤ 60))) := by
  have z := zm_cRunX N.1.1.1.1 (m := x0.toInt) (zn_r x0).1 (zn_r x0).2 (by rw [N.1.2.1]; exact N.1.2.2.1) N.2.2.1
  simp only [zI, Int32.ofInt_toInt] at z
  exact z
theorem zQ_m_run {h h1 : zx_H} (N : zn_Q h) (i1 : zb_I zc_H h1) (w1 : zb_W [(34, 7), (34, 8), (34, 9), (34, 10), (34, 11), (34, 12), (34, 13), (34, 14), (36, 1), (37, 0), (38, 0), (39, 0), (40, 0), (41, 2), (42, 0), (43, 0), (0, 6)] h h1) (x0 : Int32) : zx_T zp_P 8 zp_m217 0 (lv_args 0 [.ref 44, .int x0]) [] h1 (zr_R [(44, 0), (44, 44), (44, 45), (44, 46), (44, 48), (44, 47), (70, 0), (44, 26), (44, 25), (61, 0), (69, 0), (44, 50), (44, 14), (44, 42), (44, 43), (44, 49), (44, 41), (44, 38), (71, 0), (72, 0)] h1 (fun e h' => ((x0.toInt < 0 ∨ 300 < x0.toInt) ∧ e = -2 ∧ zb_W [(44, 0)] h1 h') ∨ ((0 ≤ x0.toInt ∧ x0.toInt ≤ 300) ∧ 1000 ≤ zv_i h1 41 ∧ e = -4 ∧ zb_W [(44, 0)] h1 h') ∨ ((0 ≤ x0.toInt ∧ x0.toInt ≤ 300) ∧ zv_i h1 41 < 1000 ∧ zv_i h1 1 = 0 ∧ e = -9 ∧ zv_i h' 14 = 6 ∧ zv_i h' 44 = 1 ∧ zv_i h' 45 = -1 ∧ zv_l h' 46 = 0 ∧ zv_i h' 48 = 0 ∧ zv_i h' 49 = 0 ∧ zv_i h' 47 = -1 ∧ zv_i h' 41 = zv_i h1 41) ∨ ((0 ≤ x0.toInt ∧ x0.toInt ≤ 300) ∧ zv_i h1 41 < 1000 ∧ 0 < zv_i h1 1 ∧ zv_i h' 44 = 1 ∧ ∃ v0 v q, zf_bf h1 v0 ∧ zk_gl (zf_st (zr_Pg h1)) v0 v (zv_i h' 48) q ∧ zv_i h' 48 ≤ x0.toInt ∧ zv_i h' 14 = v.f ∧ zv_i h' 49 = v.c ∧ zv_i h' 41 = v.r ∧ ((v.e = 1 ∧ e = v.o ∧ (1 ≤ zv_i h' 48 → zv_i h' 47 = q) ∧ zv_i h' 45 = zf_tK v ∧ zv_l h' 46 = zf_tN v) ∨ (v.e = 0 ∧ zv_i h' 48 = x0.toInt ∧ e = 2 ∧ zv_i h' 47 = v.p ∧ zv_i h' 45 = -1 ∧ zv_l h' 46 = 0))))) := by
  have z := zm_runX i1 (m := x0.toInt) (zn_r x0).1 (zn_r x0).2 (N.1.1.1.2.1.w w1 rfl rfl) (by rw [zv_wi w1 rfl]; exact N.1.1.1.2.2.2.2.2)
  simp only [zI, Int32.ofInt_toInt] at z
  exact z
theorem zQ_c_told {h : zx_H} (N : zn_Q h) (x0 : Int32) : zx_T zp_P 4 zp_m150 0 (lv_args 0 [.ref 0, .int x0]) [] h (zr_G [] h (fun e h' => e = zk_tl (zv_f h 34 7) (zk_of h) (zv_f h 34 10) x0.toInt ∧ (-9223372036854775808) ≤ e ∧ e ≤ 9223372036854775807)) := by
  have z := zm_cToldX N.1.1.1.1 (w := x0.toInt) (zn_r x0).1 (zn_r x0).2
  simp only [zI, Int32.ofInt_toInt] at z
  exact z.im fun r h' ⟨g, e, r1, x⟩ => by subst g; exact ⟨N.1.1.1.1, zb_W.rf, e, r1, x⟩
theorem zQ_m_told {h : zx_H} (hI : zb_I zc_H h) (x0 : Int32) : zx_T zp_P 0 zp_m218 0 (lv_args 0 [.ref 44, .int x0]) [] h (zr_G [(44, 0)] h (fun e h' => e = zf_tl (zv_i h 44) (zv_i h 45) (zv_l h 46) (zv_i h 47) (zv_i h 48) (zv_i h 49) x0.toInt)) := by
  have z := zm_toldX hI (w := x0.toInt) (zn_r x0).1 (zn_r x0).2
  simp only [zI, Int32.ofInt_toInt] at z
  exact z
theorem zQ_c_fault {h : zx_H} (N : zn_Q h) : zx_T zp_P 0 zp_m140 0 (lv_args 0 [.ref 0]) [] h (zr_R [] h (fun e h' => e = zv_f h 0 6)) :=
  (zm_cFaultX N.1.1.1.1).im fun r h' ⟨g, e, r1, x⟩ => by subst g; exact ⟨N.1.1.1.1, zb_W.rf, e, r1, x⟩
theorem zQ_m_fault {h : zx_H} (hI : zb_I zc_H h) : zx_T zp_P 0 zp_m199 0 (lv_args 0 [.ref 44]) [] h (zr_R [(44, 0)] h (fun e h' => e = zv_i h 14)) := zm_faultX hI
theorem zQ_p_fault {h h1 h2 : zx_H} {e1 e2 : Int} (N : zn_Q h) (i1 : zb_I zc_H h1) (i2 : zb_I zc_H h2) (w1 : zb_W [] h h1) (w2 : zb_W [(44, 0)] h1 h2) (x1 : e1 = zv_f h 0 6) (x2 : e2 = zv_i h1 14) : zn_Q h2 ∧ e1 = e2 :=
  ⟨(N.w i1 w1 rfl).w i2 w2 rfl, by rw [x1, x2, zv_wi w1 rfl]; exact N.2.2.2.2.1⟩
theorem zn_tl {h : zx_H} (N : zn_Y h) (w : Int) : zk_tl (zv_f h 34 7) (zk_of h) (zv_f h 34 10) w = zf_tl (zv_i h 44) (zv_i h 45) (zv_l h 46) (zv_i h 47) (zv_i h 48) (zv_i h 49) w := by
  obtain ⟨_, _, y3, _, y5⟩ := N
  unfold zk_tl zf_tl
  rw [y3]
  by_cases c : zv_i h 44 = 0
  · rw [if_pos c, if_pos c]
  · obtain ⟨t1, t2, t3, t4, t5⟩ := y5 c
    have t3 : (zk_of h).p = zv_i h 47 := t3
    have t5 : (zk_of h).c = zv_i h 49 := t5
    rw [if_neg c, if_neg c, t1, t2, t3, t4, t5]
theorem zQ_p_told {h h1 h2 : zx_H} {w e1 e2 : Int} (N : zn_Q h) (i1 : zb_I zc_H h1) (i2 : zb_I zc_H h2) (w1 : zb_W [] h h1) (w2 : zb_W [(44, 0)] h1 h2) (x1 : e1 = zk_tl (zv_f h 34 7) (zk_of h) (zv_f h 34 10) w ∧ (-9223372036854775808) ≤ e1 ∧ e1 ≤ 9223372036854775807) (x2 : e2 = zf_tl (zv_i h1 44) (zv_i h1 45) (zv_l h1 46) (zv_i h1 47) (zv_i h1 48) (zv_i h1 49) w) : zn_Q h2 ∧ e1 = e2 := by
  refine ⟨(N.w i1 w1 rfl).w i2 w2 rfl, ?_⟩
  have N1 := N.w i1 w1 rfl
  have z := zn_tl N1.2 w
  rw [zk_of_w w1 rfl, zv_wf w1 rfl, zv_wf w1 rfl] at z
  rw [x1.1, x2, z]

theorem zk_go.e {st : zK → zK → Prop} {u0 u : zK} {k : Int} (a : zk_go st u0 u k) (e : u0.e = 1) : k = 0 ∧ u = u0 := by
  obtain ⟨k0, s, s1, s2, s3⟩ := a
  have k1 : k = 0 := Classical.byContradiction fun c => by
    have z := (s2 0 (by omega)).1
    rw [s1] at z
    omega
  subst k1
  exact ⟨rfl, by rw [← s3, ← s1]; rfl⟩
theorem zn_Qr {W1 W2 : List (Nat × Nat)} {h h1 h2 : zx_H} (N : zn_Q h) (i2 : zb_I zc_H h2) (w1 : zb_W W1 h h1) (w2 : zb_W W2 h1 h2) (a1 : (za_in W1 45 0 || za_in W1 46 0 || za_in W1 51 0 || za_in W1 55 0 || za_in W1 44 13 || zg_in9 W1 || za_in W1 44 19 || za_in W1 57 0 || za_in W1 54 0 || zn_sr W1 || zn_sx W1) = false) (a2 : (za_in W2 45 0 || za_in W2 46 0 || za_in W2 51 0 || za_in W2 55 0 || za_in W2 44 13 || zg_in9 W2 || za_in W2 44 19 || za_in W2 57 0 || za_in W2 54 0 || zn_sr W2 || zn_sx W2) = false) (r0 : 0 ≤ zv_i h2 41) : zn_O h2 := by
  simp only [Bool.or_eq_false_iff] at a1 a2
  obtain ⟨⟨⟨⟨⟨⟨⟨⟨⟨⟨e1, e2⟩, e3⟩, e4⟩, e5⟩, e6⟩, e7⟩, e8⟩, e9⟩, e10⟩, e11⟩ := a1
  obtain ⟨⟨⟨⟨⟨⟨⟨⟨⟨⟨f1, f2⟩, f3⟩, f4⟩, f5⟩, f6⟩, f7⟩, f8⟩, f9⟩, f10⟩, f11⟩ := a2
  obtain ⟨⟨⟨_, b2, b3, b4, b5, b6⟩, R⟩, X⟩ := N.1
  exact ⟨⟨⟨i2, (b2.w w1 e1 e2).w w2 f1 f2, (b3.w w1 e3).w w2 f3, (b4.w w1 e4).w w2 f4, fun z => ((b5 (by rw [zv_wi w2 f5, zv_wi w1 e5] at z; exact z)).w w1 e6 e7 e8 e9).w w2 f6 f7 f8 f9, r0⟩, (R.w w1 e10).w w2 f10⟩, (X.w w1 e11).w w2 f11⟩
theorem zQ_p_run {h h1 h2 : zx_H} {m e1 e2 : Int} (N : zn_Q h) (i1 : zb_I zc_H h1) (i2 : zb_I zc_H h2) (w1 : zb_W [(34, 7), (34, 8), (34, 9), (34, 10), (34, 11), (34, 12), (34, 13), (34, 14), (36, 1), (37, 0), (38, 0), (39, 0), (40, 0), (41, 2), (42, 0), (43, 0), (0, 6)] h h1) (w2 : zb_W [(44, 0), (44, 44), (44, 45), (44, 46), (44, 48), (44, 47), (70, 0), (44, 26), (44, 25), (61, 0), (69, 0), (44, 50), (44, 14), (44, 42), (44, 43), (44, 49), (44, 41), (44, 38), (71, 0), (72, 0)] h1 h2) (x1 : ((m < 0 ∨ 300 < m) ∧ e1 = -2 ∧ h = h1) ∨ ((0 ≤ m ∧ m ≤ 300) ∧ 1000 ≤ zv_f h 34 14 ∧ e1 = -4 ∧ h = h1) ∨ ((0 ≤ m ∧ m ≤ 300) ∧ zv_f h 34 14 < 1000 ∧ zv_f h1 0 6 = zv_f h1 34 12 ∧ ((zv_f h1 34 12 = 0 ∧ e1 = zv_f h1 34 11) ∨ (¬ zv_f h1 34 12 = 0 ∧ e1 = -10 - zv_f h1 34 9)) ∧ ∃ u0, zk_bf h u0 ∧ zk_go (zk_st (zc_Pg h)) u0 (zk_of h1) (zv_f h1 34 10) ∧ zv_f h1 34 10 ≤ m ∧ (zv_f h1 34 8 = 1 ∨ zv_f h1 34 10 = m) ∧ zv_f h1 34 7 = 1 ∧ (0 ≤ zv_f h1 34 14 ∧ zv_f h1 34 14 ≤ 1300) ∧ (-1) ≤ zv_f h1 34 9 ∧ zv_f h1 34 9 ≤ 60)) (x2 : ((m < 0 ∨ 300 < m) ∧ e2 = -2 ∧ zb_W [(44, 0)] h1 h2) ∨ ((0 ≤ m ∧ m ≤ 300) ∧ 1000 ≤ zv_i h1 41 ∧ e2 = -4 ∧ zb_W [(44, 0)] h1 h2) ∨ ((0 ≤ m ∧ m ≤ 300) ∧ zv_i h1 41 < 1000 ∧ zv_i h1 1 = 0 ∧ e2 = -9 ∧ zv_i h2 14 = 6 ∧ zv_i h2 44 = 1 ∧ zv_i h2 45 = -1 ∧ zv_l h2 46 = 0 ∧ zv_i h2 48 = 0 ∧ zv_i h2 49 = 0 ∧ zv_i h2 47 = -1 ∧ zv_i h2 41 = zv_i h1 41) ∨ ((0 ≤ m ∧ m ≤ 300) ∧ zv_i h1 41 < 1000 ∧ 0 < zv_i h1 1 ∧ zv_i h2 44 = 1 ∧ ∃ v0 v q, zf_bf h1 v0 ∧ zk_gl (zf_st (zr_Pg h1)) v0 v (zv_i h2 48) q ∧ zv_i h2 48 ≤ m ∧ zv_i h2 14 = v.f ∧ zv_i h2 49 = v.c ∧ zv_i h2 41 = v.r ∧ ((v.e = 1 ∧ e2 = v.o ∧ (1 ≤ zv_i h2 48 → zv_i h2 47 = q) ∧ zv_i h2 45 = zf_tK v ∧ zv_l h2 46 = zf_tN v) ∨ (v.e = 0 ∧ zv_i h2 48 = m ∧ e2 = 2 ∧ zv_i h2 47 = v.p ∧ zv_i h2 45 = -1 ∧ zv_l h2 46 = 0)))) : zn_Q h2 ∧ e1 = e2 := by
  obtain ⟨y1, y2, y3, y4, y5⟩ := N.2
  have r1 : zv_i h1 41 = zv_i h 41 := zv_wi w1 rfl
  have c1 : zv_i h1 1 = zv_i h 1 := zv_wi w1 rfl
  have cc := N.1.1.2.1
  rcases x1 with ⟨a1, a2, a3⟩ | ⟨a1, a2, a3, a4⟩ | ⟨a1, a2, a3, a4, u0, a5, a6, a7, a8, a9, a10, a11⟩
  · subst a3
    rcases x2 with ⟨b1, b2, b3⟩ | ⟨b1, _⟩ | ⟨b1, _⟩ | ⟨b1, _⟩
    · exact ⟨N.w i2 b3 rfl, by omega⟩
    · omega
    · omega
    · omega
  · subst a4
    rcases x2 with ⟨b1, _⟩ | ⟨b1, b2, b3, b4⟩ | ⟨b1, b2, _⟩ | ⟨b1, b2, _⟩
    · omega
    · exact ⟨N.w i2 b4 rfl, by omega⟩
    · omega
    · omega
  · have u14 : zv_f h2 34 14 = zv_f h1 34 14 := zv_wf w2 rfl
    have u7 : zv_f h2 34 7 = zv_f h1 34 7 := zv_wf w2 rfl
    have u6 : zv_f h2 0 6 = zv_f h1 0 6 := zv_wf w2 rfl
    have u9 : zv_f h2 34 9 = zv_f h1 34 9 := zv_wf w2 rfl
    have u10 : zv_f h2 34 10 = zv_f h1 34 10 := zv_wf w2 rfl
    have u13 : zv_fl h2 34 13 = zv_fl h1 34 13 := zv_wfl w2 rfl
    have uk : zk_of h2 = zk_of h1 := zk_of_w w2 rfl
    have eP : zr_Pg h1 = zr_Pg h := zr_Pg_g w1 rfl
    have eA : zv_b h1 53 = zv_b h 35 := (funext (fun j => zv_wb w1 rfl j)).trans (zv_exb N.1.1.2.2.2.2).symm
    rcases x2 with ⟨b1, _⟩ | ⟨b1, b2, _⟩ | ⟨b1, b2, b3, b4, b5, b6, b7, b8, b9, b10, b11, b12⟩ | ⟨b1, b2, b3, b4, v0, v, q, b5, b6, b7, b8, b9, b10, b11⟩
    · omega
    · omega
    · obtain ⟨_, d2, d3, d4, d5⟩ := a5
      rcases d5 with d5 | ⟨d5, d6, d7, d8⟩
      · omega
      · obtain ⟨k0, k1⟩ := a6.e d7
        rw [← k1] at d2 d3 d4 d6 d7 d8
        have d2 : zv_f h1 34 11 = 2 := d2
        have d3 : zv_fl h1 34 13 = 0 := d3
        have d4 : zv_f h1 34 14 = zv_f h 34 14 := d4
        have d6 : zv_f h1 34 9 = -1 := d6
        have d8 : zv_f h1 34 12 = 6 := d8
        have tK : zk_tK (zk_of h1) = -1 := zk_tK_0 (by omega)
        have tN : zk_tN (zk_of h1) = 0 := by unfold zk_tN; rw [tK, if_neg (by decide), if_neg (by decide)]
        refine ⟨⟨zn_Qr N i2 w1 w2 rfl rfl (by omega), by omega, by omega, by omega, by omega, fun _ => ?_⟩, by omega⟩
        rw [uk, tK, tN]
        exact ⟨by omega, by omega, by omega, by omega, by omega⟩
    · obtain ⟨d1, d2, d3, d4, d5⟩ := a5
      rcases d5 with ⟨d5, d6, d7, d8⟩ | ⟨d5, _⟩
      · rw [N.1.2.1] at d1 a6
        obtain ⟨g1, g2, g3, g4, g5, g6⟩ := b5
        rw [eP, eA] at g1
        rw [eP] at b6
        obtain ⟨g, G⟩ := zf_begin N.1.2.2.1 (show 0 < zv_i h 1 by omega) d1 g1 ⟨d6, d7, d8, d2, d3⟩ ⟨g2, g3, g4, g5⟩ (by rw [d4, g6]; omega)
        have hO : ∀ p, 0 ≤ p → p < (zr_Pg h).n → -2147483648 ≤ (zr_Pg h).one p ∧ (zr_Pg h).one p ≤ 2147483647 := fun p _ _ => by
          show -2147483648 ≤ zv_a h 46 p ∧ zv_a h 46 p ≤ 2147483647
          unfold zv_a
          split
          · exact zn_r _
          · omega
        obtain ⟨kk, C⟩ := zf_chain N.1.2.2.1 hO a1.2 G a6 b6 a7 b7 a8 (by rcases b11 with z | z; exact Or.inl z.1; exact Or.inr z.2.1)
        have Y : zn_Y h2 ∧ e1 = e2 := by
          rcases C with ⟨k1, g', C⟩ | ⟨k1, C⟩
          · have c3 := C.2.2.1
            have t2 := zf_told2 C
            have f0 : zv_f h1 34 12 = 0 := c3.2.2.1
            have o2 : zv_f h1 34 11 = 2 := c3.2.2.2.2.1
            have cC : zv_fl h1 34 13 = v.c := c3.2.2.2.2.2.1.trans c3.2.2.2.2.2.2.1.symm
            have cR : zv_f h1 34 14 = v.r := c3.2.2.2.2.2.2.2
            have cF : v.f = 0 := c3.2.2.2.1
            have cP : zv_f h1 34 9 = v.p := C.2.1.1
            rcases b11 with ⟨z1, _⟩ | ⟨z1, z2, z3, z4, z5, z6⟩
            · have := c3.2.1; omega
            · refine ⟨⟨by omega, by omega, by omega, by omega, fun _ => ?_⟩, by omega⟩
              rw [uk, t2.1, t2.2]
              exact ⟨by omega, by omega, by omega, by omega, by omega⟩
          · have C9 := C
            obtain ⟨⟨_, ve⟩, cP, cF, cO1, cO2, cC, cR, _, _⟩ := C
            have cP : zv_f h1 34 9 = q := cP
            have cF : zv_f h1 34 12 = v.f := cF
            have cC : zv_fl h1 34 13 = v.c := cC
            have cR : zv_f h1 34 14 = v.r := cR
            have cO1 : zv_f h1 34 12 = 0 → v.o = zv_f h1 34 11 := cO1
            have cO2 : ¬ zv_f h1 34 12 = 0 → v.o = -10 - q := cO2
            have tt := zf_told (by omega) C9
            rcases b11 with ⟨z1, z2, z3, z4, z5⟩ | ⟨z1, _⟩
            · have z3 := z3 (by omega)
              refine ⟨⟨by omega, by omega, by omega, by omega, fun _ => ?_⟩, ?_⟩
              · rw [uk, tt.1, tt.2]
                exact ⟨by omega, by omega, by omega, by omega, by omega⟩
              · by_cases c : zv_f h1 34 12 = 0
                · have := cO1 c; omega
                · have := cO2 c; omega
            · omega
        exact ⟨⟨zn_Qr N i2 w1 w2 rfl rfl (by have := Y.1.1; omega), Y.1⟩, Y.2⟩
      · omega
