/-! ===== 54: the reference, method by method (by program) ===== -/

theorem zm_goesOn {h : zx_H} (hI : zb_I zc_H h) {p : Int} (p1 : 0 ≤ p) (p2 : p ≤ 59) : zx_T zp_P 0 zp_m168 0 [(0, .ref 44), (1, .int (zI (p)))] [] h (zr_P h (fun e => (e = 1 ∧ (zv_a h 45 p < 22 ∨ 24 < zv_a h 45 p)) ∨ (e = 0 ∧ 22 ≤ zv_a h 45 p ∧ zv_a h 45 p ≤ 24))) := sorry


theorem zm_jumps {h : zx_H} (hI : zb_I zc_H h) {p : Int} (p1 : 0 ≤ p) (p2 : p ≤ 59) : zx_T zp_P 0 zp_m170 0 [(0, .ref 44), (1, .int (zI (p)))] [] h (zr_P h (fun e => 0 ≤ e ∧ e ≤ 2 ∧ (1 ≤ e → 24 ≤ zv_a h 45 p ∧ zv_a h 45 p ≤ 27) ∧ (e = 2 → zv_a h 45 p = 27) ∧ (24 ≤ zv_a h 45 p → zv_a h 45 p ≤ 27 → 1 ≤ e) ∧ (zv_a h 45 p = 27 → e = 2))) := sorry


theorem zm_jump {h : zx_H} (hI : zb_I zc_H h) {p : Int} {k : Int} (p1 : 0 ≤ p) (p2 : p ≤ 59) (k1 : 0 ≤ k) (k2 : k ≤ 1) : zx_T zp_P 0 zp_m169 0 [(0, .ref 44), (1, .int (zI (p))), (2, .int (zI (k)))] [] h (zr_P h (fun e => -2147483648 ≤ e ∧ e ≤ 2147483647 ∧ (k = 0 → 24 ≤ zv_a h 45 p → zv_a h 45 p ≤ 27 → e = zv_a h 46 p) ∧ (k = 1 → zv_a h 45 p = 27 → e = zv_a h 47 p))) := sorry


theorem zm_has {h : zx_H} (hI : zb_I zc_H h) {t : Int} {p : Int} (t1 : 0 ≤ t) (t2 : t ≤ 5) (p1 : 0 ≤ p) (p2 : p ≤ 59) : zx_T zp_P 1 zp_m171 0 [(0, .ref 44), (1, .int (zI (t))), (2, .int (zI (p)))] [] h (zr_P h (fun e => (e = 1 ∧ zv_a h 48 t ≤ p ∧ p < zv_a h 49 t) ∨ (e = 0 ∧ ¬ (zv_a h 48 t ≤ p ∧ p < zv_a h 49 t)))) := sorry


theorem zm_begin_61 {h : zx_H} (hI : zb_I zc_H h)   : zx_T zp_P 0 zp_m172 0 [(0, .ref 44), (1, .ref 61)] [] h (zr_V [(61, 0)] h (fun h' => ∀ j, 0 ≤ j → j < 14 → (zv_i h 10 ≤ j → zv_a h' 61 j = 0) ∧ (j < zv_i h 10 → zv_a h' 61 j = zv_a h 52 j))) := sorry


theorem zm_lay {h : zx_H} (hI : zb_I zc_H h) {p : Int} (p1 : 0 ≤ p) (p2 : p ≤ 59) : zx_T zp_P 0 zp_m173 0 [(0, .ref 44), (1, .int (zI (p)))] [] h (zr_V [(44, 25), (61, 0)] h (fun h' => zv_i h' 25 = zv_a h 56 p ∧ ∀ j, 0 ≤ j → j < 14 → zv_a h' 61 j = zv_a h 55 (14 * p + j))) := sorry
