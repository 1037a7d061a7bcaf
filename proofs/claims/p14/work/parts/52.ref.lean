/-! ===== 52: the reference, method by method (by program) ===== -/
/-- what an INSTRUCTION that does not fail leaves of the kinds -/
def zg_does (o a : Int) (h h' : zx_H) : Prop :=
  ((1 ≤ o → o ≤ 6 → zv_i h 25 ≤ 5) ∧ (o = 7 → 1 ≤ zv_i h 25) ∧ (o = 8 → zv_i h 25 ≤ 5 ∧ 0 ≤ a ∧ a ≤ 7) ∧ (o = 9 → 1 ≤ zv_i h 25 ∧ 0 ≤ a ∧ a ≤ 7) ∧ (o = 17 → 2 ≤ zv_i h 25) ∧ (o = 18 → 3 ≤ zv_i h 25) ∧ (19 ≤ o → o ≤ 22 → 1 ≤ zv_i h 25) ∧ (25 ≤ o → o ≤ 27 → 1 ≤ zv_i h 25) ∧ (o = 28 → 0 ≤ a ∧ a ≤ 7)) ∧
  (∀ j, 0 ≤ j → (o = 17 → j = zv_i h 25 + 6 → zv_a h 61 j = 6 ∨ zv_a h 61 j = 4) ∧ (o = 18 → j = zv_i h 25 + 5 → zv_a h 61 j = 6 ∨ zv_a h 61 j = 4) ∧ (o = 19 → j = zv_i h 25 + 7 → zv_a h 61 j = 6 ∨ zv_a h 61 j = 4) ∧ (o = 20 ∨ o = 22 → j = zv_i h 25 + 7 → zv_a h 61 j = 7 ∨ zv_a h 61 j = 8 ∨ zv_a h 61 j = 4) ∧ (o = 21 → j = zv_i h 25 + 7 → 4 ≤ zv_a h 61 j)) ∧
  (¬ o = 9 → ∀ j, 0 ≤ j → j < zv_i h' 25 + 8 → 5 ≤ zv_a h' 61 j → (zv_a h' 61 j = zv_a h 61 j ∧ j < zv_i h 25 + 8 ∧ (o = 12 ∨ o = 13 ∨ o = 15 ∨ o = 17 → ¬ j = zv_i h 25 + 6) ∧ (o = 14 → ¬ j = zv_i h 25 + 4) ∧ (o = 7 ∨ o = 19 ∨ o = 20 → ¬ j = zv_i h 25 + 7) ∧ (o = 28 → ¬ j = a)) ∨ ((o = 4 ∨ o = 5 ∨ o = 6) ∧ j = zv_i h 25 + 8 ∧ ¬ zv_a h' 61 j = 6) ∨ (o = 7 ∧ j = zv_i h 25 + 7 ∧ zv_a h' 61 j = 6) ∨ (o = 8 ∧ j = zv_i h 25 + 8 ∧ zv_a h' 61 j = zv_a h 61 a) ∨ (o = 21 ∧ j = zv_i h 25 + 7)) ∧
  (o = 9 → ∀ i, i = zv_i h 25 + 7 → ∀ j, 0 ≤ j → j < zv_i h' 25 + 8 → 5 ≤ zv_a h' 61 j → (¬ j = a ∧ zv_a h' 61 j = zv_a h 61 j ∧ j < zv_i h 25 + 8) ∨ (j = a ∧ zv_a h' 61 j = zv_a h 61 i))


theorem zm_does_c0 {h : zx_H} (hI : zb_I zc_H h) {p : Int} (p1 : 0 ≤ p) (p2 : p ≤ 59) (n8 : ¬ zv_a h 61 8 = 3) (ic : zv_a h 45 p = 21 → 5 ≤ zv_a h 46 p ∧ zv_a h 46 p ≤ 8) (ov : zv_a h 45 p = 0) : zx_T zp_P 3 zp_m167 0 [(0, .ref 44), (1, .int (zI (p)))] [] h (zr_R [(44, 25), (44, 26), (61, 0)] h (fun e h' => e = zv_i h' 26 ∧ 0 ≤ e ∧ e ≤ 7 ∧ ¬ zv_a h' 61 8 = 3 ∧ (e = 0 → zg_does (zv_a h 45 p) (zv_a h 46 p) h h'))) := sorry


theorem zm_does_c1 {h : zx_H} (hI : zb_I zc_H h) {p : Int} (p1 : 0 ≤ p) (p2 : p ≤ 59) (n8 : ¬ zv_a h 61 8 = 3) (ic : zv_a h 45 p = 21 → 5 ≤ zv_a h 46 p ∧ zv_a h 46 p ≤ 8) (ov : zv_a h 45 p = 1) : zx_T zp_P 3 zp_m167 0 [(0, .ref 44), (1, .int (zI (p)))] [] h (zr_R [(44, 25), (44, 26), (61, 0)] h (fun e h' => e = zv_i h' 26 ∧ 0 ≤ e ∧ e ≤ 7 ∧ ¬ zv_a h' 61 8 = 3 ∧ (e = 0 → zg_does (zv_a h 45 p) (zv_a h 46 p) h h'))) := sorry


theorem zm_does_c2 {h : zx_H} (hI : zb_I zc_H h) {p : Int} (p1 : 0 ≤ p) (p2 : p ≤ 59) (n8 : ¬ zv_a h 61 8 = 3) (ic : zv_a h 45 p = 21 → 5 ≤ zv_a h 46 p ∧ zv_a h 46 p ≤ 8) (ov : zv_a h 45 p = 2) : zx_T zp_P 3 zp_m167 0 [(0, .ref 44), (1, .int (zI (p)))] [] h (zr_R [(44, 25), (44, 26), (61, 0)] h (fun e h' => e = zv_i h' 26 ∧ 0 ≤ e ∧ e ≤ 7 ∧ ¬ zv_a h' 61 8 = 3 ∧ (e = 0 → zg_does (zv_a h 45 p) (zv_a h 46 p) h h'))) := sorry


theorem zm_does_c3 {h : zx_H} (hI : zb_I zc_H h) {p : Int} (p1 : 0 ≤ p) (p2 : p ≤ 59) (n8 : ¬ zv_a h 61 8 = 3) (ic : zv_a h 45 p = 21 → 5 ≤ zv_a h 46 p ∧ zv_a h 46 p ≤ 8) (ov : zv_a h 45 p = 3) : zx_T zp_P 3 zp_m167 0 [(0, .ref 44), (1, .int (zI (p)))] [] h (zr_R [(44, 25), (44, 26), (61, 0)] h (fun e h' => e = zv_i h' 26 ∧ 0 ≤ e ∧ e ≤ 7 ∧ ¬ zv_a h' 61 8 = 3 ∧ (e = 0 → zg_does (zv_a h 45 p) (zv_a h 46 p) h h'))) := sorry


theorem zm_does_c4 {h : zx_H} (hI : zb_I zc_H h) {p : Int} (p1 : 0 ≤ p) (p2 : p ≤ 59) (n8 : ¬ zv_a h 61 8 = 3) (ic : zv_a h 45 p = 21 → 5 ≤ zv_a h 46 p ∧ zv_a h 46 p ≤ 8) (ov : zv_a h 45 p = 4) : zx_T zp_P 3 zp_m167 0 [(0, .ref 44), (1, .int (zI (p)))] [] h (zr_R [(44, 25), (44, 26), (61, 0)] h (fun e h' => e = zv_i h' 26 ∧ 0 ≤ e ∧ e ≤ 7 ∧ ¬ zv_a h' 61 8 = 3 ∧ (e = 0 → zg_does (zv_a h 45 p) (zv_a h 46 p) h h'))) := sorry


theorem zm_does_c5 {h : zx_H} (hI : zb_I zc_H h) {p : Int} (p1 : 0 ≤ p) (p2 : p ≤ 59) (n8 : ¬ zv_a h 61 8 = 3) (ic : zv_a h 45 p = 21 → 5 ≤ zv_a h 46 p ∧ zv_a h 46 p ≤ 8) (ov : zv_a h 45 p = 5) : zx_T zp_P 3 zp_m167 0 [(0, .ref 44), (1, .int (zI (p)))] [] h (zr_R [(44, 25), (44, 26), (61, 0)] h (fun e h' => e = zv_i h' 26 ∧ 0 ≤ e ∧ e ≤ 7 ∧ ¬ zv_a h' 61 8 = 3 ∧ (e = 0 → zg_does (zv_a h 45 p) (zv_a h 46 p) h h'))) := sorry


theorem zm_does_c6 {h : zx_H} (hI : zb_I zc_H h) {p : Int} (p1 : 0 ≤ p) (p2 : p ≤ 59) (n8 : ¬ zv_a h 61 8 = 3) (ic : zv_a h 45 p = 21 → 5 ≤ zv_a h 46 p ∧ zv_a h 46 p ≤ 8) (ov : zv_a h 45 p = 6) : zx_T zp_P 3 zp_m167 0 [(0, .ref 44), (1, .int (zI (p)))] [] h (zr_R [(44, 25), (44, 26), (61, 0)] h (fun e h' => e = zv_i h' 26 ∧ 0 ≤ e ∧ e ≤ 7 ∧ ¬ zv_a h' 61 8 = 3 ∧ (e = 0 → zg_does (zv_a h 45 p) (zv_a h 46 p) h h'))) := sorry


theorem zm_does_c7 {h : zx_H} (hI : zb_I zc_H h) {p : Int} (p1 : 0 ≤ p) (p2 : p ≤ 59) (n8 : ¬ zv_a h 61 8 = 3) (ic : zv_a h 45 p = 21 → 5 ≤ zv_a h 46 p ∧ zv_a h 46 p ≤ 8) (ov : zv_a h 45 p = 7) : zx_T zp_P 3 zp_m167 0 [(0, .ref 44), (1, .int (zI (p)))] [] h (zr_R [(44, 25), (44, 26), (61, 0)] h (fun e h' => e = zv_i h' 26 ∧ 0 ≤ e ∧ e ≤ 7 ∧ ¬ zv_a h' 61 8 = 3 ∧ (e = 0 → zg_does (zv_a h 45 p) (zv_a h 46 p) h h'))) := sorry


theorem zm_does_c8 {h : zx_H} (hI : zb_I zc_H h) {p : Int} (p1 : 0 ≤ p) (p2 : p ≤ 59) (n8 : ¬ zv_a h 61 8 = 3) (ic : zv_a h 45 p = 21 → 5 ≤ zv_a h 46 p ∧ zv_a h 46 p ≤ 8) (ov : zv_a h 45 p = 8) : zx_T zp_P 3 zp_m167 0 [(0, .ref 44), (1, .int (zI (p)))] [] h (zr_R [(44, 25), (44, 26), (61, 0)] h (fun e h' => e = zv_i h' 26 ∧ 0 ≤ e ∧ e ≤ 7 ∧ ¬ zv_a h' 61 8 = 3 ∧ (e = 0 → zg_does (zv_a h 45 p) (zv_a h 46 p) h h'))) := sorry


theorem zm_does_c9 {h : zx_H} (hI : zb_I zc_H h) {p : Int} (p1 : 0 ≤ p) (p2 : p ≤ 59) (n8 : ¬ zv_a h 61 8 = 3) (ic : zv_a h 45 p = 21 → 5 ≤ zv_a h 46 p ∧ zv_a h 46 p ≤ 8) (ov : zv_a h 45 p = 9) : zx_T zp_P 3 zp_m167 0 [(0, .ref 44), (1, .int (zI (p)))] [] h (zr_R [(44, 25), (44, 26), (61, 0)] h (fun e h' => e = zv_i h' 26 ∧ 0 ≤ e ∧ e ≤ 7 ∧ ¬ zv_a h' 61 8 = 3 ∧ (e = 0 → zg_does (zv_a h 45 p) (zv_a h 46 p) h h'))) := sorry


theorem zm_does_c10 {h : zx_H} (hI : zb_I zc_H h) {p : Int} (p1 : 0 ≤ p) (p2 : p ≤ 59) (n8 : ¬ zv_a h 61 8 = 3) (ic : zv_a h 45 p = 21 → 5 ≤ zv_a h 46 p ∧ zv_a h 46 p ≤ 8) (ov : zv_a h 45 p = 10) : zx_T zp_P 3 zp_m167 0 [(0, .ref 44), (1, .int (zI (p)))] [] h (zr_R [(44, 25), (44, 26), (61, 0)] h (fun e h' => e = zv_i h' 26 ∧ 0 ≤ e ∧ e ≤ 7 ∧ ¬ zv_a h' 61 8 = 3 ∧ (e = 0 → zg_does (zv_a h 45 p) (zv_a h 46 p) h h'))) := sorry


theorem zm_does_c11 {h : zx_H} (hI : zb_I zc_H h) {p : Int} (p1 : 0 ≤ p) (p2 : p ≤ 59) (n8 : ¬ zv_a h 61 8 = 3) (ic : zv_a h 45 p = 21 → 5 ≤ zv_a h 46 p ∧ zv_a h 46 p ≤ 8) (ov : zv_a h 45 p = 11) : zx_T zp_P 3 zp_m167 0 [(0, .ref 44), (1, .int (zI (p)))] [] h (zr_R [(44, 25), (44, 26), (61, 0)] h (fun e h' => e = zv_i h' 26 ∧ 0 ≤ e ∧ e ≤ 7 ∧ ¬ zv_a h' 61 8 = 3 ∧ (e = 0 → zg_does (zv_a h 45 p) (zv_a h 46 p) h h'))) := sorry
