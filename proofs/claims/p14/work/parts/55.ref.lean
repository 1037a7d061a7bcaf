/-! ===== 55: the reference, method by method (by program) ===== -/

theorem zm_join_61 {h : zx_H} (hI : zb_I zc_H h) {place : Int} {many : Int} (place1 : -2147483648 ≤ place) (place2 : place ≤ 2147483647) (many1 : 0 ≤ many) (many2 : many ≤ 6) (hk : zg_KI h) (r8 : ¬ zv_a h 61 8 = 3) : zx_T zp_P 2 zp_m174 0 [(0, .ref 44), (1, .int (zI (place))), (2, .ref 61), (3, .int (zI (many)))] [] h (zr_R [(54, 0), (44, 27), (56, 0), (55, 0), (63, 0)] h (fun e h' => zg_J h h' ∧ 0 ≤ e ∧ e ≤ 7 ∧ (e = 0 → 0 ≤ place ∧ place < zv_i h 1 ∧ zv_a h' 54 place = 1))) := sorry


theorem zm_join_62 {h : zx_H} (hI : zb_I zc_H h) {place : Int} {many : Int} (place1 : -2147483648 ≤ place) (place2 : place ≤ 2147483647) (many1 : 0 ≤ many) (many2 : many ≤ 6) (hk : zg_KI h) (r8 : ¬ zv_a h 62 8 = 3) : zx_T zp_P 2 zp_m174 0 [(0, .ref 44), (1, .int (zI (place))), (2, .ref 62), (3, .int (zI (many)))] [] h (zr_R [(54, 0), (44, 27), (56, 0), (55, 0), (63, 0)] h (fun e h' => zg_J h h' ∧ 0 ≤ e ∧ e ≤ 7 ∧ (e = 0 → 0 ≤ place ∧ place < zv_i h 1 ∧ zv_a h' 54 place = 1))) := sorry
