/-! ===== 82b: the reference, method by method (by program) ===== -/
set_option maxRecDepth 100000 in
set_option maxHeartbeats 8000000 in
theorem zm_doesF_c15 {h : zx_H} (hI : zb_I zc_H h) {p : Int} (p1 : 0 ≤ p) (p2 : p ≤ 59) (n8 : ¬ zv_a h 61 8 = 3) (ic : zv_a h 45 p = 21 → 5 ≤ zv_a h 46 p ∧ zv_a h 46 p ≤ 8) (ov : zv_a h 45 p = 15) : zx_T zp_P 3 zp_m167 0 [(0, .ref 44), (1, .int (zI (p)))] [] h (zr_R [(44, 25), (44, 26), (61, 0)] h (fun e h' => e = zv_i h' 26 ∧ zt_eq (zv_i h' 26, zv_i h' 25, zv_a h' 61) (zs_ap (zv_a h 45 p) (zv_a h 46 p) (0, zv_i h 25, zv_a h 61)))) := by
  have hS := zv_ri hI (k := 25) rfl
  refine zx_T.l (i := .aload_n 0) (k := 1) (v := .ref 44) (pc := 0) rfl rfl rfl ?_
  refine zx_T.s (i := .iconst 0) (k := 1) (st' := [.int (zI (0)), .ref 44]) (pc := 1) rfl rfl ?_
  refine zr_pi (k := 26) (lo := 0) (hi := 7) (e := 0) (pc := 2) rfl rfl rfl rfl rfl rfl hI (by omega) (by omega) (fun h1 ih1 w2 e3 => ?_)
  refine zx_T.l (i := .aload_n 0) (k := 1) (v := .ref 44) (pc := 5) rfl rfl rfl ?_
  refine zr_gr (k := 3) (b := 46) (pc := 6) rfl rfl rfl ih1 ?_
  refine zx_T.l (i := .iload_n 1) (k := 1) (v := .int (zI (p))) (pc := 9) rfl rfl rfl ?_
  refine zr_al (n := 60) (lo := (-2147483648)) (hi := 2147483647) (e := zv_a h 46 p) (pc := 10) rfl rfl rfl ih1 (by omega) (by omega) (zv_wa w2 rfl p) (fun g4a g4b => ?_)
  refine zx_T.t (i := .istore_n 2) (k := 1) (ls' := [(2, .int (zI (zv_a h 46 p))), (0, .ref 44), (1, .int (zI (p)))]) (st' := []) (pc := 11) rfl rfl rfl rfl ?_
  refine zx_T.l (i := .aload_n 0) (k := 1) (v := .ref 44) (pc := 12) rfl rfl rfl ?_
  refine zr_gr (k := 2) (b := 45) (pc := 13) rfl rfl rfl ih1 ?_
  refine zx_T.l (i := .iload_n 1) (k := 1) (v := .int (zI (p))) (pc := 16) rfl rfl rfl ?_
  refine zr_al (n := 60) (lo := 0) (hi := 28) (e := zv_a h 45 p) (pc := 17) rfl rfl rfl ih1 (by omega) (by omega) (zv_wa w2 rfl p) (fun g5a g5b => ?_)
  have c6 : zv_a h 45 p = 15 := by omega
  rcases c6 with c6
  · refine zr_sw (i := .tableswitch 424 1 28 #[126, 134, 142, 150, 158, 167, 176, 190, 198, 206, 214, 222, 222, 240, 258, 271, 284, 303, 322, 336, 350, 363, 424, 424, 372, 380, 372, 388]) (len := 126) (t := 276) (x := zv_a h 45 p) (k := 15) (pc := 18) rfl c6 rfl rfl rfl rfl ?_
    refine zx_T.l (i := .aload_n 0) (k := 1) (v := .ref 44) (pc := 276) rfl rfl rfl ?_
    refine zx_T.s (i := .iconst 2) (k := 1) (st' := [.int (zI (2)), .ref 44]) (pc := 277) rfl rfl ?_
    have y7 : zv_a h1 61 8 = zv_a h 61 8 := (zv_wa w2 rfl 8)
    refine zr_iv (cj := 162) (q' := zp_m162) (As := [.int (zI (2))]) (rest := []) (pc := 278) rfl rfl rfl rfl rfl rfl (Nat.le_of_ble_eq_true rfl) rfl (Nat.le_of_ble_eq_true rfl) ih1 ((zm_needF (h := h1) ih1 (w := 2) (by omega) (by omega)).up (Nat.le_of_ble_eq_true rfl)) ?_
    rintro r8 h11 ⟨ih11, w12, r8q, x10⟩
    subst r8q
    try dsimp only at x10
    have qh11 := x10
    show zx_T zp_P 3 zp_m167 281 [(2, .int (zI (zv_a h 46 p))), (0, .ref 44), (1, .int (zI (p)))] [] h11 _
    refine zx_T.l (i := .aload_n 0) (k := 1) (v := .ref 44) (pc := 281) rfl rfl rfl ?_
    refine zx_T.s (i := .iconst 1) (k := 1) (st' := [.int (zI (1)), .ref 44]) (pc := 282) rfl rfl ?_
    have y13 : zv_a h11 61 8 = zv_a h 61 8 := ((zv_wa w12 rfl 8).trans (zv_wa w2 rfl 8))
    refine zr_iv (cj := 163) (q' := zp_m163) (As := [.int (zI (1))]) (rest := []) (pc := 283) rfl rfl rfl rfl rfl rfl (Nat.le_of_ble_eq_true rfl) rfl (Nat.le_of_ble_eq_true rfl) ih11 ((zm_pushF (h := h11) ih11 (k := 1) (by omega) (by omega) (by omega)).up (Nat.le_of_ble_eq_true rfl)) ?_
    rintro r14 h17 ⟨ih17, w18, r14q, x16⟩
    subst r14q
    try dsimp only at x16
    have qh17 := x16.1
    have p8 := x16.2 (by omega)
    show zx_T zp_P 3 zp_m167 286 [(2, .int (zI (zv_a h 46 p))), (0, .ref 44), (1, .int (zI (p)))] [] h17 _
    refine zx_T.j (i := .goto 156) (k := 3) (pc' := 442) (st' := []) (pc := 286) rfl rfl rfl rfl rfl ?_
    refine zx_T.l (i := .aload_n 0) (k := 1) (v := .ref 44) (pc := 442) rfl rfl rfl ?_
    refine zr_gi (k := 26) (lo := 0) (hi := 7) (e := zv_i h17 26) (pc := 443) rfl rfl rfl ih17 rfl (fun g19a g19b => ?_)
    have i25 : zv_i h17 25 = zv_i h17 25 := rfl
    have i26 : zv_i h17 26 = zv_i h17 26 := rfl
    have a61 : ∀ j, 0 ≤ j → zv_a h17 61 j = zv_a h17 61 j := fun j hj => rfl
    have y23 := zv_ri ih17 (k := 25) rfl
    exact zr_ir (x := zv_i h17 26) (pc := 446) rfl rfl rfl ⟨ih17, (((w2.wd rfl : zb_W [(44, 25), (44, 26), (61, 0)] h _).tr (w12.wd rfl)).tr (w18.wd rfl)), _, rfl, by dsimp only; exact ⟨by omega, by rw [ov]; exact (qh17.tr (zs_push_eq (qh11.tr (zs_need_eq (⟨e3, zv_wi w2 rfl, fun j _ => zv_wa w2 rfl j⟩ : zt_eq (zv_i h1 26, zv_i h1 25, zv_a h1 61) (0, zv_i h 25, zv_a h 61)) (zv_ri ih1 (k := 25) rfl).1))))⟩⟩

set_option maxRecDepth 100000 in
set_option maxHeartbeats 8000000 in
theorem zm_doesF_c16 {h : zx_H} (hI : zb_I zc_H h) {p : Int} (p1 : 0 ≤ p) (p2 : p ≤ 59) (n8 : ¬ zv_a h 61 8 = 3) (ic : zv_a h 45 p = 21 → 5 ≤ zv_a h 46 p ∧ zv_a h 46 p ≤ 8) (ov : zv_a h 45 p = 16) : zx_T zp_P 3 zp_m167 0 [(0, .ref 44), (1, .int (zI (p)))] [] h (zr_R [(44, 25), (44, 26), (61, 0)] h (fun e h' => e = zv_i h' 26 ∧ zt_eq (zv_i h' 26, zv_i h' 25, zv_a h' 61) (zs_ap (zv_a h 45 p) (zv_a h 46 p) (0, zv_i h 25, zv_a h 61)))) := by
  have hS := zv_ri hI (k := 25) rfl
  refine zx_T.l (i := .aload_n 0) (k := 1) (v := .ref 44) (pc := 0) rfl rfl rfl ?_
  refine zx_T.s (i := .iconst 0) (k := 1) (st' := [.int (zI (0)), .ref 44]) (pc := 1) rfl rfl ?_
  refine zr_pi (k := 26) (lo := 0) (hi := 7) (e := 0) (pc := 2) rfl rfl rfl rfl rfl rfl hI (by omega) (by omega) (fun h1 ih1 w2 e3 => ?_)
  refine zx_T.l (i := .aload_n 0) (k := 1) (v := .ref 44) (pc := 5) rfl rfl rfl ?_
  refine zr_gr (k := 3) (b := 46) (pc := 6) rfl rfl rfl ih1 ?_
  refine zx_T.l (i := .iload_n 1) (k := 1) (v := .int (zI (p))) (pc := 9) rfl rfl rfl ?_
  refine zr_al (n := 60) (lo := (-2147483648)) (hi := 2147483647) (e := zv_a h 46 p) (pc := 10) rfl rfl rfl ih1 (by omega) (by omega) (zv_wa w2 rfl p) (fun g4a g4b => ?_)
  refine zx_T.t (i := .istore_n 2) (k := 1) (ls' := [(2, .int (zI (zv_a h 46 p))), (0, .ref 44), (1, .int (zI (p)))]) (st' := []) (pc := 11) rfl rfl rfl rfl ?_
  refine zx_T.l (i := .aload_n 0) (k := 1) (v := .ref 44) (pc := 12) rfl rfl rfl ?_
  refine zr_gr (k := 2) (b := 45) (pc := 13) rfl rfl rfl ih1 ?_
  refine zx_T.l (i := .iload_n 1) (k := 1) (v := .int (zI (p))) (pc := 16) rfl rfl rfl ?_
  refine zr_al (n := 60) (lo := 0) (hi := 28) (e := zv_a h 45 p) (pc := 17) rfl rfl rfl ih1 (by omega) (by omega) (zv_wa w2 rfl p) (fun g5a g5b => ?_)
  have c6 : zv_a h 45 p = 16 := by omega
  rcases c6 with c6
  · refine zr_sw (i := .tableswitch 424 1 28 #[126, 134, 142, 150, 158, 167, 176, 190, 198, 206, 214, 222, 222, 240, 258, 271, 284, 303, 322, 336, 350, 363, 424, 424, 372, 380, 372, 388]) (len := 126) (t := 289) (x := zv_a h 45 p) (k := 16) (pc := 18) rfl c6 rfl rfl rfl rfl ?_
    refine zx_T.l (i := .aload_n 0) (k := 1) (v := .ref 44) (pc := 289) rfl rfl rfl ?_
    refine zx_T.s (i := .iconst 1) (k := 1) (st' := [.int (zI (1)), .ref 44]) (pc := 290) rfl rfl ?_
    have y7 : zv_a h1 61 8 = zv_a h 61 8 := (zv_wa w2 rfl 8)
    refine zr_iv (cj := 162) (q' := zp_m162) (As := [.int (zI (1))]) (rest := []) (pc := 291) rfl rfl rfl rfl rfl rfl (Nat.le_of_ble_eq_true rfl) rfl (Nat.le_of_ble_eq_true rfl) ih1 ((zm_needF (h := h1) ih1 (w := 1) (by omega) (by omega)).up (Nat.le_of_ble_eq_true rfl)) ?_
    rintro r8 h11 ⟨ih11, w12, r8q, x10⟩
    subst r8q
    try dsimp only at x10
    have qh11 := x10
    show zx_T zp_P 3 zp_m167 294 [(2, .int (zI (zv_a h 46 p))), (0, .ref 44), (1, .int (zI (p)))] [] h11 _
    refine zx_T.l (i := .aload_n 0) (k := 1) (v := .ref 44) (pc := 294) rfl rfl rfl ?_
    refine zx_T.s (i := .iconst 2) (k := 1) (st' := [.int (zI (2)), .ref 44]) (pc := 295) rfl rfl ?_
    have y13 : zv_a h11 61 8 = zv_a h 61 8 := ((zv_wa w12 rfl 8).trans (zv_wa w2 rfl 8))
    refine zr_iv (cj := 163) (q' := zp_m163) (As := [.int (zI (2))]) (rest := []) (pc := 296) rfl rfl rfl rfl rfl rfl (Nat.le_of_ble_eq_true rfl) rfl (Nat.le_of_ble_eq_true rfl) ih11 ((zm_pushF (h := h11) ih11 (k := 2) (by omega) (by omega) (by omega)).up (Nat.le_of_ble_eq_true rfl)) ?_
    rintro r14 h17 ⟨ih17, w18, r14q, x16⟩
    subst r14q
    try dsimp only at x16
    have qh17 := x16.1
    have p8 := x16.2 (by omega)
    show zx_T zp_P 3 zp_m167 299 [(2, .int (zI (zv_a h 46 p))), (0, .ref 44), (1, .int (zI (p)))] [] h17 _
    refine zx_T.j (i := .goto 143) (k := 3) (pc' := 442) (st' := []) (pc := 299) rfl rfl rfl rfl rfl ?_
    refine zx_T.l (i := .aload_n 0) (k := 1) (v := .ref 44) (pc := 442) rfl rfl rfl ?_
    refine zr_gi (k := 26) (lo := 0) (hi := 7) (e := zv_i h17 26) (pc := 443) rfl rfl rfl ih17 rfl (fun g19a g19b => ?_)
    have i25 : zv_i h17 25 = zv_i h17 25 := rfl
    have i26 : zv_i h17 26 = zv_i h17 26 := rfl
    have a61 : ∀ j, 0 ≤ j → zv_a h17 61 j = zv_a h17 61 j := fun j hj => rfl
    have y23 := zv_ri ih17 (k := 25) rfl
    exact zr_ir (x := zv_i h17 26) (pc := 446) rfl rfl rfl ⟨ih17, (((w2.wd rfl : zb_W [(44, 25), (44, 26), (61, 0)] h _).tr (w12.wd rfl)).tr (w18.wd rfl)), _, rfl, by dsimp only; exact ⟨by omega, by rw [ov]; exact (qh17.tr (zs_push_eq (qh11.tr (zs_need_eq (⟨e3, zv_wi w2 rfl, fun j _ => zv_wa w2 rfl j⟩ : zt_eq (zv_i h1 26, zv_i h1 25, zv_a h1 61) (0, zv_i h 25, zv_a h 61)) (zv_ri ih1 (k := 25) rfl).1))))⟩⟩

set_option maxRecDepth 100000 in
set_option maxHeartbeats 8000000 in
theorem zm_doesF_c17 {h : zx_H} (hI : zb_I zc_H h) {p : Int} (p1 : 0 ≤ p) (p2 : p ≤ 59) (n8 : ¬ zv_a h 61 8 = 3) (ic : zv_a h 45 p = 21 → 5 ≤ zv_a h 46 p ∧ zv_a h 46 p ≤ 8) (ov : zv_a h 45 p = 17) : zx_T zp_P 3 zp_m167 0 [(0, .ref 44), (1, .int (zI (p)))] [] h (zr_R [(44, 25), (44, 26), (61, 0)] h (fun e h' => e = zv_i h' 26 ∧ zt_eq (zv_i h' 26, zv_i h' 25, zv_a h' 61) (zs_ap (zv_a h 45 p) (zv_a h 46 p) (0, zv_i h 25, zv_a h 61)))) := by
  have hS := zv_ri hI (k := 25) rfl
  refine zx_T.l (i := .aload_n 0) (k := 1) (v := .ref 44) (pc := 0) rfl rfl rfl ?_
  refine zx_T.s (i := .iconst 0) (k := 1) (st' := [.int (zI (0)), .ref 44]) (pc := 1) rfl rfl ?_
  refine zr_pi (k := 26) (lo := 0) (hi := 7) (e := 0) (pc := 2) rfl rfl rfl rfl rfl rfl hI (by omega) (by omega) (fun h1 ih1 w2 e3 => ?_)
  refine zx_T.l (i := .aload_n 0) (k := 1) (v := .ref 44) (pc := 5) rfl rfl rfl ?_
  refine zr_gr (k := 3) (b := 46) (pc := 6) rfl rfl rfl ih1 ?_
  refine zx_T.l (i := .iload_n 1) (k := 1) (v := .int (zI (p))) (pc := 9) rfl rfl rfl ?_
  refine zr_al (n := 60) (lo := (-2147483648)) (hi := 2147483647) (e := zv_a h 46 p) (pc := 10) rfl rfl rfl ih1 (by omega) (by omega) (zv_wa w2 rfl p) (fun g4a g4b => ?_)
  refine zx_T.t (i := .istore_n 2) (k := 1) (ls' := [(2, .int (zI (zv_a h 46 p))), (0, .ref 44), (1, .int (zI (p)))]) (st' := []) (pc := 11) rfl rfl rfl rfl ?_
  refine zx_T.l (i := .aload_n 0) (k := 1) (v := .ref 44) (pc := 12) rfl rfl rfl ?_
  refine zr_gr (k := 2) (b := 45) (pc := 13) rfl rfl rfl ih1 ?_
  refine zx_T.l (i := .iload_n 1) (k := 1) (v := .int (zI (p))) (pc := 16) rfl rfl rfl ?_
  refine zr_al (n := 60) (lo := 0) (hi := 28) (e := zv_a h 45 p) (pc := 17) rfl rfl rfl ih1 (by omega) (by omega) (zv_wa w2 rfl p) (fun g5a g5b => ?_)
  have c6 : zv_a h 45 p = 17 := by omega
  rcases c6 with c6
  · refine zr_sw (i := .tableswitch 424 1 28 #[126, 134, 142, 150, 158, 167, 176, 190, 198, 206, 214, 222, 222, 240, 258, 271, 284, 303, 322, 336, 350, 363, 424, 424, 372, 380, 372, 388]) (len := 126) (t := 302) (x := zv_a h 45 p) (k := 17) (pc := 18) rfl c6 rfl rfl rfl rfl ?_
    refine zx_T.l (i := .aload_n 0) (k := 1) (v := .ref 44) (pc := 302) rfl rfl rfl ?_
    refine zx_T.s (i := .iconst 1) (k := 1) (st' := [.int (zI (1)), .ref 44]) (pc := 303) rfl rfl ?_
    have y7 : zv_a h1 61 8 = zv_a h 61 8 := (zv_wa w2 rfl 8)
    refine zr_iv (cj := 162) (q' := zp_m162) (As := [.int (zI (1))]) (rest := []) (pc := 304) rfl rfl rfl rfl rfl rfl (Nat.le_of_ble_eq_true rfl) rfl (Nat.le_of_ble_eq_true rfl) ih1 ((zm_needF (h := h1) ih1 (w := 1) (by omega) (by omega)).up (Nat.le_of_ble_eq_true rfl)) ?_
    rintro r8 h11 ⟨ih11, w12, r8q, x10⟩
    subst r8q
    try dsimp only at x10
    have qh11 := x10
    show zx_T zp_P 3 zp_m167 307 [(2, .int (zI (zv_a h 46 p))), (0, .ref 44), (1, .int (zI (p)))] [] h11 _
    refine zx_T.l (i := .aload_n 0) (k := 1) (v := .ref 44) (pc := 307) rfl rfl rfl ?_
    refine zx_T.s (i := .bipush 6) (k := 2) (st' := [.int (zI (6)), .ref 44]) (pc := 308) rfl rfl ?_
    have y13 : zv_a h11 61 8 = zv_a h 61 8 := ((zv_wa w12 rfl 8).trans (zv_wa w2 rfl 8))
    refine zr_iv (cj := 162) (q' := zp_m162) (As := [.int (zI (6))]) (rest := []) (pc := 310) rfl rfl rfl rfl rfl rfl (Nat.le_of_ble_eq_true rfl) rfl (Nat.le_of_ble_eq_true rfl) ih11 ((zm_needF (h := h11) ih11 (w := 6) (by omega) (by omega)).up (Nat.le_of_ble_eq_true rfl)) ?_
    rintro r14 h17 ⟨ih17, w18, r14q, x16⟩
    subst r14q
    try dsimp only at x16
    have qh17 := x16
    show zx_T zp_P 3 zp_m167 313 [(2, .int (zI (zv_a h 46 p))), (0, .ref 44), (1, .int (zI (p)))] [] h17 _
    refine zx_T.l (i := .aload_n 0) (k := 1) (v := .ref 44) (pc := 313) rfl rfl rfl ?_
    refine zx_T.s (i := .iconst 1) (k := 1) (st' := [.int (zI (1)), .ref 44]) (pc := 314) rfl rfl ?_
    have y19 : zv_a h17 61 8 = zv_a h 61 8 := ((zv_wa w18 rfl 8).trans ((zv_wa w12 rfl 8).trans (zv_wa w2 rfl 8)))
    refine zr_iv (cj := 163) (q' := zp_m163) (As := [.int (zI (1))]) (rest := []) (pc := 315) rfl rfl rfl rfl rfl rfl (Nat.le_of_ble_eq_true rfl) rfl (Nat.le_of_ble_eq_true rfl) ih17 ((zm_pushF (h := h17) ih17 (k := 1) (by omega) (by omega) (by omega)).up (Nat.le_of_ble_eq_true rfl)) ?_
    rintro r20 h23 ⟨ih23, w24, r20q, x22⟩
    subst r20q
    try dsimp only at x22
    have qh23 := x22.1
    have p8 := x22.2 (by omega)
    show zx_T zp_P 3 zp_m167 318 [(2, .int (zI (zv_a h 46 p))), (0, .ref 44), (1, .int (zI (p)))] [] h23 _
    refine zx_T.j (i := .goto 124) (k := 3) (pc' := 442) (st' := []) (pc := 318) rfl rfl rfl rfl rfl ?_
    refine zx_T.l (i := .aload_n 0) (k := 1) (v := .ref 44) (pc := 442) rfl rfl rfl ?_
    refine zr_gi (k := 26) (lo := 0) (hi := 7) (e := zv_i h23 26) (pc := 443) rfl rfl rfl ih23 rfl (fun g25a g25b => ?_)
    have i25 : zv_i h23 25 = zv_i h23 25 := rfl
    have i26 : zv_i h23 26 = zv_i h23 26 := rfl
    have a61 : ∀ j, 0 ≤ j → zv_a h23 61 j = zv_a h23 61 j := fun j hj => rfl
    have y29 := zv_ri ih23 (k := 25) rfl
    exact zr_ir (x := zv_i h23 26) (pc := 446) rfl rfl rfl ⟨ih23, ((((w2.wd rfl : zb_W [(44, 25), (44, 26), (61, 0)] h _).tr (w12.wd rfl)).tr (w18.wd rfl)).tr (w24.wd rfl)), _, rfl, by dsimp only; exact ⟨by omega, by rw [ov]; exact (qh23.tr (zs_push_eq (qh17.tr (zs_need_eq (qh11.tr (zs_need_eq (⟨e3, zv_wi w2 rfl, fun j _ => zv_wa w2 rfl j⟩ : zt_eq (zv_i h1 26, zv_i h1 25, zv_a h1 61) (0, zv_i h 25, zv_a h 61)) (zv_ri ih1 (k := 25) rfl).1)) (zv_ri ih11 (k := 25) rfl).1))))⟩⟩

set_option maxRecDepth 100000 in
set_option maxHeartbeats 8000000 in
theorem zm_doesF_c18 {h : zx_H} (hI : zb_I zc_H h) {p : Int} (p1 : 0 ≤ p) (p2 : p ≤ 59) (n8 : ¬ zv_a h 61 8 = 3) (ic : zv_a h 45 p = 21 → 5 ≤ zv_a h 46 p ∧ zv_a h 46 p ≤ 8) (ov : zv_a h 45 p = 18) : zx_T zp_P 3 zp_m167 0 [(0, .ref 44), (1, .int (zI (p)))] [] h (zr_R [(44, 25), (44, 26), (61, 0)] h (fun e h' => e = zv_i h' 26 ∧ zt_eq (zv_i h' 26, zv_i h' 25, zv_a h' 61) (zs_ap (zv_a h 45 p) (zv_a h 46 p) (0, zv_i h 25, zv_a h 61)))) := by
  have hS := zv_ri hI (k := 25) rfl
  refine zx_T.l (i := .aload_n 0) (k := 1) (v := .ref 44) (pc := 0) rfl rfl rfl ?_
  refine zx_T.s (i := .iconst 0) (k := 1) (st' := [.int (zI (0)), .ref 44]) (pc := 1) rfl rfl ?_
  refine zr_pi (k := 26) (lo := 0) (hi := 7) (e := 0) (pc := 2) rfl rfl rfl rfl rfl rfl hI (by omega) (by omega) (fun h1 ih1 w2 e3 => ?_)
  refine zx_T.l (i := .aload_n 0) (k := 1) (v := .ref 44) (pc := 5) rfl rfl rfl ?_
  refine zr_gr (k := 3) (b := 46) (pc := 6) rfl rfl rfl ih1 ?_
  refine zx_T.l (i := .iload_n 1) (k := 1) (v := .int (zI (p))) (pc := 9) rfl rfl rfl ?_
  refine zr_al (n := 60) (lo := (-2147483648)) (hi := 2147483647) (e := zv_a h 46 p) (pc := 10) rfl rfl rfl ih1 (by omega) (by omega) (zv_wa w2 rfl p) (fun g4a g4b => ?_)
  refine zx_T.t (i := .istore_n 2) (k := 1) (ls' := [(2, .int (zI (zv_a h 46 p))), (0, .ref 44), (1, .int (zI (p)))]) (st' := []) (pc := 11) rfl rfl rfl rfl ?_
  refine zx_T.l (i := .aload_n 0) (k := 1) (v := .ref 44) (pc := 12) rfl rfl rfl ?_
  refine zr_gr (k := 2) (b := 45) (pc := 13) rfl rfl rfl ih1 ?_
  refine zx_T.l (i := .iload_n 1) (k := 1) (v := .int (zI (p))) (pc := 16) rfl rfl rfl ?_
  refine zr_al (n := 60) (lo := 0) (hi := 28) (e := zv_a h 45 p) (pc := 17) rfl rfl rfl ih1 (by omega) (by omega) (zv_wa w2 rfl p) (fun g5a g5b => ?_)
  have c6 : zv_a h 45 p = 18 := by omega
  rcases c6 with c6
  · refine zr_sw (i := .tableswitch 424 1 28 #[126, 134, 142, 150, 158, 167, 176, 190, 198, 206, 214, 222, 222, 240, 258, 271, 284, 303, 322, 336, 350, 363, 424, 424, 372, 380, 372, 388]) (len := 126) (t := 321) (x := zv_a h 45 p) (k := 18) (pc := 18) rfl c6 rfl rfl rfl rfl ?_
    refine zx_T.l (i := .aload_n 0) (k := 1) (v := .ref 44) (pc := 321) rfl rfl rfl ?_
    refine zx_T.s (i := .iconst 1) (k := 1) (st' := [.int (zI (1)), .ref 44]) (pc := 322) rfl rfl ?_
    have y7 : zv_a h1 61 8 = zv_a h 61 8 := (zv_wa w2 rfl 8)
    refine zr_iv (cj := 162) (q' := zp_m162) (As := [.int (zI (1))]) (rest := []) (pc := 323) rfl rfl rfl rfl rfl rfl (Nat.le_of_ble_eq_true rfl) rfl (Nat.le_of_ble_eq_true rfl) ih1 ((zm_needF (h := h1) ih1 (w := 1) (by omega) (by omega)).up (Nat.le_of_ble_eq_true rfl)) ?_
    rintro r8 h11 ⟨ih11, w12, r8q, x10⟩
    subst r8q
    try dsimp only at x10
    have qh11 := x10
    show zx_T zp_P 3 zp_m167 326 [(2, .int (zI (zv_a h 46 p))), (0, .ref 44), (1, .int (zI (p)))] [] h11 _
    refine zx_T.l (i := .aload_n 0) (k := 1) (v := .ref 44) (pc := 326) rfl rfl rfl ?_
    refine zx_T.s (i := .iconst 1) (k := 1) (st' := [.int (zI (1)), .ref 44]) (pc := 327) rfl rfl ?_
    have y13 : zv_a h11 61 8 = zv_a h 61 8 := ((zv_wa w12 rfl 8).trans (zv_wa w2 rfl 8))
    refine zr_iv (cj := 162) (q' := zp_m162) (As := [.int (zI (1))]) (rest := []) (pc := 328) rfl rfl rfl rfl rfl rfl (Nat.le_of_ble_eq_true rfl) rfl (Nat.le_of_ble_eq_true rfl) ih11 ((zm_needF (h := h11) ih11 (w := 1) (by omega) (by omega)).up (Nat.le_of_ble_eq_true rfl)) ?_
    rintro r14 h17 ⟨ih17, w18, r14q, x16⟩
    subst r14q
    try dsimp only at x16
    have qh17 := x16
    show zx_T zp_P 3 zp_m167 331 [(2, .int (zI (zv_a h 46 p))), (0, .ref 44), (1, .int (zI (p)))] [] h17 _
    refine zx_T.l (i := .aload_n 0) (k := 1) (v := .ref 44) (pc := 331) rfl rfl rfl ?_
    refine zx_T.s (i := .bipush 6) (k := 2) (st' := [.int (zI (6)), .ref 44]) (pc := 332) rfl rfl ?_
    have y19 : zv_a h17 61 8 = zv_a h 61 8 := ((zv_wa w18 rfl 8).trans ((zv_wa w12 rfl 8).trans (zv_wa w2 rfl 8)))
    refine zr_iv (cj := 162) (q' := zp_m162) (As := [.int (zI (6))]) (rest := []) (pc := 334) rfl rfl rfl rfl rfl rfl (Nat.le_of_ble_eq_true rfl) rfl (Nat.le_of_ble_eq_true rfl) ih17 ((zm_needF (h := h17) ih17 (w := 6) (by omega) (by omega)).up (Nat.le_of_ble_eq_true rfl)) ?_
    rintro r20 h23 ⟨ih23, w24, r20q, x22⟩
    subst r20q
    try dsimp only at x22
    have qh23 := x22
    show zx_T zp_P 3 zp_m167 337 [(2, .int (zI (zv_a h 46 p))), (0, .ref 44), (1, .int (zI (p)))] [] h23 _
    refine zx_T.j (i := .goto 105) (k := 3) (pc' := 442) (st' := []) (pc := 337) rfl rfl rfl rfl rfl ?_
    refine zx_T.l (i := .aload_n 0) (k := 1) (v := .ref 44) (pc := 442) rfl rfl rfl ?_
    refine zr_gi (k := 26) (lo := 0) (hi := 7) (e := zv_i h23 26) (pc := 443) rfl rfl rfl ih23 rfl (fun g25a g25b => ?_)
    have i25 : zv_i h23 25 = zv_i h23 25 := rfl
    have i26 : zv_i h23 26 = zv_i h23 26 := rfl
    have a61 : ∀ j, 0 ≤ j → zv_a h23 61 j = zv_a h 61 j := fun j hj => by rw [zv_wa w24 rfl j, zv_wa w18 rfl j, zv_wa w12 rfl j, zv_wa w2 rfl j]
    have y29 := zv_ri ih23 (k := 25) rfl
    exact zr_ir (x := zv_i h23 26) (pc := 446) rfl rfl rfl ⟨ih23, ((((w2.wd rfl : zb_W [(44, 25), (44, 26), (61, 0)] h _).tr (w12.wd rfl)).tr (w18.wd rfl)).tr (w24.wd rfl)), _, rfl, by dsimp only; exact ⟨by omega, by rw [ov]; exact (qh23.tr (zs_need_eq (qh17.tr (zs_need_eq (qh11.tr (zs_need_eq (⟨e3, zv_wi w2 rfl, fun j _ => zv_wa w2 rfl j⟩ : zt_eq (zv_i h1 26, zv_i h1 25, zv_a h1 61) (0, zv_i h 25, zv_a h 61)) (zv_ri ih1 (k := 25) rfl).1)) (zv_ri ih11 (k := 25) rfl).1)) (zv_ri ih17 (k := 25) rfl).1))⟩⟩

set_option maxRecDepth 100000 in
set_option maxHeartbeats 8000000 in
theorem zm_doesF_c19 {h : zx_H} (hI : zb_I zc_H h) {p : Int} (p1 : 0 ≤ p) (p2 : p ≤ 59) (n8 : ¬ zv_a h 61 8 = 3) (ic : zv_a h 45 p = 21 → 5 ≤ zv_a h 46 p ∧ zv_a h 46 p ≤ 8) (ov : zv_a h 45 p = 19) : zx_T zp_P 3 zp_m167 0 [(0, .ref 44), (1, .int (zI (p)))] [] h (zr_R [(44, 25), (44, 26), (61, 0)] h (fun e h' => e = zv_i h' 26 ∧ zt_eq (zv_i h' 26, zv_i h' 25, zv_a h' 61) (zs_ap (zv_a h 45 p) (zv_a h 46 p) (0, zv_i h 25, zv_a h 61)))) := by
  have hS := zv_ri hI (k := 25) rfl
  refine zx_T.l (i := .aload_n 0) (k := 1) (v := .ref 44) (pc := 0) rfl rfl rfl ?_
  refine zx_T.s (i := .iconst 0) (k := 1) (st' := [.int (zI (0)), .ref 44]) (pc := 1) rfl rfl ?_
  refine zr_pi (k := 26) (lo := 0) (hi := 7) (e := 0) (pc := 2) rfl rfl rfl rfl rfl rfl hI (by omega) (by omega) (fun h1 ih1 w2 e3 => ?_)
  refine zx_T.l (i := .aload_n 0) (k := 1) (v := .ref 44) (pc := 5) rfl rfl rfl ?_
  refine zr_gr (k := 3) (b := 46) (pc := 6) rfl rfl rfl ih1 ?_
  refine zx_T.l (i := .iload_n 1) (k := 1) (v := .int (zI (p))) (pc := 9) rfl rfl rfl ?_
  refine zr_al (n := 60) (lo := (-2147483648)) (hi := 2147483647) (e := zv_a h 46 p) (pc := 10) rfl rfl rfl ih1 (by omega) (by omega) (zv_wa w2 rfl p) (fun g4a g4b => ?_)
  refine zx_T.t (i := .istore_n 2) (k := 1) (ls' := [(2, .int (zI (zv_a h 46 p))), (0, .ref 44), (1, .int (zI (p)))]) (st' := []) (pc := 11) rfl rfl rfl rfl ?_
  refine zx_T.l (i := .aload_n 0) (k := 1) (v := .ref 44) (pc := 12) rfl rfl rfl ?_
  refine zr_gr (k := 2) (b := 45) (pc := 13) rfl rfl rfl ih1 ?_
  refine zx_T.l (i := .iload_n 1) (k := 1) (v := .int (zI (p))) (pc := 16) rfl rfl rfl ?_
  refine zr_al (n := 60) (lo := 0) (hi := 28) (e := zv_a h 45 p) (pc := 17) rfl rfl rfl ih1 (by omega) (by omega) (zv_wa w2 rfl p) (fun g5a g5b => ?_)
  have c6 : zv_a h 45 p = 19 := by omega
  rcases c6 with c6
  · refine zr_sw (i := .tableswitch 424 1 28 #[126, 134, 142, 150, 158, 167, 176, 190, 198, 206, 214, 222, 222, 240, 258, 271, 284, 303, 322, 336, 350, 363, 424, 424, 372, 380, 372, 388]) (len := 126) (t := 340) (x := zv_a h 45 p) (k := 19) (pc := 18) rfl c6 rfl rfl rfl rfl ?_
    refine zx_T.l (i := .aload_n 0) (k := 1) (v := .ref 44) (pc := 340) rfl rfl rfl ?_
    refine zx_T.s (i := .bipush 6) (k := 2) (st' := [.int (zI (6)), .ref 44]) (pc := 341) rfl rfl ?_
    have y7 : zv_a h1 61 8 = zv_a h 61 8 := (zv_wa w2 rfl 8)
    refine zr_iv (cj := 162) (q' := zp_m162) (As := [.int (zI (6))]) (rest := []) (pc := 343) rfl rfl rfl rfl rfl rfl (Nat.le_of_ble_eq_true rfl) rfl (Nat.le_of_ble_eq_true rfl) ih1 ((zm_needF (h := h1) ih1 (w := 6) (by omega) (by omega)).up (Nat.le_of_ble_eq_true rfl)) ?_
    rintro r8 h11 ⟨ih11, w12, r8q, x10⟩
    subst r8q
    try dsimp only at x10
    have qh11 := x10
    show zx_T zp_P 3 zp_m167 346 [(2, .int (zI (zv_a h 46 p))), (0, .ref 44), (1, .int (zI (p)))] [] h11 _
    refine zx_T.l (i := .aload_n 0) (k := 1) (v := .ref 44) (pc := 346) rfl rfl rfl ?_
    refine zx_T.s (i := .iconst 1) (k := 1) (st' := [.int (zI (1)), .ref 44]) (pc := 347) rfl rfl ?_
    have y13 : zv_a h11 61 8 = zv_a h 61 8 := ((zv_wa w12 rfl 8).trans (zv_wa w2 rfl 8))
    refine zr_iv (cj := 163) (q' := zp_m163) (As := [.int (zI (1))]) (rest := []) (pc := 348) rfl rfl rfl rfl rfl rfl (Nat.le_of_ble_eq_true rfl) rfl (Nat.le_of_ble_eq_true rfl) ih11 ((zm_pushF (h := h11) ih11 (k := 1) (by omega) (by omega) (by omega)).up (Nat.le_of_ble_eq_true rfl)) ?_
    rintro r14 h17 ⟨ih17, w18, r14q, x16⟩
    subst r14q
    try dsimp only at x16
    have qh17 := x16.1
    have p8 := x16.2 (by omega)
    show zx_T zp_P 3 zp_m167 351 [(2, .int (zI (zv_a h 46 p))), (0, .ref 44), (1, .int (zI (p)))] [] h17 _
    refine zx_T.j (i := .goto 91) (k := 3) (pc' := 442) (st' := []) (pc := 351) rfl rfl rfl rfl rfl ?_
    refine zx_T.l (i := .aload_n 0) (k := 1) (v := .ref 44) (pc := 442) rfl rfl rfl ?_
    refine zr_gi (k := 26) (lo := 0) (hi := 7) (e := zv_i h17 26) (pc := 443) rfl rfl rfl ih17 rfl (fun g19a g19b => ?_)
    have i25 : zv_i h17 25 = zv_i h17 25 := rfl
    have i26 : zv_i h17 26 = zv_i h17 26 := rfl
    have a61 : ∀ j, 0 ≤ j → zv_a h17 61 j = zv_a h17 61 j := fun j hj => rfl
    have y23 := zv_ri ih17 (k := 25) rfl
    exact zr_ir (x := zv_i h17 26) (pc := 446) rfl rfl rfl ⟨ih17, (((w2.wd rfl : zb_W [(44, 25), (44, 26), (61, 0)] h _).tr (w12.wd rfl)).tr (w18.wd rfl)), _, rfl, by dsimp only; exact ⟨by omega, by rw [ov]; exact (qh17.tr (zs_push_eq (qh11.tr (zs_need_eq (⟨e3, zv_wi w2 rfl, fun j _ => zv_wa w2 rfl j⟩ : zt_eq (zv_i h1 26, zv_i h1 25, zv_a h1 61) (0, zv_i h 25, zv_a h 61)) (zv_ri ih1 (k := 25) rfl).1))))⟩⟩

set_option maxRecDepth 100000 in
set_option maxHeartbeats 8000000 in
theorem zm_doesF_c20 {h : zx_H} (hI : zb_I zc_H h) {p : Int} (p1 : 0 ≤ p) (p2 : p ≤ 59) (n8 : ¬ zv_a h 61 8 = 3) (ic : zv_a h 45 p = 21 → 5 ≤ zv_a h 46 p ∧ zv_a h 46 p ≤ 8) (ov : zv_a h 45 p = 20) : zx_T zp_P 3 zp_m167 0 [(0, .ref 44), (1, .int (zI (p)))] [] h (zr_R [(44, 25), (44, 26), (61, 0)] h (fun e h' => e = zv_i h' 26 ∧ zt_eq (zv_i h' 26, zv_i h' 25, zv_a h' 61) (zs_ap (zv_a h 45 p) (zv_a h 46 p) (0, zv_i h 25, zv_a h 61)))) := by
  have hS := zv_ri hI (k := 25) rfl
  refine zx_T.l (i := .aload_n 0) (k := 1) (v := .ref 44) (pc := 0) rfl rfl rfl ?_
  refine zx_T.s (i := .iconst 0) (k := 1) (st' := [.int (zI (0)), .ref 44]) (pc := 1) rfl rfl ?_
  refine zr_pi (k := 26) (lo := 0) (hi := 7) (e := 0) (pc := 2) rfl rfl rfl rfl rfl rfl hI (by omega) (by omega) (fun h1 ih1 w2 e3 => ?_)
  refine zx_T.l (i := .aload_n 0) (k := 1) (v := .ref 44) (pc := 5) rfl rfl rfl ?_
  refine zr_gr (k := 3) (b := 46) (pc := 6) rfl rfl rfl ih1 ?_
  refine zx_T.l (i := .iload_n 1) (k := 1) (v := .int (zI (p))) (pc := 9) rfl rfl rfl ?_
  refine zr_al (n := 60) (lo := (-2147483648)) (hi := 2147483647) (e := zv_a h 46 p) (pc := 10) rfl rfl rfl ih1 (by omega) (by omega) (zv_wa w2 rfl p) (fun g4a g4b => ?_)
  refine zx_T.t (i := .istore_n 2) (k := 1) (ls' := [(2, .int (zI (zv_a h 46 p))), (0, .ref 44), (1, .int (zI (p)))]) (st' := []) (pc := 11) rfl rfl rfl rfl ?_
  refine zx_T.l (i := .aload_n 0) (k := 1) (v := .ref 44) (pc := 12) rfl rfl rfl ?_
  refine zr_gr (k := 2) (b := 45) (pc := 13) rfl rfl rfl ih1 ?_
  refine zx_T.l (i := .iload_n 1) (k := 1) (v := .int (zI (p))) (pc := 16) rfl rfl rfl ?_
  refine zr_al (n := 60) (lo := 0) (hi := 28) (e := zv_a h 45 p) (pc := 17) rfl rfl rfl ih1 (by omega) (by omega) (zv_wa w2 rfl p) (fun g5a g5b => ?_)
  have c6 : zv_a h 45 p = 20 := by omega
  rcases c6 with c6
  · refine zr_sw (i := .tableswitch 424 1 28 #[126, 134, 142, 150, 158, 167, 176, 190, 198, 206, 214, 222, 222, 240, 258, 271, 284, 303, 322, 336, 350, 363, 424, 424, 372, 380, 372, 388]) (len := 126) (t := 354) (x := zv_a h 45 p) (k := 20) (pc := 18) rfl c6 rfl rfl rfl rfl ?_
    refine zx_T.l (i := .aload_n 0) (k := 1) (v := .ref 44) (pc := 354) rfl rfl rfl ?_
    refine zx_T.s (i := .bipush 7) (k := 2) (st' := [.int (zI (7)), .ref 44]) (pc := 355) rfl rfl ?_
    have y7 : zv_a h1 61 8 = zv_a h 61 8 := (zv_wa w2 rfl 8)
    refine zr_iv (cj := 162) (q' := zp_m162) (As := [.int (zI (7))]) (rest := []) (pc := 357) rfl rfl rfl rfl rfl rfl (Nat.le_of_ble_eq_true rfl) rfl (Nat.le_of_ble_eq_true rfl) ih1 ((zm_needF (h := h1) ih1 (w := 7) (by omega) (by omega)).up (Nat.le_of_ble_eq_true rfl)) ?_
    rintro r8 h11 ⟨ih11, w12, r8q, x10⟩
    subst r8q
    try dsimp only at x10
    have qh11 := x10
    show zx_T zp_P 3 zp_m167 360 [(2, .int (zI (zv_a h 46 p))), (0, .ref 44), (1, .int (zI (p)))] [] h11 _
    refine zx_T.l (i := .aload_n 0) (k := 1) (v := .ref 44) (pc := 360) rfl rfl rfl ?_
    refine zx_T.s (i := .iconst 1) (k := 1) (st' := [.int (zI (1)), .ref 44]) (pc := 361) rfl rfl ?_
    have y13 : zv_a h11 61 8 = zv_a h 61 8 := ((zv_wa w12 rfl 8).trans (zv_wa w2 rfl 8))
    refine zr_iv (cj := 163) (q' := zp_m163) (As := [.int (zI (1))]) (rest := []) (pc := 362) rfl rfl rfl rfl rfl rfl (Nat.le_of_ble_eq_true rfl) rfl (Nat.le_of_ble_eq_true rfl) ih11 ((zm_pushF (h := h11) ih11 (k := 1) (by omega) (by omega) (by omega)).up (Nat.le_of_ble_eq_true rfl)) ?_
    rintro r14 h17 ⟨ih17, w18, r14q, x16⟩
    subst r14q
    try dsimp only at x16
    have qh17 := x16.1
    have p8 := x16.2 (by omega)
    show zx_T zp_P 3 zp_m167 365 [(2, .int (zI (zv_a h 46 p))), (0, .ref 44), (1, .int (zI (p)))] [] h17 _
    refine zx_T.j (i := .goto 77) (k := 3) (pc' := 442) (st' := []) (pc := 365) rfl rfl rfl rfl rfl ?_
    refine zx_T.l (i := .aload_n 0) (k := 1) (v := .ref 44) (pc := 442) rfl rfl rfl ?_
    refine zr_gi (k := 26) (lo := 0) (hi := 7) (e := zv_i h17 26) (pc := 443) rfl rfl rfl ih17 rfl (fun g19a g19b => ?_)
    have i25 : zv_i h17 25 = zv_i h17 25 := rfl
    have i26 : zv_i h17 26 = zv_i h17 26 := rfl
    have a61 : ∀ j, 0 ≤ j → zv_a h17 61 j = zv_a h17 61 j := fun j hj => rfl
    have y23 := zv_ri ih17 (k := 25) rfl
    exact zr_ir (x := zv_i h17 26) (pc := 446) rfl rfl rfl ⟨ih17, (((w2.wd rfl : zb_W [(44, 25), (44, 26), (61, 0)] h _).tr (w12.wd rfl)).tr (w18.wd rfl)), _, rfl, by dsimp only; exact ⟨by omega, by rw [ov]; exact (qh17.tr (zs_push_eq (qh11.tr (zs_need_eq (⟨e3, zv_wi w2 rfl, fun j _ => zv_wa w2 rfl j⟩ : zt_eq (zv_i h1 26, zv_i h1 25, zv_a h1 61) (0, zv_i h 25, zv_a h 61)) (zv_ri ih1 (k := 25) rfl).1))))⟩⟩

set_option maxRecDepth 100000 in
set_option maxHeartbeats 8000000 in
theorem zm_doesF_c21 {h : zx_H} (hI : zb_I zc_H h) {p : Int} (p1 : 0 ≤ p) (p2 : p ≤ 59) (n8 : ¬ zv_a h 61 8 = 3) (ic : zv_a h 45 p = 21 → 5 ≤ zv_a h 46 p ∧ zv_a h 46 p ≤ 8) (ov : zv_a h 45 p = 21) : zx_T zp_P 3 zp_m167 0 [(0, .ref 44), (1, .int (zI (p)))] [] h (zr_R [(44, 25), (44, 26), (61, 0)] h (fun e h' => e = zv_i h' 26 ∧ zt_eq (zv_i h' 26, zv_i h' 25, zv_a h' 61) (zs_ap (zv_a h 45 p) (zv_a h 46 p) (0, zv_i h 25, zv_a h 61)))) := by
  have hS := zv_ri hI (k := 25) rfl
  refine zx_T.l (i := .aload_n 0) (k := 1) (v := .ref 44) (pc := 0) rfl rfl rfl ?_
  refine zx_T.s (i := .iconst 0) (k := 1) (st' := [.int (zI (0)), .ref 44]) (pc := 1) rfl rfl ?_
  refine zr_pi (k := 26) (lo := 0) (hi := 7) (e := 0) (pc := 2) rfl rfl rfl rfl rfl rfl hI (by omega) (by omega) (fun h1 ih1 w2 e3 => ?_)
  refine zx_T.l (i := .aload_n 0) (k := 1) (v := .ref 44) (pc := 5) rfl rfl rfl ?_
  refine zr_gr (k := 3) (b := 46) (pc := 6) rfl rfl rfl ih1 ?_
  refine zx_T.l (i := .iload_n 1) (k := 1) (v := .int (zI (p))) (pc := 9) rfl rfl rfl ?_
  refine zr_al (n := 60) (lo := (-2147483648)) (hi := 2147483647) (e := zv_a h 46 p) (pc := 10) rfl rfl rfl ih1 (by omega) (by omega) (zv_wa w2 rfl p) (fun g4a g4b => ?_)
  refine zx_T.t (i := .istore_n 2) (k := 1) (ls' := [(2, .int (zI (zv_a h 46 p))), (0, .ref 44), (1, .int (zI (p)))]) (st' := []) (pc := 11) rfl rfl rfl rfl ?_
  refine zx_T.l (i := .aload_n 0) (k := 1) (v := .ref 44) (pc := 12) rfl rfl rfl ?_
  refine zr_gr (k := 2) (b := 45) (pc := 13) rfl rfl rfl ih1 ?_
  refine zx_T.l (i := .iload_n 1) (k := 1) (v := .int (zI (p))) (pc := 16) rfl rfl rfl ?_
  refine zr_al (n := 60) (lo := 0) (hi := 28) (e := zv_a h 45 p) (pc := 17) rfl rfl rfl ih1 (by omega) (by omega) (zv_wa w2 rfl p) (fun g5a g5b => ?_)
  have c6 : zv_a h 45 p = 21 := by omega
  rcases c6 with c6
  · refine zr_sw (i := .tableswitch 424 1 28 #[126, 134, 142, 150, 158, 167, 176, 190, 198, 206, 214, 222, 222, 240, 258, 271, 284, 303, 322, 336, 350, 363, 424, 424, 372, 380, 372, 388]) (len := 126) (t := 368) (x := zv_a h 45 p) (k := 21) (pc := 18) rfl c6 rfl rfl rfl rfl ?_
    refine zx_T.l (i := .aload_n 0) (k := 1) (v := .ref 44) (pc := 368) rfl rfl rfl ?_
    refine zx_T.s (i := .iconst 5) (k := 1) (st' := [.int (zI (5)), .ref 44]) (pc := 369) rfl rfl ?_
    have y7 : zv_a h1 61 8 = zv_a h 61 8 := (zv_wa w2 rfl 8)
    refine zr_iv (cj := 162) (q' := zp_m162) (As := [.int (zI (5))]) (rest := []) (pc := 370) rfl rfl rfl rfl rfl rfl (Nat.le_of_ble_eq_true rfl) rfl (Nat.le_of_ble_eq_true rfl) ih1 ((zm_needF (h := h1) ih1 (w := 5) (by omega) (by omega)).up (Nat.le_of_ble_eq_true rfl)) ?_
    rintro r8 h11 ⟨ih11, w12, r8q, x10⟩
    subst r8q
    try dsimp only at x10
    have qh11 := x10
    show zx_T zp_P 3 zp_m167 373 [(2, .int (zI (zv_a h 46 p))), (0, .ref 44), (1, .int (zI (p)))] [] h11 _
    refine zx_T.l (i := .aload_n 0) (k := 1) (v := .ref 44) (pc := 373) rfl rfl rfl ?_
    refine zx_T.l (i := .iload_n 2) (k := 1) (v := .int (zI (zv_a h 46 p))) (pc := 374) rfl rfl rfl ?_
    have y13 : zv_a h11 61 8 = zv_a h 61 8 := ((zv_wa w12 rfl 8).trans (zv_wa w2 rfl 8))
    refine zr_iv (cj := 163) (q' := zp_m163) (As := [.int (zI (zv_a h 46 p))]) (rest := []) (pc := 375) rfl rfl rfl rfl rfl rfl (Nat.le_of_ble_eq_true rfl) rfl (Nat.le_of_ble_eq_true rfl) ih11 ((zm_pushF (h := h11) ih11 (k := zv_a h 46 p) (by omega) (by omega) (by omega)).up (Nat.le_of_ble_eq_true rfl)) ?_
    rintro r14 h17 ⟨ih17, w18, r14q, x16⟩
    subst r14q
    try dsimp only at x16
    have qh17 := x16.1
    have p8 := x16.2 (by omega)
    show zx_T zp_P 3 zp_m167 378 [(2, .int (zI (zv_a h 46 p))), (0, .ref 44), (1, .int (zI (p)))] [] h17 _
    refine zx_T.j (i := .goto 64) (k := 3) (pc' := 442) (st' := []) (pc := 378) rfl rfl rfl rfl rfl ?_
    refine zx_T.l (i := .aload_n 0) (k := 1) (v := .ref 44) (pc := 442) rfl rfl rfl ?_
    refine zr_gi (k := 26) (lo := 0) (hi := 7) (e := zv_i h17 26) (pc := 443) rfl rfl rfl ih17 rfl (fun g19a g19b => ?_)
    have i25 : zv_i h17 25 = zv_i h17 25 := rfl
    have i26 : zv_i h17 26 = zv_i h17 26 := rfl
    have a61 : ∀ j, 0 ≤ j → zv_a h17 61 j = zv_a h17 61 j := fun j hj => rfl
    have y23 := zv_ri ih17 (k := 25) rfl
    exact zr_ir (x := zv_i h17 26) (pc := 446) rfl rfl rfl ⟨ih17, (((w2.wd rfl : zb_W [(44, 25), (44, 26), (61, 0)] h _).tr (w12.wd rfl)).tr (w18.wd rfl)), _, rfl, by dsimp only; exact ⟨by omega, by rw [ov]; exact (qh17.tr (zs_push_eq (qh11.tr (zs_need_eq (⟨e3, zv_wi w2 rfl, fun j _ => zv_wa w2 rfl j⟩ : zt_eq (zv_i h1 26, zv_i h1 25, zv_a h1 61) (0, zv_i h 25, zv_a h 61)) (zv_ri ih1 (k := 25) rfl).1))))⟩⟩

set_option maxRecDepth 100000 in
set_option maxHeartbeats 8000000 in
theorem zm_doesF_c22 {h : zx_H} (hI : zb_I zc_H h) {p : Int} (p1 : 0 ≤ p) (p2 : p ≤ 59) (n8 : ¬ zv_a h 61 8 = 3) (ic : zv_a h 45 p = 21 → 5 ≤ zv_a h 46 p ∧ zv_a h 46 p ≤ 8) (ov : zv_a h 45 p = 22) : zx_T zp_P 3 zp_m167 0 [(0, .ref 44), (1, .int (zI (p)))] [] h (zr_R [(44, 25), (44, 26), (61, 0)] h (fun e h' => e = zv_i h' 26 ∧ zt_eq (zv_i h' 26, zv_i h' 25, zv_a h' 61) (zs_ap (zv_a h 45 p) (zv_a h 46 p) (0, zv_i h 25, zv_a h 61)))) := by
  have hS := zv_ri hI (k := 25) rfl
  refine zx_T.l (i := .aload_n 0) (k := 1) (v := .ref 44) (pc := 0) rfl rfl rfl ?_
  refine zx_T.s (i := .iconst 0) (k := 1) (st' := [.int (zI (0)), .ref 44]) (pc := 1) rfl rfl ?_
  refine zr_pi (k := 26) (lo := 0) (hi := 7) (e := 0) (pc := 2) rfl rfl rfl rfl rfl rfl hI (by omega) (by omega) (fun h1 ih1 w2 e3 => ?_)
  refine zx_T.l (i := .aload_n 0) (k := 1) (v := .ref 44) (pc := 5) rfl rfl rfl ?_
  refine zr_gr (k := 3) (b := 46) (pc := 6) rfl rfl rfl ih1 ?_
  refine zx_T.l (i := .iload_n 1) (k := 1) (v := .int (zI (p))) (pc := 9) rfl rfl rfl ?_
  refine zr_al (n := 60) (lo := (-2147483648)) (hi := 2147483647) (e := zv_a h 46 p) (pc := 10) rfl rfl rfl ih1 (by omega) (by omega) (zv_wa w2 rfl p) (fun g4a g4b => ?_)
  refine zx_T.t (i := .istore_n 2) (k := 1) (ls' := [(2, .int (zI (zv_a h 46 p))), (0, .ref 44), (1, .int (zI (p)))]) (st' := []) (pc := 11) rfl rfl rfl rfl ?_
  refine zx_T.l (i := .aload_n 0) (k := 1) (v := .ref 44) (pc := 12) rfl rfl rfl ?_
  refine zr_gr (k := 2) (b := 45) (pc := 13) rfl rfl rfl ih1 ?_
  refine zx_T.l (i := .iload_n 1) (k := 1) (v := .int (zI (p))) (pc := 16) rfl rfl rfl ?_
  refine zr_al (n := 60) (lo := 0) (hi := 28) (e := zv_a h 45 p) (pc := 17) rfl rfl rfl ih1 (by omega) (by omega) (zv_wa w2 rfl p) (fun g5a g5b => ?_)
  have c6 : zv_a h 45 p = 22 := by omega
  rcases c6 with c6
  · refine zr_sw (i := .tableswitch 424 1 28 #[126, 134, 142, 150, 158, 167, 176, 190, 198, 206, 214, 222, 222, 240, 258, 271, 284, 303, 322, 336, 350, 363, 424, 424, 372, 380, 372, 388]) (len := 126) (t := 381) (x := zv_a h 45 p) (k := 22) (pc := 18) rfl c6 rfl rfl rfl rfl ?_
    refine zx_T.l (i := .aload_n 0) (k := 1) (v := .ref 44) (pc := 381) rfl rfl rfl ?_
    refine zx_T.s (i := .bipush 7) (k := 2) (st' := [.int (zI (7)), .ref 44]) (pc := 382) rfl rfl ?_
    have y7 : zv_a h1 61 8 = zv_a h 61 8 := (zv_wa w2 rfl 8)
    refine zr_iv (cj := 162) (q' := zp_m162) (As := [.int (zI (7))]) (rest := []) (pc := 384) rfl rfl rfl rfl rfl rfl (Nat.le_of_ble_eq_true rfl) rfl (Nat.le_of_ble_eq_true rfl) ih1 ((zm_needF (h := h1) ih1 (w := 7) (by omega) (by omega)).up (Nat.le_of_ble_eq_true rfl)) ?_
    rintro r8 h11 ⟨ih11, w12, r8q, x10⟩
    subst r8q
    try dsimp only at x10
    have qh11 := x10
    show zx_T zp_P 3 zp_m167 387 [(2, .int (zI (zv_a h 46 p))), (0, .ref 44), (1, .int (zI (p)))] [] h11 _
    refine zx_T.j (i := .goto 55) (k := 3) (pc' := 442) (st' := []) (pc := 387) rfl rfl rfl rfl rfl ?_
    refine zx_T.l (i := .aload_n 0) (k := 1) (v := .ref 44) (pc := 442) rfl rfl rfl ?_
    refine zr_gi (k := 26) (lo := 0) (hi := 7) (e := zv_i h11 26) (pc := 443) rfl rfl rfl ih11 rfl (fun g13a g13b => ?_)
    have i25 : zv_i h11 25 = zv_i h11 25 := rfl
    have i26 : zv_i h11 26 = zv_i h11 26 := rfl
    have a61 : ∀ j, 0 ≤ j → zv_a h11 61 j = zv_a h 61 j := fun j hj => by rw [zv_wa w12 rfl j, zv_wa w2 rfl j]
    have y17 := zv_ri ih11 (k := 25) rfl
    exact zr_ir (x := zv_i h11 26) (pc := 446) rfl rfl rfl ⟨ih11, ((w2.wd rfl : zb_W [(44, 25), (44, 26), (61, 0)] h _).tr (w12.wd rfl)), _, rfl, by dsimp only; exact ⟨by omega, by rw [ov]; exact (qh11.tr (zs_need_eq (⟨e3, zv_wi w2 rfl, fun j _ => zv_wa w2 rfl j⟩ : zt_eq (zv_i h1 26, zv_i h1 25, zv_a h1 61) (0, zv_i h 25, zv_a h 61)) (zv_ri ih1 (k := 25) rfl).1))⟩⟩

set_option maxRecDepth 100000 in
set_option maxHeartbeats 8000000 in
theorem zm_doesF_c23 {h : zx_H} (hI : zb_I zc_H h) {p : Int} (p1 : 0 ≤ p) (p2 : p ≤ 59) (n8 : ¬ zv_a h 61 8 = 3) (ic : zv_a h 45 p = 21 → 5 ≤ zv_a h 46 p ∧ zv_a h 46 p ≤ 8) (ov : zv_a h 45 p = 23) : zx_T zp_P 3 zp_m167 0 [(0, .ref 44), (1, .int (zI (p)))] [] h (zr_R [(44, 25), (44, 26), (61, 0)] h (fun e h' => e = zv_i h' 26 ∧ zt_eq (zv_i h' 26, zv_i h' 25, zv_a h' 61) (zs_ap (zv_a h 45 p) (zv_a h 46 p) (0, zv_i h 25, zv_a h 61)))) := by
  have hS := zv_ri hI (k := 25) rfl
  refine zx_T.l (i := .aload_n 0) (k := 1) (v := .ref 44) (pc := 0) rfl rfl rfl ?_
  refine zx_T.s (i := .iconst 0) (k := 1) (st' := [.int (zI (0)), .ref 44]) (pc := 1) rfl rfl ?_
  refine zr_pi (k := 26) (lo := 0) (hi := 7) (e := 0) (pc := 2) rfl rfl rfl rfl rfl rfl hI (by omega) (by omega) (fun h1 ih1 w2 e3 => ?_)
  refine zx_T.l (i := .aload_n 0) (k := 1) (v := .ref 44) (pc := 5) rfl rfl rfl ?_
  refine zr_gr (k := 3) (b := 46) (pc := 6) rfl rfl rfl ih1 ?_
  refine zx_T.l (i := .iload_n 1) (k := 1) (v := .int (zI (p))) (pc := 9) rfl rfl rfl ?_
  refine zr_al (n := 60) (lo := (-2147483648)) (hi := 2147483647) (e := zv_a h 46 p) (pc := 10) rfl rfl rfl ih1 (by omega) (by omega) (zv_wa w2 rfl p) (fun g4a g4b => ?_)
  refine zx_T.t (i := .istore_n 2) (k := 1) (ls' := [(2, .int (zI (zv_a h 46 p))), (0, .ref 44), (1, .int (zI (p)))]) (st' := []) (pc := 11) rfl rfl rfl rfl ?_
  refine zx_T.l (i := .aload_n 0) (k := 1) (v := .ref 44) (pc := 12) rfl rfl rfl ?_
  refine zr_gr (k := 2) (b := 45) (pc := 13) rfl rfl rfl ih1 ?_
  refine zx_T.l (i := .iload_n 1) (k := 1) (v := .int (zI (p))) (pc := 16) rfl rfl rfl ?_
  refine zr_al (n := 60) (lo := 0) (hi := 28) (e := zv_a h 45 p) (pc := 17) rfl rfl rfl ih1 (by omega) (by omega) (zv_wa w2 rfl p) (fun g5a g5b => ?_)
  have c6 : zv_a h 45 p = 23 := by omega
  rcases c6 with c6
  · refine zr_sw (i := .tableswitch 424 1 28 #[126, 134, 142, 150, 158, 167, 176, 190, 198, 206, 214, 222, 222, 240, 258, 271, 284, 303, 322, 336, 350, 363, 424, 424, 372, 380, 372, 388]) (len := 126) (t := 442) (x := zv_a h 45 p) (k := 23) (pc := 18) rfl c6 rfl rfl rfl rfl ?_
    refine zx_T.l (i := .aload_n 0) (k := 1) (v := .ref 44) (pc := 442) rfl rfl rfl ?_
    refine zr_gi (k := 26) (lo := 0) (hi := 7) (e := 0) (pc := 443) rfl rfl rfl ih1 e3 (fun g7a g7b => ?_)
    have i25 : zv_i h1 25 = zv_i h 25 := (zv_wi w2 rfl)
    have i26 : zv_i h1 26 = 0 := e3
    have a61 : ∀ j, 0 ≤ j → zv_a h1 61 j = zv_a h 61 j := fun j hj => by rw [zv_wa w2 rfl j]
    have y11 := zv_ri ih1 (k := 25) rfl
    exact zr_ir (x := 0) (pc := 446) rfl rfl rfl ⟨ih1, (w2.wd rfl : zb_W [(44, 25), (44, 26), (61, 0)] h _), _, rfl, by dsimp only; exact ⟨by omega, by rw [ov]; exact (⟨e3, zv_wi w2 rfl, fun j _ => zv_wa w2 rfl j⟩ : zt_eq (zv_i h1 26, zv_i h1 25, zv_a h1 61) (0, zv_i h 25, zv_a h 61))⟩⟩

set_option maxRecDepth 100000 in
set_option maxHeartbeats 8000000 in
theorem zm_doesF_c24 {h : zx_H} (hI : zb_I zc_H h) {p : Int} (p1 : 0 ≤ p) (p2 : p ≤ 59) (n8 : ¬ zv_a h 61 8 = 3) (ic : zv_a h 45 p = 21 → 5 ≤ zv_a h 46 p ∧ zv_a h 46 p ≤ 8) (ov : zv_a h 45 p = 24) : zx_T zp_P 3 zp_m167 0 [(0, .ref 44), (1, .int (zI (p)))] [] h (zr_R [(44, 25), (44, 26), (61, 0)] h (fun e h' => e = zv_i h' 26 ∧ zt_eq (zv_i h' 26, zv_i h' 25, zv_a h' 61) (zs_ap (zv_a h 45 p) (zv_a h 46 p) (0, zv_i h 25, zv_a h 61)))) := by
  have hS := zv_ri hI (k := 25) rfl
  refine zx_T.l (i := .aload_n 0) (k := 1) (v := .ref 44) (pc := 0) rfl rfl rfl ?_
  refine zx_T.s (i := .iconst 0) (k := 1) (st' := [.int (zI (0)), .ref 44]) (pc := 1) rfl rfl ?_
  refine zr_pi (k := 26) (lo := 0) (hi := 7) (e := 0) (pc := 2) rfl rfl rfl rfl rfl rfl hI (by omega) (by omega) (fun h1 ih1 w2 e3 => ?_)
  refine zx_T.l (i := .aload_n 0) (k := 1) (v := .ref 44) (pc := 5) rfl rfl rfl ?_
  refine zr_gr (k := 3) (b := 46) (pc := 6) rfl rfl rfl ih1 ?_
  refine zx_T.l (i := .iload_n 1) (k := 1) (v := .int (zI (p))) (pc := 9) rfl rfl rfl ?_
  refine zr_al (n := 60) (lo := (-2147483648)) (hi := 2147483647) (e := zv_a h 46 p) (pc := 10) rfl rfl rfl ih1 (by omega) (by omega) (zv_wa w2 rfl p) (fun g4a g4b => ?_)
  refine zx_T.t (i := .istore_n 2) (k := 1) (ls' := [(2, .int (zI (zv_a h 46 p))), (0, .ref 44), (1, .int (zI (p)))]) (st' := []) (pc := 11) rfl rfl rfl rfl ?_
  refine zx_T.l (i := .aload_n 0) (k := 1) (v := .ref 44) (pc := 12) rfl rfl rfl ?_
  refine zr_gr (k := 2) (b := 45) (pc := 13) rfl rfl rfl ih1 ?_
  refine zx_T.l (i := .iload_n 1) (k := 1) (v := .int (zI (p))) (pc := 16) rfl rfl rfl ?_
  refine zr_al (n := 60) (lo := 0) (hi := 28) (e := zv_a h 45 p) (pc := 17) rfl rfl rfl ih1 (by omega) (by omega) (zv_wa w2 rfl p) (fun g5a g5b => ?_)
  have c6 : zv_a h 45 p = 24 := by omega
  rcases c6 with c6
  · refine zr_sw (i := .tableswitch 424 1 28 #[126, 134, 142, 150, 158, 167, 176, 190, 198, 206, 214, 222, 222, 240, 258, 271, 284, 303, 322, 336, 350, 363, 424, 424, 372, 380, 372, 388]) (len := 126) (t := 442) (x := zv_a h 45 p) (k := 24) (pc := 18) rfl c6 rfl rfl rfl rfl ?_
    refine zx_T.l (i := .aload_n 0) (k := 1) (v := .ref 44) (pc := 442) rfl rfl rfl ?_
    refine zr_gi (k := 26) (lo := 0) (hi := 7) (e := 0) (pc := 443) rfl rfl rfl ih1 e3 (fun g7a g7b => ?_)
    have i25 : zv_i h1 25 = zv_i h 25 := (zv_wi w2 rfl)
    have i26 : zv_i h1 26 = 0 := e3
    have a61 : ∀ j, 0 ≤ j → zv_a h1 61 j = zv_a h 61 j := fun j hj => by rw [zv_wa w2 rfl j]
    have y11 := zv_ri ih1 (k := 25) rfl
    exact zr_ir (x := 0) (pc := 446) rfl rfl rfl ⟨ih1, (w2.wd rfl : zb_W [(44, 25), (44, 26), (61, 0)] h _), _, rfl, by dsimp only; exact ⟨by omega, by rw [ov]; exact (⟨e3, zv_wi w2 rfl, fun j _ => zv_wa w2 rfl j⟩ : zt_eq (zv_i h1 26, zv_i h1 25, zv_a h1 61) (0, zv_i h 25, zv_a h 61))⟩⟩

set_option maxRecDepth 100000 in
set_option maxHeartbeats 8000000 in
theorem zm_doesF_c25 {h : zx_H} (hI : zb_I zc_H h) {p : Int} (p1 : 0 ≤ p) (p2 : p ≤ 59) (n8 : ¬ zv_a h 61 8 = 3) (ic : zv_a h 45 p = 21 → 5 ≤ zv_a h 46 p ∧ zv_a h 46 p ≤ 8) (ov : zv_a h 45 p = 25) : zx_T zp_P 3 zp_m167 0 [(0, .ref 44), (1, .int (zI (p)))] [] h (zr_R [(44, 25), (44, 26), (61, 0)] h (fun e h' => e = zv_i h' 26 ∧ zt_eq (zv_i h' 26, zv_i h' 25, zv_a h' 61) (zs_ap (zv_a h 45 p) (zv_a h 46 p) (0, zv_i h 25, zv_a h 61)))) := by
  have hS := zv_ri hI (k := 25) rfl
  refine zx_T.l (i := .aload_n 0) (k := 1) (v := .ref 44) (pc := 0) rfl rfl rfl ?_
  refine zx_T.s (i := .iconst 0) (k := 1) (st' := [.int (zI (0)), .ref 44]) (pc := 1) rfl rfl ?_
  refine zr_pi (k := 26) (lo := 0) (hi := 7) (e := 0) (pc := 2) rfl rfl rfl rfl rfl rfl hI (by omega) (by omega) (fun h1 ih1 w2 e3 => ?_)
  refine zx_T.l (i := .aload_n 0) (k := 1) (v := .ref 44) (pc := 5) rfl rfl rfl ?_
  refine zr_gr (k := 3) (b := 46) (pc := 6) rfl rfl rfl ih1 ?_
  refine zx_T.l (i := .iload_n 1) (k := 1) (v := .int (zI (p))) (pc := 9) rfl rfl rfl ?_
  refine zr_al (n := 60) (lo := (-2147483648)) (hi := 2147483647) (e := zv_a h 46 p) (pc := 10) rfl rfl rfl ih1 (by omega) (by omega) (zv_wa w2 rfl p) (fun g4a g4b => ?_)
  refine zx_T.t (i := .istore_n 2) (k := 1) (ls' := [(2, .int (zI (zv_a h 46 p))), (0, .ref 44), (1, .int (zI (p)))]) (st' := []) (pc := 11) rfl rfl rfl rfl ?_
  refine zx_T.l (i := .aload_n 0) (k := 1) (v := .ref 44) (pc := 12) rfl rfl rfl ?_
  refine zr_gr (k := 2) (b := 45) (pc := 13) rfl rfl rfl ih1 ?_
  refine zx_T.l (i := .iload_n 1) (k := 1) (v := .int (zI (p))) (pc := 16) rfl rfl rfl ?_
  refine zr_al (n := 60) (lo := 0) (hi := 28) (e := zv_a h 45 p) (pc := 17) rfl rfl rfl ih1 (by omega) (by omega) (zv_wa w2 rfl p) (fun g5a g5b => ?_)
  have c6 : zv_a h 45 p = 25 := by omega
  rcases c6 with c6
  · refine zr_sw (i := .tableswitch 424 1 28 #[126, 134, 142, 150, 158, 167, 176, 190, 198, 206, 214, 222, 222, 240, 258, 271, 284, 303, 322, 336, 350, 363, 424, 424, 372, 380, 372, 388]) (len := 126) (t := 390) (x := zv_a h 45 p) (k := 25) (pc := 18) rfl c6 rfl rfl rfl rfl ?_
    refine zx_T.l (i := .aload_n 0) (k := 1) (v := .ref 44) (pc := 390) rfl rfl rfl ?_
    refine zx_T.s (i := .iconst 1) (k := 1) (st' := [.int (zI (1)), .ref 44]) (pc := 391) rfl rfl ?_
    have y7 : zv_a h1 61 8 = zv_a h 61 8 := (zv_wa w2 rfl 8)
    refine zr_iv (cj := 162) (q' := zp_m162) (As := [.int (zI (1))]) (rest := []) (pc := 392) rfl rfl rfl rfl rfl rfl (Nat.le_of_ble_eq_true rfl) rfl (Nat.le_of_ble_eq_true rfl) ih1 ((zm_needF (h := h1) ih1 (w := 1) (by omega) (by omega)).up (Nat.le_of_ble_eq_true rfl)) ?_
    rintro r8 h11 ⟨ih11, w12, r8q, x10⟩
    subst r8q
    try dsimp only at x10
    have qh11 := x10
    show zx_T zp_P 3 zp_m167 395 [(2, .int (zI (zv_a h 46 p))), (0, .ref 44), (1, .int (zI (p)))] [] h11 _
    refine zx_T.j (i := .goto 47) (k := 3) (pc' := 442) (st' := []) (pc := 395) rfl rfl rfl rfl rfl ?_
    refine zx_T.l (i := .aload_n 0) (k := 1) (v := .ref 44) (pc := 442) rfl rfl rfl ?_
    refine zr_gi (k := 26) (lo := 0) (hi := 7) (e := zv_i h11 26) (pc := 443) rfl rfl rfl ih11 rfl (fun g13a g13b => ?_)
    have i25 : zv_i h11 25 = zv_i h11 25 := rfl
    have i26 : zv_i h11 26 = zv_i h11 26 := rfl
    have a61 : ∀ j, 0 ≤ j → zv_a h11 61 j = zv_a h 61 j := fun j hj => by rw [zv_wa w12 rfl j, zv_wa w2 rfl j]
    have y17 := zv_ri ih11 (k := 25) rfl
    exact zr_ir (x := zv_i h11 26) (pc := 446) rfl rfl rfl ⟨ih11, ((w2.wd rfl : zb_W [(44, 25), (44, 26), (61, 0)] h _).tr (w12.wd rfl)), _, rfl, by dsimp only; exact ⟨by omega, by rw [ov]; exact (qh11.tr (zs_need_eq (⟨e3, zv_wi w2 rfl, fun j _ => zv_wa w2 rfl j⟩ : zt_eq (zv_i h1 26, zv_i h1 25, zv_a h1 61) (0, zv_i h 25, zv_a h 61)) (zv_ri ih1 (k := 25) rfl).1))⟩⟩

set_option maxRecDepth 100000 in
set_option maxHeartbeats 8000000 in
theorem zm_doesF_c26 {h : zx_H} (hI : zb_I zc_H h) {p : Int} (p1 : 0 ≤ p) (p2 : p ≤ 59) (n8 : ¬ zv_a h 61 8 = 3) (ic : zv_a h 45 p = 21 → 5 ≤ zv_a h 46 p ∧ zv_a h 46 p ≤ 8) (ov : zv_a h 45 p = 26) : zx_T zp_P 3 zp_m167 0 [(0, .ref 44), (1, .int (zI (p)))] [] h (zr_R [(44, 25), (44, 26), (61, 0)] h (fun e h' => e = zv_i h' 26 ∧ zt_eq (zv_i h' 26, zv_i h' 25, zv_a h' 61) (zs_ap (zv_a h 45 p) (zv_a h 46 p) (0, zv_i h 25, zv_a h 61)))) := by
  have hS := zv_ri hI (k := 25) rfl
  refine zx_T.l (i := .aload_n 0) (k := 1) (v := .ref 44) (pc := 0) rfl rfl rfl ?_
  refine zx_T.s (i := .iconst 0) (k := 1) (st' := [.int (zI (0)), .ref 44]) (pc := 1) rfl rfl ?_
  refine zr_pi (k := 26) (lo := 0) (hi := 7) (e := 0) (pc := 2) rfl rfl rfl rfl rfl rfl hI (by omega) (by omega) (fun h1 ih1 w2 e3 => ?_)
  refine zx_T.l (i := .aload_n 0) (k := 1) (v := .ref 44) (pc := 5) rfl rfl rfl ?_
  refine zr_gr (k := 3) (b := 46) (pc := 6) rfl rfl rfl ih1 ?_
  refine zx_T.l (i := .iload_n 1) (k := 1) (v := .int (zI (p))) (pc := 9) rfl rfl rfl ?_
  refine zr_al (n := 60) (lo := (-2147483648)) (hi := 2147483647) (e := zv_a h 46 p) (pc := 10) rfl rfl rfl ih1 (by omega) (by omega) (zv_wa w2 rfl p) (fun g4a g4b => ?_)
  refine zx_T.t (i := .istore_n 2) (k := 1) (ls' := [(2, .int (zI (zv_a h 46 p))), (0, .ref 44), (1, .int (zI (p)))]) (st' := []) (pc := 11) rfl rfl rfl rfl ?_
  refine zx_T.l (i := .aload_n 0) (k := 1) (v := .ref 44) (pc := 12) rfl rfl rfl ?_
  refine zr_gr (k := 2) (b := 45) (pc := 13) rfl rfl rfl ih1 ?_
  refine zx_T.l (i := .iload_n 1) (k := 1) (v := .int (zI (p))) (pc := 16) rfl rfl rfl ?_
  refine zr_al (n := 60) (lo := 0) (hi := 28) (e := zv_a h 45 p) (pc := 17) rfl rfl rfl ih1 (by omega) (by omega) (zv_wa w2 rfl p) (fun g5a g5b => ?_)
  have c6 : zv_a h 45 p = 26 := by omega
  rcases c6 with c6
  · refine zr_sw (i := .tableswitch 424 1 28 #[126, 134, 142, 150, 158, 167, 176, 190, 198, 206, 214, 222, 222, 240, 258, 271, 284, 303, 322, 336, 350, 363, 424, 424, 372, 380, 372, 388]) (len := 126) (t := 398) (x := zv_a h 45 p) (k := 26) (pc := 18) rfl c6 rfl rfl rfl rfl ?_
    refine zx_T.l (i := .aload_n 0) (k := 1) (v := .ref 44) (pc := 398) rfl rfl rfl ?_
    refine zx_T.s (i := .iconst 5) (k := 1) (st' := [.int (zI (5)), .ref 44]) (pc := 399) rfl rfl ?_
    have y7 : zv_a h1 61 8 = zv_a h 61 8 := (zv_wa w2 rfl 8)
    refine zr_iv (cj := 162) (q' := zp_m162) (As := [.int (zI (5))]) (rest := []) (pc := 400) rfl rfl rfl rfl rfl rfl (Nat.le_of_ble_eq_true rfl) rfl (Nat.le_of_ble_eq_true rfl) ih1 ((zm_needF (h := h1) ih1 (w := 5) (by omega) (by omega)).up (Nat.le_of_ble_eq_true rfl)) ?_
    rintro r8 h11 ⟨ih11, w12, r8q, x10⟩
    subst r8q
    try dsimp only at x10
    have qh11 := x10
    show zx_T zp_P 3 zp_m167 403 [(2, .int (zI (zv_a h 46 p))), (0, .ref 44), (1, .int (zI (p)))] [] h11 _
    refine zx_T.j (i := .goto 39) (k := 3) (pc' := 442) (st' := []) (pc := 403) rfl rfl rfl rfl rfl ?_
    refine zx_T.l (i := .aload_n 0) (k := 1) (v := .ref 44) (pc := 442) rfl rfl rfl ?_
    refine zr_gi (k := 26) (lo := 0) (hi := 7) (e := zv_i h11 26) (pc := 443) rfl rfl rfl ih11 rfl (fun g13a g13b => ?_)
    have i25 : zv_i h11 25 = zv_i h11 25 := rfl
    have i26 : zv_i h11 26 = zv_i h11 26 := rfl
    have a61 : ∀ j, 0 ≤ j → zv_a h11 61 j = zv_a h 61 j := fun j hj => by rw [zv_wa w12 rfl j, zv_wa w2 rfl j]
    have y17 := zv_ri ih11 (k := 25) rfl
    exact zr_ir (x := zv_i h11 26) (pc := 446) rfl rfl rfl ⟨ih11, ((w2.wd rfl : zb_W [(44, 25), (44, 26), (61, 0)] h _).tr (w12.wd rfl)), _, rfl, by dsimp only; exact ⟨by omega, by rw [ov]; exact (qh11.tr (zs_need_eq (⟨e3, zv_wi w2 rfl, fun j _ => zv_wa w2 rfl j⟩ : zt_eq (zv_i h1 26, zv_i h1 25, zv_a h1 61) (0, zv_i h 25, zv_a h 61)) (zv_ri ih1 (k := 25) rfl).1))⟩⟩

set_option maxRecDepth 100000 in
set_option maxHeartbeats 8000000 in
theorem zm_doesF_c27 {h : zx_H} (hI : zb_I zc_H h) {p : Int} (p1 : 0 ≤ p) (p2 : p ≤ 59) (n8 : ¬ zv_a h 61 8 = 3) (ic : zv_a h 45 p = 21 → 5 ≤ zv_a h 46 p ∧ zv_a h 46 p ≤ 8) (ov : zv_a h 45 p = 27) : zx_T zp_P 3 zp_m167 0 [(0, .ref 44), (1, .int (zI (p)))] [] h (zr_R [(44, 25), (44, 26), (61, 0)] h (fun e h' => e = zv_i h' 26 ∧ zt_eq (zv_i h' 26, zv_i h' 25, zv_a h' 61) (zs_ap (zv_a h 45 p) (zv_a h 46 p) (0, zv_i h 25, zv_a h 61)))) := by
  have hS := zv_ri hI (k := 25) rfl
  refine zx_T.l (i := .aload_n 0) (k := 1) (v := .ref 44) (pc := 0) rfl rfl rfl ?_
  refine zx_T.s (i := .iconst 0) (k := 1) (st' := [.int (zI (0)), .ref 44]) (pc := 1) rfl rfl ?_
  refine zr_pi (k := 26) (lo := 0) (hi := 7) (e := 0) (pc := 2) rfl rfl rfl rfl rfl rfl hI (by omega) (by omega) (fun h1 ih1 w2 e3 => ?_)
  refine zx_T.l (i := .aload_n 0) (k := 1) (v := .ref 44) (pc := 5) rfl rfl rfl ?_
  refine zr_gr (k := 3) (b := 46) (pc := 6) rfl rfl rfl ih1 ?_
  refine zx_T.l (i := .iload_n 1) (k := 1) (v := .int (zI (p))) (pc := 9) rfl rfl rfl ?_
  refine zr_al (n := 60) (lo := (-2147483648)) (hi := 2147483647) (e := zv_a h 46 p) (pc := 10) rfl rfl rfl ih1 (by omega) (by omega) (zv_wa w2 rfl p) (fun g4a g4b => ?_)
  refine zx_T.t (i := .istore_n 2) (k := 1) (ls' := [(2, .int (zI (zv_a h 46 p))), (0, .ref 44), (1, .int (zI (p)))]) (st' := []) (pc := 11) rfl rfl rfl rfl ?_
  refine zx_T.l (i := .aload_n 0) (k := 1) (v := .ref 44) (pc := 12) rfl rfl rfl ?_
  refine zr_gr (k := 2) (b := 45) (pc := 13) rfl rfl rfl ih1 ?_
  refine zx_T.l (i := .iload_n 1) (k := 1) (v := .int (zI (p))) (pc := 16) rfl rfl rfl ?_
  refine zr_al (n := 60) (lo := 0) (hi := 28) (e := zv_a h 45 p) (pc := 17) rfl rfl rfl ih1 (by omega) (by omega) (zv_wa w2 rfl p) (fun g5a g5b => ?_)
  have c6 : zv_a h 45 p = 27 := by omega
  rcases c6 with c6
  · refine zr_sw (i := .tableswitch 424 1 28 #[126, 134, 142, 150, 158, 167, 176, 190, 198, 206, 214, 222, 222, 240, 258, 271, 284, 303, 322, 336, 350, 363, 424, 424, 372, 380, 372, 388]) (len := 126) (t := 390) (x := zv_a h 45 p) (k := 27) (pc := 18) rfl c6 rfl rfl rfl rfl ?_
    refine zx_T.l (i := .aload_n 0) (k := 1) (v := .ref 44) (pc := 390) rfl rfl rfl ?_
    refine zx_T.s (i := .iconst 1) (k := 1) (st' := [.int (zI (1)), .ref 44]) (pc := 391) rfl rfl ?_
    have y7 : zv_a h1 61 8 = zv_a h 61 8 := (zv_wa w2 rfl 8)
    refine zr_iv (cj := 162) (q' := zp_m162) (As := [.int (zI (1))]) (rest := []) (pc := 392) rfl rfl rfl rfl rfl rfl (Nat.le_of_ble_eq_true rfl) rfl (Nat.le_of_ble_eq_true rfl) ih1 ((zm_needF (h := h1) ih1 (w := 1) (by omega) (by omega)).up (Nat.le_of_ble_eq_true rfl)) ?_
    rintro r8 h11 ⟨ih11, w12, r8q, x10⟩
    subst r8q
    try dsimp only at x10
    have qh11 := x10
    show zx_T zp_P 3 zp_m167 395 [(2, .int (zI (zv_a h 46 p))), (0, .ref 44), (1, .int (zI (p)))] [] h11 _
    refine zx_T.j (i := .goto 47) (k := 3) (pc' := 442) (st' := []) (pc := 395) rfl rfl rfl rfl rfl ?_
    refine zx_T.l (i := .aload_n 0) (k := 1) (v := .ref 44) (pc := 442) rfl rfl rfl ?_
    refine zr_gi (k := 26) (lo := 0) (hi := 7) (e := zv_i h11 26) (pc := 443) rfl rfl rfl ih11 rfl (fun g13a g13b => ?_)
    have i25 : zv_i h11 25 = zv_i h11 25 := rfl
    have i26 : zv_i h11 26 = zv_i h11 26 := rfl
    have a61 : ∀ j, 0 ≤ j → zv_a h11 61 j = zv_a h 61 j := fun j hj => by rw [zv_wa w12 rfl j, zv_wa w2 rfl j]
    have y17 := zv_ri ih11 (k := 25) rfl
    exact zr_ir (x := zv_i h11 26) (pc := 446) rfl rfl rfl ⟨ih11, ((w2.wd rfl : zb_W [(44, 25), (44, 26), (61, 0)] h _).tr (w12.wd rfl)), _, rfl, by dsimp only; exact ⟨by omega, by rw [ov]; exact (qh11.tr (zs_need_eq (⟨e3, zv_wi w2 rfl, fun j _ => zv_wa w2 rfl j⟩ : zt_eq (zv_i h1 26, zv_i h1 25, zv_a h1 61) (0, zv_i h 25, zv_a h 61)) (zv_ri ih1 (k := 25) rfl).1))⟩⟩

set_option maxRecDepth 100000 in
set_option maxHeartbeats 8000000 in
theorem zm_doesF_c28 {h : zx_H} (hI : zb_I zc_H h) {p : Int} (p1 : 0 ≤ p) (p2 : p ≤ 59) (n8 : ¬ zv_a h 61 8 = 3) (ic : zv_a h 45 p = 21 → 5 ≤ zv_a h 46 p ∧ zv_a h 46 p ≤ 8) (ov : zv_a h 45 p = 28) : zx_T zp_P 3 zp_m167 0 [(0, .ref 44), (1, .int (zI (p)))] [] h (zr_R [(44, 25), (44, 26), (61, 0)] h (fun e h' => e = zv_i h' 26 ∧ zt_eq (zv_i h' 26, zv_i h' 25, zv_a h' 61) (zs_ap (zv_a h 45 p) (zv_a h 46 p) (0, zv_i h 25, zv_a h 61)))) := by
  have hS := zv_ri hI (k := 25) rfl
  refine zx_T.l (i := .aload_n 0) (k := 1) (v := .ref 44) (pc := 0) rfl rfl rfl ?_
  refine zx_T.s (i := .iconst 0) (k := 1) (st' := [.int (zI (0)), .ref 44]) (pc := 1) rfl rfl ?_
  refine zr_pi (k := 26) (lo := 0) (hi := 7) (e := 0) (pc := 2) rfl rfl rfl rfl rfl rfl hI (by omega) (by omega) (fun h1 ih1 w2 e3 => ?_)
  refine zx_T.l (i := .aload_n 0) (k := 1) (v := .ref 44) (pc := 5) rfl rfl rfl ?_
  refine zr_gr (k := 3) (b := 46) (pc := 6) rfl rfl rfl ih1 ?_
  refine zx_T.l (i := .iload_n 1) (k := 1) (v := .int (zI (p))) (pc := 9) rfl rfl rfl ?_
  refine zr_al (n := 60) (lo := (-2147483648)) (hi := 2147483647) (e := zv_a h 46 p) (pc := 10) rfl rfl rfl ih1 (by omega) (by omega) (zv_wa w2 rfl p) (fun g4a g4b => ?_)
  refine zx_T.t (i := .istore_n 2) (k := 1) (ls' := [(2, .int (zI (zv_a h 46 p))), (0, .ref 44), (1, .int (zI (p)))]) (st' := []) (pc := 11) rfl rfl rfl rfl ?_
  refine zx_T.l (i := .aload_n 0) (k := 1) (v := .ref 44) (pc := 12) rfl rfl rfl ?_
  refine zr_gr (k := 2) (b := 45) (pc := 13) rfl rfl rfl ih1 ?_
  refine zx_T.l (i := .iload_n 1) (k := 1) (v := .int (zI (p))) (pc := 16) rfl rfl rfl ?_
  refine zr_al (n := 60) (lo := 0) (hi := 28) (e := zv_a h 45 p) (pc := 17) rfl rfl rfl ih1 (by omega) (by omega) (zv_wa w2 rfl p) (fun g5a g5b => ?_)
  have c6 : zv_a h 45 p = 28 := by omega
  rcases c6 with c6
  · refine zr_sw (i := .tableswitch 424 1 28 #[126, 134, 142, 150, 158, 167, 176, 190, 198, 206, 214, 222, 222, 240, 258, 271, 284, 303, 322, 336, 350, 363, 424, 424, 372, 380, 372, 388]) (len := 126) (t := 406) (x := zv_a h 45 p) (k := 28) (pc := 18) rfl c6 rfl rfl rfl rfl ?_
    refine zx_T.l (i := .iload_n 2) (k := 1) (v := .int (zI (zv_a h 46 p))) (pc := 406) rfl rfl rfl ?_
    refine zx_T.s (i := .iconst 0) (k := 1) (st' := [.int (zI (0)), .int (zI (zv_a h 46 p))]) (pc := 407) rfl rfl ?_
    refine zx_T.s (i := .bipush 7) (k := 2) (st' := [.int (zI (7)), .int (zI (0)), .int (zI (zv_a h 46 p))]) (pc := 408) rfl rfl ?_
    refine zr_is (cj := 155) (q' := zp_m155) (As := [.int (zI (zv_a h 46 p)), .int (zI (0)), .int (zI (7))]) (rest := []) (pc := 410) rfl rfl rfl rfl rfl rfl (Nat.le_of_ble_eq_true rfl) rfl (Nat.le_of_ble_eq_true rfl) rfl ((zm_in (h := h1) ih1 (v := zv_a h 46 p) (l := 0) (u := 7) (by omega) (by omega) (by omega) (by omega) (by omega) (by omega)).up (Nat.le_of_ble_eq_true rfl)) ?_
    rintro r7 h10 ⟨h10q, v8, r7q, x9⟩
    subst h10q r7q
    try dsimp only at x9
    show zx_T zp_P 3 zp_m167 413 [(2, .int (zI (zv_a h 46 p))), (0, .ref 44), (1, .int (zI (p)))] [.int (zI (v8))] h1 _
    refine zr_i1 (x := v8) (t := 424) (pc := 413) rfl rfl (by omega) (by omega) (fun (c11 : ¬ v8 = 0) => ?_) (fun (c11 : ¬ (¬ v8 = 0)) => ?_)
    · refine zx_T.l (i := .aload_n 0) (k := 1) (v := .ref 44) (pc := 424) rfl rfl rfl ?_
      refine zr_gr (k := 24) (b := 61) (pc := 425) rfl rfl rfl ih1 ?_
      refine zx_T.l (i := .iload_n 2) (k := 1) (v := .int (zI (zv_a h 46 p))) (pc := 428) rfl rfl rfl ?_
      refine zr_al (n := 14) (lo := 0) (hi := 8) (e := zv_a h 61 (zv_a h 46 p)) (pc := 429) rfl rfl rfl ih1 (by omega) (by omega) (zv_wa w2 rfl (zv_a h 46 p)) (fun g12a g12b => ?_)
      refine zx_T.s (i := .iconst 1) (k := 1) (st' := [.int (zI (1)), .int (zI (zv_a h 61 (zv_a h 46 p)))]) (pc := 430) rfl rfl ?_
      refine zr_i2 (x := zv_a h 61 (zv_a h 46 p)) (y := 1) (t := 442) (pc := 431) rfl rfl (by omega) (by omega) (by omega) (by omega) (fun (c13 : (zv_a h 61 (zv_a h 46 p)) = 1) => ?_) (fun (c13 : ¬ ((zv_a h 61 (zv_a h 46 p)) = 1)) => ?_)
      · refine zx_T.l (i := .aload_n 0) (k := 1) (v := .ref 44) (pc := 442) rfl rfl rfl ?_
        refine zr_gi (k := 26) (lo := 0) (hi := 7) (e := 0) (pc := 443) rfl rfl rfl ih1 e3 (fun g14a g14b => ?_)
        have i25 : zv_i h1 25 = zv_i h 25 := (zv_wi w2 rfl)
        have i26 : zv_i h1 26 = 0 := e3
        have a61 : ∀ j, 0 ≤ j → zv_a h1 61 j = zv_a h 61 j := fun j hj => by rw [zv_wa w2 rfl j]
        have y18 := zv_ri ih1 (k := 25) rfl
        exact zr_ir (x := 0) (pc := 446) rfl rfl rfl ⟨ih1, (w2.wd rfl : zb_W [(44, 25), (44, 26), (61, 0)] h _), _, rfl, by dsimp only; exact ⟨by omega, by rw [ov]; exact zt_inc (by first | exact Or.inl ⟨by omega, by omega, by omega⟩ | exact Or.inr (Or.inl ⟨by omega, by omega, by omega, by omega⟩) | exact Or.inr (Or.inr ⟨by omega, by omega, by omega, by omega⟩)) (fun j j0 => by rw [a61 j j0])⟩⟩
      · refine zx_T.l (i := .aload_n 0) (k := 1) (v := .ref 44) (pc := 434) rfl rfl rfl ?_
        refine zx_T.s (i := .iconst 1) (k := 1) (st' := [.int (zI (1)), .ref 44]) (pc := 435) rfl rfl ?_
        have y19 : zv_i h1 26 = 0 := e3
        refine zr_iv (cj := 159) (q' := zp_m159) (As := [.int (zI (1))]) (rest := []) (pc := 436) rfl rfl rfl rfl rfl rfl (Nat.le_of_ble_eq_true rfl) rfl (Nat.le_of_ble_eq_true rfl) ih1 ((zm_fails (h := h1) ih1 (w := 1) (by omega) (by omega)).up (Nat.le_of_ble_eq_true rfl)) ?_
        rintro r20 h23 ⟨ih23, w24, r20q, x22⟩
        subst r20q
        try dsimp only at x22
        show zx_T zp_P 3 zp_m167 439 [(2, .int (zI (zv_a h 46 p))), (0, .ref 44), (1, .int (zI (p)))] [] h23 _
        refine zx_T.j (i := .goto 3) (k := 3) (pc' := 442) (st' := []) (pc := 439) rfl rfl rfl rfl rfl ?_
        refine zx_T.l (i := .aload_n 0) (k := 1) (v := .ref 44) (pc := 442) rfl rfl rfl ?_
        refine zr_gi (k := 26) (lo := 0) (hi := 7) (e := zv_i h23 26) (pc := 443) rfl rfl rfl ih23 rfl (fun g25a g25b => ?_)
        have i25 : zv_i h23 25 = zv_i h 25 := ((zv_wi w24 rfl).trans (zv_wi w2 rfl))
        have i26 : zv_i h23 26 = zv_i h23 26 := rfl
        have a61 : ∀ j, 0 ≤ j → zv_a h23 61 j = zv_a h 61 j := fun j hj => by rw [zv_wa w24 rfl j, zv_wa w2 rfl j]
        have y29 := zv_ri ih23 (k := 25) rfl
        exact zr_ir (x := zv_i h23 26) (pc := 446) rfl rfl rfl ⟨ih23, ((w2.wd rfl : zb_W [(44, 25), (44, 26), (61, 0)] h _).tr (w24.wd rfl)), _, rfl, by dsimp only; exact ⟨by omega, by rw [ov]; exact zt_inc (by first | exact Or.inl ⟨by omega, by omega, by omega⟩ | exact Or.inr (Or.inl ⟨by omega, by omega, by omega, by omega⟩) | exact Or.inr (Or.inr ⟨by omega, by omega, by omega, by omega⟩)) (fun j j0 => by rw [a61 j j0])⟩⟩
    · refine zx_T.l (i := .aload_n 0) (k := 1) (v := .ref 44) (pc := 416) rfl rfl rfl ?_
      refine zx_T.s (i := .iconst 4) (k := 1) (st' := [.int (zI (4)), .ref 44]) (pc := 417) rfl rfl ?_
      have y30 : zv_i h1 26 = 0 := e3
      refine zr_iv (cj := 159) (q' := zp_m159) (As := [.int (zI (4))]) (rest := []) (pc := 418) rfl rfl rfl rfl rfl rfl (Nat.le_of_ble_eq_true rfl) rfl (Nat.le_of_ble_eq_true rfl) ih1 ((zm_fails (h := h1) ih1 (w := 4) (by omega) (by omega)).up (Nat.le_of_ble_eq_true rfl)) ?_
      rintro r31 h34 ⟨ih34, w35, r31q, x33⟩
      subst r31q
      try dsimp only at x33
      show zx_T zp_P 3 zp_m167 421 [(2, .int (zI (zv_a h 46 p))), (0, .ref 44), (1, .int (zI (p)))] [] h34 _
      refine zx_T.j (i := .goto 21) (k := 3) (pc' := 442) (st' := []) (pc := 421) rfl rfl rfl rfl rfl ?_
      refine zx_T.l (i := .aload_n 0) (k := 1) (v := .ref 44) (pc := 442) rfl rfl rfl ?_
      refine zr_gi (k := 26) (lo := 0) (hi := 7) (e := zv_i h34 26) (pc := 443) rfl rfl rfl ih34 rfl (fun g36a g36b => ?_)
      have i25 : zv_i h34 25 = zv_i h 25 := ((zv_wi w35 rfl).trans (zv_wi w2 rfl))
      have i26 : zv_i h34 26 = zv_i h34 26 := rfl
      have a61 : ∀ j, 0 ≤ j → zv_a h34 61 j = zv_a h 61 j := fun j hj => by rw [zv_wa w35 rfl j, zv_wa w2 rfl j]
      have y40 := zv_ri ih34 (k := 25) rfl
      exact zr_ir (x := zv_i h34 26) (pc := 446) rfl rfl rfl ⟨ih34, ((w2.wd rfl : zb_W [(44, 25), (44, 26), (61, 0)] h _).tr (w35.wd rfl)), _, rfl, by dsimp only; exact ⟨by omega, by rw [ov]; exact zt_inc (by first | exact Or.inl ⟨by omega, by omega, by omega⟩ | exact Or.inr (Or.inl ⟨by omega, by omega, by omega, by omega⟩) | exact Or.inr (Or.inr ⟨by omega, by omega, by omega, by omega⟩)) (fun j j0 => by rw [a61 j j0])⟩⟩

theorem zm_doesF {h : zx_H} (hI : zb_I zc_H h) {p : Int} (p1 : 0 ≤ p) (p2 : p ≤ 59) (n8 : ¬ zv_a h 61 8 = 3) (ic : zv_a h 45 p = 21 → 5 ≤ zv_a h 46 p ∧ zv_a h 46 p ≤ 8) : zx_T zp_P 3 zp_m167 0 [(0, .ref 44), (1, .int (zI (p)))] [] h (zr_R [(44, 25), (44, 26), (61, 0)] h (fun e h' => e = zv_i h' 26 ∧ zt_eq (zv_i h' 26, zv_i h' 25, zv_a h' 61) (zs_ap (zv_a h 45 p) (zv_a h 46 p) (0, zv_i h 25, zv_a h 61)))) := by
  have ho := zv_ra hI (a := 45) rfl rfl p
  have cv : zv_a h 45 p = 0 ∨ zv_a h 45 p = 1 ∨ zv_a h 45 p = 2 ∨ zv_a h 45 p = 3 ∨ zv_a h 45 p = 4 ∨ zv_a h 45 p = 5 ∨ zv_a h 45 p = 6 ∨ zv_a h 45 p = 7 ∨ zv_a h 45 p = 8 ∨ zv_a h 45 p = 9 ∨ zv_a h 45 p = 10 ∨ zv_a h 45 p = 11 ∨ zv_a h 45 p = 12 ∨ zv_a h 45 p = 13 ∨ zv_a h 45 p = 14 ∨ zv_a h 45 p = 15 ∨ zv_a h 45 p = 16 ∨ zv_a h 45 p = 17 ∨ zv_a h 45 p = 18 ∨ zv_a h 45 p = 19 ∨ zv_a h 45 p = 20 ∨ zv_a h 45 p = 21 ∨ zv_a h 45 p = 22 ∨ zv_a h 45 p = 23 ∨ zv_a h 45 p = 24 ∨ zv_a h 45 p = 25 ∨ zv_a h 45 p = 26 ∨ zv_a h 45 p = 27 ∨ zv_a h 45 p = 28 := by omega
  rcases cv with cv | cv | cv | cv | cv | cv | cv | cv | cv | cv | cv | cv | cv | cv | cv | cv | cv | cv | cv | cv | cv | cv | cv | cv | cv | cv | cv | cv | cv
  · exact zm_doesF_c0 hI p1 p2 n8 ic cv
  · exact zm_doesF_c1 hI p1 p2 n8 ic cv
  · exact zm_doesF_c2 hI p1 p2 n8 ic cv
  · exact zm_doesF_c3 hI p1 p2 n8 ic cv
  · exact zm_doesF_c4 hI p1 p2 n8 ic cv
  · exact zm_doesF_c5 hI p1 p2 n8 ic cv
  · exact zm_doesF_c6 hI p1 p2 n8 ic cv
  · exact zm_doesF_c7 hI p1 p2 n8 ic cv
  · exact zm_doesF_c8 hI p1 p2 n8 ic cv
  · exact zm_doesF_c9 hI p1 p2 n8 ic cv
  · exact zm_doesF_c10 hI p1 p2 n8 ic cv
  · exact zm_doesF_c11 hI p1 p2 n8 ic cv
  · exact zm_doesF_c12 hI p1 p2 n8 ic cv
  · exact zm_doesF_c13 hI p1 p2 n8 ic cv
  · exact zm_doesF_c14 hI p1 p2 n8 ic cv
  · exact zm_doesF_c15 hI p1 p2 n8 ic cv
  · exact zm_doesF_c16 hI p1 p2 n8 ic cv
  · exact zm_doesF_c17 hI p1 p2 n8 ic cv
  · exact zm_doesF_c18 hI p1 p2 n8 ic cv
  · exact zm_doesF_c19 hI p1 p2 n8 ic cv
  · exact zm_doesF_c20 hI p1 p2 n8 ic cv
  · exact zm_doesF_c21 hI p1 p2 n8 ic cv
  · exact zm_doesF_c22 hI p1 p2 n8 ic cv
  · exact zm_doesF_c23 hI p1 p2 n8 ic cv
  · exact zm_doesF_c24 hI p1 p2 n8 ic cv
  · exact zm_doesF_c25 hI p1 p2 n8 ic cv
  · exact zm_doesF_c26 hI p1 p2 n8 ic cv
  · exact zm_doesF_c27 hI p1 p2 n8 ic cv
  · exact zm_doesF_c28 hI p1 p2 n8 ic cv
