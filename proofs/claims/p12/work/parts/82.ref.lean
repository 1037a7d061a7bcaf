/-! ===== 82: the reference, method by method (by program) ===== -/
set_option maxRecDepth 100000 in
set_option maxHeartbeats 8000000 in
theorem zm_doesF_c0 {h : zx_H} (hI : zb_I zc_H h) {p : Int} (p1 : 0 ≤ p) (p2 : p ≤ 59) (n8 : ¬ zv_a h 61 8 = 3) (ic : zv_a h 45 p = 21 → 5 ≤ zv_a h 46 p ∧ zv_a h 46 p ≤ 8) (ov : zv_a h 45 p = 0) : zx_T zp_P 3 zp_m167 0 [(0, .ref 44), (1, .int (zI (p)))] [] h (zr_R [(44, 25), (44, 26), (61, 0)] h (fun e h' => e = zv_i h' 26 ∧ zt_eq (zv_i h' 26, zv_i h' 25, zv_a h' 61) (zs_ap (zv_a h 45 p) (zv_a h 46 p) (0, zv_i h 25, zv_a h 61)))) := by
  have hS := zv_ri hI (k := 25) rfl
  refine zx_T.l (i := .aload_n 0) (k := 1) (v := .ref 44) (pc := 0) rfl rfl rfl ?_
  refine zx_T.s (i := .iconst 0) (k := 1) (st' := [.int (zI (0)), .ref 44]) (pc := 1) rfl rfl ?_
  refine zr_pi (k := 26) (lo := 0) (hi := 7) (e := 0) (pc := 2) rfl rfl rfl rfl rfl rfl hI (by omega) (by omega) (fun h1 ih1 w2 e3 => ?_)
  refine zx_T.l (i := .aload_n 0) (k := 1) (v := .ref 44) (pc := 5) rfl rfl rfl ?_
  refine zr_gr (k := 3) (b := 46) (pc := 6) rfl rfl rfl ih1 ?_
  refine zx_T.l (i := .iload_n 1) (k := 1) (v := .int (zI (p))) (pc := 9) rfl rfl rfl ?_
  refine zr_al (n := 60) (lo := (-2147483648)) (hi := 2147483647) (e := zv_a h 46 p) (pc := 10) rfl rfl rfl ih1 (by omega) (by omega) (zv_wa w2 rfl p) (fun g4a g4b => ?_)
  refine zx_T.t (i := .istore_n 2) (k := 1) (ls' := [(2, .int (zI (zv_a h 46 p))), (0, .ref 44), (1, .int (zI (p)))]) (st' := []) (pc := 11) rfl rfl rfl rfl ?_
  refine zx_T.l (i := .aload_n 0) (k := 1) (v := .ref 44) (pc := 12) rfl rfl rfl ?_
  refine zr_gr (k := 2) (b := 45) (pc := 13) rfl rfl rfl ih1 ?_
  refine zx_T.l (i := .iload_n 1) (k := 1) (v := .int (zI (p))) (pc := 16) rfl rfl rfl ?_
  refine zr_al (n := 60) (lo := 0) (hi := 28) (e := zv_a h 45 p) (pc := 17) rfl rfl rfl ih1 (by omega) (by omega) (zv_wa w2 rfl p) (fun g5a g5b => ?_)
  have c6 : zv_a h 45 p = 0 := by omega
  rcases c6 with c6
  · refine zr_sw (i := .tableswitch 424 1 28 #[126, 134, 142, 150, 158, 167, 176, 190, 198, 206, 214, 222, 222, 240, 258, 271, 284, 303, 322, 336, 350, 363, 424, 424, 372, 380, 372, 388]) (len := 126) (t := 442) (x := zv_a h 45 p) (k := 0) (pc := 18) rfl c6 rfl rfl rfl rfl ?_
    refine zx_T.l (i := .aload_n 0) (k := 1) (v := .ref 44) (pc := 442) rfl rfl rfl ?_
    refine zr_gi (k := 26) (lo := 0) (hi := 7) (e := 0) (pc := 443) rfl rfl rfl ih1 e3 (fun g7a g7b => ?_)
    have i25 : zv_i h1 25 = zv_i h 25 := (zv_wi w2 rfl)
    have i26 : zv_i h1 26 = 0 := e3
    have a61 : ∀ j, 0 ≤ j → zv_a h1 61 j = zv_a h 61 j := fun j hj => by rw [zv_wa w2 rfl j]
    have y11 := zv_ri ih1 (k := 25) rfl
    exact zr_ir (x := 0) (pc := 446) rfl rfl rfl ⟨ih1, (w2.wd rfl : zb_W [(44, 25), (44, 26), (61, 0)] h _), _, rfl, by dsimp only; exact ⟨by omega, by rw [ov]; exact (⟨e3, zv_wi w2 rfl, fun j _ => zv_wa w2 rfl j⟩ : zt_eq (zv_i h1 26, zv_i h1 25, zv_a h1 61) (0, zv_i h 25, zv_a h 61))⟩⟩

set_option maxRecDepth 100000 in
set_option maxHeartbeats 8000000 in
theorem zm_doesF_c1 {h : zx_H} (hI : zb_I zc_H h) {p : Int} (p1 : 0 ≤ p) (p2 : p ≤ 59) (n8 : ¬ zv_a h 61 8 = 3) (ic : zv_a h 45 p = 21 → 5 ≤ zv_a h 46 p ∧ zv_a h 46 p ≤ 8) (ov : zv_a h 45 p = 1) : zx_T zp_P 3 zp_m167 0 [(0, .ref 44), (1, .int (zI (p)))] [] h (zr_R [(44, 25), (44, 26), (61, 0)] h (fun e h' => e = zv_i h' 26 ∧ zt_eq (zv_i h' 26, zv_i h' 25, zv_a h' 61) (zs_ap (zv_a h 45 p) (zv_a h 46 p) (0, zv_i h 25, zv_a h 61)))) := by
  have hS := zv_ri hI (k := 25) rfl
  refine zx_T.l (i := .aload_n 0) (k := 1) (v := .ref 44) (pc := 0) rfl rfl rfl ?_
  refine zx_T.s (i := .iconst 0) (k := 1) (st' := [.int (zI (0)), .ref 44]) (pc := 1) rfl rfl ?_
  refine zr_pi (k := 26) (lo := 0) (hi := 7) (e := 0) (pc := 2) rfl rfl rfl rfl rfl rfl hI (by omega) (by omega) (fun h1 ih1 w2 e3 => ?_)
  refine zx_T.l (i := .aload_n 0) (k := 1) (v := .ref 44) (pc := 5) rfl rfl rfl ?_
  refine zr_gr (k := 3) (b := 46) (pc := 6) rfl rfl rfl ih1 ?_
  refine zx_T.l (i := .iload_n 1) (k := 1) (v := .int (zI (p))) (pc := 9) rfl rfl rfl ?_
  refine zr_al (n := 60) (lo := (-2147483648)) (hi := 2147483647) (e := zv_a h 46 p) (pc := 10) rfl rfl rfl ih1 (by omega) (by omega) (zv_wa w2 rfl p) (fun g4a g4b => ?_)
  refine zx_T.t (i := .istore_n 2) (k := 1) (ls' := [(2, .int (zI (zv_a h 46 p))), (0, .ref 44), (1, .int (zI (p)))]) (st' := []) (pc := 11) rfl rfl rfl rfl ?_
  refine zx_T.l (i := .aload_n 0) (k := 1) (v := .ref 44) (pc := 12) rfl rfl rfl ?_
  refine zr_gr (k := 2) (b := 45) (pc := 13) rfl rfl rfl ih1 ?_
  refine zx_T.l (i := .iload_n 1) (k := 1) (v := .int (zI (p))) (pc := 16) rfl rfl rfl ?_
  refine zr_al (n := 60) (lo := 0) (hi := 28) (e := zv_a h 45 p) (pc := 17) rfl rfl rfl ih1 (by omega) (by omega) (zv_wa w2 rfl p) (fun g5a g5b => ?_)
  have c6 : zv_a h 45 p = 1 := by omega
  rcases c6 with c6
  · refine zr_sw (i := .tableswitch 424 1 28 #[126, 134, 142, 150, 158, 167, 176, 190, 198, 206, 214, 222, 222, 240, 258, 271, 284, 303, 322, 336, 350, 363, 424, 424, 372, 380, 372, 388]) (len := 126) (t := 144) (x := zv_a h 45 p) (k := 1) (pc := 18) rfl c6 rfl rfl rfl rfl ?_
    refine zx_T.l (i := .aload_n 0) (k := 1) (v := .ref 44) (pc := 144) rfl rfl rfl ?_
    refine zx_T.s (i := .iconst 1) (k := 1) (st' := [.int (zI (1)), .ref 44]) (pc := 145) rfl rfl ?_
    have y7 : zv_a h1 61 8 = zv_a h 61 8 := (zv_wa w2 rfl 8)
    refine zr_iv (cj := 163) (q' := zp_m163) (As := [.int (zI (1))]) (rest := []) (pc := 146) rfl rfl rfl rfl rfl rfl (Nat.le_of_ble_eq_true rfl) rfl (Nat.le_of_ble_eq_true rfl) ih1 ((zm_pushF (h := h1) ih1 (k := 1) (by omega) (by omega) (by omega)).up (Nat.le_of_ble_eq_true rfl)) ?_
    rintro r8 h11 ⟨ih11, w12, r8q, x10⟩
    subst r8q
    try dsimp only at x10
    have qh11 := x10.1
    have p8 := x10.2 (by omega)
    show zx_T zp_P 3 zp_m167 149 [(2, .int (zI (zv_a h 46 p))), (0, .ref 44), (1, .int (zI (p)))] [] h11 _
    refine zx_T.j (i := .goto 293) (k := 3) (pc' := 442) (st' := []) (pc := 149) rfl rfl rfl rfl rfl ?_
    refine zx_T.l (i := .aload_n 0) (k := 1) (v := .ref 44) (pc := 442) rfl rfl rfl ?_
    refine zr_gi (k := 26) (lo := 0) (hi := 7) (e := zv_i h11 26) (pc := 443) rfl rfl rfl ih11 rfl (fun g13a g13b => ?_)
    have i25 : zv_i h11 25 = zv_i h11 25 := rfl
    have i26 : zv_i h11 26 = zv_i h11 26 := rfl
    have a61 : ∀ j, 0 ≤ j → zv_a h11 61 j = zv_a h11 61 j := fun j hj => rfl
    have y17 := zv_ri ih11 (k := 25) rfl
    exact zr_ir (x := zv_i h11 26) (pc := 446) rfl rfl rfl ⟨ih11, ((w2.wd rfl : zb_W [(44, 25), (44, 26), (61, 0)] h _).tr (w12.wd rfl)), _, rfl, by dsimp only; exact ⟨by omega, by rw [ov]; exact (qh11.tr (zs_push_eq (⟨e3, zv_wi w2 rfl, fun j _ => zv_wa w2 rfl j⟩ : zt_eq (zv_i h1 26, zv_i h1 25, zv_a h1 61) (0, zv_i h 25, zv_a h 61))))⟩⟩

set_option maxRecDepth 100000 in
set_option maxHeartbeats 8000000 in
theorem zm_doesF_c2 {h : zx_H} (hI : zb_I zc_H h) {p : Int} (p1 : 0 ≤ p) (p2 : p ≤ 59) (n8 : ¬ zv_a h 61 8 = 3) (ic : zv_a h 45 p = 21 → 5 ≤ zv_a h 46 p ∧ zv_a h 46 p ≤ 8) (ov : zv_a h 45 p = 2) : zx_T zp_P 3 zp_m167 0 [(0, .ref 44), (1, .int (zI (p)))] [] h (zr_R [(44, 25), (44, 26), (61, 0)] h (fun e h' => e = zv_i h' 26 ∧ zt_eq (zv_i h' 26, zv_i h' 25, zv_a h' 61) (zs_ap (zv_a h 45 p) (zv_a h 46 p) (0, zv_i h 25, zv_a h 61)))) := by
  have hS := zv_ri hI (k := 25) rfl
  refine zx_T.l (i := .aload_n 0) (k := 1) (v := .ref 44) (pc := 0) rfl rfl rfl ?_
  refine zx_T.s (i := .iconst 0) (k := 1) (st' := [.int (zI (0)), .ref 44]) (pc := 1) rfl rfl ?_
  refine zr_pi (k := 26) (lo := 0) (hi := 7) (e := 0) (pc := 2) rfl rfl rfl rfl rfl rfl hI (by omega) (by omega) (fun h1 ih1 w2 e3 => ?_)
  refine zx_T.l (i := .aload_n 0) (k := 1) (v := .ref 44) (pc := 5) rfl rfl rfl ?_
  refine zr_gr (k := 3) (b := 46) (pc := 6) rfl rfl rfl ih1 ?_
  refine zx_T.l (i := .iload_n 1) (k := 1) (v := .int (zI (p))) (pc := 9) rfl rfl rfl ?_
  refine zr_al (n := 60) (lo := (-2147483648)) (hi := 2147483647) (e := zv_a h 46 p) (pc := 10) rfl rfl rfl ih1 (by omega) (by omega) (zv_wa w2 rfl p) (fun g4a g4b => ?_)
  refine zx_T.t (i := .istore_n 2) (k := 1) (ls' := [(2, .int (zI (zv_a h 46 p))), (0, .ref 44), (1, .int (zI (p)))]) (st' := []) (pc := 11) rfl rfl rfl rfl ?_
  refine zx_T.l (i := .aload_n 0) (k := 1) (v := .ref 44) (pc := 12) rfl rfl rfl ?_
  refine zr_gr (k := 2) (b := 45) (pc := 13) rfl rfl rfl ih1 ?_
  refine zx_T.l (i := .iload_n 1) (k := 1) (v := .int (zI (p))) (pc := 16) rfl rfl rfl ?_
  refine zr_al (n := 60) (lo := 0) (hi := 28) (e := zv_a h 45 p) (pc := 17) rfl rfl rfl ih1 (by omega) (by omega) (zv_wa w2 rfl p) (fun g5a g5b => ?_)
  have c6 : zv_a h 45 p = 2 := by omega
  rcases c6 with c6
  · refine zr_sw (i := .tableswitch 424 1 28 #[126, 134, 142, 150, 158, 167, 176, 190, 198, 206, 214, 222, 222, 240, 258, 271, 284, 303, 322, 336, 350, 363, 424, 424, 372, 380, 372, 388]) (len := 126) (t := 152) (x := zv_a h 45 p) (k := 2) (pc := 18) rfl c6 rfl rfl rfl rfl ?_
    refine zx_T.l (i := .aload_n 0) (k := 1) (v := .ref 44) (pc := 152) rfl rfl rfl ?_
    refine zx_T.s (i := .iconst 2) (k := 1) (st' := [.int (zI (2)), .ref 44]) (pc := 153) rfl rfl ?_
    have y7 : zv_a h1 61 8 = zv_a h 61 8 := (zv_wa w2 rfl 8)
    refine zr_iv (cj := 163) (q' := zp_m163) (As := [.int (zI (2))]) (rest := []) (pc := 154) rfl rfl rfl rfl rfl rfl (Nat.le_of_ble_eq_true rfl) rfl (Nat.le_of_ble_eq_true rfl) ih1 ((zm_pushF (h := h1) ih1 (k := 2) (by omega) (by omega) (by omega)).up (Nat.le_of_ble_eq_true rfl)) ?_
    rintro r8 h11 ⟨ih11, w12, r8q, x10⟩
    subst r8q
    try dsimp only at x10
    have qh11 := x10.1
    have p8 := x10.2 (by omega)
    show zx_T zp_P 3 zp_m167 157 [(2, .int (zI (zv_a h 46 p))), (0, .ref 44), (1, .int (zI (p)))] [] h11 _
    refine zx_T.j (i := .goto 285) (k := 3) (pc' := 442) (st' := []) (pc := 157) rfl rfl rfl rfl rfl ?_
    refine zx_T.l (i := .aload_n 0) (k := 1) (v := .ref 44) (pc := 442) rfl rfl rfl ?_
    refine zr_gi (k := 26) (lo := 0) (hi := 7) (e := zv_i h11 26) (pc := 443) rfl rfl rfl ih11 rfl (fun g13a g13b => ?_)
    have i25 : zv_i h11 25 = zv_i h11 25 := rfl
    have i26 : zv_i h11 26 = zv_i h11 26 := rfl
    have a61 : ∀ j, 0 ≤ j → zv_a h11 61 j = zv_a h11 61 j := fun j hj => rfl
    have y17 := zv_ri ih11 (k := 25) rfl
    exact zr_ir (x := zv_i h11 26) (pc := 446) rfl rfl rfl ⟨ih11, ((w2.wd rfl : zb_W [(44, 25), (44, 26), (61, 0)] h _).tr (w12.wd rfl)), _, rfl, by dsimp only; exact ⟨by omega, by rw [ov]; exact (qh11.tr (zs_push_eq (⟨e3, zv_wi w2 rfl, fun j _ => zv_wa w2 rfl j⟩ : zt_eq (zv_i h1 26, zv_i h1 25, zv_a h1 61) (0, zv_i h 25, zv_a h 61))))⟩⟩

set_option maxRecDepth 100000 in
set_option maxHeartbeats 8000000 in
theorem zm_doesF_c3 {h : zx_H} (hI : zb_I zc_H h) {p : Int} (p1 : 0 ≤ p) (p2 : p ≤ 59) (n8 : ¬ zv_a h 61 8 = 3) (ic : zv_a h 45 p = 21 → 5 ≤ zv_a h 46 p ∧ zv_a h 46 p ≤ 8) (ov : zv_a h 45 p = 3) : zx_T zp_P 3 zp_m167 0 [(0, .ref 44), (1, .int (zI (p)))] [] h (zr_R [(44, 25), (44, 26), (61, 0)] h (fun e h' => e = zv_i h' 26 ∧ zt_eq (zv_i h' 26, zv_i h' 25, zv_a h' 61) (zs_ap (zv_a h 45 p) (zv_a h 46 p) (0, zv_i h 25, zv_a h 61)))) := by
  have hS := zv_ri hI (k := 25) rfl
  refine zx_T.l (i := .aload_n 0) (k := 1) (v := .ref 44) (pc := 0) rfl rfl rfl ?_
  refine zx_T.s (i := .iconst 0) (k := 1) (st' := [.int (zI (0)), .ref 44]) (pc := 1) rfl rfl ?_
  refine zr_pi (k := 26) (lo := 0) (hi := 7) (e := 0) (pc := 2) rfl rfl rfl rfl rfl rfl hI (by omega) (by omega) (fun h1 ih1 w2 e3 => ?_)
  refine zx_T.l (i := .aload_n 0) (k := 1) (v := .ref 44) (pc := 5) rfl rfl rfl ?_
  refine zr_gr (k := 3) (b := 46) (pc := 6) rfl rfl rfl ih1 ?_
  refine zx_T.l (i := .iload_n 1) (k := 1) (v := .int (zI (p))) (pc := 9) rfl rfl rfl ?_
  refine zr_al (n := 60) (lo := (-2147483648)) (hi := 2147483647) (e := zv_a h 46 p) (pc := 10) rfl rfl rfl ih1 (by omega) (by omega) (zv_wa w2 rfl p) (fun g4a g4b => ?_)
  refine zx_T.t (i := .istore_n 2) (k := 1) (ls' := [(2, .int (zI (zv_a h 46 p))), (0, .ref 44), (1, .int (zI (p)))]) (st' := []) (pc := 11) rfl rfl rfl rfl ?_
  refine zx_T.l (i := .aload_n 0) (k := 1) (v := .ref 44) (pc := 12) rfl rfl rfl ?_
  refine zr_gr (k := 2) (b := 45) (pc := 13) rfl rfl rfl ih1 ?_
  refine zx_T.l (i := .iload_n 1) (k := 1) (v := .int (zI (p))) (pc := 16) rfl rfl rfl ?_
  refine zr_al (n := 60) (lo := 0) (hi := 28) (e := zv_a h 45 p) (pc := 17) rfl rfl rfl ih1 (by omega) (by omega) (zv_wa w2 rfl p) (fun g5a g5b => ?_)
  have c6 : zv_a h 45 p = 3 := by omega
  rcases c6 with c6
  · refine zr_sw (i := .tableswitch 424 1 28 #[126, 134, 142, 150, 158, 167, 176, 190, 198, 206, 214, 222, 222, 240, 258, 271, 284, 303, 322, 336, 350, 363, 424, 424, 372, 380, 372, 388]) (len := 126) (t := 160) (x := zv_a h 45 p) (k := 3) (pc := 18) rfl c6 rfl rfl rfl rfl ?_
    refine zx_T.l (i := .aload_n 0) (k := 1) (v := .ref 44) (pc := 160) rfl rfl rfl ?_
    refine zx_T.s (i := .iconst 4) (k := 1) (st' := [.int (zI (4)), .ref 44]) (pc := 161) rfl rfl ?_
    have y7 : zv_a h1 61 8 = zv_a h 61 8 := (zv_wa w2 rfl 8)
    refine zr_iv (cj := 163) (q' := zp_m163) (As := [.int (zI (4))]) (rest := []) (pc := 162) rfl rfl rfl rfl rfl rfl (Nat.le_of_ble_eq_true rfl) rfl (Nat.le_of_ble_eq_true rfl) ih1 ((zm_pushF (h := h1) ih1 (k := 4) (by omega) (by omega) (by omega)).up (Nat.le_of_ble_eq_true rfl)) ?_
    rintro r8 h11 ⟨ih11, w12, r8q, x10⟩
    subst r8q
    try dsimp only at x10
    have qh11 := x10.1
    have p8 := x10.2 (by omega)
    show zx_T zp_P 3 zp_m167 165 [(2, .int (zI (zv_a h 46 p))), (0, .ref 44), (1, .int (zI (p)))] [] h11 _
    refine zx_T.j (i := .goto 277) (k := 3) (pc' := 442) (st' := []) (pc := 165) rfl rfl rfl rfl rfl ?_
    refine zx_T.l (i := .aload_n 0) (k := 1) (v := .ref 44) (pc := 442) rfl rfl rfl ?_
    refine zr_gi (k := 26) (lo := 0) (hi := 7) (e := zv_i h11 26) (pc := 443) rfl rfl rfl ih11 rfl (fun g13a g13b => ?_)
    have i25 : zv_i h11 25 = zv_i h11 25 := rfl
    have i26 : zv_i h11 26 = zv_i h11 26 := rfl
    have a61 : ∀ j, 0 ≤ j → zv_a h11 61 j = zv_a h11 61 j := fun j hj => rfl
    have y17 := zv_ri ih11 (k := 25) rfl
    exact zr_ir (x := zv_i h11 26) (pc := 446) rfl rfl rfl ⟨ih11, ((w2.wd rfl : zb_W [(44, 25), (44, 26), (61, 0)] h _).tr (w12.wd rfl)), _, rfl, by dsimp only; exact ⟨by omega, by rw [ov]; exact (qh11.tr (zs_push_eq (⟨e3, zv_wi w2 rfl, fun j _ => zv_wa w2 rfl j⟩ : zt_eq (zv_i h1 26, zv_i h1 25, zv_a h1 61) (0, zv_i h 25, zv_a h 61))))⟩⟩

set_option maxRecDepth 100000 in
set_option maxHeartbeats 8000000 in
theorem zm_doesF_c4 {h : zx_H} (hI : zb_I zc_H h) {p : Int} (p1 : 0 ≤ p) (p2 : p ≤ 59) (n8 : ¬ zv_a h 61 8 = 3) (ic : zv_a h 45 p = 21 → 5 ≤ zv_a h 46 p ∧ zv_a h 46 p ≤ 8) (ov : zv_a h 45 p = 4) : zx_T zp_P 3 zp_m167 0 [(0, .ref 44), (1, .int (zI (p)))] [] h (zr_R [(44, 25), (44, 26), (61, 0)] h (fun e h' => e = zv_i h' 26 ∧ zt_eq (zv_i h' 26, zv_i h' 25, zv_a h' 61) (zs_ap (zv_a h 45 p) (zv_a h 46 p) (0, zv_i h 25, zv_a h 61)))) := by
  have hS := zv_ri hI (k := 25) rfl
  refine zx_T.l (i := .aload_n 0) (k := 1) (v := .ref 44) (pc := 0) rfl rfl rfl ?_
  refine zx_T.s (i := .iconst 0) (k := 1) (st' := [.int (zI (0)), .ref 44]) (pc := 1) rfl rfl ?_
  refine zr_pi (k := 26) (lo := 0) (hi := 7) (e := 0) (pc := 2) rfl rfl rfl rfl rfl rfl hI (by omega) (by omega) (fun h1 ih1 w2 e3 => ?_)
  refine zx_T.l (i := .aload_n 0) (k := 1) (v := .ref 44) (pc := 5) rfl rfl rfl ?_
  refine zr_gr (k := 3) (b := 46) (pc := 6) rfl rfl rfl ih1 ?_
  refine zx_T.l (i := .iload_n 1) (k := 1) (v := .int (zI (p))) (pc := 9) rfl rfl rfl ?_
  refine zr_al (n := 60) (lo := (-2147483648)) (hi := 2147483647) (e := zv_a h 46 p) (pc := 10) rfl rfl rfl ih1 (by omega) (by omega) (zv_wa w2 rfl p) (fun g4a g4b => ?_)
  refine zx_T.t (i := .istore_n 2) (k := 1) (ls' := [(2, .int (zI (zv_a h 46 p))), (0, .ref 44), (1, .int (zI (p)))]) (st' := []) (pc := 11) rfl rfl rfl rfl ?_
  refine zx_T.l (i := .aload_n 0) (k := 1) (v := .ref 44) (pc := 12) rfl rfl rfl ?_
  refine zr_gr (k := 2) (b := 45) (pc := 13) rfl rfl rfl ih1 ?_
  refine zx_T.l (i := .iload_n 1) (k := 1) (v := .int (zI (p))) (pc := 16) rfl rfl rfl ?_
  refine zr_al (n := 60) (lo := 0) (hi := 28) (e := zv_a h 45 p) (pc := 17) rfl rfl rfl ih1 (by omega) (by omega) (zv_wa w2 rfl p) (fun g5a g5b => ?_)
  have c6 : zv_a h 45 p = 4 := by omega
  rcases c6 with c6
  · refine zr_sw (i := .tableswitch 424 1 28 #[126, 134, 142, 150, 158, 167, 176, 190, 198, 206, 214, 222, 222, 240, 258, 271, 284, 303, 322, 336, 350, 363, 424, 424, 372, 380, 372, 388]) (len := 126) (t := 168) (x := zv_a h 45 p) (k := 4) (pc := 18) rfl c6 rfl rfl rfl rfl ?_
    refine zx_T.l (i := .aload_n 0) (k := 1) (v := .ref 44) (pc := 168) rfl rfl rfl ?_
    refine zx_T.s (i := .iconst 5) (k := 1) (st' := [.int (zI (5)), .ref 44]) (pc := 169) rfl rfl ?_
    have y7 : zv_a h1 61 8 = zv_a h 61 8 := (zv_wa w2 rfl 8)
    refine zr_iv (cj := 163) (q' := zp_m163) (As := [.int (zI (5))]) (rest := []) (pc := 170) rfl rfl rfl rfl rfl rfl (Nat.le_of_ble_eq_true rfl) rfl (Nat.le_of_ble_eq_true rfl) ih1 ((zm_pushF (h := h1) ih1 (k := 5) (by omega) (by omega) (by omega)).up (Nat.le_of_ble_eq_true rfl)) ?_
    rintro r8 h11 ⟨ih11, w12, r8q, x10⟩
    subst r8q
    try dsimp only at x10
    have qh11 := x10.1
    have p8 := x10.2 (by omega)
    show zx_T zp_P 3 zp_m167 173 [(2, .int (zI (zv_a h 46 p))), (0, .ref 44), (1, .int (zI (p)))] [] h11 _
    refine zx_T.j (i := .goto 269) (k := 3) (pc' := 442) (st' := []) (pc := 173) rfl rfl rfl rfl rfl ?_
    refine zx_T.l (i := .aload_n 0) (k := 1) (v := .ref 44) (pc := 442) rfl rfl rfl ?_
    refine zr_gi (k := 26) (lo := 0) (hi := 7) (e := zv_i h11 26) (pc := 443) rfl rfl rfl ih11 rfl (fun g13a g13b => ?_)
    have i25 : zv_i h11 25 = zv_i h11 25 := rfl
    have i26 : zv_i h11 26 = zv_i h11 26 := rfl
    have a61 : ∀ j, 0 ≤ j → zv_a h11 61 j = zv_a h11 61 j := fun j hj => rfl
    have y17 := zv_ri ih11 (k := 25) rfl
    exact zr_ir (x := zv_i h11 26) (pc := 446) rfl rfl rfl ⟨ih11, ((w2.wd rfl : zb_W [(44, 25), (44, 26), (61, 0)] h _).tr (w12.wd rfl)), _, rfl, by dsimp only; exact ⟨by omega, by rw [ov]; exact (qh11.tr (zs_push_eq (⟨e3, zv_wi w2 rfl, fun j _ => zv_wa w2 rfl j⟩ : zt_eq (zv_i h1 26, zv_i h1 25, zv_a h1 61) (0, zv_i h 25, zv_a h 61))))⟩⟩

set_option maxRecDepth 100000 in
set_option maxHeartbeats 8000000 in
theorem zm_doesF_c5 {h : zx_H} (hI : zb_I zc_H h) {p : Int} (p1 : 0 ≤ p) (p2 : p ≤ 59) (n8 : ¬ zv_a h 61 8 = 3) (ic : zv_a h 45 p = 21 → 5 ≤ zv_a h 46 p ∧ zv_a h 46 p ≤ 8) (ov : zv_a h 45 p = 5) : zx_T zp_P 3 zp_m167 0 [(0, .ref 44), (1, .int (zI (p)))] [] h (zr_R [(44, 25), (44, 26), (61, 0)] h (fun e h' => e = zv_i h' 26 ∧ zt_eq (zv_i h' 26, zv_i h' 25, zv_a h' 61) (zs_ap (zv_a h 45 p) (zv_a h 46 p) (0, zv_i h 25, zv_a h 61)))) := by
  have hS := zv_ri hI (k := 25) rfl
  refine zx_T.l (i := .aload_n 0) (k := 1) (v := .ref 44) (pc := 0) rfl rfl rfl ?_
  refine zx_T.s (i := .iconst 0) (k := 1) (st' := [.int (zI (0)), .ref 44]) (pc := 1) rfl rfl ?_
  refine zr_pi (k := 26) (lo := 0) (hi := 7) (e := 0) (pc := 2) rfl rfl rfl rfl rfl rfl hI (by omega) (by omega) (fun h1 ih1 w2 e3 => ?_)
  refine zx_T.l (i := .aload_n 0) (k := 1) (v := .ref 44) (pc := 5) rfl rfl rfl ?_
  refine zr_gr (k := 3) (b := 46) (pc := 6) rfl rfl rfl ih1 ?_
  refine zx_T.l (i := .iload_n 1) (k := 1) (v := .int (zI (p))) (pc := 9) rfl rfl rfl ?_
  refine zr_al (n := 60) (lo := (-2147483648)) (hi := 2147483647) (e := zv_a h 46 p) (pc := 10) rfl rfl rfl ih1 (by omega) (by omega) (zv_wa w2 rfl p) (fun g4a g4b => ?_)
  refine zx_T.t (i := .istore_n 2) (k := 1) (ls' := [(2, .int (zI (zv_a h 46 p))), (0, .ref 44), (1, .int (zI (p)))]) (st' := []) (pc := 11) rfl rfl rfl rfl ?_
  refine zx_T.l (i := .aload_n 0) (k := 1) (v := .ref 44) (pc := 12) rfl rfl rfl ?_
  refine zr_gr (k := 2) (b := 45) (pc := 13) rfl rfl rfl ih1 ?_
  refine zx_T.l (i := .iload_n 1) (k := 1) (v := .int (zI (p))) (pc := 16) rfl rfl rfl ?_
  refine zr_al (n := 60) (lo := 0) (hi := 28) (e := zv_a h 45 p) (pc := 17) rfl rfl rfl ih1 (by omega) (by omega) (zv_wa w2 rfl p) (fun g5a g5b => ?_)
  have c6 : zv_a h 45 p = 5 := by omega
  rcases c6 with c6
  · refine zr_sw (i := .tableswitch 424 1 28 #[126, 134, 142, 150, 158, 167, 176, 190, 198, 206, 214, 222, 222, 240, 258, 271, 284, 303, 322, 336, 350, 363, 424, 424, 372, 380, 372, 388]) (len := 126) (t := 176) (x := zv_a h 45 p) (k := 5) (pc := 18) rfl c6 rfl rfl rfl rfl ?_
    refine zx_T.l (i := .aload_n 0) (k := 1) (v := .ref 44) (pc := 176) rfl rfl rfl ?_
    refine zx_T.s (i := .bipush 7) (k := 2) (st' := [.int (zI (7)), .ref 44]) (pc := 177) rfl rfl ?_
    have y7 : zv_a h1 61 8 = zv_a h 61 8 := (zv_wa w2 rfl 8)
    refine zr_iv (cj := 163) (q' := zp_m163) (As := [.int (zI (7))]) (rest := []) (pc := 179) rfl rfl rfl rfl rfl rfl (Nat.le_of_ble_eq_true rfl) rfl (Nat.le_of_ble_eq_true rfl) ih1 ((zm_pushF (h := h1) ih1 (k := 7) (by omega) (by omega) (by omega)).up (Nat.le_of_ble_eq_true rfl)) ?_
    rintro r8 h11 ⟨ih11, w12, r8q, x10⟩
    subst r8q
    try dsimp only at x10
    have qh11 := x10.1
    have p8 := x10.2 (by omega)
    show zx_T zp_P 3 zp_m167 182 [(2, .int (zI (zv_a h 46 p))), (0, .ref 44), (1, .int (zI (p)))] [] h11 _
    refine zx_T.j (i := .goto 260) (k := 3) (pc' := 442) (st' := []) (pc := 182) rfl rfl rfl rfl rfl ?_
    refine zx_T.l (i := .aload_n 0) (k := 1) (v := .ref 44) (pc := 442) rfl rfl rfl ?_
    refine zr_gi (k := 26) (lo := 0) (hi := 7) (e := zv_i h11 26) (pc := 443) rfl rfl rfl ih11 rfl (fun g13a g13b => ?_)
    have i25 : zv_i h11 25 = zv_i h11 25 := rfl
    have i26 : zv_i h11 26 = zv_i h11 26 := rfl
    have a61 : ∀ j, 0 ≤ j → zv_a h11 61 j = zv_a h11 61 j := fun j hj => rfl
    have y17 := zv_ri ih11 (k := 25) rfl
    exact zr_ir (x := zv_i h11 26) (pc := 446) rfl rfl rfl ⟨ih11, ((w2.wd rfl : zb_W [(44, 25), (44, 26), (61, 0)] h _).tr (w12.wd rfl)), _, rfl, by dsimp only; exact ⟨by omega, by rw [ov]; exact (qh11.tr (zs_push_eq (⟨e3, zv_wi w2 rfl, fun j _ => zv_wa w2 rfl j⟩ : zt_eq (zv_i h1 26, zv_i h1 25, zv_a h1 61) (0, zv_i h 25, zv_a h 61))))⟩⟩

set_option maxRecDepth 100000 in
set_option maxHeartbeats 8000000 in
theorem zm_doesF_c6 {h : zx_H} (hI : zb_I zc_H h) {p : Int} (p1 : 0 ≤ p) (p2 : p ≤ 59) (n8 : ¬ zv_a h 61 8 = 3) (ic : zv_a h 45 p = 21 → 5 ≤ zv_a h 46 p ∧ zv_a h 46 p ≤ 8) (ov : zv_a h 45 p = 6) : zx_T zp_P 3 zp_m167 0 [(0, .ref 44), (1, .int (zI (p)))] [] h (zr_R [(44, 25), (44, 26), (61, 0)] h (fun e h' => e = zv_i h' 26 ∧ zt_eq (zv_i h' 26, zv_i h' 25, zv_a h' 61) (zs_ap (zv_a h 45 p) (zv_a h 46 p) (0, zv_i h 25, zv_a h 61)))) := by
  have hS := zv_ri hI (k := 25) rfl
  refine zx_T.l (i := .aload_n 0) (k := 1) (v := .ref 44) (pc := 0) rfl rfl rfl ?_
  refine zx_T.s (i := .iconst 0) (k := 1) (st' := [.int (zI (0)), .ref 44]) (pc := 1) rfl rfl ?_
  refine zr_pi (k := 26) (lo := 0) (hi := 7) (e := 0) (pc := 2) rfl rfl rfl rfl rfl rfl hI (by omega) (by omega) (fun h1 ih1 w2 e3 => ?_)
  refine zx_T.l (i := .aload_n 0) (k := 1) (v := .ref 44) (pc := 5) rfl rfl rfl ?_
  refine zr_gr (k := 3) (b := 46) (pc := 6) rfl rfl rfl ih1 ?_
  refine zx_T.l (i := .iload_n 1) (k := 1) (v := .int (zI (p))) (pc := 9) rfl rfl rfl ?_
  refine zr_al (n := 60) (lo := (-2147483648)) (hi := 2147483647) (e := zv_a h 46 p) (pc := 10) rfl rfl rfl ih1 (by omega) (by omega) (zv_wa w2 rfl p) (fun g4a g4b => ?_)
  refine zx_T.t (i := .istore_n 2) (k := 1) (ls' := [(2, .int (zI (zv_a h 46 p))), (0, .ref 44), (1, .int (zI (p)))]) (st' := []) (pc := 11) rfl rfl rfl rfl ?_
  refine zx_T.l (i := .aload_n 0) (k := 1) (v := .ref 44) (pc := 12) rfl rfl rfl ?_
  refine zr_gr (k := 2) (b := 45) (pc := 13) rfl rfl rfl ih1 ?_
  refine zx_T.l (i := .iload_n 1) (k := 1) (v := .int (zI (p))) (pc := 16) rfl rfl rfl ?_
  refine zr_al (n := 60) (lo := 0) (hi := 28) (e := zv_a h 45 p) (pc := 17) rfl rfl rfl ih1 (by omega) (by omega) (zv_wa w2 rfl p) (fun g5a g5b => ?_)
  have c6 : zv_a h 45 p = 6 := by omega
  rcases c6 with c6
  · refine zr_sw (i := .tableswitch 424 1 28 #[126, 134, 142, 150, 158, 167, 176, 190, 198, 206, 214, 222, 222, 240, 258, 271, 284, 303, 322, 336, 350, 363, 424, 424, 372, 380, 372, 388]) (len := 126) (t := 185) (x := zv_a h 45 p) (k := 6) (pc := 18) rfl c6 rfl rfl rfl rfl ?_
    refine zx_T.l (i := .aload_n 0) (k := 1) (v := .ref 44) (pc := 185) rfl rfl rfl ?_
    refine zx_T.s (i := .bipush 8) (k := 2) (st' := [.int (zI (8)), .ref 44]) (pc := 186) rfl rfl ?_
    have y7 : zv_a h1 61 8 = zv_a h 61 8 := (zv_wa w2 rfl 8)
    refine zr_iv (cj := 163) (q' := zp_m163) (As := [.int (zI (8))]) (rest := []) (pc := 188) rfl rfl rfl rfl rfl rfl (Nat.le_of_ble_eq_true rfl) rfl (Nat.le_of_ble_eq_true rfl) ih1 ((zm_pushF (h := h1) ih1 (k := 8) (by omega) (by omega) (by omega)).up (Nat.le_of_ble_eq_true rfl)) ?_
    rintro r8 h11 ⟨ih11, w12, r8q, x10⟩
    subst r8q
    try dsimp only at x10
    have qh11 := x10.1
    have p8 := x10.2 (by omega)
    show zx_T zp_P 3 zp_m167 191 [(2, .int (zI (zv_a h 46 p))), (0, .ref 44), (1, .int (zI (p)))] [] h11 _
    refine zx_T.j (i := .goto 251) (k := 3) (pc' := 442) (st' := []) (pc := 191) rfl rfl rfl rfl rfl ?_
    refine zx_T.l (i := .aload_n 0) (k := 1) (v := .ref 44) (pc := 442) rfl rfl rfl ?_
    refine zr_gi (k := 26) (lo := 0) (hi := 7) (e := zv_i h11 26) (pc := 443) rfl rfl rfl ih11 rfl (fun g13a g13b => ?_)
    have i25 : zv_i h11 25 = zv_i h11 25 := rfl
    have i26 : zv_i h11 26 = zv_i h11 26 := rfl
    have a61 : ∀ j, 0 ≤ j → zv_a h11 61 j = zv_a h11 61 j := fun j hj => rfl
    have y17 := zv_ri ih11 (k := 25) rfl
    exact zr_ir (x := zv_i h11 26) (pc := 446) rfl rfl rfl ⟨ih11, ((w2.wd rfl : zb_W [(44, 25), (44, 26), (61, 0)] h _).tr (w12.wd rfl)), _, rfl, by dsimp only; exact ⟨by omega, by rw [ov]; exact (qh11.tr (zs_push_eq (⟨e3, zv_wi w2 rfl, fun j _ => zv_wa w2 rfl j⟩ : zt_eq (zv_i h1 26, zv_i h1 25, zv_a h1 61) (0, zv_i h 25, zv_a h 61))))⟩⟩

set_option maxRecDepth 100000 in
set_option maxHeartbeats 8000000 in
theorem zm_doesF_c7 {h : zx_H} (hI : zb_I zc_H h) {p : Int} (p1 : 0 ≤ p) (p2 : p ≤ 59) (n8 : ¬ zv_a h 61 8 = 3) (ic : zv_a h 45 p = 21 → 5 ≤ zv_a h 46 p ∧ zv_a h 46 p ≤ 8) (ov : zv_a h 45 p = 7) : zx_T zp_P 3 zp_m167 0 [(0, .ref 44), (1, .int (zI (p)))] [] h (zr_R [(44, 25), (44, 26), (61, 0)] h (fun e h' => e = zv_i h' 26 ∧ zt_eq (zv_i h' 26, zv_i h' 25, zv_a h' 61) (zs_ap (zv_a h 45 p) (zv_a h 46 p) (0, zv_i h 25, zv_a h 61)))) := by
  have hS := zv_ri hI (k := 25) rfl
  refine zx_T.l (i := .aload_n 0) (k := 1) (v := .ref 44) (pc := 0) rfl rfl rfl ?_
  refine zx_T.s (i := .iconst 0) (k := 1) (st' := [.int (zI (0)), .ref 44]) (pc := 1) rfl rfl ?_
  refine zr_pi (k := 26) (lo := 0) (hi := 7) (e := 0) (pc := 2) rfl rfl rfl rfl rfl rfl hI (by omega) (by omega) (fun h1 ih1 w2 e3 => ?_)
  refine zx_T.l (i := .aload_n 0) (k := 1) (v := .ref 44) (pc := 5) rfl rfl rfl ?_
  refine zr_gr (k := 3) (b := 46) (pc := 6) rfl rfl rfl ih1 ?_
  refine zx_T.l (i := .iload_n 1) (k := 1) (v := .int (zI (p))) (pc := 9) rfl rfl rfl ?_
  refine zr_al (n := 60) (lo := (-2147483648)) (hi := 2147483647) (e := zv_a h 46 p) (pc := 10) rfl rfl rfl ih1 (by omega) (by omega) (zv_wa w2 rfl p) (fun g4a g4b => ?_)
  refine zx_T.t (i := .istore_n 2) (k := 1) (ls' := [(2, .int (zI (zv_a h 46 p))), (0, .ref 44), (1, .int (zI (p)))]) (st' := []) (pc := 11) rfl rfl rfl rfl ?_
  refine zx_T.l (i := .aload_n 0) (k := 1) (v := .ref 44) (pc := 12) rfl rfl rfl ?_
  refine zr_gr (k := 2) (b := 45) (pc := 13) rfl rfl rfl ih1 ?_
  refine zx_T.l (i := .iload_n 1) (k := 1) (v := .int (zI (p))) (pc := 16) rfl rfl rfl ?_
  refine zr_al (n := 60) (lo := 0) (hi := 28) (e := zv_a h 45 p) (pc := 17) rfl rfl rfl ih1 (by omega) (by omega) (zv_wa w2 rfl p) (fun g5a g5b => ?_)
  have c6 : zv_a h 45 p = 7 := by omega
  rcases c6 with c6
  · refine zr_sw (i := .tableswitch 424 1 28 #[126, 134, 142, 150, 158, 167, 176, 190, 198, 206, 214, 222, 222, 240, 258, 271, 284, 303, 322, 336, 350, 363, 424, 424, 372, 380, 372, 388]) (len := 126) (t := 194) (x := zv_a h 45 p) (k := 7) (pc := 18) rfl c6 rfl rfl rfl rfl ?_
    refine zx_T.l (i := .aload_n 0) (k := 1) (v := .ref 44) (pc := 194) rfl rfl rfl ?_
    refine zx_T.s (i := .iconst 1) (k := 1) (st' := [.int (zI (1)), .ref 44]) (pc := 195) rfl rfl ?_
    have y7 : zv_a h1 61 8 = zv_a h 61 8 := (zv_wa w2 rfl 8)
    refine zr_iv (cj := 162) (q' := zp_m162) (As := [.int (zI (1))]) (rest := []) (pc := 196) rfl rfl rfl rfl rfl rfl (Nat.le_of_ble_eq_true rfl) rfl (Nat.le_of_ble_eq_true rfl) ih1 ((zm_needF (h := h1) ih1 (w := 1) (by omega) (by omega)).up (Nat.le_of_ble_eq_true rfl)) ?_
    rintro r8 h11 ⟨ih11, w12, r8q, x10⟩
    subst r8q
    try dsimp only at x10
    have qh11 := x10
    show zx_T zp_P 3 zp_m167 199 [(2, .int (zI (zv_a h 46 p))), (0, .ref 44), (1, .int (zI (p)))] [] h11 _
    refine zx_T.l (i := .aload_n 0) (k := 1) (v := .ref 44) (pc := 199) rfl rfl rfl ?_
    refine zx_T.s (i := .bipush 6) (k := 2) (st' := [.int (zI (6)), .ref 44]) (pc := 200) rfl rfl ?_
    have y13 : zv_a h11 61 8 = zv_a h 61 8 := ((zv_wa w12 rfl 8).trans (zv_wa w2 rfl 8))
    refine zr_iv (cj := 163) (q' := zp_m163) (As := [.int (zI (6))]) (rest := []) (pc := 202) rfl rfl rfl rfl rfl rfl (Nat.le_of_ble_eq_true rfl) rfl (Nat.le_of_ble_eq_true rfl) ih11 ((zm_pushF (h := h11) ih11 (k := 6) (by omega) (by omega) (by omega)).up (Nat.le_of_ble_eq_true rfl)) ?_
    rintro r14 h17 ⟨ih17, w18, r14q, x16⟩
    subst r14q
    try dsimp only at x16
    have qh17 := x16.1
    have p8 := x16.2 (by omega)
    show zx_T zp_P 3 zp_m167 205 [(2, .int (zI (zv_a h 46 p))), (0, .ref 44), (1, .int (zI (p)))] [] h17 _
    refine zx_T.j (i := .goto 237) (k := 3) (pc' := 442) (st' := []) (pc := 205) rfl rfl rfl rfl rfl ?_
    refine zx_T.l (i := .aload_n 0) (k := 1) (v := .ref 44) (pc := 442) rfl rfl rfl ?_
    refine zr_gi (k := 26) (lo := 0) (hi := 7) (e := zv_i h17 26) (pc := 443) rfl rfl rfl ih17 rfl (fun g19a g19b => ?_)
    have i25 : zv_i h17 25 = zv_i h17 25 := rfl
    have i26 : zv_i h17 26 = zv_i h17 26 := rfl
    have a61 : ∀ j, 0 ≤ j → zv_a h17 61 j = zv_a h17 61 j := fun j hj => rfl
    have y23 := zv_ri ih17 (k := 25) rfl
    exact zr_ir (x := zv_i h17 26) (pc := 446) rfl rfl rfl ⟨ih17, (((w2.wd rfl : zb_W [(44, 25), (44, 26), (61, 0)] h _).tr (w12.wd rfl)).tr (w18.wd rfl)), _, rfl, by dsimp only; exact ⟨by omega, by rw [ov]; exact (qh17.tr (zs_push_eq (qh11.tr (zs_need_eq (⟨e3, zv_wi w2 rfl, fun j _ => zv_wa w2 rfl j⟩ : zt_eq (zv_i h1 26, zv_i h1 25, zv_a h1 61) (0, zv_i h 25, zv_a h 61)) (zv_ri ih1 (k := 25) rfl).1))))⟩⟩

set_option maxRecDepth 100000 in
set_option maxHeartbeats 8000000 in
theorem zm_doesF_c8 {h : zx_H} (hI : zb_I zc_H h) {p : Int} (p1 : 0 ≤ p) (p2 : p ≤ 59) (n8 : ¬ zv_a h 61 8 = 3) (ic : zv_a h 45 p = 21 → 5 ≤ zv_a h 46 p ∧ zv_a h 46 p ≤ 8) (ov : zv_a h 45 p = 8) : zx_T zp_P 3 zp_m167 0 [(0, .ref 44), (1, .int (zI (p)))] [] h (zr_R [(44, 25), (44, 26), (61, 0)] h (fun e h' => e = zv_i h' 26 ∧ zt_eq (zv_i h' 26, zv_i h' 25, zv_a h' 61) (zs_ap (zv_a h 45 p) (zv_a h 46 p) (0, zv_i h 25, zv_a h 61)))) := by
  have hS := zv_ri hI (k := 25) rfl
  refine zx_T.l (i := .aload_n 0) (k := 1) (v := .ref 44) (pc := 0) rfl rfl rfl ?_
  refine zx_T.s (i := .iconst 0) (k := 1) (st' := [.int (zI (0)), .ref 44]) (pc := 1) rfl rfl ?_
  refine zr_pi (k := 26) (lo := 0) (hi := 7) (e := 0) (pc := 2) rfl rfl rfl rfl rfl rfl hI (by omega) (by omega) (fun h1 ih1 w2 e3 => ?_)
  refine zx_T.l (i := .aload_n 0) (k := 1) (v := .ref 44) (pc := 5) rfl rfl rfl ?_
  refine zr_gr (k := 3) (b := 46) (pc := 6) rfl rfl rfl ih1 ?_
  refine zx_T.l (i := .iload_n 1) (k := 1) (v := .int (zI (p))) (pc := 9) rfl rfl rfl ?_
  refine zr_al (n := 60) (lo := (-2147483648)) (hi := 2147483647) (e := zv_a h 46 p) (pc := 10) rfl rfl rfl ih1 (by omega) (by omega) (zv_wa w2 rfl p) (fun g4a g4b => ?_)
  refine zx_T.t (i := .istore_n 2) (k := 1) (ls' := [(2, .int (zI (zv_a h 46 p))), (0, .ref 44), (1, .int (zI (p)))]) (st' := []) (pc := 11) rfl rfl rfl rfl ?_
  refine zx_T.l (i := .aload_n 0) (k := 1) (v := .ref 44) (pc := 12) rfl rfl rfl ?_
  refine zr_gr (k := 2) (b := 45) (pc := 13) rfl rfl rfl ih1 ?_
  refine zx_T.l (i := .iload_n 1) (k := 1) (v := .int (zI (p))) (pc := 16) rfl rfl rfl ?_
  refine zr_al (n := 60) (lo := 0) (hi := 28) (e := zv_a h 45 p) (pc := 17) rfl rfl rfl ih1 (by omega) (by omega) (zv_wa w2 rfl p) (fun g5a g5b => ?_)
  have c6 : zv_a h 45 p = 8 := by omega
  rcases c6 with c6
  · refine zr_sw (i := .tableswitch 424 1 28 #[126, 134, 142, 150, 158, 167, 176, 190, 198, 206, 214, 222, 222, 240, 258, 271, 284, 303, 322, 336, 350, 363, 424, 424, 372, 380, 372, 388]) (len := 126) (t := 208) (x := zv_a h 45 p) (k := 8) (pc := 18) rfl c6 rfl rfl rfl rfl ?_
    refine zx_T.l (i := .aload_n 0) (k := 1) (v := .ref 44) (pc := 208) rfl rfl rfl ?_
    refine zx_T.l (i := .iload_n 2) (k := 1) (v := .int (zI (zv_a h 46 p))) (pc := 209) rfl rfl rfl ?_
    have y7 : zv_a h1 61 8 = zv_a h 61 8 := (zv_wa w2 rfl 8)
    have y8 : zv_i h1 26 = 0 := e3
    refine zr_iv (cj := 165) (q' := zp_m165) (As := [.int (zI (zv_a h 46 p))]) (rest := []) (pc := 210) rfl rfl rfl rfl rfl rfl (Nat.le_of_ble_eq_true rfl) rfl (Nat.le_of_ble_eq_true rfl) ih1 ((zm_loadF (h := h1) ih1 (a := zv_a h 46 p) (by omega) (by omega) (by omega) (by omega)).up (Nat.le_of_ble_eq_true rfl)) ?_
    rintro r9 h12 ⟨ih12, w13, r9q, x11⟩
    subst r9q
    try dsimp only at x11
    have qh12 := x11.1
    have p8 := x11.2
    show zx_T zp_P 3 zp_m167 213 [(2, .int (zI (zv_a h 46 p))), (0, .ref 44), (1, .int (zI (p)))] [] h12 _
    refine zx_T.j (i := .goto 229) (k := 3) (pc' := 442) (st' := []) (pc := 213) rfl rfl rfl rfl rfl ?_
    refine zx_T.l (i := .aload_n 0) (k := 1) (v := .ref 44) (pc := 442) rfl rfl rfl ?_
    refine zr_gi (k := 26) (lo := 0) (hi := 7) (e := zv_i h12 26) (pc := 443) rfl rfl rfl ih12 rfl (fun g14a g14b => ?_)
    have i25 : zv_i h12 25 = zv_i h12 25 := rfl
    have i26 : zv_i h12 26 = zv_i h12 26 := rfl
    have a61 : ∀ j, 0 ≤ j → zv_a h12 61 j = zv_a h12 61 j := fun j hj => rfl
    have y18 := zv_ri ih12 (k := 25) rfl
    exact zr_ir (x := zv_i h12 26) (pc := 446) rfl rfl rfl ⟨ih12, ((w2.wd rfl : zb_W [(44, 25), (44, 26), (61, 0)] h _).tr (w13.wd rfl)), _, rfl, by dsimp only; exact ⟨by omega, by rw [ov]; exact qh12.tr (zt_ldb (⟨e3, zv_wi w2 rfl, fun j _ => zv_wa w2 rfl j⟩ : zt_eq (zv_i h1 26, zv_i h1 25, zv_a h1 61) (0, zv_i h 25, zv_a h 61)))⟩⟩

set_option maxRecDepth 100000 in
set_option maxHeartbeats 8000000 in
theorem zm_doesF_c9 {h : zx_H} (hI : zb_I zc_H h) {p : Int} (p1 : 0 ≤ p) (p2 : p ≤ 59) (n8 : ¬ zv_a h 61 8 = 3) (ic : zv_a h 45 p = 21 → 5 ≤ zv_a h 46 p ∧ zv_a h 46 p ≤ 8) (ov : zv_a h 45 p = 9) : zx_T zp_P 3 zp_m167 0 [(0, .ref 44), (1, .int (zI (p)))] [] h (zr_R [(44, 25), (44, 26), (61, 0)] h (fun e h' => e = zv_i h' 26 ∧ zt_eq (zv_i h' 26, zv_i h' 25, zv_a h' 61) (zs_ap (zv_a h 45 p) (zv_a h 46 p) (0, zv_i h 25, zv_a h 61)))) := by
  have hS := zv_ri hI (k := 25) rfl
  refine zx_T.l (i := .aload_n 0) (k := 1) (v := .ref 44) (pc := 0) rfl rfl rfl ?_
  refine zx_T.s (i := .iconst 0) (k := 1) (st' := [.int (zI (0)), .ref 44]) (pc := 1) rfl rfl ?_
  refine zr_pi (k := 26) (lo := 0) (hi := 7) (e := 0) (pc := 2) rfl rfl rfl rfl rfl rfl hI (by omega) (by omega) (fun h1 ih1 w2 e3 => ?_)
  refine zx_T.l (i := .aload_n 0) (k := 1) (v := .ref 44) (pc := 5) rfl rfl rfl ?_
  refine zr_gr (k := 3) (b := 46) (pc := 6) rfl rfl rfl ih1 ?_
  refine zx_T.l (i := .iload_n 1) (k := 1) (v := .int (zI (p))) (pc := 9) rfl rfl rfl ?_
  refine zr_al (n := 60) (lo := (-2147483648)) (hi := 2147483647) (e := zv_a h 46 p) (pc := 10) rfl rfl rfl ih1 (by omega) (by omega) (zv_wa w2 rfl p) (fun g4a g4b => ?_)
  refine zx_T.t (i := .istore_n 2) (k := 1) (ls' := [(2, .int (zI (zv_a h 46 p))), (0, .ref 44), (1, .int (zI (p)))]) (st' := []) (pc := 11) rfl rfl rfl rfl ?_
  refine zx_T.l (i := .aload_n 0) (k := 1) (v := .ref 44) (pc := 12) rfl rfl rfl ?_
  refine zr_gr (k := 2) (b := 45) (pc := 13) rfl rfl rfl ih1 ?_
  refine zx_T.l (i := .iload_n 1) (k := 1) (v := .int (zI (p))) (pc := 16) rfl rfl rfl ?_
  refine zr_al (n := 60) (lo := 0) (hi := 28) (e := zv_a h 45 p) (pc := 17) rfl rfl rfl ih1 (by omega) (by omega) (zv_wa w2 rfl p) (fun g5a g5b => ?_)
  have c6 : zv_a h 45 p = 9 := by omega
  rcases c6 with c6
  · refine zr_sw (i := .tableswitch 424 1 28 #[126, 134, 142, 150, 158, 167, 176, 190, 198, 206, 214, 222, 222, 240, 258, 271, 284, 303, 322, 336, 350, 363, 424, 424, 372, 380, 372, 388]) (len := 126) (t := 216) (x := zv_a h 45 p) (k := 9) (pc := 18) rfl c6 rfl rfl rfl rfl ?_
    refine zx_T.l (i := .aload_n 0) (k := 1) (v := .ref 44) (pc := 216) rfl rfl rfl ?_
    refine zx_T.l (i := .iload_n 2) (k := 1) (v := .int (zI (zv_a h 46 p))) (pc := 217) rfl rfl rfl ?_
    have y7 : zv_a h1 61 8 = zv_a h 61 8 := (zv_wa w2 rfl 8)
    have y8 : zv_i h1 26 = 0 := e3
    refine zr_iv (cj := 166) (q' := zp_m166) (As := [.int (zI (zv_a h 46 p))]) (rest := []) (pc := 218) rfl rfl rfl rfl rfl rfl (Nat.le_of_ble_eq_true rfl) rfl (Nat.le_of_ble_eq_true rfl) ih1 ((zm_storeF (h := h1) ih1 (a := zv_a h 46 p) (by omega) (by omega) (by omega) (by omega)).up (Nat.le_of_ble_eq_true rfl)) ?_
    rintro r9 h12 ⟨ih12, w13, r9q, x11⟩
    subst r9q
    try dsimp only at x11
    have qh12 := x11
    show zx_T zp_P 3 zp_m167 221 [(2, .int (zI (zv_a h 46 p))), (0, .ref 44), (1, .int (zI (p)))] [] h12 _
    refine zx_T.j (i := .goto 221) (k := 3) (pc' := 442) (st' := []) (pc := 221) rfl rfl rfl rfl rfl ?_
    refine zx_T.l (i := .aload_n 0) (k := 1) (v := .ref 44) (pc := 442) rfl rfl rfl ?_
    refine zr_gi (k := 26) (lo := 0) (hi := 7) (e := zv_i h12 26) (pc := 443) rfl rfl rfl ih12 rfl (fun g14a g14b => ?_)
    have i25 : zv_i h12 25 = zv_i h12 25 := rfl
    have i26 : zv_i h12 26 = zv_i h12 26 := rfl
    have a61 : ∀ j, 0 ≤ j → zv_a h12 61 j = zv_a h12 61 j := fun j hj => rfl
    have y18 := zv_ri ih12 (k := 25) rfl
    exact zr_ir (x := zv_i h12 26) (pc := 446) rfl rfl rfl ⟨ih12, ((w2.wd rfl : zb_W [(44, 25), (44, 26), (61, 0)] h _).tr (w13.wd rfl)), _, rfl, by dsimp only; exact ⟨by omega, by rw [ov]; exact qh12.tr (zt_stb (⟨e3, zv_wi w2 rfl, fun j _ => zv_wa w2 rfl j⟩ : zt_eq (zv_i h1 26, zv_i h1 25, zv_a h1 61) (0, zv_i h 25, zv_a h 61)) (zv_ri ih1 (k := 25) rfl).1)⟩⟩

set_option maxRecDepth 100000 in
set_option maxHeartbeats 8000000 in
theorem zm_doesF_c10 {h : zx_H} (hI : zb_I zc_H h) {p : Int} (p1 : 0 ≤ p) (p2 : p ≤ 59) (n8 : ¬ zv_a h 61 8 = 3) (ic : zv_a h 45 p = 21 → 5 ≤ zv_a h 46 p ∧ zv_a h 46 p ≤ 8) (ov : zv_a h 45 p = 10) : zx_T zp_P 3 zp_m167 0 [(0, .ref 44), (1, .int (zI (p)))] [] h (zr_R [(44, 25), (44, 26), (61, 0)] h (fun e h' => e = zv_i h' 26 ∧ zt_eq (zv_i h' 26, zv_i h' 25, zv_a h' 61) (zs_ap (zv_a h 45 p) (zv_a h 46 p) (0, zv_i h 25, zv_a h 61)))) := by
  have hS := zv_ri hI (k := 25) rfl
  refine zx_T.l (i := .aload_n 0) (k := 1) (v := .ref 44) (pc := 0) rfl rfl rfl ?_
  refine zx_T.s (i := .iconst 0) (k := 1) (st' := [.int (zI (0)), .ref 44]) (pc := 1) rfl rfl ?_
  refine zr_pi (k := 26) (lo := 0) (hi := 7) (e := 0) (pc := 2) rfl rfl rfl rfl rfl rfl hI (by omega) (by omega) (fun h1 ih1 w2 e3 => ?_)
  refine zx_T.l (i := .aload_n 0) (k := 1) (v := .ref 44) (pc := 5) rfl rfl rfl ?_
  refine zr_gr (k := 3) (b := 46) (pc := 6) rfl rfl rfl ih1 ?_
  refine zx_T.l (i := .iload_n 1) (k := 1) (v := .int (zI (p))) (pc := 9) rfl rfl rfl ?_
  refine zr_al (n := 60) (lo := (-2147483648)) (hi := 2147483647) (e := zv_a h 46 p) (pc := 10) rfl rfl rfl ih1 (by omega) (by omega) (zv_wa w2 rfl p) (fun g4a g4b => ?_)
  refine zx_T.t (i := .istore_n 2) (k := 1) (ls' := [(2, .int (zI (zv_a h 46 p))), (0, .ref 44), (1, .int (zI (p)))]) (st' := []) (pc := 11) rfl rfl rfl rfl ?_
  refine zx_T.l (i := .aload_n 0) (k := 1) (v := .ref 44) (pc := 12) rfl rfl rfl ?_
  refine zr_gr (k := 2) (b := 45) (pc := 13) rfl rfl rfl ih1 ?_
  refine zx_T.l (i := .iload_n 1) (k := 1) (v := .int (zI (p))) (pc := 16) rfl rfl rfl ?_
  refine zr_al (n := 60) (lo := 0) (hi := 28) (e := zv_a h 45 p) (pc := 17) rfl rfl rfl ih1 (by omega) (by omega) (zv_wa w2 rfl p) (fun g5a g5b => ?_)
  have c6 : zv_a h 45 p = 10 := by omega
  rcases c6 with c6
  · refine zr_sw (i := .tableswitch 424 1 28 #[126, 134, 142, 150, 158, 167, 176, 190, 198, 206, 214, 222, 222, 240, 258, 271, 284, 303, 322, 336, 350, 363, 424, 424, 372, 380, 372, 388]) (len := 126) (t := 224) (x := zv_a h 45 p) (k := 10) (pc := 18) rfl c6 rfl rfl rfl rfl ?_
    refine zx_T.l (i := .aload_n 0) (k := 1) (v := .ref 44) (pc := 224) rfl rfl rfl ?_
    refine zx_T.s (i := .iconst 0) (k := 1) (st' := [.int (zI (0)), .ref 44]) (pc := 225) rfl rfl ?_
    have y7 : zv_a h1 61 8 = zv_a h 61 8 := (zv_wa w2 rfl 8)
    have y8 : zv_i h1 26 = 0 := e3
    refine zr_iv (cj := 164) (q' := zp_m164) (As := [.int (zI (0))]) (rest := []) (pc := 226) rfl rfl rfl rfl rfl rfl (Nat.le_of_ble_eq_true rfl) rfl (Nat.le_of_ble_eq_true rfl) ih1 ((zm_pop0F (h := h1) ih1  (by omega) (by omega)).up (Nat.le_of_ble_eq_true rfl)) ?_
    rintro r9 h12 ⟨ih12, w13, r9q, x11⟩
    subst r9q
    try dsimp only at x11
    have qh12 := x11
    show zx_T zp_P 3 zp_m167 229 [(2, .int (zI (zv_a h 46 p))), (0, .ref 44), (1, .int (zI (p)))] [] h12 _
    refine zx_T.j (i := .goto 213) (k := 3) (pc' := 442) (st' := []) (pc := 229) rfl rfl rfl rfl rfl ?_
    refine zx_T.l (i := .aload_n 0) (k := 1) (v := .ref 44) (pc := 442) rfl rfl rfl ?_
    refine zr_gi (k := 26) (lo := 0) (hi := 7) (e := zv_i h12 26) (pc := 443) rfl rfl rfl ih12 rfl (fun g14a g14b => ?_)
    have i25 : zv_i h12 25 = zv_i h12 25 := rfl
    have i26 : zv_i h12 26 = zv_i h12 26 := rfl
    have a61 : ∀ j, 0 ≤ j → zv_a h12 61 j = zv_a h 61 j := fun j hj => by rw [zv_wa w13 rfl j, zv_wa w2 rfl j]
    have y18 := zv_ri ih12 (k := 25) rfl
    exact zr_ir (x := zv_i h12 26) (pc := 446) rfl rfl rfl ⟨ih12, ((w2.wd rfl : zb_W [(44, 25), (44, 26), (61, 0)] h _).tr (w13.wd rfl)), _, rfl, by dsimp only; exact ⟨by omega, by rw [ov]; exact qh12.tr (zt_pb1 (⟨e3, zv_wi w2 rfl, fun j _ => zv_wa w2 rfl j⟩ : zt_eq (zv_i h1 26, zv_i h1 25, zv_a h1 61) (0, zv_i h 25, zv_a h 61)) (zv_ri ih1 (k := 25) rfl).1)⟩⟩

set_option maxRecDepth 100000 in
set_option maxHeartbeats 8000000 in
theorem zm_doesF_c11 {h : zx_H} (hI : zb_I zc_H h) {p : Int} (p1 : 0 ≤ p) (p2 : p ≤ 59) (n8 : ¬ zv_a h 61 8 = 3) (ic : zv_a h 45 p = 21 → 5 ≤ zv_a h 46 p ∧ zv_a h 46 p ≤ 8) (ov : zv_a h 45 p = 11) : zx_T zp_P 3 zp_m167 0 [(0, .ref 44), (1, .int (zI (p)))] [] h (zr_R [(44, 25), (44, 26), (61, 0)] h (fun e h' => e = zv_i h' 26 ∧ zt_eq (zv_i h' 26, zv_i h' 25, zv_a h' 61) (zs_ap (zv_a h 45 p) (zv_a h 46 p) (0, zv_i h 25, zv_a h 61)))) := by
  have hS := zv_ri hI (k := 25) rfl
  refine zx_T.l (i := .aload_n 0) (k := 1) (v := .ref 44) (pc := 0) rfl rfl rfl ?_
  refine zx_T.s (i := .iconst 0) (k := 1) (st' := [.int (zI (0)), .ref 44]) (pc := 1) rfl rfl ?_
  refine zr_pi (k := 26) (lo := 0) (hi := 7) (e := 0) (pc := 2) rfl rfl rfl rfl rfl rfl hI (by omega) (by omega) (fun h1 ih1 w2 e3 => ?_)
  refine zx_T.l (i := .aload_n 0) (k := 1) (v := .ref 44) (pc := 5) rfl rfl rfl ?_
  refine zr_gr (k := 3) (b := 46) (pc := 6) rfl rfl rfl ih1 ?_
  refine zx_T.l (i := .iload_n 1) (k := 1) (v := .int (zI (p))) (pc := 9) rfl rfl rfl ?_
  refine zr_al (n := 60) (lo := (-2147483648)) (hi := 2147483647) (e := zv_a h 46 p) (pc := 10) rfl rfl rfl ih1 (by omega) (by omega) (zv_wa w2 rfl p) (fun g4a g4b => ?_)
  refine zx_T.t (i := .istore_n 2) (k := 1) (ls' := [(2, .int (zI (zv_a h 46 p))), (0, .ref 44), (1, .int (zI (p)))]) (st' := []) (pc := 11) rfl rfl rfl rfl ?_
  refine zx_T.l (i := .aload_n 0) (k := 1) (v := .ref 44) (pc := 12) rfl rfl rfl ?_
  refine zr_gr (k := 2) (b := 45) (pc := 13) rfl rfl rfl ih1 ?_
  refine zx_T.l (i := .iload_n 1) (k := 1) (v := .int (zI (p))) (pc := 16) rfl rfl rfl ?_
  refine zr_al (n := 60) (lo := 0) (hi := 28) (e := zv_a h 45 p) (pc := 17) rfl rfl rfl ih1 (by omega) (by omega) (zv_wa w2 rfl p) (fun g5a g5b => ?_)
  have c6 : zv_a h 45 p = 11 := by omega
  rcases c6 with c6
  · refine zr_sw (i := .tableswitch 424 1 28 #[126, 134, 142, 150, 158, 167, 176, 190, 198, 206, 214, 222, 222, 240, 258, 271, 284, 303, 322, 336, 350, 363, 424, 424, 372, 380, 372, 388]) (len := 126) (t := 232) (x := zv_a h 45 p) (k := 11) (pc := 18) rfl c6 rfl rfl rfl rfl ?_
    refine zx_T.l (i := .aload_n 0) (k := 1) (v := .ref 44) (pc := 232) rfl rfl rfl ?_
    refine zx_T.s (i := .iconst 1) (k := 1) (st' := [.int (zI (1)), .ref 44]) (pc := 233) rfl rfl ?_
    have y7 : zv_a h1 61 8 = zv_a h 61 8 := (zv_wa w2 rfl 8)
    have y8 : zv_i h1 26 = 0 := e3
    refine zr_iv (cj := 164) (q' := zp_m164) (As := [.int (zI (1))]) (rest := []) (pc := 234) rfl rfl rfl rfl rfl rfl (Nat.le_of_ble_eq_true rfl) rfl (Nat.le_of_ble_eq_true rfl) ih1 ((zm_pop1F (h := h1) ih1  (by omega) (by omega)).up (Nat.le_of_ble_eq_true rfl)) ?_
    rintro r9 h12 ⟨ih12, w13, r9q, x11⟩
    subst r9q
    try dsimp only at x11
    have qh12 := x11
    show zx_T zp_P 3 zp_m167 237 [(2, .int (zI (zv_a h 46 p))), (0, .ref 44), (1, .int (zI (p)))] [] h12 _
    refine zx_T.j (i := .goto 205) (k := 3) (pc' := 442) (st' := []) (pc := 237) rfl rfl rfl rfl rfl ?_
    refine zx_T.l (i := .aload_n 0) (k := 1) (v := .ref 44) (pc := 442) rfl rfl rfl ?_
    refine zr_gi (k := 26) (lo := 0) (hi := 7) (e := zv_i h12 26) (pc := 443) rfl rfl rfl ih12 rfl (fun g14a g14b => ?_)
    have i25 : zv_i h12 25 = zv_i h12 25 := rfl
    have i26 : zv_i h12 26 = zv_i h12 26 := rfl
    have a61 : ∀ j, 0 ≤ j → zv_a h12 61 j = zv_a h 61 j := fun j hj => by rw [zv_wa w13 rfl j, zv_wa w2 rfl j]
    have y18 := zv_ri ih12 (k := 25) rfl
    exact zr_ir (x := zv_i h12 26) (pc := 446) rfl rfl rfl ⟨ih12, ((w2.wd rfl : zb_W [(44, 25), (44, 26), (61, 0)] h _).tr (w13.wd rfl)), _, rfl, by dsimp only; exact ⟨by omega, by rw [ov]; exact qh12.tr (zt_pb2 (⟨e3, zv_wi w2 rfl, fun j _ => zv_wa w2 rfl j⟩ : zt_eq (zv_i h1 26, zv_i h1 25, zv_a h1 61) (0, zv_i h 25, zv_a h 61)) (zv_ri ih1 (k := 25) rfl).1)⟩⟩

set_option maxRecDepth 100000 in
set_option maxHeartbeats 8000000 in
theorem zm_doesF_c12 {h : zx_H} (hI : zb_I zc_H h) {p : Int} (p1 : 0 ≤ p) (p2 : p ≤ 59) (n8 : ¬ zv_a h 61 8 = 3) (ic : zv_a h 45 p = 21 → 5 ≤ zv_a h 46 p ∧ zv_a h 46 p ≤ 8) (ov : zv_a h 45 p = 12) : zx_T zp_P 3 zp_m167 0 [(0, .ref 44), (1, .int (zI (p)))] [] h (zr_R [(44, 25), (44, 26), (61, 0)] h (fun e h' => e = zv_i h' 26 ∧ zt_eq (zv_i h' 26, zv_i h' 25, zv_a h' 61) (zs_ap (zv_a h 45 p) (zv_a h 46 p) (0, zv_i h 25, zv_a h 61)))) := by
  have hS := zv_ri hI (k := 25) rfl
  refine zx_T.l (i := .aload_n 0) (k := 1) (v := .ref 44) (pc := 0) rfl rfl rfl ?_
  refine zx_T.s (i := .iconst 0) (k := 1) (st' := [.int (zI (0)), .ref 44]) (pc := 1) rfl rfl ?_
  refine zr_pi (k := 26) (lo := 0) (hi := 7) (e := 0) (pc := 2) rfl rfl rfl rfl rfl rfl hI (by omega) (by omega) (fun h1 ih1 w2 e3 => ?_)
  refine zx_T.l (i := .aload_n 0) (k := 1) (v := .ref 44) (pc := 5) rfl rfl rfl ?_
  refine zr_gr (k := 3) (b := 46) (pc := 6) rfl rfl rfl ih1 ?_
  refine zx_T.l (i := .iload_n 1) (k := 1) (v := .int (zI (p))) (pc := 9) rfl rfl rfl ?_
  refine zr_al (n := 60) (lo := (-2147483648)) (hi := 2147483647) (e := zv_a h 46 p) (pc := 10) rfl rfl rfl ih1 (by omega) (by omega) (zv_wa w2 rfl p) (fun g4a g4b => ?_)
  refine zx_T.t (i := .istore_n 2) (k := 1) (ls' := [(2, .int (zI (zv_a h 46 p))), (0, .ref 44), (1, .int (zI (p)))]) (st' := []) (pc := 11) rfl rfl rfl rfl ?_
  refine zx_T.l (i := .aload_n 0) (k := 1) (v := .ref 44) (pc := 12) rfl rfl rfl ?_
  refine zr_gr (k := 2) (b := 45) (pc := 13) rfl rfl rfl ih1 ?_
  refine zx_T.l (i := .iload_n 1) (k := 1) (v := .int (zI (p))) (pc := 16) rfl rfl rfl ?_
  refine zr_al (n := 60) (lo := 0) (hi := 28) (e := zv_a h 45 p) (pc := 17) rfl rfl rfl ih1 (by omega) (by omega) (zv_wa w2 rfl p) (fun g5a g5b => ?_)
  have c6 : zv_a h 45 p = 12 := by omega
  rcases c6 with c6
  · refine zr_sw (i := .tableswitch 424 1 28 #[126, 134, 142, 150, 158, 167, 176, 190, 198, 206, 214, 222, 222, 240, 258, 271, 284, 303, 322, 336, 350, 363, 424, 424, 372, 380, 372, 388]) (len := 126) (t := 240) (x := zv_a h 45 p) (k := 12) (pc := 18) rfl c6 rfl rfl rfl rfl ?_
    refine zx_T.l (i := .aload_n 0) (k := 1) (v := .ref 44) (pc := 240) rfl rfl rfl ?_
    refine zx_T.s (i := .iconst 1) (k := 1) (st' := [.int (zI (1)), .ref 44]) (pc := 241) rfl rfl ?_
    have y7 : zv_a h1 61 8 = zv_a h 61 8 := (zv_wa w2 rfl 8)
    refine zr_iv (cj := 162) (q' := zp_m162) (As := [.int (zI (1))]) (rest := []) (pc := 242) rfl rfl rfl rfl rfl rfl (Nat.le_of_ble_eq_true rfl) rfl (Nat.le_of_ble_eq_true rfl) ih1 ((zm_needF (h := h1) ih1 (w := 1) (by omega) (by omega)).up (Nat.le_of_ble_eq_true rfl)) ?_
    rintro r8 h11 ⟨ih11, w12, r8q, x10⟩
    subst r8q
    try dsimp only at x10
    have qh11 := x10
    show zx_T zp_P 3 zp_m167 245 [(2, .int (zI (zv_a h 46 p))), (0, .ref 44), (1, .int (zI (p)))] [] h11 _
    refine zx_T.l (i := .aload_n 0) (k := 1) (v := .ref 44) (pc := 245) rfl rfl rfl ?_
    refine zx_T.s (i := .iconst 1) (k := 1) (st' := [.int (zI (1)), .ref 44]) (pc := 246) rfl rfl ?_
    have y13 : zv_a h11 61 8 = zv_a h 61 8 := ((zv_wa w12 rfl 8).trans (zv_wa w2 rfl 8))
    refine zr_iv (cj := 162) (q' := zp_m162) (As := [.int (zI (1))]) (rest := []) (pc := 247) rfl rfl rfl rfl rfl rfl (Nat.le_of_ble_eq_true rfl) rfl (Nat.le_of_ble_eq_true rfl) ih11 ((zm_needF (h := h11) ih11 (w := 1) (by omega) (by omega)).up (Nat.le_of_ble_eq_true rfl)) ?_
    rintro r14 h17 ⟨ih17, w18, r14q, x16⟩
    subst r14q
    try dsimp only at x16
    have qh17 := x16
    show zx_T zp_P 3 zp_m167 250 [(2, .int (zI (zv_a h 46 p))), (0, .ref 44), (1, .int (zI (p)))] [] h17 _
    refine zx_T.l (i := .aload_n 0) (k := 1) (v := .ref 44) (pc := 250) rfl rfl rfl ?_
    refine zx_T.s (i := .iconst 1) (k := 1) (st' := [.int (zI (1)), .ref 44]) (pc := 251) rfl rfl ?_
    have y19 : zv_a h17 61 8 = zv_a h 61 8 := ((zv_wa w18 rfl 8).trans ((zv_wa w12 rfl 8).trans (zv_wa w2 rfl 8)))
    refine zr_iv (cj := 163) (q' := zp_m163) (As := [.int (zI (1))]) (rest := []) (pc := 252) rfl rfl rfl rfl rfl rfl (Nat.le_of_ble_eq_true rfl) rfl (Nat.le_of_ble_eq_true rfl) ih17 ((zm_pushF (h := h17) ih17 (k := 1) (by omega) (by omega) (by omega)).up (Nat.le_of_ble_eq_true rfl)) ?_
    rintro r20 h23 ⟨ih23, w24, r20q, x22⟩
    subst r20q
    try dsimp only at x22
    have qh23 := x22.1
    have p8 := x22.2 (by omega)
    show zx_T zp_P 3 zp_m167 255 [(2, .int (zI (zv_a h 46 p))), (0, .ref 44), (1, .int (zI (p)))] [] h23 _
    refine zx_T.j (i := .goto 187) (k := 3) (pc' := 442) (st' := []) (pc := 255) rfl rfl rfl rfl rfl ?_
    refine zx_T.l (i := .aload_n 0) (k := 1) (v := .ref 44) (pc := 442) rfl rfl rfl ?_
    refine zr_gi (k := 26) (lo := 0) (hi := 7) (e := zv_i h23 26) (pc := 443) rfl rfl rfl ih23 rfl (fun g25a g25b => ?_)
    have i25 : zv_i h23 25 = zv_i h23 25 := rfl
    have i26 : zv_i h23 26 = zv_i h23 26 := rfl
    have a61 : ∀ j, 0 ≤ j → zv_a h23 61 j = zv_a h23 61 j := fun j hj => rfl
    have y29 := zv_ri ih23 (k := 25) rfl
    exact zr_ir (x := zv_i h23 26) (pc := 446) rfl rfl rfl ⟨ih23, ((((w2.wd rfl : zb_W [(44, 25), (44, 26), (61, 0)] h _).tr (w12.wd rfl)).tr (w18.wd rfl)).tr (w24.wd rfl)), _, rfl, by dsimp only; exact ⟨by omega, by rw [ov]; exact (qh23.tr (zs_push_eq (qh17.tr (zs_need_eq (qh11.tr (zs_need_eq (⟨e3, zv_wi w2 rfl, fun j _ => zv_wa w2 rfl j⟩ : zt_eq (zv_i h1 26, zv_i h1 25, zv_a h1 61) (0, zv_i h 25, zv_a h 61)) (zv_ri ih1 (k := 25) rfl).1)) (zv_ri ih11 (k := 25) rfl).1))))⟩⟩

set_option maxRecDepth 100000 in
set_option maxHeartbeats 8000000 in
theorem zm_doesF_c13 {h : zx_H} (hI : zb_I zc_H h) {p : Int} (p1 : 0 ≤ p) (p2 : p ≤ 59) (n8 : ¬ zv_a h 61 8 = 3) (ic : zv_a h 45 p = 21 → 5 ≤ zv_a h 46 p ∧ zv_a h 46 p ≤ 8) (ov : zv_a h 45 p = 13) : zx_T zp_P 3 zp_m167 0 [(0, .ref 44), (1, .int (zI (p)))] [] h (zr_R [(44, 25), (44, 26), (61, 0)] h (fun e h' => e = zv_i h' 26 ∧ zt_eq (zv_i h' 26, zv_i h' 25, zv_a h' 61) (zs_ap (zv_a h 45 p) (zv_a h 46 p) (0, zv_i h 25, zv_a h 61)))) := by
  have hS := zv_ri hI (k := 25) rfl
  refine zx_T.l (i := .aload_n 0) (k := 1) (v := .ref 44) (pc := 0) rfl rfl rfl ?_
  refine zx_T.s (i := .iconst 0) (k := 1) (st' := [.int (zI (0)), .ref 44]) (pc := 1) rfl rfl ?_
  refine zr_pi (k := 26) (lo := 0) (hi := 7) (e := 0) (pc := 2) rfl rfl rfl rfl rfl rfl hI (by omega) (by omega) (fun h1 ih1 w2 e3 => ?_)
  refine zx_T.l (i := .aload_n 0) (k := 1) (v := .ref 44) (pc := 5) rfl rfl rfl ?_
  refine zr_gr (k := 3) (b := 46) (pc := 6) rfl rfl rfl ih1 ?_
  refine zx_T.l (i := .iload_n 1) (k := 1) (v := .int (zI (p))) (pc := 9) rfl rfl rfl ?_
  refine zr_al (n := 60) (lo := (-2147483648)) (hi := 2147483647) (e := zv_a h 46 p) (pc := 10) rfl rfl rfl ih1 (by omega) (by omega) (zv_wa w2 rfl p) (fun g4a g4b => ?_)
  refine zx_T.t (i := .istore_n 2) (k := 1) (ls' := [(2, .int (zI (zv_a h 46 p))), (0, .ref 44), (1, .int (zI (p)))]) (st' := []) (pc := 11) rfl rfl rfl rfl ?_
  refine zx_T.l (i := .aload_n 0) (k := 1) (v := .ref 44) (pc := 12) rfl rfl rfl ?_
  refine zr_gr (k := 2) (b := 45) (pc := 13) rfl rfl rfl ih1 ?_
  refine zx_T.l (i := .iload_n 1) (k := 1) (v := .int (zI (p))) (pc := 16) rfl rfl rfl ?_
  refine zr_al (n := 60) (lo := 0) (hi := 28) (e := zv_a h 45 p) (pc := 17) rfl rfl rfl ih1 (by omega) (by omega) (zv_wa w2 rfl p) (fun g5a g5b => ?_)
  have c6 : zv_a h 45 p = 13 := by omega
  rcases c6 with c6
  · refine zr_sw (i := .tableswitch 424 1 28 #[126, 134, 142, 150, 158, 167, 176, 190, 198, 206, 214, 222, 222, 240, 258, 271, 284, 303, 322, 336, 350, 363, 424, 424, 372, 380, 372, 388]) (len := 126) (t := 240) (x := zv_a h 45 p) (k := 13) (pc := 18) rfl c6 rfl rfl rfl rfl ?_
    refine zx_T.l (i := .aload_n 0) (k := 1) (v := .ref 44) (pc := 240) rfl rfl rfl ?_
    refine zx_T.s (i := .iconst 1) (k := 1) (st' := [.int (zI (1)), .ref 44]) (pc := 241) rfl rfl ?_
    have y7 : zv_a h1 61 8 = zv_a h 61 8 := (zv_wa w2 rfl 8)
    refine zr_iv (cj := 162) (q' := zp_m162) (As := [.int (zI (1))]) (rest := []) (pc := 242) rfl rfl rfl rfl rfl rfl (Nat.le_of_ble_eq_true rfl) rfl (Nat.le_of_ble_eq_true rfl) ih1 ((zm_needF (h := h1) ih1 (w := 1) (by omega) (by omega)).up (Nat.le_of_ble_eq_true rfl)) ?_
    rintro r8 h11 ⟨ih11, w12, r8q, x10⟩
    subst r8q
    try dsimp only at x10
    have qh11 := x10
    show zx_T zp_P 3 zp_m167 245 [(2, .int (zI (zv_a h 46 p))), (0, .ref 44), (1, .int (zI (p)))] [] h11 _
    refine zx_T.l (i := .aload_n 0) (k := 1) (v := .ref 44) (pc := 245) rfl rfl rfl ?_
    refine zx_T.s (i := .iconst 1) (k := 1) (st' := [.int (zI (1)), .ref 44]) (pc := 246) rfl rfl ?_
    have y13 : zv_a h11 61 8 = zv_a h 61 8 := ((zv_wa w12 rfl 8).trans (zv_wa w2 rfl 8))
    refine zr_iv (cj := 162) (q' := zp_m162) (As := [.int (zI (1))]) (rest := []) (pc := 247) rfl rfl rfl rfl rfl rfl (Nat.le_of_ble_eq_true rfl) rfl (Nat.le_of_ble_eq_true rfl) ih11 ((zm_needF (h := h11) ih11 (w := 1) (by omega) (by omega)).up (Nat.le_of_ble_eq_true rfl)) ?_
    rintro r14 h17 ⟨ih17, w18, r14q, x16⟩
    subst r14q
    try dsimp only at x16
    have qh17 := x16
    show zx_T zp_P 3 zp_m167 250 [(2, .int (zI (zv_a h 46 p))), (0, .ref 44), (1, .int (zI (p)))] [] h17 _
    refine zx_T.l (i := .aload_n 0) (k := 1) (v := .ref 44) (pc := 250) rfl rfl rfl ?_
    refine zx_T.s (i := .iconst 1) (k := 1) (st' := [.int (zI (1)), .ref 44]) (pc := 251) rfl rfl ?_
    have y19 : zv_a h17 61 8 = zv_a h 61 8 := ((zv_wa w18 rfl 8).trans ((zv_wa w12 rfl 8).trans (zv_wa w2 rfl 8)))
    refine zr_iv (cj := 163) (q' := zp_m163) (As := [.int (zI (1))]) (rest := []) (pc := 252) rfl rfl rfl rfl rfl rfl (Nat.le_of_ble_eq_true rfl) rfl (Nat.le_of_ble_eq_true rfl) ih17 ((zm_pushF (h := h17) ih17 (k := 1) (by omega) (by omega) (by omega)).up (Nat.le_of_ble_eq_true rfl)) ?_
    rintro r20 h23 ⟨ih23, w24, r20q, x22⟩
    subst r20q
    try dsimp only at x22
    have qh23 := x22.1
    have p8 := x22.2 (by omega)
    show zx_T zp_P 3 zp_m167 255 [(2, .int (zI (zv_a h 46 p))), (0, .ref 44), (1, .int (zI (p)))] [] h23 _
    refine zx_T.j (i := .goto 187) (k := 3) (pc' := 442) (st' := []) (pc := 255) rfl rfl rfl rfl rfl ?_
    refine zx_T.l (i := .aload_n 0) (k := 1) (v := .ref 44) (pc := 442) rfl rfl rfl ?_
    refine zr_gi (k := 26) (lo := 0) (hi := 7) (e := zv_i h23 26) (pc := 443) rfl rfl rfl ih23 rfl (fun g25a g25b => ?_)
    have i25 : zv_i h23 25 = zv_i h23 25 := rfl
    have i26 : zv_i h23 26 = zv_i h23 26 := rfl
    have a61 : ∀ j, 0 ≤ j → zv_a h23 61 j = zv_a h23 61 j := fun j hj => rfl
    have y29 := zv_ri ih23 (k := 25) rfl
    exact zr_ir (x := zv_i h23 26) (pc := 446) rfl rfl rfl ⟨ih23, ((((w2.wd rfl : zb_W [(44, 25), (44, 26), (61, 0)] h _).tr (w12.wd rfl)).tr (w18.wd rfl)).tr (w24.wd rfl)), _, rfl, by dsimp only; exact ⟨by omega, by rw [ov]; exact (qh23.tr (zs_push_eq (qh17.tr (zs_need_eq (qh11.tr (zs_need_eq (⟨e3, zv_wi w2 rfl, fun j _ => zv_wa w2 rfl j⟩ : zt_eq (zv_i h1 26, zv_i h1 25, zv_a h1 61) (0, zv_i h 25, zv_a h 61)) (zv_ri ih1 (k := 25) rfl).1)) (zv_ri ih11 (k := 25) rfl).1))))⟩⟩

set_option maxRecDepth 100000 in
set_option maxHeartbeats 8000000 in
theorem zm_doesF_c14 {h : zx_H} (hI : zb_I zc_H h) {p : Int} (p1 : 0 ≤ p) (p2 : p ≤ 59) (n8 : ¬ zv_a h 61 8 = 3) (ic : zv_a h 45 p = 21 → 5 ≤ zv_a h 46 p ∧ zv_a h 46 p ≤ 8) (ov : zv_a h 45 p = 14) : zx_T zp_P 3 zp_m167 0 [(0, .ref 44), (1, .int (zI (p)))] [] h (zr_R [(44, 25), (44, 26), (61, 0)] h (fun e h' => e = zv_i h' 26 ∧ zt_eq (zv_i h' 26, zv_i h' 25, zv_a h' 61) (zs_ap (zv_a h 45 p) (zv_a h 46 p) (0, zv_i h 25, zv_a h 61)))) := by
  have hS := zv_ri hI (k := 25) rfl
  refine zx_T.l (i := .aload_n 0) (k := 1) (v := .ref 44) (pc := 0) rfl rfl rfl ?_
  refine zx_T.s (i := .iconst 0) (k := 1) (st' := [.int (zI (0)), .ref 44]) (pc := 1) rfl rfl ?_
  refine zr_pi (k := 26) (lo := 0) (hi := 7) (e := 0) (pc := 2) rfl rfl rfl rfl rfl rfl hI (by omega) (by omega) (fun h1 ih1 w2 e3 => ?_)
  refine zx_T.l (i := .aload_n 0) (k := 1) (v := .ref 44) (pc := 5) rfl rfl rfl ?_
  refine zr_gr (k := 3) (b := 46) (pc := 6) rfl rfl rfl ih1 ?_
  refine zx_T.l (i := .iload_n 1) (k := 1) (v := .int (zI (p))) (pc := 9) rfl rfl rfl ?_
  refine zr_al (n := 60) (lo := (-2147483648)) (hi := 2147483647) (e := zv_a h 46 p) (pc := 10) rfl rfl rfl ih1 (by omega) (by omega) (zv_wa w2 rfl p) (fun g4a g4b => ?_)
  refine zx_T.t (i := .istore_n 2) (k := 1) (ls' := [(2, .int (zI (zv_a h 46 p))), (0, .ref 44), (1, .int (zI (p)))]) (st' := []) (pc := 11) rfl rfl rfl rfl ?_
  refine zx_T.l (i := .aload_n 0) (k := 1) (v := .ref 44) (pc := 12) rfl rfl rfl ?_
  refine zr_gr (k := 2) (b := 45) (pc := 13) rfl rfl rfl ih1 ?_
  refine zx_T.l (i := .iload_n 1) (k := 1) (v := .int (zI (p))) (pc := 16) rfl rfl rfl ?_
  refine zr_al (n := 60) (lo := 0) (hi := 28) (e := zv_a h 45 p) (pc := 17) rfl rfl rfl ih1 (by omega) (by omega) (zv_wa w2 rfl p) (fun g5a g5b => ?_)
  have c6 : zv_a h 45 p = 14 := by omega
  rcases c6 with c6
  · refine zr_sw (i := .tableswitch 424 1 28 #[126, 134, 142, 150, 158, 167, 176, 190, 198, 206, 214, 222, 222, 240, 258, 271, 284, 303, 322, 336, 350, 363, 424, 424, 372, 380, 372, 388]) (len := 126) (t := 258) (x := zv_a h 45 p) (k := 14) (pc := 18) rfl c6 rfl rfl rfl rfl ?_
    refine zx_T.l (i := .aload_n 0) (k := 1) (v := .ref 44) (pc := 258) rfl rfl rfl ?_
    refine zx_T.s (i := .iconst 2) (k := 1) (st' := [.int (zI (2)), .ref 44]) (pc := 259) rfl rfl ?_
    have y7 : zv_a h1 61 8 = zv_a h 61 8 := (zv_wa w2 rfl 8)
    refine zr_iv (cj := 162) (q' := zp_m162) (As := [.int (zI (2))]) (rest := []) (pc := 260) rfl rfl rfl rfl rfl rfl (Nat.le_of_ble_eq_true rfl) rfl (Nat.le_of_ble_eq_true rfl) ih1 ((zm_needF (h := h1) ih1 (w := 2) (by omega) (by omega)).up (Nat.le_of_ble_eq_true rfl)) ?_
    rintro r8 h11 ⟨ih11, w12, r8q, x10⟩
    subst r8q
    try dsimp only at x10
    have qh11 := x10
    show zx_T zp_P 3 zp_m167 263 [(2, .int (zI (zv_a h 46 p))), (0, .ref 44), (1, .int (zI (p)))] [] h11 _
    refine zx_T.l (i := .aload_n 0) (k := 1) (v := .ref 44) (pc := 263) rfl rfl rfl ?_
    refine zx_T.s (i := .iconst 2) (k := 1) (st' := [.int (zI (2)), .ref 44]) (pc := 264) rfl rfl ?_
    have y13 : zv_a h11 61 8 = zv_a h 61 8 := ((zv_wa w12 rfl 8).trans (zv_wa w2 rfl 8))
    refine zr_iv (cj := 162) (q' := zp_m162) (As := [.int (zI (2))]) (rest := []) (pc := 265) rfl rfl rfl rfl rfl rfl (Nat.le_of_ble_eq_true rfl) rfl (Nat.le_of_ble_eq_true rfl) ih11 ((zm_needF (h := h11) ih11 (w := 2) (by omega) (by omega)).up (Nat.le_of_ble_eq_true rfl)) ?_
    rintro r14 h17 ⟨ih17, w18, r14q, x16⟩
    subst r14q
    try dsimp only at x16
    have qh17 := x16
    show zx_T zp_P 3 zp_m167 268 [(2, .int (zI (zv_a h 46 p))), (0, .ref 44), (1, .int (zI (p)))] [] h17 _
    refine zx_T.l (i := .aload_n 0) (k := 1) (v := .ref 44) (pc := 268) rfl rfl rfl ?_
    refine zx_T.s (i := .iconst 2) (k := 1) (st' := [.int (zI (2)), .ref 44]) (pc := 269) rfl rfl ?_
    have y19 : zv_a h17 61 8 = zv_a h 61 8 := ((zv_wa w18 rfl 8).trans ((zv_wa w12 rfl 8).trans (zv_wa w2 rfl 8)))
    refine zr_iv (cj := 163) (q' := zp_m163) (As := [.int (zI (2))]) (rest := []) (pc := 270) rfl rfl rfl rfl rfl rfl (Nat.le_of_ble_eq_true rfl) rfl (Nat.le_of_ble_eq_true rfl) ih17 ((zm_pushF (h := h17) ih17 (k := 2) (by omega) (by omega) (by omega)).up (Nat.le_of_ble_eq_true rfl)) ?_
    rintro r20 h23 ⟨ih23, w24, r20q, x22⟩
    subst r20q
    try dsimp only at x22
    have qh23 := x22.1
    have p8 := x22.2 (by omega)
    show zx_T zp_P 3 zp_m167 273 [(2, .int (zI (zv_a h 46 p))), (0, .ref 44), (1, .int (zI (p)))] [] h23 _
    refine zx_T.j (i := .goto 169) (k := 3) (pc' := 442) (st' := []) (pc := 273) rfl rfl rfl rfl rfl ?_
    refine zx_T.l (i := .aload_n 0) (k := 1) (v := .ref 44) (pc := 442) rfl rfl rfl ?_
    refine zr_gi (k := 26) (lo := 0) (hi := 7) (e := zv_i h23 26) (pc := 443) rfl rfl rfl ih23 rfl (fun g25a g25b => ?_)
    have i25 : zv_i h23 25 = zv_i h23 25 := rfl
    have i26 : zv_i h23 26 = zv_i h23 26 := rfl
    have a61 : ∀ j, 0 ≤ j → zv_a h23 61 j = zv_a h23 61 j := fun j hj => rfl
    have y29 := zv_ri ih23 (k := 25) rfl
    exact zr_ir (x := zv_i h23 26) (pc := 446) rfl rfl rfl ⟨ih23, ((((w2.wd rfl : zb_W [(44, 25), (44, 26), (61, 0)] h _).tr (w12.wd rfl)).tr (w18.wd rfl)).tr (w24.wd rfl)), _, rfl, by dsimp only; exact ⟨by omega, by rw [ov]; exact (qh23.tr (zs_push_eq (qh17.tr (zs_need_eq (qh11.tr (zs_need_eq (⟨e3, zv_wi w2 rfl, fun j _ => zv_wa w2 rfl j⟩ : zt_eq (zv_i h1 26, zv_i h1 25, zv_a h1 61) (0, zv_i h 25, zv_a h 61)) (zv_ri ih1 (k := 25) rfl).1)) (zv_ri ih11 (k := 25) rfl).1))))⟩⟩
