/-! ===== 55: the reference, method by method (by program) ===== -/
set_option maxRecDepth 100000 in
set_option maxHeartbeats 4000000 in
theorem zm_join_61_L {h : zx_H} (hI : zb_I zc_H h) {place : Int} {many : Int} (place1 : -2147483648 ≤ place) (place2 : place ≤ 2147483647) (many1 : 0 ≤ many) (many2 : many ≤ 6) (hk : zg_KI h) (r8 : ¬ zv_a h 61 8 = 3) (n : Nat) : (∀ {h2 : zx_H} {k : Int} (hI2 : zb_I zc_H h2) (k1 : 0 ≤ k) (k2 : k ≤ many + 8) (q1 : 0 ≤ place) (q2 : place < zv_i h 1) (nr : ¬ zv_a h 54 place = 1) (hw : zb_W [(54, 0), (44, 27), (56, 0), (55, 0), (63, 0)] h h2) (r1 : zv_a h2 54 place = 1) (r2 : ∀ q, 0 ≤ q → ¬ q = place → zv_a h2 54 q = zv_a h 54 q) (ch : zv_i h2 27 = 1) (kd : ∀ q, 0 ≤ q → (q < 14 * place ∨ 14 * place + 14 ≤ q) → zv_a h2 55 q = zv_a h 55 q) (k8 : ¬ zv_a h2 55 (14 * place + 8) = 3), (many + 8 - k : Int).toNat < n → zx_T zp_P 2 zp_m174 54 [(0, .ref 44), (1, .int (zI (place))), (2, .ref 61), (3, .int (zI (many))), (4, .int (zI (14 * place))), (5, .int (zI (k)))] [] h2 (zr_R [(54, 0), (44, 27), (56, 0), (55, 0), (63, 0)] h (fun e h' => zg_J h h' ∧ 0 ≤ e ∧ e ≤ 7 ∧ (e = 0 → 0 ≤ place ∧ place < zv_i h 1 ∧ zv_a h' 54 place = 1)))) ∧ (∀ {h2 : zx_H} {k : Int} (hI2 : zb_I zc_H h2) (k1 : 0 ≤ k) (k2 : k ≤ many + 8) (q1 : 0 ≤ place) (q2 : place < zv_i h 1) (re : zv_a h 54 place = 1) (hw : zb_W [(63, 0)] h h2) (bo : ∀ j, 0 ≤ j → j < k → (zv_a h2 63 j = zv_a h 55 (14 * place + j) ∨ zg_r (zv_a h2 63 j) < zg_r (zv_a h 55 (14 * place + j))) ∧ (j = 8 → ¬ zv_a h2 63 j = 3)), (many + 108 - k : Int).toNat < n → zx_T zp_P 2 zp_m174 100 [(0, .ref 44), (1, .int (zI (place))), (2, .ref 61), (3, .int (zI (many))), (4, .int (zI (14 * place))), (5, .int (zI (k)))] [] h2 (zr_R [(54, 0), (44, 27), (56, 0), (55, 0), (63, 0)] h (fun e h' => zg_J h h' ∧ 0 ≤ e ∧ e ≤ 7 ∧ (e = 0 → 0 ≤ place ∧ place < zv_i h 1 ∧ zv_a h' 54 place = 1)))) ∧ (∀ {h2 : zx_H} {k : Int} (hI2 : zb_I zc_H h2) (k1 : 0 ≤ k) (k2 : k ≤ many + 8) (q1 : 0 ≤ place) (q2 : place < zv_i h 1) (re : zv_a h 54 place = 1) (hw : zb_W [(63, 0), (55, 0), (44, 27)] h h2) (bo : ∀ j, 0 ≤ j → j < many + 8 → (zv_a h2 63 j = zv_a h 55 (14 * place + j) ∨ zg_r (zv_a h2 63 j) < zg_r (zv_a h 55 (14 * place + j))) ∧ (j = 8 → ¬ zv_a h2 63 j = 3)) (kd : ∀ q, 0 ≤ q → (q < 14 * place ∨ 14 * place + 14 ≤ q) → zv_a h2 55 q = zv_a h 55 q) (kk : ∀ j, 0 ≤ j → j < 14 → zv_a h2 55 (14 * place + j) = zv_a h 55 (14 * place + j) ∨ zg_g h2 place j < zg_g h place j) (kl : ∀ j, k ≤ j → j < 14 → zv_a h2 55 (14 * place + j) = zv_a h 55 (14 * place + j)) (c1 : zv_i h2 27 = 1 → zv_i h 27 = 1 ∨ ∃ j, 0 ≤ j ∧ j < 14 ∧ zg_g h2 place j < zg_g h place j) (c2 : zv_i h 27 = 1 → zv_i h2 27 = 1) (k8 : ¬ zv_a h2 55 (14 * place + 8) = 3), (many + 8 - k : Int).toNat < n → zx_T zp_P 2 zp_m174 162 [(0, .ref 44), (1, .int (zI (place))), (2, .ref 61), (3, .int (zI (many))), (4, .int (zI (14 * place))), (5, .int (zI (k)))] [] h2 (zr_R [(54, 0), (44, 27), (56, 0), (55, 0), (63, 0)] h (fun e h' => zg_J h h' ∧ 0 ≤ e ∧ e ≤ 7 ∧ (e = 0 → 0 ≤ place ∧ place < zv_i h 1 ∧ zv_a h' 54 place = 1)))) := by
  induction n with
  | zero => exact ⟨fun _ _ _ _ _ _ _ _ _ _ _ _ hm => absurd hm (Nat.not_lt_zero _), fun _ _ _ _ _ _ _ _ hm => absurd hm (Nat.not_lt_zero _), fun _ _ _ _ _ _ _ _ _ _ _ _ _ _ hm => absurd hm (Nat.not_lt_zero _)⟩
  | succ n ih =>
    refine ⟨?_, ?_, ?_⟩
    · intro h2 k hI2 k1 k2 q1 q2 nr hw r1 r2 ch kd k8 hm
      have hC := zv_ri hI (k := 1) rfl
      refine zx_T.l (i := .iload 5) (k := 2) (v := .int (zI (k))) (pc := 54) rfl rfl rfl ?_
      refine zx_T.s (i := .bipush 8) (k := 2) (st' := [.int (zI (8)), .int (zI (k))]) (pc := 56) rfl rfl ?_
      refine zx_T.l (i := .iload_n 3) (k := 1) (v := .int (zI (many))) (pc := 58) rfl rfl rfl ?_
      refine zr_add (x := 8) (y := many) (e := many + 8) (pc := 59) rfl (by omega) ?_
      refine zr_i2 (x := k) (y := many + 8) (t := 83) (pc := 60) rfl rfl (by omega) (by omega) (by omega) (by omega) (fun (c1 : (many + 8) ≤ k) => ?_) (fun (c1 : ¬ ((many + 8) ≤ k)) => ?_)
      · refine zx_T.s (i := .iconst 0) (k := 1) (st' := [.int (zI (0))]) (pc := 83) rfl rfl ?_
        exact zr_ir (x := 0) (pc := 84) rfl rfl rfl ⟨hI2, (hw.wd rfl : zb_W [(54, 0), (44, 27), (56, 0), (55, 0), (63, 0)] h _), _, rfl, by dsimp only; exact ⟨zg_J.nw q1 (by omega) nr r1 r2 kd ch hk k8, by omega, by omega, fun z => ⟨q1, q2, r1⟩⟩⟩
      · refine zx_T.l (i := .aload_n 0) (k := 1) (v := .ref 44) (pc := 63) rfl rfl rfl ?_
        refine zr_gr (k := 17) (b := 55) (pc := 64) rfl rfl rfl hI2 ?_
        refine zx_T.l (i := .iload 4) (k := 2) (v := .int (zI (14 * place))) (pc := 67) rfl rfl rfl ?_
        refine zx_T.l (i := .iload 5) (k := 2) (v := .int (zI (k))) (pc := 69) rfl rfl rfl ?_
        refine zr_add (x := 14 * place) (y := k) (e := 14 * place + k) (pc := 71) rfl (by omega) ?_
        refine zx_T.l (i := .aload_n 2) (k := 1) (v := .ref 61) (pc := 72) rfl rfl rfl ?_
        refine zx_T.l (i := .iload 5) (k := 2) (v := .int (zI (k))) (pc := 73) rfl rfl rfl ?_
        refine zr_al (n := 14) (lo := 0) (hi := 8) (e := zv_a h 61 k) (pc := 75) rfl rfl rfl hI2 (by omega) (by omega) (zv_wa hw rfl k) (fun g2a g2b => ?_)
        refine zr_as (n := 840) (lo := 0) (hi := 8) (e := zv_a h 61 k) (pc := 76) rfl rfl rfl rfl hI2 (by omega) (by omega) (by omega) (by omega) (fun h3 ih3 w4 s5 => ?_)
        refine zr_inc (x := k) (n := 1) (y := k + 1) (ls' := [(5, .int (zI (k + 1))), (0, .ref 44), (1, .int (zI (place))), (2, .ref 61), (3, .int (zI (many))), (4, .int (zI (14 * place)))]) (pc := 77) rfl rfl rfl (by omega) rfl ?_
        refine zx_T.j (i := .goto (-26)) (k := 3) (pc' := 54) (st' := []) (pc := 80) rfl rfl rfl rfl rfl ?_
        have a54 : ∀ j, 0 ≤ j → zv_a h3 54 j = zv_a h2 54 j := fun j hj => by rw [zv_wa w4 rfl j]
        have a55 : ∀ j, 0 ≤ j → zv_a h3 55 j = if j = 14 * place + k then zv_a h 61 k else zv_a h2 55 j := fun j hj => by rw [s5 j hj]
        have y8 : zv_i h3 27 = zv_i h2 27 := (zv_wi w4 rfl)
        have y9 : zv_a h3 54 place = zv_a h2 54 place := (zv_wa w4 rfl place)
        refine zx_T.lk (ls' := [(0, .ref 44), (1, .int (zI (place))), (2, .ref 61), (3, .int (zI (many))), (4, .int (zI (14 * place))), (5, .int (zI (k + 1)))]) rfl ⟨rfl, rfl, rfl, rfl, rfl, rfl, trivial⟩ ?_
        exact ih.1 (h2 := h3) (k := k + 1) ih3 (by omega) (by omega) (by omega) (by omega) (by omega) ((hw.wd rfl : zb_W [(54, 0), (44, 27), (56, 0), (55, 0), (63, 0)] h _).tr (w4.wd rfl)) (by first | omega | (have b9 := a54 place (by omega); split at b9 <;> omega)) (fun q q0 q1 => by have b9 := a54 q q0; first | (have b8 := r2 q q0 q1; omega) | (split at b9 <;> omega)) (by omega) (fun q q0 q1 => by first | omega | (have b9 := a55 q q0; first | omega | (split at b9 <;> first | omega | (have b8 := kd q q0 q1; omega)))) (by have b9 := a55 (14 * place + 8) (by omega); have ki := hk place (by omega) (by omega); first | omega | (split at b9 <;> first | omega | (next e9 => have e8 : k = 8 := (by omega); subst e8; omega))) (by omega)
    · intro h2 k hI2 k1 k2 q1 q2 re hw bo hm
      have hC := zv_ri hI (k := 1) rfl
      refine zx_T.l (i := .iload 5) (k := 2) (v := .int (zI (k))) (pc := 100) rfl rfl rfl ?_
      refine zx_T.s (i := .bipush 8) (k := 2) (st' := [.int (zI (8)), .int (zI (k))]) (pc := 102) rfl rfl ?_
      refine zx_T.l (i := .iload_n 3) (k := 1) (v := .int (zI (many))) (pc := 104) rfl rfl rfl ?_
      refine zr_add (x := 8) (y := many) (e := many + 8) (pc := 105) rfl (by omega) ?_
      refine zr_i2 (x := k) (y := many + 8) (t := 139) (pc := 106) rfl rfl (by omega) (by omega) (by omega) (by omega) (fun (c10 : (many + 8) ≤ k) => ?_) (fun (c10 : ¬ ((many + 8) ≤ k)) => ?_)
      · refine zx_T.l (i := .aload_n 0) (k := 1) (v := .ref 44) (pc := 139) rfl rfl rfl ?_
        refine zr_gr (k := 29) (b := 63) (pc := 140) rfl rfl rfl hI2 ?_
        refine zx_T.s (i := .iconst 0) (k := 1) (st' := [.int (zI (0)), .ref 63]) (pc := 143) rfl rfl ?_
        refine zx_T.s (i := .bipush 8) (k := 2) (st' := [.int (zI (8)), .int (zI (0)), .ref 63]) (pc := 144) rfl rfl ?_
        refine zr_is (cj := 158) (q' := zp_m158) (As := [.ref 63, .int (zI (0)), .int (zI (8))]) (rest := []) (pc := 146) rfl rfl rfl rfl rfl rfl (Nat.le_of_ble_eq_true rfl) rfl (Nat.le_of_ble_eq_true rfl) rfl ((zm_whole_63 (h := h2) hI2 (f := 0) (m := 8) (by omega) (by omega) (by omega)).up (Nat.le_of_ble_eq_true rfl)) ?_
        rintro r12 h15 ⟨ih15, w16, r12q, x14⟩
        subst r12q
        try dsimp only at x14
        have wj1 := x14
        show zx_T zp_P 2 zp_m174 149 [(0, .ref 44), (1, .int (zI (place))), (2, .ref 61), (3, .int (zI (many))), (4, .int (zI (14 * place))), (5, .int (zI (k)))] [] h15 _
        refine zx_T.l (i := .aload_n 0) (k := 1) (v := .ref 44) (pc := 149) rfl rfl rfl ?_
        refine zr_gr (k := 29) (b := 63) (pc := 150) rfl rfl rfl ih15 ?_
        refine zx_T.s (i := .bipush 8) (k := 2) (st' := [.int (zI (8)), .ref 63]) (pc := 153) rfl rfl ?_
        refine zx_T.l (i := .iload_n 3) (k := 1) (v := .int (zI (many))) (pc := 155) rfl rfl rfl ?_
        refine zr_is (cj := 158) (q' := zp_m158) (As := [.ref 63, .int (zI (8)), .int (zI (many))]) (rest := []) (pc := 156) rfl rfl rfl rfl rfl rfl (Nat.le_of_ble_eq_true rfl) rfl (Nat.le_of_ble_eq_true rfl) rfl ((zm_whole_63 (h := h15) ih15 (f := 8) (m := many) (by omega) (by omega) (by omega)).up (Nat.le_of_ble_eq_true rfl)) ?_
        rintro r18 h21 ⟨ih21, w22, r18q, x20⟩
        subst r18q
        try dsimp only at x20
        have wj2 := x20
        show zx_T zp_P 2 zp_m174 159 [(0, .ref 44), (1, .int (zI (place))), (2, .ref 61), (3, .int (zI (many))), (4, .int (zI (14 * place))), (5, .int (zI (k)))] [] h21 _
        refine zx_T.s (i := .iconst 0) (k := 1) (st' := [.int (zI (0))]) (pc := 159) rfl rfl ?_
        refine zx_T.t (i := .istore 5) (k := 2) (ls' := [(5, .int (zI (0))), (0, .ref 44), (1, .int (zI (place))), (2, .ref 61), (3, .int (zI (many))), (4, .int (zI (14 * place)))]) (st' := []) (pc := 160) rfl rfl rfl rfl ?_
        have a63 : ∀ j, 0 ≤ j → zv_a h21 63 j = zv_a h21 63 j := fun j hj => rfl
        have a55 : ∀ j, 0 ≤ j → zv_a h21 55 j = zv_a h 55 j := fun j hj => by rw [zv_wa w22 rfl j, zv_wa w16 rfl j, zv_wa hw rfl j]
        have y25 : zv_i h21 27 = zv_i h 27 := ((zv_wi w22 rfl).trans ((zv_wi w16 rfl).trans (zv_wi hw rfl)))
        refine zx_T.lk (ls' := [(0, .ref 44), (1, .int (zI (place))), (2, .ref 61), (3, .int (zI (many))), (4, .int (zI (14 * place))), (5, .int (zI (0)))]) rfl ⟨rfl, rfl, rfl, rfl, rfl, rfl, trivial⟩ ?_
        exact ih.2.2 (h2 := h21) (k := 0) ih21 (by omega) (by omega) (by omega) (by omega) (by omega) (((hw.wd rfl : zb_W [(63, 0), (55, 0), (44, 27)] h _).tr (w16.wd rfl)).tr (w22.wd rfl)) (fun j j0 j1 => by first | (rw [a63 j j0]; exact bo j j0 j1) | (have b1 := wj1 j j0; have b2 := wj2 j j0; have b3 := bo j j0 (by omega); exact ⟨zg_wz b2.1 (zg_wz b1.1 b3.1), fun z => by have b4 := b3.2 z; omega⟩)) (by first | exact (zg_js q1 k1 (by omega) a55 (bo k k1 (by omega)) kd kk kl k8).1 | exact fun q q0 _ => a55 q q0) (by first | exact (zg_js q1 k1 (by omega) a55 (bo k k1 (by omega)) kd kk kl k8).2.1 | exact fun j j0 _ => Or.inl (a55 _ (by omega))) (by first | exact (zg_js q1 k1 (by omega) a55 (bo k k1 (by omega)) kd kk kl k8).2.2.1 | exact fun j j0 _ => a55 _ (by omega)) (by intro z; first | (exact absurd z (by omega)) | (exact Or.inl (by omega)) | (by_cases z9 : zv_i h2 27 = 1; rcases c1 z9 with z1 | ⟨j, j0, j1, hj⟩; exact Or.inl z1; exact Or.inr ⟨j, j0, j1, (zg_js q1 k1 (by omega) a55 (bo k k1 (by omega)) kd kk kl k8).2.2.2.2.1 j j0 j1 hj⟩; exact Or.inr ⟨k, k1, by omega, (zg_js q1 k1 (by omega) a55 (bo k k1 (by omega)) kd kk kl k8).2.2.2.2.2 (by omega)⟩)) (by omega) (by first | exact (zg_js q1 k1 (by omega) a55 (bo k k1 (by omega)) kd kk kl k8).2.2.2.1 | (rw [a55 _ (by omega)]; exact hk place (by omega) (by omega))) (by omega)
      · refine zx_T.l (i := .aload_n 0) (k := 1) (v := .ref 44) (pc := 109) rfl rfl rfl ?_
        refine zr_gr (k := 29) (b := 63) (pc := 110) rfl rfl rfl hI2 ?_
        refine zx_T.l (i := .iload 5) (k := 2) (v := .int (zI (k))) (pc := 113) rfl rfl rfl ?_
        refine zx_T.l (i := .aload_n 0) (k := 1) (v := .ref 44) (pc := 115) rfl rfl rfl ?_
        refine zr_gr (k := 17) (b := 55) (pc := 116) rfl rfl rfl hI2 ?_
        refine zx_T.l (i := .iload 4) (k := 2) (v := .int (zI (14 * place))) (pc := 119) rfl rfl rfl ?_
        refine zx_T.l (i := .iload 5) (k := 2) (v := .int (zI (k))) (pc := 121) rfl rfl rfl ?_
        refine zr_add (x := 14 * place) (y := k) (e := 14 * place + k) (pc := 123) rfl (by omega) ?_
        refine zr_al (n := 840) (lo := 0) (hi := 8) (e := zv_a h 55 (14 * place + k)) (pc := 124) rfl rfl rfl hI2 (by omega) (by omega) (zv_wa hw rfl (14 * place + k)) (fun g26a g26b => ?_)
        refine zx_T.l (i := .aload_n 2) (k := 1) (v := .ref 61) (pc := 125) rfl rfl rfl ?_
        refine zx_T.l (i := .iload 5) (k := 2) (v := .int (zI (k))) (pc := 126) rfl rfl rfl ?_
        refine zr_al (n := 14) (lo := 0) (hi := 8) (e := zv_a h 61 k) (pc := 128) rfl rfl rfl hI2 (by omega) (by omega) (zv_wa hw rfl k) (fun g27a g27b => ?_)
        refine zr_is (cj := 157) (q' := zp_m157) (As := [.int (zI (zv_a h 55 (14 * place + k))), .int (zI (zv_a h 61 k))]) (rest := [.int (zI (k)), .ref 63]) (pc := 129) rfl rfl rfl rfl rfl rfl (Nat.le_of_ble_eq_true rfl) rfl (Nat.le_of_ble_eq_true rfl) rfl ((zm_joined (h := h2) hI2 (a := zv_a h 55 (14 * place + k)) (b := zv_a h 61 k) (by omega) (by omega) (by omega) (by omega)).up (Nat.le_of_ble_eq_true rfl)) ?_
        rintro r28 h31 ⟨h31q, v29, r28q, x30⟩
        subst h31q r28q
        try dsimp only at x30
        show zx_T zp_P 2 zp_m174 132 [(0, .ref 44), (1, .int (zI (place))), (2, .ref 61), (3, .int (zI (many))), (4, .int (zI (14 * place))), (5, .int (zI (k)))] [.int (zI (v29)), .int (zI (k)), .ref 63] h2 _
        refine zr_as (n := 14) (lo := 0) (hi := 8) (e := v29) (pc := 132) rfl rfl rfl rfl hI2 (by omega) (by omega) (by omega) (by omega) (fun h32 ih32 w33 s34 => ?_)
        refine zr_inc (x := k) (n := 1) (y := k + 1) (ls' := [(5, .int (zI (k + 1))), (0, .ref 44), (1, .int (zI (place))), (2, .ref 61), (3, .int (zI (many))), (4, .int (zI (14 * place)))]) (pc := 133) rfl rfl rfl (by omega) rfl ?_
        refine zx_T.j (i := .goto (-36)) (k := 3) (pc' := 100) (st' := []) (pc := 136) rfl rfl rfl rfl rfl ?_
        have a63 : ∀ j, 0 ≤ j → zv_a h32 63 j = if j = k then v29 else zv_a h2 63 j := fun j hj => by rw [s34 j hj]
        refine zx_T.lk (ls' := [(0, .ref 44), (1, .int (zI (place))), (2, .ref 61), (3, .int (zI (many))), (4, .int (zI (14 * place))), (5, .int (zI (k + 1)))]) rfl ⟨rfl, rfl, rfl, rfl, rfl, rfl, trivial⟩ ?_
        exact ih.2.1 (h2 := h32) (k := k + 1) ih32 (by omega) (by omega) (by omega) (by omega) (by omega) ((hw.wd rfl : zb_W [(63, 0)] h _).tr (w33.wd rfl)) (fun j j0 j1 => by first | omega | (have b9 := a63 j j0; split at b9 <;> first | (have b8 := bo j j0 (by omega); rw [b9]; exact b8) | (next e9 => subst e9; rw [b9]; exact ⟨by first | omega | omega, fun z => by subst z; have ki := hk place (by omega) (by omega); omega⟩))) (by omega)
    · intro h2 k hI2 k1 k2 q1 q2 re hw bo kd kk kl c1 c2 k8 hm
      have hC := zv_ri hI (k := 1) rfl
      refine zx_T.l (i := .iload 5) (k := 2) (v := .int (zI (k))) (pc := 162) rfl rfl rfl ?_
      refine zx_T.s (i := .bipush 8) (k := 2) (st' := [.int (zI (8)), .int (zI (k))]) (pc := 164) rfl rfl ?_
      refine zx_T.l (i := .iload_n 3) (k := 1) (v := .int (zI (many))) (pc := 166) rfl rfl rfl ?_
      refine zr_add (x := 8) (y := many) (e := many + 8) (pc := 167) rfl (by omega) ?_
      refine zr_i2 (x := k) (y := many + 8) (t := 230) (pc := 168) rfl rfl (by omega) (by omega) (by omega) (by omega) (fun (c36 : (many + 8) ≤ k) => ?_) (fun (c36 : ¬ ((many + 8) ≤ k)) => ?_)
      · refine zx_T.s (i := .iconst 0) (k := 1) (st' := [.int (zI (0))]) (pc := 230) rfl rfl ?_
        exact zr_ir (x := 0) (pc := 231) rfl rfl rfl ⟨hI2, (hw.wd rfl : zb_W [(54, 0), (44, 27), (56, 0), (55, 0), (63, 0)] h _), _, rfl, by dsimp only; exact ⟨zg_J.od q1 (by omega) (fun q => zv_wa hw rfl q) kd re kk c1 c2 hk k8, by omega, by omega, fun z => ⟨q1, q2, by rw [zv_wa hw rfl]; exact re⟩⟩⟩
      · refine zx_T.l (i := .aload_n 0) (k := 1) (v := .ref 44) (pc := 171) rfl rfl rfl ?_
        refine zx_T.l (i := .aload_n 0) (k := 1) (v := .ref 44) (pc := 172) rfl rfl rfl ?_
        refine zr_gi (k := 27) (lo := 0) (hi := 1) (e := zv_i h2 27) (pc := 173) rfl rfl rfl hI2 rfl (fun g37a g37b => ?_)
        refine zr_i1 (x := zv_i h2 27) (t := 199) (pc := 176) rfl rfl (by omega) (by omega) (fun (c38 : ¬ (zv_i h2 27) = 0) => ?_) (fun (c38 : ¬ (¬ (zv_i h2 27) = 0)) => ?_)
        · refine zx_T.s (i := .iconst 1) (k := 1) (st' := [.int (zI (1)), .ref 44]) (pc := 199) rfl rfl ?_
          refine zx_T.j (i := .goto 4) (k := 3) (pc' := 204) (st' := [.int (zI (1)), .ref 44]) (pc := 200) rfl rfl rfl rfl rfl ?_
          refine zr_pi (k := 27) (lo := 0) (hi := 1) (e := 1) (pc := 204) rfl rfl rfl rfl rfl rfl hI2 (by omega) (by omega) (fun h39 ih39 w40 e41 => ?_)
          refine zx_T.l (i := .aload_n 0) (k := 1) (v := .ref 44) (pc := 207) rfl rfl rfl ?_
          refine zr_gr (k := 17) (b := 55) (pc := 208) rfl rfl rfl ih39 ?_
          refine zx_T.l (i := .iload 4) (k := 2) (v := .int (zI (14 * place))) (pc := 211) rfl rfl rfl ?_
          refine zx_T.l (i := .iload 5) (k := 2) (v := .int (zI (k))) (pc := 213) rfl rfl rfl ?_
          refine zr_add (x := 14 * place) (y := k) (e := 14 * place + k) (pc := 215) rfl (by omega) ?_
          refine zx_T.l (i := .aload_n 0) (k := 1) (v := .ref 44) (pc := 216) rfl rfl rfl ?_
          refine zr_gr (k := 29) (b := 63) (pc := 217) rfl rfl rfl ih39 ?_
          refine zx_T.l (i := .iload 5) (k := 2) (v := .int (zI (k))) (pc := 220) rfl rfl rfl ?_
          refine zr_al (n := 14) (lo := 0) (hi := 8) (e := zv_a h2 63 k) (pc := 222) rfl rfl rfl ih39 (by omega) (by omega) (zv_wa w40 rfl k) (fun g42a g42b => ?_)
          refine zr_as (n := 840) (lo := 0) (hi := 8) (e := zv_a h2 63 k) (pc := 223) rfl rfl rfl rfl ih39 (by omega) (by omega) (by omega) (by omega) (fun h43 ih43 w44 s45 => ?_)
          refine zr_inc (x := k) (n := 1) (y := k + 1) (ls' := [(5, .int (zI (k + 1))), (0, .ref 44), (1, .int (zI (place))), (2, .ref 61), (3, .int (zI (many))), (4, .int (zI (14 * place)))]) (pc := 224) rfl rfl rfl (by omega) rfl ?_
          refine zx_T.j (i := .goto (-65)) (k := 3) (pc' := 162) (st' := []) (pc := 227) rfl rfl rfl rfl rfl ?_
          have a63 : ∀ j, 0 ≤ j → zv_a h43 63 j = zv_a h2 63 j := fun j hj => by rw [zv_wa w44 rfl j, zv_wa w40 rfl j]
          have a55 : ∀ j, 0 ≤ j → zv_a h43 55 j = if j = 14 * place + k then zv_a h2 63 k else zv_a h2 55 j := fun j hj => by rw [s45 j hj, zv_wa w40 rfl j]
          have y48 : zv_i h43 27 = 1 := ((zv_wi w44 rfl).trans e41)
          refine zx_T.lk (ls' := [(0, .ref 44), (1, .int (zI (place))), (2, .ref 61), (3, .int (zI (many))), (4, .int (zI (14 * place))), (5, .int (zI (k + 1)))]) rfl ⟨rfl, rfl, rfl, rfl, rfl, rfl, trivial⟩ ?_
          exact ih.2.2 (h2 := h43) (k := k + 1) ih43 (by omega) (by omega) (by omega) (by omega) (by omega) (((hw.wd rfl : zb_W [(63, 0), (55, 0), (44, 27)] h _).tr (w40.wd rfl)).tr (w44.wd rfl)) (fun j j0 j1 => by first | (rw [a63 j j0]; exact bo j j0 j1) | (have b1 := wj1 j j0; have b2 := wj2 j j0; have b3 := bo j j0 (by omega); exact ⟨zg_wz b2.1 (zg_wz b1.1 b3.1), fun z => by have b4 := b3.2 z; omega⟩)) (by first | exact (zg_js q1 k1 (by omega) a55 (bo k k1 (by omega)) kd kk kl k8).1 | exact fun q q0 _ => a55 q q0) (by first | exact (zg_js q1 k1 (by omega) a55 (bo k k1 (by omega)) kd kk kl k8).2.1 | exact fun j j0 _ => Or.inl (a55 _ (by omega))) (by first | exact (zg_js q1 k1 (by omega) a55 (bo k k1 (by omega)) kd kk kl k8).2.2.1 | exact fun j j0 _ => a55 _ (by omega)) (by intro z; first | (exact absurd z (by omega)) | (exact Or.inl (by omega)) | (by_cases z9 : zv_i h2 27 = 1; rcases c1 z9 with z1 | ⟨j, j0, j1, hj⟩; exact Or.inl z1; exact Or.inr ⟨j, j0, j1, (zg_js q1 k1 (by omega) a55 (bo k k1 (by omega)) kd kk kl k8).2.2.2.2.1 j j0 j1 hj⟩; exact Or.inr ⟨k, k1, by omega, (zg_js q1 k1 (by omega) a55 (bo k k1 (by omega)) kd kk kl k8).2.2.2.2.2 (by omega)⟩)) (by omega) (by first | exact (zg_js q1 k1 (by omega) a55 (bo k k1 (by omega)) kd kk kl k8).2.2.2.1 | (rw [a55 _ (by omega)]; exact hk place (by omega) (by omega))) (by omega)
        · refine zx_T.l (i := .aload_n 0) (k := 1) (v := .ref 44) (pc := 179) rfl rfl rfl ?_
          refine zr_gr (k := 17) (b := 55) (pc := 180) rfl rfl rfl hI2 ?_
          refine zx_T.l (i := .iload 4) (k := 2) (v := .int (zI (14 * place))) (pc := 183) rfl rfl rfl ?_
          refine zx_T.l (i := .iload 5) (k := 2) (v := .int (zI (k))) (pc := 185) rfl rfl rfl ?_
          refine zr_add (x := 14 * place) (y := k) (e := 14 * place + k) (pc := 187) rfl (by omega) ?_
          refine zr_al (n := 840) (lo := 0) (hi := 8) (e := zv_a h2 55 (14 * place + k)) (pc := 188) rfl rfl rfl hI2 (by omega) (by omega) rfl (fun g49a g49b => ?_)
          refine zx_T.l (i := .aload_n 0) (k := 1) (v := .ref 44) (pc := 189) rfl rfl rfl ?_
          refine zr_gr (k := 29) (b := 63) (pc := 190) rfl rfl rfl hI2 ?_
          refine zx_T.l (i := .iload 5) (k := 2) (v := .int (zI (k))) (pc := 193) rfl rfl rfl ?_
          refine zr_al (n := 14) (lo := 0) (hi := 8) (e := zv_a h2 63 k) (pc := 195) rfl rfl rfl hI2 (by omega) (by omega) rfl (fun g50a g50b => ?_)
          refine zr_i2 (x := zv_a h2 55 (14 * place + k)) (y := zv_a h2 63 k) (t := 203) (pc := 196) rfl rfl (by omega) (by omega) (by omega) (by omega) (fun (c51 : (zv_a h2 55 (14 * place + k)) = (zv_a h2 63 k)) => ?_) (fun (c51 : ¬ ((zv_a h2 55 (14 * place + k)) = (zv_a h2 63 k))) => ?_)
          · refine zx_T.s (i := .iconst 0) (k := 1) (st' := [.int (zI (0)), .ref 44]) (pc := 203) rfl rfl ?_
            refine zr_pi (k := 27) (lo := 0) (hi := 1) (e := 0) (pc := 204) rfl rfl rfl rfl rfl rfl hI2 (by omega) (by omega) (fun h52 ih52 w53 e54 => ?_)
            refine zx_T.l (i := .aload_n 0) (k := 1) (v := .ref 44) (pc := 207) rfl rfl rfl ?_
            refine zr_gr (k := 17) (b := 55) (pc := 208) rfl rfl rfl ih52 ?_
            refine zx_T.l (i := .iload 4) (k := 2) (v := .int (zI (14 * place))) (pc := 211) rfl rfl rfl ?_
            refine zx_T.l (i := .iload 5) (k := 2) (v := .int (zI (k))) (pc := 213) rfl rfl rfl ?_
            refine zr_add (x := 14 * place) (y := k) (e := 14 * place + k) (pc := 215) rfl (by omega) ?_
            refine zx_T.l (i := .aload_n 0) (k := 1) (v := .ref 44) (pc := 216) rfl rfl rfl ?_
            refine zr_gr (k := 29) (b := 63) (pc := 217) rfl rfl rfl ih52 ?_
            refine zx_T.l (i := .iload 5) (k := 2) (v := .int (zI (k))) (pc := 220) rfl rfl rfl ?_
            refine zr_al (n := 14) (lo := 0) (hi := 8) (e := zv_a h2 63 k) (pc := 222) rfl rfl rfl ih52 (by omega) (by omega) (zv_wa w53 rfl k) (fun g55a g55b => ?_)
            refine zr_as (n := 840) (lo := 0) (hi := 8) (e := zv_a h2 63 k) (pc := 223) rfl rfl rfl rfl ih52 (by omega) (by omega) (by omega) (by omega) (fun h56 ih56 w57 s58 => ?_)
            refine zr_inc (x := k) (n := 1) (y := k + 1) (ls' := [(5, .int (zI (k + 1))), (0, .ref 44), (1, .int (zI (place))), (2, .ref 61), (3, .int (zI (many))), (4, .int (zI (14 * place)))]) (pc := 224) rfl rfl rfl (by omega) rfl ?_
            refine zx_T.j (i := .goto (-65)) (k := 3) (pc' := 162) (st' := []) (pc := 227) rfl rfl rfl rfl rfl ?_
            have a63 : ∀ j, 0 ≤ j → zv_a h56 63 j = zv_a h2 63 j := fun j hj => by rw [zv_wa w57 rfl j, zv_wa w53 rfl j]
            have a55 : ∀ j, 0 ≤ j → zv_a h56 55 j = if j = 14 * place + k then zv_a h2 63 k else zv_a h2 55 j := fun j hj => by rw [s58 j hj, zv_wa w53 rfl j]
            have y61 : zv_i h56 27 = 0 := ((zv_wi w57 rfl).trans e54)
            refine zx_T.lk (ls' := [(0, .ref 44), (1, .int (zI (place))), (2, .ref 61), (3, .int (zI (many))), (4, .int (zI (14 * place))), (5, .int (zI (k + 1)))]) rfl ⟨rfl, rfl, rfl, rfl, rfl, rfl, trivial⟩ ?_
            exact ih.2.2 (h2 := h56) (k := k + 1) ih56 (by omega) (by omega) (by omega) (by omega) (by omega) (((hw.wd rfl : zb_W [(63, 0), (55, 0), (44, 27)] h _).tr (w53.wd rfl)).tr (w57.wd rfl)) (fun j j0 j1 => by first | (rw [a63 j j0]; exact bo j j0 j1) | (have b1 := wj1 j j0; have b2 := wj2 j j0; have b3 := bo j j0 (by omega); exact ⟨zg_wz b2.1 (zg_wz b1.1 b3.1), fun z => by have b4 := b3.2 z; omega⟩)) (by first | exact (zg_js q1 k1 (by omega) a55 (bo k k1 (by omega)) kd kk kl k8).1 | exact fun q q0 _ => a55 q q0) (by first | exact (zg_js q1 k1 (by omega) a55 (bo k k1 (by omega)) kd kk kl k8).2.1 | exact fun j j0 _ => Or.inl (a55 _ (by omega))) (by first | exact (zg_js q1 k1 (by omega) a55 (bo k k1 (by omega)) kd kk kl k8).2.2.1 | exact fun j j0 _ => a55 _ (by omega)) (by intro z; first | (exact absurd z (by omega)) | (exact Or.inl (by omega)) | (by_cases z9 : zv_i h2 27 = 1; rcases c1 z9 with z1 | ⟨j, j0, j1, hj⟩; exact Or.inl z1; exact Or.inr ⟨j, j0, j1, (zg_js q1 k1 (by omega) a55 (bo k k1 (by omega)) kd kk kl k8).2.2.2.2.1 j j0 j1 hj⟩; exact Or.inr ⟨k, k1, by omega, (zg_js q1 k1 (by omega) a55 (bo k k1 (by omega)) kd kk kl k8).2.2.2.2.2 (by omega)⟩)) (by omega) (by first | exact (zg_js q1 k1 (by omega) a55 (bo k k1 (by omega)) kd kk kl k8).2.2.2.1 | (rw [a55 _ (by omega)]; exact hk place (by omega) (by omega))) (by omega)
          · refine zx_T.s (i := .iconst 1) (k := 1) (st' := [.int (zI (1)), .ref 44]) (pc := 199) rfl rfl ?_
            refine zx_T.j (i := .goto 4) (k := 3) (pc' := 204) (st' := [.int (zI (1)), .ref 44]) (pc := 200) rfl rfl rfl rfl rfl ?_
            refine zr_pi (k := 27) (lo := 0) (hi := 1) (e := 1) (pc := 204) rfl rfl rfl rfl rfl rfl hI2 (by omega) (by omega) (fun h62 ih62 w63 e64 => ?_)
            refine zx_T.l (i := .aload_n 0) (k := 1) (v := .ref 44) (pc := 207) rfl rfl rfl ?_
            refine zr_gr (k := 17) (b := 55) (pc := 208) rfl rfl rfl ih62 ?_
            refine zx_T.l (i := .iload 4) (k := 2) (v := .int (zI (14 * place))) (pc := 211) rfl rfl rfl ?_
            refine zx_T.l (i := .iload 5) (k := 2) (v := .int (zI (k))) (pc := 213) rfl rfl rfl ?_
            refine zr_add (x := 14 * place) (y := k) (e := 14 * place + k) (pc := 215) rfl (by omega) ?_
            refine zx_T.l (i := .aload_n 0) (k := 1) (v := .ref 44) (pc := 216) rfl rfl rfl ?_
            refine zr_gr (k := 29) (b := 63) (pc := 217) rfl rfl rfl ih62 ?_
            refine zx_T.l (i := .iload 5) (k := 2) (v := .int (zI (k))) (pc := 220) rfl rfl rfl ?_
            refine zr_al (n := 14) (lo := 0) (hi := 8) (e := zv_a h2 63 k) (pc := 222) rfl rfl rfl ih62 (by omega) (by omega) (zv_wa w63 rfl k) (fun g65a g65b => ?_)
            refine zr_as (n := 840) (lo := 0) (hi := 8) (e := zv_a h2 63 k) (pc := 223) rfl rfl rfl rfl ih62 (by omega) (by omega) (by omega) (by omega) (fun h66 ih66 w67 s68 => ?_)
            refine zr_inc (x := k) (n := 1) (y := k + 1) (ls' := [(5, .int (zI (k + 1))), (0, .ref 44), (1, .int (zI (place))), (2, .ref 61), (3, .int (zI (many))), (4, .int (zI (14 * place)))]) (pc := 224) rfl rfl rfl (by omega) rfl ?_
            refine zx_T.j (i := .goto (-65)) (k := 3) (pc' := 162) (st' := []) (pc := 227) rfl rfl rfl rfl rfl ?_
            have a63 : ∀ j, 0 ≤ j → zv_a h66 63 j = zv_a h2 63 j := fun j hj => by rw [zv_wa w67 rfl j, zv_wa w63 rfl j]
            have a55 : ∀ j, 0 ≤ j → zv_a h66 55 j = if j = 14 * place + k then zv_a h2 63 k else zv_a h2 55 j := fun j hj => by rw [s68 j hj, zv_wa w63 rfl j]
            have y71 : zv_i h66 27 = 1 := ((zv_wi w67 rfl).trans e64)
            refine zx_T.lk (ls' := [(0, .ref 44), (1, .int (zI (place))), (2, .ref 61), (3, .int (zI (many))), (4, .int (zI (14 * place))), (5, .int (zI (k + 1)))]) rfl ⟨rfl, rfl, rfl, rfl, rfl, rfl, trivial⟩ ?_
            exact ih.2.2 (h2 := h66) (k := k + 1) ih66 (by omega) (by omega) (by omega) (by omega) (by omega) (((hw.wd rfl : zb_W [(63, 0), (55, 0), (44, 27)] h _).tr (w63.wd rfl)).tr (w67.wd rfl)) (fun j j0 j1 => by first | (rw [a63 j j0]; exact bo j j0 j1) | (have b1 := wj1 j j0; have b2 := wj2 j j0; have b3 := bo j j0 (by omega); exact ⟨zg_wz b2.1 (zg_wz b1.1 b3.1), fun z => by have b4 := b3.2 z; omega⟩)) (by first | exact (zg_js q1 k1 (by omega) a55 (bo k k1 (by omega)) kd kk kl k8).1 | exact fun q q0 _ => a55 q q0) (by first | exact (zg_js q1 k1 (by omega) a55 (bo k k1 (by omega)) kd kk kl k8).2.1 | exact fun j j0 _ => Or.inl (a55 _ (by omega))) (by first | exact (zg_js q1 k1 (by omega) a55 (bo k k1 (by omega)) kd kk kl k8).2.2.1 | exact fun j j0 _ => a55 _ (by omega)) (by intro z; first | (exact absurd z (by omega)) | (exact Or.inl (by omega)) | (by_cases z9 : zv_i h2 27 = 1; rcases c1 z9 with z1 | ⟨j, j0, j1, hj⟩; exact Or.inl z1; exact Or.inr ⟨j, j0, j1, (zg_js q1 k1 (by omega) a55 (bo k k1 (by omega)) kd kk kl k8).2.2.2.2.1 j j0 j1 hj⟩; exact Or.inr ⟨k, k1, by omega, (zg_js q1 k1 (by omega) a55 (bo k k1 (by omega)) kd kk kl k8).2.2.2.2.2 (by omega)⟩)) (by omega) (by first | exact (zg_js q1 k1 (by omega) a55 (bo k k1 (by omega)) kd kk kl k8).2.2.2.1 | (rw [a55 _ (by omega)]; exact hk place (by omega) (by omega))) (by omega)
set_option maxRecDepth 100000 in
set_option maxHeartbeats 4000000 in
theorem zm_join_61 {h : zx_H} (hI : zb_I zc_H h) {place : Int} {many : Int} (place1 : -2147483648 ≤ place) (place2 : place ≤ 2147483647) (many1 : 0 ≤ many) (many2 : many ≤ 6) (hk : zg_KI h) (r8 : ¬ zv_a h 61 8 = 3) : zx_T zp_P 2 zp_m174 0 [(0, .ref 44), (1, .int (zI (place))), (2, .ref 61), (3, .int (zI (many)))] [] h (zr_R [(54, 0), (44, 27), (56, 0), (55, 0), (63, 0)] h (fun e h' => zg_J h h' ∧ 0 ≤ e ∧ e ≤ 7 ∧ (e = 0 → 0 ≤ place ∧ place < zv_i h 1 ∧ zv_a h' 54 place = 1))) := by
  have hC := zv_ri hI (k := 1) rfl
  refine zx_T.l (i := .iload_n 1) (k := 1) (v := .int (zI (place))) (pc := 0) rfl rfl rfl ?_
  refine zx_T.s (i := .iconst 0) (k := 1) (st' := [.int (zI (0)), .int (zI (place))]) (pc := 1) rfl rfl ?_
  refine zx_T.l (i := .aload_n 0) (k := 1) (v := .ref 44) (pc := 2) rfl rfl rfl ?_
  refine zr_gi (k := 1) (lo := 0) (hi := 60) (e := zv_i h 1) (pc := 3) rfl rfl rfl hI rfl (fun g72a g72b => ?_)
  refine zx_T.s (i := .iconst 1) (k := 1) (st' := [.int (zI (1)), .int (zI (zv_i h 1)), .int (zI (0)), .int (zI (place))]) (pc := 6) rfl rfl ?_
  refine zr_sub (x := zv_i h 1) (y := 1) (e := zv_i h 1 - 1) (pc := 7) rfl (by omega) ?_
  refine zr_is (cj := 155) (q' := zp_m155) (As := [.int (zI (place)), .int (zI (0)), .int (zI (zv_i h 1 - 1))]) (rest := []) (pc := 8) rfl rfl rfl rfl rfl rfl (Nat.le_of_ble_eq_true rfl) rfl (Nat.le_of_ble_eq_true rfl) rfl ((zm_in (h := h) hI (v := place) (l := 0) (u := zv_i h 1 - 1) (by omega) (by omega) (by omega) (by omega) (by omega) (by omega)).up (Nat.le_of_ble_eq_true rfl)) ?_
  rintro r73 h76 ⟨h76q, v74, r73q, x75⟩
  subst h76q r73q
  try dsimp only at x75
  show zx_T zp_P 2 zp_m174 11 [(0, .ref 44), (1, .int (zI (place))), (2, .ref 61), (3, .int (zI (many)))] [.int (zI (v74))] h _
  refine zr_i1 (x := v74) (t := 17) (pc := 11) rfl rfl (by omega) (by omega) (fun (c77 : ¬ v74 = 0) => ?_) (fun (c77 : ¬ (¬ v74 = 0)) => ?_)
  · refine zx_T.s (i := .bipush 14) (k := 2) (st' := [.int (zI (14))]) (pc := 17) rfl rfl ?_
    refine zx_T.l (i := .iload_n 1) (k := 1) (v := .int (zI (place))) (pc := 19) rfl rfl rfl ?_
    refine zr_mul (x := 14) (y := place) (e := 14 * place) (pc := 20) rfl (by omega) ?_
    refine zx_T.t (i := .istore 4) (k := 2) (ls' := [(4, .int (zI (14 * place))), (0, .ref 44), (1, .int (zI (place))), (2, .ref 61), (3, .int (zI (many)))]) (st' := []) (pc := 21) rfl rfl rfl rfl ?_
    refine zx_T.l (i := .aload_n 0) (k := 1) (v := .ref 44) (pc := 23) rfl rfl rfl ?_
    refine zr_gr (k := 16) (b := 54) (pc := 24) rfl rfl rfl hI ?_
    refine zx_T.l (i := .iload_n 1) (k := 1) (v := .int (zI (place))) (pc := 27) rfl rfl rfl ?_
    refine zr_bl (n := 60) (lo := 0) (hi := 1) (e := zv_a h 54 place) (pc := 28) rfl rfl rfl hI (by omega) (by omega) rfl (fun g78a g78b => ?_)
    refine zr_i1 (x := zv_a h 54 place) (t := 85) (pc := 29) rfl rfl (by omega) (by omega) (fun (c79 : ¬ (zv_a h 54 place) = 0) => ?_) (fun (c79 : ¬ (¬ (zv_a h 54 place) = 0)) => ?_)
    · refine zx_T.l (i := .aload_n 0) (k := 1) (v := .ref 44) (pc := 85) rfl rfl rfl ?_
      refine zr_gr (k := 18) (b := 56) (pc := 86) rfl rfl rfl hI ?_
      refine zx_T.l (i := .iload_n 1) (k := 1) (v := .int (zI (place))) (pc := 89) rfl rfl rfl ?_
      refine zr_al (n := 60) (lo := 0) (hi := 6) (e := zv_a h 56 place) (pc := 90) rfl rfl rfl hI (by omega) (by omega) rfl (fun g80a g80b => ?_)
      refine zx_T.l (i := .iload_n 3) (k := 1) (v := .int (zI (many))) (pc := 91) rfl rfl rfl ?_
      refine zr_i2 (x := zv_a h 56 place) (y := many) (t := 97) (pc := 92) rfl rfl (by omega) (by omega) (by omega) (by omega) (fun (c81 : (zv_a h 56 place) = many) => ?_) (fun (c81 : ¬ ((zv_a h 56 place) = many)) => ?_)
      · refine zx_T.s (i := .iconst 0) (k := 1) (st' := [.int (zI (0))]) (pc := 97) rfl rfl ?_
        refine zx_T.t (i := .istore 5) (k := 2) (ls' := [(5, .int (zI (0))), (4, .int (zI (14 * place))), (0, .ref 44), (1, .int (zI (place))), (2, .ref 61), (3, .int (zI (many)))]) (st' := []) (pc := 98) rfl rfl rfl rfl ?_
        refine zx_T.lk (ls' := [(0, .ref 44), (1, .int (zI (place))), (2, .ref 61), (3, .int (zI (many))), (4, .int (zI (14 * place))), (5, .int (zI (0)))]) rfl ⟨rfl, rfl, rfl, rfl, rfl, rfl, trivial⟩ ?_
        exact (zm_join_61_L (h := h) hI (place := place) (many := many) place1 place2 many1 many2 hk r8 ((many + 108 - 0 : Int).toNat + 1)).2.1 (h2 := h) (k := 0) hI (by omega) (by omega) (by omega) (by omega) (by omega) zb_W.rf (fun j j0 j1 => by first | omega | (have b9 := a63 j j0; split at b9 <;> first | (have b8 := bo j j0 (by omega); rw [b9]; exact b8) | (next e9 => subst e9; rw [b9]; exact ⟨by first | omega | omega, fun z => by subst z; have ki := hk place (by omega) (by omega); omega⟩))) (Nat.lt_succ_self _)
      · refine zx_T.s (i := .iconst 5) (k := 1) (st' := [.int (zI (5))]) (pc := 95) rfl rfl ?_
        exact zr_ir (x := 5) (pc := 96) rfl rfl rfl ⟨hI, zb_W.rf, _, rfl, by dsimp only; exact ⟨zg_J.fr hk (zb_W.rf (W := [])) rfl rfl rfl, by omega, by omega, fun z => absurd z (by omega)⟩⟩
    · refine zx_T.l (i := .aload_n 0) (k := 1) (v := .ref 44) (pc := 32) rfl rfl rfl ?_
      refine zr_gr (k := 16) (b := 54) (pc := 33) rfl rfl rfl hI ?_
      refine zx_T.l (i := .iload_n 1) (k := 1) (v := .int (zI (place))) (pc := 36) rfl rfl rfl ?_
      refine zx_T.s (i := .iconst 1) (k := 1) (st' := [.int (zI (1)), .int (zI (place)), .ref 54]) (pc := 37) rfl rfl ?_
      refine zr_bs (n := 60) (e := 1) (pc := 38) rfl rfl rfl hI (by omega) (by omega) (by omega) (by omega) (fun h83 ih83 w84 s85 => ?_)
      refine zx_T.l (i := .aload_n 0) (k := 1) (v := .ref 44) (pc := 39) rfl rfl rfl ?_
      refine zx_T.s (i := .iconst 1) (k := 1) (st' := [.int (zI (1)), .ref 44]) (pc := 40) rfl rfl ?_
      refine zr_pi (k := 27) (lo := 0) (hi := 1) (e := 1) (pc := 41) rfl rfl rfl rfl rfl rfl ih83 (by omega) (by omega) (fun h86 ih86 w87 e88 => ?_)
      refine zx_T.l (i := .aload_n 0) (k := 1) (v := .ref 44) (pc := 44) rfl rfl rfl ?_
      refine zr_gr (k := 18) (b := 56) (pc := 45) rfl rfl rfl ih86 ?_
      refine zx_T.l (i := .iload_n 1) (k := 1) (v := .int (zI (place))) (pc := 48) rfl rfl rfl ?_
      refine zx_T.l (i := .iload_n 3) (k := 1) (v := .int (zI (many))) (pc := 49) rfl rfl rfl ?_
      refine zr_as (n := 60) (lo := 0) (hi := 6) (e := many) (pc := 50) rfl rfl rfl rfl ih86 (by omega) (by omega) (by omega) (by omega) (fun h89 ih89 w90 s91 => ?_)
      refine zx_T.s (i := .iconst 0) (k := 1) (st' := [.int (zI (0))]) (pc := 51) rfl rfl ?_
      refine zx_T.t (i := .istore 5) (k := 2) (ls' := [(5, .int (zI (0))), (4, .int (zI (14 * place))), (0, .ref 44), (1, .int (zI (place))), (2, .ref 61), (3, .int (zI (many)))]) (st' := []) (pc := 52) rfl rfl rfl rfl ?_
      have a54 : ∀ j, 0 ≤ j → zv_a h89 54 j = if j = place then 1 else zv_a h 54 j := fun j hj => by rw [zv_wa w90 rfl j, zv_wa w87 rfl j, s85 j hj]
      have a55 : ∀ j, 0 ≤ j → zv_a h89 55 j = zv_a h 55 j := fun j hj => by rw [zv_wa w90 rfl j, zv_wa w87 rfl j, zv_wa w84 rfl j]
      have y94 : zv_i h89 27 = 1 := ((zv_wi w90 rfl).trans e88)
      have y95 : zv_a h89 54 place = 1 := ((zv_wa w90 rfl place).trans ((zv_wa w87 rfl place).trans ((s85 place (by omega)).trans (if_pos rfl))))
      refine zx_T.lk (ls' := [(0, .ref 44), (1, .int (zI (place))), (2, .ref 61), (3, .int (zI (many))), (4, .int (zI (14 * place))), (5, .int (zI (0)))]) rfl ⟨rfl, rfl, rfl, rfl, rfl, rfl, trivial⟩ ?_
      exact (zm_join_61_L (h := h) hI (place := place) (many := many) place1 place2 many1 many2 hk r8 ((many + 8 - 0 : Int).toNat + 1)).1 (h2 := h89) (k := 0) ih89 (by omega) (by omega) (by omega) (by omega) (by omega) (((w84.wd rfl : zb_W [(54, 0), (44, 27), (56, 0), (55, 0), (63, 0)] h _).tr (w87.wd rfl)).tr (w90.wd rfl)) (by first | omega | (have b9 := a54 place (by omega); split at b9 <;> omega)) (fun q q0 q1 => by have b9 := a54 q q0; first | (have b8 := r2 q q0 q1; omega) | (split at b9 <;> omega)) (by omega) (fun q q0 q1 => by first | omega | (have b9 := a55 q q0; first | omega | (split at b9 <;> first | omega | (have b8 := kd q q0 q1; omega)))) (by have b9 := a55 (14 * place + 8) (by omega); have ki := hk place (by omega) (by omega); first | omega | (split at b9 <;> first | omega | (next e9 => have e8 : k = 8 := (by omega); subst e8; omega))) (Nat.lt_succ_self _)
  · refine zx_T.s (i := .bipush 7) (k := 2) (st' := [.int (zI (7))]) (pc := 14) rfl rfl ?_
    exact zr_ir (x := 7) (pc := 16) rfl rfl rfl ⟨hI, zb_W.rf, _, rfl, by dsimp only; exact ⟨zg_J.fr hk (zb_W.rf (W := [])) rfl rfl rfl, by omega, by omega, fun z => absurd z (by omega)⟩⟩

set_option maxRecDepth 100000 in
set_option maxHeartbeats 4000000 in
theorem zm_join_62_L {h : zx_H} (hI : zb_I zc_H h) {place : Int} {many : Int} (place1 : -2147483648 ≤ place) (place2 : place ≤ 2147483647) (many1 : 0 ≤ many) (many2 : many ≤ 6) (hk : zg_KI h) (r8 : ¬ zv_a h 62 8 = 3) (n : Nat) : (∀ {h2 : zx_H} {k : Int} (hI2 : zb_I zc_H h2) (k1 : 0 ≤ k) (k2 : k ≤ many + 8) (q1 : 0 ≤ place) (q2 : place < zv_i h 1) (nr : ¬ zv_a h 54 place = 1) (hw : zb_W [(54, 0), (44, 27), (56, 0), (55, 0), (63, 0)] h h2) (r1 : zv_a h2 54 place = 1) (r2 : ∀ q, 0 ≤ q → ¬ q = place → zv_a h2 54 q = zv_a h 54 q) (ch : zv_i h2 27 = 1) (kd : ∀ q, 0 ≤ q → (q < 14 * place ∨ 14 * place + 14 ≤ q) → zv_a h2 55 q = zv_a h 55 q) (k8 : ¬ zv_a h2 55 (14 * place + 8) = 3), (many + 8 - k : Int).toNat < n → zx_T zp_P 2 zp_m174 54 [(0, .ref 44), (1, .int (zI (place))), (2, .ref 62), (3, .int (zI (many))), (4, .int (zI (14 * place))), (5, .int (zI (k)))] [] h2 (zr_R [(54, 0), (44, 27), (56, 0), (55, 0), (63, 0)] h (fun e h' => zg_J h h' ∧ 0 ≤ e ∧ e ≤ 7 ∧ (e = 0 → 0 ≤ place ∧ place < zv_i h 1 ∧ zv_a h' 54 place = 1)))) ∧ (∀ {h2 : zx_H} {k : Int} (hI2 : zb_I zc_H h2) (k1 : 0 ≤ k) (k2 : k ≤ many + 8) (q1 : 0 ≤ place) (q2 : place < zv_i h 1) (re : zv_a h 54 place = 1) (hw : zb_W [(63, 0)] h h2) (bo : ∀ j, 0 ≤ j → j < k → (zv_a h2 63 j = zv_a h 55 (14 * place + j) ∨ zg_r (zv_a h2 63 j) < zg_r (zv_a h 55 (14 * place + j))) ∧ (j = 8 → ¬ zv_a h2 63 j = 3)), (many + 108 - k : Int).toNat < n → zx_T zp_P 2 zp_m174 100 [(0, .ref 44), (1, .int (zI (place))), (2, .ref 62), (3, .int (zI (many))), (4, .int (zI (14 * place))), (5, .int (zI (k)))] [] h2 (zr_R [(54, 0), (44, 27), (56, 0), (55, 0), (63, 0)] h (fun e h' => zg_J h h' ∧ 0 ≤ e ∧ e ≤ 7 ∧ (e = 0 → 0 ≤ place ∧ place < zv_i h 1 ∧ zv_a h' 54 place = 1)))) ∧ (∀ {h2 : zx_H} {k : Int} (hI2 : zb_I zc_H h2) (k1 : 0 ≤ k) (k2 : k ≤ many + 8) (q1 : 0 ≤ place) (q2 : place < zv_i h 1) (re : zv_a h 54 place = 1) (hw : zb_W [(63, 0), (55, 0), (44, 27)] h h2) (bo : ∀ j, 0 ≤ j → j < many + 8 → (zv_a h2 63 j = zv_a h 55 (14 * place + j) ∨ zg_r (zv_a h2 63 j) < zg_r (zv_a h 55 (14 * place + j))) ∧ (j = 8 → ¬ zv_a h2 63 j = 3)) (kd : ∀ q, 0 ≤ q → (q < 14 * place ∨ 14 * place + 14 ≤ q) → zv_a h2 55 q = zv_a h 55 q) (kk : ∀ j, 0 ≤ j → j < 14 → zv_a h2 55 (14 * place + j) = zv_a h 55 (14 * place + j) ∨ zg_g h2 place j < zg_g h place j) (kl : ∀ j, k ≤ j → j < 14 → zv_a h2 55 (14 * place + j) = zv_a h 55 (14 * place + j)) (c1 : zv_i h2 27 = 1 → zv_i h 27 = 1 ∨ ∃ j, 0 ≤ j ∧ j < 14 ∧ zg_g h2 place j < zg_g h place j) (c2 : zv_i h 27 = 1 → zv_i h2 27 = 1) (k8 : ¬ zv_a h2 55 (14 * place + 8) = 3), (many + 8 - k : Int).toNat < n → zx_T zp_P 2 zp_m174 162 [(0, .ref 44), (1, .int (zI (place))), (2, .ref 62), (3, .int (zI (many))), (4, .int (zI (14 * place))), (5, .int (zI (k)))] [] h2 (zr_R [(54, 0), (44, 27), (56, 0), (55, 0), (63, 0)] h (fun e h' => zg_J h h' ∧ 0 ≤ e ∧ e ≤ 7 ∧ (e = 0 → 0 ≤ place ∧ place < zv_i h 1 ∧ zv_a h' 54 place = 1)))) := by
  induction n with
  | zero => exact ⟨fun _ _ _ _ _ _ _ _ _ _ _ _ hm => absurd hm (Nat.not_lt_zero _), fun _ _ _ _ _ _ _ _ hm => absurd hm (Nat.not_lt_zero _), fun _ _ _ _ _ _ _ _ _ _ _ _ _ _ hm => absurd hm (Nat.not_lt_zero _)⟩
  | succ n ih =>
    refine ⟨?_, ?_, ?_⟩
    · intro h2 k hI2 k1 k2 q1 q2 nr hw r1 r2 ch kd k8 hm
      have hC := zv_ri hI (k := 1) rfl
      refine zx_T.l (i := .iload 5) (k := 2) (v := .int (zI (k))) (pc := 54) rfl rfl rfl ?_
      refine zx_T.s (i := .bipush 8) (k := 2) (st' := [.int (zI (8)), .int (zI (k))]) (pc := 56) rfl rfl ?_
      refine zx_T.l (i := .iload_n 3) (k := 1) (v := .int (zI (many))) (pc := 58) rfl rfl rfl ?_
      refine zr_add (x := 8) (y := many) (e := many + 8) (pc := 59) rfl (by omega) ?_
      refine zr_i2 (x := k) (y := many + 8) (t := 83) (pc := 60) rfl rfl (by omega) (by omega) (by omega) (by omega) (fun (c1 : (many + 8) ≤ k) => ?_) (fun (c1 : ¬ ((many + 8) ≤ k)) => ?_)
      · refine zx_T.s (i := .iconst 0) (k := 1) (st' := [.int (zI (0))]) (pc := 83) rfl rfl ?_
        exact zr_ir (x := 0) (pc := 84) rfl rfl rfl ⟨hI2, (hw.wd rfl : zb_W [(54, 0), (44, 27), (56, 0), (55, 0), (63, 0)] h _), _, rfl, by dsimp only; exact ⟨zg_J.nw q1 (by omega) nr r1 r2 kd ch hk k8, by omega, by omega, fun z => ⟨q1, q2, r1⟩⟩⟩
      · refine zx_T.l (i := .aload_n 0) (k := 1) (v := .ref 44) (pc := 63) rfl rfl rfl ?_
        refine zr_gr (k := 17) (b := 55) (pc := 64) rfl rfl rfl hI2 ?_
        refine zx_T.l (i := .iload 4) (k := 2) (v := .int (zI (14 * place))) (pc := 67) rfl rfl rfl ?_
        refine zx_T.l (i := .iload 5) (k := 2) (v := .int (zI (k))) (pc := 69) rfl rfl rfl ?_
        refine zr_add (x := 14 * place) (y := k) (e := 14 * place + k) (pc := 71) rfl (by omega) ?_
        refine zx_T.l (i := .aload_n 2) (k := 1) (v := .ref 62) (pc := 72) rfl rfl rfl ?_
        refine zx_T.l (i := .iload 5) (k := 2) (v := .int (zI (k))) (pc := 73) rfl rfl rfl ?_
        refine zr_al (n := 14) (lo := 0) (hi := 8) (e := zv_a h 62 k) (pc := 75) rfl rfl rfl hI2 (by omega) (by omega) (zv_wa hw rfl k) (fun g2a g2b => ?_)
        refine zr_as (n := 840) (lo := 0) (hi := 8) (e := zv_a h 62 k) (pc := 76) rfl rfl rfl rfl hI2 (by omega) (by omega) (by omega) (by omega) (fun h3 ih3 w4 s5 => ?_)
        refine zr_inc (x := k) (n := 1) (y := k + 1) (ls' := [(5, .int (zI (k + 1))), (0, .ref 44), (1, .int (zI (place))), (2, .ref 62), (3, .int (zI (many))), (4, .int (zI (14 * place)))]) (pc := 77) rfl rfl rfl (by omega) rfl ?_
        refine zx_T.j (i := .goto (-26)) (k := 3) (pc' := 54) (st' := []) (pc := 80) rfl rfl rfl rfl rfl ?_
        have a54 : ∀ j, 0 ≤ j → zv_a h3 54 j = zv_a h2 54 j := fun j hj => by rw [zv_wa w4 rfl j]
        have a55 : ∀ j, 0 ≤ j → zv_a h3 55 j = if j = 14 * place + k then zv_a h 62 k else zv_a h2 55 j := fun j hj => by rw [s5 j hj]
        have y8 : zv_i h3 27 = zv_i h2 27 := (zv_wi w4 rfl)
        have y9 : zv_a h3 54 place = zv_a h2 54 place := (zv_wa w4 rfl place)
        refine zx_T.lk (ls' := [(0, .ref 44), (1, .int (zI (place))), (2, .ref 62), (3, .int (zI (many))), (4, .int (zI (14 * place))), (5, .int (zI (k + 1)))]) rfl ⟨rfl, rfl, rfl, rfl, rfl, rfl, trivial⟩ ?_
        exact ih.1 (h2 := h3) (k := k + 1) ih3 (by omega) (by omega) (by omega) (by omega) (by omega) ((hw.wd rfl : zb_W [(54, 0), (44, 27), (56, 0), (55, 0), (63, 0)] h _).tr (w4.wd rfl)) (by first | omega | (have b9 := a54 place (by omega); split at b9 <;> omega)) (fun q q0 q1 => by have b9 := a54 q q0; first | (have b8 := r2 q q0 q1; omega) | (split at b9 <;> omega)) (by omega) (fun q q0 q1 => by first | omega | (have b9 := a55 q q0; first | omega | (split at b9 <;> first | omega | (have b8 := kd q q0 q1; omega)))) (by have b9 := a55 (14 * place + 8) (by omega); have ki := hk place (by omega) (by omega); first | omega | (split at b9 <;> first | omega | (next e9 => have e8 : k = 8 := (by omega); subst e8; omega))) (by omega)
    · intro h2 k hI2 k1 k2 q1 q2 re hw bo hm
      have hC := zv_ri hI (k := 1) rfl
      refine zx_T.l (i := .iload 5) (k := 2) (v := .int (zI (k))) (pc := 100) rfl rfl rfl ?_
      refine zx_T.s (i := .bipush 8) (k := 2) (st' := [.int (zI (8)), .int (zI (k))]) (pc := 102) rfl rfl ?_
      refine zx_T.l (i := .iload_n 3) (k := 1) (v := .int (zI (many))) (pc := 104) rfl rfl rfl ?_
      refine zr_add (x := 8) (y := many) (e := many + 8) (pc := 105) rfl (by omega) ?_
      refine zr_i2 (x := k) (y := many + 8) (t := 139) (pc := 106) rfl rfl (by omega) (by omega) (by omega) (by omega) (fun (c10 : (many + 8) ≤ k) => ?_) (fun (c10 : ¬ ((many + 8) ≤ k)) => ?_)
      · refine zx_T.l (i := .aload_n 0) (k := 1) (v := .ref 44) (pc := 139) rfl rfl rfl ?_
        refine zr_gr (k := 29) (b := 63) (pc := 140) rfl rfl rfl hI2 ?_
        refine zx_T.s (i := .iconst 0) (k := 1) (st' := [.int (zI (0)), .ref 63]) (pc := 143) rfl rfl ?_
        refine zx_T.s (i := .bipush 8) (k := 2) (st' := [.int (zI (8)), .int (zI (0)), .ref 63]) (pc := 144) rfl rfl ?_
        refine zr_is (cj := 158) (q' := zp_m158) (As := [.ref 63, .int (zI (0)), .int (zI (8))]) (rest := []) (pc := 146) rfl rfl rfl rfl rfl rfl (Nat.le_of_ble_eq_true rfl) rfl (Nat.le_of_ble_eq_true rfl) rfl ((zm_whole_63 (h := h2) hI2 (f := 0) (m := 8) (by omega) (by omega) (by omega)).up (Nat.le_of_ble_eq_true rfl)) ?_
        rintro r12 h15 ⟨ih15, w16, r12q, x14⟩
        subst r12q
        try dsimp only at x14
        have wj1 := x14
        show zx_T zp_P 2 zp_m174 149 [(0, .ref 44), (1, .int (zI (place))), (2, .ref 62), (3, .int (zI (many))), (4, .int (zI (14 * place))), (5, .int (zI (k)))] [] h15 _
        refine zx_T.l (i := .aload_n 0) (k := 1) (v := .ref 44) (pc := 149) rfl rfl rfl ?_
        refine zr_gr (k := 29) (b := 63) (pc := 150) rfl rfl rfl ih15 ?_
        refine zx_T.s (i := .bipush 8) (k := 2) (st' := [.int (zI (8)), .ref 63]) (pc := 153) rfl rfl ?_
        refine zx_T.l (i := .iload_n 3) (k := 1) (v := .int (zI (many))) (pc := 155) rfl rfl rfl ?_
        refine zr_is (cj := 158) (q' := zp_m158) (As := [.ref 63, .int (zI (8)), .int (zI (many))]) (rest := []) (pc := 156) rfl rfl rfl rfl rfl rfl (Nat.le_of_ble_eq_true rfl) rfl (Nat.le_of_ble_eq_true rfl) rfl ((zm_whole_63 (h := h15) ih15 (f := 8) (m := many) (by omega) (by omega) (by omega)).up (Nat.le_of_ble_eq_true rfl)) ?_
        rintro r18 h21 ⟨ih21, w22, r18q, x20⟩
        subst r18q
        try dsimp only at x20
        have wj2 := x20
        show zx_T zp_P 2 zp_m174 159 [(0, .ref 44), (1, .int (zI (place))), (2, .ref 62), (3, .int (zI (many))), (4, .int (zI (14 * place))), (5, .int (zI (k)))] [] h21 _
        refine zx_T.s (i := .iconst 0) (k := 1) (st' := [.int (zI (0))]) (pc := 159) rfl rfl ?_
        refine zx_T.t (i := .istore 5) (k := 2) (ls' := [(5, .int (zI (0))), (0, .ref 44), (1, .int (zI (place))), (2, .ref 62), (3, .int (zI (many))), (4, .int (zI (14 * place)))]) (st' := []) (pc := 160) rfl rfl rfl rfl ?_
        have a63 : ∀ j, 0 ≤ j → zv_a h21 63 j = zv_a h21 63 j := fun j hj => rfl
        have a55 : ∀ j, 0 ≤ j → zv_a h21 55 j = zv_a h 55 j := fun j hj => by rw [zv_wa w22 rfl j, zv_wa w16 rfl j, zv_wa hw rfl j]
        have y25 : zv_i h21 27 = zv_i h 27 := ((zv_wi w22 rfl).trans ((zv_wi w16 rfl).trans (zv_wi hw rfl)))
        refine zx_T.lk (ls' := [(0, .ref 44), (1, .int (zI (place))), (2, .ref 62), (3, .int (zI (many))), (4, .int (zI (14 * place))), (5, .int (zI (0)))]) rfl ⟨rfl, rfl, rfl, rfl, rfl, rfl, trivial⟩ ?_
        exact ih.2.2 (h2 := h21) (k := 0) ih21 (by omega) (by omega) (by omega) (by omega) (by omega) (((hw.wd rfl : zb_W [(63, 0), (55, 0), (44, 27)] h _).tr (w16.wd rfl)).tr (w22.wd rfl)) (fun j j0 j1 => by first | (rw [a63 j j0]; exact bo j j0 j1) | (have b1 := wj1 j j0; have b2 := wj2 j j0; have b3 := bo j j0 (by omega); exact ⟨zg_wz b2.1 (zg_wz b1.1 b3.1), fun z => by have b4 := b3.2 z; omega⟩)) (by first | exact (zg_js q1 k1 (by omega) a55 (bo k k1 (by omega)) kd kk kl k8).1 | exact fun q q0 _ => a55 q q0) (by first | exact (zg_js q1 k1 (by omega) a55 (bo k k1 (by omega)) kd kk kl k8).2.1 | exact fun j j0 _ => Or.inl (a55 _ (by omega))) (by first | exact (zg_js q1 k1 (by omega) a55 (bo k k1 (by omega)) kd kk kl k8).2.2.1 | exact fun j j0 _ => a55 _ (by omega)) (by intro z; first | (exact absurd z (by omega)) | (exact Or.inl (by omega)) | (by_cases z9 : zv_i h2 27 = 1; rcases c1 z9 with z1 | ⟨j, j0, j1, hj⟩; exact Or.inl z1; exact Or.inr ⟨j, j0, j1, (zg_js q1 k1 (by omega) a55 (bo k k1 (by omega)) kd kk kl k8).2.2.2.2.1 j j0 j1 hj⟩; exact Or.inr ⟨k, k1, by omega, (zg_js q1 k1 (by omega) a55 (bo k k1 (by omega)) kd kk kl k8).2.2.2.2.2 (by omega)⟩)) (by omega) (by first | exact (zg_js q1 k1 (by omega) a55 (bo k k1 (by omega)) kd kk kl k8).2.2.2.1 | (rw [a55 _ (by omega)]; exact hk place (by omega) (by omega))) (by omega)
      · refine zx_T.l (i := .aload_n 0) (k := 1) (v := .ref 44) (pc := 109) rfl rfl rfl ?_
        refine zr_gr (k := 29) (b := 63) (pc := 110) rfl rfl rfl hI2 ?_
        refine zx_T.l (i := .iload 5) (k := 2) (v := .int (zI (k))) (pc := 113) rfl rfl rfl ?_
        refine zx_T.l (i := .aload_n 0) (k := 1) (v := .ref 44) (pc := 115) rfl rfl rfl ?_
        refine zr_gr (k := 17) (b := 55) (pc := 116) rfl rfl rfl hI2 ?_
        refine zx_T.l (i := .iload 4) (k := 2) (v := .int (zI (14 * place))) (pc := 119) rfl rfl rfl ?_
        refine zx_T.l (i := .iload 5) (k := 2) (v := .int (zI (k))) (pc := 121) rfl rfl rfl ?_
        refine zr_add (x := 14 * place) (y := k) (e := 14 * place + k) (pc := 123) rfl (by omega) ?_
        refine zr_al (n := 840) (lo := 0) (hi := 8) (e := zv_a h 55 (14 * place + k)) (pc := 124) rfl rfl rfl hI2 (by omega) (by omega) (zv_wa hw rfl (14 * place + k)) (fun g26a g26b => ?_)
        refine zx_T.l (i := .aload_n 2) (k := 1) (v := .ref 62) (pc := 125) rfl rfl rfl ?_
        refine zx_T.l (i := .iload 5) (k := 2) (v := .int (zI (k))) (pc := 126) rfl rfl rfl ?_
        refine zr_al (n := 14) (lo := 0) (hi := 8) (e := zv_a h 62 k) (pc := 128) rfl rfl rfl hI2 (by omega) (by omega) (zv_wa hw rfl k) (fun g27a g27b => ?_)
        refine zr_is (cj := 157) (q' := zp_m157) (As := [.int (zI (zv_a h 55 (14 * place + k))), .int (zI (zv_a h 62 k))]) (rest := [.int (zI (k)), .ref 63]) (pc := 129) rfl rfl rfl rfl rfl rfl (Nat.le_of_ble_eq_true rfl) rfl (Nat.le_of_ble_eq_true rfl) rfl ((zm_joined (h := h2) hI2 (a := zv_a h 55 (14 * place + k)) (b := zv_a h 62 k) (by omega) (by omega) (by omega) (by omega)).up (Nat.le_of_ble_eq_true rfl)) ?_
        rintro r28 h31 ⟨h31q, v29, r28q, x30⟩
        subst h31q r28q
        try dsimp only at x30
        show zx_T zp_P 2 zp_m174 132 [(0, .ref 44), (1, .int (zI (place))), (2, .ref 62), (3, .int (zI (many))), (4, .int (zI (14 * place))), (5, .int (zI (k)))] [.int (zI (v29)), .int (zI (k)), .ref 63] h2 _
        refine zr_as (n := 14) (lo := 0) (hi := 8) (e := v29) (pc := 132) rfl rfl rfl rfl hI2 (by omega) (by omega) (by omega) (by omega) (fun h32 ih32 w33 s34 => ?_)
        refine zr_inc (x := k) (n := 1) (y := k + 1) (ls' := [(5, .int (zI (k + 1))), (0, .ref 44), (1, .int (zI (place))), (2, .ref 62), (3, .int (zI (many))), (4, .int (zI (14 * place)))]) (pc := 133) rfl rfl rfl (by omega) rfl ?_
        refine zx_T.j (i := .goto (-36)) (k := 3) (pc' := 100) (st' := []) (pc := 136) rfl rfl rfl rfl rfl ?_
        have a63 : ∀ j, 0 ≤ j → zv_a h32 63 j = if j = k then v29 else zv_a h2 63 j := fun j hj => by rw [s34 j hj]
        refine zx_T.lk (ls' := [(0, .ref 44), (1, .int (zI (place))), (2, .ref 62), (3, .int (zI (many))), (4, .int (zI (14 * place))), (5, .int (zI (k + 1)))]) rfl ⟨rfl, rfl, rfl, rfl, rfl, rfl, trivial⟩ ?_
        exact ih.2.1 (h2 := h32) (k := k + 1) ih32 (by omega) (by omega) (by omega) (by omega) (by omega) ((hw.wd rfl : zb_W [(63, 0)] h _).tr (w33.wd rfl)) (fun j j0 j1 => by first | omega | (have b9 := a63 j j0; split at b9 <;> first | (have b8 := bo j j0 (by omega); rw [b9]; exact b8) | (next e9 => subst e9; rw [b9]; exact ⟨by first | omega | omega, fun z => by subst z; have ki := hk place (by omega) (by omega); omega⟩))) (by omega)
    · intro h2 k hI2 k1 k2 q1 q2 re hw bo kd kk kl c1 c2 k8 hm
      have hC := zv_ri hI (k := 1) rfl
      refine zx_T.l (i := .iload 5) (k := 2) (v := .int (zI (k))) (pc := 162) rfl rfl rfl ?_
      refine zx_T.s (i := .bipush 8) (k := 2) (st' := [.int (zI (8)), .int (zI (k))]) (pc := 164) rfl rfl ?_
      refine zx_T.l (i := .iload_n 3) (k := 1) (v := .int (zI (many))) (pc := 166) rfl rfl rfl ?_
      refine zr_add (x := 8) (y := many) (e := many + 8) (pc := 167) rfl (by omega) ?_
      refine zr_i2 (x := k) (y := many + 8) (t := 230) (pc := 168) rfl rfl (by omega) (by omega) (by omega) (by omega) (fun (c36 : (many + 8) ≤ k) => ?_) (fun (c36 : ¬ ((many + 8) ≤ k)) => ?_)
      · refine zx_T.s (i := .iconst 0) (k := 1) (st' := [.int (zI (0))]) (pc := 230) rfl rfl ?_
        exact zr_ir (x := 0) (pc := 231) rfl rfl rfl ⟨hI2, (hw.wd rfl : zb_W [(54, 0), (44, 27), (56, 0), (55, 0), (63, 0)] h _), _, rfl, by dsimp only; exact ⟨zg_J.od q1 (by omega) (fun q => zv_wa hw rfl q) kd re kk c1 c2 hk k8, by omega, by omega, fun z => ⟨q1, q2, by rw [zv_wa hw rfl]; exact re⟩⟩⟩
      · refine zx_T.l (i := .aload_n 0) (k := 1) (v := .ref 44) (pc := 171) rfl rfl rfl ?_
        refine zx_T.l (i := .aload_n 0) (k := 1) (v := .ref 44) (pc := 172) rfl rfl rfl ?_
        refine zr_gi (k := 27) (lo := 0) (hi := 1) (e := zv_i h2 27) (pc := 173) rfl rfl rfl hI2 rfl (fun g37a g37b => ?_)
        refine zr_i1 (x := zv_i h2 27) (t := 199) (pc := 176) rfl rfl (by omega) (by omega) (fun (c38 : ¬ (zv_i h2 27) = 0) => ?_) (fun (c38 : ¬ (¬ (zv_i h2 27) = 0)) => ?_)
        · refine zx_T.s (i := .iconst 1) (k := 1) (st' := [.int (zI (1)), .ref 44]) (pc := 199) rfl rfl ?_
          refine zx_T.j (i := .goto 4) (k := 3) (pc' := 204) (st' := [.int (zI (1)), .ref 44]) (pc := 200) rfl rfl rfl rfl rfl ?_
          refine zr_pi (k := 27) (lo := 0) (hi := 1) (e := 1) (pc := 204) rfl rfl rfl rfl rfl rfl hI2 (by omega) (by omega) (fun h39 ih39 w40 e41 => ?_)
          refine zx_T.l (i := .aload_n 0) (k := 1) (v := .ref 44) (pc := 207) rfl rfl rfl ?_
          refine zr_gr (k := 17) (b := 55) (pc := 208) rfl rfl rfl ih39 ?_
          refine zx_T.l (i := .iload 4) (k := 2) (v := .int (zI (14 * place))) (pc := 211) rfl rfl rfl ?_
          refine zx_T.l (i := .iload 5) (k := 2) (v := .int (zI (k))) (pc := 213) rfl rfl rfl ?_
          refine zr_add (x := 14 * place) (y := k) (e := 14 * place + k) (pc := 215) rfl (by omega) ?_
          refine zx_T.l (i := .aload_n 0) (k := 1) (v := .ref 44) (pc := 216) rfl rfl rfl ?_
          refine zr_gr (k := 29) (b := 63) (pc := 217) rfl rfl rfl ih39 ?_
          refine zx_T.l (i := .iload 5) (k := 2) (v := .int (zI (k))) (pc := 220) rfl rfl rfl ?_
          refine zr_al (n := 14) (lo := 0) (hi := 8) (e := zv_a h2 63 k) (pc := 222) rfl rfl rfl ih39 (by omega) (by omega) (zv_wa w40 rfl k) (fun g42a g42b => ?_)
          refine zr_as (n := 840) (lo := 0) (hi := 8) (e := zv_a h2 63 k) (pc := 223) rfl rfl rfl rfl ih39 (by omega) (by omega) (by omega) (by omega) (fun h43 ih43 w44 s45 => ?_)
          refine zr_inc (x := k) (n := 1) (y := k + 1) (ls' := [(5, .int (zI (k + 1))), (0, .ref 44), (1, .int (zI (place))), (2, .ref 62), (3, .int (zI (many))), (4, .int (zI (14 * place)))]) (pc := 224) rfl rfl rfl (by omega) rfl ?_
          refine zx_T.j (i := .goto (-65)) (k := 3) (pc' := 162) (st' := []) (pc := 227) rfl rfl rfl rfl rfl ?_
          have a63 : ∀ j, 0 ≤ j → zv_a h43 63 j = zv_a h2 63 j := fun j hj => by rw [zv_wa w44 rfl j, zv_wa w40 rfl j]
          have a55 : ∀ j, 0 ≤ j → zv_a h43 55 j = if j = 14 * place + k then zv_a h2 63 k else zv_a h2 55 j := fun j hj => by rw [s45 j hj, zv_wa w40 rfl j]
          have y48 : zv_i h43 27 = 1 := ((zv_wi w44 rfl).trans e41)
          refine zx_T.lk (ls' := [(0, .ref 44), (1, .int (zI (place))), (2, .ref 62), (3, .int (zI (many))), (4, .int (zI (14 * place))), (5, .int (zI (k + 1)))]) rfl ⟨rfl, rfl, rfl, rfl, rfl, rfl, trivial⟩ ?_
          exact ih.2.2 (h2 := h43) (k := k + 1) ih43 (by omega) (by omega) (by omega) (by omega) (by omega) (((hw.wd rfl : zb_W [(63, 0), (55, 0), (44, 27)] h _).tr (w40.wd rfl)).tr (w44.wd rfl)) (fun j j0 j1 => by first | (rw [a63 j j0]; exact bo j j0 j1) | (have b1 := wj1 j j0; have b2 := wj2 j j0; have b3 := bo j j0 (by omega); exact ⟨zg_wz b2.1 (zg_wz b1.1 b3.1), fun z => by have b4 := b3.2 z; omega⟩)) (by first | exact (zg_js q1 k1 (by omega) a55 (bo k k1 (by omega)) kd kk kl k8).1 | exact fun q q0 _ => a55 q q0) (by first | exact (zg_js q1 k1 (by omega) a55 (bo k k1 (by omega)) kd kk kl k8).2.1 | exact fun j j0 _ => Or.inl (a55 _ (by omega))) (by first | exact (zg_js q1 k1 (by omega) a55 (bo k k1 (by omega)) kd kk kl k8).2.2.1 | exact fun j j0 _ => a55 _ (by omega)) (by intro z; first | (exact absurd z (by omega)) | (exact Or.inl (by omega)) | (by_cases z9 : zv_i h2 27 = 1; rcases c1 z9 with z1 | ⟨j, j0, j1, hj⟩; exact Or.inl z1; exact Or.inr ⟨j, j0, j1, (zg_js q1 k1 (by omega) a55 (bo k k1 (by omega)) kd kk kl k8).2.2.2.2.1 j j0 j1 hj⟩; exact Or.inr ⟨k, k1, by omega, (zg_js q1 k1 (by omega) a55 (bo k k1 (by omega)) kd kk kl k8).2.2.2.2.2 (by omega)⟩)) (by omega) (by first | exact (zg_js q1 k1 (by omega) a55 (bo k k1 (by omega)) kd kk kl k8).2.2.2.1 | (rw [a55 _ (by omega)]; exact hk place (by omega) (by omega))) (by omega)
        · refine zx_T.l (i := .aload_n 0) (k := 1) (v := .ref 44) (pc := 179) rfl rfl rfl ?_
          refine zr_gr (k := 17) (b := 55) (pc := 180) rfl rfl rfl hI2 ?_
          refine zx_T.l (i := .iload 4) (k := 2) (v := .int (zI (14 * place))) (pc := 183) rfl rfl rfl ?_
          refine zx_T.l (i := .iload 5) (k := 2) (v := .int (zI (k))) (pc := 185) rfl rfl rfl ?_
          refine zr_add (x := 14 * place) (y := k) (e := 14 * place + k) (pc := 187) rfl (by omega) ?_
          refine zr_al (n := 840) (lo := 0) (hi := 8) (e := zv_a h2 55 (14 * place + k)) (pc := 188) rfl rfl rfl hI2 (by omega) (by omega) rfl (fun g49a g49b => ?_)
          refine zx_T.l (i := .aload_n 0) (k := 1) (v := .ref 44) (pc := 189) rfl rfl rfl ?_
          refine zr_gr (k := 29) (b := 63) (pc := 190) rfl rfl rfl hI2 ?_
          refine zx_T.l (i := .iload 5) (k := 2) (v := .int (zI (k))) (pc := 193) rfl rfl rfl ?_
          refine zr_al (n := 14) (lo := 0) (hi := 8) (e := zv_a h2 63 k) (pc := 195) rfl rfl rfl hI2 (by omega) (by omega) rfl (fun g50a g50b => ?_)
          refine zr_i2 (x := zv_a h2 55 (14 * place + k)) (y := zv_a h2 63 k) (t := 203) (pc := 196) rfl rfl (by omega) (by omega) (by omega) (by omega) (fun (c51 : (zv_a h2 55 (14 * place + k)) = (zv_a h2 63 k)) => ?_) (fun (c51 : ¬ ((zv_a h2 55 (14 * place + k)) = (zv_a h2 63 k))) => ?_)
          · refine zx_T.s (i := .iconst 0) (k := 1) (st' := [.int (zI (0)), .ref 44]) (pc := 203) rfl rfl ?_
            refine zr_pi (k := 27) (lo := 0) (hi := 1) (e := 0) (pc := 204) rfl rfl rfl rfl rfl rfl hI2 (by omega) (by omega) (fun h52 ih52 w53 e54 => ?_)
            refine zx_T.l (i := .aload_n 0) (k := 1) (v := .ref 44) (pc := 207) rfl rfl rfl ?_
            refine zr_gr (k := 17) (b := 55) (pc := 208) rfl rfl rfl ih52 ?_
            refine zx_T.l (i := .iload 4) (k := 2) (v := .int (zI (14 * place))) (pc := 211) rfl rfl rfl ?_
            refine zx_T.l (i := .iload 5) (k := 2) (v := .int (zI (k))) (pc := 213) rfl rfl rfl ?_
            refine zr_add (x := 14 * place) (y := k) (e := 14 * place + k) (pc := 215) rfl (by omega) ?_
            refine zx_T.l (i := .aload_n 0) (k := 1) (v := .ref 44) (pc := 216) rfl rfl rfl ?_
            refine zr_gr (k := 29) (b := 63) (pc := 217) rfl rfl rfl ih52 ?_
            refine zx_T.l (i := .iload 5) (k := 2) (v := .int (zI (k))) (pc := 220) rfl rfl rfl ?_
            refine zr_al (n := 14) (lo := 0) (hi := 8) (e := zv_a h2 63 k) (pc := 222) rfl rfl rfl ih52 (by omega) (by omega) (zv_wa w53 rfl k) (fun g55a g55b => ?_)
            refine zr_as (n := 840) (lo := 0) (hi := 8) (e := zv_a h2 63 k) (pc := 223) rfl rfl rfl rfl ih52 (by omega) (by omega) (by omega) (by omega) (fun h56 ih56 w57 s58 => ?_)
            refine zr_inc (x := k) (n := 1) (y := k + 1) (ls' := [(5, .int (zI (k + 1))), (0, .ref 44), (1, .int (zI (place))), (2, .ref 62), (3, .int (zI (many))), (4, .int (zI (14 * place)))]) (pc := 224) rfl rfl rfl (by omega) rfl ?_
            refine zx_T.j (i := .goto (-65)) (k := 3) (pc' := 162) (st' := []) (pc := 227) rfl rfl rfl rfl rfl ?_
            have a63 : ∀ j, 0 ≤ j → zv_a h56 63 j = zv_a h2 63 j := fun j hj => by rw [zv_wa w57 rfl j, zv_wa w53 rfl j]
            have a55 : ∀ j, 0 ≤ j → zv_a h56 55 j = if j = 14 * place + k then zv_a h2 63 k else zv_a h2 55 j := fun j hj => by rw [s58 j hj, zv_wa w53 rfl j]
            have y61 : zv_i h56 27 = 0 := ((zv_wi w57 rfl).trans e54)
            refine zx_T.lk (ls' := [(0, .ref 44), (1, .int (zI (place))), (2, .ref 62), (3, .int (zI (many))), (4, .int (zI (14 * place))), (5, .int (zI (k + 1)))]) rfl ⟨rfl, rfl, rfl, rfl, rfl, rfl, trivial⟩ ?_
            exact ih.2.2 (h2 := h56) (k := k + 1) ih56 (by omega) (by omega) (by omega) (by omega) (by omega) (((hw.wd rfl : zb_W [(63, 0), (55, 0), (44, 27)] h _).tr (w53.wd rfl)).tr (w57.wd rfl)) (fun j j0 j1 => by first | (rw [a63 j j0]; exact bo j j0 j1) | (have b1 := wj1 j j0; have b2 := wj2 j j0; have b3 := bo j j0 (by omega); exact ⟨zg_wz b2.1 (zg_wz b1.1 b3.1), fun z => by have b4 := b3.2 z; omega⟩)) (by first | exact (zg_js q1 k1 (by omega) a55 (bo k k1 (by omega)) kd kk kl k8).1 | exact fun q q0 _ => a55 q q0) (by first | exact (zg_js q1 k1 (by omega) a55 (bo k k1 (by omega)) kd kk kl k8).2.1 | exact fun j j0 _ => Or.inl (a55 _ (by omega))) (by first | exact (zg_js q1 k1 (by omega) a55 (bo k k1 (by omega)) kd kk kl k8).2.2.1 | exact fun j j0 _ => a55 _ (by omega)) (by intro z; first | (exact absurd z (by omega)) | (exact Or.inl (by omega)) | (by_cases z9 : zv_i h2 27 = 1; rcases c1 z9 with z1 | ⟨j, j0, j1, hj⟩; exact Or.inl z1; exact Or.inr ⟨j, j0, j1, (zg_js q1 k1 (by omega) a55 (bo k k1 (by omega)) kd kk kl k8).2.2.2.2.1 j j0 j1 hj⟩; exact Or.inr ⟨k, k1, by omega, (zg_js q1 k1 (by omega) a55 (bo k k1 (by omega)) kd kk kl k8).2.2.2.2.2 (by omega)⟩)) (by omega) (by first | exact (zg_js q1 k1 (by omega) a55 (bo k k1 (by omega)) kd kk kl k8).2.2.2.1 | (rw [a55 _ (by omega)]; exact hk place (by omega) (by omega))) (by omega)
          · refine zx_T.s (i := .iconst 1) (k := 1) (st' := [.int (zI (1)), .ref 44]) (pc := 199) rfl rfl ?_
            refine zx_T.j (i := .goto 4) (k := 3) (pc' := 204) (st' := [.int (zI (1)), .ref 44]) (pc := 200) rfl rfl rfl rfl rfl ?_
            refine zr_pi (k := 27) (lo := 0) (hi := 1) (e := 1) (pc := 204) rfl rfl rfl rfl rfl rfl hI2 (by omega) (by omega) (fun h62 ih62 w63 e64 => ?_)
            refine zx_T.l (i := .aload_n 0) (k := 1) (v := .ref 44) (pc := 207) rfl rfl rfl ?_
            refine zr_gr (k := 17) (b := 55) (pc := 208) rfl rfl rfl ih62 ?_
            refine zx_T.l (i := .iload 4) (k := 2) (v := .int (zI (14 * place))) (pc := 211) rfl rfl rfl ?_
            refine zx_T.l (i := .iload 5) (k := 2) (v := .int (zI (k))) (pc := 213) rfl rfl rfl ?_
            refine zr_add (x := 14 * place) (y := k) (e := 14 * place + k) (pc := 215) rfl (by omega) ?_
            refine zx_T.l (i := .aload_n 0) (k := 1) (v := .ref 44) (pc := 216) rfl rfl rfl ?_
            refine zr_gr (k := 29) (b := 63) (pc := 217) rfl rfl rfl ih62 ?_
            refine zx_T.l (i := .iload 5) (k := 2) (v := .int (zI (k))) (pc := 220) rfl rfl rfl ?_
            refine zr_al (n := 14) (lo := 0) (hi := 8) (e := zv_a h2 63 k) (pc := 222) rfl rfl rfl ih62 (by omega) (by omega) (zv_wa w63 rfl k) (fun g65a g65b => ?_)
            refine zr_as (n := 840) (lo := 0) (hi := 8) (e := zv_a h2 63 k) (pc := 223) rfl rfl rfl rfl ih62 (by omega) (by omega) (by omega) (by omega) (fun h66 ih66 w67 s68 => ?_)
            refine zr_inc (x := k) (n := 1) (y := k + 1) (ls' := [(5, .int (zI (k + 1))), (0, .ref 44), (1, .int (zI (place))), (2, .ref 62), (3, .int (zI (many))), (4, .int (zI (14 * place)))]) (pc := 224) rfl rfl rfl (by omega) rfl ?_
            refine zx_T.j (i := .goto (-65)) (k := 3) (pc' := 162) (st' := []) (pc := 227) rfl rfl rfl rfl rfl ?_
            have a63 : ∀ j, 0 ≤ j → zv_a h66 63 j = zv_a h2 63 j := fun j hj => by rw [zv_wa w67 rfl j, zv_wa w63 rfl j]
            have a55 : ∀ j, 0 ≤ j → zv_a h66 55 j = if j = 14 * place + k then zv_a h2 63 k else zv_a h2 55 j := fun j hj => by rw [s68 j hj, zv_wa w63 rfl j]
            have y71 : zv_i h66 27 = 1 := ((zv_wi w67 rfl).trans e64)
            refine zx_T.lk (ls' := [(0, .ref 44), (1, .int (zI (place))), (2, .ref 62), (3, .int (zI (many))), (4, .int (zI (14 * place))), (5, .int (zI (k + 1)))]) rfl ⟨rfl, rfl, rfl, rfl, rfl, rfl, trivial⟩ ?_
            exact ih.2.2 (h2 := h66) (k := k + 1) ih66 (by omega) (by omega) (by omega) (by omega) (by omega) (((hw.wd rfl : zb_W [(63, 0), (55, 0), (44, 27)] h _).tr (w63.wd rfl)).tr (w67.wd rfl)) (fun j j0 j1 => by first | (rw [a63 j j0]; exact bo j j0 j1) | (have b1 := wj1 j j0; have b2 := wj2 j j0; have b3 := bo j j0 (by omega); exact ⟨zg_wz b2.1 (zg_wz b1.1 b3.1), fun z => by have b4 := b3.2 z; omega⟩)) (by first | exact (zg_js q1 k1 (by omega) a55 (bo k k1 (by omega)) kd kk kl k8).1 | exact fun q q0 _ => a55 q q0) (by first | exact (zg_js q1 k1 (by omega) a55 (bo k k1 (by omega)) kd kk kl k8).2.1 | exact fun j j0 _ => Or.inl (a55 _ (by omega))) (by first | exact (zg_js q1 k1 (by omega) a55 (bo k k1 (by omega)) kd kk kl k8).2.2.1 | exact fun j j0 _ => a55 _ (by omega)) (by intro z; first | (exact absurd z (by omega)) | (exact Or.inl (by omega)) | (by_cases z9 : zv_i h2 27 = 1; rcases c1 z9 with z1 | ⟨j, j0, j1, hj⟩; exact Or.inl z1; exact Or.inr ⟨j, j0, j1, (zg_js q1 k1 (by omega) a55 (bo k k1 (by omega)) kd kk kl k8).2.2.2.2.1 j j0 j1 hj⟩; exact Or.inr ⟨k, k1, by omega, (zg_js q1 k1 (by omega) a55 (bo k k1 (by omega)) kd kk kl k8).2.2.2.2.2 (by omega)⟩)) (by omega) (by first | exact (zg_js q1 k1 (by omega) a55 (bo k k1 (by omega)) kd kk kl k8).2.2.2.1 | (rw [a55 _ (by omega)]; exact hk place (by omega) (by omega))) (by omega)
set_option maxRecDepth 100000 in
set_option maxHeartbeats 4000000 in
theorem zm_join_62 {h : zx_H} (hI : zb_I zc_H h) {place : Int} {many : Int} (place1 : -2147483648 ≤ place) (place2 : place ≤ 2147483647) (many1 : 0 ≤ many) (many2 : many ≤ 6) (hk : zg_KI h) (r8 : ¬ zv_a h 62 8 = 3) : zx_T zp_P 2 zp_m174 0 [(0, .ref 44), (1, .int (zI (place))), (2, .ref 62), (3, .int (zI (many)))] [] h (zr_R [(54, 0), (44, 27), (56, 0), (55, 0), (63, 0)] h (fun e h' => zg_J h h' ∧ 0 ≤ e ∧ e ≤ 7 ∧ (e = 0 → 0 ≤ place ∧ place < zv_i h 1 ∧ zv_a h' 54 place = 1))) := by
  have hC := zv_ri hI (k := 1) rfl
  refine zx_T.l (i := .iload_n 1) (k := 1) (v := .int (zI (place))) (pc := 0) rfl rfl rfl ?_
  refine zx_T.s (i := .iconst 0) (k := 1) (st' := [.int (zI (0)), .int (zI (place))]) (pc := 1) rfl rfl ?_
  refine zx_T.l (i := .aload_n 0) (k := 1) (v := .ref 44) (pc := 2) rfl rfl rfl ?_
  refine zr_gi (k := 1) (lo := 0) (hi := 60) (e := zv_i h 1) (pc := 3) rfl rfl rfl hI rfl (fun g72a g72b => ?_)
  refine zx_T.s (i := .iconst 1) (k := 1) (st' := [.int (zI (1)), .int (zI (zv_i h 1)), .int (zI (0)), .int (zI (place))]) (pc := 6) rfl rfl ?_
  refine zr_sub (x := zv_i h 1) (y := 1) (e := zv_i h 1 - 1) (pc := 7) rfl (by omega) ?_
  refine zr_is (cj := 155) (q' := zp_m155) (As := [.int (zI (place)), .int (zI (0)), .int (zI (zv_i h 1 - 1))]) (rest := []) (pc := 8) rfl rfl rfl rfl rfl rfl (Nat.le_of_ble_eq_true rfl) rfl (Nat.le_of_ble_eq_true rfl) rfl ((zm_in (h := h) hI (v := place) (l := 0) (u := zv_i h 1 - 1) (by omega) (by omega) (by omega) (by omega) (by omega) (by omega)).up (Nat.le_of_ble_eq_true rfl)) ?_
  rintro r73 h76 ⟨h76q, v74, r73q, x75⟩
  subst h76q r73q
  try dsimp only at x75
  show zx_T zp_P 2 zp_m174 11 [(0, .ref 44), (1, .int (zI (place))), (2, .ref 62), (3, .int (zI (many)))] [.int (zI (v74))] h _
  refine zr_i1 (x := v74) (t := 17) (pc := 11) rfl rfl (by omega) (by omega) (fun (c77 : ¬ v74 = 0) => ?_) (fun (c77 : ¬ (¬ v74 = 0)) => ?_)
  · refine zx_T.s (i := .bipush 14) (k := 2) (st' := [.int (zI (14))]) (pc := 17) rfl rfl ?_
    refine zx_T.l (i := .iload_n 1) (k := 1) (v := .int (zI (place))) (pc := 19) rfl rfl rfl ?_
    refine zr_mul (x := 14) (y := place) (e := 14 * place) (pc := 20) rfl (by omega) ?_
    refine zx_T.t (i := .istore 4) (k := 2) (ls' := [(4, .int (zI (14 * place))), (0, .ref 44), (1, .int (zI (place))), (2, .ref 62), (3, .int (zI (many)))]) (st' := []) (pc := 21) rfl rfl rfl rfl ?_
    refine zx_T.l (i := .aload_n 0) (k := 1) (v := .ref 44) (pc := 23) rfl rfl rfl ?_
    refine zr_gr (k := 16) (b := 54) (pc := 24) rfl rfl rfl hI ?_
    refine zx_T.l (i := .iload_n 1) (k := 1) (v := .int (zI (place))) (pc := 27) rfl rfl rfl ?_
    refine zr_bl (n := 60) (lo := 0) (hi := 1) (e := zv_a h 54 place) (pc := 28) rfl rfl rfl hI (by omega) (by omega) rfl (fun g78a g78b => ?_)
    refine zr_i1 (x := zv_a h 54 place) (t := 85) (pc := 29) rfl rfl (by omega) (by omega) (fun (c79 : ¬ (zv_a h 54 place) = 0) => ?_) (fun (c79 : ¬ (¬ (zv_a h 54 place) = 0)) => ?_)
    · refine zx_T.l (i := .aload_n 0) (k := 1) (v := .ref 44) (pc := 85) rfl rfl rfl ?_
      refine zr_gr (k := 18) (b := 56) (pc := 86) rfl rfl rfl hI ?_
      refine zx_T.l (i := .iload_n 1) (k := 1) (v := .int (zI (place))) (pc := 89) rfl rfl rfl ?_
      refine zr_al (n := 60) (lo := 0) (hi := 6) (e := zv_a h 56 place) (pc := 90) rfl rfl rfl hI (by omega) (by omega) rfl (fun g80a g80b => ?_)
      refine zx_T.l (i := .iload_n 3) (k := 1) (v := .int (zI (many))) (pc := 91) rfl rfl rfl ?_
      refine zr_i2 (x := zv_a h 56 place) (y := many) (t := 97) (pc := 92) rfl rfl (by omega) (by omega) (by omega) (by omega) (fun (c81 : (zv_a h 56 place) = many) => ?_) (fun (c81 : ¬ ((zv_a h 56 place) = many)) => ?_)
      · refine zx_T.s (i := .iconst 0) (k := 1) (st' := [.int (zI (0))]) (pc := 97) rfl rfl ?_
        refine zx_T.t (i := .istore 5) (k := 2) (ls' := [(5, .int (zI (0))), (4, .int (zI (14 * place))), (0, .ref 44), (1, .int (zI (place))), (2, .ref 62), (3, .int (zI (many)))]) (st' := []) (pc := 98) rfl rfl rfl rfl ?_
        refine zx_T.lk (ls' := [(0, .ref 44), (1, .int (zI (place))), (2, .ref 62), (3, .int (zI (many))), (4, .int (zI (14 * place))), (5, .int (zI (0)))]) rfl ⟨rfl, rfl, rfl, rfl, rfl, rfl, trivial⟩ ?_
        exact (zm_join_62_L (h := h) hI (place := place) (many := many) place1 place2 many1 many2 hk r8 ((many + 108 - 0 : Int).toNat + 1)).2.1 (h2 := h) (k := 0) hI (by omega) (by omega) (by omega) (by omega) (by omega) zb_W.rf (fun j j0 j1 => by first | omega | (have b9 := a63 j j0; split at b9 <;> first | (have b8 := bo j j0 (by omega); rw [b9]; exact b8) | (next e9 => subst e9; rw [b9]; exact ⟨by first | omega | omega, fun z => by subst z; have ki := hk place (by omega) (by omega); omega⟩))) (Nat.lt_succ_self _)
      · refine zx_T.s (i := .iconst 5) (k := 1) (st' := [.int (zI (5))]) (pc := 95) rfl rfl ?_
        exact zr_ir (x := 5) (pc := 96) rfl rfl rfl ⟨hI, zb_W.rf, _, rfl, by dsimp only; exact ⟨zg_J.fr hk (zb_W.rf (W := [])) rfl rfl rfl, by omega, by omega, fun z => absurd z (by omega)⟩⟩
    · refine zx_T.l (i := .aload_n 0) (k := 1) (v := .ref 44) (pc := 32) rfl rfl rfl ?_
      refine zr_gr (k := 16) (b := 54) (pc := 33) rfl rfl rfl hI ?_
      refine zx_T.l (i := .iload_n 1) (k := 1) (v := .int (zI (place))) (pc := 36) rfl rfl rfl ?_
      refine zx_T.s (i := .iconst 1) (k := 1) (st' := [.int (zI (1)), .int (zI (place)), .ref 54]) (pc := 37) rfl rfl ?_
      refine zr_bs (n := 60) (e := 1) (pc := 38) rfl rfl rfl hI (by omega) (by omega) (by omega) (by omega) (fun h83 ih83 w84 s85 => ?_)
      refine zx_T.l (i := .aload_n 0) (k := 1) (v := .ref 44) (pc := 39) rfl rfl rfl ?_
      refine zx_T.s (i := .iconst 1) (k := 1) (st' := [.int (zI (1)), .ref 44]) (pc := 40) rfl rfl ?_
      refine zr_pi (k := 27) (lo := 0) (hi := 1) (e := 1) (pc := 41) rfl rfl rfl rfl rfl rfl ih83 (by omega) (by omega) (fun h86 ih86 w87 e88 => ?_)
      refine zx_T.l (i := .aload_n 0) (k := 1) (v := .ref 44) (pc := 44) rfl rfl rfl ?_
      refine zr_gr (k := 18) (b := 56) (pc := 45) rfl rfl rfl ih86 ?_
      refine zx_T.l (i := .iload_n 1) (k := 1) (v := .int (zI (place))) (pc := 48) rfl rfl rfl ?_
      refine zx_T.l (i := .iload_n 3) (k := 1) (v := .int (zI (many))) (pc := 49) rfl rfl rfl ?_
      refine zr_as (n := 60) (lo := 0) (hi := 6) (e := many) (pc := 50) rfl rfl rfl rfl ih86 (by omega) (by omega) (by omega) (by omega) (fun h89 ih89 w90 s91 => ?_)
      refine zx_T.s (i := .iconst 0) (k := 1) (st' := [.int (zI (0))]) (pc := 51) rfl rfl ?_
      refine zx_T.t (i := .istore 5) (k := 2) (ls' := [(5, .int (zI (0))), (4, .int (zI (14 * place))), (0, .ref 44), (1, .int (zI (place))), (2, .ref 62), (3, .int (zI (many)))]) (st' := []) (pc := 52) rfl rfl rfl rfl ?_
      have a54 : ∀ j, 0 ≤ j → zv_a h89 54 j = if j = place then 1 else zv_a h 54 j := fun j hj => by rw [zv_wa w90 rfl j, zv_wa w87 rfl j, s85 j hj]
      have a55 : ∀ j, 0 ≤ j → zv_a h89 55 j = zv_a h 55 j := fun j hj => by rw [zv_wa w90 rfl j, zv_wa w87 rfl j, zv_wa w84 rfl j]
      have y94 : zv_i h89 27 = 1 := ((zv_wi w90 rfl).trans e88)
      have y95 : zv_a h89 54 place = 1 := ((zv_wa w90 rfl place).trans ((zv_wa w87 rfl place).trans ((s85 place (by omega)).trans (if_pos rfl))))
      refine zx_T.lk (ls' := [(0, .ref 44), (1, .int (zI (place))), (2, .ref 62), (3, .int (zI (many))), (4, .int (zI (14 * place))), (5, .int (zI (0)))]) rfl ⟨rfl, rfl, rfl, rfl, rfl, rfl, trivial⟩ ?_
      exact (zm_join_62_L (h := h) hI (place := place) (many := many) place1 place2 many1 many2 hk r8 ((many + 8 - 0 : Int).toNat + 1)).1 (h2 := h89) (k := 0) ih89 (by omega) (by omega) (by omega) (by omega) (by omega) (((w84.wd rfl : zb_W [(54, 0), (44, 27), (56, 0), (55, 0), (63, 0)] h _).tr (w87.wd rfl)).tr (w90.wd rfl)) (by first | omega | (have b9 := a54 place (by omega); split at b9 <;> omega)) (fun q q0 q1 => by have b9 := a54 q q0; first | (have b8 := r2 q q0 q1; omega) | (split at b9 <;> omega)) (by omega) (fun q q0 q1 => by first | omega | (have b9 := a55 q q0; first | omega | (split at b9 <;> first | omega | (have b8 := kd q q0 q1; omega)))) (by have b9 := a55 (14 * place + 8) (by omega); have ki := hk place (by omega) (by omega); first | omega | (split at b9 <;> first | omega | (next e9 => have e8 : k = 8 := (by omega); subst e8; omega))) (Nat.lt_succ_self _)
  · refine zx_T.s (i := .bipush 7) (k := 2) (st' := [.int (zI (7))]) (pc := 14) rfl rfl ?_
    exact zr_ir (x := 7) (pc := 16) rfl rfl rfl ⟨hI, zb_W.rf, _, rfl, by dsimp only; exact ⟨zg_J.fr hk (zb_W.rf (W := [])) rfl rfl rfl, by omega, by omega, fun z => absurd z (by omega)⟩⟩
