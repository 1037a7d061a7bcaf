/-! ===== 88: the reference, method by method (by program) ===== -/
set_option maxRecDepth 100000 in
set_option maxHeartbeats 4000000 in
theorem zm_joinedF {h : zx_H} (hI : zb_I zc_H h) {a : Int} {b : Int} (a1 : 0 ≤ a) (a2 : a ≤ 8) (b1 : 0 ≤ b) (b2 : b ≤ 8) : zx_T zp_P 1 zp_m157 0 [(0, .int (zI (a))), (1, .int (zI (b)))] [] h (zr_P h (fun e => e = zs_jn a b ∧ 0 ≤ e ∧ e ≤ 8)) := by
  refine zx_T.l (i := .iload_n 0) (k := 1) (v := .int (zI (a))) (pc := 0) rfl rfl rfl ?_
  refine zx_T.l (i := .iload_n 1) (k := 1) (v := .int (zI (b))) (pc := 1) rfl rfl rfl ?_
  refine zr_is (cj := 156) (q' := zp_m156) (As := [.int (zI (a)), .int (zI (b))]) (rest := []) (pc := 2) rfl rfl rfl rfl rfl rfl (Nat.le_of_ble_eq_true rfl) rfl (Nat.le_of_ble_eq_true rfl) rfl ((zm_goesAs (h := h) hI (a := a) (b := b) (by omega) (by omega) (by omega) (by omega)).up (Nat.le_of_ble_eq_true rfl)) ?_
  rintro r1 h4 ⟨h4q, v2, r1q, x3⟩
  subst h4q r1q
  try dsimp only at x3
  show zx_T zp_P 1 zp_m157 5 [(0, .int (zI (a))), (1, .int (zI (b)))] [.int (zI (v2))] h _
  refine zr_i1 (x := v2) (t := 10) (pc := 5) rfl rfl (by omega) (by omega) (fun (c5 : v2 = 0) => ?_) (fun (c5 : ¬ (v2 = 0)) => ?_)
  · refine zx_T.l (i := .iload_n 1) (k := 1) (v := .int (zI (b))) (pc := 10) rfl rfl rfl ?_
    refine zx_T.l (i := .iload_n 0) (k := 1) (v := .int (zI (a))) (pc := 11) rfl rfl rfl ?_
    refine zr_is (cj := 156) (q' := zp_m156) (As := [.int (zI (b)), .int (zI (a))]) (rest := []) (pc := 12) rfl rfl rfl rfl rfl rfl (Nat.le_of_ble_eq_true rfl) rfl (Nat.le_of_ble_eq_true rfl) rfl ((zm_goesAs (h := h) hI (a := b) (b := a) (by omega) (by omega) (by omega) (by omega)).up (Nat.le_of_ble_eq_true rfl)) ?_
    rintro r6 h9 ⟨h9q, v7, r6q, x8⟩
    subst h9q r6q
    try dsimp only at x8
    show zx_T zp_P 1 zp_m157 15 [(0, .int (zI (a))), (1, .int (zI (b)))] [.int (zI (v7))] h _
    refine zr_i1 (x := v7) (t := 20) (pc := 15) rfl rfl (by omega) (by omega) (fun (c10 : v7 = 0) => ?_) (fun (c10 : ¬ (v7 = 0)) => ?_)
    · refine zx_T.l (i := .iload_n 0) (k := 1) (v := .int (zI (a))) (pc := 20) rfl rfl rfl ?_
      refine zx_T.s (i := .iconst 5) (k := 1) (st' := [.int (zI (5)), .int (zI (a))]) (pc := 21) rfl rfl ?_
      refine zr_i2 (x := a) (y := 5) (t := 34) (pc := 22) rfl rfl (by omega) (by omega) (by omega) (by omega) (fun (c11 : a < 5) => ?_) (fun (c11 : ¬ (a < 5)) => ?_)
      · refine zx_T.s (i := .iconst 0) (k := 1) (st' := [.int (zI (0))]) (pc := 34) rfl rfl ?_
        exact zr_ir (x := 0) (pc := 35) rfl rfl rfl ⟨rfl, _, rfl, by dsimp only; first | exact ⟨zj_1 (zj_t x3 c5), by omega, by omega⟩ | exact ⟨zj_2 (zj_f x3 c5) (zj_t x8 c10), by omega, by omega⟩ | exact ⟨zj_3 (zj_f x3 c5) (zj_f x8 c10) (Int.not_lt.mp c11) (Int.not_lt.mp c12), by omega, by omega⟩ | exact ⟨zj_4 (zj_f x3 c5) (zj_f x8 c10) (Or.inl c11), by omega, by omega⟩ | exact ⟨zj_4 (zj_f x3 c5) (zj_f x8 c10) (Or.inr c12), by omega, by omega⟩⟩
      · refine zx_T.l (i := .iload_n 1) (k := 1) (v := .int (zI (b))) (pc := 25) rfl rfl rfl ?_
        refine zx_T.s (i := .iconst 5) (k := 1) (st' := [.int (zI (5)), .int (zI (b))]) (pc := 26) rfl rfl ?_
        refine zr_i2 (x := b) (y := 5) (t := 34) (pc := 27) rfl rfl (by omega) (by omega) (by omega) (by omega) (fun (c12 : b < 5) => ?_) (fun (c12 : ¬ (b < 5)) => ?_)
        · refine zx_T.s (i := .iconst 0) (k := 1) (st' := [.int (zI (0))]) (pc := 34) rfl rfl ?_
          exact zr_ir (x := 0) (pc := 35) rfl rfl rfl ⟨rfl, _, rfl, by dsimp only; first | exact ⟨zj_1 (zj_t x3 c5), by omega, by omega⟩ | exact ⟨zj_2 (zj_f x3 c5) (zj_t x8 c10), by omega, by omega⟩ | exact ⟨zj_3 (zj_f x3 c5) (zj_f x8 c10) (Int.not_lt.mp c11) (Int.not_lt.mp c12), by omega, by omega⟩ | exact ⟨zj_4 (zj_f x3 c5) (zj_f x8 c10) (Or.inl c11), by omega, by omega⟩ | exact ⟨zj_4 (zj_f x3 c5) (zj_f x8 c10) (Or.inr c12), by omega, by omega⟩⟩
        · refine zx_T.s (i := .iconst 5) (k := 1) (st' := [.int (zI (5))]) (pc := 30) rfl rfl ?_
          refine zx_T.j (i := .goto 4) (k := 3) (pc' := 35) (st' := [.int (zI (5))]) (pc := 31) rfl rfl rfl rfl rfl ?_
          exact zr_ir (x := 5) (pc := 35) rfl rfl rfl ⟨rfl, _, rfl, by dsimp only; first | exact ⟨zj_1 (zj_t x3 c5), by omega, by omega⟩ | exact ⟨zj_2 (zj_f x3 c5) (zj_t x8 c10), by omega, by omega⟩ | exact ⟨zj_3 (zj_f x3 c5) (zj_f x8 c10) (Int.not_lt.mp c11) (Int.not_lt.mp c12), by omega, by omega⟩ | exact ⟨zj_4 (zj_f x3 c5) (zj_f x8 c10) (Or.inl c11), by omega, by omega⟩ | exact ⟨zj_4 (zj_f x3 c5) (zj_f x8 c10) (Or.inr c12), by omega, by omega⟩⟩
    · refine zx_T.l (i := .iload_n 0) (k := 1) (v := .int (zI (a))) (pc := 18) rfl rfl rfl ?_
      exact zr_ir (x := a) (pc := 19) rfl rfl rfl ⟨rfl, _, rfl, by dsimp only; first | exact ⟨zj_1 (zj_t x3 c5), by omega, by omega⟩ | exact ⟨zj_2 (zj_f x3 c5) (zj_t x8 c10), by omega, by omega⟩ | exact ⟨zj_3 (zj_f x3 c5) (zj_f x8 c10) (Int.not_lt.mp c11) (Int.not_lt.mp c12), by omega, by omega⟩ | exact ⟨zj_4 (zj_f x3 c5) (zj_f x8 c10) (Or.inl c11), by omega, by omega⟩ | exact ⟨zj_4 (zj_f x3 c5) (zj_f x8 c10) (Or.inr c12), by omega, by omega⟩⟩
  · refine zx_T.l (i := .iload_n 1) (k := 1) (v := .int (zI (b))) (pc := 8) rfl rfl rfl ?_
    exact zr_ir (x := b) (pc := 9) rfl rfl rfl ⟨rfl, _, rfl, by dsimp only; first | exact ⟨zj_1 (zj_t x3 c5), by omega, by omega⟩ | exact ⟨zj_2 (zj_f x3 c5) (zj_t x8 c10), by omega, by omega⟩ | exact ⟨zj_3 (zj_f x3 c5) (zj_f x8 c10) (Int.not_lt.mp c11) (Int.not_lt.mp c12), by omega, by omega⟩ | exact ⟨zj_4 (zj_f x3 c5) (zj_f x8 c10) (Or.inl c11), by omega, by omega⟩ | exact ⟨zj_4 (zj_f x3 c5) (zj_f x8 c10) (Or.inr c12), by omega, by omega⟩⟩

set_option maxRecDepth 100000 in
set_option maxHeartbeats 4000000 in
theorem zm_wholeF_63_L {h : zx_H} (hI : zb_I zc_H h) {f : Int} {m : Int} (f1 : 0 ≤ f) (m1 : 0 ≤ m) (fm : f + m ≤ 14) (n : Nat) : (∀ {h2 : zx_H} {k : Int} (hI2 : zb_I zc_H h2) (k1 : f ≤ k) (k2 : k ≤ f + m) (hw : zb_W [(63, 0)] h h2) (hj : ∀ j, 0 ≤ j → (j < k → zv_a h2 63 j = zs_wh f (f + m) (zv_a h 63) j) ∧ (k ≤ j → zv_a h2 63 j = zv_a h 63 j)) (nb : f < k → ¬ (zv_a h 63 (k - 1) = 2 ∧ zv_a h 63 k = 3) ∨ f + m ≤ k), (f + m - k : Int).toNat < n → zx_T zp_P 0 zp_m158 2 [(0, .ref 63), (1, .int (zI (f))), (2, .int (zI (m))), (3, .int (zI (k)))] [] h2 (zr_V [(63, 0)] h (fun h' => ∀ j, 0 ≤ j → zv_a h' 63 j = zs_wh f (f + m) (zv_a h 63) j))) := by
  induction n with
  | zero => exact fun _ _ _ _ _ _ hm => absurd hm (Nat.not_lt_zero _)
  | succ n ih =>
    intro h2 k hI2 k1 k2 hw hj nb hm
    refine zx_T.l (i := .iload_n 3) (k := 1) (v := .int (zI (k))) (pc := 2) rfl rfl rfl ?_
    refine zx_T.l (i := .iload_n 1) (k := 1) (v := .int (zI (f))) (pc := 3) rfl rfl rfl ?_
    refine zx_T.l (i := .iload_n 2) (k := 1) (v := .int (zI (m))) (pc := 4) rfl rfl rfl ?_
    refine zr_add (x := f) (y := m) (e := f + m) (pc := 5) rfl (by omega) ?_
    refine zr_i2 (x := k) (y := f + m) (t := 70) (pc := 6) rfl rfl (by omega) (by omega) (by omega) (by omega) (fun (c1 : (f + m) ≤ k) => ?_) (fun (c1 : ¬ ((f + m) ≤ k)) => ?_)
    · exact zr_vr (pc := 70) rfl rfl ⟨hI2, (hw.wd rfl : zb_W [(63, 0)] h _), rfl, by dsimp only; exact fun j j0 => by by_cases z : j < k; exact (hj j j0).1 z; rw [(hj j j0).2 (by omega)]; unfold zs_wh; rw [if_pos (Or.inr (by omega))]⟩
    · refine zx_T.l (i := .aload_n 0) (k := 1) (v := .ref 63) (pc := 9) rfl rfl rfl ?_
      refine zx_T.l (i := .iload_n 3) (k := 1) (v := .int (zI (k))) (pc := 10) rfl rfl rfl ?_
      refine zr_al (n := 14) (lo := 0) (hi := 8) (e := zv_a h2 63 k) (pc := 11) rfl rfl rfl hI2 (by omega) (by omega) rfl (fun g2a g2b => ?_)
      refine zx_T.s (i := .iconst 2) (k := 1) (st' := [.int (zI (2)), .int (zI (zv_a h2 63 k))]) (pc := 12) rfl rfl ?_
      refine zr_i2 (x := zv_a h2 63 k) (y := 2) (t := 40) (pc := 13) rfl rfl (by omega) (by omega) (by omega) (by omega) (fun (c3 : ¬ (zv_a h2 63 k) = 2) => ?_) (fun (c3 : ¬ (¬ (zv_a h2 63 k) = 2)) => ?_)
      · refine zx_T.l (i := .aload_n 0) (k := 1) (v := .ref 63) (pc := 40) rfl rfl rfl ?_
        refine zx_T.l (i := .iload_n 3) (k := 1) (v := .int (zI (k))) (pc := 41) rfl rfl rfl ?_
        refine zx_T.l (i := .aload_n 0) (k := 1) (v := .ref 63) (pc := 42) rfl rfl rfl ?_
        refine zx_T.l (i := .iload_n 3) (k := 1) (v := .int (zI (k))) (pc := 43) rfl rfl rfl ?_
        refine zr_al (n := 14) (lo := 0) (hi := 8) (e := zv_a h2 63 k) (pc := 44) rfl rfl rfl hI2 (by omega) (by omega) rfl (fun g4a g4b => ?_)
        refine zx_T.s (i := .iconst 2) (k := 1) (st' := [.int (zI (2)), .int (zI (zv_a h2 63 k)), .int (zI (k)), .ref 63]) (pc := 45) rfl rfl ?_
        refine zr_i2 (x := zv_a h2 63 k) (y := 2) (t := 56) (pc := 46) rfl rfl (by omega) (by omega) (by omega) (by omega) (fun (c5 : (zv_a h2 63 k) = 2) => False.elim (by omega)) (fun (c5 : ¬ ((zv_a h2 63 k) = 2)) => ?_)
        refine zx_T.l (i := .aload_n 0) (k := 1) (v := .ref 63) (pc := 49) rfl rfl rfl ?_
        refine zx_T.l (i := .iload_n 3) (k := 1) (v := .int (zI (k))) (pc := 50) rfl rfl rfl ?_
        refine zr_al (n := 14) (lo := 0) (hi := 8) (e := zv_a h2 63 k) (pc := 51) rfl rfl rfl hI2 (by omega) (by omega) rfl (fun g6a g6b => ?_)
        refine zx_T.s (i := .iconst 3) (k := 1) (st' := [.int (zI (3)), .int (zI (zv_a h2 63 k)), .int (zI (k)), .ref 63]) (pc := 52) rfl rfl ?_
        refine zr_i2 (x := zv_a h2 63 k) (y := 3) (t := 60) (pc := 53) rfl rfl (by omega) (by omega) (by omega) (by omega) (fun (c7 : ¬ (zv_a h2 63 k) = 3) => ?_) (fun (c7 : ¬ (¬ (zv_a h2 63 k) = 3)) => ?_)
        · refine zx_T.l (i := .aload_n 0) (k := 1) (v := .ref 63) (pc := 60) rfl rfl rfl ?_
          refine zx_T.l (i := .iload_n 3) (k := 1) (v := .int (zI (k))) (pc := 61) rfl rfl rfl ?_
          refine zr_al (n := 14) (lo := 0) (hi := 8) (e := zv_a h2 63 k) (pc := 62) rfl rfl rfl hI2 (by omega) (by omega) rfl (fun g8a g8b => ?_)
          refine zr_as (n := 14) (lo := 0) (hi := 8) (e := zv_a h2 63 k) (pc := 63) rfl rfl rfl rfl hI2 (by omega) (by omega) (by omega) (by omega) (fun h9 ih9 w10 s11 => ?_)
          refine zr_inc (x := k) (n := 1) (y := k + 1) (ls' := [(3, .int (zI (k + 1))), (0, .ref 63), (1, .int (zI (f))), (2, .int (zI (m)))]) (pc := 64) rfl rfl rfl (by omega) rfl ?_
          refine zx_T.j (i := .goto (-65)) (k := 3) (pc' := 2) (st' := []) (pc := 67) rfl rfl rfl rfl rfl ?_
          have a63 : ∀ j, 0 ≤ j → zv_a h9 63 j = if j = k then zv_a h2 63 k else zv_a h2 63 j := fun j hj => by rw [s11 j hj]
          refine zx_T.lk (ls' := [(0, .ref 63), (1, .int (zI (f))), (2, .int (zI (m))), (3, .int (zI (k + 1)))]) rfl ⟨rfl, rfl, rfl, rfl, trivial⟩ ?_
          exact ih (h2 := h9) (k := k + 1) ih9 (by omega) (by omega) ((hw.wd rfl : zb_W [(63, 0)] h _).tr (w10.wd rfl)) (zs_wh_s (M' := zv_a h9 63) k1 (by omega) hj f1 (fun z => (nb z).resolve_right (by omega)) (by have b := (hj k (by omega)).2 (by omega); have b2 := (hj (k + 1) (by omega)).2 (by omega); omega) (fun j j0 => by have b := (hj k (by omega)).2 (by omega); rw [a63 j j0]; split <;> first | rfl | (split <;> omega))).1 (zs_wh_s (M' := zv_a h9 63) k1 (by omega) hj f1 (fun z => (nb z).resolve_right (by omega)) (by have b := (hj k (by omega)).2 (by omega); have b2 := (hj (k + 1) (by omega)).2 (by omega); omega) (fun j j0 => by have b := (hj k (by omega)).2 (by omega); rw [a63 j j0]; split <;> first | rfl | (split <;> omega))).2 (by omega)
        · refine zx_T.s (i := .iconst 0) (k := 1) (st' := [.int (zI (0)), .int (zI (k)), .ref 63]) (pc := 56) rfl rfl ?_
          refine zx_T.j (i := .goto 6) (k := 3) (pc' := 63) (st' := [.int (zI (0)), .int (zI (k)), .ref 63]) (pc := 57) rfl rfl rfl rfl rfl ?_
          refine zr_as (n := 14) (lo := 0) (hi := 8) (e := 0) (pc := 63) rfl rfl rfl rfl hI2 (by omega) (by omega) (by omega) (by omega) (fun h13 ih13 w14 s15 => ?_)
          refine zr_inc (x := k) (n := 1) (y := k + 1) (ls' := [(3, .int (zI (k + 1))), (0, .ref 63), (1, .int (zI (f))), (2, .int (zI (m)))]) (pc := 64) rfl rfl rfl (by omega) rfl ?_
          refine zx_T.j (i := .goto (-65)) (k := 3) (pc' := 2) (st' := []) (pc := 67) rfl rfl rfl rfl rfl ?_
          have a63 : ∀ j, 0 ≤ j → zv_a h13 63 j = if j = k then 0 else zv_a h2 63 j := fun j hj => by rw [s15 j hj]
          refine zx_T.lk (ls' := [(0, .ref 63), (1, .int (zI (f))), (2, .int (zI (m))), (3, .int (zI (k + 1)))]) rfl ⟨rfl, rfl, rfl, rfl, trivial⟩ ?_
          exact ih (h2 := h13) (k := k + 1) ih13 (by omega) (by omega) ((hw.wd rfl : zb_W [(63, 0)] h _).tr (w14.wd rfl)) (zs_wh_s (M' := zv_a h13 63) k1 (by omega) hj f1 (fun z => (nb z).resolve_right (by omega)) (by have b := (hj k (by omega)).2 (by omega); have b2 := (hj (k + 1) (by omega)).2 (by omega); omega) (fun j j0 => by have b := (hj k (by omega)).2 (by omega); rw [a63 j j0]; split <;> first | rfl | (split <;> omega))).1 (zs_wh_s (M' := zv_a h13 63) k1 (by omega) hj f1 (fun z => (nb z).resolve_right (by omega)) (by have b := (hj k (by omega)).2 (by omega); have b2 := (hj (k + 1) (by omega)).2 (by omega); omega) (fun j j0 => by have b := (hj k (by omega)).2 (by omega); rw [a63 j j0]; split <;> first | rfl | (split <;> omega))).2 (by omega)
      · refine zx_T.l (i := .iload_n 3) (k := 1) (v := .int (zI (k))) (pc := 16) rfl rfl rfl ?_
        refine zx_T.s (i := .iconst 1) (k := 1) (st' := [.int (zI (1)), .int (zI (k))]) (pc := 17) rfl rfl ?_
        refine zr_add (x := k) (y := 1) (e := k + 1) (pc := 18) rfl (by omega) ?_
        refine zx_T.l (i := .iload_n 1) (k := 1) (v := .int (zI (f))) (pc := 19) rfl rfl rfl ?_
        refine zx_T.l (i := .iload_n 2) (k := 1) (v := .int (zI (m))) (pc := 20) rfl rfl rfl ?_
        refine zr_add (x := f) (y := m) (e := f + m) (pc := 21) rfl (by omega) ?_
        refine zr_i2 (x := k + 1) (y := f + m) (t := 40) (pc := 22) rfl rfl (by omega) (by omega) (by omega) (by omega) (fun (c17 : (f + m) ≤ (k + 1)) => ?_) (fun (c17 : ¬ ((f + m) ≤ (k + 1))) => ?_)
        · refine zx_T.l (i := .aload_n 0) (k := 1) (v := .ref 63) (pc := 40) rfl rfl rfl ?_
          refine zx_T.l (i := .iload_n 3) (k := 1) (v := .int (zI (k))) (pc := 41) rfl rfl rfl ?_
          refine zx_T.l (i := .aload_n 0) (k := 1) (v := .ref 63) (pc := 42) rfl rfl rfl ?_
          refine zx_T.l (i := .iload_n 3) (k := 1) (v := .int (zI (k))) (pc := 43) rfl rfl rfl ?_
          refine zr_al (n := 14) (lo := 0) (hi := 8) (e := zv_a h2 63 k) (pc := 44) rfl rfl rfl hI2 (by omega) (by omega) rfl (fun g18a g18b => ?_)
          refine zx_T.s (i := .iconst 2) (k := 1) (st' := [.int (zI (2)), .int (zI (zv_a h2 63 k)), .int (zI (k)), .ref 63]) (pc := 45) rfl rfl ?_
          refine zr_i2 (x := zv_a h2 63 k) (y := 2) (t := 56) (pc := 46) rfl rfl (by omega) (by omega) (by omega) (by omega) (fun (c19 : (zv_a h2 63 k) = 2) => ?_) (fun (c19 : ¬ ((zv_a h2 63 k) = 2)) => False.elim (by omega))
          refine zx_T.s (i := .iconst 0) (k := 1) (st' := [.int (zI (0)), .int (zI (k)), .ref 63]) (pc := 56) rfl rfl ?_
          refine zx_T.j (i := .goto 6) (k := 3) (pc' := 63) (st' := [.int (zI (0)), .int (zI (k)), .ref 63]) (pc := 57) rfl rfl rfl rfl rfl ?_
          refine zr_as (n := 14) (lo := 0) (hi := 8) (e := 0) (pc := 63) rfl rfl rfl rfl hI2 (by omega) (by omega) (by omega) (by omega) (fun h20 ih20 w21 s22 => ?_)
          refine zr_inc (x := k) (n := 1) (y := k + 1) (ls' := [(3, .int (zI (k + 1))), (0, .ref 63), (1, .int (zI (f))), (2, .int (zI (m)))]) (pc := 64) rfl rfl rfl (by omega) rfl ?_
          refine zx_T.j (i := .goto (-65)) (k := 3) (pc' := 2) (st' := []) (pc := 67) rfl rfl rfl rfl rfl ?_
          have a63 : ∀ j, 0 ≤ j → zv_a h20 63 j = if j = k then 0 else zv_a h2 63 j := fun j hj => by rw [s22 j hj]
          refine zx_T.lk (ls' := [(0, .ref 63), (1, .int (zI (f))), (2, .int (zI (m))), (3, .int (zI (k + 1)))]) rfl ⟨rfl, rfl, rfl, rfl, trivial⟩ ?_
          exact ih (h2 := h20) (k := k + 1) ih20 (by omega) (by omega) ((hw.wd rfl : zb_W [(63, 0)] h _).tr (w21.wd rfl)) (zs_wh_s (M' := zv_a h20 63) k1 (by omega) hj f1 (fun z => (nb z).resolve_right (by omega)) (by have b := (hj k (by omega)).2 (by omega); have b2 := (hj (k + 1) (by omega)).2 (by omega); omega) (fun j j0 => by have b := (hj k (by omega)).2 (by omega); rw [a63 j j0]; split <;> first | rfl | (split <;> omega))).1 (zs_wh_s (M' := zv_a h20 63) k1 (by omega) hj f1 (fun z => (nb z).resolve_right (by omega)) (by have b := (hj k (by omega)).2 (by omega); have b2 := (hj (k + 1) (by omega)).2 (by omega); omega) (fun j j0 => by have b := (hj k (by omega)).2 (by omega); rw [a63 j j0]; split <;> first | rfl | (split <;> omega))).2 (by omega)
        · refine zx_T.l (i := .aload_n 0) (k := 1) (v := .ref 63) (pc := 25) rfl rfl rfl ?_
          refine zx_T.l (i := .iload_n 3) (k := 1) (v := .int (zI (k))) (pc := 26) rfl rfl rfl ?_
          refine zx_T.s (i := .iconst 1) (k := 1) (st' := [.int (zI (1)), .int (zI (k)), .ref 63]) (pc := 27) rfl rfl ?_
          refine zr_add (x := k) (y := 1) (e := k + 1) (pc := 28) rfl (by omega) ?_
          refine zr_al (n := 14) (lo := 0) (hi := 8) (e := zv_a h2 63 (k + 1)) (pc := 29) rfl rfl rfl hI2 (by omega) (by omega) rfl (fun g24a g24b => ?_)
          refine zx_T.s (i := .iconst 3) (k := 1) (st' := [.int (zI (3)), .int (zI (zv_a h2 63 (k + 1)))]) (pc := 30) rfl rfl ?_
          refine zr_i2 (x := zv_a h2 63 (k + 1)) (y := 3) (t := 40) (pc := 31) rfl rfl (by omega) (by omega) (by omega) (by omega) (fun (c25 : ¬ (zv_a h2 63 (k + 1)) = 3) => ?_) (fun (c25 : ¬ (¬ (zv_a h2 63 (k + 1)) = 3)) => ?_)
          · refine zx_T.l (i := .aload_n 0) (k := 1) (v := .ref 63) (pc := 40) rfl rfl rfl ?_
            refine zx_T.l (i := .iload_n 3) (k := 1) (v := .int (zI (k))) (pc := 41) rfl rfl rfl ?_
            refine zx_T.l (i := .aload_n 0) (k := 1) (v := .ref 63) (pc := 42) rfl rfl rfl ?_
            refine zx_T.l (i := .iload_n 3) (k := 1) (v := .int (zI (k))) (pc := 43) rfl rfl rfl ?_
            refine zr_al (n := 14) (lo := 0) (hi := 8) (e := zv_a h2 63 k) (pc := 44) rfl rfl rfl hI2 (by omega) (by omega) rfl (fun g26a g26b => ?_)
            refine zx_T.s (i := .iconst 2) (k := 1) (st' := [.int (zI (2)), .int (zI (zv_a h2 63 k)), .int (zI (k)), .ref 63]) (pc := 45) rfl rfl ?_
            refine zr_i2 (x := zv_a h2 63 k) (y := 2) (t := 56) (pc := 46) rfl rfl (by omega) (by omega) (by omega) (by omega) (fun (c27 : (zv_a h2 63 k) = 2) => ?_) (fun (c27 : ¬ ((zv_a h2 63 k) = 2)) => False.elim (by omega))
            refine zx_T.s (i := .iconst 0) (k := 1) (st' := [.int (zI (0)), .int (zI (k)), .ref 63]) (pc := 56) rfl rfl ?_
            refine zx_T.j (i := .goto 6) (k := 3) (pc' := 63) (st' := [.int (zI (0)), .int (zI (k)), .ref 63]) (pc := 57) rfl rfl rfl rfl rfl ?_
            refine zr_as (n := 14) (lo := 0) (hi := 8) (e := 0) (pc := 63) rfl rfl rfl rfl hI2 (by omega) (by omega) (by omega) (by omega) (fun h28 ih28 w29 s30 => ?_)
            refine zr_inc (x := k) (n := 1) (y := k + 1) (ls' := [(3, .int (zI (k + 1))), (0, .ref 63), (1, .int (zI (f))), (2, .int (zI (m)))]) (pc := 64) rfl rfl rfl (by omega) rfl ?_
            refine zx_T.j (i := .goto (-65)) (k := 3) (pc' := 2) (st' := []) (pc := 67) rfl rfl rfl rfl rfl ?_
            have a63 : ∀ j, 0 ≤ j → zv_a h28 63 j = if j = k then 0 else zv_a h2 63 j := fun j hj => by rw [s30 j hj]
            refine zx_T.lk (ls' := [(0, .ref 63), (1, .int (zI (f))), (2, .int (zI (m))), (3, .int (zI (k + 1)))]) rfl ⟨rfl, rfl, rfl, rfl, trivial⟩ ?_
            exact ih (h2 := h28) (k := k + 1) ih28 (by omega) (by omega) ((hw.wd rfl : zb_W [(63, 0)] h _).tr (w29.wd rfl)) (zs_wh_s (M' := zv_a h28 63) k1 (by omega) hj f1 (fun z => (nb z).resolve_right (by omega)) (by have b := (hj k (by omega)).2 (by omega); have b2 := (hj (k + 1) (by omega)).2 (by omega); omega) (fun j j0 => by have b := (hj k (by omega)).2 (by omega); rw [a63 j j0]; split <;> first | rfl | (split <;> omega))).1 (zs_wh_s (M' := zv_a h28 63) k1 (by omega) hj f1 (fun z => (nb z).resolve_right (by omega)) (by have b := (hj k (by omega)).2 (by omega); have b2 := (hj (k + 1) (by omega)).2 (by omega); omega) (fun j j0 => by have b := (hj k (by omega)).2 (by omega); rw [a63 j j0]; split <;> first | rfl | (split <;> omega))).2 (by omega)
          · refine zr_inc (x := k) (n := 2) (y := k + 2) (ls' := [(3, .int (zI (k + 2))), (0, .ref 63), (1, .int (zI (f))), (2, .int (zI (m)))]) (pc := 34) rfl rfl rfl (by omega) rfl ?_
            refine zx_T.j (i := .goto (-35)) (k := 3) (pc' := 2) (st' := []) (pc := 37) rfl rfl rfl rfl rfl ?_
            have a63 : ∀ j, 0 ≤ j → zv_a h2 63 j = zv_a h2 63 j := fun j hj => rfl
            refine zx_T.lk (ls' := [(0, .ref 63), (1, .int (zI (f))), (2, .int (zI (m))), (3, .int (zI (k + 2)))]) rfl ⟨rfl, rfl, rfl, rfl, trivial⟩ ?_
            exact ih (h2 := h2) (k := k + 2) hI2 (by omega) (by omega) (hw.wd rfl : zb_W [(63, 0)] h _) (zs_wh_p k1 (by omega) hj f1 (by have b := (hj k (by omega)).2 (by omega); omega) (by have b := (hj (k + 1) (by omega)).2 (by omega); omega)).1 (fun z => Or.inl ((zs_wh_p k1 (by omega) hj f1 (by have b := (hj k (by omega)).2 (by omega); omega) (by have b := (hj (k + 1) (by omega)).2 (by omega); omega)).2 z)) (by omega)
set_option maxRecDepth 100000 in
set_option maxHeartbeats 4000000 in
theorem zm_wholeF_63 {h : zx_H} (hI : zb_I zc_H h) {f : Int} {m : Int} (f1 : 0 ≤ f) (m1 : 0 ≤ m) (fm : f + m ≤ 14) : zx_T zp_P 0 zp_m158 0 [(0, .ref 63), (1, .int (zI (f))), (2, .int (zI (m)))] [] h (zr_V [(63, 0)] h (fun h' => ∀ j, 0 ≤ j → zv_a h' 63 j = zs_wh f (f + m) (zv_a h 63) j)) := by
  refine zx_T.l (i := .iload_n 1) (k := 1) (v := .int (zI (f))) (pc := 0) rfl rfl rfl ?_
  refine zx_T.t (i := .istore_n 3) (k := 1) (ls' := [(3, .int (zI (f))), (0, .ref 63), (1, .int (zI (f))), (2, .int (zI (m)))]) (st' := []) (pc := 1) rfl rfl rfl rfl ?_
  have a63 : ∀ j, 0 ≤ j → zv_a h 63 j = zv_a h 63 j := fun j hj => rfl
  refine zx_T.lk (ls' := [(0, .ref 63), (1, .int (zI (f))), (2, .int (zI (m))), (3, .int (zI (f)))]) rfl ⟨rfl, rfl, rfl, rfl, trivial⟩ ?_
  exact zm_wholeF_63_L (h := h) hI (f := f) (m := m) f1 m1 fm ((f + m - f : Int).toNat + 1) (h2 := h) (k := f) hI (by omega) (by omega) zb_W.rf (fun j j0 => ⟨fun z => (by unfold zs_wh; rw [if_pos (Or.inl z)]), fun _ => rfl⟩) (fun z => absurd z (by omega)) (Nat.lt_succ_self _)

/-- the table is as it was -/
def zr_sm (h h' : zx_H) : Prop := (∀ q, 0 ≤ q → zv_a h' 54 q = zv_a h 54 q) ∧ (∀ q, 0 ≤ q → zv_a h' 56 q = zv_a h 56 q) ∧ (∀ q, 0 ≤ q → zv_a h' 55 q = zv_a h 55 q) ∧ zv_i h' 27 = zv_i h 27
/-- what a join does -/
def zr_J (h h' : zx_H) (q m e : Int) (row : Int → Int) : Prop :=
  (¬ (0 ≤ q ∧ q < zv_i h 1) ∧ e = 7 ∧ zr_sm h h')
  ∨ ((0 ≤ q ∧ q < zv_i h 1) ∧ ¬ zv_a h 54 q = 1 ∧ e = 0 ∧ zv_i h' 27 = 1 ∧ (∀ p, 0 ≤ p → zv_a h' 54 p = if p = q then 1 else zv_a h 54 p) ∧ (∀ p, 0 ≤ p → zv_a h' 56 p = if p = q then m else zv_a h 56 p) ∧ ∀ p, 0 ≤ p → zv_a h' 55 p = if 14 * q ≤ p ∧ p < 14 * q + (m + 8) then row (p - 14 * q) else zv_a h 55 p)
  ∨ ((0 ≤ q ∧ q < zv_i h 1) ∧ zv_a h 54 q = 1 ∧ ¬ zv_a h 56 q = m ∧ e = 5 ∧ zr_sm h h')
  ∨ ((0 ≤ q ∧ q < zv_i h 1) ∧ zv_a h 54 q = 1 ∧ zv_a h 56 q = m ∧ e = 0 ∧ (∀ p, 0 ≤ p → zv_a h' 54 p = zv_a h 54 p) ∧ (∀ p, 0 ≤ p → zv_a h' 56 p = zv_a h 56 p) ∧ (∀ p, 0 ≤ p → zv_a h' 55 p = if 14 * q ≤ p ∧ p < 14 * q + (m + 8) then zs_jn (zv_a h 55 p) (row (p - 14 * q)) else zv_a h 55 p) ∧ (zv_i h' 27 = 1 ↔ zv_i h 27 = 1 ∨ ∃ j, 0 ≤ j ∧ j < m + 8 ∧ ¬ zs_jn (zv_a h 55 (14 * q + j)) (row j) = zv_a h 55 (14 * q + j)))

theorem zs_cp {B k v : Int} {M N M' row : Int → Int} (hk : 0 ≤ k) (kd : ∀ q, 0 ≤ q → M q = if B ≤ q ∧ q < B + k then row (q - B) else N q) (hm : ∀ q, 0 ≤ q → M' q = if q = B + k then v else M q) (hv : v = row k) : ∀ q, 0 ≤ q → M' q = if B ≤ q ∧ q < B + (k + 1) then row (q - B) else N q := by
  intro q q0
  rw [hm q q0]
  by_cases c : q = B + k
  · rw [if_pos c, if_pos (by omega), hv, c, show B + k - B = k by omega]
  · rw [if_neg c, kd q q0]
    by_cases d : B ≤ q ∧ q < B + k
    · rw [if_pos d, if_pos (by omega)]
    · rw [if_neg d, if_neg (by omega)]
theorem zs_chs {c c' k : Int} {A : Prop} {Q : Int → Prop} (hk : 0 ≤ k) (h : c = 1 ↔ A ∨ ∃ j, 0 ≤ j ∧ j < k ∧ Q j) (hc : c' = 1 ↔ c = 1 ∨ Q k) : c' = 1 ↔ A ∨ ∃ j, 0 ≤ j ∧ j < k + 1 ∧ Q j := by
  refine ⟨fun z => ?_, fun z => hc.2 ?_⟩
  · rcases hc.1 z with z | z
    · rcases h.1 z with z | ⟨j, j0, j1, hj⟩
      · exact Or.inl z
      · exact Or.inr ⟨j, j0, by omega, hj⟩
    · exact Or.inr ⟨k, hk, by omega, z⟩
  · rcases z with z | ⟨j, j0, j1, hj⟩
    · exact Or.inl (h.2 (Or.inl z))
    · by_cases e : j = k
      · subst e; exact Or.inr hj
      · exact Or.inl (h.2 (Or.inr ⟨j, j0, by omega, hj⟩))
theorem zr_bo {B0 B1 B2 : Int → Int} {m : Int} (J : Int → Int) (w0 : zw_loc 0 8 J) (w8 : zw_loc 8 (8 + m) J) (m0 : 0 ≤ m) (bo : ∀ j, 0 ≤ j → j < m + 8 → B0 j = J j) (f1 : ∀ j, 0 ≤ j → B1 j = zs_wh 0 (0 + 8) B0 j) (f2 : ∀ j, 0 ≤ j → B2 j = zs_wh 8 (8 + m) B1 j) : ∀ j, 0 ≤ j → j < m + 8 → B2 j = J j := by
  have e1 : ∀ j, 0 ≤ j → B1 j = B0 j := fun j j0 => by rw [f1 j j0, show (0 : Int) + 8 = 8 from rfl, zs_wh_id (zw_cg w0 (fun i i0 i1 => bo i i0 (by omega)))]
  intro j j0 j1
  rw [f2 j j0, zs_wh_id (zw_cg w8 (fun i i0 i1 => by rw [e1 i (by omega)]; exact bo i (by omega) (by omega))), e1 j j0]
  exact bo j j0 j1

set_option maxRecDepth 100000 in
set_option maxHeartbeats 4000000 in
theorem zm_joinF_61_L {h : zx_H} (hI : zb_I zc_H h) {place : Int} {many : Int} (place1 : -2147483648 ≤ place) (place2 : place ≤ 2147483647) (many1 : 0 ≤ many) (many2 : many ≤ 6) (wk : 0 ≤ place → place < zv_i h 1 → zv_a h 54 place = 1 → zw_ok (0, zv_a h 56 place, fun j => zv_a h 55 (14 * place + j))) (wr : zw_ok (0, many, zv_a h 61)) (n : Nat) : (∀ {h2 : zx_H} {k : Int} (hI2 : zb_I zc_H h2) (k1 : 0 ≤ k) (k2 : k ≤ many + 8) (q1 : 0 ≤ place) (q2 : place < zv_i h 1) (nr : ¬ zv_a h 54 place = 1) (hw : zb_W [(54, 0), (44, 27), (56, 0), (55, 0), (63, 0)] h h2) (ra : ∀ q, 0 ≤ q → zv_a h2 54 q = if q = place then 1 else zv_a h 54 q) (sa : ∀ q, 0 ≤ q → zv_a h2 56 q = if q = place then many else zv_a h 56 q) (ch : zv_i h2 27 = 1) (kd : ∀ q, 0 ≤ q → zv_a h2 55 q = if 14 * place ≤ q ∧ q < 14 * place + k then zv_a h 61 (q - 14 * place) else zv_a h 55 q), (many + 8 - k : Int).toNat < n → zx_T zp_P 2 zp_m174 54 [(0, .ref 44), (1, .int (zI (place))), (2, .ref 61), (3, .int (zI (many))), (4, .int (zI (14 * place))), (5, .int (zI (k)))] [] h2 (zr_R [(54, 0), (44, 27), (56, 0), (55, 0), (63, 0)] h (fun e h' => zr_J h h' place many e (zv_a h 61)))) ∧ (∀ {h2 : zx_H} {k : Int} (hI2 : zb_I zc_H h2) (k1 : 0 ≤ k) (k2 : k ≤ many + 8) (q1 : 0 ≤ place) (q2 : place < zv_i h 1) (re : zv_a h 54 place = 1) (sm : zv_a h 56 place = many) (hw : zb_W [(63, 0)] h h2) (bo : ∀ j, 0 ≤ j → j < k → zv_a h2 63 j = zs_jn (zv_a h 55 (14 * place + j)) (zv_a h 61 j)), (many + 108 - k : Int).toNat < n → zx_T zp_P 2 zp_m174 100 [(0, .ref 44), (1, .int (zI (place))), (2, .ref 61), (3, .int (zI (many))), (4, .int (zI (14 * place))), (5, .int (zI (k)))] [] h2 (zr_R [(54, 0), (44, 27), (56, 0), (55, 0), (63, 0)] h (fun e h' => zr_J h h' place many e (zv_a h 61)))) ∧ (∀ {h2 : zx_H} {k : Int} (hI2 : zb_I zc_H h2) (k1 : 0 ≤ k) (k2 : k ≤ many + 8) (q1 : 0 ≤ place) (q2 : place < zv_i h 1) (re : zv_a h 54 place = 1) (sm : zv_a h 56 place = many) (hw : zb_W [(63, 0), (55, 0), (44, 27)] h h2) (bo : ∀ j, 0 ≤ j → j < many + 8 → zv_a h2 63 j = zs_jn (zv_a h 55 (14 * place + j)) (zv_a h 61 j)) (kd : ∀ q, 0 ≤ q → zv_a h2 55 q = if 14 * place ≤ q ∧ q < 14 * place + k then (fun j => zs_jn (zv_a h 55 (14 * place + j)) (zv_a h 61 j)) (q - 14 * place) else zv_a h 55 q) (ch : zv_i h2 27 = 1 ↔ zv_i h 27 = 1 ∨ ∃ j, 0 ≤ j ∧ j < k ∧ ¬ zs_jn (zv_a h 55 (14 * place + j)) (zv_a h 61 j) = zv_a h 55 (14 * place + j)), (many + 8 - k : Int).toNat < n → zx_T zp_P 2 zp_m174 162 [(0, .ref 44), (1, .int (zI (place))), (2, .ref 61), (3, .int (zI (many))), (4, .int (zI (14 * place))), (5, .int (zI (k)))] [] h2 (zr_R [(54, 0), (44, 27), (56, 0), (55, 0), (63, 0)] h (fun e h' => zr_J h h' place many e (zv_a h 61)))) := by
  induction n with
  | zero => exact ⟨fun _ _ _ _ _ _ _ _ _ _ _ hm => absurd hm (Nat.not_lt_zero _), fun _ _ _ _ _ _ _ _ _ hm => absurd hm (Nat.not_lt_zero _), fun _ _ _ _ _ _ _ _ _ _ _ hm => absurd hm (Nat.not_lt_zero _)⟩
  | succ n ih =>
    refine ⟨?_, ?_, ?_⟩
    · intro h2 k hI2 k1 k2 q1 q2 nr hw ra sa ch kd hm
      have hC := zv_ri hI (k := 1) rfl
      refine zx_T.l (i := .iload 5) (k := 2) (v := .int (zI (k))) (pc := 54) rfl rfl rfl ?_
      refine zx_T.s (i := .bipush 8) (k := 2) (st' := [.int (zI (8)), .int (zI (k))]) (pc := 56) rfl rfl ?_
      refine zx_T.l (i := .iload_n 3) (k := 1) (v := .int (zI (many))) (pc := 58) rfl rfl rfl ?_
      refine zr_add (x := 8) (y := many) (e := many + 8) (pc := 59) rfl (by omega) ?_
      refine zr_i2 (x := k) (y := many + 8) (t := 83) (pc := 60) rfl rfl (by omega) (by omega) (by omega) (by omega) (fun (c1 : (many + 8) ≤ k) => ?_) (fun (c1 : ¬ ((many + 8) ≤ k)) => ?_)
      · refine zx_T.s (i := .iconst 0) (k := 1) (st' := [.int (zI (0))]) (pc := 83) rfl rfl ?_
        exact zr_ir (x := 0) (pc := 84) rfl rfl rfl ⟨hI2, (hw.wd rfl : zb_W [(54, 0), (44, 27), (56, 0), (55, 0), (63, 0)] h _), _, rfl, by dsimp only; exact Or.inr (Or.inl ⟨⟨q1, q2⟩, nr, rfl, ch, ra, sa, fun p p0 => by rw [kd p p0, show k = many + 8 by omega]⟩)⟩
      · refine zx_T.l (i := .aload_n 0) (k := 1) (v := .ref 44) (pc := 63) rfl rfl rfl ?_
        refine zr_gr (k := 17) (b := 55) (pc := 64) rfl rfl rfl hI2 ?_
        refine zx_T.l (i := .iload 4) (k := 2) (v := .int (zI (14 * place))) (pc := 67) rfl rfl rfl ?_
        refine zx_T.l (i := .iload 5) (k := 2) (v := .int (zI (k))) (pc := 69) rfl rfl rfl ?_
        refine zr_add (x := 14 * place) (y := k) (e := 14 * place + k) (pc := 71) rfl (by omega) ?_
        refine zx_T.l (i := .aload_n 2) (k := 1) (v := .ref 61) (pc := 72) rfl rfl rfl ?_
        refine zx_T.l (i := .iload 5) (k := 2) (v := .int (zI (k))) (pc := 73) rfl rfl rfl ?_
        refine zr_al (n := 14) (lo := 0) (hi := 8) (e := zv_a h 61 k) (pc := 75) rfl rfl rfl hI2 (by omega) (by omega) (zv_wa hw rfl k) (fun g2a g2b => ?_)
        refine zr_as (n := 840) (lo := 0) (hi := 8) (e := zv_a h 61 k) (pc := 76) rfl rfl rfl rfl hI2 (by omega) (by omega) (by omega) (by omega) (fun h3 ih3 w4 s5 => ?_)
        refine zr_inc (x := k) (n := 1) (y := k + 1) (ls' := [(5, .int (zI (k + 1))), (0, .ref 44), (1, .int (zI (place))), (2, .ref 61), (3, .int (zI (many))), (4, .int (zI (14 * place)))]) (pc := 77) rfl rfl rfl (by omega) rfl ?_
        refine zx_T.j (i := .goto (-26)) (k := 3) (pc' := 54) (st' := []) (pc := 80) rfl rfl rfl rfl rfl ?_
        have a54 : ∀ j, 0 ≤ j → zv_a h3 54 j = zv_a h2 54 j := fun j hj => by rw [zv_wa w4 rfl j]
        have a56 : ∀ j, 0 ≤ j → zv_a h3 56 j = zv_a h2 56 j := fun j hj => by rw [zv_wa w4 rfl j]
        have a55 : ∀ j, 0 ≤ j → zv_a h3 55 j = if j = 14 * place + k then zv_a h 61 k else zv_a h2 55 j := fun j hj => by rw [s5 j hj]
        have y9 : zv_i h3 27 = zv_i h2 27 := (zv_wi w4 rfl)
        refine zx_T.lk (ls' := [(0, .ref 44), (1, .int (zI (place))), (2, .ref 61), (3, .int (zI (many))), (4, .int (zI (14 * place))), (5, .int (zI (k + 1)))]) rfl ⟨rfl, rfl, rfl, rfl, rfl, rfl, trivial⟩ ?_
        exact ih.1 (h2 := h3) (k := k + 1) ih3 (by omega) (by omega) (by omega) (by omega) (by omega) ((hw.wd rfl : zb_W [(54, 0), (44, 27), (56, 0), (55, 0), (63, 0)] h _).tr (w4.wd rfl)) (fun q q0 => by rw [a54 q q0]; exact ra q q0) (fun q q0 => by rw [a56 q q0]; exact sa q q0) (by omega) (zs_cp k1 kd (fun q q0 => a55 q q0) (by first | rfl | exact zv_wa hw rfl k)) (by omega)
    · intro h2 k hI2 k1 k2 q1 q2 re sm hw bo hm
      have hC := zv_ri hI (k := 1) rfl
      refine zx_T.l (i := .iload 5) (k := 2) (v := .int (zI (k))) (pc := 100) rfl rfl rfl ?_
      refine zx_T.s (i := .bipush 8) (k := 2) (st' := [.int (zI (8)), .int (zI (k))]) (pc := 102) rfl rfl ?_
      refine zx_T.l (i := .iload_n 3) (k := 1) (v := .int (zI (many))) (pc := 104) rfl rfl rfl ?_
      refine zr_add (x := 8) (y := many) (e := many + 8) (pc := 105) rfl (by omega) ?_
      refine zr_i2 (x := k) (y := many + 8) (t := 139) (pc := 106) rfl rfl (by omega) (by omega) (by omega) (by omega) (fun (c10 : (many + 8) ≤ k) => ?_) (fun (c10 : ¬ ((many + 8) ≤ k)) => ?_)
      · refine zx_T.l (i := .aload_n 0) (k := 1) (v := .ref 44) (pc := 139) rfl rfl rfl ?_
        refine zr_gr (k := 29) (b := 63) (pc := 140) rfl rfl rfl hI2 ?_
        refine zx_T.s (i := .iconst 0) (k := 1) (st' := [.int (zI (0)), .ref 63]) (pc := 143) rfl rfl ?_
        refine zx_T.s (i := .bipush 8) (k := 2) (st' := [.int (zI (8)), .int (zI (0)), .ref 63]) (pc := 144) rfl rfl ?_
        refine zr_is (cj := 158) (q' := zp_m158) (As := [.ref 63, .int (zI (0)), .int (zI (8))]) (rest := []) (pc := 146) rfl rfl rfl rfl rfl rfl (Nat.le_of_ble_eq_true rfl) rfl (Nat.le_of_ble_eq_true rfl) rfl ((zm_wholeF_63 (h := h2) hI2 (f := 0) (m := 8) (by omega) (by omega) (by omega)).up (Nat.le_of_ble_eq_true rfl)) ?_
        rintro r11 h14 ⟨ih14, w15, r11q, x13⟩
        subst r11q
        try dsimp only at x13
        have wf1 := x13
        show zx_T zp_P 2 zp_m174 149 [(0, .ref 44), (1, .int (zI (place))), (2, .ref 61), (3, .int (zI (many))), (4, .int (zI (14 * place))), (5, .int (zI (k)))] [] h14 _
        refine zx_T.l (i := .aload_n 0) (k := 1) (v := .ref 44) (pc := 149) rfl rfl rfl ?_
        refine zr_gr (k := 29) (b := 63) (pc := 150) rfl rfl rfl ih14 ?_
        refine zx_T.s (i := .bipush 8) (k := 2) (st' := [.int (zI (8)), .ref 63]) (pc := 153) rfl rfl ?_
        refine zx_T.l (i := .iload_n 3) (k := 1) (v := .int (zI (many))) (pc := 155) rfl rfl rfl ?_
        refine zr_is (cj := 158) (q' := zp_m158) (As := [.ref 63, .int (zI (8)), .int (zI (many))]) (rest := []) (pc := 156) rfl rfl rfl rfl rfl rfl (Nat.le_of_ble_eq_true rfl) rfl (Nat.le_of_ble_eq_true rfl) rfl ((zm_wholeF_63 (h := h14) ih14 (f := 8) (m := many) (by omega) (by omega) (by omega)).up (Nat.le_of_ble_eq_true rfl)) ?_
        rintro r16 h19 ⟨ih19, w20, r16q, x18⟩
        subst r16q
        try dsimp only at x18
        have wf2 := x18
        show zx_T zp_P 2 zp_m174 159 [(0, .ref 44), (1, .int (zI (place))), (2, .ref 61), (3, .int (zI (many))), (4, .int (zI (14 * place))), (5, .int (zI (k)))] [] h19 _
        refine zx_T.s (i := .iconst 0) (k := 1) (st' := [.int (zI (0))]) (pc := 159) rfl rfl ?_
        refine zx_T.t (i := .istore 5) (k := 2) (ls' := [(5, .int (zI (0))), (0, .ref 44), (1, .int (zI (place))), (2, .ref 61), (3, .int (zI (many))), (4, .int (zI (14 * place)))]) (st' := []) (pc := 160) rfl rfl rfl rfl ?_
        have a63 : ∀ j, 0 ≤ j → zv_a h19 63 j = zv_a h19 63 j := fun j hj => rfl
        have a55 : ∀ j, 0 ≤ j → zv_a h19 55 j = zv_a h 55 j := fun j hj => by rw [zv_wa w20 rfl j, zv_wa w15 rfl j, zv_wa hw rfl j]
        have y23 : zv_i h19 27 = zv_i h 27 := ((zv_wi w20 rfl).trans ((zv_wi w15 rfl).trans (zv_wi hw rfl)))
        refine zx_T.lk (ls' := [(0, .ref 44), (1, .int (zI (place))), (2, .ref 61), (3, .int (zI (many))), (4, .int (zI (14 * place))), (5, .int (zI (0)))]) rfl ⟨rfl, rfl, rfl, rfl, rfl, rfl, trivial⟩ ?_
        exact ih.2.2 (h2 := h19) (k := 0) ih19 (by omega) (by omega) (by omega) (by omega) (by omega) (by omega) (((hw.wd rfl : zb_W [(63, 0), (55, 0), (44, 27)] h _).tr (w15.wd rfl)).tr (w20.wd rfl)) (zr_bo (fun j => zs_jn (zv_a h 55 (14 * place + j)) (zv_a h 61 j)) (zw_jn (wk q1 q2 re).1.1 wr.1.1) (zw_jn (by have z := (wk q1 q2 re).1.2; rw [sm] at z; exact z) wr.1.2) (by omega) (fun j j0 j1 => bo j j0 (by omega)) wf1 wf2) (fun q q0 => by rw [if_neg (by omega)]; exact a55 q q0) ⟨fun z => Or.inl (by omega), fun z => by rcases z with z | ⟨j, j0, j1, _⟩ <;> omega⟩ (by omega)
      · refine zx_T.l (i := .aload_n 0) (k := 1) (v := .ref 44) (pc := 109) rfl rfl rfl ?_
        refine zr_gr (k := 29) (b := 63) (pc := 110) rfl rfl rfl hI2 ?_
        refine zx_T.l (i := .iload 5) (k := 2) (v := .int (zI (k))) (pc := 113) rfl rfl rfl ?_
        refine zx_T.l (i := .aload_n 0) (k := 1) (v := .ref 44) (pc := 115) rfl rfl rfl ?_
        refine zr_gr (k := 17) (b := 55) (pc := 116) rfl rfl rfl hI2 ?_
        refine zx_T.l (i := .iload 4) (k := 2) (v := .int (zI (14 * place))) (pc := 119) rfl rfl rfl ?_
        refine zx_T.l (i := .iload 5) (k := 2) (v := .int (zI (k))) (pc := 121) rfl rfl rfl ?_
        refine zr_add (x := 14 * place) (y := k) (e := 14 * place + k) (pc := 123) rfl (by omega) ?_
        refine zr_al (n := 840) (lo := 0) (hi := 8) (e := zv_a h 55 (14 * place + k)) (pc := 124) rfl rfl rfl hI2 (by omega) (by omega) (zv_wa hw rfl (14 * place + k)) (fun g24a g24b => ?_)
        refine zx_T.l (i := .aload_n 2) (k := 1) (v := .ref 61) (pc := 125) rfl rfl rfl ?_
        refine zx_T.l (i := .iload 5) (k := 2) (v := .int (zI (k))) (pc := 126) rfl rfl rfl ?_
        refine zr_al (n := 14) (lo := 0) (hi := 8) (e := zv_a h 61 k) (pc := 128) rfl rfl rfl hI2 (by omega) (by omega) (zv_wa hw rfl k) (fun g25a g25b => ?_)
        refine zr_is (cj := 157) (q' := zp_m157) (As := [.int (zI (zv_a h 55 (14 * place + k))), .int (zI (zv_a h 61 k))]) (rest := [.int (zI (k)), .ref 63]) (pc := 129) rfl rfl rfl rfl rfl rfl (Nat.le_of_ble_eq_true rfl) rfl (Nat.le_of_ble_eq_true rfl) rfl ((zm_joinedF (h := h2) hI2 (a := zv_a h 55 (14 * place + k)) (b := zv_a h 61 k) (by omega) (by omega) (by omega) (by omega)).up (Nat.le_of_ble_eq_true rfl)) ?_
        rintro r26 h29 ⟨h29q, v27, r26q, x28⟩
        subst h29q r26q
        try dsimp only at x28
        show zx_T zp_P 2 zp_m174 132 [(0, .ref 44), (1, .int (zI (place))), (2, .ref 61), (3, .int (zI (many))), (4, .int (zI (14 * place))), (5, .int (zI (k)))] [.int (zI (v27)), .int (zI (k)), .ref 63] h2 _
        refine zr_as (n := 14) (lo := 0) (hi := 8) (e := v27) (pc := 132) rfl rfl rfl rfl hI2 (by omega) (by omega) (by omega) (by omega) (fun h30 ih30 w31 s32 => ?_)
        refine zr_inc (x := k) (n := 1) (y := k + 1) (ls' := [(5, .int (zI (k + 1))), (0, .ref 44), (1, .int (zI (place))), (2, .ref 61), (3, .int (zI (many))), (4, .int (zI (14 * place)))]) (pc := 133) rfl rfl rfl (by omega) rfl ?_
        refine zx_T.j (i := .goto (-36)) (k := 3) (pc' := 100) (st' := []) (pc := 136) rfl rfl rfl rfl rfl ?_
        have a63 : ∀ j, 0 ≤ j → zv_a h30 63 j = if j = k then v27 else zv_a h2 63 j := fun j hj => by rw [s32 j hj]
        refine zx_T.lk (ls' := [(0, .ref 44), (1, .int (zI (place))), (2, .ref 61), (3, .int (zI (many))), (4, .int (zI (14 * place))), (5, .int (zI (k + 1)))]) rfl ⟨rfl, rfl, rfl, rfl, rfl, rfl, trivial⟩ ?_
        exact ih.2.1 (h2 := h30) (k := k + 1) ih30 (by omega) (by omega) (by omega) (by omega) (by omega) (by omega) ((hw.wd rfl : zb_W [(63, 0)] h _).tr (w31.wd rfl)) (fun j j0 j1 => by have b9 := a63 j j0; split at b9 <;> first | (rw [b9]; exact bo j j0 (by omega)) | (next e9 => subst e9; rw [b9]; omega)) (by omega)
    · intro h2 k hI2 k1 k2 q1 q2 re sm hw bo kd ch hm
      have hC := zv_ri hI (k := 1) rfl
      refine zx_T.l (i := .iload 5) (k := 2) (v := .int (zI (k))) (pc := 162) rfl rfl rfl ?_
      refine zx_T.s (i := .bipush 8) (k := 2) (st' := [.int (zI (8)), .int (zI (k))]) (pc := 164) rfl rfl ?_
      refine zx_T.l (i := .iload_n 3) (k := 1) (v := .int (zI (many))) (pc := 166) rfl rfl rfl ?_
      refine zr_add (x := 8) (y := many) (e := many + 8) (pc := 167) rfl (by omega) ?_
      refine zr_i2 (x := k) (y := many + 8) (t := 230) (pc := 168) rfl rfl (by omega) (by omega) (by omega) (by omega) (fun (c34 : (many + 8) ≤ k) => ?_) (fun (c34 : ¬ ((many + 8) ≤ k)) => ?_)
      · refine zx_T.s (i := .iconst 0) (k := 1) (st' := [.int (zI (0))]) (pc := 230) rfl rfl ?_
        exact zr_ir (x := 0) (pc := 231) rfl rfl rfl ⟨hI2, (hw.wd rfl : zb_W [(54, 0), (44, 27), (56, 0), (55, 0), (63, 0)] h _), _, rfl, by dsimp only; exact Or.inr (Or.inr (Or.inr ⟨⟨q1, q2⟩, re, sm, rfl, fun p p0 => zv_wa hw rfl p, fun p p0 => zv_wa hw rfl p, fun p p0 => by rw [kd p p0, show k = many + 8 by omega]; dsimp only; by_cases c : 14 * place ≤ p ∧ p < 14 * place + (many + 8); rw [if_pos c, if_pos c, show 14 * place + (p - 14 * place) = p by omega]; rw [if_neg c, if_neg c], by rw [show many + 8 = k by omega]; exact ch⟩))⟩
      · refine zx_T.l (i := .aload_n 0) (k := 1) (v := .ref 44) (pc := 171) rfl rfl rfl ?_
        refine zx_T.l (i := .aload_n 0) (k := 1) (v := .ref 44) (pc := 172) rfl rfl rfl ?_
        refine zr_gi (k := 27) (lo := 0) (hi := 1) (e := zv_i h2 27) (pc := 173) rfl rfl rfl hI2 rfl (fun g35a g35b => ?_)
        refine zr_i1 (x := zv_i h2 27) (t := 199) (pc := 176) rfl rfl (by omega) (by omega) (fun (c36 : ¬ (zv_i h2 27) = 0) => ?_) (fun (c36 : ¬ (¬ (zv_i h2 27) = 0)) => ?_)
        · refine zx_T.s (i := .iconst 1) (k := 1) (st' := [.int (zI (1)), .ref 44]) (pc := 199) rfl rfl ?_
          refine zx_T.j (i := .goto 4) (k := 3) (pc' := 204) (st' := [.int (zI (1)), .ref 44]) (pc := 200) rfl rfl rfl rfl rfl ?_
          refine zr_pi (k := 27) (lo := 0) (hi := 1) (e := 1) (pc := 204) rfl rfl rfl rfl rfl rfl hI2 (by omega) (by omega) (fun h37 ih37 w38 e39 => ?_)
          refine zx_T.l (i := .aload_n 0) (k := 1) (v := .ref 44) (pc := 207) rfl rfl rfl ?_
          refine zr_gr (k := 17) (b := 55) (pc := 208) rfl rfl rfl ih37 ?_
          refine zx_T.l (i := .iload 4) (k := 2) (v := .int (zI (14 * place))) (pc := 211) rfl rfl rfl ?_
          refine zx_T.l (i := .iload 5) (k := 2) (v := .int (zI (k))) (pc := 213) rfl rfl rfl ?_
          refine zr_add (x := 14 * place) (y := k) (e := 14 * place + k) (pc := 215) rfl (by omega) ?_
          refine zx_T.l (i := .aload_n 0) (k := 1) (v := .ref 44) (pc := 216) rfl rfl rfl ?_
          refine zr_gr (k := 29) (b := 63) (pc := 217) rfl rfl rfl ih37 ?_
          refine zx_T.l (i := .iload 5) (k := 2) (v := .int (zI (k))) (pc := 220) rfl rfl rfl ?_
          refine zr_al (n := 14) (lo := 0) (hi := 8) (e := zv_a h2 63 k) (pc := 222) rfl rfl rfl ih37 (by omega) (by omega) (zv_wa w38 rfl k) (fun g40a g40b => ?_)
          refine zr_as (n := 840) (lo := 0) (hi := 8) (e := zv_a h2 63 k) (pc := 223) rfl rfl rfl rfl ih37 (by omega) (by omega) (by omega) (by omega) (fun h41 ih41 w42 s43 => ?_)
          refine zr_inc (x := k) (n := 1) (y := k + 1) (ls' := [(5, .int (zI (k + 1))), (0, .ref 44), (1, .int (zI (place))), (2, .ref 61), (3, .int (zI (many))), (4, .int (zI (14 * place)))]) (pc := 224) rfl rfl rfl (by omega) rfl ?_
          refine zx_T.j (i := .goto (-65)) (k := 3) (pc' := 162) (st' := []) (pc := 227) rfl rfl rfl rfl rfl ?_
          have a63 : ∀ j, 0 ≤ j → zv_a h41 63 j = zv_a h2 63 j := fun j hj => by rw [zv_wa w42 rfl j, zv_wa w38 rfl j]
          have a55 : ∀ j, 0 ≤ j → zv_a h41 55 j = if j = 14 * place + k then zv_a h2 63 k else zv_a h2 55 j := fun j hj => by rw [s43 j hj, zv_wa w38 rfl j]
          have y46 : zv_i h41 27 = 1 := ((zv_wi w42 rfl).trans e39)
          refine zx_T.lk (ls' := [(0, .ref 44), (1, .int (zI (place))), (2, .ref 61), (3, .int (zI (many))), (4, .int (zI (14 * place))), (5, .int (zI (k + 1)))]) rfl ⟨rfl, rfl, rfl, rfl, rfl, rfl, trivial⟩ ?_
          exact ih.2.2 (h2 := h41) (k := k + 1) ih41 (by omega) (by omega) (by omega) (by omega) (by omega) (by omega) (((hw.wd rfl : zb_W [(63, 0), (55, 0), (44, 27)] h _).tr (w38.wd rfl)).tr (w42.wd rfl)) (fun j j0 j1 => by rw [a63 j j0]; exact bo j j0 j1) (zs_cp (row := (fun j => zs_jn (zv_a h 55 (14 * place + j)) (zv_a h 61 j))) k1 kd (fun q q0 => a55 q q0) (bo k k1 (by omega))) (zs_chs k1 ch (by have b1 := bo k k1 (by omega); have b2 := kd (14 * place + k) (by omega); rw [if_neg (by omega)] at b2; omega)) (by omega)
        · refine zx_T.l (i := .aload_n 0) (k := 1) (v := .ref 44) (pc := 179) rfl rfl rfl ?_
          refine zr_gr (k := 17) (b := 55) (pc := 180) rfl rfl rfl hI2 ?_
          refine zx_T.l (i := .iload 4) (k := 2) (v := .int (zI (14 * place))) (pc := 183) rfl rfl rfl ?_
          refine zx_T.l (i := .iload 5) (k := 2) (v := .int (zI (k))) (pc := 185) rfl rfl rfl ?_
          refine zr_add (x := 14 * place) (y := k) (e := 14 * place + k) (pc := 187) rfl (by omega) ?_
          refine zr_al (n := 840) (lo := 0) (hi := 8) (e := zv_a h2 55 (14 * place + k)) (pc := 188) rfl rfl rfl hI2 (by omega) (by omega) rfl (fun g47a g47b => ?_)
          refine zx_T.l (i := .aload_n 0) (k := 1) (v := .ref 44) (pc := 189) rfl rfl rfl ?_
          refine zr_gr (k := 29) (b := 63) (pc := 190) rfl rfl rfl hI2 ?_
          refine zx_T.l (i := .iload 5) (k := 2) (v := .int (zI (k))) (pc := 193) rfl rfl rfl ?_
          refine zr_al (n := 14) (lo := 0) (hi := 8) (e := zv_a h2 63 k) (pc := 195) rfl rfl rfl hI2 (by omega) (by omega) rfl (fun g48a g48b => ?_)
          refine zr_i2 (x := zv_a h2 55 (14 * place + k)) (y := zv_a h2 63 k) (t := 203) (pc := 196) rfl rfl (by omega) (by omega) (by omega) (by omega) (fun (c49 : (zv_a h2 55 (14 * place + k)) = (zv_a h2 63 k)) => ?_) (fun (c49 : ¬ ((zv_a h2 55 (14 * place + k)) = (zv_a h2 63 k))) => ?_)
          · refine zx_T.s (i := .iconst 0) (k := 1) (st' := [.int (zI (0)), .ref 44]) (pc := 203) rfl rfl ?_
            refine zr_pi (k := 27) (lo := 0) (hi := 1) (e := 0) (pc := 204) rfl rfl rfl rfl rfl rfl hI2 (by omega) (by omega) (fun h50 ih50 w51 e52 => ?_)
            refine zx_T.l (i := .aload_n 0) (k := 1) (v := .ref 44) (pc := 207) rfl rfl rfl ?_
            refine zr_gr (k := 17) (b := 55) (pc := 208) rfl rfl rfl ih50 ?_
            refine zx_T.l (i := .iload 4) (k := 2) (v := .int (zI (14 * place))) (pc := 211) rfl rfl rfl ?_
            refine zx_T.l (i := .iload 5) (k := 2) (v := .int (zI (k))) (pc := 213) rfl rfl rfl ?_
            refine zr_add (x := 14 * place) (y := k) (e := 14 * place + k) (pc := 215) rfl (by omega) ?_
            refine zx_T.l (i := .aload_n 0) (k := 1) (v := .ref 44) (pc := 216) rfl rfl rfl ?_
            refine zr_gr (k := 29) (b := 63) (pc := 217) rfl rfl rfl ih50 ?_
            refine zx_T.l (i := .iload 5) (k := 2) (v := .int (zI (k))) (pc := 220) rfl rfl rfl ?_
            refine zr_al (n := 14) (lo := 0) (hi := 8) (e := zv_a h2 63 k) (pc := 222) rfl rfl rfl ih50 (by omega) (by omega) (zv_wa w51 rfl k) (fun g53a g53b => ?_)
            refine zr_as (n := 840) (lo := 0) (hi := 8) (e := zv_a h2 63 k) (pc := 223) rfl rfl rfl rfl ih50 (by omega) (by omega) (by omega) (by omega) (fun h54 ih54 w55 s56 => ?_)
            refine zr_inc (x := k) (n := 1) (y := k + 1) (ls' := [(5, .int (zI (k + 1))), (0, .ref 44), (1, .int (zI (place))), (2, .ref 61), (3, .int (zI (many))), (4, .int (zI (14 * place)))]) (pc := 224) rfl rfl rfl (by omega) rfl ?_
            refine zx_T.j (i := .goto (-65)) (k := 3) (pc' := 162) (st' := []) (pc := 227) rfl rfl rfl rfl rfl ?_
            have a63 : ∀ j, 0 ≤ j → zv_a h54 63 j = zv_a h2 63 j := fun j hj => by rw [zv_wa w55 rfl j, zv_wa w51 rfl j]
            have a55 : ∀ j, 0 ≤ j → zv_a h54 55 j = if j = 14 * place + k then zv_a h2 63 k else zv_a h2 55 j := fun j hj => by rw [s56 j hj, zv_wa w51 rfl j]
            have y59 : zv_i h54 27 = 0 := ((zv_wi w55 rfl).trans e52)
            refine zx_T.lk (ls' := [(0, .ref 44), (1, .int (zI (place))), (2, .ref 61), (3, .int (zI (many))), (4, .int (zI (14 * place))), (5, .int (zI (k + 1)))]) rfl ⟨rfl, rfl, rfl, rfl, rfl, rfl, trivial⟩ ?_
            exact ih.2.2 (h2 := h54) (k := k + 1) ih54 (by omega) (by omega) (by omega) (by omega) (by omega) (by omega) (((hw.wd rfl : zb_W [(63, 0), (55, 0), (44, 27)] h _).tr (w51.wd rfl)).tr (w55.wd rfl)) (fun j j0 j1 => by rw [a63 j j0]; exact bo j j0 j1) (zs_cp (row := (fun j => zs_jn (zv_a h 55 (14 * place + j)) (zv_a h 61 j))) k1 kd (fun q q0 => a55 q q0) (bo k k1 (by omega))) (zs_chs k1 ch (by have b1 := bo k k1 (by omega); have b2 := kd (14 * place + k) (by omega); rw [if_neg (by omega)] at b2; omega)) (by omega)
          · refine zx_T.s (i := .iconst 1) (k := 1) (st' := [.int (zI (1)), .ref 44]) (pc := 199) rfl rfl ?_
            refine zx_T.j (i := .goto 4) (k := 3) (pc' := 204) (st' := [.int (zI (1)), .ref 44]) (pc := 200) rfl rfl rfl rfl rfl ?_
            refine zr_pi (k := 27) (lo := 0) (hi := 1) (e := 1) (pc := 204) rfl rfl rfl rfl rfl rfl hI2 (by omega) (by omega) (fun h60 ih60 w61 e62 => ?_)
            refine zx_T.l (i := .aload_n 0) (k := 1) (v := .ref 44) (pc := 207) rfl rfl rfl ?_
            refine zr_gr (k := 17) (b := 55) (pc := 208) rfl rfl rfl ih60 ?_
            refine zx_T.l (i := .iload 4) (k := 2) (v := .int (zI (14 * place))) (pc := 211) rfl rfl rfl ?_
            refine zx_T.l (i := .iload 5) (k := 2) (v := .int (zI (k))) (pc := 213) rfl rfl rfl ?_
            refine zr_add (x := 14 * place) (y := k) (e := 14 * place + k) (pc := 215) rfl (by omega) ?_
            refine zx_T.l (i := .aload_n 0) (k := 1) (v := .ref 44) (pc := 216) rfl rfl rfl ?_
            refine zr_gr (k := 29) (b := 63) (pc := 217) rfl rfl rfl ih60 ?_
            refine zx_T.l (i := .iload 5) (k := 2) (v := .int (zI (k))) (pc := 220) rfl rfl rfl ?_
            refine zr_al (n := 14) (lo := 0) (hi := 8) (e := zv_a h2 63 k) (pc := 222) rfl rfl rfl ih60 (by omega) (by omega) (zv_wa w61 rfl k) (fun g63a g63b => ?_)
            refine zr_as (n := 840) (lo := 0) (hi := 8) (e := zv_a h2 63 k) (pc := 223) rfl rfl rfl rfl ih60 (by omega) (by omega) (by omega) (by omega) (fun h64 ih64 w65 s66 => ?_)
            refine zr_inc (x := k) (n := 1) (y := k + 1) (ls' := [(5, .int (zI (k + 1))), (0, .ref 44), (1, .int (zI (place))), (2, .ref 61), (3, .int (zI (many))), (4, .int (zI (14 * place)))]) (pc := 224) rfl rfl rfl (by omega) rfl ?_
            refine zx_T.j (i := .goto (-65)) (k := 3) (pc' := 162) (st' := []) (pc := 227) rfl rfl rfl rfl rfl ?_
            have a63 : ∀ j, 0 ≤ j → zv_a h64 63 j = zv_a h2 63 j := fun j hj => by rw [zv_wa w65 rfl j, zv_wa w61 rfl j]
            have a55 : ∀ j, 0 ≤ j → zv_a h64 55 j = if j = 14 * place + k then zv_a h2 63 k else zv_a h2 55 j := fun j hj => by rw [s66 j hj, zv_wa w61 rfl j]
            have y69 : zv_i h64 27 = 1 := ((zv_wi w65 rfl).trans e62)
            refine zx_T.lk (ls' := [(0, .ref 44), (1, .int (zI (place))), (2, .ref 61), (3, .int (zI (many))), (4, .int (zI (14 * place))), (5, .int (zI (k + 1)))]) rfl ⟨rfl, rfl, rfl, rfl, rfl, rfl, trivial⟩ ?_
            exact ih.2.2 (h2 := h64) (k := k + 1) ih64 (by omega) (by omega) (by omega) (by omega) (by omega) (by omega) (((hw.wd rfl : zb_W [(63, 0), (55, 0), (44, 27)] h _).tr (w61.wd rfl)).tr (w65.wd rfl)) (fun j j0 j1 => by rw [a63 j j0]; exact bo j j0 j1) (zs_cp (row := (fun j => zs_jn (zv_a h 55 (14 * place + j)) (zv_a h 61 j))) k1 kd (fun q q0 => a55 q q0) (bo k k1 (by omega))) (zs_chs k1 ch (by have b1 := bo k k1 (by omega); have b2 := kd (14 * place + k) (by omega); rw [if_neg (by omega)] at b2; omega)) (by omega)
set_option maxRecDepth 100000 in
set_option maxHeartbeats 4000000 in
theorem zm_joinF_61 {h : zx_H} (hI : zb_I zc_H h) {place : Int} {many : Int} (place1 : -2147483648 ≤ place) (place2 : place ≤ 2147483647) (many1 : 0 ≤ many) (many2 : many ≤ 6) (wk : 0 ≤ place → place < zv_i h 1 → zv_a h 54 place = 1 → zw_ok (0, zv_a h 56 place, fun j => zv_a h 55 (14 * place + j))) (wr : zw_ok (0, many, zv_a h 61)) : zx_T zp_P 2 zp_m174 0 [(0, .ref 44), (1, .int (zI (place))), (2, .ref 61), (3, .int (zI (many)))] [] h (zr_R [(54, 0), (44, 27), (56, 0), (55, 0), (63, 0)] h (fun e h' => zr_J h h' place many e (zv_a h 61))) := by
  have hC := zv_ri hI (k := 1) rfl
  refine zx_T.l (i := .iload_n 1) (k := 1) (v := .int (zI (place))) (pc := 0) rfl rfl rfl ?_
  refine zx_T.s (i := .iconst 0) (k := 1) (st' := [.int (zI (0)), .int (zI (place))]) (pc := 1) rfl rfl ?_
  refine zx_T.l (i := .aload_n 0) (k := 1) (v := .ref 44) (pc := 2) rfl rfl rfl ?_
  refine zr_gi (k := 1) (lo := 0) (hi := 60) (e := zv_i h 1) (pc := 3) rfl rfl rfl hI rfl (fun g70a g70b => ?_)
  refine zx_T.s (i := .iconst 1) (k := 1) (st' := [.int (zI (1)), .int (zI (zv_i h 1)), .int (zI (0)), .int (zI (place))]) (pc := 6) rfl rfl ?_
  refine zr_sub (x := zv_i h 1) (y := 1) (e := zv_i h 1 - 1) (pc := 7) rfl (by omega) ?_
  refine zr_is (cj := 155) (q' := zp_m155) (As := [.int (zI (place)), .int (zI (0)), .int (zI (zv_i h 1 - 1))]) (rest := []) (pc := 8) rfl rfl rfl rfl rfl rfl (Nat.le_of_ble_eq_true rfl) rfl (Nat.le_of_ble_eq_true rfl) rfl ((zm_in (h := h) hI (v := place) (l := 0) (u := zv_i h 1 - 1) (by omega) (by omega) (by omega) (by omega) (by omega) (by omega)).up (Nat.le_of_ble_eq_true rfl)) ?_
  rintro r71 h74 ⟨h74q, v72, r71q, x73⟩
  subst h74q r71q
  try dsimp only at x73
  show zx_T zp_P 2 zp_m174 11 [(0, .ref 44), (1, .int (zI (place))), (2, .ref 61), (3, .int (zI (many)))] [.int (zI (v72))] h _
  refine zr_i1 (x := v72) (t := 17) (pc := 11) rfl rfl (by omega) (by omega) (fun (c75 : ¬ v72 = 0) => ?_) (fun (c75 : ¬ (¬ v72 = 0)) => ?_)
  · refine zx_T.s (i := .bipush 14) (k := 2) (st' := [.int (zI (14))]) (pc := 17) rfl rfl ?_
    refine zx_T.l (i := .iload_n 1) (k := 1) (v := .int (zI (place))) (pc := 19) rfl rfl rfl ?_
    refine zr_mul (x := 14) (y := place) (e := 14 * place) (pc := 20) rfl (by omega) ?_
    refine zx_T.t (i := .istore 4) (k := 2) (ls' := [(4, .int (zI (14 * place))), (0, .ref 44), (1, .int (zI (place))), (2, .ref 61), (3, .int (zI (many)))]) (st' := []) (pc := 21) rfl rfl rfl rfl ?_
    refine zx_T.l (i := .aload_n 0) (k := 1) (v := .ref 44) (pc := 23) rfl rfl rfl ?_
    refine zr_gr (k := 16) (b := 54) (pc := 24) rfl rfl rfl hI ?_
    refine zx_T.l (i := .iload_n 1) (k := 1) (v := .int (zI (place))) (pc := 27) rfl rfl rfl ?_
    refine zr_bl (n := 60) (lo := 0) (hi := 1) (e := zv_a h 54 place) (pc := 28) rfl rfl rfl hI (by omega) (by omega) rfl (fun g76a g76b => ?_)
    refine zr_i1 (x := zv_a h 54 place) (t := 85) (pc := 29) rfl rfl (by omega) (by omega) (fun (c77 : ¬ (zv_a h 54 place) = 0) => ?_) (fun (c77 : ¬ (¬ (zv_a h 54 place) = 0)) => ?_)
    · refine zx_T.l (i := .aload_n 0) (k := 1) (v := .ref 44) (pc := 85) rfl rfl rfl ?_
      refine zr_gr (k := 18) (b := 56) (pc := 86) rfl rfl rfl hI ?_
      refine zx_T.l (i := .iload_n 1) (k := 1) (v := .int (zI (place))) (pc := 89) rfl rfl rfl ?_
      refine zr_al (n := 60) (lo := 0) (hi := 6) (e := zv_a h 56 place) (pc := 90) rfl rfl rfl hI (by omega) (by omega) rfl (fun g78a g78b => ?_)
      refine zx_T.l (i := .iload_n 3) (k := 1) (v := .int (zI (many))) (pc := 91) rfl rfl rfl ?_
      refine zr_i2 (x := zv_a h 56 place) (y := many) (t := 97) (pc := 92) rfl rfl (by omega) (by omega) (by omega) (by omega) (fun (c79 : (zv_a h 56 place) = many) => ?_) (fun (c79 : ¬ ((zv_a h 56 place) = many)) => ?_)
      · refine zx_T.s (i := .iconst 0) (k := 1) (st' := [.int (zI (0))]) (pc := 97) rfl rfl ?_
        refine zx_T.t (i := .istore 5) (k := 2) (ls' := [(5, .int (zI (0))), (4, .int (zI (14 * place))), (0, .ref 44), (1, .int (zI (place))), (2, .ref 61), (3, .int (zI (many)))]) (st' := []) (pc := 98) rfl rfl rfl rfl ?_
        have a63 : ∀ j, 0 ≤ j → zv_a h 63 j = zv_a h 63 j := fun j hj => rfl
        refine zx_T.lk (ls' := [(0, .ref 44), (1, .int (zI (place))), (2, .ref 61), (3, .int (zI (many))), (4, .int (zI (14 * place))), (5, .int (zI (0)))]) rfl ⟨rfl, rfl, rfl, rfl, rfl, rfl, trivial⟩ ?_
        exact (zm_joinF_61_L (h := h) hI (place := place) (many := many) place1 place2 many1 many2 wk wr ((many + 108 - 0 : Int).toNat + 1)).2.1 (h2 := h) (k := 0) hI (by omega) (by omega) (by omega) (by omega) (by omega) (by omega) zb_W.rf (fun j j0 j1 => absurd j1 (by omega)) (Nat.lt_succ_self _)
      · refine zx_T.s (i := .iconst 5) (k := 1) (st' := [.int (zI (5))]) (pc := 95) rfl rfl ?_
        exact zr_ir (x := 5) (pc := 96) rfl rfl rfl ⟨hI, zb_W.rf, _, rfl, by dsimp only; exact Or.inr (Or.inr (Or.inl ⟨by omega, by omega, by omega, rfl, ⟨fun _ _ => rfl, fun _ _ => rfl, fun _ _ => rfl, rfl⟩⟩))⟩
    · refine zx_T.l (i := .aload_n 0) (k := 1) (v := .ref 44) (pc := 32) rfl rfl rfl ?_
      refine zr_gr (k := 16) (b := 54) (pc := 33) rfl rfl rfl hI ?_
      refine zx_T.l (i := .iload_n 1) (k := 1) (v := .int (zI (place))) (pc := 36) rfl rfl rfl ?_
      refine zx_T.s (i := .iconst 1) (k := 1) (st' := [.int (zI (1)), .int (zI (place)), .ref 54]) (pc := 37) rfl rfl ?_
      refine zr_bs (n := 60) (e := 1) (pc := 38) rfl rfl rfl hI (by omega) (by omega) (by omega) (by omega) (fun h81 ih81 w82 s83 => ?_)
      refine zx_T.l (i := .aload_n 0) (k := 1) (v := .ref 44) (pc := 39) rfl rfl rfl ?_
      refine zx_T.s (i := .iconst 1) (k := 1) (st' := [.int (zI (1)), .ref 44]) (pc := 40) rfl rfl ?_
      refine zr_pi (k := 27) (lo := 0) (hi := 1) (e := 1) (pc := 41) rfl rfl rfl rfl rfl rfl ih81 (by omega) (by omega) (fun h84 ih84 w85 e86 => ?_)
      refine zx_T.l (i := .aload_n 0) (k := 1) (v := .ref 44) (pc := 44) rfl rfl rfl ?_
      refine zr_gr (k := 18) (b := 56) (pc := 45) rfl rfl rfl ih84 ?_
      refine zx_T.l (i := .iload_n 1) (k := 1) (v := .int (zI (place))) (pc := 48) rfl rfl rfl ?_
      refine zx_T.l (i := .iload_n 3) (k := 1) (v := .int (zI (many))) (pc := 49) rfl rfl rfl ?_
      refine zr_as (n := 60) (lo := 0) (hi := 6) (e := many) (pc := 50) rfl rfl rfl rfl ih84 (by omega) (by omega) (by omega) (by omega) (fun h87 ih87 w88 s89 => ?_)
      refine zx_T.s (i := .iconst 0) (k := 1) (st' := [.int (zI (0))]) (pc := 51) rfl rfl ?_
      refine zx_T.t (i := .istore 5) (k := 2) (ls' := [(5, .int (zI (0))), (4, .int (zI (14 * place))), (0, .ref 44), (1, .int (zI (place))), (2, .ref 61), (3, .int (zI (many)))]) (st' := []) (pc := 52) rfl rfl rfl rfl ?_
      have a54 : ∀ j, 0 ≤ j → zv_a h87 54 j = if j = place then 1 else zv_a h 54 j := fun j hj => by rw [zv_wa w88 rfl j, zv_wa w85 rfl j, s83 j hj]
      have a56 : ∀ j, 0 ≤ j → zv_a h87 56 j = if j = place then many else zv_a h 56 j := fun j hj => by rw [s89 j hj, zv_wa w85 rfl j, zv_wa w82 rfl j]
      have a55 : ∀ j, 0 ≤ j → zv_a h87 55 j = zv_a h 55 j := fun j hj => by rw [zv_wa w88 rfl j, zv_wa w85 rfl j, zv_wa w82 rfl j]
      have y93 : zv_i h87 27 = 1 := ((zv_wi w88 rfl).trans e86)
      refine zx_T.lk (ls' := [(0, .ref 44), (1, .int (zI (place))), (2, .ref 61), (3, .int (zI (many))), (4, .int (zI (14 * place))), (5, .int (zI (0)))]) rfl ⟨rfl, rfl, rfl, rfl, rfl, rfl, trivial⟩ ?_
      exact (zm_joinF_61_L (h := h) hI (place := place) (many := many) place1 place2 many1 many2 wk wr ((many + 8 - 0 : Int).toNat + 1)).1 (h2 := h87) (k := 0) ih87 (by omega) (by omega) (by omega) (by omega) (by omega) (((w82.wd rfl : zb_W [(54, 0), (44, 27), (56, 0), (55, 0), (63, 0)] h _).tr (w85.wd rfl)).tr (w88.wd rfl)) (fun q q0 => a54 q q0) (fun q q0 => a56 q q0) (by omega) (fun q q0 => by rw [if_neg (by omega)]; exact a55 q q0) (Nat.lt_succ_self _)
  · refine zx_T.s (i := .bipush 7) (k := 2) (st' := [.int (zI (7))]) (pc := 14) rfl rfl ?_
    exact zr_ir (x := 7) (pc := 16) rfl rfl rfl ⟨hI, zb_W.rf, _, rfl, by dsimp only; exact Or.inl ⟨by omega, rfl, ⟨fun _ _ => rfl, fun _ _ => rfl, fun _ _ => rfl, rfl⟩⟩⟩

set_option maxRecDepth 100000 in
set_option maxHeartbeats 4000000 in
theorem zm_joinF_62_L {h : zx_H} (hI : zb_I zc_H h) {place : Int} {many : Int} (place1 : -2147483648 ≤ place) (place2 : place ≤ 2147483647) (many1 : 0 ≤ many) (many2 : many ≤ 6) (wk : 0 ≤ place → place < zv_i h 1 → zv_a h 54 place = 1 → zw_ok (0, zv_a h 56 place, fun j => zv_a h 55 (14 * place + j))) (wr : zw_ok (0, many, zv_a h 62)) (n : Nat) : (∀ {h2 : zx_H} {k : Int} (hI2 : zb_I zc_H h2) (k1 : 0 ≤ k) (k2 : k ≤ many + 8) (q1 : 0 ≤ place) (q2 : place < zv_i h 1) (nr : ¬ zv_a h 54 place = 1) (hw : zb_W [(54, 0), (44, 27), (56, 0), (55, 0), (63, 0)] h h2) (ra : ∀ q, 0 ≤ q → zv_a h2 54 q = if q = place then 1 else zv_a h 54 q) (sa : ∀ q, 0 ≤ q → zv_a h2 56 q = if q = place then many else zv_a h 56 q) (ch : zv_i h2 27 = 1) (kd : ∀ q, 0 ≤ q → zv_a h2 55 q = if 14 * place ≤ q ∧ q < 14 * place + k then zv_a h 62 (q - 14 * place) else zv_a h 55 q), (many + 8 - k : Int).toNat < n → zx_T zp_P 2 zp_m174 54 [(0, .ref 44), (1, .int (zI (place))), (2, .ref 62), (3, .int (zI (many))), (4, .int (zI (14 * place))), (5, .int (zI (k)))] [] h2 (zr_R [(54, 0), (44, 27), (56, 0), (55, 0), (63, 0)] h (fun e h' => zr_J h h' place many e (zv_a h 62)))) ∧ (∀ {h2 : zx_H} {k : Int} (hI2 : zb_I zc_H h2) (k1 : 0 ≤ k) (k2 : k ≤ many + 8) (q1 : 0 ≤ place) (q2 : place < zv_i h 1) (re : zv_a h 54 place = 1) (sm : zv_a h 56 place = many) (hw : zb_W [(63, 0)] h h2) (bo : ∀ j, 0 ≤ j → j < k → zv_a h2 63 j = zs_jn (zv_a h 55 (14 * place + j)) (zv_a h 62 j)), (many + 108 - k : Int).toNat < n → zx_T zp_P 2 zp_m174 100 [(0, .ref 44), (1, .int (zI (place))), (2, .ref 62), (3, .int (zI (many))), (4, .int (zI (14 * place))), (5, .int (zI (k)))] [] h2 (zr_R [(54, 0), (44, 27), (56, 0), (55, 0), (63, 0)] h (fun e h' => zr_J h h' place many e (zv_a h 62)))) ∧ (∀ {h2 : zx_H} {k : Int} (hI2 : zb_I zc_H h2) (k1 : 0 ≤ k) (k2 : k ≤ many + 8) (q1 : 0 ≤ place) (q2 : place < zv_i h 1) (re : zv_a h 54 place = 1) (sm : zv_a h 56 place = many) (hw : zb_W [(63, 0), (55, 0), (44, 27)] h h2) (bo : ∀ j, 0 ≤ j → j < many + 8 → zv_a h2 63 j = zs_jn (zv_a h 55 (14 * place + j)) (zv_a h 62 j)) (kd : ∀ q, 0 ≤ q → zv_a h2 55 q = if 14 * place ≤ q ∧ q < 14 * place + k then (fun j => zs_jn (zv_a h 55 (14 * place + j)) (zv_a h 62 j)) (q - 14 * place) else zv_a h 55 q) (ch : zv_i h2 27 = 1 ↔ zv_i h 27 = 1 ∨ ∃ j, 0 ≤ j ∧ j < k ∧ ¬ zs_jn (zv_a h 55 (14 * place + j)) (zv_a h 62 j) = zv_a h 55 (14 * place + j)), (many + 8 - k : Int).toNat < n → zx_T zp_P 2 zp_m174 162 [(0, .ref 44), (1, .int (zI (place))), (2, .ref 62), (3, .int (zI (many))), (4, .int (zI (14 * place))), (5, .int (zI (k)))] [] h2 (zr_R [(54, 0), (44, 27), (56, 0), (55, 0), (63, 0)] h (fun e h' => zr_J h h' place many e (zv_a h 62)))) := by
  induction n with
  | zero => exact ⟨fun _ _ _ _ _ _ _ _ _ _ _ hm => absurd hm (Nat.not_lt_zero _), fun _ _ _ _ _ _ _ _ _ hm => absurd hm (Nat.not_lt_zero _), fun _ _ _ _ _ _ _ _ _ _ _ hm => absurd hm (Nat.not_lt_zero _)⟩
  | succ n ih =>
    refine ⟨?_, ?_, ?_⟩
    · intro h2 k hI2 k1 k2 q1 q2 nr hw ra sa ch kd hm
      have hC := zv_ri hI (k := 1) rfl
      refine zx_T.l (i := .iload 5) (k := 2) (v := .int (zI (k))) (pc := 54) rfl rfl rfl ?_
      refine zx_T.s (i := .bipush 8) (k := 2) (st' := [.int (zI (8)), .int (zI (k))]) (pc := 56) rfl rfl ?_
      refine zx_T.l (i := .iload_n 3) (k := 1) (v := .int (zI (many))) (pc := 58) rfl rfl rfl ?_
      refine zr_add (x := 8) (y := many) (e := many + 8) (pc := 59) rfl (by omega) ?_
      refine zr_i2 (x := k) (y := many + 8) (t := 83) (pc := 60) rfl rfl (by omega) (by omega) (by omega) (by omega) (fun (c1 : (many + 8) ≤ k) => ?_) (fun (c1 : ¬ ((many + 8) ≤ k)) => ?_)
      · refine zx_T.s (i := .iconst 0) (k := 1) (st' := [.int (zI (0))]) (pc := 83) rfl rfl ?_
        exact zr_ir (x := 0) (pc := 84) rfl rfl rfl ⟨hI2, (hw.wd rfl : zb_W [(54, 0), (44, 27), (56, 0), (55, 0), (63, 0)] h _), _, rfl, by dsimp only; exact Or.inr (Or.inl ⟨⟨q1, q2⟩, nr, rfl, ch, ra, sa, fun p p0 => by rw [kd p p0, show k = many + 8 by omega]⟩)⟩
      · refine zx_T.l (i := .aload_n 0) (k := 1) (v := .ref 44) (pc := 63) rfl rfl rfl ?_
        refine zr_gr (k := 17) (b := 55) (pc := 64) rfl rfl rfl hI2 ?_
        refine zx_T.l (i := .iload 4) (k := 2) (v := .int (zI (14 * place))) (pc := 67) rfl rfl rfl ?_
        refine zx_T.l (i := .iload 5) (k := 2) (v := .int (zI (k))) (pc := 69) rfl rfl rfl ?_
        refine zr_add (x := 14 * place) (y := k) (e := 14 * place + k) (pc := 71) rfl (by omega) ?_
        refine zx_T.l (i := .aload_n 2) (k := 1) (v := .ref 62) (pc := 72) rfl rfl rfl ?_
        refine zx_T.l (i := .iload 5) (k := 2) (v := .int (zI (k))) (pc := 73) rfl rfl rfl ?_
        refine zr_al (n := 14) (lo := 0) (hi := 8) (e := zv_a h 62 k) (pc := 75) rfl rfl rfl hI2 (by omega) (by omega) (zv_wa hw rfl k) (fun g2a g2b => ?_)
        refine zr_as (n := 840) (lo := 0) (hi := 8) (e := zv_a h 62 k) (pc := 76) rfl rfl rfl rfl hI2 (by omega) (by omega) (by omega) (by omega) (fun h3 ih3 w4 s5 => ?_)
        refine zr_inc (x := k) (n := 1) (y := k + 1) (ls' := [(5, .int (zI (k + 1))), (0, .ref 44), (1, .int (zI (place))), (2, .ref 62), (3, .int (zI (many))), (4, .int (zI (14 * place)))]) (pc := 77) rfl rfl rfl (by omega) rfl ?_
        refine zx_T.j (i := .goto (-26)) (k := 3) (pc' := 54) (st' := []) (pc := 80) rfl rfl rfl rfl rfl ?_
        have a54 : ∀ j, 0 ≤ j → zv_a h3 54 j = zv_a h2 54 j := fun j hj => by rw [zv_wa w4 rfl j]
        have a56 : ∀ j, 0 ≤ j → zv_a h3 56 j = zv_a h2 56 j := fun j hj => by rw [zv_wa w4 rfl j]
        have a55 : ∀ j, 0 ≤ j → zv_a h3 55 j = if j = 14 * place + k then zv_a h 62 k else zv_a h2 55 j := fun j hj => by rw [s5 j hj]
        have y9 : zv_i h3 27 = zv_i h2 27 := (zv_wi w4 rfl)
        refine zx_T.lk (ls' := [(0, .ref 44), (1, .int (zI (place))), (2, .ref 62), (3, .int (zI (many))), (4, .int (zI (14 * place))), (5, .int (zI (k + 1)))]) rfl ⟨rfl, rfl, rfl, rfl, rfl, rfl, trivial⟩ ?_
        exact ih.1 (h2 := h3) (k := k + 1) ih3 (by omega) (by omega) (by omega) (by omega) (by omega) ((hw.wd rfl : zb_W [(54, 0), (44, 27), (56, 0), (55, 0), (63, 0)] h _).tr (w4.wd rfl)) (fun q q0 => by rw [a54 q q0]; exact ra q q0) (fun q q0 => by rw [a56 q q0]; exact sa q q0) (by omega) (zs_cp k1 kd (fun q q0 => a55 q q0) (by first | rfl | exact zv_wa hw rfl k)) (by omega)
    · intro h2 k hI2 k1 k2 q1 q2 re sm hw bo hm
      have hC := zv_ri hI (k := 1) rfl
      refine zx_T.l (i := .iload 5) (k := 2) (v := .int (zI (k))) (pc := 100) rfl rfl rfl ?_
      refine zx_T.s (i := .bipush 8) (k := 2) (st' := [.int (zI (8)), .int (zI (k))]) (pc := 102) rfl rfl ?_
      refine zx_T.l (i := .iload_n 3) (k := 1) (v := .int (zI (many))) (pc := 104) rfl rfl rfl ?_
      refine zr_add (x := 8) (y := many) (e := many + 8) (pc := 105) rfl (by omega) ?_
      refine zr_i2 (x := k) (y := many + 8) (t := 139) (pc := 106) rfl rfl (by omega) (by omega) (by omega) (by omega) (fun (c10 : (many + 8) ≤ k) => ?_) (fun (c10 : ¬ ((many + 8) ≤ k)) => ?_)
      · refine zx_T.l (i := .aload_n 0) (k := 1) (v := .ref 44) (pc := 139) rfl rfl rfl ?_
        refine zr_gr (k := 29) (b := 63) (pc := 140) rfl rfl rfl hI2 ?_
        refine zx_T.s (i := .iconst 0) (k := 1) (st' := [.int (zI (0)), .ref 63]) (pc := 143) rfl rfl ?_
        refine zx_T.s (i := .bipush 8) (k := 2) (st' := [.int (zI (8)), .int (zI (0)), .ref 63]) (pc := 144) rfl rfl ?_
        refine zr_is (cj := 158) (q' := zp_m158) (As := [.ref 63, .int (zI (0)), .int (zI (8))]) (rest := []) (pc := 146) rfl rfl rfl rfl rfl rfl (Nat.le_of_ble_eq_true rfl) rfl (Nat.le_of_ble_eq_true rfl) rfl ((zm_wholeF_63 (h := h2) hI2 (f := 0) (m := 8) (by omega) (by omega) (by omega)).up (Nat.le_of_ble_eq_true rfl)) ?_
        rintro r11 h14 ⟨ih14, w15, r11q, x13⟩
        subst r11q
        try dsimp only at x13
        have wf1 := x13
        show zx_T zp_P 2 zp_m174 149 [(0, .ref 44), (1, .int (zI (place))), (2, .ref 62), (3, .int (zI (many))), (4, .int (zI (14 * place))), (5, .int (zI (k)))] [] h14 _
        refine zx_T.l (i := .aload_n 0) (k := 1) (v := .ref 44) (pc := 149) rfl rfl rfl ?_
        refine zr_gr (k := 29) (b := 63) (pc := 150) rfl rfl rfl ih14 ?_
        refine zx_T.s (i := .bipush 8) (k := 2) (st' := [.int (zI (8)), .ref 63]) (pc := 153) rfl rfl ?_
        refine zx_T.l (i := .iload_n 3) (k := 1) (v := .int (zI (many))) (pc := 155) rfl rfl rfl ?_
        refine zr_is (cj := 158) (q' := zp_m158) (As := [.ref 63, .int (zI (8)), .int (zI (many))]) (rest := []) (pc := 156) rfl rfl rfl rfl rfl rfl (Nat.le_of_ble_eq_true rfl) rfl (Nat.le_of_ble_eq_true rfl) rfl ((zm_wholeF_63 (h := h14) ih14 (f := 8) (m := many) (by omega) (by omega) (by omega)).up (Nat.le_of_ble_eq_true rfl)) ?_
        rintro r16 h19 ⟨ih19, w20, r16q, x18⟩
        subst r16q
        try dsimp only at x18
        have wf2 := x18
        show zx_T zp_P 2 zp_m174 159 [(0, .ref 44), (1, .int (zI (place))), (2, .ref 62), (3, .int (zI (many))), (4, .int (zI (14 * place))), (5, .int (zI (k)))] [] h19 _
        refine zx_T.s (i := .iconst 0) (k := 1) (st' := [.int (zI (0))]) (pc := 159) rfl rfl ?_
        refine zx_T.t (i := .istore 5) (k := 2) (ls' := [(5, .int (zI (0))), (0, .ref 44), (1, .int (zI (place))), (2, .ref 62), (3, .int (zI (many))), (4, .int (zI (14 * place)))]) (st' := []) (pc := 160) rfl rfl rfl rfl ?_
        have a63 : ∀ j, 0 ≤ j → zv_a h19 63 j = zv_a h19 63 j := fun j hj => rfl
        have a55 : ∀ j, 0 ≤ j → zv_a h19 55 j = zv_a h 55 j := fun j hj => by rw [zv_wa w20 rfl j, zv_wa w15 rfl j, zv_wa hw rfl j]
        have y23 : zv_i h19 27 = zv_i h 27 := ((zv_wi w20 rfl).trans ((zv_wi w15 rfl).trans (zv_wi hw rfl)))
        refine zx_T.lk (ls' := [(0, .ref 44), (1, .int (zI (place))), (2, .ref 62), (3, .int (zI (many))), (4, .int (zI (14 * place))), (5, .int (zI (0)))]) rfl ⟨rfl, rfl, rfl, rfl, rfl, rfl, trivial⟩ ?_
        exact ih.2.2 (h2 := h19) (k := 0) ih19 (by omega) (by omega) (by omega) (by omega) (by omega) (by omega) (((hw.wd rfl : zb_W [(63, 0), (55, 0), (44, 27)] h _).tr (w15.wd rfl)).tr (w20.wd rfl)) (zr_bo (fun j => zs_jn (zv_a h 55 (14 * place + j)) (zv_a h 62 j)) (zw_jn (wk q1 q2 re).1.1 wr.1.1) (zw_jn (by have z := (wk q1 q2 re).1.2; rw [sm] at z; exact z) wr.1.2) (by omega) (fun j j0 j1 => bo j j0 (by omega)) wf1 wf2) (fun q q0 => by rw [if_neg (by omega)]; exact a55 q q0) ⟨fun z => Or.inl (by omega), fun z => by rcases z with z | ⟨j, j0, j1, _⟩ <;> omega⟩ (by omega)
      · refine zx_T.l (i := .aload_n 0) (k := 1) (v := .ref 44) (pc := 109) rfl rfl rfl ?_
        refine zr_gr (k := 29) (b := 63) (pc := 110) rfl rfl rfl hI2 ?_
        refine zx_T.l (i := .iload 5) (k := 2) (v := .int (zI (k))) (pc := 113) rfl rfl rfl ?_
        refine zx_T.l (i := .aload_n 0) (k := 1) (v := .ref 44) (pc := 115) rfl rfl rfl ?_
        refine zr_gr (k := 17) (b := 55) (pc := 116) rfl rfl rfl hI2 ?_
        refine zx_T.l (i := .iload 4) (k := 2) (v := .int (zI (14 * place))) (pc := 119) rfl rfl rfl ?_
        refine zx_T.l (i := .iload 5) (k := 2) (v := .int (zI (k))) (pc := 121) rfl rfl rfl ?_
        refine zr_add (x := 14 * place) (y := k) (e := 14 * place + k) (pc := 123) rfl (by omega) ?_
        refine zr_al (n := 840) (lo := 0) (hi := 8) (e := zv_a h 55 (14 * place + k)) (pc := 124) rfl rfl rfl hI2 (by omega) (by omega) (zv_wa hw rfl (14 * place + k)) (fun g24a g24b => ?_)
        refine zx_T.l (i := .aload_n 2) (k := 1) (v := .ref 62) (pc := 125) rfl rfl rfl ?_
        refine zx_T.l (i := .iload 5) (k := 2) (v := .int (zI (k))) (pc := 126) rfl rfl rfl ?_
        refine zr_al (n := 14) (lo := 0) (hi := 8) (e := zv_a h 62 k) (pc := 128) rfl rfl rfl hI2 (by omega) (by omega) (zv_wa hw rfl k) (fun g25a g25b => ?_)
        refine zr_is (cj := 157) (q' := zp_m157) (As := [.int (zI (zv_a h 55 (14 * place + k))), .int (zI (zv_a h 62 k))]) (rest := [.int (zI (k)), .ref 63]) (pc := 129) rfl rfl rfl rfl rfl rfl (Nat.le_of_ble_eq_true rfl) rfl (Nat.le_of_ble_eq_true rfl) rfl ((zm_joinedF (h := h2) hI2 (a := zv_a h 55 (14 * place + k)) (b := zv_a h 62 k) (by omega) (by omega) (by omega) (by omega)).up (Nat.le_of_ble_eq_true rfl)) ?_
        rintro r26 h29 ⟨h29q, v27, r26q, x28⟩
        subst h29q r26q
        try dsimp only at x28
        show zx_T zp_P 2 zp_m174 132 [(0, .ref 44), (1, .int (zI (place))), (2, .ref 62), (3, .int (zI (many))), (4, .int (zI (14 * place))), (5, .int (zI (k)))] [.int (zI (v27)), .int (zI (k)), .ref 63] h2 _
        refine zr_as (n := 14) (lo := 0) (hi := 8) (e := v27) (pc := 132) rfl rfl rfl rfl hI2 (by omega) (by omega) (by omega) (by omega) (fun h30 ih30 w31 s32 => ?_)
        refine zr_inc (x := k) (n := 1) (y := k + 1) (ls' := [(5, .int (zI (k + 1))), (0, .ref 44), (1, .int (zI (place))), (2, .ref 62), (3, .int (zI (many))), (4, .int (zI (14 * place)))]) (pc := 133) rfl rfl rfl (by omega) rfl ?_
        refine zx_T.j (i := .goto (-36)) (k := 3) (pc' := 100) (st' := []) (pc := 136) rfl rfl rfl rfl rfl ?_
        have a63 : ∀ j, 0 ≤ j → zv_a h30 63 j = if j = k then v27 else zv_a h2 63 j := fun j hj => by rw [s32 j hj]
        refine zx_T.lk (ls' := [(0, .ref 44), (1, .int (zI (place))), (2, .ref 62), (3, .int (zI (many))), (4, .int (zI (14 * place))), (5, .int (zI (k + 1)))]) rfl ⟨rfl, rfl, rfl, rfl, rfl, rfl, trivial⟩ ?_
        exact ih.2.1 (h2 := h30) (k := k + 1) ih30 (by omega) (by omega) (by omega) (by omega) (by omega) (by omega) ((hw.wd rfl : zb_W [(63, 0)] h _).tr (w31.wd rfl)) (fun j j0 j1 => by have b9 := a63 j j0; split at b9 <;> first | (rw [b9]; exact bo j j0 (by omega)) | (next e9 => subst e9; rw [b9]; omega)) (by omega)
    · intro h2 k hI2 k1 k2 q1 q2 re sm hw bo kd ch hm
      have hC := zv_ri hI (k := 1) rfl
      refine zx_T.l (i := .iload 5) (k := 2) (v := .int (zI (k))) (pc := 162) rfl rfl rfl ?_
      refine zx_T.s (i := .bipush 8) (k := 2) (st' := [.int (zI (8)), .int (zI (k))]) (pc := 164) rfl rfl ?_
      refine zx_T.l (i := .iload_n 3) (k := 1) (v := .int (zI (many))) (pc := 166) rfl rfl rfl ?_
      refine zr_add (x := 8) (y := many) (e := many + 8) (pc := 167) rfl (by omega) ?_
      refine zr_i2 (x := k) (y := many + 8) (t := 230) (pc := 168) rfl rfl (by omega) (by omega) (by omega) (by omega) (fun (c34 : (many + 8) ≤ k) => ?_) (fun (c34 : ¬ ((many + 8) ≤ k)) => ?_)
      · refine zx_T.s (i := .iconst 0) (k := 1) (st' := [.int (zI (0))]) (pc := 230) rfl rfl ?_
        exact zr_ir (x := 0) (pc := 231) rfl rfl rfl ⟨hI2, (hw.wd rfl : zb_W [(54, 0), (44, 27), (56, 0), (55, 0), (63, 0)] h _), _, rfl, by dsimp only; exact Or.inr (Or.inr (Or.inr ⟨⟨q1, q2⟩, re, sm, rfl, fun p p0 => zv_wa hw rfl p, fun p p0 => zv_wa hw rfl p, fun p p0 => by rw [kd p p0, show k = many + 8 by omega]; dsimp only; by_cases c : 14 * place ≤ p ∧ p < 14 * place + (many + 8); rw [if_pos c, if_pos c, show 14 * place + (p - 14 * place) = p by omega]; rw [if_neg c, if_neg c], by rw [show many + 8 = k by omega]; exact ch⟩))⟩
      · refine zx_T.l (i := .aload_n 0) (k := 1) (v := .ref 44) (pc := 171) rfl rfl rfl ?_
        refine zx_T.l (i := .aload_n 0) (k := 1) (v := .ref 44) (pc := 172) rfl rfl rfl ?_
        refine zr_gi (k := 27) (lo := 0) (hi := 1) (e := zv_i h2 27) (pc := 173) rfl rfl rfl hI2 rfl (fun g35a g35b => ?_)
        refine zr_i1 (x := zv_i h2 27) (t := 199) (pc := 176) rfl rfl (by omega) (by omega) (fun (c36 : ¬ (zv_i h2 27) = 0) => ?_) (fun (c36 : ¬ (¬ (zv_i h2 27) = 0)) => ?_)
        · refine zx_T.s (i := .iconst 1) (k := 1) (st' := [.int (zI (1)), .ref 44]) (pc := 199) rfl rfl ?_
          refine zx_T.j (i := .goto 4) (k := 3) (pc' := 204) (st' := [.int (zI (1)), .ref 44]) (pc := 200) rfl rfl rfl rfl rfl ?_
          refine zr_pi (k := 27) (lo := 0) (hi := 1) (e := 1) (pc := 204) rfl rfl rfl rfl rfl rfl hI2 (by omega) (by omega) (fun h37 ih37 w38 e39 => ?_)
          refine zx_T.l (i := .aload_n 0) (k := 1) (v := .ref 44) (pc := 207) rfl rfl rfl ?_
          refine zr_gr (k := 17) (b := 55) (pc := 208) rfl rfl rfl ih37 ?_
          refine zx_T.l (i := .iload 4) (k := 2) (v := .int (zI (14 * place))) (pc := 211) rfl rfl rfl ?_
          refine zx_T.l (i := .iload 5) (k := 2) (v := .int (zI (k))) (pc := 213) rfl rfl rfl ?_
          refine zr_add (x := 14 * place) (y := k) (e := 14 * place + k) (pc := 215) rfl (by omega) ?_
          refine zx_T.l (i := .aload_n 0) (k := 1) (v := .ref 44) (pc := 216) rfl rfl rfl ?_
          refine zr_gr (k := 29) (b := 63) (pc := 217) rfl rfl rfl ih37 ?_
          refine zx_T.l (i := .iload 5) (k := 2) (v := .int (zI (k))) (pc := 220) rfl rfl rfl ?_
          refine zr_al (n := 14) (lo := 0) (hi := 8) (e := zv_a h2 63 k) (pc := 222) rfl rfl rfl ih37 (by omega) (by omega) (zv_wa w38 rfl k) (fun g40a g40b => ?_)
          refine zr_as (n := 840) (lo := 0) (hi := 8) (e := zv_a h2 63 k) (pc := 223) rfl rfl rfl rfl ih37 (by omega) (by omega) (by omega) (by omega) (fun h41 ih41 w42 s43 => ?_)
          refine zr_inc (x := k) (n := 1) (y := k + 1) (ls' := [(5, .int (zI (k + 1))), (0, .ref 44), (1, .int (zI (place))), (2, .ref 62), (3, .int (zI (many))), (4, .int (zI (14 * place)))]) (pc := 224) rfl rfl rfl (by omega) rfl ?_
          refine zx_T.j (i := .goto (-65)) (k := 3) (pc' := 162) (st' := []) (pc := 227) rfl rfl rfl rfl rfl ?_
          have a63 : ∀ j, 0 ≤ j → zv_a h41 63 j = zv_a h2 63 j := fun j hj => by rw [zv_wa w42 rfl j, zv_wa w38 rfl j]
          have a55 : ∀ j, 0 ≤ j → zv_a h41 55 j = if j = 14 * place + k then zv_a h2 63 k else zv_a h2 55 j := fun j hj => by rw [s43 j hj, zv_wa w38 rfl j]
          have y46 : zv_i h41 27 = 1 := ((zv_wi w42 rfl).trans e39)
          refine zx_T.lk (ls' := [(0, .ref 44), (1, .int (zI (place))), (2, .ref 62), (3, .int (zI (many))), (4, .int (zI (14 * place))), (5, .int (zI (k + 1)))]) rfl ⟨rfl, rfl, rfl, rfl, rfl, rfl, trivial⟩ ?_
          exact ih.2.2 (h2 := h41) (k := k + 1) ih41 (by omega) (by omega) (by omega) (by omega) (by omega) (by omega) (((hw.wd rfl : zb_W [(63, 0), (55, 0), (44, 27)] h _).tr (w38.wd rfl)).tr (w42.wd rfl)) (fun j j0 j1 => by rw [a63 j j0]; exact bo j j0 j1) (zs_cp (row := (fun j => zs_jn (zv_a h 55 (14 * place + j)) (zv_a h 62 j))) k1 kd (fun q q0 => a55 q q0) (bo k k1 (by omega))) (zs_chs k1 ch (by have b1 := bo k k1 (by omega); have b2 := kd (14 * place + k) (by omega); rw [if_neg (by omega)] at b2; omega)) (by omega)
        · refine zx_T.l (i := .aload_n 0) (k := 1) (v := .ref 44) (pc := 179) rfl rfl rfl ?_
          refine zr_gr (k := 17) (b := 55) (pc := 180) rfl rfl rfl hI2 ?_
          refine zx_T.l (i := .iload 4) (k := 2) (v := .int (zI (14 * place))) (pc := 183) rfl rfl rfl ?_
          refine zx_T.l (i := .iload 5) (k := 2) (v := .int (zI (k))) (pc := 185) rfl rfl rfl ?_
          refine zr_add (x := 14 * place) (y := k) (e := 14 * place + k) (pc := 187) rfl (by omega) ?_
          refine zr_al (n := 840) (lo := 0) (hi := 8) (e := zv_a h2 55 (14 * place + k)) (pc := 188) rfl rfl rfl hI2 (by omega) (by omega) rfl (fun g47a g47b => ?_)
          refine zx_T.l (i := .aload_n 0) (k := 1) (v := .ref 44) (pc := 189) rfl rfl rfl ?_
          refine zr_gr (k := 29) (b := 63) (pc := 190) rfl rfl rfl hI2 ?_
          refine zx_T.l (i := .iload 5) (k := 2) (v := .int (zI (k))) (pc := 193) rfl rfl rfl ?_
          refine zr_al (n := 14) (lo := 0) (hi := 8) (e := zv_a h2 63 k) (pc := 195) rfl rfl rfl hI2 (by omega) (by omega) rfl (fun g48a g48b => ?_)
          refine zr_i2 (x := zv_a h2 55 (14 * place + k)) (y := zv_a h2 63 k) (t := 203) (pc := 196) rfl rfl (by omega) (by omega) (by omega) (by omega) (fun (c49 : (zv_a h2 55 (14 * place + k)) = (zv_a h2 63 k)) => ?_) (fun (c49 : ¬ ((zv_a h2 55 (14 * place + k)) = (zv_a h2 63 k))) => ?_)
          · refine zx_T.s (i := .iconst 0) (k := 1) (st' := [.int (zI (0)), .ref 44]) (pc := 203) rfl rfl ?_
            refine zr_pi (k := 27) (lo := 0) (hi := 1) (e := 0) (pc := 204) rfl rfl rfl rfl rfl rfl hI2 (by omega) (by omega) (fun h50 ih50 w51 e52 => ?_)
            refine zx_T.l (i := .aload_n 0) (k := 1) (v := .ref 44) (pc := 207) rfl rfl rfl ?_
            refine zr_gr (k := 17) (b := 55) (pc := 208) rfl rfl rfl ih50 ?_
            refine zx_T.l (i := .iload 4) (k := 2) (v := .int (zI (14 * place))) (pc := 211) rfl rfl rfl ?_
            refine zx_T.l (i := .iload 5) (k := 2) (v := .int (zI (k))) (pc := 213) rfl rfl rfl ?_
            refine zr_add (x := 14 * place) (y := k) (e := 14 * place + k) (pc := 215) rfl (by omega) ?_
            refine zx_T.l (i := .aload_n 0) (k := 1) (v := .ref 44) (pc := 216) rfl rfl rfl ?_
            refine zr_gr (k := 29) (b := 63) (pc := 217) rfl rfl rfl ih50 ?_
            refine zx_T.l (i := .iload 5) (k := 2) (v := .int (zI (k))) (pc := 220) rfl rfl rfl ?_
            refine zr_al (n := 14) (lo := 0) (hi := 8) (e := zv_a h2 63 k) (pc := 222) rfl rfl rfl ih50 (by omega) (by omega) (zv_wa w51 rfl k) (fun g53a g53b => ?_)
            refine zr_as (n := 840) (lo := 0) (hi := 8) (e := zv_a h2 63 k) (pc := 223) rfl rfl rfl rfl ih50 (by omega) (by omega) (by omega) (by omega) (fun h54 ih54 w55 s56 => ?_)
            refine zr_inc (x := k) (n := 1) (y := k + 1) (ls' := [(5, .int (zI (k + 1))), (0, .ref 44), (1, .int (zI (place))), (2, .ref 62), (3, .int (zI (many))), (4, .int (zI (14 * place)))]) (pc := 224) rfl rfl rfl (by omega) rfl ?_
            refine zx_T.j (i := .goto (-65)) (k := 3) (pc' := 162) (st' := []) (pc := 227) rfl rfl rfl rfl rfl ?_
            have a63 : ∀ j, 0 ≤ j → zv_a h54 63 j = zv_a h2 63 j := fun j hj => by rw [zv_wa w55 rfl j, zv_wa w51 rfl j]
            have a55 : ∀ j, 0 ≤ j → zv_a h54 55 j = if j = 14 * place + k then zv_a h2 63 k else zv_a h2 55 j := fun j hj => by rw [s56 j hj, zv_wa w51 rfl j]
            have y59 : zv_i h54 27 = 0 := ((zv_wi w55 rfl).trans e52)
            refine zx_T.lk (ls' := [(0, .ref 44), (1, .int (zI (place))), (2, .ref 62), (3, .int (zI (many))), (4, .int (zI (14 * place))), (5, .int (zI (k + 1)))]) rfl ⟨rfl, rfl, rfl, rfl, rfl, rfl, trivial⟩ ?_
            exact ih.2.2 (h2 := h54) (k := k + 1) ih54 (by omega) (by omega) (by omega) (by omega) (by omega) (by omega) (((hw.wd rfl : zb_W [(63, 0), (55, 0), (44, 27)] h _).tr (w51.wd rfl)).tr (w55.wd rfl)) (fun j j0 j1 => by rw [a63 j j0]; exact bo j j0 j1) (zs_cp (row := (fun j => zs_jn (zv_a h 55 (14 * place + j)) (zv_a h 62 j))) k1 kd (fun q q0 => a55 q q0) (bo k k1 (by omega))) (zs_chs k1 ch (by have b1 := bo k k1 (by omega); have b2 := kd (14 * place + k) (by omega); rw [if_neg (by omega)] at b2; omega)) (by omega)
          · refine zx_T.s (i := .iconst 1) (k := 1) (st' := [.int (zI (1)), .ref 44]) (pc := 199) rfl rfl ?_
            refine zx_T.j (i := .goto 4) (k := 3) (pc' := 204) (st' := [.int (zI (1)), .ref 44]) (pc := 200) rfl rfl rfl rfl rfl ?_
            refine zr_pi (k := 27) (lo := 0) (hi := 1) (e := 1) (pc := 204) rfl rfl rfl rfl rfl rfl hI2 (by omega) (by omega) (fun h60 ih60 w61 e62 => ?_)
            refine zx_T.l (i := .aload_n 0) (k := 1) (v := .ref 44) (pc := 207) rfl rfl rfl ?_
            refine zr_gr (k := 17) (b := 55) (pc := 208) rfl rfl rfl ih60 ?_
            refine zx_T.l (i := .iload 4) (k := 2) (v := .int (zI (14 * place))) (pc := 211) rfl rfl rfl ?_
            refine zx_T.l (i := .iload 5) (k := 2) (v := .int (zI (k))) (pc := 213) rfl rfl rfl ?_
            refine zr_add (x := 14 * place) (y := k) (e := 14 * place + k) (pc := 215) rfl (by omega) ?_
            refine zx_T.l (i := .aload_n 0) (k := 1) (v := .ref 44) (pc := 216) rfl rfl rfl ?_
            refine zr_gr (k := 29) (b := 63) (pc := 217) rfl rfl rfl ih60 ?_
            refine zx_T.l (i := .iload 5) (k := 2) (v := .int (zI (k))) (pc := 220) rfl rfl rfl ?_
            refine zr_al (n := 14) (lo := 0) (hi := 8) (e := zv_a h2 63 k) (pc := 222) rfl rfl rfl ih60 (by omega) (by omega) (zv_wa w61 rfl k) (fun g63a g63b => ?_)
            refine zr_as (n := 840) (lo := 0) (hi := 8) (e := zv_a h2 63 k) (pc := 223) rfl rfl rfl rfl ih60 (by omega) (by omega) (by omega) (by omega) (fun h64 ih64 w65 s66 => ?_)
            refine zr_inc (x := k) (n := 1) (y := k + 1) (ls' := [(5, .int (zI (k + 1))), (0, .ref 44), (1, .int (zI (place))), (2, .ref 62), (3, .int (zI (many))), (4, .int (zI (14 * place)))]) (pc := 224) rfl rfl rfl (by omega) rfl ?_
            refine zx_T.j (i := .goto (-65)) (k := 3) (pc' := 162) (st' := []) (pc := 227) rfl rfl rfl rfl rfl ?_
            have a63 : ∀ j, 0 ≤ j → zv_a h64 63 j = zv_a h2 63 j := fun j hj => by rw [zv_wa w65 rfl j, zv_wa w61 rfl j]
            have a55 : ∀ j, 0 ≤ j → zv_a h64 55 j = if j = 14 * place + k then zv_a h2 63 k else zv_a h2 55 j := fun j hj => by rw [s66 j hj, zv_wa w61 rfl j]
            have y69 : zv_i h64 27 = 1 := ((zv_wi w65 rfl).trans e62)
            refine zx_T.lk (ls' := [(0, .ref 44), (1, .int (zI (place))), (2, .ref 62), (3, .int (zI (many))), (4, .int (zI (14 * place))), (5, .int (zI (k + 1)))]) rfl ⟨rfl, rfl, rfl, rfl, rfl, rfl, trivial⟩ ?_
            exact ih.2.2 (h2 := h64) (k := k + 1) ih64 (by omega) (by omega) (by omega) (by omega) (by omega) (by omega) (((hw.wd rfl : zb_W [(63, 0), (55, 0), (44, 27)] h _).tr (w61.wd rfl)).tr (w65.wd rfl)) (fun j j0 j1 => by rw [a63 j j0]; exact bo j j0 j1) (zs_cp (row := (fun j => zs_jn (zv_a h 55 (14 * place + j)) (zv_a h 62 j))) k1 kd (fun q q0 => a55 q q0) (bo k k1 (by omega))) (zs_chs k1 ch (by have b1 := bo k k1 (by omega); have b2 := kd (14 * place + k) (by omega); rw [if_neg (by omega)] at b2; omega)) (by omega)
set_option maxRecDepth 100000 in
set_option maxHeartbeats 4000000 in
theorem zm_joinF_62 {h : zx_H} (hI : zb_I zc_H h) {place : Int} {many : Int} (place1 : -2147483648 ≤ place) (place2 : place ≤ 2147483647) (many1 : 0 ≤ many) (many2 : many ≤ 6) (wk : 0 ≤ place → place < zv_i h 1 → zv_a h 54 place = 1 → zw_ok (0, zv_a h 56 place, fun j => zv_a h 55 (14 * place + j))) (wr : zw_ok (0, many, zv_a h 62)) : zx_T zp_P 2 zp_m174 0 [(0, .ref 44), (1, .int (zI (place))), (2, .ref 62), (3, .int (zI (many)))] [] h (zr_R [(54, 0), (44, 27), (56, 0), (55, 0), (63, 0)] h (fun e h' => zr_J h h' place many e (zv_a h 62))) := by
  have hC := zv_ri hI (k := 1) rfl
  refine zx_T.l (i := .iload_n 1) (k := 1) (v := .int (zI (place))) (pc := 0) rfl rfl rfl ?_
  refine zx_T.s (i := .iconst 0) (k := 1) (st' := [.int (zI (0)), .int (zI (place))]) (pc := 1) rfl rfl ?_
  refine zx_T.l (i := .aload_n 0) (k := 1) (v := .ref 44) (pc := 2) rfl rfl rfl ?_
  refine zr_gi (k := 1) (lo := 0) (hi := 60) (e := zv_i h 1) (pc := 3) rfl rfl rfl hI rfl (fun g70a g70b => ?_)
  refine zx_T.s (i := .iconst 1) (k := 1) (st' := [.int (zI (1)), .int (zI (zv_i h 1)), .int (zI (0)), .int (zI (place))]) (pc := 6) rfl rfl ?_
  refine zr_sub (x := zv_i h 1) (y := 1) (e := zv_i h 1 - 1) (pc := 7) rfl (by omega) ?_
  refine zr_is (cj := 155) (q' := zp_m155) (As := [.int (zI (place)), .int (zI (0)), .int (zI (zv_i h 1 - 1))]) (rest := []) (pc := 8) rfl rfl rfl rfl rfl rfl (Nat.le_of_ble_eq_true rfl) rfl (Nat.le_of_ble_eq_true rfl) rfl ((zm_in (h := h) hI (v := place) (l := 0) (u := zv_i h 1 - 1) (by omega) (by omega) (by omega) (by omega) (by omega) (by omega)).up (Nat.le_of_ble_eq_true rfl)) ?_
  rintro r71 h74 ⟨h74q, v72, r71q, x73⟩
  subst h74q r71q
  try dsimp only at x73
  show zx_T zp_P 2 zp_m174 11 [(0, .ref 44), (1, .int (zI (place))), (2, .ref 62), (3, .int (zI (many)))] [.int (zI (v72))] h _
  refine zr_i1 (x := v72) (t := 17) (pc := 11) rfl rfl (by omega) (by omega) (fun (c75 : ¬ v72 = 0) => ?_) (fun (c75 : ¬ (¬ v72 = 0)) => ?_)
  · refine zx_T.s (i := .bipush 14) (k := 2) (st' := [.int (zI (14))]) (pc := 17) rfl rfl ?_
    refine zx_T.l (i := .iload_n 1) (k := 1) (v := .int (zI (place))) (pc := 19) rfl rfl rfl ?_
    refine zr_mul (x := 14) (y := place) (e := 14 * place) (pc := 20) rfl (by omega) ?_
    refine zx_T.t (i := .istore 4) (k := 2) (ls' := [(4, .int (zI (14 * place))), (0, .ref 44), (1, .int (zI (place))), (2, .ref 62), (3, .int (zI (many)))]) (st' := []) (pc := 21) rfl rfl rfl rfl ?_
    refine zx_T.l (i := .aload_n 0) (k := 1) (v := .ref 44) (pc := 23) rfl rfl rfl ?_
    refine zr_gr (k := 16) (b := 54) (pc := 24) rfl rfl rfl hI ?_
    refine zx_T.l (i := .iload_n 1) (k := 1) (v := .int (zI (place))) (pc := 27) rfl rfl rfl ?_
    refine zr_bl (n := 60) (lo := 0) (hi := 1) (e := zv_a h 54 place) (pc := 28) rfl rfl rfl hI (by omega) (by omega) rfl (fun g76a g76b => ?_)
    refine zr_i1 (x := zv_a h 54 place) (t := 85) (pc := 29) rfl rfl (by omega) (by omega) (fun (c77 : ¬ (zv_a h 54 place) = 0) => ?_) (fun (c77 : ¬ (¬ (zv_a h 54 place) = 0)) => ?_)
    · refine zx_T.l (i := .aload_n 0) (k := 1) (v := .ref 44) (pc := 85) rfl rfl rfl ?_
      refine zr_gr (k := 18) (b := 56) (pc := 86) rfl rfl rfl hI ?_
      refine zx_T.l (i := .iload_n 1) (k := 1) (v := .int (zI (place))) (pc := 89) rfl rfl rfl ?_
      refine zr_al (n := 60) (lo := 0) (hi := 6) (e := zv_a h 56 place) (pc := 90) rfl rfl rfl hI (by omega) (by omega) rfl (fun g78a g78b => ?_)
      refine zx_T.l (i := .iload_n 3) (k := 1) (v := .int (zI (many))) (pc := 91) rfl rfl rfl ?_
      refine zr_i2 (x := zv_a h 56 place) (y := many) (t := 97) (pc := 92) rfl rfl (by omega) (by omega) (by omega) (by omega) (fun (c79 : (zv_a h 56 place) = many) => ?_) (fun (c79 : ¬ ((zv_a h 56 place) = many)) => ?_)
      · refine zx_T.s (i := .iconst 0) (k := 1) (st' := [.int (zI (0))]) (pc := 97) rfl rfl ?_
        refine zx_T.t (i := .istore 5) (k := 2) (ls' := [(5, .int (zI (0))), (4, .int (zI (14 * place))), (0, .ref 44), (1, .int (zI (place))), (2, .ref 62), (3, .int (zI (many)))]) (st' := []) (pc := 98) rfl rfl rfl rfl ?_
        have a63 : ∀ j, 0 ≤ j → zv_a h 63 j = zv_a h 63 j := fun j hj => rfl
        refine zx_T.lk (ls' := [(0, .ref 44), (1, .int (zI (place))), (2, .ref 62), (3, .int (zI (many))), (4, .int (zI (14 * place))), (5, .int (zI (0)))]) rfl ⟨rfl, rfl, rfl, rfl, rfl, rfl, trivial⟩ ?_
        exact (zm_joinF_62_L (h := h) hI (place := place) (many := many) place1 place2 many1 many2 wk wr ((many + 108 - 0 : Int).toNat + 1)).2.1 (h2 := h) (k := 0) hI (by omega) (by omega) (by omega) (by omega) (by omega) (by omega) zb_W.rf (fun j j0 j1 => absurd j1 (by omega)) (Nat.lt_succ_self _)
      · refine zx_T.s (i := .iconst 5) (k := 1) (st' := [.int (zI (5))]) (pc := 95) rfl rfl ?_
        exact zr_ir (x := 5) (pc := 96) rfl rfl rfl ⟨hI, zb_W.rf, _, rfl, by dsimp only; exact Or.inr (Or.inr (Or.inl ⟨by omega, by omega, by omega, rfl, ⟨fun _ _ => rfl, fun _ _ => rfl, fun _ _ => rfl, rfl⟩⟩))⟩
    · refine zx_T.l (i := .aload_n 0) (k := 1) (v := .ref 44) (pc := 32) rfl rfl rfl ?_
      refine zr_gr (k := 16) (b := 54) (pc := 33) rfl rfl rfl hI ?_
      refine zx_T.l (i := .iload_n 1) (k := 1) (v := .int (zI (place))) (pc := 36) rfl rfl rfl ?_
      refine zx_T.s (i := .iconst 1) (k := 1) (st' := [.int (zI (1)), .int (zI (place)), .ref 54]) (pc := 37) rfl rfl ?_
      refine zr_bs (n := 60) (e := 1) (pc := 38) rfl rfl rfl hI (by omega) (by omega) (by omega) (by omega) (fun h81 ih81 w82 s83 => ?_)
      refine zx_T.l (i := .aload_n 0) (k := 1) (v := .ref 44) (pc := 39) rfl rfl rfl ?_
      refine zx_T.s (i := .iconst 1) (k := 1) (st' := [.int (zI (1)), .ref 44]) (pc := 40) rfl rfl ?_
      refine zr_pi (k := 27) (lo := 0) (hi := 1) (e := 1) (pc := 41) rfl rfl rfl rfl rfl rfl ih81 (by omega) (by omega) (fun h84 ih84 w85 e86 => ?_)
      refine zx_T.l (i := .aload_n 0) (k := 1) (v := .ref 44) (pc := 44) rfl rfl rfl ?_
      refine zr_gr (k := 18) (b := 56) (pc := 45) rfl rfl rfl ih84 ?_
      refine zx_T.l (i := .iload_n 1) (k := 1) (v := .int (zI (place))) (pc := 48) rfl rfl rfl ?_
      refine zx_T.l (i := .iload_n 3) (k := 1) (v := .int (zI (many))) (pc := 49) rfl rfl rfl ?_
      refine zr_as (n := 60) (lo := 0) (hi := 6) (e := many) (pc := 50) rfl rfl rfl rfl ih84 (by omega) (by omega) (by omega) (by omega) (fun h87 ih87 w88 s89 => ?_)
      refine zx_T.s (i := .iconst 0) (k := 1) (st' := [.int (zI (0))]) (pc := 51) rfl rfl ?_
      refine zx_T.t (i := .istore 5) (k := 2) (ls' := [(5, .int (zI (0))), (4, .int (zI (14 * place))), (0, .ref 44), (1, .int (zI (place))), (2, .ref 62), (3, .int (zI (many)))]) (st' := []) (pc := 52) rfl rfl rfl rfl ?_
      have a54 : ∀ j, 0 ≤ j → zv_a h87 54 j = if j = place then 1 else zv_a h 54 j := fun j hj => by rw [zv_wa w88 rfl j, zv_wa w85 rfl j, s83 j hj]
      have a56 : ∀ j, 0 ≤ j → zv_a h87 56 j = if j = place then many else zv_a h 56 j := fun j hj => by rw [s89 j hj, zv_wa w85 rfl j, zv_wa w82 rfl j]
      have a55 : ∀ j, 0 ≤ j → zv_a h87 55 j = zv_a h 55 j := fun j hj => by rw [zv_wa w88 rfl j, zv_wa w85 rfl j, zv_wa w82 rfl j]
      have y93 : zv_i h87 27 = 1 := ((zv_wi w88 rfl).trans e86)
      refine zx_T.lk (ls' := [(0, .ref 44), (1, .int (zI (place))), (2, .ref 62), (3, .int (zI (many))), (4, .int (zI (14 * place))), (5, .int (zI (0)))]) rfl ⟨rfl, rfl, rfl, rfl, rfl, rfl, trivial⟩ ?_
      exact (zm_joinF_62_L (h := h) hI (place := place) (many := many) place1 place2 many1 many2 wk wr ((many + 8 - 0 : Int).toNat + 1)).1 (h2 := h87) (k := 0) ih87 (by omega) (by omega) (by omega) (by omega) (by omega) (((w82.wd rfl : zb_W [(54, 0), (44, 27), (56, 0), (55, 0), (63, 0)] h _).tr (w85.wd rfl)).tr (w88.wd rfl)) (fun q q0 => a54 q q0) (fun q q0 => a56 q q0) (by omega) (fun q q0 => by rw [if_neg (by omega)]; exact a55 q q0) (Nat.lt_succ_self _)
  · refine zx_T.s (i := .bipush 7) (k := 2) (st' := [.int (zI (7))]) (pc := 14) rfl rfl ?_
    exact zr_ir (x := 7) (pc := 16) rfl rfl rfl ⟨hI, zb_W.rf, _, rfl, by dsimp only; exact Or.inl ⟨by omega, rfl, ⟨fun _ _ => rfl, fun _ _ => rfl, fun _ _ => rfl, rfl⟩⟩⟩
