/-! ===== 97: the reference, method by method (by program) ===== -/
set_option maxRecDepth 100000 in
set_option maxHeartbeats 4000000 in
theorem zm_operationX {h : zx_H} (hI : zb_I zc_H h) {o : Int} {a : Int} {b : Int} (o1 : -2147483648 ≤ o) (o2 : o ≤ 2147483647) (a1 : -2147483648 ≤ a) (a2 : a ≤ 2147483647) (b1 : -2147483648 ≤ b) (b2 : b ≤ 2147483647) : zx_T zp_P 1 zp_m197 0 [(0, .ref 44), (1, .int (zI (o))), (2, .int (zI (a))), (3, .int (zI (b)))] [] h (zr_R [(44, 0), (44, 1), (45, 0), (46, 0), (47, 0), (44, 13)] h (fun e h' => zs_ad ((0 ≤ o ∧ o ≤ 28 ∧ (o = 21 → 5 ≤ a ∧ a ≤ 8)) ∧ zv_i h 1 < 60) (zv_i h 1) o (zv_a h 45) (zv_a h' 45) ∧ zs_ad ((0 ≤ o ∧ o ≤ 28 ∧ (o = 21 → 5 ≤ a ∧ a ≤ 8)) ∧ zv_i h 1 < 60) (zv_i h 1) a (zv_a h 46) (zv_a h' 46) ∧ zs_ad ((0 ≤ o ∧ o ≤ 28 ∧ (o = 21 → 5 ≤ a ∧ a ≤ 8)) ∧ zv_i h 1 < 60) (zv_i h 1) b (zv_a h 47) (zv_a h' 47) ∧ (((0 ≤ o ∧ o ≤ 28 ∧ (o = 21 → 5 ≤ a ∧ a ≤ 8)) ∧ zv_i h 1 < 60) → zv_i h' 13 = 0) ∧ (¬ ((0 ≤ o ∧ o ≤ 28 ∧ (o = 21 → 5 ≤ a ∧ a ≤ 8)) ∧ zv_i h 1 < 60) → zv_i h' 13 = zv_i h 13))) := by
  have hP := zv_ri hI (k := 1) rfl
  refine zx_T.l (i := .aload_n 0) (k := 1) (v := .ref 44) (pc := 0) rfl rfl rfl ?_
  refine zx_T.s (i := .iconst 0) (k := 1) (st' := [.int (zI (0)), .ref 44]) (pc := 1) rfl rfl ?_
  refine zr_pi (k := 0) (lo := (-2147483648)) (hi := 2147483647) (e := 0) (pc := 2) rfl rfl rfl rfl rfl rfl hI (by omega) (by omega) (fun h1 ih1 w2 e3 => ?_)
  refine zx_T.l (i := .iload_n 1) (k := 1) (v := .int (zI (o))) (pc := 5) rfl rfl rfl ?_
  refine zx_T.s (i := .iconst 0) (k := 1) (st' := [.int (zI (0)), .int (zI (o))]) (pc := 6) rfl rfl ?_
  refine zx_T.s (i := .bipush 28) (k := 2) (st' := [.int (zI (28)), .int (zI (0)), .int (zI (o))]) (pc := 7) rfl rfl ?_
  refine zr_is (cj := 155) (q' := zp_m155) (As := [.int (zI (o)), .int (zI (0)), .int (zI (28))]) (rest := []) (pc := 9) rfl rfl rfl rfl rfl rfl (Nat.le_of_ble_eq_true rfl) rfl (Nat.le_of_ble_eq_true rfl) rfl ((zm_in (h := h1) ih1 (v := o) (l := 0) (u := 28) (by omega) (by omega) (by omega) (by omega) (by omega) (by omega)).up (Nat.le_of_ble_eq_true rfl)) ?_
  rintro r4 h7 ⟨h7q, v5, r4q, x6⟩
  subst h7q r4q
  try dsimp only at x6
  show zx_T zp_P 1 zp_m197 12 [(0, .ref 44), (1, .int (zI (o))), (2, .int (zI (a))), (3, .int (zI (b)))] [.int (zI (v5))] h1 _
  refine zr_i1 (x := v5) (t := 31) (pc := 12) rfl rfl (by omega) (by omega) (fun (c8 : v5 = 0) => ?_) (fun (c8 : ¬ (v5 = 0)) => ?_)
  · refine zx_T.s (i := .bipush (-2)) (k := 2) (st' := [.int (zI ((-2)))]) (pc := 31) rfl rfl ?_
    have y9 : zv_i h1 1 = zv_i h 1 := (zv_wi w2 rfl)
    have y10 : zv_i h1 13 = zv_i h 13 := (zv_wi w2 rfl)
    have a45 : ∀ j, 0 ≤ j → zv_a h1 45 j = zv_a h 45 j := fun j hj => by rw [zv_wa w2 rfl j]
    have a46 : ∀ j, 0 ≤ j → zv_a h1 46 j = zv_a h 46 j := fun j hj => by rw [zv_wa w2 rfl j]
    have a47 : ∀ j, 0 ≤ j → zv_a h1 47 j = zv_a h 47 j := fun j hj => by rw [zv_wa w2 rfl j]
    exact zr_ir (x := (-2)) (pc := 33) rfl rfl rfl ⟨ih1, (w2.wd rfl : zb_W [(44, 0), (44, 1), (45, 0), (46, 0), (47, 0), (44, 13)] h _), _, rfl, by dsimp only; exact ⟨zs_ad_n (by omega) (fun j j0 => by rw [a45 j j0]), zs_ad_n (by omega) (fun j j0 => by rw [a46 j j0]), zs_ad_n (by omega) (fun j j0 => by rw [a47 j j0]), fun z => absurd z (by omega), fun _ => by omega⟩⟩
  · refine zx_T.l (i := .iload_n 1) (k := 1) (v := .int (zI (o))) (pc := 15) rfl rfl rfl ?_
    refine zx_T.s (i := .bipush 21) (k := 2) (st' := [.int (zI (21)), .int (zI (o))]) (pc := 16) rfl rfl ?_
    refine zr_i2 (x := o) (y := 21) (t := 34) (pc := 18) rfl rfl (by omega) (by omega) (by omega) (by omega) (fun (c14 : ¬ o = 21) => ?_) (fun (c14 : ¬ (¬ o = 21)) => ?_)
    · refine zx_T.l (i := .aload_n 0) (k := 1) (v := .ref 44) (pc := 34) rfl rfl rfl ?_
      refine zr_gi (k := 1) (lo := 0) (hi := 60) (e := zv_i h 1) (pc := 35) rfl rfl rfl ih1 (zv_wi w2 rfl) (fun g15a g15b => ?_)
      refine zx_T.s (i := .bipush 60) (k := 2) (st' := [.int (zI (60)), .int (zI (zv_i h 1))]) (pc := 38) rfl rfl ?_
      refine zr_i2 (x := zv_i h 1) (y := 60) (t := 46) (pc := 40) rfl rfl (by omega) (by omega) (by omega) (by omega) (fun (c16 : ¬ (zv_i h 1) = 60) => ?_) (fun (c16 : ¬ (¬ (zv_i h 1) = 60)) => ?_)
      · refine zx_T.l (i := .aload_n 0) (k := 1) (v := .ref 44) (pc := 46) rfl rfl rfl ?_
        refine zr_gr (k := 2) (b := 45) (pc := 47) rfl rfl rfl ih1 ?_
        refine zx_T.l (i := .aload_n 0) (k := 1) (v := .ref 44) (pc := 50) rfl rfl rfl ?_
        refine zr_gi (k := 1) (lo := 0) (hi := 60) (e := zv_i h 1) (pc := 51) rfl rfl rfl ih1 (zv_wi w2 rfl) (fun g17a g17b => ?_)
        refine zx_T.l (i := .iload_n 1) (k := 1) (v := .int (zI (o))) (pc := 54) rfl rfl rfl ?_
        refine zr_as (n := 60) (lo := 0) (hi := 28) (e := o) (pc := 55) rfl rfl rfl rfl ih1 (by omega) (by omega) (by omega) (by omega) (fun h18 ih18 w19 s20 => ?_)
        refine zx_T.l (i := .aload_n 0) (k := 1) (v := .ref 44) (pc := 56) rfl rfl rfl ?_
        refine zr_gr (k := 3) (b := 46) (pc := 57) rfl rfl rfl ih18 ?_
        refine zx_T.l (i := .aload_n 0) (k := 1) (v := .ref 44) (pc := 60) rfl rfl rfl ?_
        refine zr_gi (k := 1) (lo := 0) (hi := 60) (e := zv_i h 1) (pc := 61) rfl rfl rfl ih18 ((zv_wi w19 rfl).trans (zv_wi w2 rfl)) (fun g21a g21b => ?_)
        refine zx_T.l (i := .iload_n 2) (k := 1) (v := .int (zI (a))) (pc := 64) rfl rfl rfl ?_
        refine zr_as (n := 60) (lo := (-2147483648)) (hi := 2147483647) (e := a) (pc := 65) rfl rfl rfl rfl ih18 (by omega) (by omega) (by omega) (by omega) (fun h22 ih22 w23 s24 => ?_)
        refine zx_T.l (i := .aload_n 0) (k := 1) (v := .ref 44) (pc := 66) rfl rfl rfl ?_
        refine zr_gr (k := 4) (b := 47) (pc := 67) rfl rfl rfl ih22 ?_
        refine zx_T.l (i := .aload_n 0) (k := 1) (v := .ref 44) (pc := 70) rfl rfl rfl ?_
        refine zr_gi (k := 1) (lo := 0) (hi := 60) (e := zv_i h 1) (pc := 71) rfl rfl rfl ih22 ((zv_wi w23 rfl).trans ((zv_wi w19 rfl).trans (zv_wi w2 rfl))) (fun g25a g25b => ?_)
        refine zx_T.l (i := .iload_n 3) (k := 1) (v := .int (zI (b))) (pc := 74) rfl rfl rfl ?_
        refine zr_as (n := 60) (lo := (-2147483648)) (hi := 2147483647) (e := b) (pc := 75) rfl rfl rfl rfl ih22 (by omega) (by omega) (by omega) (by omega) (fun h26 ih26 w27 s28 => ?_)
        refine zx_T.l (i := .aload_n 0) (k := 1) (v := .ref 44) (pc := 76) rfl rfl rfl ?_
        refine zx_T.s (i := .dup) (k := 1) (st' := [.ref 44, .ref 44]) (pc := 77) rfl rfl ?_
        refine zr_gi (k := 1) (lo := 0) (hi := 60) (e := zv_i h 1) (pc := 78) rfl rfl rfl ih26 ((zv_wi w27 rfl).trans ((zv_wi w23 rfl).trans ((zv_wi w19 rfl).trans (zv_wi w2 rfl)))) (fun g29a g29b => ?_)
        refine zx_T.s (i := .iconst 1) (k := 1) (st' := [.int (zI (1)), .int (zI (zv_i h 1)), .ref 44]) (pc := 81) rfl rfl ?_
        refine zr_add (x := zv_i h 1) (y := 1) (e := zv_i h 1 + 1) (pc := 82) rfl (by omega) ?_
        refine zr_pi (k := 1) (lo := 0) (hi := 60) (e := zv_i h 1 + 1) (pc := 83) rfl rfl rfl rfl rfl rfl ih26 (by omega) (by omega) (fun h30 ih30 w31 e32 => ?_)
        refine zx_T.l (i := .aload_n 0) (k := 1) (v := .ref 44) (pc := 86) rfl rfl rfl ?_
        refine zx_T.s (i := .iconst 0) (k := 1) (st' := [.int (zI (0)), .ref 44]) (pc := 87) rfl rfl ?_
        refine zr_pi (k := 13) (lo := 0) (hi := 1) (e := 0) (pc := 88) rfl rfl rfl rfl rfl rfl ih30 (by omega) (by omega) (fun h33 ih33 w34 e35 => ?_)
        refine zx_T.l (i := .aload_n 0) (k := 1) (v := .ref 44) (pc := 91) rfl rfl rfl ?_
        refine zr_gi (k := 1) (lo := 0) (hi := 60) (e := zv_i h 1 + 1) (pc := 92) rfl rfl rfl ih33 ((zv_wi w34 rfl).trans e32) (fun g36a g36b => ?_)
        refine zx_T.s (i := .iconst 1) (k := 1) (st' := [.int (zI (1)), .int (zI (zv_i h 1 + 1))]) (pc := 95) rfl rfl ?_
        refine zr_sub (x := zv_i h 1 + 1) (y := 1) (e := zv_i h 1) (pc := 96) rfl (by omega) ?_
        have y37 : zv_i h33 1 = zv_i h 1 + 1 := ((zv_wi w34 rfl).trans e32)
        have y38 : zv_i h33 13 = 0 := e35
        have a45 : ∀ j, 0 ≤ j → zv_a h33 45 j = if j = zv_i h 1 then o else zv_a h 45 j := fun j hj => by rw [zv_wa w34 rfl j, zv_wa w31 rfl j, zv_wa w27 rfl j, zv_wa w23 rfl j, s20 j hj, zv_wa w2 rfl j]
        have a46 : ∀ j, 0 ≤ j → zv_a h33 46 j = if j = zv_i h 1 then a else zv_a h 46 j := fun j hj => by rw [zv_wa w34 rfl j, zv_wa w31 rfl j, zv_wa w27 rfl j, s24 j hj, zv_wa w19 rfl j, zv_wa w2 rfl j]
        have a47 : ∀ j, 0 ≤ j → zv_a h33 47 j = if j = zv_i h 1 then b else zv_a h 47 j := fun j hj => by rw [zv_wa w34 rfl j, zv_wa w31 rfl j, s28 j hj, zv_wa w23 rfl j, zv_wa w19 rfl j, zv_wa w2 rfl j]
        exact zr_ir (x := zv_i h 1) (pc := 97) rfl rfl rfl ⟨ih33, ((((((w2.wd rfl : zb_W [(44, 0), (44, 1), (45, 0), (46, 0), (47, 0), (44, 13)] h _).tr (w19.wd rfl)).tr (w23.wd rfl)).tr (w27.wd rfl)).tr (w31.wd rfl)).tr (w34.wd rfl)), _, rfl, by dsimp only; exact ⟨zs_ad_y (by omega) (fun j j0 => by rw [a45 j j0]), zs_ad_y (by omega) (fun j j0 => by rw [a46 j j0]), zs_ad_y (by omega) (fun j j0 => by rw [a47 j j0]), fun _ => by omega, fun z => absurd (by omega) z⟩⟩
      · refine zx_T.s (i := .bipush (-4)) (k := 2) (st' := [.int (zI ((-4)))]) (pc := 43) rfl rfl ?_
        have y42 : zv_i h1 1 = zv_i h 1 := (zv_wi w2 rfl)
        have y43 : zv_i h1 13 = zv_i h 13 := (zv_wi w2 rfl)
        have a45 : ∀ j, 0 ≤ j → zv_a h1 45 j = zv_a h 45 j := fun j hj => by rw [zv_wa w2 rfl j]
        have a46 : ∀ j, 0 ≤ j → zv_a h1 46 j = zv_a h 46 j := fun j hj => by rw [zv_wa w2 rfl j]
        have a47 : ∀ j, 0 ≤ j → zv_a h1 47 j = zv_a h 47 j := fun j hj => by rw [zv_wa w2 rfl j]
        exact zr_ir (x := (-4)) (pc := 45) rfl rfl rfl ⟨ih1, (w2.wd rfl : zb_W [(44, 0), (44, 1), (45, 0), (46, 0), (47, 0), (44, 13)] h _), _, rfl, by dsimp only; exact ⟨zs_ad_n (by omega) (fun j j0 => by rw [a45 j j0]), zs_ad_n (by omega) (fun j j0 => by rw [a46 j j0]), zs_ad_n (by omega) (fun j j0 => by rw [a47 j j0]), fun z => absurd z (by omega), fun _ => by omega⟩⟩
    · refine zx_T.l (i := .iload_n 2) (k := 1) (v := .int (zI (a))) (pc := 21) rfl rfl rfl ?_
      refine zx_T.s (i := .iconst 5) (k := 1) (st' := [.int (zI (5)), .int (zI (a))]) (pc := 22) rfl rfl ?_
      refine zx_T.s (i := .bipush 8) (k := 2) (st' := [.int (zI (8)), .int (zI (5)), .int (zI (a))]) (pc := 23) rfl rfl ?_
      refine zr_is (cj := 155) (q' := zp_m155) (As := [.int (zI (a)), .int (zI (5)), .int (zI (8))]) (rest := []) (pc := 25) rfl rfl rfl rfl rfl rfl (Nat.le_of_ble_eq_true rfl) rfl (Nat.le_of_ble_eq_true rfl) rfl ((zm_in (h := h1) ih1 (v := a) (l := 5) (u := 8) (by omega) (by omega) (by omega) (by omega) (by omega) (by omega)).up (Nat.le_of_ble_eq_true rfl)) ?_
      rintro r47 h50 ⟨h50q, v48, r47q, x49⟩
      subst h50q r47q
      try dsimp only at x49
      show zx_T zp_P 1 zp_m197 28 [(0, .ref 44), (1, .int (zI (o))), (2, .int (zI (a))), (3, .int (zI (b)))] [.int (zI (v48))] h1 _
      refine zr_i1 (x := v48) (t := 34) (pc := 28) rfl rfl (by omega) (by omega) (fun (c51 : ¬ v48 = 0) => ?_) (fun (c51 : ¬ (¬ v48 = 0)) => ?_)
      · refine zx_T.l (i := .aload_n 0) (k := 1) (v := .ref 44) (pc := 34) rfl rfl rfl ?_
        refine zr_gi (k := 1) (lo := 0) (hi := 60) (e := zv_i h 1) (pc := 35) rfl rfl rfl ih1 (zv_wi w2 rfl) (fun g52a g52b => ?_)
        refine zx_T.s (i := .bipush 60) (k := 2) (st' := [.int (zI (60)), .int (zI (zv_i h 1))]) (pc := 38) rfl rfl ?_
        refine zr_i2 (x := zv_i h 1) (y := 60) (t := 46) (pc := 40) rfl rfl (by omega) (by omega) (by omega) (by omega) (fun (c53 : ¬ (zv_i h 1) = 60) => ?_) (fun (c53 : ¬ (¬ (zv_i h 1) = 60)) => ?_)
        · refine zx_T.l (i := .aload_n 0) (k := 1) (v := .ref 44) (pc := 46) rfl rfl rfl ?_
          refine zr_gr (k := 2) (b := 45) (pc := 47) rfl rfl rfl ih1 ?_
          refine zx_T.l (i := .aload_n 0) (k := 1) (v := .ref 44) (pc := 50) rfl rfl rfl ?_
          refine zr_gi (k := 1) (lo := 0) (hi := 60) (e := zv_i h 1) (pc := 51) rfl rfl rfl ih1 (zv_wi w2 rfl) (fun g54a g54b => ?_)
          refine zx_T.l (i := .iload_n 1) (k := 1) (v := .int (zI (o))) (pc := 54) rfl rfl rfl ?_
          refine zr_as (n := 60) (lo := 0) (hi := 28) (e := o) (pc := 55) rfl rfl rfl rfl ih1 (by omega) (by omega) (by omega) (by omega) (fun h55 ih55 w56 s57 => ?_)
          refine zx_T.l (i := .aload_n 0) (k := 1) (v := .ref 44) (pc := 56) rfl rfl rfl ?_
          refine zr_gr (k := 3) (b := 46) (pc := 57) rfl rfl rfl ih55 ?_
          refine zx_T.l (i := .aload_n 0) (k := 1) (v := .ref 44) (pc := 60) rfl rfl rfl ?_
          refine zr_gi (k := 1) (lo := 0) (hi := 60) (e := zv_i h 1) (pc := 61) rfl rfl rfl ih55 ((zv_wi w56 rfl).trans (zv_wi w2 rfl)) (fun g58a g58b => ?_)
          refine zx_T.l (i := .iload_n 2) (k := 1) (v := .int (zI (a))) (pc := 64) rfl rfl rfl ?_
          refine zr_as (n := 60) (lo := (-2147483648)) (hi := 2147483647) (e := a) (pc := 65) rfl rfl rfl rfl ih55 (by omega) (by omega) (by omega) (by omega) (fun h59 ih59 w60 s61 => ?_)
          refine zx_T.l (i := .aload_n 0) (k := 1) (v := .ref 44) (pc := 66) rfl rfl rfl ?_
          refine zr_gr (k := 4) (b := 47) (pc := 67) rfl rfl rfl ih59 ?_
          refine zx_T.l (i := .aload_n 0) (k := 1) (v := .ref 44) (pc := 70) rfl rfl rfl ?_
          refine zr_gi (k := 1) (lo := 0) (hi := 60) (e := zv_i h 1) (pc := 71) rfl rfl rfl ih59 ((zv_wi w60 rfl).trans ((zv_wi w56 rfl).trans (zv_wi w2 rfl))) (fun g62a g62b => ?_)
          refine zx_T.l (i := .iload_n 3) (k := 1) (v := .int (zI (b))) (pc := 74) rfl rfl rfl ?_
          refine zr_as (n := 60) (lo := (-2147483648)) (hi := 2147483647) (e := b) (pc := 75) rfl rfl rfl rfl ih59 (by omega) (by omega) (by omega) (by omega) (fun h63 ih63 w64 s65 => ?_)
          refine zx_T.l (i := .aload_n 0) (k := 1) (v := .ref 44) (pc := 76) rfl rfl rfl ?_
          refine zx_T.s (i := .dup) (k := 1) (st' := [.ref 44, .ref 44]) (pc := 77) rfl rfl ?_
          refine zr_gi (k := 1) (lo := 0) (hi := 60) (e := zv_i h 1) (pc := 78) rfl rfl rfl ih63 ((zv_wi w64 rfl).trans ((zv_wi w60 rfl).trans ((zv_wi w56 rfl).trans (zv_wi w2 rfl)))) (fun g66a g66b => ?_)
          refine zx_T.s (i := .iconst 1) (k := 1) (st' := [.int (zI (1)), .int (zI (zv_i h 1)), .ref 44]) (pc := 81) rfl rfl ?_
          refine zr_add (x := zv_i h 1) (y := 1) (e := zv_i h 1 + 1) (pc := 82) rfl (by omega) ?_
          refine zr_pi (k := 1) (lo := 0) (hi := 60) (e := zv_i h 1 + 1) (pc := 83) rfl rfl rfl rfl rfl rfl ih63 (by omega) (by omega) (fun h67 ih67 w68 e69 => ?_)
          refine zx_T.l (i := .aload_n 0) (k := 1) (v := .ref 44) (pc := 86) rfl rfl rfl ?_
          refine zx_T.s (i := .iconst 0) (k := 1) (st' := [.int (zI (0)), .ref 44]) (pc := 87) rfl rfl ?_
          refine zr_pi (k := 13) (lo := 0) (hi := 1) (e := 0) (pc := 88) rfl rfl rfl rfl rfl rfl ih67 (by omega) (by omega) (fun h70 ih70 w71 e72 => ?_)
          refine zx_T.l (i := .aload_n 0) (k := 1) (v := .ref 44) (pc := 91) rfl rfl rfl ?_
          refine zr_gi (k := 1) (lo := 0) (hi := 60) (e := zv_i h 1 + 1) (pc := 92) rfl rfl rfl ih70 ((zv_wi w71 rfl).trans e69) (fun g73a g73b => ?_)
          refine zx_T.s (i := .iconst 1) (k := 1) (st' := [.int (zI (1)), .int (zI (zv_i h 1 + 1))]) (pc := 95) rfl rfl ?_
          refine zr_sub (x := zv_i h 1 + 1) (y := 1) (e := zv_i h 1) (pc := 96) rfl (by omega) ?_
          have y74 : zv_i h70 1 = zv_i h 1 + 1 := ((zv_wi w71 rfl).trans e69)
          have y75 : zv_i h70 13 = 0 := e72
          have a45 : ∀ j, 0 ≤ j → zv_a h70 45 j = if j = zv_i h 1 then o else zv_a h 45 j := fun j hj => by rw [zv_wa w71 rfl j, zv_wa w68 rfl j, zv_wa w64 rfl j, zv_wa w60 rfl j, s57 j hj, zv_wa w2 rfl j]
          have a46 : ∀ j, 0 ≤ j → zv_a h70 46 j = if j = zv_i h 1 then a else zv_a h 46 j := fun j hj => by rw [zv_wa w71 rfl j, zv_wa w68 rfl j, zv_wa w64 rfl j, s61 j hj, zv_wa w56 rfl j, zv_wa w2 rfl j]
          have a47 : ∀ j, 0 ≤ j → zv_a h70 47 j = if j = zv_i h 1 then b else zv_a h 47 j := fun j hj => by rw [zv_wa w71 rfl j, zv_wa w68 rfl j, s65 j hj, zv_wa w60 rfl j, zv_wa w56 rfl j, zv_wa w2 rfl j]
          exact zr_ir (x := zv_i h 1) (pc := 97) rfl rfl rfl ⟨ih70, ((((((w2.wd rfl : zb_W [(44, 0), (44, 1), (45, 0), (46, 0), (47, 0), (44, 13)] h _).tr (w56.wd rfl)).tr (w60.wd rfl)).tr (w64.wd rfl)).tr (w68.wd rfl)).tr (w71.wd rfl)), _, rfl, by dsimp only; exact ⟨zs_ad_y (by omega) (fun j j0 => by rw [a45 j j0]), zs_ad_y (by omega) (fun j j0 => by rw [a46 j j0]), zs_ad_y (by omega) (fun j j0 => by rw [a47 j j0]), fun _ => by omega, fun z => absurd (by omega) z⟩⟩
        · refine zx_T.s (i := .bipush (-4)) (k := 2) (st' := [.int (zI ((-4)))]) (pc := 43) rfl rfl ?_
          have y79 : zv_i h1 1 = zv_i h 1 := (zv_wi w2 rfl)
          have y80 : zv_i h1 13 = zv_i h 13 := (zv_wi w2 rfl)
          have a45 : ∀ j, 0 ≤ j → zv_a h1 45 j = zv_a h 45 j := fun j hj => by rw [zv_wa w2 rfl j]
          have a46 : ∀ j, 0 ≤ j → zv_a h1 46 j = zv_a h 46 j := fun j hj => by rw [zv_wa w2 rfl j]
          have a47 : ∀ j, 0 ≤ j → zv_a h1 47 j = zv_a h 47 j := fun j hj => by rw [zv_wa w2 rfl j]
          exact zr_ir (x := (-4)) (pc := 45) rfl rfl rfl ⟨ih1, (w2.wd rfl : zb_W [(44, 0), (44, 1), (45, 0), (46, 0), (47, 0), (44, 13)] h _), _, rfl, by dsimp only; exact ⟨zs_ad_n (by omega) (fun j j0 => by rw [a45 j j0]), zs_ad_n (by omega) (fun j j0 => by rw [a46 j j0]), zs_ad_n (by omega) (fun j j0 => by rw [a47 j j0]), fun z => absurd z (by omega), fun _ => by omega⟩⟩
      · refine zx_T.s (i := .bipush (-2)) (k := 2) (st' := [.int (zI ((-2)))]) (pc := 31) rfl rfl ?_
        have y84 : zv_i h1 1 = zv_i h 1 := (zv_wi w2 rfl)
        have y85 : zv_i h1 13 = zv_i h 13 := (zv_wi w2 rfl)
        have a45 : ∀ j, 0 ≤ j → zv_a h1 45 j = zv_a h 45 j := fun j hj => by rw [zv_wa w2 rfl j]
        have a46 : ∀ j, 0 ≤ j → zv_a h1 46 j = zv_a h 46 j := fun j hj => by rw [zv_wa w2 rfl j]
        have a47 : ∀ j, 0 ≤ j → zv_a h1 47 j = zv_a h 47 j := fun j hj => by rw [zv_wa w2 rfl j]
        exact zr_ir (x := (-2)) (pc := 33) rfl rfl rfl ⟨ih1, (w2.wd rfl : zb_W [(44, 0), (44, 1), (45, 0), (46, 0), (47, 0), (44, 13)] h _), _, rfl, by dsimp only; exact ⟨zs_ad_n (by omega) (fun j j0 => by rw [a45 j j0]), zs_ad_n (by omega) (fun j j0 => by rw [a46 j j0]), zs_ad_n (by omega) (fun j j0 => by rw [a47 j j0]), fun z => absurd z (by omega), fun _ => by omega⟩⟩

set_option maxRecDepth 100000 in
set_option maxHeartbeats 4000000 in
theorem zm_handlerX {h : zx_H} (hI : zb_I zc_H h) {f : Int} {t : Int} {p : Int} {k : Int} (f1 : -2147483648 ≤ f) (f2 : f ≤ 2147483647) (t1 : -2147483648 ≤ t) (t2 : t ≤ 2147483647) (p1 : -2147483648 ≤ p) (p2 : p ≤ 2147483647) (k1 : -2147483648 ≤ k) (k2 : k ≤ 2147483647) : zx_T zp_P 1 zp_m198 0 [(0, .ref 44), (1, .int (zI (f))), (2, .int (zI (t))), (3, .int (zI (p))), (4, .int (zI (k)))] [] h (zr_R [(44, 0), (44, 5), (48, 0), (49, 0), (50, 0), (51, 0), (44, 13)] h (fun e h' => zs_ad ((0 ≤ f ∧ f ≤ 60 ∧ 0 ≤ t ∧ t ≤ 60 ∧ 0 ≤ p ∧ p ≤ 60 ∧ 7 ≤ k ∧ k ≤ 8) ∧ zv_i h 5 < 6) (zv_i h 5) f (zv_a h 48) (zv_a h' 48) ∧ zs_ad ((0 ≤ f ∧ f ≤ 60 ∧ 0 ≤ t ∧ t ≤ 60 ∧ 0 ≤ p ∧ p ≤ 60 ∧ 7 ≤ k ∧ k ≤ 8) ∧ zv_i h 5 < 6) (zv_i h 5) t (zv_a h 49) (zv_a h' 49) ∧ zs_ad ((0 ≤ f ∧ f ≤ 60 ∧ 0 ≤ t ∧ t ≤ 60 ∧ 0 ≤ p ∧ p ≤ 60 ∧ 7 ≤ k ∧ k ≤ 8) ∧ zv_i h 5 < 6) (zv_i h 5) p (zv_a h 50) (zv_a h' 50) ∧ zs_ad ((0 ≤ f ∧ f ≤ 60 ∧ 0 ≤ t ∧ t ≤ 60 ∧ 0 ≤ p ∧ p ≤ 60 ∧ 7 ≤ k ∧ k ≤ 8) ∧ zv_i h 5 < 6) (zv_i h 5) k (zv_a h 51) (zv_a h' 51) ∧ (((0 ≤ f ∧ f ≤ 60 ∧ 0 ≤ t ∧ t ≤ 60 ∧ 0 ≤ p ∧ p ≤ 60 ∧ 7 ≤ k ∧ k ≤ 8) ∧ zv_i h 5 < 6) → zv_i h' 13 = 0) ∧ (¬ ((0 ≤ f ∧ f ≤ 60 ∧ 0 ≤ t ∧ t ≤ 60 ∧ 0 ≤ p ∧ p ≤ 60 ∧ 7 ≤ k ∧ k ≤ 8) ∧ zv_i h 5 < 6) → zv_i h' 13 = zv_i h 13))) := by
  have hP := zv_ri hI (k := 5) rfl
  refine zx_T.l (i := .aload_n 0) (k := 1) (v := .ref 44) (pc := 0) rfl rfl rfl ?_
  refine zx_T.s (i := .iconst 0) (k := 1) (st' := [.int (zI (0)), .ref 44]) (pc := 1) rfl rfl ?_
  refine zr_pi (k := 0) (lo := (-2147483648)) (hi := 2147483647) (e := 0) (pc := 2) rfl rfl rfl rfl rfl rfl hI (by omega) (by omega) (fun h1 ih1 w2 e3 => ?_)
  refine zx_T.l (i := .iload_n 1) (k := 1) (v := .int (zI (f))) (pc := 5) rfl rfl rfl ?_
  refine zx_T.s (i := .iconst 0) (k := 1) (st' := [.int (zI (0)), .int (zI (f))]) (pc := 6) rfl rfl ?_
  refine zx_T.s (i := .bipush 60) (k := 2) (st' := [.int (zI (60)), .int (zI (0)), .int (zI (f))]) (pc := 7) rfl rfl ?_
  refine zr_is (cj := 155) (q' := zp_m155) (As := [.int (zI (f)), .int (zI (0)), .int (zI (60))]) (rest := []) (pc := 9) rfl rfl rfl rfl rfl rfl (Nat.le_of_ble_eq_true rfl) rfl (Nat.le_of_ble_eq_true rfl) rfl ((zm_in (h := h1) ih1 (v := f) (l := 0) (u := 60) (by omega) (by omega) (by omega) (by omega) (by omega) (by omega)).up (Nat.le_of_ble_eq_true rfl)) ?_
  rintro r4 h7 ⟨h7q, v5, r4q, x6⟩
  subst h7q r4q
  try dsimp only at x6
  show zx_T zp_P 1 zp_m198 12 [(0, .ref 44), (1, .int (zI (f))), (2, .int (zI (t))), (3, .int (zI (p))), (4, .int (zI (k)))] [.int (zI (v5))] h1 _
  refine zr_i1 (x := v5) (t := 47) (pc := 12) rfl rfl (by omega) (by omega) (fun (c8 : v5 = 0) => ?_) (fun (c8 : ¬ (v5 = 0)) => ?_)
  · refine zx_T.s (i := .bipush (-2)) (k := 2) (st' := [.int (zI ((-2)))]) (pc := 47) rfl rfl ?_
    have y9 : zv_i h1 5 = zv_i h 5 := (zv_wi w2 rfl)
    have y10 : zv_i h1 13 = zv_i h 13 := (zv_wi w2 rfl)
    have a48 : ∀ j, 0 ≤ j → zv_a h1 48 j = zv_a h 48 j := fun j hj => by rw [zv_wa w2 rfl j]
    have a49 : ∀ j, 0 ≤ j → zv_a h1 49 j = zv_a h 49 j := fun j hj => by rw [zv_wa w2 rfl j]
    have a50 : ∀ j, 0 ≤ j → zv_a h1 50 j = zv_a h 50 j := fun j hj => by rw [zv_wa w2 rfl j]
    have a51 : ∀ j, 0 ≤ j → zv_a h1 51 j = zv_a h 51 j := fun j hj => by rw [zv_wa w2 rfl j]
    exact zr_ir (x := (-2)) (pc := 49) rfl rfl rfl ⟨ih1, (w2.wd rfl : zb_W [(44, 0), (44, 5), (48, 0), (49, 0), (50, 0), (51, 0), (44, 13)] h _), _, rfl, by dsimp only; exact ⟨zs_ad_n (by omega) (fun j j0 => by rw [a48 j j0]), zs_ad_n (by omega) (fun j j0 => by rw [a49 j j0]), zs_ad_n (by omega) (fun j j0 => by rw [a50 j j0]), zs_ad_n (by omega) (fun j j0 => by rw [a51 j j0]), fun z => absurd z (by omega), fun _ => by omega⟩⟩
  · refine zx_T.l (i := .iload_n 2) (k := 1) (v := .int (zI (t))) (pc := 15) rfl rfl rfl ?_
    refine zx_T.s (i := .iconst 0) (k := 1) (st' := [.int (zI (0)), .int (zI (t))]) (pc := 16) rfl rfl ?_
    refine zx_T.s (i := .bipush 60) (k := 2) (st' := [.int (zI (60)), .int (zI (0)), .int (zI (t))]) (pc := 17) rfl rfl ?_
    refine zr_is (cj := 155) (q' := zp_m155) (As := [.int (zI (t)), .int (zI (0)), .int (zI (60))]) (rest := []) (pc := 19) rfl rfl rfl rfl rfl rfl (Nat.le_of_ble_eq_true rfl) rfl (Nat.le_of_ble_eq_true rfl) rfl ((zm_in (h := h1) ih1 (v := t) (l := 0) (u := 60) (by omega) (by omega) (by omega) (by omega) (by omega) (by omega)).up (Nat.le_of_ble_eq_true rfl)) ?_
    rintro r15 h18 ⟨h18q, v16, r15q, x17⟩
    subst h18q r15q
    try dsimp only at x17
    show zx_T zp_P 1 zp_m198 22 [(0, .ref 44), (1, .int (zI (f))), (2, .int (zI (t))), (3, .int (zI (p))), (4, .int (zI (k)))] [.int (zI (v16))] h1 _
    refine zr_i1 (x := v16) (t := 47) (pc := 22) rfl rfl (by omega) (by omega) (fun (c19 : v16 = 0) => ?_) (fun (c19 : ¬ (v16 = 0)) => ?_)
    · refine zx_T.s (i := .bipush (-2)) (k := 2) (st' := [.int (zI ((-2)))]) (pc := 47) rfl rfl ?_
      have y20 : zv_i h1 5 = zv_i h 5 := (zv_wi w2 rfl)
      have y21 : zv_i h1 13 = zv_i h 13 := (zv_wi w2 rfl)
      have a48 : ∀ j, 0 ≤ j → zv_a h1 48 j = zv_a h 48 j := fun j hj => by rw [zv_wa w2 rfl j]
      have a49 : ∀ j, 0 ≤ j → zv_a h1 49 j = zv_a h 49 j := fun j hj => by rw [zv_wa w2 rfl j]
      have a50 : ∀ j, 0 ≤ j → zv_a h1 50 j = zv_a h 50 j := fun j hj => by rw [zv_wa w2 rfl j]
      have a51 : ∀ j, 0 ≤ j → zv_a h1 51 j = zv_a h 51 j := fun j hj => by rw [zv_wa w2 rfl j]
      exact zr_ir (x := (-2)) (pc := 49) rfl rfl rfl ⟨ih1, (w2.wd rfl : zb_W [(44, 0), (44, 5), (48, 0), (49, 0), (50, 0), (51, 0), (44, 13)] h _), _, rfl, by dsimp only; exact ⟨zs_ad_n (by omega) (fun j j0 => by rw [a48 j j0]), zs_ad_n (by omega) (fun j j0 => by rw [a49 j j0]), zs_ad_n (by omega) (fun j j0 => by rw [a50 j j0]), zs_ad_n (by omega) (fun j j0 => by rw [a51 j j0]), fun z => absurd z (by omega), fun _ => by omega⟩⟩
    · refine zx_T.l (i := .iload_n 3) (k := 1) (v := .int (zI (p))) (pc := 25) rfl rfl rfl ?_
      refine zx_T.s (i := .iconst 0) (k := 1) (st' := [.int (zI (0)), .int (zI (p))]) (pc := 26) rfl rfl ?_
      refine zx_T.s (i := .bipush 60) (k := 2) (st' := [.int (zI (60)), .int (zI (0)), .int (zI (p))]) (pc := 27) rfl rfl ?_
      refine zr_is (cj := 155) (q' := zp_m155) (As := [.int (zI (p)), .int (zI (0)), .int (zI (60))]) (rest := []) (pc := 29) rfl rfl rfl rfl rfl rfl (Nat.le_of_ble_eq_true rfl) rfl (Nat.le_of_ble_eq_true rfl) rfl ((zm_in (h := h1) ih1 (v := p) (l := 0) (u := 60) (by omega) (by omega) (by omega) (by omega) (by omega) (by omega)).up (Nat.le_of_ble_eq_true rfl)) ?_
      rintro r26 h29 ⟨h29q, v27, r26q, x28⟩
      subst h29q r26q
      try dsimp only at x28
      show zx_T zp_P 1 zp_m198 32 [(0, .ref 44), (1, .int (zI (f))), (2, .int (zI (t))), (3, .int (zI (p))), (4, .int (zI (k)))] [.int (zI (v27))] h1 _
      refine zr_i1 (x := v27) (t := 47) (pc := 32) rfl rfl (by omega) (by omega) (fun (c30 : v27 = 0) => ?_) (fun (c30 : ¬ (v27 = 0)) => ?_)
      · refine zx_T.s (i := .bipush (-2)) (k := 2) (st' := [.int (zI ((-2)))]) (pc := 47) rfl rfl ?_
        have y31 : zv_i h1 5 = zv_i h 5 := (zv_wi w2 rfl)
        have y32 : zv_i h1 13 = zv_i h 13 := (zv_wi w2 rfl)
        have a48 : ∀ j, 0 ≤ j → zv_a h1 48 j = zv_a h 48 j := fun j hj => by rw [zv_wa w2 rfl j]
        have a49 : ∀ j, 0 ≤ j → zv_a h1 49 j = zv_a h 49 j := fun j hj => by rw [zv_wa w2 rfl j]
        have a50 : ∀ j, 0 ≤ j → zv_a h1 50 j = zv_a h 50 j := fun j hj => by rw [zv_wa w2 rfl j]
        have a51 : ∀ j, 0 ≤ j → zv_a h1 51 j = zv_a h 51 j := fun j hj => by rw [zv_wa w2 rfl j]
        exact zr_ir (x := (-2)) (pc := 49) rfl rfl rfl ⟨ih1, (w2.wd rfl : zb_W [(44, 0), (44, 5), (48, 0), (49, 0), (50, 0), (51, 0), (44, 13)] h _), _, rfl, by dsimp only; exact ⟨zs_ad_n (by omega) (fun j j0 => by rw [a48 j j0]), zs_ad_n (by omega) (fun j j0 => by rw [a49 j j0]), zs_ad_n (by omega) (fun j j0 => by rw [a50 j j0]), zs_ad_n (by omega) (fun j j0 => by rw [a51 j j0]), fun z => absurd z (by omega), fun _ => by omega⟩⟩
      · refine zx_T.l (i := .iload 4) (k := 2) (v := .int (zI (k))) (pc := 35) rfl rfl rfl ?_
        refine zx_T.s (i := .bipush 7) (k := 2) (st' := [.int (zI (7)), .int (zI (k))]) (pc := 37) rfl rfl ?_
        refine zx_T.s (i := .bipush 8) (k := 2) (st' := [.int (zI (8)), .int (zI (7)), .int (zI (k))]) (pc := 39) rfl rfl ?_
        refine zr_is (cj := 155) (q' := zp_m155) (As := [.int (zI (k)), .int (zI (7)), .int (zI (8))]) (rest := []) (pc := 41) rfl rfl rfl rfl rfl rfl (Nat.le_of_ble_eq_true rfl) rfl (Nat.le_of_ble_eq_true rfl) rfl ((zm_in (h := h1) ih1 (v := k) (l := 7) (u := 8) (by omega) (by omega) (by omega) (by omega) (by omega) (by omega)).up (Nat.le_of_ble_eq_true rfl)) ?_
        rintro r37 h40 ⟨h40q, v38, r37q, x39⟩
        subst h40q r37q
        try dsimp only at x39
        show zx_T zp_P 1 zp_m198 44 [(0, .ref 44), (1, .int (zI (f))), (2, .int (zI (t))), (3, .int (zI (p))), (4, .int (zI (k)))] [.int (zI (v38))] h1 _
        refine zr_i1 (x := v38) (t := 50) (pc := 44) rfl rfl (by omega) (by omega) (fun (c41 : ¬ v38 = 0) => ?_) (fun (c41 : ¬ (¬ v38 = 0)) => ?_)
        · refine zx_T.l (i := .aload_n 0) (k := 1) (v := .ref 44) (pc := 50) rfl rfl rfl ?_
          refine zr_gi (k := 5) (lo := 0) (hi := 6) (e := zv_i h 5) (pc := 51) rfl rfl rfl ih1 (zv_wi w2 rfl) (fun g42a g42b => ?_)
          refine zx_T.s (i := .bipush 6) (k := 2) (st' := [.int (zI (6)), .int (zI (zv_i h 5))]) (pc := 54) rfl rfl ?_
          refine zr_i2 (x := zv_i h 5) (y := 6) (t := 62) (pc := 56) rfl rfl (by omega) (by omega) (by omega) (by omega) (fun (c43 : ¬ (zv_i h 5) = 6) => ?_) (fun (c43 : ¬ (¬ (zv_i h 5) = 6)) => ?_)
          · refine zx_T.l (i := .aload_n 0) (k := 1) (v := .ref 44) (pc := 62) rfl rfl rfl ?_
            refine zr_gr (k := 6) (b := 48) (pc := 63) rfl rfl rfl ih1 ?_
            refine zx_T.l (i := .aload_n 0) (k := 1) (v := .ref 44) (pc := 66) rfl rfl rfl ?_
            refine zr_gi (k := 5) (lo := 0) (hi := 6) (e := zv_i h 5) (pc := 67) rfl rfl rfl ih1 (zv_wi w2 rfl) (fun g44a g44b => ?_)
            refine zx_T.l (i := .iload_n 1) (k := 1) (v := .int (zI (f))) (pc := 70) rfl rfl rfl ?_
            refine zr_as (n := 6) (lo := 0) (hi := 60) (e := f) (pc := 71) rfl rfl rfl rfl ih1 (by omega) (by omega) (by omega) (by omega) (fun h45 ih45 w46 s47 => ?_)
            refine zx_T.l (i := .aload_n 0) (k := 1) (v := .ref 44) (pc := 72) rfl rfl rfl ?_
            refine zr_gr (k := 7) (b := 49) (pc := 73) rfl rfl rfl ih45 ?_
            refine zx_T.l (i := .aload_n 0) (k := 1) (v := .ref 44) (pc := 76) rfl rfl rfl ?_
            refine zr_gi (k := 5) (lo := 0) (hi := 6) (e := zv_i h 5) (pc := 77) rfl rfl rfl ih45 ((zv_wi w46 rfl).trans (zv_wi w2 rfl)) (fun g48a g48b => ?_)
            refine zx_T.l (i := .iload_n 2) (k := 1) (v := .int (zI (t))) (pc := 80) rfl rfl rfl ?_
            refine zr_as (n := 6) (lo := 0) (hi := 60) (e := t) (pc := 81) rfl rfl rfl rfl ih45 (by omega) (by omega) (by omega) (by omega) (fun h49 ih49 w50 s51 => ?_)
            refine zx_T.l (i := .aload_n 0) (k := 1) (v := .ref 44) (pc := 82) rfl rfl rfl ?_
            refine zr_gr (k := 8) (b := 50) (pc := 83) rfl rfl rfl ih49 ?_
            refine zx_T.l (i := .aload_n 0) (k := 1) (v := .ref 44) (pc := 86) rfl rfl rfl ?_
            refine zr_gi (k := 5) (lo := 0) (hi := 6) (e := zv_i h 5) (pc := 87) rfl rfl rfl ih49 ((zv_wi w50 rfl).trans ((zv_wi w46 rfl).trans (zv_wi w2 rfl))) (fun g52a g52b => ?_)
            refine zx_T.l (i := .iload_n 3) (k := 1) (v := .int (zI (p))) (pc := 90) rfl rfl rfl ?_
            refine zr_as (n := 6) (lo := 0) (hi := 60) (e := p) (pc := 91) rfl rfl rfl rfl ih49 (by omega) (by omega) (by omega) (by omega) (fun h53 ih53 w54 s55 => ?_)
            refine zx_T.l (i := .aload_n 0) (k := 1) (v := .ref 44) (pc := 92) rfl rfl rfl ?_
            refine zr_gr (k := 9) (b := 51) (pc := 93) rfl rfl rfl ih53 ?_
            refine zx_T.l (i := .aload_n 0) (k := 1) (v := .ref 44) (pc := 96) rfl rfl rfl ?_
            refine zr_gi (k := 5) (lo := 0) (hi := 6) (e := zv_i h 5) (pc := 97) rfl rfl rfl ih53 ((zv_wi w54 rfl).trans ((zv_wi w50 rfl).trans ((zv_wi w46 rfl).trans (zv_wi w2 rfl)))) (fun g56a g56b => ?_)
            refine zx_T.l (i := .iload 4) (k := 2) (v := .int (zI (k))) (pc := 100) rfl rfl rfl ?_
            refine zr_as (n := 6) (lo := 0) (hi := 8) (e := k) (pc := 102) rfl rfl rfl rfl ih53 (by omega) (by omega) (by omega) (by omega) (fun h57 ih57 w58 s59 => ?_)
            refine zx_T.l (i := .aload_n 0) (k := 1) (v := .ref 44) (pc := 103) rfl rfl rfl ?_
            refine zx_T.s (i := .dup) (k := 1) (st' := [.ref 44, .ref 44]) (pc := 104) rfl rfl ?_
            refine zr_gi (k := 5) (lo := 0) (hi := 6) (e := zv_i h 5) (pc := 105) rfl rfl rfl ih57 ((zv_wi w58 rfl).trans ((zv_wi w54 rfl).trans ((zv_wi w50 rfl).trans ((zv_wi w46 rfl).trans (zv_wi w2 rfl))))) (fun g60a g60b => ?_)
            refine zx_T.s (i := .iconst 1) (k := 1) (st' := [.int (zI (1)), .int (zI (zv_i h 5)), .ref 44]) (pc := 108) rfl rfl ?_
            refine zr_add (x := zv_i h 5) (y := 1) (e := zv_i h 5 + 1) (pc := 109) rfl (by omega) ?_
            refine zr_pi (k := 5) (lo := 0) (hi := 6) (e := zv_i h 5 + 1) (pc := 110) rfl rfl rfl rfl rfl rfl ih57 (by omega) (by omega) (fun h61 ih61 w62 e63 => ?_)
            refine zx_T.l (i := .aload_n 0) (k := 1) (v := .ref 44) (pc := 113) rfl rfl rfl ?_
            refine zx_T.s (i := .iconst 0) (k := 1) (st' := [.int (zI (0)), .ref 44]) (pc := 114) rfl rfl ?_
            refine zr_pi (k := 13) (lo := 0) (hi := 1) (e := 0) (pc := 115) rfl rfl rfl rfl rfl rfl ih61 (by omega) (by omega) (fun h64 ih64 w65 e66 => ?_)
            refine zx_T.l (i := .aload_n 0) (k := 1) (v := .ref 44) (pc := 118) rfl rfl rfl ?_
            refine zr_gi (k := 5) (lo := 0) (hi := 6) (e := zv_i h 5 + 1) (pc := 119) rfl rfl rfl ih64 ((zv_wi w65 rfl).trans e63) (fun g67a g67b => ?_)
            refine zx_T.s (i := .iconst 1) (k := 1) (st' := [.int (zI (1)), .int (zI (zv_i h 5 + 1))]) (pc := 122) rfl rfl ?_
            refine zr_sub (x := zv_i h 5 + 1) (y := 1) (e := zv_i h 5) (pc := 123) rfl (by omega) ?_
            have y68 : zv_i h64 5 = zv_i h 5 + 1 := ((zv_wi w65 rfl).trans e63)
            have y69 : zv_i h64 13 = 0 := e66
            have a48 : ∀ j, 0 ≤ j → zv_a h64 48 j = if j = zv_i h 5 then f else zv_a h 48 j := fun j hj => by rw [zv_wa w65 rfl j, zv_wa w62 rfl j, zv_wa w58 rfl j, zv_wa w54 rfl j, zv_wa w50 rfl j, s47 j hj, zv_wa w2 rfl j]
            have a49 : ∀ j, 0 ≤ j → zv_a h64 49 j = if j = zv_i h 5 then t else zv_a h 49 j := fun j hj => by rw [zv_wa w65 rfl j, zv_wa w62 rfl j, zv_wa w58 rfl j, zv_wa w54 rfl j, s51 j hj, zv_wa w46 rfl j, zv_wa w2 rfl j]
            have a50 : ∀ j, 0 ≤ j → zv_a h64 50 j = if j = zv_i h 5 then p else zv_a h 50 j := fun j hj => by rw [zv_wa w65 rfl j, zv_wa w62 rfl j, zv_wa w58 rfl j, s55 j hj, zv_wa w50 rfl j, zv_wa w46 rfl j, zv_wa w2 rfl j]
            have a51 : ∀ j, 0 ≤ j → zv_a h64 51 j = if j = zv_i h 5 then k else zv_a h 51 j := fun j hj => by rw [zv_wa w65 rfl j, zv_wa w62 rfl j, s59 j hj, zv_wa w54 rfl j, zv_wa w50 rfl j, zv_wa w46 rfl j, zv_wa w2 rfl j]
            exact zr_ir (x := zv_i h 5) (pc := 124) rfl rfl rfl ⟨ih64, (((((((w2.wd rfl : zb_W [(44, 0), (44, 5), (48, 0), (49, 0), (50, 0), (51, 0), (44, 13)] h _).tr (w46.wd rfl)).tr (w50.wd rfl)).tr (w54.wd rfl)).tr (w58.wd rfl)).tr (w62.wd rfl)).tr (w65.wd rfl)), _, rfl, by dsimp only; exact ⟨zs_ad_y (by omega) (fun j j0 => by rw [a48 j j0]), zs_ad_y (by omega) (fun j j0 => by rw [a49 j j0]), zs_ad_y (by omega) (fun j j0 => by rw [a50 j j0]), zs_ad_y (by omega) (fun j j0 => by rw [a51 j j0]), fun _ => by omega, fun z => absurd (by omega) z⟩⟩
          · refine zx_T.s (i := .bipush (-4)) (k := 2) (st' := [.int (zI ((-4)))]) (pc := 59) rfl rfl ?_
            have y74 : zv_i h1 5 = zv_i h 5 := (zv_wi w2 rfl)
            have y75 : zv_i h1 13 = zv_i h 13 := (zv_wi w2 rfl)
            have a48 : ∀ j, 0 ≤ j → zv_a h1 48 j = zv_a h 48 j := fun j hj => by rw [zv_wa w2 rfl j]
            have a49 : ∀ j, 0 ≤ j → zv_a h1 49 j = zv_a h 49 j := fun j hj => by rw [zv_wa w2 rfl j]
            have a50 : ∀ j, 0 ≤ j → zv_a h1 50 j = zv_a h 50 j := fun j hj => by rw [zv_wa w2 rfl j]
            have a51 : ∀ j, 0 ≤ j → zv_a h1 51 j = zv_a h 51 j := fun j hj => by rw [zv_wa w2 rfl j]
            exact zr_ir (x := (-4)) (pc := 61) rfl rfl rfl ⟨ih1, (w2.wd rfl : zb_W [(44, 0), (44, 5), (48, 0), (49, 0), (50, 0), (51, 0), (44, 13)] h _), _, rfl, by dsimp only; exact ⟨zs_ad_n (by omega) (fun j j0 => by rw [a48 j j0]), zs_ad_n (by omega) (fun j j0 => by rw [a49 j j0]), zs_ad_n (by omega) (fun j j0 => by rw [a50 j j0]), zs_ad_n (by omega) (fun j j0 => by rw [a51 j j0]), fun z => absurd z (by omega), fun _ => by omega⟩⟩
        · refine zx_T.s (i := .bipush (-2)) (k := 2) (st' := [.int (zI ((-2)))]) (pc := 47) rfl rfl ?_
          have y80 : zv_i h1 5 = zv_i h 5 := (zv_wi w2 rfl)
          have y81 : zv_i h1 13 = zv_i h 13 := (zv_wi w2 rfl)
          have a48 : ∀ j, 0 ≤ j → zv_a h1 48 j = zv_a h 48 j := fun j hj => by rw [zv_wa w2 rfl j]
          have a49 : ∀ j, 0 ≤ j → zv_a h1 49 j = zv_a h 49 j := fun j hj => by rw [zv_wa w2 rfl j]
          have a50 : ∀ j, 0 ≤ j → zv_a h1 50 j = zv_a h 50 j := fun j hj => by rw [zv_wa w2 rfl j]
          have a51 : ∀ j, 0 ≤ j → zv_a h1 51 j = zv_a h 51 j := fun j hj => by rw [zv_wa w2 rfl j]
          exact zr_ir (x := (-2)) (pc := 49) rfl rfl rfl ⟨ih1, (w2.wd rfl : zb_W [(44, 0), (44, 5), (48, 0), (49, 0), (50, 0), (51, 0), (44, 13)] h _), _, rfl, by dsimp only; exact ⟨zs_ad_n (by omega) (fun j j0 => by rw [a48 j j0]), zs_ad_n (by omega) (fun j j0 => by rw [a49 j j0]), zs_ad_n (by omega) (fun j j0 => by rw [a50 j j0]), zs_ad_n (by omega) (fun j j0 => by rw [a51 j j0]), fun z => absurd z (by omega), fun _ => by omega⟩⟩

set_option maxRecDepth 100000 in
set_option maxHeartbeats 4000000 in
theorem zm_parameterX {h : zx_H} (hI : zb_I zc_H h) {c : Int} (c1 : -2147483648 ≤ c) (c2 : c ≤ 2147483647) : zx_T zp_P 1 zp_m196 0 [(0, .ref 44), (1, .int (zI (c)))] [] h (zr_R [(44, 0), (44, 10), (52, 0), (44, 13)] h (fun e h' => zs_a2 ((c = 1 ∨ c = 2 ∨ (5 ≤ c ∧ c ≤ 8)) ∧ ((c = 2 ∧ zv_i h 10 + 2 ≤ 8) ∨ (¬ c = 2 ∧ zv_i h 10 + 1 ≤ 8))) (zv_i h 10) c (zv_a h 52) (zv_a h' 52) ∧ (((c = 1 ∨ c = 2 ∨ (5 ≤ c ∧ c ≤ 8)) ∧ ((c = 2 ∧ zv_i h 10 + 2 ≤ 8) ∨ (¬ c = 2 ∧ zv_i h 10 + 1 ≤ 8))) → zv_i h' 13 = 0) ∧ (¬ ((c = 1 ∨ c = 2 ∨ (5 ≤ c ∧ c ≤ 8)) ∧ ((c = 2 ∧ zv_i h 10 + 2 ≤ 8) ∨ (¬ c = 2 ∧ zv_i h 10 + 1 ≤ 8))) → zv_i h' 13 = zv_i h 13))) := by
  have hP := zv_ri hI (k := 10) rfl
  refine zx_T.l (i := .aload_n 0) (k := 1) (v := .ref 44) (pc := 0) rfl rfl rfl ?_
  refine zx_T.s (i := .iconst 0) (k := 1) (st' := [.int (zI (0)), .ref 44]) (pc := 1) rfl rfl ?_
  refine zr_pi (k := 0) (lo := (-2147483648)) (hi := 2147483647) (e := 0) (pc := 2) rfl rfl rfl rfl rfl rfl hI (by omega) (by omega) (fun h1 ih1 w2 e3 => ?_)
  refine zx_T.l (i := .iload_n 1) (k := 1) (v := .int (zI (c))) (pc := 5) rfl rfl rfl ?_
  refine zx_T.s (i := .iconst 1) (k := 1) (st' := [.int (zI (1)), .int (zI (c))]) (pc := 6) rfl rfl ?_
  refine zr_i2 (x := c) (y := 1) (t := 28) (pc := 7) rfl rfl (by omega) (by omega) (by omega) (by omega) (fun (c4 : c = 1) => ?_) (fun (c4 : ¬ (c = 1)) => ?_)
  · refine zx_T.l (i := .iload_n 1) (k := 1) (v := .int (zI (c))) (pc := 28) rfl rfl rfl ?_
    refine zx_T.s (i := .iconst 2) (k := 1) (st' := [.int (zI (2)), .int (zI (c))]) (pc := 29) rfl rfl ?_
    refine zr_i2 (x := c) (y := 2) (t := 37) (pc := 30) rfl rfl (by omega) (by omega) (by omega) (by omega) (fun (c5 : ¬ c = 2) => ?_) (fun (c5 : ¬ (¬ c = 2)) => False.elim (by omega))
    refine zx_T.s (i := .iconst 1) (k := 1) (st' := [.int (zI (1))]) (pc := 37) rfl rfl ?_
    refine zx_T.t (i := .istore_n 2) (k := 1) (ls' := [(2, .int (zI (1))), (0, .ref 44), (1, .int (zI (c)))]) (st' := []) (pc := 38) rfl rfl rfl rfl ?_
    refine zx_T.l (i := .aload_n 0) (k := 1) (v := .ref 44) (pc := 39) rfl rfl rfl ?_
    refine zr_gi (k := 10) (lo := 0) (hi := 8) (e := zv_i h 10) (pc := 40) rfl rfl rfl ih1 (zv_wi w2 rfl) (fun g6a g6b => ?_)
    refine zx_T.l (i := .iload_n 2) (k := 1) (v := .int (zI (1))) (pc := 43) rfl rfl rfl ?_
    refine zr_add (x := zv_i h 10) (y := 1) (e := zv_i h 10 + 1) (pc := 44) rfl (by omega) ?_
    refine zx_T.s (i := .bipush 8) (k := 2) (st' := [.int (zI (8)), .int (zI (zv_i h 10 + 1))]) (pc := 45) rfl rfl ?_
    refine zr_i2 (x := zv_i h 10 + 1) (y := 8) (t := 53) (pc := 47) rfl rfl (by omega) (by omega) (by omega) (by omega) (fun (c7 : (zv_i h 10 + 1) ≤ 8) => ?_) (fun (c7 : ¬ ((zv_i h 10 + 1) ≤ 8)) => ?_)
    · refine zx_T.l (i := .aload_n 0) (k := 1) (v := .ref 44) (pc := 53) rfl rfl rfl ?_
      refine zr_gr (k := 11) (b := 52) (pc := 54) rfl rfl rfl ih1 ?_
      refine zx_T.l (i := .aload_n 0) (k := 1) (v := .ref 44) (pc := 57) rfl rfl rfl ?_
      refine zr_gi (k := 10) (lo := 0) (hi := 8) (e := zv_i h 10) (pc := 58) rfl rfl rfl ih1 (zv_wi w2 rfl) (fun g8a g8b => ?_)
      refine zx_T.l (i := .iload_n 1) (k := 1) (v := .int (zI (c))) (pc := 61) rfl rfl rfl ?_
      refine zr_as (n := 8) (lo := 0) (hi := 8) (e := c) (pc := 62) rfl rfl rfl rfl ih1 (by omega) (by omega) (by omega) (by omega) (fun h9 ih9 w10 s11 => ?_)
      refine zx_T.l (i := .iload_n 1) (k := 1) (v := .int (zI (c))) (pc := 63) rfl rfl rfl ?_
      refine zx_T.s (i := .iconst 2) (k := 1) (st' := [.int (zI (2)), .int (zI (c))]) (pc := 64) rfl rfl ?_
      refine zr_i2 (x := c) (y := 2) (t := 80) (pc := 65) rfl rfl (by omega) (by omega) (by omega) (by omega) (fun (c12 : ¬ c = 2) => ?_) (fun (c12 : ¬ (¬ c = 2)) => False.elim (by omega))
      refine zx_T.l (i := .aload_n 0) (k := 1) (v := .ref 44) (pc := 80) rfl rfl rfl ?_
      refine zx_T.s (i := .dup) (k := 1) (st' := [.ref 44, .ref 44]) (pc := 81) rfl rfl ?_
      refine zr_gi (k := 10) (lo := 0) (hi := 8) (e := zv_i h 10) (pc := 82) rfl rfl rfl ih9 ((zv_wi w10 rfl).trans (zv_wi w2 rfl)) (fun g13a g13b => ?_)
      refine zx_T.l (i := .iload_n 2) (k := 1) (v := .int (zI (1))) (pc := 85) rfl rfl rfl ?_
      refine zr_add (x := zv_i h 10) (y := 1) (e := zv_i h 10 + 1) (pc := 86) rfl (by omega) ?_
      refine zr_pi (k := 10) (lo := 0) (hi := 8) (e := zv_i h 10 + 1) (pc := 87) rfl rfl rfl rfl rfl rfl ih9 (by omega) (by omega) (fun h14 ih14 w15 e16 => ?_)
      refine zx_T.l (i := .aload_n 0) (k := 1) (v := .ref 44) (pc := 90) rfl rfl rfl ?_
      refine zx_T.s (i := .iconst 0) (k := 1) (st' := [.int (zI (0)), .ref 44]) (pc := 91) rfl rfl ?_
      refine zr_pi (k := 13) (lo := 0) (hi := 1) (e := 0) (pc := 92) rfl rfl rfl rfl rfl rfl ih14 (by omega) (by omega) (fun h17 ih17 w18 e19 => ?_)
      refine zx_T.l (i := .aload_n 0) (k := 1) (v := .ref 44) (pc := 95) rfl rfl rfl ?_
      refine zr_gi (k := 10) (lo := 0) (hi := 8) (e := zv_i h 10 + 1) (pc := 96) rfl rfl rfl ih17 ((zv_wi w18 rfl).trans e16) (fun g20a g20b => ?_)
      refine zx_T.l (i := .iload_n 2) (k := 1) (v := .int (zI (1))) (pc := 99) rfl rfl rfl ?_
      refine zr_sub (x := zv_i h 10 + 1) (y := 1) (e := zv_i h 10) (pc := 100) rfl (by omega) ?_
      have y21 : zv_i h17 10 = zv_i h 10 + 1 := ((zv_wi w18 rfl).trans e16)
      have y22 : zv_i h17 13 = 0 := e19
      have a52 : ∀ j, 0 ≤ j → zv_a h17 52 j = if j = zv_i h 10 then c else zv_a h 52 j := fun j hj => by rw [zv_wa w18 rfl j, zv_wa w15 rfl j, s11 j hj, zv_wa w2 rfl j]
      exact zr_ir (x := zv_i h 10) (pc := 101) rfl rfl rfl ⟨ih17, ((((w2.wd rfl : zb_W [(44, 0), (44, 10), (52, 0), (44, 13)] h _).tr (w10.wd rfl)).tr (w15.wd rfl)).tr (w18.wd rfl)), _, rfl, by dsimp only; exact ⟨⟨fun _ j j0 => by rw [a52 j j0]; (repeat split) <;> omega, fun z => absurd (by omega) z⟩, fun _ => by omega, fun z => absurd (by omega) z⟩⟩
    · refine zx_T.s (i := .bipush (-4)) (k := 2) (st' := [.int (zI ((-4)))]) (pc := 50) rfl rfl ?_
      have y24 : zv_i h1 10 = zv_i h 10 := (zv_wi w2 rfl)
      have y25 : zv_i h1 13 = zv_i h 13 := (zv_wi w2 rfl)
      have a52 : ∀ j, 0 ≤ j → zv_a h1 52 j = zv_a h 52 j := fun j hj => by rw [zv_wa w2 rfl j]
      exact zr_ir (x := (-4)) (pc := 52) rfl rfl rfl ⟨ih1, (w2.wd rfl : zb_W [(44, 0), (44, 10), (52, 0), (44, 13)] h _), _, rfl, by dsimp only; exact ⟨⟨fun z => absurd z (by omega), fun _ j j0 => by rw [a52 j j0]⟩, fun z => absurd z (by omega), fun _ => by omega⟩⟩
  · refine zx_T.l (i := .iload_n 1) (k := 1) (v := .int (zI (c))) (pc := 10) rfl rfl rfl ?_
    refine zx_T.s (i := .iconst 2) (k := 1) (st' := [.int (zI (2)), .int (zI (c))]) (pc := 11) rfl rfl ?_
    refine zr_i2 (x := c) (y := 2) (t := 28) (pc := 12) rfl rfl (by omega) (by omega) (by omega) (by omega) (fun (c27 : c = 2) => ?_) (fun (c27 : ¬ (c = 2)) => ?_)
    · refine zx_T.l (i := .iload_n 1) (k := 1) (v := .int (zI (c))) (pc := 28) rfl rfl rfl ?_
      refine zx_T.s (i := .iconst 2) (k := 1) (st' := [.int (zI (2)), .int (zI (c))]) (pc := 29) rfl rfl ?_
      refine zr_i2 (x := c) (y := 2) (t := 37) (pc := 30) rfl rfl (by omega) (by omega) (by omega) (by omega) (fun (c28 : ¬ c = 2) => False.elim (by omega)) (fun (c28 : ¬ (¬ c = 2)) => ?_)
      refine zx_T.s (i := .iconst 2) (k := 1) (st' := [.int (zI (2))]) (pc := 33) rfl rfl ?_
      refine zx_T.j (i := .goto 4) (k := 3) (pc' := 38) (st' := [.int (zI (2))]) (pc := 34) rfl rfl rfl rfl rfl ?_
      refine zx_T.t (i := .istore_n 2) (k := 1) (ls' := [(2, .int (zI (2))), (0, .ref 44), (1, .int (zI (c)))]) (st' := []) (pc := 38) rfl rfl rfl rfl ?_
      refine zx_T.l (i := .aload_n 0) (k := 1) (v := .ref 44) (pc := 39) rfl rfl rfl ?_
      refine zr_gi (k := 10) (lo := 0) (hi := 8) (e := zv_i h 10) (pc := 40) rfl rfl rfl ih1 (zv_wi w2 rfl) (fun g29a g29b => ?_)
      refine zx_T.l (i := .iload_n 2) (k := 1) (v := .int (zI (2))) (pc := 43) rfl rfl rfl ?_
      refine zr_add (x := zv_i h 10) (y := 2) (e := zv_i h 10 + 2) (pc := 44) rfl (by omega) ?_
      refine zx_T.s (i := .bipush 8) (k := 2) (st' := [.int (zI (8)), .int (zI (zv_i h 10 + 2))]) (pc := 45) rfl rfl ?_
      refine zr_i2 (x := zv_i h 10 + 2) (y := 8) (t := 53) (pc := 47) rfl rfl (by omega) (by omega) (by omega) (by omega) (fun (c30 : (zv_i h 10 + 2) ≤ 8) => ?_) (fun (c30 : ¬ ((zv_i h 10 + 2) ≤ 8)) => ?_)
      · refine zx_T.l (i := .aload_n 0) (k := 1) (v := .ref 44) (pc := 53) rfl rfl rfl ?_
        refine zr_gr (k := 11) (b := 52) (pc := 54) rfl rfl rfl ih1 ?_
        refine zx_T.l (i := .aload_n 0) (k := 1) (v := .ref 44) (pc := 57) rfl rfl rfl ?_
        refine zr_gi (k := 10) (lo := 0) (hi := 8) (e := zv_i h 10) (pc := 58) rfl rfl rfl ih1 (zv_wi w2 rfl) (fun g31a g31b => ?_)
        refine zx_T.l (i := .iload_n 1) (k := 1) (v := .int (zI (c))) (pc := 61) rfl rfl rfl ?_
        refine zr_as (n := 8) (lo := 0) (hi := 8) (e := c) (pc := 62) rfl rfl rfl rfl ih1 (by omega) (by omega) (by omega) (by omega) (fun h32 ih32 w33 s34 => ?_)
        refine zx_T.l (i := .iload_n 1) (k := 1) (v := .int (zI (c))) (pc := 63) rfl rfl rfl ?_
        refine zx_T.s (i := .iconst 2) (k := 1) (st' := [.int (zI (2)), .int (zI (c))]) (pc := 64) rfl rfl ?_
        refine zr_i2 (x := c) (y := 2) (t := 80) (pc := 65) rfl rfl (by omega) (by omega) (by omega) (by omega) (fun (c35 : ¬ c = 2) => False.elim (by omega)) (fun (c35 : ¬ (¬ c = 2)) => ?_)
        refine zx_T.l (i := .aload_n 0) (k := 1) (v := .ref 44) (pc := 68) rfl rfl rfl ?_
        refine zr_gr (k := 11) (b := 52) (pc := 69) rfl rfl rfl ih32 ?_
        refine zx_T.l (i := .aload_n 0) (k := 1) (v := .ref 44) (pc := 72) rfl rfl rfl ?_
        refine zr_gi (k := 10) (lo := 0) (hi := 8) (e := zv_i h 10) (pc := 73) rfl rfl rfl ih32 ((zv_wi w33 rfl).trans (zv_wi w2 rfl)) (fun g36a g36b => ?_)
        refine zx_T.s (i := .iconst 1) (k := 1) (st' := [.int (zI (1)), .int (zI (zv_i h 10)), .ref 52]) (pc := 76) rfl rfl ?_
        refine zr_add (x := zv_i h 10) (y := 1) (e := zv_i h 10 + 1) (pc := 77) rfl (by omega) ?_
        refine zx_T.s (i := .iconst 3) (k := 1) (st' := [.int (zI (3)), .int (zI (zv_i h 10 + 1)), .ref 52]) (pc := 78) rfl rfl ?_
        refine zr_as (n := 8) (lo := 0) (hi := 8) (e := 3) (pc := 79) rfl rfl rfl rfl ih32 (by omega) (by omega) (by omega) (by omega) (fun h37 ih37 w38 s39 => ?_)
        refine zx_T.l (i := .aload_n 0) (k := 1) (v := .ref 44) (pc := 80) rfl rfl rfl ?_
        refine zx_T.s (i := .dup) (k := 1) (st' := [.ref 44, .ref 44]) (pc := 81) rfl rfl ?_
        refine zr_gi (k := 10) (lo := 0) (hi := 8) (e := zv_i h 10) (pc := 82) rfl rfl rfl ih37 ((zv_wi w38 rfl).trans ((zv_wi w33 rfl).trans (zv_wi w2 rfl))) (fun g40a g40b => ?_)
        refine zx_T.l (i := .iload_n 2) (k := 1) (v := .int (zI (2))) (pc := 85) rfl rfl rfl ?_
        refine zr_add (x := zv_i h 10) (y := 2) (e := zv_i h 10 + 2) (pc := 86) rfl (by omega) ?_
        refine zr_pi (k := 10) (lo := 0) (hi := 8) (e := zv_i h 10 + 2) (pc := 87) rfl rfl rfl rfl rfl rfl ih37 (by omega) (by omega) (fun h41 ih41 w42 e43 => ?_)
        refine zx_T.l (i := .aload_n 0) (k := 1) (v := .ref 44) (pc := 90) rfl rfl rfl ?_
        refine zx_T.s (i := .iconst 0) (k := 1) (st' := [.int (zI (0)), .ref 44]) (pc := 91) rfl rfl ?_
        refine zr_pi (k := 13) (lo := 0) (hi := 1) (e := 0) (pc := 92) rfl rfl rfl rfl rfl rfl ih41 (by omega) (by omega) (fun h44 ih44 w45 e46 => ?_)
        refine zx_T.l (i := .aload_n 0) (k := 1) (v := .ref 44) (pc := 95) rfl rfl rfl ?_
        refine zr_gi (k := 10) (lo := 0) (hi := 8) (e := zv_i h 10 + 2) (pc := 96) rfl rfl rfl ih44 ((zv_wi w45 rfl).trans e43) (fun g47a g47b => ?_)
        refine zx_T.l (i := .iload_n 2) (k := 1) (v := .int (zI (2))) (pc := 99) rfl rfl rfl ?_
        refine zr_sub (x := zv_i h 10 + 2) (y := 2) (e := zv_i h 10) (pc := 100) rfl (by omega) ?_
        have y48 : zv_i h44 10 = zv_i h 10 + 2 := ((zv_wi w45 rfl).trans e43)
        have y49 : zv_i h44 13 = 0 := e46
        have a52 : ∀ j, 0 ≤ j → zv_a h44 52 j = if j = zv_i h 10 + 1 then 3 else if j = zv_i h 10 then c else zv_a h 52 j := fun j hj => by rw [zv_wa w45 rfl j, zv_wa w42 rfl j, s39 j hj, s34 j hj, zv_wa w2 rfl j]
        exact zr_ir (x := zv_i h 10) (pc := 101) rfl rfl rfl ⟨ih44, (((((w2.wd rfl : zb_W [(44, 0), (44, 10), (52, 0), (44, 13)] h _).tr (w33.wd rfl)).tr (w38.wd rfl)).tr (w42.wd rfl)).tr (w45.wd rfl)), _, rfl, by dsimp only; exact ⟨⟨fun _ j j0 => by rw [a52 j j0]; (repeat split) <;> omega, fun z => absurd (by omega) z⟩, fun _ => by omega, fun z => absurd (by omega) z⟩⟩
      · refine zx_T.s (i := .bipush (-4)) (k := 2) (st' := [.int (zI ((-4)))]) (pc := 50) rfl rfl ?_
        have y51 : zv_i h1 10 = zv_i h 10 := (zv_wi w2 rfl)
        have y52 : zv_i h1 13 = zv_i h 13 := (zv_wi w2 rfl)
        have a52 : ∀ j, 0 ≤ j → zv_a h1 52 j = zv_a h 52 j := fun j hj => by rw [zv_wa w2 rfl j]
        exact zr_ir (x := (-4)) (pc := 52) rfl rfl rfl ⟨ih1, (w2.wd rfl : zb_W [(44, 0), (44, 10), (52, 0), (44, 13)] h _), _, rfl, by dsimp only; exact ⟨⟨fun z => absurd z (by omega), fun _ j j0 => by rw [a52 j j0]⟩, fun z => absurd z (by omega), fun _ => by omega⟩⟩
    · refine zx_T.l (i := .iload_n 1) (k := 1) (v := .int (zI (c))) (pc := 15) rfl rfl rfl ?_
      refine zx_T.s (i := .iconst 5) (k := 1) (st' := [.int (zI (5)), .int (zI (c))]) (pc := 16) rfl rfl ?_
      refine zx_T.s (i := .bipush 8) (k := 2) (st' := [.int (zI (8)), .int (zI (5)), .int (zI (c))]) (pc := 17) rfl rfl ?_
      refine zr_is (cj := 155) (q' := zp_m155) (As := [.int (zI (c)), .int (zI (5)), .int (zI (8))]) (rest := []) (pc := 19) rfl rfl rfl rfl rfl rfl (Nat.le_of_ble_eq_true rfl) rfl (Nat.le_of_ble_eq_true rfl) rfl ((zm_in (h := h1) ih1 (v := c) (l := 5) (u := 8) (by omega) (by omega) (by omega) (by omega) (by omega) (by omega)).up (Nat.le_of_ble_eq_true rfl)) ?_
      rintro r54 h57 ⟨h57q, v55, r54q, x56⟩
      subst h57q r54q
      try dsimp only at x56
      show zx_T zp_P 1 zp_m196 22 [(0, .ref 44), (1, .int (zI (c)))] [.int (zI (v55))] h1 _
      refine zr_i1 (x := v55) (t := 28) (pc := 22) rfl rfl (by omega) (by omega) (fun (c58 : ¬ v55 = 0) => ?_) (fun (c58 : ¬ (¬ v55 = 0)) => ?_)
      · refine zx_T.l (i := .iload_n 1) (k := 1) (v := .int (zI (c))) (pc := 28) rfl rfl rfl ?_
        refine zx_T.s (i := .iconst 2) (k := 1) (st' := [.int (zI (2)), .int (zI (c))]) (pc := 29) rfl rfl ?_
        refine zr_i2 (x := c) (y := 2) (t := 37) (pc := 30) rfl rfl (by omega) (by omega) (by omega) (by omega) (fun (c59 : ¬ c = 2) => ?_) (fun (c59 : ¬ (¬ c = 2)) => False.elim (by omega))
        refine zx_T.s (i := .iconst 1) (k := 1) (st' := [.int (zI (1))]) (pc := 37) rfl rfl ?_
        refine zx_T.t (i := .istore_n 2) (k := 1) (ls' := [(2, .int (zI (1))), (0, .ref 44), (1, .int (zI (c)))]) (st' := []) (pc := 38) rfl rfl rfl rfl ?_
        refine zx_T.l (i := .aload_n 0) (k := 1) (v := .ref 44) (pc := 39) rfl rfl rfl ?_
        refine zr_gi (k := 10) (lo := 0) (hi := 8) (e := zv_i h 10) (pc := 40) rfl rfl rfl ih1 (zv_wi w2 rfl) (fun g60a g60b => ?_)
        refine zx_T.l (i := .iload_n 2) (k := 1) (v := .int (zI (1))) (pc := 43) rfl rfl rfl ?_
        refine zr_add (x := zv_i h 10) (y := 1) (e := zv_i h 10 + 1) (pc := 44) rfl (by omega) ?_
        refine zx_T.s (i := .bipush 8) (k := 2) (st' := [.int (zI (8)), .int (zI (zv_i h 10 + 1))]) (pc := 45) rfl rfl ?_
        refine zr_i2 (x := zv_i h 10 + 1) (y := 8) (t := 53) (pc := 47) rfl rfl (by omega) (by omega) (by omega) (by omega) (fun (c61 : (zv_i h 10 + 1) ≤ 8) => ?_) (fun (c61 : ¬ ((zv_i h 10 + 1) ≤ 8)) => ?_)
        · refine zx_T.l (i := .aload_n 0) (k := 1) (v := .ref 44) (pc := 53) rfl rfl rfl ?_
          refine zr_gr (k := 11) (b := 52) (pc := 54) rfl rfl rfl ih1 ?_
          refine zx_T.l (i := .aload_n 0) (k := 1) (v := .ref 44) (pc := 57) rfl rfl rfl ?_
          refine zr_gi (k := 10) (lo := 0) (hi := 8) (e := zv_i h 10) (pc := 58) rfl rfl rfl ih1 (zv_wi w2 rfl) (fun g62a g62b => ?_)
          refine zx_T.l (i := .iload_n 1) (k := 1) (v := .int (zI (c))) (pc := 61) rfl rfl rfl ?_
          refine zr_as (n := 8) (lo := 0) (hi := 8) (e := c) (pc := 62) rfl rfl rfl rfl ih1 (by omega) (by omega) (by omega) (by omega) (fun h63 ih63 w64 s65 => ?_)
          refine zx_T.l (i := .iload_n 1) (k := 1) (v := .int (zI (c))) (pc := 63) rfl rfl rfl ?_
          refine zx_T.s (i := .iconst 2) (k := 1) (st' := [.int (zI (2)), .int (zI (c))]) (pc := 64) rfl rfl ?_
          refine zr_i2 (x := c) (y := 2) (t := 80) (pc := 65) rfl rfl (by omega) (by omega) (by omega) (by omega) (fun (c66 : ¬ c = 2) => ?_) (fun (c66 : ¬ (¬ c = 2)) => False.elim (by omega))
          refine zx_T.l (i := .aload_n 0) (k := 1) (v := .ref 44) (pc := 80) rfl rfl rfl ?_
          refine zx_T.s (i := .dup) (k := 1) (st' := [.ref 44, .ref 44]) (pc := 81) rfl rfl ?_
          refine zr_gi (k := 10) (lo := 0) (hi := 8) (e := zv_i h 10) (pc := 82) rfl rfl rfl ih63 ((zv_wi w64 rfl).trans (zv_wi w2 rfl)) (fun g67a g67b => ?_)
          refine zx_T.l (i := .iload_n 2) (k := 1) (v := .int (zI (1))) (pc := 85) rfl rfl rfl ?_
          refine zr_add (x := zv_i h 10) (y := 1) (e := zv_i h 10 + 1) (pc := 86) rfl (by omega) ?_
          refine zr_pi (k := 10) (lo := 0) (hi := 8) (e := zv_i h 10 + 1) (pc := 87) rfl rfl rfl rfl rfl rfl ih63 (by omega) (by omega) (fun h68 ih68 w69 e70 => ?_)
          refine zx_T.l (i := .aload_n 0) (k := 1) (v := .ref 44) (pc := 90) rfl rfl rfl ?_
          refine zx_T.s (i := .iconst 0) (k := 1) (st' := [.int (zI (0)), .ref 44]) (pc := 91) rfl rfl ?_
          refine zr_pi (k := 13) (lo := 0) (hi := 1) (e := 0) (pc := 92) rfl rfl rfl rfl rfl rfl ih68 (by omega) (by omega) (fun h71 ih71 w72 e73 => ?_)
          refine zx_T.l (i := .aload_n 0) (k := 1) (v := .ref 44) (pc := 95) rfl rfl rfl ?_
          refine zr_gi (k := 10) (lo := 0) (hi := 8) (e := zv_i h 10 + 1) (pc := 96) rfl rfl rfl ih71 ((zv_wi w72 rfl).trans e70) (fun g74a g74b => ?_)
          refine zx_T.l (i := .iload_n 2) (k := 1) (v := .int (zI (1))) (pc := 99) rfl rfl rfl ?_
          refine zr_sub (x := zv_i h 10 + 1) (y := 1) (e := zv_i h 10) (pc := 100) rfl (by omega) ?_
          have y75 : zv_i h71 10 = zv_i h 10 + 1 := ((zv_wi w72 rfl).trans e70)
          have y76 : zv_i h71 13 = 0 := e73
          have a52 : ∀ j, 0 ≤ j → zv_a h71 52 j = if j = zv_i h 10 then c else zv_a h 52 j := fun j hj => by rw [zv_wa w72 rfl j, zv_wa w69 rfl j, s65 j hj, zv_wa w2 rfl j]
          exact zr_ir (x := zv_i h 10) (pc := 101) rfl rfl rfl ⟨ih71, ((((w2.wd rfl : zb_W [(44, 0), (44, 10), (52, 0), (44, 13)] h _).tr (w64.wd rfl)).tr (w69.wd rfl)).tr (w72.wd rfl)), _, rfl, by dsimp only; exact ⟨⟨fun _ j j0 => by rw [a52 j j0]; (repeat split) <;> omega, fun z => absurd (by omega) z⟩, fun _ => by omega, fun z => absurd (by omega) z⟩⟩
        · refine zx_T.s (i := .bipush (-4)) (k := 2) (st' := [.int (zI ((-4)))]) (pc := 50) rfl rfl ?_
          have y78 : zv_i h1 10 = zv_i h 10 := (zv_wi w2 rfl)
          have y79 : zv_i h1 13 = zv_i h 13 := (zv_wi w2 rfl)
          have a52 : ∀ j, 0 ≤ j → zv_a h1 52 j = zv_a h 52 j := fun j hj => by rw [zv_wa w2 rfl j]
          exact zr_ir (x := (-4)) (pc := 52) rfl rfl rfl ⟨ih1, (w2.wd rfl : zb_W [(44, 0), (44, 10), (52, 0), (44, 13)] h _), _, rfl, by dsimp only; exact ⟨⟨fun z => absurd z (by omega), fun _ j j0 => by rw [a52 j j0]⟩, fun z => absurd z (by omega), fun _ => by omega⟩⟩
      · refine zx_T.s (i := .bipush (-2)) (k := 2) (st' := [.int (zI ((-2)))]) (pc := 25) rfl rfl ?_
        have y81 : zv_i h1 10 = zv_i h 10 := (zv_wi w2 rfl)
        have y82 : zv_i h1 13 = zv_i h 13 := (zv_wi w2 rfl)
        have a52 : ∀ j, 0 ≤ j → zv_a h1 52 j = zv_a h 52 j := fun j hj => by rw [zv_wa w2 rfl j]
        exact zr_ir (x := (-2)) (pc := 27) rfl rfl rfl ⟨ih1, (w2.wd rfl : zb_W [(44, 0), (44, 10), (52, 0), (44, 13)] h _), _, rfl, by dsimp only; exact ⟨⟨fun z => absurd z (by omega), fun _ j j0 => by rw [a52 j j0]⟩, fun z => absurd z (by omega), fun _ => by omega⟩⟩

set_option maxRecDepth 100000 in
set_option maxHeartbeats 4000000 in
theorem zm_cAddInsX {h : zx_H} (hI : zb_I zc_H h) {o : Int} {a : Int} {b : Int} (o1 : -2147483648 ≤ o) (o2 : o ≤ 2147483647) (a1 : -2147483648 ≤ a) (a2 : a ≤ 2147483647) (b1 : -2147483648 ≤ b) (b2 : b ≤ 2147483647) : zx_T zp_P 0 zp_m1 0 [(0, .ref 1), (1, .int (zI (o))), (2, .int (zI (a))), (3, .int (zI (b)))] [] h (zr_R [(2, 0), (3, 0), (4, 0), (1, 3)] h (fun e h' => ((60 ≤ zv_f h 1 3 ∧ e = -4 ∧ zv_f h' 1 3 = zv_f h 1 3) ∨ (zv_f h 1 3 < 60 ∧ e = zv_f h 1 3 ∧ zv_f h' 1 3 = zv_f h 1 3 + 1)) ∧ zs_ad (zv_f h 1 3 < 60) (zv_f h 1 3) o (zv_a h 2) (zv_a h' 2) ∧ zs_ad (zv_f h 1 3 < 60) (zv_f h 1 3) a (zv_a h 3) (zv_a h' 3) ∧ zs_ad (zv_f h 1 3 < 60) (zv_f h 1 3) b (zv_a h 4) (zv_a h' 4))) := by
  have hP := zw_ri hI (a := 1) (k := 3) rfl
  refine zx_T.l (i := .aload_n 0) (k := 1) (v := .ref 1) (pc := 0) rfl rfl rfl ?_
  refine zw_gi (k := 3) (lo := 0) (hi := 60) (e := zv_f h 1 3) (pc := 1) rfl rfl rfl hI rfl (fun g1a g1b => ?_)
  refine zx_T.s (i := .bipush 60) (k := 2) (st' := [.int (zI (60)), .int (zI (zv_f h 1 3))]) (pc := 4) rfl rfl ?_
  refine zr_i2 (x := zv_f h 1 3) (y := 60) (t := 12) (pc := 6) rfl rfl (by omega) (by omega) (by omega) (by omega) (fun (c2 : (zv_f h 1 3) < 60) => ?_) (fun (c2 : ¬ ((zv_f h 1 3) < 60)) => ?_)
  · refine zx_T.l (i := .aload_n 0) (k := 1) (v := .ref 1) (pc := 12) rfl rfl rfl ?_
    refine zw_gr (k := 0) (b := 2) (pc := 13) rfl rfl rfl hI ?_
    refine zx_T.l (i := .aload_n 0) (k := 1) (v := .ref 1) (pc := 16) rfl rfl rfl ?_
    refine zw_gi (k := 3) (lo := 0) (hi := 60) (e := zv_f h 1 3) (pc := 17) rfl rfl rfl hI rfl (fun g3a g3b => ?_)
    refine zx_T.l (i := .iload_n 1) (k := 1) (v := .int (zI (o))) (pc := 20) rfl rfl rfl ?_
    refine zr_as (n := 60) (lo := (-2147483648)) (hi := 2147483647) (e := o) (pc := 21) rfl rfl rfl rfl hI (by omega) (by omega) (by omega) (by omega) (fun h4 ih4 w5 s6 => ?_)
    refine zx_T.l (i := .aload_n 0) (k := 1) (v := .ref 1) (pc := 22) rfl rfl rfl ?_
    refine zw_gr (k := 1) (b := 3) (pc := 23) rfl rfl rfl ih4 ?_
    refine zx_T.l (i := .aload_n 0) (k := 1) (v := .ref 1) (pc := 26) rfl rfl rfl ?_
    refine zw_gi (k := 3) (lo := 0) (hi := 60) (e := zv_f h 1 3) (pc := 27) rfl rfl rfl ih4 (zv_wf w5 rfl) (fun g7a g7b => ?_)
    refine zx_T.l (i := .iload_n 2) (k := 1) (v := .int (zI (a))) (pc := 30) rfl rfl rfl ?_
    refine zr_as (n := 60) (lo := (-2147483648)) (hi := 2147483647) (e := a) (pc := 31) rfl rfl rfl rfl ih4 (by omega) (by omega) (by omega) (by omega) (fun h8 ih8 w9 s10 => ?_)
    refine zx_T.l (i := .aload_n 0) (k := 1) (v := .ref 1) (pc := 32) rfl rfl rfl ?_
    refine zw_gr (k := 2) (b := 4) (pc := 33) rfl rfl rfl ih8 ?_
    refine zx_T.l (i := .aload_n 0) (k := 1) (v := .ref 1) (pc := 36) rfl rfl rfl ?_
    refine zw_gi (k := 3) (lo := 0) (hi := 60) (e := zv_f h 1 3) (pc := 37) rfl rfl rfl ih8 ((zv_wf w9 rfl).trans (zv_wf w5 rfl)) (fun g11a g11b => ?_)
    refine zx_T.l (i := .iload_n 3) (k := 1) (v := .int (zI (b))) (pc := 40) rfl rfl rfl ?_
    refine zr_as (n := 60) (lo := (-2147483648)) (hi := 2147483647) (e := b) (pc := 41) rfl rfl rfl rfl ih8 (by omega) (by omega) (by omega) (by omega) (fun h12 ih12 w13 s14 => ?_)
    refine zx_T.l (i := .aload_n 0) (k := 1) (v := .ref 1) (pc := 42) rfl rfl rfl ?_
    refine zx_T.s (i := .dup) (k := 1) (st' := [.ref 1, .ref 1]) (pc := 43) rfl rfl ?_
    refine zw_gi (k := 3) (lo := 0) (hi := 60) (e := zv_f h 1 3) (pc := 44) rfl rfl rfl ih12 ((zv_wf w13 rfl).trans ((zv_wf w9 rfl).trans (zv_wf w5 rfl))) (fun g15a g15b => ?_)
    refine zx_T.s (i := .dup_x1) (k := 1) (st' := [.int (zI (zv_f h 1 3)), .ref 1, .int (zI (zv_f h 1 3))]) (pc := 47) rfl rfl ?_
    refine zx_T.s (i := .iconst 1) (k := 1) (st' := [.int (zI (1)), .int (zI (zv_f h 1 3)), .ref 1, .int (zI (zv_f h 1 3))]) (pc := 48) rfl rfl ?_
    refine zr_add (x := zv_f h 1 3) (y := 1) (e := zv_f h 1 3 + 1) (pc := 49) rfl (by omega) ?_
    refine zw_pi (k := 3) (lo := 0) (hi := 60) (e := zv_f h 1 3 + 1) (pc := 50) rfl rfl rfl rfl rfl rfl ih12 (by omega) (by omega) (fun h16 ih16 w17 e18 => ?_)
    have y19 : zv_f h16 1 3 = zv_f h 1 3 + 1 := e18
    have a2 : ∀ j, 0 ≤ j → zv_a h16 2 j = if j = zv_f h 1 3 then o else zv_a h 2 j := fun j hj => by rw [zv_wa w17 rfl j, zv_wa w13 rfl j, zv_wa w9 rfl j, s6 j hj]
    have a3 : ∀ j, 0 ≤ j → zv_a h16 3 j = if j = zv_f h 1 3 then a else zv_a h 3 j := fun j hj => by rw [zv_wa w17 rfl j, zv_wa w13 rfl j, s10 j hj, zv_wa w5 rfl j]
    have a4 : ∀ j, 0 ≤ j → zv_a h16 4 j = if j = zv_f h 1 3 then b else zv_a h 4 j := fun j hj => by rw [zv_wa w17 rfl j, s14 j hj, zv_wa w9 rfl j, zv_wa w5 rfl j]
    exact zr_ir (x := zv_f h 1 3) (pc := 53) rfl rfl rfl ⟨ih16, ((((w5.wd rfl : zb_W [(2, 0), (3, 0), (4, 0), (1, 3)] h _).tr (w9.wd rfl)).tr (w13.wd rfl)).tr (w17.wd rfl)), _, rfl, by dsimp only; exact ⟨Or.inr ⟨by omega, by omega, by omega⟩, zs_ad_y (by omega) (fun j j0 => by rw [a2 j j0]), zs_ad_y (by omega) (fun j j0 => by rw [a3 j j0]), zs_ad_y (by omega) (fun j j0 => by rw [a4 j j0])⟩⟩
  · refine zx_T.s (i := .bipush (-4)) (k := 2) (st' := [.int (zI ((-4)))]) (pc := 9) rfl rfl ?_
    have a2 : ∀ j, 0 ≤ j → zv_a h 2 j = zv_a h 2 j := fun j hj => rfl
    have a3 : ∀ j, 0 ≤ j → zv_a h 3 j = zv_a h 3 j := fun j hj => rfl
    have a4 : ∀ j, 0 ≤ j → zv_a h 4 j = zv_a h 4 j := fun j hj => rfl
    exact zr_ir (x := (-4)) (pc := 11) rfl rfl rfl ⟨hI, zb_W.rf, _, rfl, by dsimp only; exact ⟨Or.inl ⟨by omega, by omega, by omega⟩, zs_ad_n (by omega) (fun j j0 => by rw [a2 j j0]), zs_ad_n (by omega) (fun j j0 => by rw [a3 j j0]), zs_ad_n (by omega) (fun j j0 => by rw [a4 j j0])⟩⟩

set_option maxRecDepth 100000 in
set_option maxHeartbeats 4000000 in
theorem zm_cAddHndX {h : zx_H} (hI : zb_I zc_H h) {f : Int} {t : Int} {p : Int} {k : Int} (f1 : -2147483648 ≤ f) (f2 : f ≤ 2147483647) (t1 : -2147483648 ≤ t) (t2 : t ≤ 2147483647) (p1 : -2147483648 ≤ p) (p2 : p ≤ 2147483647) (k1 : -2147483648 ≤ k) (k2 : k ≤ 2147483647) : zx_T zp_P 0 zp_m2 0 [(0, .ref 1), (1, .int (zI (f))), (2, .int (zI (t))), (3, .int (zI (p))), (4, .int (zI (k)))] [] h (zr_R [(5, 0), (6, 0), (7, 0), (8, 0), (1, 8)] h (fun e h' => ((6 ≤ zv_f h 1 8 ∧ e = -4 ∧ zv_f h' 1 8 = zv_f h 1 8) ∨ (zv_f h 1 8 < 6 ∧ e = zv_f h 1 8 ∧ zv_f h' 1 8 = zv_f h 1 8 + 1)) ∧ zs_ad (zv_f h 1 8 < 6) (zv_f h 1 8) f (zv_a h 5) (zv_a h' 5) ∧ zs_ad (zv_f h 1 8 < 6) (zv_f h 1 8) t (zv_a h 6) (zv_a h' 6) ∧ zs_ad (zv_f h 1 8 < 6) (zv_f h 1 8) p (zv_a h 7) (zv_a h' 7) ∧ zs_ad (zv_f h 1 8 < 6) (zv_f h 1 8) k (zv_a h 8) (zv_a h' 8))) := by
  have hP := zw_ri hI (a := 1) (k := 8) rfl
  refine zx_T.l (i := .aload_n 0) (k := 1) (v := .ref 1) (pc := 0) rfl rfl rfl ?_
  refine zw_gi (k := 8) (lo := 0) (hi := 6) (e := zv_f h 1 8) (pc := 1) rfl rfl rfl hI rfl (fun g1a g1b => ?_)
  refine zx_T.s (i := .bipush 6) (k := 2) (st' := [.int (zI (6)), .int (zI (zv_f h 1 8))]) (pc := 4) rfl rfl ?_
  refine zr_i2 (x := zv_f h 1 8) (y := 6) (t := 12) (pc := 6) rfl rfl (by omega) (by omega) (by omega) (by omega) (fun (c2 : (zv_f h 1 8) < 6) => ?_) (fun (c2 : ¬ ((zv_f h 1 8) < 6)) => ?_)
  · refine zx_T.l (i := .aload_n 0) (k := 1) (v := .ref 1) (pc := 12) rfl rfl rfl ?_
    refine zw_gr (k := 4) (b := 5) (pc := 13) rfl rfl rfl hI ?_
    refine zx_T.l (i := .aload_n 0) (k := 1) (v := .ref 1) (pc := 16) rfl rfl rfl ?_
    refine zw_gi (k := 8) (lo := 0) (hi := 6) (e := zv_f h 1 8) (pc := 17) rfl rfl rfl hI rfl (fun g3a g3b => ?_)
    refine zx_T.l (i := .iload_n 1) (k := 1) (v := .int (zI (f))) (pc := 20) rfl rfl rfl ?_
    refine zr_as (n := 6) (lo := (-2147483648)) (hi := 2147483647) (e := f) (pc := 21) rfl rfl rfl rfl hI (by omega) (by omega) (by omega) (by omega) (fun h4 ih4 w5 s6 => ?_)
    refine zx_T.l (i := .aload_n 0) (k := 1) (v := .ref 1) (pc := 22) rfl rfl rfl ?_
    refine zw_gr (k := 5) (b := 6) (pc := 23) rfl rfl rfl ih4 ?_
    refine zx_T.l (i := .aload_n 0) (k := 1) (v := .ref 1) (pc := 26) rfl rfl rfl ?_
    refine zw_gi (k := 8) (lo := 0) (hi := 6) (e := zv_f h 1 8) (pc := 27) rfl rfl rfl ih4 (zv_wf w5 rfl) (fun g7a g7b => ?_)
    refine zx_T.l (i := .iload_n 2) (k := 1) (v := .int (zI (t))) (pc := 30) rfl rfl rfl ?_
    refine zr_as (n := 6) (lo := (-2147483648)) (hi := 2147483647) (e := t) (pc := 31) rfl rfl rfl rfl ih4 (by omega) (by omega) (by omega) (by omega) (fun h8 ih8 w9 s10 => ?_)
    refine zx_T.l (i := .aload_n 0) (k := 1) (v := .ref 1) (pc := 32) rfl rfl rfl ?_
    refine zw_gr (k := 6) (b := 7) (pc := 33) rfl rfl rfl ih8 ?_
    refine zx_T.l (i := .aload_n 0) (k := 1) (v := .ref 1) (pc := 36) rfl rfl rfl ?_
    refine zw_gi (k := 8) (lo := 0) (hi := 6) (e := zv_f h 1 8) (pc := 37) rfl rfl rfl ih8 ((zv_wf w9 rfl).trans (zv_wf w5 rfl)) (fun g11a g11b => ?_)
    refine zx_T.l (i := .iload_n 3) (k := 1) (v := .int (zI (p))) (pc := 40) rfl rfl rfl ?_
    refine zr_as (n := 6) (lo := (-2147483648)) (hi := 2147483647) (e := p) (pc := 41) rfl rfl rfl rfl ih8 (by omega) (by omega) (by omega) (by omega) (fun h12 ih12 w13 s14 => ?_)
    refine zx_T.l (i := .aload_n 0) (k := 1) (v := .ref 1) (pc := 42) rfl rfl rfl ?_
    refine zw_gr (k := 7) (b := 8) (pc := 43) rfl rfl rfl ih12 ?_
    refine zx_T.l (i := .aload_n 0) (k := 1) (v := .ref 1) (pc := 46) rfl rfl rfl ?_
    refine zw_gi (k := 8) (lo := 0) (hi := 6) (e := zv_f h 1 8) (pc := 47) rfl rfl rfl ih12 ((zv_wf w13 rfl).trans ((zv_wf w9 rfl).trans (zv_wf w5 rfl))) (fun g15a g15b => ?_)
    refine zx_T.l (i := .iload 4) (k := 2) (v := .int (zI (k))) (pc := 50) rfl rfl rfl ?_
    refine zr_as (n := 6) (lo := (-2147483648)) (hi := 2147483647) (e := k) (pc := 52) rfl rfl rfl rfl ih12 (by omega) (by omega) (by omega) (by omega) (fun h16 ih16 w17 s18 => ?_)
    refine zx_T.l (i := .aload_n 0) (k := 1) (v := .ref 1) (pc := 53) rfl rfl rfl ?_
    refine zx_T.s (i := .dup) (k := 1) (st' := [.ref 1, .ref 1]) (pc := 54) rfl rfl ?_
    refine zw_gi (k := 8) (lo := 0) (hi := 6) (e := zv_f h 1 8) (pc := 55) rfl rfl rfl ih16 ((zv_wf w17 rfl).trans ((zv_wf w13 rfl).trans ((zv_wf w9 rfl).trans (zv_wf w5 rfl)))) (fun g19a g19b => ?_)
    refine zx_T.s (i := .dup_x1) (k := 1) (st' := [.int (zI (zv_f h 1 8)), .ref 1, .int (zI (zv_f h 1 8))]) (pc := 58) rfl rfl ?_
    refine zx_T.s (i := .iconst 1) (k := 1) (st' := [.int (zI (1)), .int (zI (zv_f h 1 8)), .ref 1, .int (zI (zv_f h 1 8))]) (pc := 59) rfl rfl ?_
    refine zr_add (x := zv_f h 1 8) (y := 1) (e := zv_f h 1 8 + 1) (pc := 60) rfl (by omega) ?_
    refine zw_pi (k := 8) (lo := 0) (hi := 6) (e := zv_f h 1 8 + 1) (pc := 61) rfl rfl rfl rfl rfl rfl ih16 (by omega) (by omega) (fun h20 ih20 w21 e22 => ?_)
    have y23 : zv_f h20 1 8 = zv_f h 1 8 + 1 := e22
    have a5 : ∀ j, 0 ≤ j → zv_a h20 5 j = if j = zv_f h 1 8 then f else zv_a h 5 j := fun j hj => by rw [zv_wa w21 rfl j, zv_wa w17 rfl j, zv_wa w13 rfl j, zv_wa w9 rfl j, s6 j hj]
    have a6 : ∀ j, 0 ≤ j → zv_a h20 6 j = if j = zv_f h 1 8 then t else zv_a h 6 j := fun j hj => by rw [zv_wa w21 rfl j, zv_wa w17 rfl j, zv_wa w13 rfl j, s10 j hj, zv_wa w5 rfl j]
    have a7 : ∀ j, 0 ≤ j → zv_a h20 7 j = if j = zv_f h 1 8 then p else zv_a h 7 j := fun j hj => by rw [zv_wa w21 rfl j, zv_wa w17 rfl j, s14 j hj, zv_wa w9 rfl j, zv_wa w5 rfl j]
    have a8 : ∀ j, 0 ≤ j → zv_a h20 8 j = if j = zv_f h 1 8 then k else zv_a h 8 j := fun j hj => by rw [zv_wa w21 rfl j, s18 j hj, zv_wa w13 rfl j, zv_wa w9 rfl j, zv_wa w5 rfl j]
    exact zr_ir (x := zv_f h 1 8) (pc := 64) rfl rfl rfl ⟨ih20, (((((w5.wd rfl : zb_W [(5, 0), (6, 0), (7, 0), (8, 0), (1, 8)] h _).tr (w9.wd rfl)).tr (w13.wd rfl)).tr (w17.wd rfl)).tr (w21.wd rfl)), _, rfl, by dsimp only; exact ⟨Or.inr ⟨by omega, by omega, by omega⟩, zs_ad_y (by omega) (fun j j0 => by rw [a5 j j0]), zs_ad_y (by omega) (fun j j0 => by rw [a6 j j0]), zs_ad_y (by omega) (fun j j0 => by rw [a7 j j0]), zs_ad_y (by omega) (fun j j0 => by rw [a8 j j0])⟩⟩
  · refine zx_T.s (i := .bipush (-4)) (k := 2) (st' := [.int (zI ((-4)))]) (pc := 9) rfl rfl ?_
    have a5 : ∀ j, 0 ≤ j → zv_a h 5 j = zv_a h 5 j := fun j hj => rfl
    have a6 : ∀ j, 0 ≤ j → zv_a h 6 j = zv_a h 6 j := fun j hj => rfl
    have a7 : ∀ j, 0 ≤ j → zv_a h 7 j = zv_a h 7 j := fun j hj => rfl
    have a8 : ∀ j, 0 ≤ j → zv_a h 8 j = zv_a h 8 j := fun j hj => rfl
    exact zr_ir (x := (-4)) (pc := 11) rfl rfl rfl ⟨hI, zb_W.rf, _, rfl, by dsimp only; exact ⟨Or.inl ⟨by omega, by omega, by omega⟩, zs_ad_n (by omega) (fun j j0 => by rw [a5 j j0]), zs_ad_n (by omega) (fun j j0 => by rw [a6 j j0]), zs_ad_n (by omega) (fun j j0 => by rw [a7 j j0]), zs_ad_n (by omega) (fun j j0 => by rw [a8 j j0])⟩⟩

set_option maxRecDepth 100000 in
set_option maxHeartbeats 4000000 in
theorem zm_cOperationX {h : zx_H} (hI : zb_I zc_H h) {o : Int} {a : Int} {b : Int} (o1 : -2147483648 ≤ o) (o2 : o ≤ 2147483647) (a1 : -2147483648 ≤ a) (a2 : a ≤ 2147483647) (b1 : -2147483648 ≤ b) (b2 : b ≤ 2147483647) : zx_T zp_P 1 zp_m137 0 [(0, .ref 0), (1, .int (zI (o))), (2, .int (zI (a))), (3, .int (zI (b)))] [] h (zr_R [(2, 0), (3, 0), (4, 0), (1, 3), (16, 4)] h (fun e h' => zs_ad ((0 ≤ o ∧ o ≤ 28 ∧ (o = 21 → 5 ≤ a ∧ a ≤ 8)) ∧ zv_f h 1 3 < 60) (zv_f h 1 3) o (zv_a h 2) (zv_a h' 2) ∧ zs_ad ((0 ≤ o ∧ o ≤ 28 ∧ (o = 21 → 5 ≤ a ∧ a ≤ 8)) ∧ zv_f h 1 3 < 60) (zv_f h 1 3) a (zv_a h 3) (zv_a h' 3) ∧ zs_ad ((0 ≤ o ∧ o ≤ 28 ∧ (o = 21 → 5 ≤ a ∧ a ≤ 8)) ∧ zv_f h 1 3 < 60) (zv_f h 1 3) b (zv_a h 4) (zv_a h' 4) ∧ (((0 ≤ o ∧ o ≤ 28 ∧ (o = 21 → 5 ≤ a ∧ a ≤ 8)) ∧ zv_f h 1 3 < 60) → zv_f h' 16 4 = 0) ∧ (¬ ((0 ≤ o ∧ o ≤ 28 ∧ (o = 21 → 5 ≤ a ∧ a ≤ 8)) ∧ zv_f h 1 3 < 60) → zv_f h' 16 4 = zv_f h 16 4))) := by
  have hP := zw_ri hI (a := 1) (k := 3) rfl
  refine zx_T.l (i := .iload_n 1) (k := 1) (v := .int (zI (o))) (pc := 0) rfl rfl rfl ?_
  refine zr_i1 (x := o) (t := 27) (pc := 1) rfl rfl (by omega) (by omega) (fun (c1 : o < 0) => ?_) (fun (c1 : ¬ (o < 0)) => ?_)
  · refine zx_T.s (i := .bipush (-2)) (k := 2) (st' := [.int (zI ((-2)))]) (pc := 27) rfl rfl ?_
    have a2 : ∀ j, 0 ≤ j → zv_a h 2 j = zv_a h 2 j := fun j hj => rfl
    have a3 : ∀ j, 0 ≤ j → zv_a h 3 j = zv_a h 3 j := fun j hj => rfl
    have a4 : ∀ j, 0 ≤ j → zv_a h 4 j = zv_a h 4 j := fun j hj => rfl
    exact zr_ir (x := (-2)) (pc := 29) rfl rfl rfl ⟨hI, zb_W.rf, _, rfl, by dsimp only; exact ⟨zs_ad_n (by omega) (fun j j0 => by rw [a2 j j0]), zs_ad_n (by omega) (fun j j0 => by rw [a3 j j0]), zs_ad_n (by omega) (fun j j0 => by rw [a4 j j0]), fun z => absurd z (by omega), fun _ => by omega⟩⟩
  · refine zx_T.l (i := .iload_n 1) (k := 1) (v := .int (zI (o))) (pc := 4) rfl rfl rfl ?_
    refine zx_T.s (i := .bipush 28) (k := 2) (st' := [.int (zI (28)), .int (zI (o))]) (pc := 5) rfl rfl ?_
    refine zr_i2 (x := o) (y := 28) (t := 27) (pc := 7) rfl rfl (by omega) (by omega) (by omega) (by omega) (fun (c7 : 28 < o) => ?_) (fun (c7 : ¬ (28 < o)) => ?_)
    · refine zx_T.s (i := .bipush (-2)) (k := 2) (st' := [.int (zI ((-2)))]) (pc := 27) rfl rfl ?_
      have a2 : ∀ j, 0 ≤ j → zv_a h 2 j = zv_a h 2 j := fun j hj => rfl
      have a3 : ∀ j, 0 ≤ j → zv_a h 3 j = zv_a h 3 j := fun j hj => rfl
      have a4 : ∀ j, 0 ≤ j → zv_a h 4 j = zv_a h 4 j := fun j hj => rfl
      exact zr_ir (x := (-2)) (pc := 29) rfl rfl rfl ⟨hI, zb_W.rf, _, rfl, by dsimp only; exact ⟨zs_ad_n (by omega) (fun j j0 => by rw [a2 j j0]), zs_ad_n (by omega) (fun j j0 => by rw [a3 j j0]), zs_ad_n (by omega) (fun j j0 => by rw [a4 j j0]), fun z => absurd z (by omega), fun _ => by omega⟩⟩
    · refine zx_T.l (i := .iload_n 1) (k := 1) (v := .int (zI (o))) (pc := 10) rfl rfl rfl ?_
      refine zx_T.s (i := .bipush 21) (k := 2) (st' := [.int (zI (21)), .int (zI (o))]) (pc := 11) rfl rfl ?_
      refine zr_i2 (x := o) (y := 21) (t := 30) (pc := 13) rfl rfl (by omega) (by omega) (by omega) (by omega) (fun (c13 : ¬ o = 21) => ?_) (fun (c13 : ¬ (¬ o = 21)) => ?_)
      · refine zx_T.l (i := .aload_n 0) (k := 1) (v := .ref 0) (pc := 30) rfl rfl rfl ?_
        refine zw_gr (k := 0) (b := 1) (pc := 31) rfl rfl rfl hI ?_
        refine zx_T.l (i := .iload_n 1) (k := 1) (v := .int (zI (o))) (pc := 34) rfl rfl rfl ?_
        refine zx_T.l (i := .iload_n 2) (k := 1) (v := .int (zI (a))) (pc := 35) rfl rfl rfl ?_
        refine zx_T.l (i := .iload_n 3) (k := 1) (v := .int (zI (b))) (pc := 36) rfl rfl rfl ?_
        refine zw_iv (b := 1) (cj := 1) (q' := zp_m1) (As := [.int (zI (o)), .int (zI (a)), .int (zI (b))]) (rest := []) (pc := 37) rfl rfl rfl rfl rfl rfl rfl (Nat.le_of_ble_eq_true rfl) rfl (Nat.le_of_ble_eq_true rfl) hI ((zm_cAddInsX (h := h) hI (o := o) (a := a) (b := b) (by omega) (by omega) (by omega) (by omega) (by omega) (by omega)).up (Nat.le_of_ble_eq_true rfl)) ?_
        rintro r15 h18 ⟨ih18, w19, v16, r15q, x17⟩
        subst r15q
        try dsimp only at x17
        have xA := x17
        show zx_T zp_P 1 zp_m137 40 [(0, .ref 0), (1, .int (zI (o))), (2, .int (zI (a))), (3, .int (zI (b)))] [.int (zI (v16))] h18 _
        refine zx_T.t (i := .istore 4) (k := 2) (ls' := [(4, .int (zI (v16))), (0, .ref 0), (1, .int (zI (o))), (2, .int (zI (a))), (3, .int (zI (b)))]) (st' := []) (pc := 40) rfl rfl rfl rfl ?_
        refine zx_T.l (i := .iload 4) (k := 2) (v := .int (zI (v16))) (pc := 42) rfl rfl rfl ?_
        refine zx_T.s (i := .bipush (-4)) (k := 2) (st' := [.int (zI ((-4))), .int (zI (v16))]) (pc := 44) rfl rfl ?_
        refine zr_i2 (x := v16) (y := (-4)) (t := 56) (pc := 46) rfl rfl (by omega) (by omega) (by omega) (by omega) (fun (c20 : v16 = (-4)) => ?_) (fun (c20 : ¬ (v16 = (-4))) => ?_)
        · refine zx_T.l (i := .iload 4) (k := 2) (v := .int (zI (v16))) (pc := 56) rfl rfl rfl ?_
          have y22 : zv_f h18 16 4 = zv_f h 16 4 := (zv_wf w19 rfl)
          have a2 : ∀ j, 0 ≤ j → zv_a h18 2 j = zv_a h18 2 j := fun j hj => rfl
          have a3 : ∀ j, 0 ≤ j → zv_a h18 3 j = zv_a h18 3 j := fun j hj => rfl
          have a4 : ∀ j, 0 ≤ j → zv_a h18 4 j = zv_a h18 4 j := fun j hj => rfl
          exact zr_ir (x := v16) (pc := 58) rfl rfl rfl ⟨ih18, (w19.wd rfl : zb_W [(2, 0), (3, 0), (4, 0), (1, 3), (16, 4)] h _), _, rfl, by dsimp only; exact ⟨zs_ad_up xA.2.1 ⟨fun z => ⟨by omega, z⟩, fun z => z.2⟩ (fun j j0 => rfl), zs_ad_up xA.2.2.1 ⟨fun z => ⟨by omega, z⟩, fun z => z.2⟩ (fun j j0 => rfl), zs_ad_up xA.2.2.2 ⟨fun z => ⟨by omega, z⟩, fun z => z.2⟩ (fun j j0 => rfl), fun z => by omega, fun z => by omega⟩⟩
        · refine zx_T.l (i := .aload_n 0) (k := 1) (v := .ref 0) (pc := 49) rfl rfl rfl ?_
          refine zw_gr (k := 2) (b := 16) (pc := 50) rfl rfl rfl ih18 ?_
          refine zw_iv (b := 16) (cj := 78) (q' := zp_m78) (As := []) (rest := []) (pc := 53) rfl rfl rfl rfl rfl rfl rfl (Nat.le_of_ble_eq_true rfl) rfl (Nat.le_of_ble_eq_true rfl) ih18 ((zm_cUndo (h := h18) ih18  ).up (Nat.le_of_ble_eq_true rfl)) ?_
          rintro r26 h29 ⟨ih29, w30, r26q, x28⟩
          subst r26q
          try dsimp only at x28
          show zx_T zp_P 1 zp_m137 56 [(4, .int (zI (v16))), (0, .ref 0), (1, .int (zI (o))), (2, .int (zI (a))), (3, .int (zI (b)))] [] h29 _
          refine zx_T.l (i := .iload 4) (k := 2) (v := .int (zI (v16))) (pc := 56) rfl rfl rfl ?_
          have y31 : zv_f h29 1 3 = zv_f h18 1 3 := (zv_wf w30 rfl)
          have a2 : ∀ j, 0 ≤ j → zv_a h29 2 j = zv_a h18 2 j := fun j hj => by rw [zv_wa w30 rfl j]
          have a3 : ∀ j, 0 ≤ j → zv_a h29 3 j = zv_a h18 3 j := fun j hj => by rw [zv_wa w30 rfl j]
          have a4 : ∀ j, 0 ≤ j → zv_a h29 4 j = zv_a h18 4 j := fun j hj => by rw [zv_wa w30 rfl j]
          exact zr_ir (x := v16) (pc := 58) rfl rfl rfl ⟨ih29, ((w19.wd rfl : zb_W [(2, 0), (3, 0), (4, 0), (1, 3), (16, 4)] h _).tr (w30.wd rfl)), _, rfl, by dsimp only; exact ⟨zs_ad_up xA.2.1 ⟨fun z => ⟨by omega, z⟩, fun z => z.2⟩ (fun j j0 => by rw [a2 j j0]), zs_ad_up xA.2.2.1 ⟨fun z => ⟨by omega, z⟩, fun z => z.2⟩ (fun j j0 => by rw [a3 j j0]), zs_ad_up xA.2.2.2 ⟨fun z => ⟨by omega, z⟩, fun z => z.2⟩ (fun j j0 => by rw [a4 j j0]), fun z => by omega, fun z => by omega⟩⟩
      · refine zx_T.l (i := .iload_n 2) (k := 1) (v := .int (zI (a))) (pc := 16) rfl rfl rfl ?_
        refine zx_T.s (i := .iconst 5) (k := 1) (st' := [.int (zI (5)), .int (zI (a))]) (pc := 17) rfl rfl ?_
        refine zr_i2 (x := a) (y := 5) (t := 27) (pc := 18) rfl rfl (by omega) (by omega) (by omega) (by omega) (fun (c36 : a < 5) => ?_) (fun (c36 : ¬ (a < 5)) => ?_)
        · refine zx_T.s (i := .bipush (-2)) (k := 2) (st' := [.int (zI ((-2)))]) (pc := 27) rfl rfl ?_
          have a2 : ∀ j, 0 ≤ j → zv_a h 2 j = zv_a h 2 j := fun j hj => rfl
          have a3 : ∀ j, 0 ≤ j → zv_a h 3 j = zv_a h 3 j := fun j hj => rfl
          have a4 : ∀ j, 0 ≤ j → zv_a h 4 j = zv_a h 4 j := fun j hj => rfl
          exact zr_ir (x := (-2)) (pc := 29) rfl rfl rfl ⟨hI, zb_W.rf, _, rfl, by dsimp only; exact ⟨zs_ad_n (by omega) (fun j j0 => by rw [a2 j j0]), zs_ad_n (by omega) (fun j j0 => by rw [a3 j j0]), zs_ad_n (by omega) (fun j j0 => by rw [a4 j j0]), fun z => absurd z (by omega), fun _ => by omega⟩⟩
        · refine zx_T.l (i := .iload_n 2) (k := 1) (v := .int (zI (a))) (pc := 21) rfl rfl rfl ?_
          refine zx_T.s (i := .bipush 8) (k := 2) (st' := [.int (zI (8)), .int (zI (a))]) (pc := 22) rfl rfl ?_
          refine zr_i2 (x := a) (y := 8) (t := 30) (pc := 24) rfl rfl (by omega) (by omega) (by omega) (by omega) (fun (c42 : a ≤ 8) => ?_) (fun (c42 : ¬ (a ≤ 8)) => ?_)
          · refine zx_T.l (i := .aload_n 0) (k := 1) (v := .ref 0) (pc := 30) rfl rfl rfl ?_
            refine zw_gr (k := 0) (b := 1) (pc := 31) rfl rfl rfl hI ?_
            refine zx_T.l (i := .iload_n 1) (k := 1) (v := .int (zI (o))) (pc := 34) rfl rfl rfl ?_
            refine zx_T.l (i := .iload_n 2) (k := 1) (v := .int (zI (a))) (pc := 35) rfl rfl rfl ?_
            refine zx_T.l (i := .iload_n 3) (k := 1) (v := .int (zI (b))) (pc := 36) rfl rfl rfl ?_
            refine zw_iv (b := 1) (cj := 1) (q' := zp_m1) (As := [.int (zI (o)), .int (zI (a)), .int (zI (b))]) (rest := []) (pc := 37) rfl rfl rfl rfl rfl rfl rfl (Nat.le_of_ble_eq_true rfl) rfl (Nat.le_of_ble_eq_true rfl) hI ((zm_cAddInsX (h := h) hI (o := o) (a := a) (b := b) (by omega) (by omega) (by omega) (by omega) (by omega) (by omega)).up (Nat.le_of_ble_eq_true rfl)) ?_
            rintro r44 h47 ⟨ih47, w48, v45, r44q, x46⟩
            subst r44q
            try dsimp only at x46
            have xA := x46
            show zx_T zp_P 1 zp_m137 40 [(0, .ref 0), (1, .int (zI (o))), (2, .int (zI (a))), (3, .int (zI (b)))] [.int (zI (v45))] h47 _
            refine zx_T.t (i := .istore 4) (k := 2) (ls' := [(4, .int (zI (v45))), (0, .ref 0), (1, .int (zI (o))), (2, .int (zI (a))), (3, .int (zI (b)))]) (st' := []) (pc := 40) rfl rfl rfl rfl ?_
            refine zx_T.l (i := .iload 4) (k := 2) (v := .int (zI (v45))) (pc := 42) rfl rfl rfl ?_
            refine zx_T.s (i := .bipush (-4)) (k := 2) (st' := [.int (zI ((-4))), .int (zI (v45))]) (pc := 44) rfl rfl ?_
            refine zr_i2 (x := v45) (y := (-4)) (t := 56) (pc := 46) rfl rfl (by omega) (by omega) (by omega) (by omega) (fun (c49 : v45 = (-4)) => ?_) (fun (c49 : ¬ (v45 = (-4))) => ?_)
            · refine zx_T.l (i := .iload 4) (k := 2) (v := .int (zI (v45))) (pc := 56) rfl rfl rfl ?_
              have y51 : zv_f h47 16 4 = zv_f h 16 4 := (zv_wf w48 rfl)
              have a2 : ∀ j, 0 ≤ j → zv_a h47 2 j = zv_a h47 2 j := fun j hj => rfl
              have a3 : ∀ j, 0 ≤ j → zv_a h47 3 j = zv_a h47 3 j := fun j hj => rfl
              have a4 : ∀ j, 0 ≤ j → zv_a h47 4 j = zv_a h47 4 j := fun j hj => rfl
              exact zr_ir (x := v45) (pc := 58) rfl rfl rfl ⟨ih47, (w48.wd rfl : zb_W [(2, 0), (3, 0), (4, 0), (1, 3), (16, 4)] h _), _, rfl, by dsimp only; exact ⟨zs_ad_up xA.2.1 ⟨fun z => ⟨by omega, z⟩, fun z => z.2⟩ (fun j j0 => rfl), zs_ad_up xA.2.2.1 ⟨fun z => ⟨by omega, z⟩, fun z => z.2⟩ (fun j j0 => rfl), zs_ad_up xA.2.2.2 ⟨fun z => ⟨by omega, z⟩, fun z => z.2⟩ (fun j j0 => rfl), fun z => by omega, fun z => by omega⟩⟩
            · refine zx_T.l (i := .aload_n 0) (k := 1) (v := .ref 0) (pc := 49) rfl rfl rfl ?_
              refine zw_gr (k := 2) (b := 16) (pc := 50) rfl rfl rfl ih47 ?_
              refine zw_iv (b := 16) (cj := 78) (q' := zp_m78) (As := []) (rest := []) (pc := 53) rfl rfl rfl rfl rfl rfl rfl (Nat.le_of_ble_eq_true rfl) rfl (Nat.le_of_ble_eq_true rfl) ih47 ((zm_cUndo (h := h47) ih47  ).up (Nat.le_of_ble_eq_true rfl)) ?_
              rintro r55 h58 ⟨ih58, w59, r55q, x57⟩
              subst r55q
              try dsimp only at x57
              show zx_T zp_P 1 zp_m137 56 [(4, .int (zI (v45))), (0, .ref 0), (1, .int (zI (o))), (2, .int (zI (a))), (3, .int (zI (b)))] [] h58 _
              refine zx_T.l (i := .iload 4) (k := 2) (v := .int (zI (v45))) (pc := 56) rfl rfl rfl ?_
              have y60 : zv_f h58 1 3 = zv_f h47 1 3 := (zv_wf w59 rfl)
              have a2 : ∀ j, 0 ≤ j → zv_a h58 2 j = zv_a h47 2 j := fun j hj => by rw [zv_wa w59 rfl j]
              have a3 : ∀ j, 0 ≤ j → zv_a h58 3 j = zv_a h47 3 j := fun j hj => by rw [zv_wa w59 rfl j]
              have a4 : ∀ j, 0 ≤ j → zv_a h58 4 j = zv_a h47 4 j := fun j hj => by rw [zv_wa w59 rfl j]
              exact zr_ir (x := v45) (pc := 58) rfl rfl rfl ⟨ih58, ((w48.wd rfl : zb_W [(2, 0), (3, 0), (4, 0), (1, 3), (16, 4)] h _).tr (w59.wd rfl)), _, rfl, by dsimp only; exact ⟨zs_ad_up xA.2.1 ⟨fun z => ⟨by omega, z⟩, fun z => z.2⟩ (fun j j0 => by rw [a2 j j0]), zs_ad_up xA.2.2.1 ⟨fun z => ⟨by omega, z⟩, fun z => z.2⟩ (fun j j0 => by rw [a3 j j0]), zs_ad_up xA.2.2.2 ⟨fun z => ⟨by omega, z⟩, fun z => z.2⟩ (fun j j0 => by rw [a4 j j0]), fun z => by omega, fun z => by omega⟩⟩
          · refine zx_T.s (i := .bipush (-2)) (k := 2) (st' := [.int (zI ((-2)))]) (pc := 27) rfl rfl ?_
            have a2 : ∀ j, 0 ≤ j → zv_a h 2 j = zv_a h 2 j := fun j hj => rfl
            have a3 : ∀ j, 0 ≤ j → zv_a h 3 j = zv_a h 3 j := fun j hj => rfl
            have a4 : ∀ j, 0 ≤ j → zv_a h 4 j = zv_a h 4 j := fun j hj => rfl
            exact zr_ir (x := (-2)) (pc := 29) rfl rfl rfl ⟨hI, zb_W.rf, _, rfl, by dsimp only; exact ⟨zs_ad_n (by omega) (fun j j0 => by rw [a2 j j0]), zs_ad_n (by omega) (fun j j0 => by rw [a3 j j0]), zs_ad_n (by omega) (fun j j0 => by rw [a4 j j0]), fun z => absurd z (by omega), fun _ => by omega⟩⟩

set_option maxRecDepth 100000 in
set_option maxHeartbeats 4000000 in
theorem zm_cHandlerX {h : zx_H} (hI : zb_I zc_H h) {f : Int} {t : Int} {p : Int} {k : Int} (f1 : -2147483648 ≤ f) (f2 : f ≤ 2147483647) (t1 : -2147483648 ≤ t) (t2 : t ≤ 2147483647) (p1 : -2147483648 ≤ p) (p2 : p ≤ 2147483647) (k1 : -2147483648 ≤ k) (k2 : k ≤ 2147483647) : zx_T zp_P 1 zp_m138 0 [(0, .ref 0), (1, .int (zI (f))), (2, .int (zI (t))), (3, .int (zI (p))), (4, .int (zI (k)))] [] h (zr_R [(5, 0), (6, 0), (7, 0), (8, 0), (1, 8), (16, 4)] h (fun e h' => zs_ad ((0 ≤ f ∧ f ≤ 60 ∧ 0 ≤ t ∧ t ≤ 60 ∧ 0 ≤ p ∧ p ≤ 60 ∧ 7 ≤ k ∧ k ≤ 8) ∧ zv_f h 1 8 < 6) (zv_f h 1 8) f (zv_a h 5) (zv_a h' 5) ∧ zs_ad ((0 ≤ f ∧ f ≤ 60 ∧ 0 ≤ t ∧ t ≤ 60 ∧ 0 ≤ p ∧ p ≤ 60 ∧ 7 ≤ k ∧ k ≤ 8) ∧ zv_f h 1 8 < 6) (zv_f h 1 8) t (zv_a h 6) (zv_a h' 6) ∧ zs_ad ((0 ≤ f ∧ f ≤ 60 ∧ 0 ≤ t ∧ t ≤ 60 ∧ 0 ≤ p ∧ p ≤ 60 ∧ 7 ≤ k ∧ k ≤ 8) ∧ zv_f h 1 8 < 6) (zv_f h 1 8) p (zv_a h 7) (zv_a h' 7) ∧ zs_ad ((0 ≤ f ∧ f ≤ 60 ∧ 0 ≤ t ∧ t ≤ 60 ∧ 0 ≤ p ∧ p ≤ 60 ∧ 7 ≤ k ∧ k ≤ 8) ∧ zv_f h 1 8 < 6) (zv_f h 1 8) k (zv_a h 8) (zv_a h' 8) ∧ (((0 ≤ f ∧ f ≤ 60 ∧ 0 ≤ t ∧ t ≤ 60 ∧ 0 ≤ p ∧ p ≤ 60 ∧ 7 ≤ k ∧ k ≤ 8) ∧ zv_f h 1 8 < 6) → zv_f h' 16 4 = 0) ∧ (¬ ((0 ≤ f ∧ f ≤ 60 ∧ 0 ≤ t ∧ t ≤ 60 ∧ 0 ≤ p ∧ p ≤ 60 ∧ 7 ≤ k ∧ k ≤ 8) ∧ zv_f h 1 8 < 6) → zv_f h' 16 4 = zv_f h 16 4))) := by
  have hP := zw_ri hI (a := 1) (k := 8) rfl
  refine zx_T.l (i := .iload_n 1) (k := 1) (v := .int (zI (f))) (pc := 0) rfl rfl rfl ?_
  refine zr_is (cj := 153) (q' := zp_m153) (As := [.int (zI (f))]) (rest := []) (pc := 1) rfl rfl rfl rfl rfl rfl (Nat.le_of_ble_eq_true rfl) rfl (Nat.le_of_ble_eq_true rfl) rfl ((zm_cBound (h := h) hI (v := f) (by omega) (by omega)).up (Nat.le_of_ble_eq_true rfl)) ?_
  rintro r1 h4 ⟨h4q, v2, r1q, x3⟩
  subst h4q r1q
  try dsimp only at x3
  show zx_T zp_P 1 zp_m138 4 [(0, .ref 0), (1, .int (zI (f))), (2, .int (zI (t))), (3, .int (zI (p))), (4, .int (zI (k)))] [.int (zI (v2))] h _
  refine zr_i1 (x := v2) (t := 35) (pc := 4) rfl rfl (by omega) (by omega) (fun (c5 : v2 = 0) => ?_) (fun (c5 : ¬ (v2 = 0)) => ?_)
  · refine zx_T.s (i := .bipush (-2)) (k := 2) (st' := [.int (zI ((-2)))]) (pc := 35) rfl rfl ?_
    have a5 : ∀ j, 0 ≤ j → zv_a h 5 j = zv_a h 5 j := fun j hj => rfl
    have a6 : ∀ j, 0 ≤ j → zv_a h 6 j = zv_a h 6 j := fun j hj => rfl
    have a7 : ∀ j, 0 ≤ j → zv_a h 7 j = zv_a h 7 j := fun j hj => rfl
    have a8 : ∀ j, 0 ≤ j → zv_a h 8 j = zv_a h 8 j := fun j hj => rfl
    exact zr_ir (x := (-2)) (pc := 37) rfl rfl rfl ⟨hI, zb_W.rf, _, rfl, by dsimp only; exact ⟨zs_ad_n (by omega) (fun j j0 => by rw [a5 j j0]), zs_ad_n (by omega) (fun j j0 => by rw [a6 j j0]), zs_ad_n (by omega) (fun j j0 => by rw [a7 j j0]), zs_ad_n (by omega) (fun j j0 => by rw [a8 j j0]), fun z => absurd z (by omega), fun _ => by omega⟩⟩
  · refine zx_T.l (i := .iload_n 2) (k := 1) (v := .int (zI (t))) (pc := 7) rfl rfl rfl ?_
    refine zr_is (cj := 153) (q' := zp_m153) (As := [.int (zI (t))]) (rest := []) (pc := 8) rfl rfl rfl rfl rfl rfl (Nat.le_of_ble_eq_true rfl) rfl (Nat.le_of_ble_eq_true rfl) rfl ((zm_cBound (h := h) hI (v := t) (by omega) (by omega)).up (Nat.le_of_ble_eq_true rfl)) ?_
    rintro r12 h15 ⟨h15q, v13, r12q, x14⟩
    subst h15q r12q
    try dsimp only at x14
    show zx_T zp_P 1 zp_m138 11 [(0, .ref 0), (1, .int (zI (f))), (2, .int (zI (t))), (3, .int (zI (p))), (4, .int (zI (k)))] [.int (zI (v13))] h _
    refine zr_i1 (x := v13) (t := 35) (pc := 11) rfl rfl (by omega) (by omega) (fun (c16 : v13 = 0) => ?_) (fun (c16 : ¬ (v13 = 0)) => ?_)
    · refine zx_T.s (i := .bipush (-2)) (k := 2) (st' := [.int (zI ((-2)))]) (pc := 35) rfl rfl ?_
      have a5 : ∀ j, 0 ≤ j → zv_a h 5 j = zv_a h 5 j := fun j hj => rfl
      have a6 : ∀ j, 0 ≤ j → zv_a h 6 j = zv_a h 6 j := fun j hj => rfl
      have a7 : ∀ j, 0 ≤ j → zv_a h 7 j = zv_a h 7 j := fun j hj => rfl
      have a8 : ∀ j, 0 ≤ j → zv_a h 8 j = zv_a h 8 j := fun j hj => rfl
      exact zr_ir (x := (-2)) (pc := 37) rfl rfl rfl ⟨hI, zb_W.rf, _, rfl, by dsimp only; exact ⟨zs_ad_n (by omega) (fun j j0 => by rw [a5 j j0]), zs_ad_n (by omega) (fun j j0 => by rw [a6 j j0]), zs_ad_n (by omega) (fun j j0 => by rw [a7 j j0]), zs_ad_n (by omega) (fun j j0 => by rw [a8 j j0]), fun z => absurd z (by omega), fun _ => by omega⟩⟩
    · refine zx_T.l (i := .iload_n 3) (k := 1) (v := .int (zI (p))) (pc := 14) rfl rfl rfl ?_
      refine zr_is (cj := 153) (q' := zp_m153) (As := [.int (zI (p))]) (rest := []) (pc := 15) rfl rfl rfl rfl rfl rfl (Nat.le_of_ble_eq_true rfl) rfl (Nat.le_of_ble_eq_true rfl) rfl ((zm_cBound (h := h) hI (v := p) (by omega) (by omega)).up (Nat.le_of_ble_eq_true rfl)) ?_
      rintro r23 h26 ⟨h26q, v24, r23q, x25⟩
      subst h26q r23q
      try dsimp only at x25
      show zx_T zp_P 1 zp_m138 18 [(0, .ref 0), (1, .int (zI (f))), (2, .int (zI (t))), (3, .int (zI (p))), (4, .int (zI (k)))] [.int (zI (v24))] h _
      refine zr_i1 (x := v24) (t := 35) (pc := 18) rfl rfl (by omega) (by omega) (fun (c27 : v24 = 0) => ?_) (fun (c27 : ¬ (v24 = 0)) => ?_)
      · refine zx_T.s (i := .bipush (-2)) (k := 2) (st' := [.int (zI ((-2)))]) (pc := 35) rfl rfl ?_
        have a5 : ∀ j, 0 ≤ j → zv_a h 5 j = zv_a h 5 j := fun j hj => rfl
        have a6 : ∀ j, 0 ≤ j → zv_a h 6 j = zv_a h 6 j := fun j hj => rfl
        have a7 : ∀ j, 0 ≤ j → zv_a h 7 j = zv_a h 7 j := fun j hj => rfl
        have a8 : ∀ j, 0 ≤ j → zv_a h 8 j = zv_a h 8 j := fun j hj => rfl
        exact zr_ir (x := (-2)) (pc := 37) rfl rfl rfl ⟨hI, zb_W.rf, _, rfl, by dsimp only; exact ⟨zs_ad_n (by omega) (fun j j0 => by rw [a5 j j0]), zs_ad_n (by omega) (fun j j0 => by rw [a6 j j0]), zs_ad_n (by omega) (fun j j0 => by rw [a7 j j0]), zs_ad_n (by omega) (fun j j0 => by rw [a8 j j0]), fun z => absurd z (by omega), fun _ => by omega⟩⟩
      · refine zx_T.l (i := .iload 4) (k := 2) (v := .int (zI (k))) (pc := 21) rfl rfl rfl ?_
        refine zx_T.s (i := .bipush 7) (k := 2) (st' := [.int (zI (7)), .int (zI (k))]) (pc := 23) rfl rfl ?_
        refine zr_i2 (x := k) (y := 7) (t := 38) (pc := 25) rfl rfl (by omega) (by omega) (by omega) (by omega) (fun (c34 : k = 7) => ?_) (fun (c34 : ¬ (k = 7)) => ?_)
        · refine zx_T.l (i := .aload_n 0) (k := 1) (v := .ref 0) (pc := 38) rfl rfl rfl ?_
          refine zw_gr (k := 0) (b := 1) (pc := 39) rfl rfl rfl hI ?_
          refine zx_T.l (i := .iload_n 1) (k := 1) (v := .int (zI (f))) (pc := 42) rfl rfl rfl ?_
          refine zx_T.l (i := .iload_n 2) (k := 1) (v := .int (zI (t))) (pc := 43) rfl rfl rfl ?_
          refine zx_T.l (i := .iload_n 3) (k := 1) (v := .int (zI (p))) (pc := 44) rfl rfl rfl ?_
          refine zx_T.l (i := .iload 4) (k := 2) (v := .int (zI (k))) (pc := 45) rfl rfl rfl ?_
          refine zw_iv (b := 1) (cj := 2) (q' := zp_m2) (As := [.int (zI (f)), .int (zI (t)), .int (zI (p)), .int (zI (k))]) (rest := []) (pc := 47) rfl rfl rfl rfl rfl rfl rfl (Nat.le_of_ble_eq_true rfl) rfl (Nat.le_of_ble_eq_true rfl) hI ((zm_cAddHndX (h := h) hI (f := f) (t := t) (p := p) (k := k) (by omega) (by omega) (by omega) (by omega) (by omega) (by omega) (by omega) (by omega)).up (Nat.le_of_ble_eq_true rfl)) ?_
          rintro r36 h39 ⟨ih39, w40, v37, r36q, x38⟩
          subst r36q
          try dsimp only at x38
          have xA := x38
          show zx_T zp_P 1 zp_m138 50 [(0, .ref 0), (1, .int (zI (f))), (2, .int (zI (t))), (3, .int (zI (p))), (4, .int (zI (k)))] [.int (zI (v37))] h39 _
          refine zx_T.t (i := .istore 5) (k := 2) (ls' := [(5, .int (zI (v37))), (0, .ref 0), (1, .int (zI (f))), (2, .int (zI (t))), (3, .int (zI (p))), (4, .int (zI (k)))]) (st' := []) (pc := 50) rfl rfl rfl rfl ?_
          refine zx_T.l (i := .iload 5) (k := 2) (v := .int (zI (v37))) (pc := 52) rfl rfl rfl ?_
          refine zx_T.s (i := .bipush (-4)) (k := 2) (st' := [.int (zI ((-4))), .int (zI (v37))]) (pc := 54) rfl rfl ?_
          refine zr_i2 (x := v37) (y := (-4)) (t := 66) (pc := 56) rfl rfl (by omega) (by omega) (by omega) (by omega) (fun (c41 : v37 = (-4)) => ?_) (fun (c41 : ¬ (v37 = (-4))) => ?_)
          · refine zx_T.l (i := .iload 5) (k := 2) (v := .int (zI (v37))) (pc := 66) rfl rfl rfl ?_
            have y43 : zv_f h39 16 4 = zv_f h 16 4 := (zv_wf w40 rfl)
            have a5 : ∀ j, 0 ≤ j → zv_a h39 5 j = zv_a h39 5 j := fun j hj => rfl
            have a6 : ∀ j, 0 ≤ j → zv_a h39 6 j = zv_a h39 6 j := fun j hj => rfl
            have a7 : ∀ j, 0 ≤ j → zv_a h39 7 j = zv_a h39 7 j := fun j hj => rfl
            have a8 : ∀ j, 0 ≤ j → zv_a h39 8 j = zv_a h39 8 j := fun j hj => rfl
            exact zr_ir (x := v37) (pc := 68) rfl rfl rfl ⟨ih39, (w40.wd rfl : zb_W [(5, 0), (6, 0), (7, 0), (8, 0), (1, 8), (16, 4)] h _), _, rfl, by dsimp only; exact ⟨zs_ad_up xA.2.1 ⟨fun z => ⟨by omega, z⟩, fun z => z.2⟩ (fun j j0 => rfl), zs_ad_up xA.2.2.1 ⟨fun z => ⟨by omega, z⟩, fun z => z.2⟩ (fun j j0 => rfl), zs_ad_up xA.2.2.2.1 ⟨fun z => ⟨by omega, z⟩, fun z => z.2⟩ (fun j j0 => rfl), zs_ad_up xA.2.2.2.2 ⟨fun z => ⟨by omega, z⟩, fun z => z.2⟩ (fun j j0 => rfl), fun z => by omega, fun z => by omega⟩⟩
          · refine zx_T.l (i := .aload_n 0) (k := 1) (v := .ref 0) (pc := 59) rfl rfl rfl ?_
            refine zw_gr (k := 2) (b := 16) (pc := 60) rfl rfl rfl ih39 ?_
            refine zw_iv (b := 16) (cj := 78) (q' := zp_m78) (As := []) (rest := []) (pc := 63) rfl rfl rfl rfl rfl rfl rfl (Nat.le_of_ble_eq_true rfl) rfl (Nat.le_of_ble_eq_true rfl) ih39 ((zm_cUndo (h := h39) ih39  ).up (Nat.le_of_ble_eq_true rfl)) ?_
            rintro r48 h51 ⟨ih51, w52, r48q, x50⟩
            subst r48q
            try dsimp only at x50
            show zx_T zp_P 1 zp_m138 66 [(5, .int (zI (v37))), (0, .ref 0), (1, .int (zI (f))), (2, .int (zI (t))), (3, .int (zI (p))), (4, .int (zI (k)))] [] h51 _
            refine zx_T.l (i := .iload 5) (k := 2) (v := .int (zI (v37))) (pc := 66) rfl rfl rfl ?_
            have y53 : zv_f h51 1 8 = zv_f h39 1 8 := (zv_wf w52 rfl)
            have a5 : ∀ j, 0 ≤ j → zv_a h51 5 j = zv_a h39 5 j := fun j hj => by rw [zv_wa w52 rfl j]
            have a6 : ∀ j, 0 ≤ j → zv_a h51 6 j = zv_a h39 6 j := fun j hj => by rw [zv_wa w52 rfl j]
            have a7 : ∀ j, 0 ≤ j → zv_a h51 7 j = zv_a h39 7 j := fun j hj => by rw [zv_wa w52 rfl j]
            have a8 : ∀ j, 0 ≤ j → zv_a h51 8 j = zv_a h39 8 j := fun j hj => by rw [zv_wa w52 rfl j]
            exact zr_ir (x := v37) (pc := 68) rfl rfl rfl ⟨ih51, ((w40.wd rfl : zb_W [(5, 0), (6, 0), (7, 0), (8, 0), (1, 8), (16, 4)] h _).tr (w52.wd rfl)), _, rfl, by dsimp only; exact ⟨zs_ad_up xA.2.1 ⟨fun z => ⟨by omega, z⟩, fun z => z.2⟩ (fun j j0 => by rw [a5 j j0]), zs_ad_up xA.2.2.1 ⟨fun z => ⟨by omega, z⟩, fun z => z.2⟩ (fun j j0 => by rw [a6 j j0]), zs_ad_up xA.2.2.2.1 ⟨fun z => ⟨by omega, z⟩, fun z => z.2⟩ (fun j j0 => by rw [a7 j j0]), zs_ad_up xA.2.2.2.2 ⟨fun z => ⟨by omega, z⟩, fun z => z.2⟩ (fun j j0 => by rw [a8 j j0]), fun z => by omega, fun z => by omega⟩⟩
        · refine zx_T.l (i := .iload 4) (k := 2) (v := .int (zI (k))) (pc := 28) rfl rfl rfl ?_
          refine zx_T.s (i := .bipush 8) (k := 2) (st' := [.int (zI (8)), .int (zI (k))]) (pc := 30) rfl rfl ?_
          refine zr_i2 (x := k) (y := 8) (t := 38) (pc := 32) rfl rfl (by omega) (by omega) (by omega) (by omega) (fun (c59 : k = 8) => ?_) (fun (c59 : ¬ (k = 8)) => ?_)
          · refine zx_T.l (i := .aload_n 0) (k := 1) (v := .ref 0) (pc := 38) rfl rfl rfl ?_
            refine zw_gr (k := 0) (b := 1) (pc := 39) rfl rfl rfl hI ?_
            refine zx_T.l (i := .iload_n 1) (k := 1) (v := .int (zI (f))) (pc := 42) rfl rfl rfl ?_
            refine zx_T.l (i := .iload_n 2) (k := 1) (v := .int (zI (t))) (pc := 43) rfl rfl rfl ?_
            refine zx_T.l (i := .iload_n 3) (k := 1) (v := .int (zI (p))) (pc := 44) rfl rfl rfl ?_
            refine zx_T.l (i := .iload 4) (k := 2) (v := .int (zI (k))) (pc := 45) rfl rfl rfl ?_
            refine zw_iv (b := 1) (cj := 2) (q' := zp_m2) (As := [.int (zI (f)), .int (zI (t)), .int (zI (p)), .int (zI (k))]) (rest := []) (pc := 47) rfl rfl rfl rfl rfl rfl rfl (Nat.le_of_ble_eq_true rfl) rfl (Nat.le_of_ble_eq_true rfl) hI ((zm_cAddHndX (h := h) hI (f := f) (t := t) (p := p) (k := k) (by omega) (by omega) (by omega) (by omega) (by omega) (by omega) (by omega) (by omega)).up (Nat.le_of_ble_eq_true rfl)) ?_
            rintro r61 h64 ⟨ih64, w65, v62, r61q, x63⟩
            subst r61q
            try dsimp only at x63
            have xA := x63
            show zx_T zp_P 1 zp_m138 50 [(0, .ref 0), (1, .int (zI (f))), (2, .int (zI (t))), (3, .int (zI (p))), (4, .int (zI (k)))] [.int (zI (v62))] h64 _
            refine zx_T.t (i := .istore 5) (k := 2) (ls' := [(5, .int (zI (v62))), (0, .ref 0), (1, .int (zI (f))), (2, .int (zI (t))), (3, .int (zI (p))), (4, .int (zI (k)))]) (st' := []) (pc := 50) rfl rfl rfl rfl ?_
            refine zx_T.l (i := .iload 5) (k := 2) (v := .int (zI (v62))) (pc := 52) rfl rfl rfl ?_
            refine zx_T.s (i := .bipush (-4)) (k := 2) (st' := [.int (zI ((-4))), .int (zI (v62))]) (pc := 54) rfl rfl ?_
            refine zr_i2 (x := v62) (y := (-4)) (t := 66) (pc := 56) rfl rfl (by omega) (by omega) (by omega) (by omega) (fun (c66 : v62 = (-4)) => ?_) (fun (c66 : ¬ (v62 = (-4))) => ?_)
            · refine zx_T.l (i := .iload 5) (k := 2) (v := .int (zI (v62))) (pc := 66) rfl rfl rfl ?_
              have y68 : zv_f h64 16 4 = zv_f h 16 4 := (zv_wf w65 rfl)
              have a5 : ∀ j, 0 ≤ j → zv_a h64 5 j = zv_a h64 5 j := fun j hj => rfl
              have a6 : ∀ j, 0 ≤ j → zv_a h64 6 j = zv_a h64 6 j := fun j hj => rfl
              have a7 : ∀ j, 0 ≤ j → zv_a h64 7 j = zv_a h64 7 j := fun j hj => rfl
              have a8 : ∀ j, 0 ≤ j → zv_a h64 8 j = zv_a h64 8 j := fun j hj => rfl
              exact zr_ir (x := v62) (pc := 68) rfl rfl rfl ⟨ih64, (w65.wd rfl : zb_W [(5, 0), (6, 0), (7, 0), (8, 0), (1, 8), (16, 4)] h _), _, rfl, by dsimp only; exact ⟨zs_ad_up xA.2.1 ⟨fun z => ⟨by omega, z⟩, fun z => z.2⟩ (fun j j0 => rfl), zs_ad_up xA.2.2.1 ⟨fun z => ⟨by omega, z⟩, fun z => z.2⟩ (fun j j0 => rfl), zs_ad_up xA.2.2.2.1 ⟨fun z => ⟨by omega, z⟩, fun z => z.2⟩ (fun j j0 => rfl), zs_ad_up xA.2.2.2.2 ⟨fun z => ⟨by omega, z⟩, fun z => z.2⟩ (fun j j0 => rfl), fun z => by omega, fun z => by omega⟩⟩
            · refine zx_T.l (i := .aload_n 0) (k := 1) (v := .ref 0) (pc := 59) rfl rfl rfl ?_
              refine zw_gr (k := 2) (b := 16) (pc := 60) rfl rfl rfl ih64 ?_
              refine zw_iv (b := 16) (cj := 78) (q' := zp_m78) (As := []) (rest := []) (pc := 63) rfl rfl rfl rfl rfl rfl rfl (Nat.le_of_ble_eq_true rfl) rfl (Nat.le_of_ble_eq_true rfl) ih64 ((zm_cUndo (h := h64) ih64  ).up (Nat.le_of_ble_eq_true rfl)) ?_
              rintro r73 h76 ⟨ih76, w77, r73q, x75⟩
              subst r73q
              try dsimp only at x75
              show zx_T zp_P 1 zp_m138 66 [(5, .int (zI (v62))), (0, .ref 0), (1, .int (zI (f))), (2, .int (zI (t))), (3, .int (zI (p))), (4, .int (zI (k)))] [] h76 _
              refine zx_T.l (i := .iload 5) (k := 2) (v := .int (zI (v62))) (pc := 66) rfl rfl rfl ?_
              have y78 : zv_f h76 1 8 = zv_f h64 1 8 := (zv_wf w77 rfl)
              have a5 : ∀ j, 0 ≤ j → zv_a h76 5 j = zv_a h64 5 j := fun j hj => by rw [zv_wa w77 rfl j]
              have a6 : ∀ j, 0 ≤ j → zv_a h76 6 j = zv_a h64 6 j := fun j hj => by rw [zv_wa w77 rfl j]
              have a7 : ∀ j, 0 ≤ j → zv_a h76 7 j = zv_a h64 7 j := fun j hj => by rw [zv_wa w77 rfl j]
              have a8 : ∀ j, 0 ≤ j → zv_a h76 8 j = zv_a h64 8 j := fun j hj => by rw [zv_wa w77 rfl j]
              exact zr_ir (x := v62) (pc := 68) rfl rfl rfl ⟨ih76, ((w65.wd rfl : zb_W [(5, 0), (6, 0), (7, 0), (8, 0), (1, 8), (16, 4)] h _).tr (w77.wd rfl)), _, rfl, by dsimp only; exact ⟨zs_ad_up xA.2.1 ⟨fun z => ⟨by omega, z⟩, fun z => z.2⟩ (fun j j0 => by rw [a5 j j0]), zs_ad_up xA.2.2.1 ⟨fun z => ⟨by omega, z⟩, fun z => z.2⟩ (fun j j0 => by rw [a6 j j0]), zs_ad_up xA.2.2.2.1 ⟨fun z => ⟨by omega, z⟩, fun z => z.2⟩ (fun j j0 => by rw [a7 j j0]), zs_ad_up xA.2.2.2.2 ⟨fun z => ⟨by omega, z⟩, fun z => z.2⟩ (fun j j0 => by rw [a8 j j0]), fun z => by omega, fun z => by omega⟩⟩
          · refine zx_T.s (i := .bipush (-2)) (k := 2) (st' := [.int (zI ((-2)))]) (pc := 35) rfl rfl ?_
            have a5 : ∀ j, 0 ≤ j → zv_a h 5 j = zv_a h 5 j := fun j hj => rfl
            have a6 : ∀ j, 0 ≤ j → zv_a h 6 j = zv_a h 6 j := fun j hj => rfl
            have a7 : ∀ j, 0 ≤ j → zv_a h 7 j = zv_a h 7 j := fun j hj => rfl
            have a8 : ∀ j, 0 ≤ j → zv_a h 8 j = zv_a h 8 j := fun j hj => rfl
            exact zr_ir (x := (-2)) (pc := 37) rfl rfl rfl ⟨hI, zb_W.rf, _, rfl, by dsimp only; exact ⟨zs_ad_n (by omega) (fun j j0 => by rw [a5 j j0]), zs_ad_n (by omega) (fun j j0 => by rw [a6 j j0]), zs_ad_n (by omega) (fun j j0 => by rw [a7 j j0]), zs_ad_n (by omega) (fun j j0 => by rw [a8 j j0]), fun z => absurd z (by omega), fun _ => by omega⟩⟩

set_option maxRecDepth 100000 in
set_option maxHeartbeats 4000000 in
theorem zm_cAddParX {h : zx_H} (hI : zb_I zc_H h) {c : Int} (c1 : -2147483648 ≤ c) (c2 : c ≤ 2147483647) (ok : c = 1 ∨ c = 2 ∨ (5 ≤ c ∧ c ≤ 8)) : zx_T zp_P 0 zp_m0 0 [(0, .ref 1), (1, .int (zI (c)))] [] h (zr_R [(9, 0), (1, 10)] h (fun e h' => ((¬ ((c = 2 ∧ zv_f h 1 10 + 2 ≤ 8) ∨ (¬ c = 2 ∧ zv_f h 1 10 + 1 ≤ 8)) ∧ e = -4) ∨ (((c = 2 ∧ zv_f h 1 10 + 2 ≤ 8) ∨ (¬ c = 2 ∧ zv_f h 1 10 + 1 ≤ 8)) ∧ e = zv_f h 1 10)) ∧ zs_a2 (((c = 2 ∧ zv_f h 1 10 + 2 ≤ 8) ∨ (¬ c = 2 ∧ zv_f h 1 10 + 1 ≤ 8))) (zv_f h 1 10) c (zv_a h 9) (zv_a h' 9))) := by
  have hP := zw_ri hI (a := 1) (k := 10) rfl
  refine zx_T.l (i := .iload_n 1) (k := 1) (v := .int (zI (c))) (pc := 0) rfl rfl rfl ?_
  refine zx_T.s (i := .iconst 2) (k := 1) (st' := [.int (zI (2)), .int (zI (c))]) (pc := 1) rfl rfl ?_
  refine zr_i2 (x := c) (y := 2) (t := 9) (pc := 2) rfl rfl (by omega) (by omega) (by omega) (by omega) (fun (c1 : ¬ c = 2) => ?_) (fun (c1 : ¬ (¬ c = 2)) => ?_)
  · refine zx_T.s (i := .iconst 1) (k := 1) (st' := [.int (zI (1))]) (pc := 9) rfl rfl ?_
    refine zx_T.t (i := .istore_n 2) (k := 1) (ls' := [(2, .int (zI (1))), (0, .ref 1), (1, .int (zI (c)))]) (st' := []) (pc := 10) rfl rfl rfl rfl ?_
    refine zx_T.l (i := .aload_n 0) (k := 1) (v := .ref 1) (pc := 11) rfl rfl rfl ?_
    refine zw_gi (k := 10) (lo := 0) (hi := 8) (e := zv_f h 1 10) (pc := 12) rfl rfl rfl hI rfl (fun g2a g2b => ?_)
    refine zx_T.l (i := .iload_n 2) (k := 1) (v := .int (zI (1))) (pc := 15) rfl rfl rfl ?_
    refine zr_add (x := zv_f h 1 10) (y := 1) (e := zv_f h 1 10 + 1) (pc := 16) rfl (by omega) ?_
    refine zx_T.s (i := .bipush 8) (k := 2) (st' := [.int (zI (8)), .int (zI (zv_f h 1 10 + 1))]) (pc := 17) rfl rfl ?_
    refine zr_i2 (x := zv_f h 1 10 + 1) (y := 8) (t := 25) (pc := 19) rfl rfl (by omega) (by omega) (by omega) (by omega) (fun (c3 : (zv_f h 1 10 + 1) ≤ 8) => ?_) (fun (c3 : ¬ ((zv_f h 1 10 + 1) ≤ 8)) => ?_)
    · refine zx_T.l (i := .aload_n 0) (k := 1) (v := .ref 1) (pc := 25) rfl rfl rfl ?_
      refine zw_gi (k := 10) (lo := 0) (hi := 8) (e := zv_f h 1 10) (pc := 26) rfl rfl rfl hI rfl (fun g4a g4b => ?_)
      refine zx_T.t (i := .istore_n 3) (k := 1) (ls' := [(3, .int (zI (zv_f h 1 10))), (2, .int (zI (1))), (0, .ref 1), (1, .int (zI (c)))]) (st' := []) (pc := 29) rfl rfl rfl rfl ?_
      refine zx_T.l (i := .aload_n 0) (k := 1) (v := .ref 1) (pc := 30) rfl rfl rfl ?_
      refine zw_gr (k := 9) (b := 9) (pc := 31) rfl rfl rfl hI ?_
      refine zx_T.l (i := .iload_n 3) (k := 1) (v := .int (zI (zv_f h 1 10))) (pc := 34) rfl rfl rfl ?_
      refine zx_T.l (i := .iload_n 1) (k := 1) (v := .int (zI (c))) (pc := 35) rfl rfl rfl ?_
      refine zr_as (n := 8) (lo := (-2147483648)) (hi := 2147483647) (e := c) (pc := 36) rfl rfl rfl rfl hI (by omega) (by omega) (by omega) (by omega) (fun h5 ih5 w6 s7 => ?_)
      refine zx_T.l (i := .iload_n 2) (k := 1) (v := .int (zI (1))) (pc := 37) rfl rfl rfl ?_
      refine zx_T.s (i := .iconst 2) (k := 1) (st' := [.int (zI (2)), .int (zI (1))]) (pc := 38) rfl rfl ?_
      refine zr_i2 (x := 1) (y := 2) (t := 51) (pc := 39) rfl rfl (by omega) (by omega) (by omega) (by omega) (fun _ => ?_) (fun (c8 : ¬ (¬ 1 = 2)) => absurd (by decide) c8)
      refine zx_T.l (i := .aload_n 0) (k := 1) (v := .ref 1) (pc := 51) rfl rfl rfl ?_
      refine zx_T.s (i := .dup) (k := 1) (st' := [.ref 1, .ref 1]) (pc := 52) rfl rfl ?_
      refine zw_gi (k := 10) (lo := 0) (hi := 8) (e := zv_f h 1 10) (pc := 53) rfl rfl rfl ih5 (zv_wf w6 rfl) (fun g9a g9b => ?_)
      refine zx_T.l (i := .iload_n 2) (k := 1) (v := .int (zI (1))) (pc := 56) rfl rfl rfl ?_
      refine zr_add (x := zv_f h 1 10) (y := 1) (e := zv_f h 1 10 + 1) (pc := 57) rfl (by omega) ?_
      refine zw_pi (k := 10) (lo := 0) (hi := 8) (e := zv_f h 1 10 + 1) (pc := 58) rfl rfl rfl rfl rfl rfl ih5 (by omega) (by omega) (fun h10 ih10 w11 e12 => ?_)
      refine zx_T.l (i := .iload_n 3) (k := 1) (v := .int (zI (zv_f h 1 10))) (pc := 61) rfl rfl rfl ?_
      have y13 : zv_f h10 1 10 = zv_f h 1 10 + 1 := e12
      have a9 : ∀ j, 0 ≤ j → zv_a h10 9 j = if j = zv_f h 1 10 then c else zv_a h 9 j := fun j hj => by rw [zv_wa w11 rfl j, s7 j hj]
      exact zr_ir (x := zv_f h 1 10) (pc := 62) rfl rfl rfl ⟨ih10, ((w6.wd rfl : zb_W [(9, 0), (1, 10)] h _).tr (w11.wd rfl)), _, rfl, by dsimp only; exact ⟨Or.inr ⟨by omega, by omega⟩, ⟨fun _ j j0 => by rw [a9 j j0]; (repeat split) <;> omega, fun z => absurd (by omega) z⟩⟩⟩
    · refine zx_T.s (i := .bipush (-4)) (k := 2) (st' := [.int (zI ((-4)))]) (pc := 22) rfl rfl ?_
      have a9 : ∀ j, 0 ≤ j → zv_a h 9 j = zv_a h 9 j := fun j hj => rfl
      exact zr_ir (x := (-4)) (pc := 24) rfl rfl rfl ⟨hI, zb_W.rf, _, rfl, by dsimp only; exact ⟨Or.inl ⟨by omega, by omega⟩, ⟨fun z => absurd z (by omega), fun _ j j0 => by rw [a9 j j0]⟩⟩⟩
  · refine zx_T.s (i := .iconst 2) (k := 1) (st' := [.int (zI (2))]) (pc := 5) rfl rfl ?_
    refine zx_T.j (i := .goto 4) (k := 3) (pc' := 10) (st' := [.int (zI (2))]) (pc := 6) rfl rfl rfl rfl rfl ?_
    refine zx_T.t (i := .istore_n 2) (k := 1) (ls' := [(2, .int (zI (2))), (0, .ref 1), (1, .int (zI (c)))]) (st' := []) (pc := 10) rfl rfl rfl rfl ?_
    refine zx_T.l (i := .aload_n 0) (k := 1) (v := .ref 1) (pc := 11) rfl rfl rfl ?_
    refine zw_gi (k := 10) (lo := 0) (hi := 8) (e := zv_f h 1 10) (pc := 12) rfl rfl rfl hI rfl (fun g17a g17b => ?_)
    refine zx_T.l (i := .iload_n 2) (k := 1) (v := .int (zI (2))) (pc := 15) rfl rfl rfl ?_
    refine zr_add (x := zv_f h 1 10) (y := 2) (e := zv_f h 1 10 + 2) (pc := 16) rfl (by omega) ?_
    refine zx_T.s (i := .bipush 8) (k := 2) (st' := [.int (zI (8)), .int (zI (zv_f h 1 10 + 2))]) (pc := 17) rfl rfl ?_
    refine zr_i2 (x := zv_f h 1 10 + 2) (y := 8) (t := 25) (pc := 19) rfl rfl (by omega) (by omega) (by omega) (by omega) (fun (c18 : (zv_f h 1 10 + 2) ≤ 8) => ?_) (fun (c18 : ¬ ((zv_f h 1 10 + 2) ≤ 8)) => ?_)
    · refine zx_T.l (i := .aload_n 0) (k := 1) (v := .ref 1) (pc := 25) rfl rfl rfl ?_
      refine zw_gi (k := 10) (lo := 0) (hi := 8) (e := zv_f h 1 10) (pc := 26) rfl rfl rfl hI rfl (fun g19a g19b => ?_)
      refine zx_T.t (i := .istore_n 3) (k := 1) (ls' := [(3, .int (zI (zv_f h 1 10))), (2, .int (zI (2))), (0, .ref 1), (1, .int (zI (c)))]) (st' := []) (pc := 29) rfl rfl rfl rfl ?_
      refine zx_T.l (i := .aload_n 0) (k := 1) (v := .ref 1) (pc := 30) rfl rfl rfl ?_
      refine zw_gr (k := 9) (b := 9) (pc := 31) rfl rfl rfl hI ?_
      refine zx_T.l (i := .iload_n 3) (k := 1) (v := .int (zI (zv_f h 1 10))) (pc := 34) rfl rfl rfl ?_
      refine zx_T.l (i := .iload_n 1) (k := 1) (v := .int (zI (c))) (pc := 35) rfl rfl rfl ?_
      refine zr_as (n := 8) (lo := (-2147483648)) (hi := 2147483647) (e := c) (pc := 36) rfl rfl rfl rfl hI (by omega) (by omega) (by omega) (by omega) (fun h20 ih20 w21 s22 => ?_)
      refine zx_T.l (i := .iload_n 2) (k := 1) (v := .int (zI (2))) (pc := 37) rfl rfl rfl ?_
      refine zx_T.s (i := .iconst 2) (k := 1) (st' := [.int (zI (2)), .int (zI (2))]) (pc := 38) rfl rfl ?_
      refine zr_i2 (x := 2) (y := 2) (t := 51) (pc := 39) rfl rfl (by omega) (by omega) (by omega) (by omega) (fun (c23 : ¬ 2 = 2) => absurd c23 (by decide)) (fun _ => ?_)
      refine zx_T.l (i := .aload_n 0) (k := 1) (v := .ref 1) (pc := 42) rfl rfl rfl ?_
      refine zw_gr (k := 9) (b := 9) (pc := 43) rfl rfl rfl ih20 ?_
      refine zx_T.l (i := .iload_n 3) (k := 1) (v := .int (zI (zv_f h 1 10))) (pc := 46) rfl rfl rfl ?_
      refine zx_T.s (i := .iconst 1) (k := 1) (st' := [.int (zI (1)), .int (zI (zv_f h 1 10)), .ref 9]) (pc := 47) rfl rfl ?_
      refine zr_add (x := zv_f h 1 10) (y := 1) (e := zv_f h 1 10 + 1) (pc := 48) rfl (by omega) ?_
      refine zx_T.s (i := .iconst 3) (k := 1) (st' := [.int (zI (3)), .int (zI (zv_f h 1 10 + 1)), .ref 9]) (pc := 49) rfl rfl ?_
      refine zr_as (n := 8) (lo := (-2147483648)) (hi := 2147483647) (e := 3) (pc := 50) rfl rfl rfl rfl ih20 (by omega) (by omega) (by omega) (by omega) (fun h24 ih24 w25 s26 => ?_)
      refine zx_T.l (i := .aload_n 0) (k := 1) (v := .ref 1) (pc := 51) rfl rfl rfl ?_
      refine zx_T.s (i := .dup) (k := 1) (st' := [.ref 1, .ref 1]) (pc := 52) rfl rfl ?_
      refine zw_gi (k := 10) (lo := 0) (hi := 8) (e := zv_f h 1 10) (pc := 53) rfl rfl rfl ih24 ((zv_wf w25 rfl).trans (zv_wf w21 rfl)) (fun g27a g27b => ?_)
      refine zx_T.l (i := .iload_n 2) (k := 1) (v := .int (zI (2))) (pc := 56) rfl rfl rfl ?_
      refine zr_add (x := zv_f h 1 10) (y := 2) (e := zv_f h 1 10 + 2) (pc := 57) rfl (by omega) ?_
      refine zw_pi (k := 10) (lo := 0) (hi := 8) (e := zv_f h 1 10 + 2) (pc := 58) rfl rfl rfl rfl rfl rfl ih24 (by omega) (by omega) (fun h28 ih28 w29 e30 => ?_)
      refine zx_T.l (i := .iload_n 3) (k := 1) (v := .int (zI (zv_f h 1 10))) (pc := 61) rfl rfl rfl ?_
      have y31 : zv_f h28 1 10 = zv_f h 1 10 + 2 := e30
      have a9 : ∀ j, 0 ≤ j → zv_a h28 9 j = if j = zv_f h 1 10 + 1 then 3 else if j = zv_f h 1 10 then c else zv_a h 9 j := fun j hj => by rw [zv_wa w29 rfl j, s26 j hj, s22 j hj]
      exact zr_ir (x := zv_f h 1 10) (pc := 62) rfl rfl rfl ⟨ih28, (((w21.wd rfl : zb_W [(9, 0), (1, 10)] h _).tr (w25.wd rfl)).tr (w29.wd rfl)), _, rfl, by dsimp only; exact ⟨Or.inr ⟨by omega, by omega⟩, ⟨fun _ j j0 => by rw [a9 j j0]; (repeat split) <;> omega, fun z => absurd (by omega) z⟩⟩⟩
    · refine zx_T.s (i := .bipush (-4)) (k := 2) (st' := [.int (zI ((-4)))]) (pc := 22) rfl rfl ?_
      have a9 : ∀ j, 0 ≤ j → zv_a h 9 j = zv_a h 9 j := fun j hj => rfl
      exact zr_ir (x := (-4)) (pc := 24) rfl rfl rfl ⟨hI, zb_W.rf, _, rfl, by dsimp only; exact ⟨Or.inl ⟨by omega, by omega⟩, ⟨fun z => absurd z (by omega), fun _ j j0 => by rw [a9 j j0]⟩⟩⟩

set_option maxRecDepth 100000 in
set_option maxHeartbeats 4000000 in
theorem zm_cParameterX {h : zx_H} (hI : zb_I zc_H h) {c : Int} (c1 : -2147483648 ≤ c) (c2 : c ≤ 2147483647) : zx_T zp_P 1 zp_m136 0 [(0, .ref 0), (1, .int (zI (c)))] [] h (zr_R [(9, 0), (1, 10), (16, 4)] h (fun e h' => zs_a2 ((c = 1 ∨ c = 2 ∨ (5 ≤ c ∧ c ≤ 8)) ∧ ((c = 2 ∧ zv_f h 1 10 + 2 ≤ 8) ∨ (¬ c = 2 ∧ zv_f h 1 10 + 1 ≤ 8))) (zv_f h 1 10) c (zv_a h 9) (zv_a h' 9) ∧ (((c = 1 ∨ c = 2 ∨ (5 ≤ c ∧ c ≤ 8)) ∧ ((c = 2 ∧ zv_f h 1 10 + 2 ≤ 8) ∨ (¬ c = 2 ∧ zv_f h 1 10 + 1 ≤ 8))) → zv_f h' 16 4 = 0) ∧ (¬ ((c = 1 ∨ c = 2 ∨ (5 ≤ c ∧ c ≤ 8)) ∧ ((c = 2 ∧ zv_f h 1 10 + 2 ≤ 8) ∨ (¬ c = 2 ∧ zv_f h 1 10 + 1 ≤ 8))) → zv_f h' 16 4 = zv_f h 16 4))) := by
  have hP := zw_ri hI (a := 1) (k := 10) rfl
  refine zx_T.l (i := .iload_n 1) (k := 1) (v := .int (zI (c))) (pc := 0) rfl rfl rfl ?_
  refine zx_T.s (i := .iconst 1) (k := 1) (st' := [.int (zI (1)), .int (zI (c))]) (pc := 1) rfl rfl ?_
  refine zr_i2 (x := c) (y := 1) (t := 24) (pc := 2) rfl rfl (by omega) (by omega) (by omega) (by omega) (fun (c1 : c = 1) => ?_) (fun (c1 : ¬ (c = 1)) => ?_)
  · refine zx_T.l (i := .aload_n 0) (k := 1) (v := .ref 0) (pc := 24) rfl rfl rfl ?_
    refine zw_gr (k := 0) (b := 1) (pc := 25) rfl rfl rfl hI ?_
    refine zx_T.l (i := .iload_n 1) (k := 1) (v := .int (zI (c))) (pc := 28) rfl rfl rfl ?_
    refine zw_iv (b := 1) (cj := 0) (q' := zp_m0) (As := [.int (zI (c))]) (rest := []) (pc := 29) rfl rfl rfl rfl rfl rfl rfl (Nat.le_of_ble_eq_true rfl) rfl (Nat.le_of_ble_eq_true rfl) hI ((zm_cAddParX (h := h) hI (c := c) (by omega) (by omega) (by omega)).up (Nat.le_of_ble_eq_true rfl)) ?_
    rintro r3 h6 ⟨ih6, w7, v4, r3q, x5⟩
    subst r3q
    try dsimp only at x5
    have xA := x5
    show zx_T zp_P 1 zp_m136 32 [(0, .ref 0), (1, .int (zI (c)))] [.int (zI (v4))] h6 _
    refine zx_T.t (i := .istore_n 2) (k := 1) (ls' := [(2, .int (zI (v4))), (0, .ref 0), (1, .int (zI (c)))]) (st' := []) (pc := 32) rfl rfl rfl rfl ?_
    refine zx_T.l (i := .iload_n 2) (k := 1) (v := .int (zI (v4))) (pc := 33) rfl rfl rfl ?_
    refine zx_T.s (i := .bipush (-4)) (k := 2) (st' := [.int (zI ((-4))), .int (zI (v4))]) (pc := 34) rfl rfl ?_
    refine zr_i2 (x := v4) (y := (-4)) (t := 46) (pc := 36) rfl rfl (by omega) (by omega) (by omega) (by omega) (fun (c8 : v4 = (-4)) => ?_) (fun (c8 : ¬ (v4 = (-4))) => ?_)
    · refine zx_T.l (i := .iload_n 2) (k := 1) (v := .int (zI (v4))) (pc := 46) rfl rfl rfl ?_
      have y9 : zv_f h6 16 4 = zv_f h 16 4 := (zv_wf w7 rfl)
      have a9 : ∀ j, 0 ≤ j → zv_a h6 9 j = zv_a h6 9 j := fun j hj => rfl
      exact zr_ir (x := v4) (pc := 47) rfl rfl rfl ⟨ih6, (w7.wd rfl : zb_W [(9, 0), (1, 10), (16, 4)] h _), _, rfl, by dsimp only; exact ⟨⟨fun z j j0 => by exact xA.2.1 z.2 j j0, fun z j j0 => by exact xA.2.2 (fun y => z ⟨by omega, y⟩) j j0⟩, fun z => by omega, fun z => by omega⟩⟩
    · refine zx_T.l (i := .aload_n 0) (k := 1) (v := .ref 0) (pc := 39) rfl rfl rfl ?_
      refine zw_gr (k := 2) (b := 16) (pc := 40) rfl rfl rfl ih6 ?_
      refine zw_iv (b := 16) (cj := 78) (q' := zp_m78) (As := []) (rest := []) (pc := 43) rfl rfl rfl rfl rfl rfl rfl (Nat.le_of_ble_eq_true rfl) rfl (Nat.le_of_ble_eq_true rfl) ih6 ((zm_cUndo (h := h6) ih6  ).up (Nat.le_of_ble_eq_true rfl)) ?_
      rintro r11 h14 ⟨ih14, w15, r11q, x13⟩
      subst r11q
      try dsimp only at x13
      show zx_T zp_P 1 zp_m136 46 [(2, .int (zI (v4))), (0, .ref 0), (1, .int (zI (c)))] [] h14 _
      refine zx_T.l (i := .iload_n 2) (k := 1) (v := .int (zI (v4))) (pc := 46) rfl rfl rfl ?_
      have a9 : ∀ j, 0 ≤ j → zv_a h14 9 j = zv_a h6 9 j := fun j hj => by rw [zv_wa w15 rfl j]
      exact zr_ir (x := v4) (pc := 47) rfl rfl rfl ⟨ih14, ((w7.wd rfl : zb_W [(9, 0), (1, 10), (16, 4)] h _).tr (w15.wd rfl)), _, rfl, by dsimp only; exact ⟨⟨fun z j j0 => by rw [a9 j j0]; exact xA.2.1 z.2 j j0, fun z j j0 => by rw [a9 j j0]; exact xA.2.2 (fun y => z ⟨by omega, y⟩) j j0⟩, fun z => by omega, fun z => by omega⟩⟩
  · refine zx_T.l (i := .iload_n 1) (k := 1) (v := .int (zI (c))) (pc := 5) rfl rfl rfl ?_
    refine zx_T.s (i := .iconst 2) (k := 1) (st' := [.int (zI (2)), .int (zI (c))]) (pc := 6) rfl rfl ?_
    refine zr_i2 (x := c) (y := 2) (t := 24) (pc := 7) rfl rfl (by omega) (by omega) (by omega) (by omega) (fun (c18 : c = 2) => ?_) (fun (c18 : ¬ (c = 2)) => ?_)
    · refine zx_T.l (i := .aload_n 0) (k := 1) (v := .ref 0) (pc := 24) rfl rfl rfl ?_
      refine zw_gr (k := 0) (b := 1) (pc := 25) rfl rfl rfl hI ?_
      refine zx_T.l (i := .iload_n 1) (k := 1) (v := .int (zI (c))) (pc := 28) rfl rfl rfl ?_
      refine zw_iv (b := 1) (cj := 0) (q' := zp_m0) (As := [.int (zI (c))]) (rest := []) (pc := 29) rfl rfl rfl rfl rfl rfl rfl (Nat.le_of_ble_eq_true rfl) rfl (Nat.le_of_ble_eq_true rfl) hI ((zm_cAddParX (h := h) hI (c := c) (by omega) (by omega) (by omega)).up (Nat.le_of_ble_eq_true rfl)) ?_
      rintro r20 h23 ⟨ih23, w24, v21, r20q, x22⟩
      subst r20q
      try dsimp only at x22
      have xA := x22
      show zx_T zp_P 1 zp_m136 32 [(0, .ref 0), (1, .int (zI (c)))] [.int (zI (v21))] h23 _
      refine zx_T.t (i := .istore_n 2) (k := 1) (ls' := [(2, .int (zI (v21))), (0, .ref 0), (1, .int (zI (c)))]) (st' := []) (pc := 32) rfl rfl rfl rfl ?_
      refine zx_T.l (i := .iload_n 2) (k := 1) (v := .int (zI (v21))) (pc := 33) rfl rfl rfl ?_
      refine zx_T.s (i := .bipush (-4)) (k := 2) (st' := [.int (zI ((-4))), .int (zI (v21))]) (pc := 34) rfl rfl ?_
      refine zr_i2 (x := v21) (y := (-4)) (t := 46) (pc := 36) rfl rfl (by omega) (by omega) (by omega) (by omega) (fun (c25 : v21 = (-4)) => ?_) (fun (c25 : ¬ (v21 = (-4))) => ?_)
      · refine zx_T.l (i := .iload_n 2) (k := 1) (v := .int (zI (v21))) (pc := 46) rfl rfl rfl ?_
        have y26 : zv_f h23 16 4 = zv_f h 16 4 := (zv_wf w24 rfl)
        have a9 : ∀ j, 0 ≤ j → zv_a h23 9 j = zv_a h23 9 j := fun j hj => rfl
        exact zr_ir (x := v21) (pc := 47) rfl rfl rfl ⟨ih23, (w24.wd rfl : zb_W [(9, 0), (1, 10), (16, 4)] h _), _, rfl, by dsimp only; exact ⟨⟨fun z j j0 => by exact xA.2.1 z.2 j j0, fun z j j0 => by exact xA.2.2 (fun y => z ⟨by omega, y⟩) j j0⟩, fun z => by omega, fun z => by omega⟩⟩
      · refine zx_T.l (i := .aload_n 0) (k := 1) (v := .ref 0) (pc := 39) rfl rfl rfl ?_
        refine zw_gr (k := 2) (b := 16) (pc := 40) rfl rfl rfl ih23 ?_
        refine zw_iv (b := 16) (cj := 78) (q' := zp_m78) (As := []) (rest := []) (pc := 43) rfl rfl rfl rfl rfl rfl rfl (Nat.le_of_ble_eq_true rfl) rfl (Nat.le_of_ble_eq_true rfl) ih23 ((zm_cUndo (h := h23) ih23  ).up (Nat.le_of_ble_eq_true rfl)) ?_
        rintro r28 h31 ⟨ih31, w32, r28q, x30⟩
        subst r28q
        try dsimp only at x30
        show zx_T zp_P 1 zp_m136 46 [(2, .int (zI (v21))), (0, .ref 0), (1, .int (zI (c)))] [] h31 _
        refine zx_T.l (i := .iload_n 2) (k := 1) (v := .int (zI (v21))) (pc := 46) rfl rfl rfl ?_
        have a9 : ∀ j, 0 ≤ j → zv_a h31 9 j = zv_a h23 9 j := fun j hj => by rw [zv_wa w32 rfl j]
        exact zr_ir (x := v21) (pc := 47) rfl rfl rfl ⟨ih31, ((w24.wd rfl : zb_W [(9, 0), (1, 10), (16, 4)] h _).tr (w32.wd rfl)), _, rfl, by dsimp only; exact ⟨⟨fun z j j0 => by rw [a9 j j0]; exact xA.2.1 z.2 j j0, fun z j j0 => by rw [a9 j j0]; exact xA.2.2 (fun y => z ⟨by omega, y⟩) j j0⟩, fun z => by omega, fun z => by omega⟩⟩
    · refine zx_T.l (i := .iload_n 1) (k := 1) (v := .int (zI (c))) (pc := 10) rfl rfl rfl ?_
      refine zx_T.s (i := .iconst 5) (k := 1) (st' := [.int (zI (5)), .int (zI (c))]) (pc := 11) rfl rfl ?_
      refine zr_i2 (x := c) (y := 5) (t := 21) (pc := 12) rfl rfl (by omega) (by omega) (by omega) (by omega) (fun (c35 : c < 5) => ?_) (fun (c35 : ¬ (c < 5)) => ?_)
      · refine zx_T.s (i := .bipush (-2)) (k := 2) (st' := [.int (zI ((-2)))]) (pc := 21) rfl rfl ?_
        have a9 : ∀ j, 0 ≤ j → zv_a h 9 j = zv_a h 9 j := fun j hj => rfl
        exact zr_ir (x := (-2)) (pc := 23) rfl rfl rfl ⟨hI, zb_W.rf, _, rfl, by dsimp only; exact ⟨⟨fun z => absurd z (by omega), fun _ j j0 => by rw [a9 j j0]⟩, fun z => absurd z (by omega), fun _ => by omega⟩⟩
      · refine zx_T.l (i := .iload_n 1) (k := 1) (v := .int (zI (c))) (pc := 15) rfl rfl rfl ?_
        refine zx_T.s (i := .bipush 8) (k := 2) (st' := [.int (zI (8)), .int (zI (c))]) (pc := 16) rfl rfl ?_
        refine zr_i2 (x := c) (y := 8) (t := 24) (pc := 18) rfl rfl (by omega) (by omega) (by omega) (by omega) (fun (c38 : c ≤ 8) => ?_) (fun (c38 : ¬ (c ≤ 8)) => ?_)
        · refine zx_T.l (i := .aload_n 0) (k := 1) (v := .ref 0) (pc := 24) rfl rfl rfl ?_
          refine zw_gr (k := 0) (b := 1) (pc := 25) rfl rfl rfl hI ?_
          refine zx_T.l (i := .iload_n 1) (k := 1) (v := .int (zI (c))) (pc := 28) rfl rfl rfl ?_
          refine zw_iv (b := 1) (cj := 0) (q' := zp_m0) (As := [.int (zI (c))]) (rest := []) (pc := 29) rfl rfl rfl rfl rfl rfl rfl (Nat.le_of_ble_eq_true rfl) rfl (Nat.le_of_ble_eq_true rfl) hI ((zm_cAddParX (h := h) hI (c := c) (by omega) (by omega) (by omega)).up (Nat.le_of_ble_eq_true rfl)) ?_
          rintro r40 h43 ⟨ih43, w44, v41, r40q, x42⟩
          subst r40q
          try dsimp only at x42
          have xA := x42
          show zx_T zp_P 1 zp_m136 32 [(0, .ref 0), (1, .int (zI (c)))] [.int (zI (v41))] h43 _
          refine zx_T.t (i := .istore_n 2) (k := 1) (ls' := [(2, .int (zI (v41))), (0, .ref 0), (1, .int (zI (c)))]) (st' := []) (pc := 32) rfl rfl rfl rfl ?_
          refine zx_T.l (i := .iload_n 2) (k := 1) (v := .int (zI (v41))) (pc := 33) rfl rfl rfl ?_
          refine zx_T.s (i := .bipush (-4)) (k := 2) (st' := [.int (zI ((-4))), .int (zI (v41))]) (pc := 34) rfl rfl ?_
          refine zr_i2 (x := v41) (y := (-4)) (t := 46) (pc := 36) rfl rfl (by omega) (by omega) (by omega) (by omega) (fun (c45 : v41 = (-4)) => ?_) (fun (c45 : ¬ (v41 = (-4))) => ?_)
          · refine zx_T.l (i := .iload_n 2) (k := 1) (v := .int (zI (v41))) (pc := 46) rfl rfl rfl ?_
            have y46 : zv_f h43 16 4 = zv_f h 16 4 := (zv_wf w44 rfl)
            have a9 : ∀ j, 0 ≤ j → zv_a h43 9 j = zv_a h43 9 j := fun j hj => rfl
            exact zr_ir (x := v41) (pc := 47) rfl rfl rfl ⟨ih43, (w44.wd rfl : zb_W [(9, 0), (1, 10), (16, 4)] h _), _, rfl, by dsimp only; exact ⟨⟨fun z j j0 => by exact xA.2.1 z.2 j j0, fun z j j0 => by exact xA.2.2 (fun y => z ⟨by omega, y⟩) j j0⟩, fun z => by omega, fun z => by omega⟩⟩
          · refine zx_T.l (i := .aload_n 0) (k := 1) (v := .ref 0) (pc := 39) rfl rfl rfl ?_
            refine zw_gr (k := 2) (b := 16) (pc := 40) rfl rfl rfl ih43 ?_
            refine zw_iv (b := 16) (cj := 78) (q' := zp_m78) (As := []) (rest := []) (pc := 43) rfl rfl rfl rfl rfl rfl rfl (Nat.le_of_ble_eq_true rfl) rfl (Nat.le_of_ble_eq_true rfl) ih43 ((zm_cUndo (h := h43) ih43  ).up (Nat.le_of_ble_eq_true rfl)) ?_
            rintro r48 h51 ⟨ih51, w52, r48q, x50⟩
            subst r48q
            try dsimp only at x50
            show zx_T zp_P 1 zp_m136 46 [(2, .int (zI (v41))), (0, .ref 0), (1, .int (zI (c)))] [] h51 _
            refine zx_T.l (i := .iload_n 2) (k := 1) (v := .int (zI (v41))) (pc := 46) rfl rfl rfl ?_
            have a9 : ∀ j, 0 ≤ j → zv_a h51 9 j = zv_a h43 9 j := fun j hj => by rw [zv_wa w52 rfl j]
            exact zr_ir (x := v41) (pc := 47) rfl rfl rfl ⟨ih51, ((w44.wd rfl : zb_W [(9, 0), (1, 10), (16, 4)] h _).tr (w52.wd rfl)), _, rfl, by dsimp only; exact ⟨⟨fun z j j0 => by rw [a9 j j0]; exact xA.2.1 z.2 j j0, fun z j j0 => by rw [a9 j j0]; exact xA.2.2 (fun y => z ⟨by omega, y⟩) j j0⟩, fun z => by omega, fun z => by omega⟩⟩
        · refine zx_T.s (i := .bipush (-2)) (k := 2) (st' := [.int (zI ((-2)))]) (pc := 21) rfl rfl ?_
          have a9 : ∀ j, 0 ≤ j → zv_a h 9 j = zv_a h 9 j := fun j hj => rfl
          exact zr_ir (x := (-2)) (pc := 23) rfl rfl rfl ⟨hI, zb_W.rf, _, rfl, by dsimp only; exact ⟨⟨fun z => absurd z (by omega), fun _ j j0 => by rw [a9 j j0]⟩, fun z => absurd z (by omega), fun _ => by omega⟩⟩

set_option maxRecDepth 100000 in
set_option maxHeartbeats 4000000 in
theorem zm_cClearX {h : zx_H} (hI : zb_I zc_H h)   : zx_T zp_P 1 zp_m152 0 [(0, .ref 0)] [] h (zr_R [(1, 3), (1, 8), (1, 10), (16, 4)] h (fun e h' => zv_f h' 16 4 = 0)) := by
  refine zx_T.l (i := .aload_n 0) (k := 1) (v := .ref 0) (pc := 0) rfl rfl rfl ?_
  refine zw_gr (k := 0) (b := 1) (pc := 1) rfl rfl rfl hI ?_
  refine zw_iv (b := 1) (cj := 4) (q' := zp_m4) (As := []) (rest := []) (pc := 4) rfl rfl rfl rfl rfl rfl rfl (Nat.le_of_ble_eq_true rfl) rfl (Nat.le_of_ble_eq_true rfl) hI ((zm_cPlaces (h := h) hI  ).up (Nat.le_of_ble_eq_true rfl)) ?_
  rintro r1 h4 ⟨h4q, v2, r1q, x3⟩
  subst h4q r1q
  try dsimp only at x3
  show zx_T zp_P 1 zp_m152 7 [(0, .ref 0)] [.int (zI (v2))] h _
  refine zx_T.t (i := .istore_n 1) (k := 1) (ls' := [(1, .int (zI (v2))), (0, .ref 0)]) (st' := []) (pc := 7) rfl rfl rfl rfl ?_
  refine zx_T.l (i := .aload_n 0) (k := 1) (v := .ref 0) (pc := 8) rfl rfl rfl ?_
  refine zw_gr (k := 0) (b := 1) (pc := 9) rfl rfl rfl hI ?_
  refine zw_iv (b := 1) (cj := 3) (q' := zp_m3) (As := []) (rest := []) (pc := 12) rfl rfl rfl rfl rfl rfl rfl (Nat.le_of_ble_eq_true rfl) rfl (Nat.le_of_ble_eq_true rfl) hI ((zm_cForget (h := h) hI  ).up (Nat.le_of_ble_eq_true rfl)) ?_
  rintro r5 h8 ⟨ih8, w9, r5q, x7⟩
  subst r5q
  try dsimp only at x7
  show zx_T zp_P 1 zp_m152 15 [(1, .int (zI (v2))), (0, .ref 0)] [] h8 _
  refine zx_T.l (i := .aload_n 0) (k := 1) (v := .ref 0) (pc := 15) rfl rfl rfl ?_
  refine zw_gr (k := 2) (b := 16) (pc := 16) rfl rfl rfl ih8 ?_
  refine zw_iv (b := 16) (cj := 78) (q' := zp_m78) (As := []) (rest := []) (pc := 19) rfl rfl rfl rfl rfl rfl rfl (Nat.le_of_ble_eq_true rfl) rfl (Nat.le_of_ble_eq_true rfl) ih8 ((zm_cUndo (h := h8) ih8  ).up (Nat.le_of_ble_eq_true rfl)) ?_
  rintro r10 h13 ⟨ih13, w14, r10q, x12⟩
  subst r10q
  try dsimp only at x12
  show zx_T zp_P 1 zp_m152 22 [(1, .int (zI (v2))), (0, .ref 0)] [] h13 _
  refine zx_T.l (i := .iload_n 1) (k := 1) (v := .int (zI (v2))) (pc := 22) rfl rfl rfl ?_
  exact zr_ir (x := v2) (pc := 23) rfl rfl rfl ⟨ih13, ((w9.wd rfl : zb_W [(1, 3), (1, 8), (1, 10), (16, 4)] h _).tr (w14.wd rfl)), _, rfl, by dsimp only; omega⟩
