/-! ===== 81: the reference, method by method (by program) ===== -/
set_option maxRecDepth 100000 in
set_option maxHeartbeats 4000000 in
theorem zm_fitsF {h : zx_H} (hI : zb_I zc_H h) {k : Int} {w : Int} (k1 : 0 ≤ k) (k2 : k ≤ 8) (w1 : w = 1 ∨ w = 2 ∨ w = 5 ∨ w = 6 ∨ w = 7) : zx_T zp_P 0 zp_m161 0 [(0, .int (zI (k))), (1, .int (zI (w)))] [] h (zr_P h (fun e => ((e = 1 ∧ zs_fit k w = true) ∨ (e = 0 ∧ zs_fit k w = false)) ∧ (e = 1 → w = 2 → k = 3))) := by
  refine zx_T.l (i := .iload_n 1) (k := 1) (v := .int (zI (w))) (pc := 0) rfl rfl rfl ?_
  have c1 : w = 1 ∨ w = 2 ∨ w = 5 ∨ w = 6 ∨ w = 7 := by omega
  rcases c1 with c1 | c1 | c1 | c1 | c1
  · refine zr_sw (i := .tableswitch 89 1 6 #[39, 50, 89, 89, 61, 72]) (len := 39) (t := 40) (x := w) (k := 1) (pc := 1) rfl c1 rfl rfl rfl rfl ?_
    refine zx_T.l (i := .iload_n 0) (k := 1) (v := .int (zI (k))) (pc := 40) rfl rfl rfl ?_
    refine zx_T.s (i := .iconst 1) (k := 1) (st' := [.int (zI (1)), .int (zI (k))]) (pc := 41) rfl rfl ?_
    refine zr_i2 (x := k) (y := 1) (t := 49) (pc := 42) rfl rfl (by omega) (by omega) (by omega) (by omega) (fun (c2 : ¬ k = 1) => ?_) (fun (c2 : ¬ (¬ k = 1)) => ?_)
    · refine zx_T.s (i := .iconst 0) (k := 1) (st' := [.int (zI (0))]) (pc := 49) rfl rfl ?_
      exact zr_ir (x := 0) (pc := 50) rfl rfl (zr_nb (by omega) (by omega)) ⟨rfl, _, rfl, by dsimp only; first | exact ⟨Or.inl ⟨rfl, zs_fit_t (by omega)⟩, by omega⟩ | exact ⟨Or.inr ⟨rfl, zs_fit_f (by omega)⟩, by omega⟩⟩
    · refine zx_T.s (i := .iconst 1) (k := 1) (st' := [.int (zI (1))]) (pc := 45) rfl rfl ?_
      refine zx_T.j (i := .goto 4) (k := 3) (pc' := 50) (st' := [.int (zI (1))]) (pc := 46) rfl rfl rfl rfl rfl ?_
      exact zr_ir (x := 1) (pc := 50) rfl rfl (zr_nb (by omega) (by omega)) ⟨rfl, _, rfl, by dsimp only; first | exact ⟨Or.inl ⟨rfl, zs_fit_t (by omega)⟩, by omega⟩ | exact ⟨Or.inr ⟨rfl, zs_fit_f (by omega)⟩, by omega⟩⟩
  · refine zr_sw (i := .tableswitch 89 1 6 #[39, 50, 89, 89, 61, 72]) (len := 39) (t := 51) (x := w) (k := 2) (pc := 1) rfl c1 rfl rfl rfl rfl ?_
    refine zx_T.l (i := .iload_n 0) (k := 1) (v := .int (zI (k))) (pc := 51) rfl rfl rfl ?_
    refine zx_T.s (i := .iconst 3) (k := 1) (st' := [.int (zI (3)), .int (zI (k))]) (pc := 52) rfl rfl ?_
    refine zr_i2 (x := k) (y := 3) (t := 60) (pc := 53) rfl rfl (by omega) (by omega) (by omega) (by omega) (fun (c3 : ¬ k = 3) => ?_) (fun (c3 : ¬ (¬ k = 3)) => ?_)
    · refine zx_T.s (i := .iconst 0) (k := 1) (st' := [.int (zI (0))]) (pc := 60) rfl rfl ?_
      exact zr_ir (x := 0) (pc := 61) rfl rfl (zr_nb (by omega) (by omega)) ⟨rfl, _, rfl, by dsimp only; first | exact ⟨Or.inl ⟨rfl, zs_fit_t (by omega)⟩, by omega⟩ | exact ⟨Or.inr ⟨rfl, zs_fit_f (by omega)⟩, by omega⟩⟩
    · refine zx_T.s (i := .iconst 1) (k := 1) (st' := [.int (zI (1))]) (pc := 56) rfl rfl ?_
      refine zx_T.j (i := .goto 4) (k := 3) (pc' := 61) (st' := [.int (zI (1))]) (pc := 57) rfl rfl rfl rfl rfl ?_
      exact zr_ir (x := 1) (pc := 61) rfl rfl (zr_nb (by omega) (by omega)) ⟨rfl, _, rfl, by dsimp only; first | exact ⟨Or.inl ⟨rfl, zs_fit_t (by omega)⟩, by omega⟩ | exact ⟨Or.inr ⟨rfl, zs_fit_f (by omega)⟩, by omega⟩⟩
  · refine zr_sw (i := .tableswitch 89 1 6 #[39, 50, 89, 89, 61, 72]) (len := 39) (t := 62) (x := w) (k := 5) (pc := 1) rfl c1 rfl rfl rfl rfl ?_
    refine zx_T.l (i := .iload_n 0) (k := 1) (v := .int (zI (k))) (pc := 62) rfl rfl rfl ?_
    refine zx_T.s (i := .iconst 4) (k := 1) (st' := [.int (zI (4)), .int (zI (k))]) (pc := 63) rfl rfl ?_
    refine zr_i2 (x := k) (y := 4) (t := 71) (pc := 64) rfl rfl (by omega) (by omega) (by omega) (by omega) (fun (c4 : k < 4) => ?_) (fun (c4 : ¬ (k < 4)) => ?_)
    · refine zx_T.s (i := .iconst 0) (k := 1) (st' := [.int (zI (0))]) (pc := 71) rfl rfl ?_
      exact zr_ir (x := 0) (pc := 72) rfl rfl (zr_nb (by omega) (by omega)) ⟨rfl, _, rfl, by dsimp only; first | exact ⟨Or.inl ⟨rfl, zs_fit_t (by omega)⟩, by omega⟩ | exact ⟨Or.inr ⟨rfl, zs_fit_f (by omega)⟩, by omega⟩⟩
    · refine zx_T.s (i := .iconst 1) (k := 1) (st' := [.int (zI (1))]) (pc := 67) rfl rfl ?_
      refine zx_T.j (i := .goto 4) (k := 3) (pc' := 72) (st' := [.int (zI (1))]) (pc := 68) rfl rfl rfl rfl rfl ?_
      exact zr_ir (x := 1) (pc := 72) rfl rfl (zr_nb (by omega) (by omega)) ⟨rfl, _, rfl, by dsimp only; first | exact ⟨Or.inl ⟨rfl, zs_fit_t (by omega)⟩, by omega⟩ | exact ⟨Or.inr ⟨rfl, zs_fit_f (by omega)⟩, by omega⟩⟩
  · refine zr_sw (i := .tableswitch 89 1 6 #[39, 50, 89, 89, 61, 72]) (len := 39) (t := 73) (x := w) (k := 6) (pc := 1) rfl c1 rfl rfl rfl rfl ?_
    refine zx_T.l (i := .iload_n 0) (k := 1) (v := .int (zI (k))) (pc := 73) rfl rfl rfl ?_
    refine zx_T.s (i := .bipush 6) (k := 2) (st' := [.int (zI (6)), .int (zI (k))]) (pc := 74) rfl rfl ?_
    refine zr_i2 (x := k) (y := 6) (t := 84) (pc := 76) rfl rfl (by omega) (by omega) (by omega) (by omega) (fun (c5 : k = 6) => ?_) (fun (c5 : ¬ (k = 6)) => ?_)
    · refine zx_T.s (i := .iconst 1) (k := 1) (st' := [.int (zI (1))]) (pc := 84) rfl rfl ?_
      refine zx_T.j (i := .goto 4) (k := 3) (pc' := 89) (st' := [.int (zI (1))]) (pc := 85) rfl rfl rfl rfl rfl ?_
      exact zr_ir (x := 1) (pc := 89) rfl rfl (zr_nb (by omega) (by omega)) ⟨rfl, _, rfl, by dsimp only; first | exact ⟨Or.inl ⟨rfl, zs_fit_t (by omega)⟩, by omega⟩ | exact ⟨Or.inr ⟨rfl, zs_fit_f (by omega)⟩, by omega⟩⟩
    · refine zx_T.l (i := .iload_n 0) (k := 1) (v := .int (zI (k))) (pc := 79) rfl rfl rfl ?_
      refine zx_T.s (i := .iconst 4) (k := 1) (st' := [.int (zI (4)), .int (zI (k))]) (pc := 80) rfl rfl ?_
      refine zr_i2 (x := k) (y := 4) (t := 88) (pc := 81) rfl rfl (by omega) (by omega) (by omega) (by omega) (fun (c6 : ¬ k = 4) => ?_) (fun (c6 : ¬ (¬ k = 4)) => ?_)
      · refine zx_T.s (i := .iconst 0) (k := 1) (st' := [.int (zI (0))]) (pc := 88) rfl rfl ?_
        exact zr_ir (x := 0) (pc := 89) rfl rfl (zr_nb (by omega) (by omega)) ⟨rfl, _, rfl, by dsimp only; first | exact ⟨Or.inl ⟨rfl, zs_fit_t (by omega)⟩, by omega⟩ | exact ⟨Or.inr ⟨rfl, zs_fit_f (by omega)⟩, by omega⟩⟩
      · refine zx_T.s (i := .iconst 1) (k := 1) (st' := [.int (zI (1))]) (pc := 84) rfl rfl ?_
        refine zx_T.j (i := .goto 4) (k := 3) (pc' := 89) (st' := [.int (zI (1))]) (pc := 85) rfl rfl rfl rfl rfl ?_
        exact zr_ir (x := 1) (pc := 89) rfl rfl (zr_nb (by omega) (by omega)) ⟨rfl, _, rfl, by dsimp only; first | exact ⟨Or.inl ⟨rfl, zs_fit_t (by omega)⟩, by omega⟩ | exact ⟨Or.inr ⟨rfl, zs_fit_f (by omega)⟩, by omega⟩⟩
  · refine zr_sw (i := .tableswitch 89 1 6 #[39, 50, 89, 89, 61, 72]) (len := 39) (t := 90) (x := w) (k := 7) (pc := 1) rfl c1 rfl rfl rfl rfl ?_
    refine zx_T.l (i := .iload_n 0) (k := 1) (v := .int (zI (k))) (pc := 90) rfl rfl rfl ?_
    refine zx_T.s (i := .bipush 7) (k := 2) (st' := [.int (zI (7)), .int (zI (k))]) (pc := 91) rfl rfl ?_
    refine zr_i2 (x := k) (y := 7) (t := 107) (pc := 93) rfl rfl (by omega) (by omega) (by omega) (by omega) (fun (c7 : k = 7) => ?_) (fun (c7 : ¬ (k = 7)) => ?_)
    · refine zx_T.s (i := .iconst 1) (k := 1) (st' := [.int (zI (1))]) (pc := 107) rfl rfl ?_
      refine zx_T.j (i := .goto 4) (k := 3) (pc' := 112) (st' := [.int (zI (1))]) (pc := 108) rfl rfl rfl rfl rfl ?_
      exact zr_ir (x := 1) (pc := 112) rfl rfl (zr_nb (by omega) (by omega)) ⟨rfl, _, rfl, by dsimp only; first | exact ⟨Or.inl ⟨rfl, zs_fit_t (by omega)⟩, by omega⟩ | exact ⟨Or.inr ⟨rfl, zs_fit_f (by omega)⟩, by omega⟩⟩
    · refine zx_T.l (i := .iload_n 0) (k := 1) (v := .int (zI (k))) (pc := 96) rfl rfl rfl ?_
      refine zx_T.s (i := .bipush 8) (k := 2) (st' := [.int (zI (8)), .int (zI (k))]) (pc := 97) rfl rfl ?_
      refine zr_i2 (x := k) (y := 8) (t := 107) (pc := 99) rfl rfl (by omega) (by omega) (by omega) (by omega) (fun (c8 : k = 8) => ?_) (fun (c8 : ¬ (k = 8)) => ?_)
      · refine zx_T.s (i := .iconst 1) (k := 1) (st' := [.int (zI (1))]) (pc := 107) rfl rfl ?_
        refine zx_T.j (i := .goto 4) (k := 3) (pc' := 112) (st' := [.int (zI (1))]) (pc := 108) rfl rfl rfl rfl rfl ?_
        exact zr_ir (x := 1) (pc := 112) rfl rfl (zr_nb (by omega) (by omega)) ⟨rfl, _, rfl, by dsimp only; first | exact ⟨Or.inl ⟨rfl, zs_fit_t (by omega)⟩, by omega⟩ | exact ⟨Or.inr ⟨rfl, zs_fit_f (by omega)⟩, by omega⟩⟩
      · refine zx_T.l (i := .iload_n 0) (k := 1) (v := .int (zI (k))) (pc := 102) rfl rfl rfl ?_
        refine zx_T.s (i := .iconst 4) (k := 1) (st' := [.int (zI (4)), .int (zI (k))]) (pc := 103) rfl rfl ?_
        refine zr_i2 (x := k) (y := 4) (t := 111) (pc := 104) rfl rfl (by omega) (by omega) (by omega) (by omega) (fun (c9 : ¬ k = 4) => ?_) (fun (c9 : ¬ (¬ k = 4)) => ?_)
        · refine zx_T.s (i := .iconst 0) (k := 1) (st' := [.int (zI (0))]) (pc := 111) rfl rfl ?_
          exact zr_ir (x := 0) (pc := 112) rfl rfl (zr_nb (by omega) (by omega)) ⟨rfl, _, rfl, by dsimp only; first | exact ⟨Or.inl ⟨rfl, zs_fit_t (by omega)⟩, by omega⟩ | exact ⟨Or.inr ⟨rfl, zs_fit_f (by omega)⟩, by omega⟩⟩
        · refine zx_T.s (i := .iconst 1) (k := 1) (st' := [.int (zI (1))]) (pc := 107) rfl rfl ?_
          refine zx_T.j (i := .goto 4) (k := 3) (pc' := 112) (st' := [.int (zI (1))]) (pc := 108) rfl rfl rfl rfl rfl ?_
          exact zr_ir (x := 1) (pc := 112) rfl rfl (zr_nb (by omega) (by omega)) ⟨rfl, _, rfl, by dsimp only; first | exact ⟨Or.inl ⟨rfl, zs_fit_t (by omega)⟩, by omega⟩ | exact ⟨Or.inr ⟨rfl, zs_fit_f (by omega)⟩, by omega⟩⟩

set_option maxRecDepth 100000 in
set_option maxHeartbeats 4000000 in
theorem zm_needF {h : zx_H} (hI : zb_I zc_H h) {w : Int} (w1 : w = 1 ∨ w = 2 ∨ w = 5 ∨ w = 6 ∨ w = 7) (n8 : ¬ zv_a h 61 8 = 3) : zx_T zp_P 2 zp_m162 0 [(0, .ref 44), (1, .int (zI (w)))] [] h (zr_V [(44, 25), (44, 26)] h (fun h' => zt_eq (zv_i h' 26, zv_i h' 25, zv_a h' 61) (zs_need w (zv_i h 26, zv_i h 25, zv_a h 61)))) := by
  have hn : zv_i h 25 = 1 → ¬ zv_a h 61 (zv_i h 25 + 7) = 3 := fun z => by rw [z]; exact n8
  have hS := zv_ri hI (k := 25) rfl
  refine zx_T.l (i := .aload_n 0) (k := 1) (v := .ref 44) (pc := 0) rfl rfl rfl ?_
  refine zr_gi (k := 26) (lo := 0) (hi := 7) (e := zv_i h 26) (pc := 1) rfl rfl rfl hI rfl (fun g1a g1b => ?_)
  refine zr_i1 (x := zv_i h 26) (t := 8) (pc := 4) rfl rfl (by omega) (by omega) (fun (c2 : (zv_i h 26) = 0) => ?_) (fun (c2 : ¬ ((zv_i h 26) = 0)) => ?_)
  · refine zx_T.l (i := .aload_n 0) (k := 1) (v := .ref 44) (pc := 8) rfl rfl rfl ?_
    refine zr_gi (k := 25) (lo := 0) (hi := 6) (e := zv_i h 25) (pc := 9) rfl rfl rfl hI rfl (fun g3a g3b => ?_)
    refine zr_i1 (x := zv_i h 25) (t := 23) (pc := 12) rfl rfl (by omega) (by omega) (fun (c4 : ¬ (zv_i h 25) = 0) => ?_) (fun (c4 : ¬ (¬ (zv_i h 25) = 0)) => ?_)
    · refine zx_T.l (i := .aload_n 0) (k := 1) (v := .ref 44) (pc := 23) rfl rfl rfl ?_
      refine zr_iv (cj := 160) (q' := zp_m160) (As := []) (rest := []) (pc := 24) rfl rfl rfl rfl rfl rfl (Nat.le_of_ble_eq_true rfl) rfl (Nat.le_of_ble_eq_true rfl) hI ((zm_top (h := h) hI  ).up (Nat.le_of_ble_eq_true rfl)) ?_
      rintro r5 h8 ⟨h8q, v6, r5q, x7⟩
      subst h8q r5q
      try dsimp only at x7
      have tp := x7.2.2
      show zx_T zp_P 2 zp_m162 27 [(0, .ref 44), (1, .int (zI (w)))] [.int (zI (v6))] h _
      refine zx_T.l (i := .iload_n 1) (k := 1) (v := .int (zI (w))) (pc := 27) rfl rfl rfl ?_
      refine zr_is (cj := 161) (q' := zp_m161) (As := [.int (zI (v6)), .int (zI (w))]) (rest := []) (pc := 28) rfl rfl rfl rfl rfl rfl (Nat.le_of_ble_eq_true rfl) rfl (Nat.le_of_ble_eq_true rfl) rfl ((zm_fitsF (h := h) hI (k := v6) (w := w) (by omega) (by omega) (by omega)).up (Nat.le_of_ble_eq_true rfl)) ?_
      rintro r9 h12 ⟨h12q, v10, r9q, x11⟩
      subst h12q r9q
      try dsimp only at x11
      have ft := x11.1
      show zx_T zp_P 2 zp_m162 31 [(0, .ref 44), (1, .int (zI (w)))] [.int (zI (v10))] h _
      refine zr_i1 (x := v10) (t := 42) (pc := 31) rfl rfl (by omega) (by omega) (fun (c13 : ¬ v10 = 0) => ?_) (fun (c13 : ¬ (¬ v10 = 0)) => ?_)
      · refine zx_T.l (i := .aload_n 0) (k := 1) (v := .ref 44) (pc := 42) rfl rfl rfl ?_
        refine zx_T.s (i := .dup) (k := 1) (st' := [.ref 44, .ref 44]) (pc := 43) rfl rfl ?_
        refine zr_gi (k := 25) (lo := 0) (hi := 6) (e := zv_i h 25) (pc := 44) rfl rfl rfl hI rfl (fun g14a g14b => ?_)
        refine zx_T.l (i := .iload_n 1) (k := 1) (v := .int (zI (w))) (pc := 47) rfl rfl rfl ?_
        refine zx_T.s (i := .iconst 2) (k := 1) (st' := [.int (zI (2)), .int (zI (w)), .int (zI (zv_i h 25)), .ref 44]) (pc := 48) rfl rfl ?_
        refine zr_i2 (x := w) (y := 2) (t := 56) (pc := 49) rfl rfl (by omega) (by omega) (by omega) (by omega) (fun (c15 : ¬ w = 2) => ?_) (fun (c15 : ¬ (¬ w = 2)) => ?_)
        · refine zx_T.s (i := .iconst 1) (k := 1) (st' := [.int (zI (1)), .int (zI (zv_i h 25)), .ref 44]) (pc := 56) rfl rfl ?_
          refine zr_sub (x := zv_i h 25) (y := 1) (e := zv_i h 25 - 1) (pc := 57) rfl (by omega) ?_
          refine zr_pi (k := 25) (lo := 0) (hi := 6) (e := zv_i h 25 - 1) (pc := 58) rfl rfl rfl rfl rfl rfl hI (by omega) (by omega) (fun h16 ih16 w17 e18 => ?_)
          have i25 : zv_i h16 25 = zv_i h 25 - 1 := e18
          have i26 : zv_i h16 26 = zv_i h 26 := (zv_wi w17 rfl)
          have a61 : ∀ j, 0 ≤ j → zv_a h16 61 j = zv_a h 61 j := fun j hj => by rw [zv_wa w17 rfl j]
          exact zr_vr (pc := 61) rfl rfl ⟨ih16, (w17.wd rfl : zb_W [(44, 25), (44, 26)] h _), rfl, by dsimp only; exact zt_need (by first | exact Or.inl ⟨by omega, by omega, by omega⟩ | exact Or.inr (Or.inl ⟨by omega, by omega, by omega, by omega⟩) | exact Or.inr (Or.inr (Or.inl ⟨by omega, by omega, (by rcases ft with z | z <;> first | (exfalso; omega) | (rw [← tp]; exact z.2)), by omega, by omega⟩)) | exact Or.inr (Or.inr (Or.inr ⟨by omega, by omega, (by rcases ft with z | z <;> first | (exfalso; omega) | (rw [← tp]; exact z.2)), by omega, by omega, by omega⟩))) (fun j j0 => by rw [a61 j j0])⟩
        · refine zx_T.s (i := .iconst 2) (k := 1) (st' := [.int (zI (2)), .int (zI (zv_i h 25)), .ref 44]) (pc := 52) rfl rfl ?_
          refine zx_T.j (i := .goto 4) (k := 3) (pc' := 57) (st' := [.int (zI (2)), .int (zI (zv_i h 25)), .ref 44]) (pc := 53) rfl rfl rfl rfl rfl ?_
          refine zr_sub (x := zv_i h 25) (y := 2) (e := zv_i h 25 - 2) (pc := 57) rfl (by omega) ?_
          refine zr_pi (k := 25) (lo := 0) (hi := 6) (e := zv_i h 25 - 2) (pc := 58) rfl rfl rfl rfl rfl rfl hI (by omega) (by omega) (fun h22 ih22 w23 e24 => ?_)
          have i25 : zv_i h22 25 = zv_i h 25 - 2 := e24
          have i26 : zv_i h22 26 = zv_i h 26 := (zv_wi w23 rfl)
          have a61 : ∀ j, 0 ≤ j → zv_a h22 61 j = zv_a h 61 j := fun j hj => by rw [zv_wa w23 rfl j]
          exact zr_vr (pc := 61) rfl rfl ⟨ih22, (w23.wd rfl : zb_W [(44, 25), (44, 26)] h _), rfl, by dsimp only; exact zt_need (by first | exact Or.inl ⟨by omega, by omega, by omega⟩ | exact Or.inr (Or.inl ⟨by omega, by omega, by omega, by omega⟩) | exact Or.inr (Or.inr (Or.inl ⟨by omega, by omega, (by rcases ft with z | z <;> first | (exfalso; omega) | (rw [← tp]; exact z.2)), by omega, by omega⟩)) | exact Or.inr (Or.inr (Or.inr ⟨by omega, by omega, (by rcases ft with z | z <;> first | (exfalso; omega) | (rw [← tp]; exact z.2)), by omega, by omega, by omega⟩))) (fun j j0 => by rw [a61 j j0])⟩
      · refine zx_T.l (i := .aload_n 0) (k := 1) (v := .ref 44) (pc := 34) rfl rfl rfl ?_
        refine zx_T.s (i := .iconst 1) (k := 1) (st' := [.int (zI (1)), .ref 44]) (pc := 35) rfl rfl ?_
        refine zr_iv (cj := 159) (q' := zp_m159) (As := [.int (zI (1))]) (rest := []) (pc := 36) rfl rfl rfl rfl rfl rfl (Nat.le_of_ble_eq_true rfl) rfl (Nat.le_of_ble_eq_true rfl) hI ((zm_fails (h := h) hI (w := 1) (by omega) (by omega)).up (Nat.le_of_ble_eq_true rfl)) ?_
        rintro r29 h32 ⟨ih32, w33, r29q, x31⟩
        subst r29q
        try dsimp only at x31
        show zx_T zp_P 2 zp_m162 39 [(0, .ref 44), (1, .int (zI (w)))] [] h32 _
        refine zx_T.j (i := .goto 22) (k := 3) (pc' := 61) (st' := []) (pc := 39) rfl rfl rfl rfl rfl ?_
        have i25 : zv_i h32 25 = zv_i h 25 := (zv_wi w33 rfl)
        have i26 : zv_i h32 26 = zv_i h32 26 := rfl
        have a61 : ∀ j, 0 ≤ j → zv_a h32 61 j = zv_a h 61 j := fun j hj => by rw [zv_wa w33 rfl j]
        exact zr_vr (pc := 61) rfl rfl ⟨ih32, (w33.wd rfl : zb_W [(44, 25), (44, 26)] h _), rfl, by dsimp only; exact zt_need (by first | exact Or.inl ⟨by omega, by omega, by omega⟩ | exact Or.inr (Or.inl ⟨by omega, by omega, by omega, by omega⟩) | exact Or.inr (Or.inr (Or.inl ⟨by omega, by omega, (by rcases ft with z | z <;> first | (exfalso; omega) | (rw [← tp]; exact z.2)), by omega, by omega⟩)) | exact Or.inr (Or.inr (Or.inr ⟨by omega, by omega, (by rcases ft with z | z <;> first | (exfalso; omega) | (rw [← tp]; exact z.2)), by omega, by omega, by omega⟩))) (fun j j0 => by rw [a61 j j0])⟩
    · refine zx_T.l (i := .aload_n 0) (k := 1) (v := .ref 44) (pc := 15) rfl rfl rfl ?_
      refine zx_T.s (i := .iconst 2) (k := 1) (st' := [.int (zI (2)), .ref 44]) (pc := 16) rfl rfl ?_
      refine zr_iv (cj := 159) (q' := zp_m159) (As := [.int (zI (2))]) (rest := []) (pc := 17) rfl rfl rfl rfl rfl rfl (Nat.le_of_ble_eq_true rfl) rfl (Nat.le_of_ble_eq_true rfl) hI ((zm_fails (h := h) hI (w := 2) (by omega) (by omega)).up (Nat.le_of_ble_eq_true rfl)) ?_
      rintro r38 h41 ⟨ih41, w42, r38q, x40⟩
      subst r38q
      try dsimp only at x40
      show zx_T zp_P 2 zp_m162 20 [(0, .ref 44), (1, .int (zI (w)))] [] h41 _
      refine zx_T.j (i := .goto 41) (k := 3) (pc' := 61) (st' := []) (pc := 20) rfl rfl rfl rfl rfl ?_
      have i25 : zv_i h41 25 = zv_i h 25 := (zv_wi w42 rfl)
      have i26 : zv_i h41 26 = zv_i h41 26 := rfl
      have a61 : ∀ j, 0 ≤ j → zv_a h41 61 j = zv_a h 61 j := fun j hj => by rw [zv_wa w42 rfl j]
      exact zr_vr (pc := 61) rfl rfl ⟨ih41, (w42.wd rfl : zb_W [(44, 25), (44, 26)] h _), rfl, by dsimp only; exact zt_need (by first | exact Or.inl ⟨by omega, by omega, by omega⟩ | exact Or.inr (Or.inl ⟨by omega, by omega, by omega, by omega⟩) | exact Or.inr (Or.inr (Or.inl ⟨by omega, by omega, (by rcases ft with z | z <;> first | (exfalso; omega) | (rw [← tp]; exact z.2)), by omega, by omega⟩)) | exact Or.inr (Or.inr (Or.inr ⟨by omega, by omega, (by rcases ft with z | z <;> first | (exfalso; omega) | (rw [← tp]; exact z.2)), by omega, by omega, by omega⟩))) (fun j j0 => by rw [a61 j j0])⟩
  · have i25 : zv_i h 25 = zv_i h 25 := rfl
    have i26 : zv_i h 26 = zv_i h 26 := rfl
    have a61 : ∀ j, 0 ≤ j → zv_a h 61 j = zv_a h 61 j := fun j hj => rfl
    exact zr_vr (pc := 7) rfl rfl ⟨hI, zb_W.rf, rfl, by dsimp only; exact zt_need (by first | exact Or.inl ⟨by omega, by omega, by omega⟩ | exact Or.inr (Or.inl ⟨by omega, by omega, by omega, by omega⟩) | exact Or.inr (Or.inr (Or.inl ⟨by omega, by omega, (by rcases ft with z | z <;> first | (exfalso; omega) | (rw [← tp]; exact z.2)), by omega, by omega⟩)) | exact Or.inr (Or.inr (Or.inr ⟨by omega, by omega, (by rcases ft with z | z <;> first | (exfalso; omega) | (rw [← tp]; exact z.2)), by omega, by omega, by omega⟩))) (fun j j0 => by rw [a61 j j0])⟩

set_option maxRecDepth 100000 in
set_option maxHeartbeats 4000000 in
theorem zm_pushF {h : zx_H} (hI : zb_I zc_H h) {k : Int} (k1 : 0 ≤ k) (k2 : k ≤ 8) (k3 : ¬ k = 3) : zx_T zp_P 1 zp_m163 0 [(0, .ref 44), (1, .int (zI (k)))] [] h (zr_V [(44, 25), (44, 26), (61, 0)] h (fun h' => zt_eq (zv_i h' 26, zv_i h' 25, zv_a h' 61) (zs_push k (zv_i h 26, zv_i h 25, zv_a h 61)) ∧ (¬ zv_a h 61 8 = 3 → ¬ zv_a h' 61 8 = 3))) := by
  have hS := zv_ri hI (k := 25) rfl
  refine zx_T.l (i := .aload_n 0) (k := 1) (v := .ref 44) (pc := 0) rfl rfl rfl ?_
  refine zr_gi (k := 26) (lo := 0) (hi := 7) (e := zv_i h 26) (pc := 1) rfl rfl rfl hI rfl (fun g1a g1b => ?_)
  refine zr_i1 (x := zv_i h 26) (t := 8) (pc := 4) rfl rfl (by omega) (by omega) (fun (c2 : (zv_i h 26) = 0) => ?_) (fun (c2 : ¬ ((zv_i h 26) = 0)) => ?_)
  · refine zx_T.l (i := .iload_n 1) (k := 1) (v := .int (zI (k))) (pc := 8) rfl rfl rfl ?_
    refine zx_T.s (i := .iconst 2) (k := 1) (st' := [.int (zI (2)), .int (zI (k))]) (pc := 9) rfl rfl ?_
    refine zr_i2 (x := k) (y := 2) (t := 17) (pc := 10) rfl rfl (by omega) (by omega) (by omega) (by omega) (fun (c3 : ¬ k = 2) => ?_) (fun (c3 : ¬ (¬ k = 2)) => ?_)
    · refine zx_T.s (i := .iconst 1) (k := 1) (st' := [.int (zI (1))]) (pc := 17) rfl rfl ?_
      refine zx_T.t (i := .istore_n 2) (k := 1) (ls' := [(2, .int (zI (1))), (0, .ref 44), (1, .int (zI (k)))]) (st' := []) (pc := 18) rfl rfl rfl rfl ?_
      refine zx_T.l (i := .aload_n 0) (k := 1) (v := .ref 44) (pc := 19) rfl rfl rfl ?_
      refine zr_gi (k := 25) (lo := 0) (hi := 6) (e := zv_i h 25) (pc := 20) rfl rfl rfl hI rfl (fun g4a g4b => ?_)
      refine zx_T.l (i := .iload_n 2) (k := 1) (v := .int (zI (1))) (pc := 23) rfl rfl rfl ?_
      refine zr_add (x := zv_i h 25) (y := 1) (e := zv_i h 25 + 1) (pc := 24) rfl (by omega) ?_
      refine zx_T.s (i := .bipush 6) (k := 2) (st' := [.int (zI (6)), .int (zI (zv_i h 25 + 1))]) (pc := 25) rfl rfl ?_
      refine zr_i2 (x := zv_i h 25 + 1) (y := 6) (t := 36) (pc := 27) rfl rfl (by omega) (by omega) (by omega) (by omega) (fun (c5 : (zv_i h 25 + 1) ≤ 6) => ?_) (fun (c5 : ¬ ((zv_i h 25 + 1) ≤ 6)) => ?_)
      · refine zx_T.l (i := .aload_n 0) (k := 1) (v := .ref 44) (pc := 36) rfl rfl rfl ?_
        refine zr_gr (k := 24) (b := 61) (pc := 37) rfl rfl rfl hI ?_
        refine zx_T.s (i := .bipush 8) (k := 2) (st' := [.int (zI (8)), .ref 61]) (pc := 40) rfl rfl ?_
        refine zx_T.l (i := .aload_n 0) (k := 1) (v := .ref 44) (pc := 42) rfl rfl rfl ?_
        refine zr_gi (k := 25) (lo := 0) (hi := 6) (e := zv_i h 25) (pc := 43) rfl rfl rfl hI rfl (fun g6a g6b => ?_)
        refine zr_add (x := 8) (y := zv_i h 25) (e := zv_i h 25 + 8) (pc := 46) rfl (by omega) ?_
        refine zx_T.l (i := .iload_n 1) (k := 1) (v := .int (zI (k))) (pc := 47) rfl rfl rfl ?_
        refine zr_as (n := 14) (lo := 0) (hi := 8) (e := k) (pc := 48) rfl rfl rfl rfl hI (by omega) (by omega) (by omega) (by omega) (fun h7 ih7 w8 s9 => ?_)
        refine zx_T.l (i := .iload_n 1) (k := 1) (v := .int (zI (k))) (pc := 49) rfl rfl rfl ?_
        refine zx_T.s (i := .iconst 2) (k := 1) (st' := [.int (zI (2)), .int (zI (k))]) (pc := 50) rfl rfl ?_
        refine zr_i2 (x := k) (y := 2) (t := 69) (pc := 51) rfl rfl (by omega) (by omega) (by omega) (by omega) (fun (c10 : ¬ k = 2) => ?_) (fun (c10 : ¬ (¬ k = 2)) => False.elim (by omega))
        refine zx_T.l (i := .aload_n 0) (k := 1) (v := .ref 44) (pc := 69) rfl rfl rfl ?_
        refine zx_T.s (i := .dup) (k := 1) (st' := [.ref 44, .ref 44]) (pc := 70) rfl rfl ?_
        refine zr_gi (k := 25) (lo := 0) (hi := 6) (e := zv_i h 25) (pc := 71) rfl rfl rfl ih7 (zv_wi w8 rfl) (fun g11a g11b => ?_)
        refine zx_T.l (i := .iload_n 2) (k := 1) (v := .int (zI (1))) (pc := 74) rfl rfl rfl ?_
        refine zr_add (x := zv_i h 25) (y := 1) (e := zv_i h 25 + 1) (pc := 75) rfl (by omega) ?_
        refine zr_pi (k := 25) (lo := 0) (hi := 6) (e := zv_i h 25 + 1) (pc := 76) rfl rfl rfl rfl rfl rfl ih7 (by omega) (by omega) (fun h12 ih12 w13 e14 => ?_)
        have i25 : zv_i h12 25 = zv_i h 25 + 1 := e14
        have i26 : zv_i h12 26 = zv_i h 26 := ((zv_wi w13 rfl).trans (zv_wi w8 rfl))
        have a61 : ∀ j, 0 ≤ j → zv_a h12 61 j = if j = zv_i h 25 + 8 then k else zv_a h 61 j := fun j hj => by rw [zv_wa w13 rfl j, s9 j hj]
        have y18 : zv_a h12 61 8 = zv_a h7 61 8 := (zv_wa w13 rfl 8)
        exact zr_vr (pc := 79) rfl rfl ⟨ih12, ((w8.wd rfl : zb_W [(44, 25), (44, 26), (61, 0)] h _).tr (w13.wd rfl)), rfl, by dsimp only; exact ⟨zt_push (by first | exact Or.inl ⟨by omega, by omega, by omega, fun j j0 => by rw [a61 j j0]⟩ | exact Or.inr (Or.inl ⟨by omega, by unfold zs_wd; split <;> omega, by omega, by omega, fun j j0 => by rw [a61 j j0]⟩) | exact Or.inr (Or.inr ⟨by omega, by unfold zs_wd; split <;> omega, by omega, by unfold zs_wd; split <;> omega, fun j j0 => by rw [a61 j j0]; (repeat split) <;> omega⟩)), fun h8 => by have b9 := a61 8 (by omega); first | omega | (split at b9 <;> first | omega | (split at b9 <;> omega))⟩⟩
      · refine zx_T.l (i := .aload_n 0) (k := 1) (v := .ref 44) (pc := 30) rfl rfl rfl ?_
        refine zx_T.s (i := .iconst 3) (k := 1) (st' := [.int (zI (3)), .ref 44]) (pc := 31) rfl rfl ?_
        refine zr_iv (cj := 159) (q' := zp_m159) (As := [.int (zI (3))]) (rest := []) (pc := 32) rfl rfl rfl rfl rfl rfl (Nat.le_of_ble_eq_true rfl) rfl (Nat.le_of_ble_eq_true rfl) hI ((zm_fails (h := h) hI (w := 3) (by omega) (by omega)).up (Nat.le_of_ble_eq_true rfl)) ?_
        rintro r20 h23 ⟨ih23, w24, r20q, x22⟩
        subst r20q
        try dsimp only at x22
        show zx_T zp_P 1 zp_m163 35 [(2, .int (zI (1))), (0, .ref 44), (1, .int (zI (k)))] [] h23 _
        have i25 : zv_i h23 25 = zv_i h 25 := (zv_wi w24 rfl)
        have i26 : zv_i h23 26 = zv_i h23 26 := rfl
        have a61 : ∀ j, 0 ≤ j → zv_a h23 61 j = zv_a h 61 j := fun j hj => by rw [zv_wa w24 rfl j]
        have y28 : zv_a h23 61 8 = zv_a h 61 8 := (zv_wa w24 rfl 8)
        exact zr_vr (pc := 35) rfl rfl ⟨ih23, (w24.wd rfl : zb_W [(44, 25), (44, 26), (61, 0)] h _), rfl, by dsimp only; exact ⟨zt_push (by first | exact Or.inl ⟨by omega, by omega, by omega, fun j j0 => by rw [a61 j j0]⟩ | exact Or.inr (Or.inl ⟨by omega, by unfold zs_wd; split <;> omega, by omega, by omega, fun j j0 => by rw [a61 j j0]⟩) | exact Or.inr (Or.inr ⟨by omega, by unfold zs_wd; split <;> omega, by omega, by unfold zs_wd; split <;> omega, fun j j0 => by rw [a61 j j0]; (repeat split) <;> omega⟩)), fun h8 => by have b9 := a61 8 (by omega); first | omega | (split at b9 <;> first | omega | (split at b9 <;> omega))⟩⟩
    · refine zx_T.s (i := .iconst 2) (k := 1) (st' := [.int (zI (2))]) (pc := 13) rfl rfl ?_
      refine zx_T.j (i := .goto 4) (k := 3) (pc' := 18) (st' := [.int (zI (2))]) (pc := 14) rfl rfl rfl rfl rfl ?_
      refine zx_T.t (i := .istore_n 2) (k := 1) (ls' := [(2, .int (zI (2))), (0, .ref 44), (1, .int (zI (k)))]) (st' := []) (pc := 18) rfl rfl rfl rfl ?_
      refine zx_T.l (i := .aload_n 0) (k := 1) (v := .ref 44) (pc := 19) rfl rfl rfl ?_
      refine zr_gi (k := 25) (lo := 0) (hi := 6) (e := zv_i h 25) (pc := 20) rfl rfl rfl hI rfl (fun g29a g29b => ?_)
      refine zx_T.l (i := .iload_n 2) (k := 1) (v := .int (zI (2))) (pc := 23) rfl rfl rfl ?_
      refine zr_add (x := zv_i h 25) (y := 2) (e := zv_i h 25 + 2) (pc := 24) rfl (by omega) ?_
      refine zx_T.s (i := .bipush 6) (k := 2) (st' := [.int (zI (6)), .int (zI (zv_i h 25 + 2))]) (pc := 25) rfl rfl ?_
      refine zr_i2 (x := zv_i h 25 + 2) (y := 6) (t := 36) (pc := 27) rfl rfl (by omega) (by omega) (by omega) (by omega) (fun (c30 : (zv_i h 25 + 2) ≤ 6) => ?_) (fun (c30 : ¬ ((zv_i h 25 + 2) ≤ 6)) => ?_)
      · refine zx_T.l (i := .aload_n 0) (k := 1) (v := .ref 44) (pc := 36) rfl rfl rfl ?_
        refine zr_gr (k := 24) (b := 61) (pc := 37) rfl rfl rfl hI ?_
        refine zx_T.s (i := .bipush 8) (k := 2) (st' := [.int (zI (8)), .ref 61]) (pc := 40) rfl rfl ?_
        refine zx_T.l (i := .aload_n 0) (k := 1) (v := .ref 44) (pc := 42) rfl rfl rfl ?_
        refine zr_gi (k := 25) (lo := 0) (hi := 6) (e := zv_i h 25) (pc := 43) rfl rfl rfl hI rfl (fun g31a g31b => ?_)
        refine zr_add (x := 8) (y := zv_i h 25) (e := zv_i h 25 + 8) (pc := 46) rfl (by omega) ?_
        refine zx_T.l (i := .iload_n 1) (k := 1) (v := .int (zI (k))) (pc := 47) rfl rfl rfl ?_
        refine zr_as (n := 14) (lo := 0) (hi := 8) (e := k) (pc := 48) rfl rfl rfl rfl hI (by omega) (by omega) (by omega) (by omega) (fun h32 ih32 w33 s34 => ?_)
        refine zx_T.l (i := .iload_n 1) (k := 1) (v := .int (zI (k))) (pc := 49) rfl rfl rfl ?_
        refine zx_T.s (i := .iconst 2) (k := 1) (st' := [.int (zI (2)), .int (zI (k))]) (pc := 50) rfl rfl ?_
        refine zr_i2 (x := k) (y := 2) (t := 69) (pc := 51) rfl rfl (by omega) (by omega) (by omega) (by omega) (fun (c35 : ¬ k = 2) => False.elim (by omega)) (fun (c35 : ¬ (¬ k = 2)) => ?_)
        refine zx_T.l (i := .aload_n 0) (k := 1) (v := .ref 44) (pc := 54) rfl rfl rfl ?_
        refine zr_gr (k := 24) (b := 61) (pc := 55) rfl rfl rfl ih32 ?_
        refine zx_T.s (i := .bipush 8) (k := 2) (st' := [.int (zI (8)), .ref 61]) (pc := 58) rfl rfl ?_
        refine zx_T.l (i := .aload_n 0) (k := 1) (v := .ref 44) (pc := 60) rfl rfl rfl ?_
        refine zr_gi (k := 25) (lo := 0) (hi := 6) (e := zv_i h 25) (pc := 61) rfl rfl rfl ih32 (zv_wi w33 rfl) (fun g36a g36b => ?_)
        refine zr_add (x := 8) (y := zv_i h 25) (e := zv_i h 25 + 8) (pc := 64) rfl (by omega) ?_
        refine zx_T.s (i := .iconst 1) (k := 1) (st' := [.int (zI (1)), .int (zI (zv_i h 25 + 8)), .ref 61]) (pc := 65) rfl rfl ?_
        refine zr_add (x := zv_i h 25 + 8) (y := 1) (e := zv_i h 25 + 9) (pc := 66) rfl (by omega) ?_
        refine zx_T.s (i := .iconst 3) (k := 1) (st' := [.int (zI (3)), .int (zI (zv_i h 25 + 9)), .ref 61]) (pc := 67) rfl rfl ?_
        refine zr_as (n := 14) (lo := 0) (hi := 8) (e := 3) (pc := 68) rfl rfl rfl rfl ih32 (by omega) (by omega) (by omega) (by omega) (fun h37 ih37 w38 s39 => ?_)
        refine zx_T.l (i := .aload_n 0) (k := 1) (v := .ref 44) (pc := 69) rfl rfl rfl ?_
        refine zx_T.s (i := .dup) (k := 1) (st' := [.ref 44, .ref 44]) (pc := 70) rfl rfl ?_
        refine zr_gi (k := 25) (lo := 0) (hi := 6) (e := zv_i h 25) (pc := 71) rfl rfl rfl ih37 ((zv_wi w38 rfl).trans (zv_wi w33 rfl)) (fun g40a g40b => ?_)
        refine zx_T.l (i := .iload_n 2) (k := 1) (v := .int (zI (2))) (pc := 74) rfl rfl rfl ?_
        refine zr_add (x := zv_i h 25) (y := 2) (e := zv_i h 25 + 2) (pc := 75) rfl (by omega) ?_
        refine zr_pi (k := 25) (lo := 0) (hi := 6) (e := zv_i h 25 + 2) (pc := 76) rfl rfl rfl rfl rfl rfl ih37 (by omega) (by omega) (fun h41 ih41 w42 e43 => ?_)
        have i25 : zv_i h41 25 = zv_i h 25 + 2 := e43
        have i26 : zv_i h41 26 = zv_i h 26 := ((zv_wi w42 rfl).trans ((zv_wi w38 rfl).trans (zv_wi w33 rfl)))
        have a61 : ∀ j, 0 ≤ j → zv_a h41 61 j = if j = zv_i h 25 + 9 then 3 else if j = zv_i h 25 + 8 then k else zv_a h 61 j := fun j hj => by rw [zv_wa w42 rfl j, s39 j hj, s34 j hj]
        have y47 : zv_a h41 61 8 = zv_a h37 61 8 := (zv_wa w42 rfl 8)
        exact zr_vr (pc := 79) rfl rfl ⟨ih41, (((w33.wd rfl : zb_W [(44, 25), (44, 26), (61, 0)] h _).tr (w38.wd rfl)).tr (w42.wd rfl)), rfl, by dsimp only; exact ⟨zt_push (by first | exact Or.inl ⟨by omega, by omega, by omega, fun j j0 => by rw [a61 j j0]⟩ | exact Or.inr (Or.inl ⟨by omega, by unfold zs_wd; split <;> omega, by omega, by omega, fun j j0 => by rw [a61 j j0]⟩) | exact Or.inr (Or.inr ⟨by omega, by unfold zs_wd; split <;> omega, by omega, by unfold zs_wd; split <;> omega, fun j j0 => by rw [a61 j j0]; (repeat split) <;> omega⟩)), fun h8 => by have b9 := a61 8 (by omega); first | omega | (split at b9 <;> first | omega | (split at b9 <;> omega))⟩⟩
      · refine zx_T.l (i := .aload_n 0) (k := 1) (v := .ref 44) (pc := 30) rfl rfl rfl ?_
        refine zx_T.s (i := .iconst 3) (k := 1) (st' := [.int (zI (3)), .ref 44]) (pc := 31) rfl rfl ?_
        refine zr_iv (cj := 159) (q' := zp_m159) (As := [.int (zI (3))]) (rest := []) (pc := 32) rfl rfl rfl rfl rfl rfl (Nat.le_of_ble_eq_true rfl) rfl (Nat.le_of_ble_eq_true rfl) hI ((zm_fails (h := h) hI (w := 3) (by omega) (by omega)).up (Nat.le_of_ble_eq_true rfl)) ?_
        rintro r49 h52 ⟨ih52, w53, r49q, x51⟩
        subst r49q
        try dsimp only at x51
        show zx_T zp_P 1 zp_m163 35 [(2, .int (zI (2))), (0, .ref 44), (1, .int (zI (k)))] [] h52 _
        have i25 : zv_i h52 25 = zv_i h 25 := (zv_wi w53 rfl)
        have i26 : zv_i h52 26 = zv_i h52 26 := rfl
        have a61 : ∀ j, 0 ≤ j → zv_a h52 61 j = zv_a h 61 j := fun j hj => by rw [zv_wa w53 rfl j]
        have y57 : zv_a h52 61 8 = zv_a h 61 8 := (zv_wa w53 rfl 8)
        exact zr_vr (pc := 35) rfl rfl ⟨ih52, (w53.wd rfl : zb_W [(44, 25), (44, 26), (61, 0)] h _), rfl, by dsimp only; exact ⟨zt_push (by first | exact Or.inl ⟨by omega, by omega, by omega, fun j j0 => by rw [a61 j j0]⟩ | exact Or.inr (Or.inl ⟨by omega, by unfold zs_wd; split <;> omega, by omega, by omega, fun j j0 => by rw [a61 j j0]⟩) | exact Or.inr (Or.inr ⟨by omega, by unfold zs_wd; split <;> omega, by omega, by unfold zs_wd; split <;> omega, fun j j0 => by rw [a61 j j0]; (repeat split) <;> omega⟩)), fun h8 => by have b9 := a61 8 (by omega); first | omega | (split at b9 <;> first | omega | (split at b9 <;> omega))⟩⟩
  · have i25 : zv_i h 25 = zv_i h 25 := rfl
    have i26 : zv_i h 26 = zv_i h 26 := rfl
    have a61 : ∀ j, 0 ≤ j → zv_a h 61 j = zv_a h 61 j := fun j hj => rfl
    exact zr_vr (pc := 7) rfl rfl ⟨hI, zb_W.rf, rfl, by dsimp only; exact ⟨zt_push (by first | exact Or.inl ⟨by omega, by omega, by omega, fun j j0 => by rw [a61 j j0]⟩ | exact Or.inr (Or.inl ⟨by omega, by unfold zs_wd; split <;> omega, by omega, by omega, fun j j0 => by rw [a61 j j0]⟩) | exact Or.inr (Or.inr ⟨by omega, by unfold zs_wd; split <;> omega, by omega, by unfold zs_wd; split <;> omega, fun j j0 => by rw [a61 j j0]; (repeat split) <;> omega⟩)), fun h8 => by have b9 := a61 8 (by omega); first | omega | (split at b9 <;> first | omega | (split at b9 <;> omega))⟩⟩

set_option maxRecDepth 100000 in
set_option maxHeartbeats 4000000 in
theorem zm_pop0F {h : zx_H} (hI : zb_I zc_H h)  (hr : zv_i h 26 = 0) (n8 : ¬ zv_a h 61 8 = 3) : zx_T zp_P 1 zp_m164 0 [(0, .ref 44), (1, .int (zI (0)))] [] h (zr_V [(44, 25), (44, 26)] h (fun h' => zt_eq (zv_i h' 26, zv_i h' 25, zv_a h' 61) (zs_pop1 (0, zv_i h 25, zv_a h 61)))) := by
  have hn : zv_i h 25 = 1 → ¬ zv_a h 61 (zv_i h 25 + 7) = 3 := fun z => by rw [z]; exact n8
  have hS := zv_ri hI (k := 25) rfl
  refine zx_T.l (i := .aload_n 0) (k := 1) (v := .ref 44) (pc := 0) rfl rfl rfl ?_
  refine zr_gi (k := 25) (lo := 0) (hi := 6) (e := zv_i h 25) (pc := 1) rfl rfl rfl hI rfl (fun g1a g1b => ?_)
  refine zr_i1 (x := zv_i h 25) (t := 15) (pc := 4) rfl rfl (by omega) (by omega) (fun (c2 : ¬ (zv_i h 25) = 0) => ?_) (fun (c2 : ¬ (¬ (zv_i h 25) = 0)) => ?_)
  · refine zx_T.l (i := .aload_n 0) (k := 1) (v := .ref 44) (pc := 15) rfl rfl rfl ?_
    refine zr_iv (cj := 160) (q' := zp_m160) (As := []) (rest := []) (pc := 16) rfl rfl rfl rfl rfl rfl (Nat.le_of_ble_eq_true rfl) rfl (Nat.le_of_ble_eq_true rfl) hI ((zm_top (h := h) hI  ).up (Nat.le_of_ble_eq_true rfl)) ?_
    rintro r3 h6 ⟨h6q, v4, r3q, x5⟩
    subst h6q r3q
    try dsimp only at x5
    have tp := x5.2.2
    show zx_T zp_P 1 zp_m164 19 [(0, .ref 44), (1, .int (zI (0)))] [.int (zI (v4))] h _
    refine zx_T.s (i := .iconst 3) (k := 1) (st' := [.int (zI (3)), .int (zI (v4))]) (pc := 19) rfl rfl ?_
    refine zr_i2 (x := v4) (y := 3) (t := 48) (pc := 20) rfl rfl (by omega) (by omega) (by omega) (by omega) (fun (c7 : ¬ v4 = 3) => ?_) (fun (c7 : ¬ (¬ v4 = 3)) => ?_)
    · refine zx_T.l (i := .aload_n 0) (k := 1) (v := .ref 44) (pc := 48) rfl rfl rfl ?_
      refine zx_T.s (i := .dup) (k := 1) (st' := [.ref 44, .ref 44]) (pc := 49) rfl rfl ?_
      refine zr_gi (k := 25) (lo := 0) (hi := 6) (e := zv_i h 25) (pc := 50) rfl rfl rfl hI rfl (fun g8a g8b => ?_)
      refine zx_T.s (i := .iconst 1) (k := 1) (st' := [.int (zI (1)), .int (zI (zv_i h 25)), .ref 44]) (pc := 53) rfl rfl ?_
      refine zr_sub (x := zv_i h 25) (y := 1) (e := zv_i h 25 - 1) (pc := 54) rfl (by omega) ?_
      refine zr_pi (k := 25) (lo := 0) (hi := 6) (e := zv_i h 25 - 1) (pc := 55) rfl rfl rfl rfl rfl rfl hI (by omega) (by omega) (fun h9 ih9 w10 e11 => ?_)
      refine zx_T.l (i := .iload_n 1) (k := 1) (v := .int (zI (0))) (pc := 58) rfl rfl rfl ?_
      refine zr_i1 (x := 0) (t := 67) (pc := 59) rfl rfl (by omega) (by omega) (fun _ => ?_) (fun (c12 : ¬ (0 = 0)) => absurd (by decide) c12)
      have i25 : zv_i h9 25 = zv_i h 25 - 1 := e11
      have i26 : zv_i h9 26 = zv_i h 26 := (zv_wi w10 rfl)
      have a61 : ∀ j, 0 ≤ j → zv_a h9 61 j = zv_a h 61 j := fun j hj => by rw [zv_wa w10 rfl j]
      exact zr_vr (pc := 67) rfl rfl ⟨ih9, (w10.wd rfl : zb_W [(44, 25), (44, 26)] h _), rfl, by dsimp only; exact zt_pop1 (by first | exact Or.inl ⟨by omega, by omega, by omega⟩ | exact Or.inr (Or.inl ⟨by omega, by omega, by omega, by omega⟩) | exact Or.inr (Or.inr ⟨by omega, by omega, by omega, by omega⟩)) (fun j j0 => by rw [a61 j j0])⟩
    · refine zx_T.l (i := .iload_n 1) (k := 1) (v := .int (zI (0))) (pc := 23) rfl rfl rfl ?_
      refine zr_i1 (x := 0) (t := 40) (pc := 24) rfl rfl (by omega) (by omega) (fun _ => ?_) (fun (c16 : ¬ (0 = 0)) => absurd (by decide) c16)
      refine zx_T.l (i := .aload_n 0) (k := 1) (v := .ref 44) (pc := 40) rfl rfl rfl ?_
      refine zx_T.s (i := .iconst 1) (k := 1) (st' := [.int (zI (1)), .ref 44]) (pc := 41) rfl rfl ?_
      refine zr_iv (cj := 159) (q' := zp_m159) (As := [.int (zI (1))]) (rest := []) (pc := 42) rfl rfl rfl rfl rfl rfl (Nat.le_of_ble_eq_true rfl) rfl (Nat.le_of_ble_eq_true rfl) hI ((zm_fails (h := h) hI (w := 1) (by omega) (by omega)).up (Nat.le_of_ble_eq_true rfl)) ?_
      rintro r18 h21 ⟨ih21, w22, r18q, x20⟩
      subst r18q
      try dsimp only at x20
      show zx_T zp_P 1 zp_m164 45 [(0, .ref 44), (1, .int (zI (0)))] [] h21 _
      refine zx_T.j (i := .goto 22) (k := 3) (pc' := 67) (st' := []) (pc := 45) rfl rfl rfl rfl rfl ?_
      have i25 : zv_i h21 25 = zv_i h 25 := (zv_wi w22 rfl)
      have i26 : zv_i h21 26 = zv_i h21 26 := rfl
      have a61 : ∀ j, 0 ≤ j → zv_a h21 61 j = zv_a h 61 j := fun j hj => by rw [zv_wa w22 rfl j]
      exact zr_vr (pc := 67) rfl rfl ⟨ih21, (w22.wd rfl : zb_W [(44, 25), (44, 26)] h _), rfl, by dsimp only; exact zt_pop1 (by first | exact Or.inl ⟨by omega, by omega, by omega⟩ | exact Or.inr (Or.inl ⟨by omega, by omega, by omega, by omega⟩) | exact Or.inr (Or.inr ⟨by omega, by omega, by omega, by omega⟩)) (fun j j0 => by rw [a61 j j0])⟩
  · refine zx_T.l (i := .aload_n 0) (k := 1) (v := .ref 44) (pc := 7) rfl rfl rfl ?_
    refine zx_T.s (i := .iconst 2) (k := 1) (st' := [.int (zI (2)), .ref 44]) (pc := 8) rfl rfl ?_
    refine zr_iv (cj := 159) (q' := zp_m159) (As := [.int (zI (2))]) (rest := []) (pc := 9) rfl rfl rfl rfl rfl rfl (Nat.le_of_ble_eq_true rfl) rfl (Nat.le_of_ble_eq_true rfl) hI ((zm_fails (h := h) hI (w := 2) (by omega) (by omega)).up (Nat.le_of_ble_eq_true rfl)) ?_
    rintro r27 h30 ⟨ih30, w31, r27q, x29⟩
    subst r27q
    try dsimp only at x29
    show zx_T zp_P 1 zp_m164 12 [(0, .ref 44), (1, .int (zI (0)))] [] h30 _
    refine zx_T.j (i := .goto 55) (k := 3) (pc' := 67) (st' := []) (pc := 12) rfl rfl rfl rfl rfl ?_
    have i25 : zv_i h30 25 = zv_i h 25 := (zv_wi w31 rfl)
    have i26 : zv_i h30 26 = zv_i h30 26 := rfl
    have a61 : ∀ j, 0 ≤ j → zv_a h30 61 j = zv_a h 61 j := fun j hj => by rw [zv_wa w31 rfl j]
    exact zr_vr (pc := 67) rfl rfl ⟨ih30, (w31.wd rfl : zb_W [(44, 25), (44, 26)] h _), rfl, by dsimp only; exact zt_pop1 (by first | exact Or.inl ⟨by omega, by omega, by omega⟩ | exact Or.inr (Or.inl ⟨by omega, by omega, by omega, by omega⟩) | exact Or.inr (Or.inr ⟨by omega, by omega, by omega, by omega⟩)) (fun j j0 => by rw [a61 j j0])⟩

set_option maxRecDepth 100000 in
set_option maxHeartbeats 4000000 in
theorem zm_pop1F {h : zx_H} (hI : zb_I zc_H h)  (hr : zv_i h 26 = 0) (n8 : ¬ zv_a h 61 8 = 3) : zx_T zp_P 2 zp_m164 0 [(0, .ref 44), (1, .int (zI (1)))] [] h (zr_V [(44, 25), (44, 26)] h (fun h' => zt_eq (zv_i h' 26, zv_i h' 25, zv_a h' 61) (zs_pop2 (0, zv_i h 25, zv_a h 61)))) := by
  have hn : zv_i h 25 = 1 → ¬ zv_a h 61 (zv_i h 25 + 7) = 3 := fun z => by rw [z]; exact n8
  have hS := zv_ri hI (k := 25) rfl
  refine zx_T.l (i := .aload_n 0) (k := 1) (v := .ref 44) (pc := 0) rfl rfl rfl ?_
  refine zr_gi (k := 25) (lo := 0) (hi := 6) (e := zv_i h 25) (pc := 1) rfl rfl rfl hI rfl (fun g1a g1b => ?_)
  refine zr_i1 (x := zv_i h 25) (t := 15) (pc := 4) rfl rfl (by omega) (by omega) (fun (c2 : ¬ (zv_i h 25) = 0) => ?_) (fun (c2 : ¬ (¬ (zv_i h 25) = 0)) => ?_)
  · refine zx_T.l (i := .aload_n 0) (k := 1) (v := .ref 44) (pc := 15) rfl rfl rfl ?_
    refine zr_iv (cj := 160) (q' := zp_m160) (As := []) (rest := []) (pc := 16) rfl rfl rfl rfl rfl rfl (Nat.le_of_ble_eq_true rfl) rfl (Nat.le_of_ble_eq_true rfl) hI ((zm_top (h := h) hI  ).up (Nat.le_of_ble_eq_true rfl)) ?_
    rintro r3 h6 ⟨h6q, v4, r3q, x5⟩
    subst h6q r3q
    try dsimp only at x5
    have tp := x5.2.2
    show zx_T zp_P 2 zp_m164 19 [(0, .ref 44), (1, .int (zI (1)))] [.int (zI (v4))] h _
    refine zx_T.s (i := .iconst 3) (k := 1) (st' := [.int (zI (3)), .int (zI (v4))]) (pc := 19) rfl rfl ?_
    refine zr_i2 (x := v4) (y := 3) (t := 48) (pc := 20) rfl rfl (by omega) (by omega) (by omega) (by omega) (fun (c7 : ¬ v4 = 3) => ?_) (fun (c7 : ¬ (¬ v4 = 3)) => ?_)
    · refine zx_T.l (i := .aload_n 0) (k := 1) (v := .ref 44) (pc := 48) rfl rfl rfl ?_
      refine zx_T.s (i := .dup) (k := 1) (st' := [.ref 44, .ref 44]) (pc := 49) rfl rfl ?_
      refine zr_gi (k := 25) (lo := 0) (hi := 6) (e := zv_i h 25) (pc := 50) rfl rfl rfl hI rfl (fun g8a g8b => ?_)
      refine zx_T.s (i := .iconst 1) (k := 1) (st' := [.int (zI (1)), .int (zI (zv_i h 25)), .ref 44]) (pc := 53) rfl rfl ?_
      refine zr_sub (x := zv_i h 25) (y := 1) (e := zv_i h 25 - 1) (pc := 54) rfl (by omega) ?_
      refine zr_pi (k := 25) (lo := 0) (hi := 6) (e := zv_i h 25 - 1) (pc := 55) rfl rfl rfl rfl rfl rfl hI (by omega) (by omega) (fun h9 ih9 w10 e11 => ?_)
      refine zx_T.l (i := .iload_n 1) (k := 1) (v := .int (zI (1))) (pc := 58) rfl rfl rfl ?_
      refine zr_i1 (x := 1) (t := 67) (pc := 59) rfl rfl (by omega) (by omega) (fun (c12 : 1 = 0) => absurd c12 (by decide)) (fun _ => ?_)
      refine zx_T.l (i := .aload_n 0) (k := 1) (v := .ref 44) (pc := 62) rfl rfl rfl ?_
      refine zx_T.s (i := .iconst 0) (k := 1) (st' := [.int (zI (0)), .ref 44]) (pc := 63) rfl rfl ?_
      have y13 : zv_a h9 61 8 = zv_a h 61 8 := (zv_wa w10 rfl 8)
      have y14 : zv_i h9 26 = zv_i h 26 := (zv_wi w10 rfl)
      refine zr_iv (cj := 164) (q' := zp_m164) (As := [.int (zI (0))]) (rest := []) (pc := 64) rfl rfl rfl rfl rfl rfl (Nat.le_of_ble_eq_true rfl) rfl (Nat.le_of_ble_eq_true rfl) ih9 ((zm_pop0F (h := h9) ih9  (by omega) (by omega)).up (Nat.le_of_ble_eq_true rfl)) ?_
      rintro r15 h18 ⟨ih18, w19, r15q, x17⟩
      subst r15q
      try dsimp only at x17
      have qh18 := x17
      show zx_T zp_P 2 zp_m164 67 [(0, .ref 44), (1, .int (zI (1)))] [] h18 _
      have i25 : zv_i h18 25 = zv_i h18 25 := rfl
      have i26 : zv_i h18 26 = zv_i h18 26 := rfl
      have a61 : ∀ j, 0 ≤ j → zv_a h18 61 j = zv_a h 61 j := fun j hj => by rw [zv_wa w19 rfl j, zv_wa w10 rfl j]
      exact zr_vr (pc := 67) rfl rfl ⟨ih18, ((w10.wd rfl : zb_W [(44, 25), (44, 26)] h _).tr (w19.wd rfl)), rfl, by dsimp only; exact zt_pop2 (Or.inr (Or.inr ⟨by omega, by omega, qh18.tr (zs_pop1_eq ⟨rfl, by show zv_i h9 25 = _; omega, fun j _ => zv_wa w10 rfl j⟩ (zv_ri ih9 (k := 25) rfl).1)⟩))⟩
    · refine zx_T.l (i := .iload_n 1) (k := 1) (v := .int (zI (1))) (pc := 23) rfl rfl rfl ?_
      refine zr_i1 (x := 1) (t := 40) (pc := 24) rfl rfl (by omega) (by omega) (fun (c23 : 1 = 0) => absurd c23 (by decide)) (fun _ => ?_)
      refine zx_T.l (i := .aload_n 0) (k := 1) (v := .ref 44) (pc := 27) rfl rfl rfl ?_
      refine zx_T.s (i := .dup) (k := 1) (st' := [.ref 44, .ref 44]) (pc := 28) rfl rfl ?_
      refine zr_gi (k := 25) (lo := 0) (hi := 6) (e := zv_i h 25) (pc := 29) rfl rfl rfl hI rfl (fun g24a g24b => ?_)
      refine zx_T.s (i := .iconst 2) (k := 1) (st' := [.int (zI (2)), .int (zI (zv_i h 25)), .ref 44]) (pc := 32) rfl rfl ?_
      refine zr_sub (x := zv_i h 25) (y := 2) (e := zv_i h 25 - 2) (pc := 33) rfl (by omega) ?_
      refine zr_pi (k := 25) (lo := 0) (hi := 6) (e := zv_i h 25 - 2) (pc := 34) rfl rfl rfl rfl rfl rfl hI (by omega) (by omega) (fun h25 ih25 w26 e27 => ?_)
      refine zx_T.j (i := .goto 30) (k := 3) (pc' := 67) (st' := []) (pc := 37) rfl rfl rfl rfl rfl ?_
      have i25 : zv_i h25 25 = zv_i h 25 - 2 := e27
      have i26 : zv_i h25 26 = zv_i h 26 := (zv_wi w26 rfl)
      have a61 : ∀ j, 0 ≤ j → zv_a h25 61 j = zv_a h 61 j := fun j hj => by rw [zv_wa w26 rfl j]
      exact zr_vr (pc := 67) rfl rfl ⟨ih25, (w26.wd rfl : zb_W [(44, 25), (44, 26)] h _), rfl, by dsimp only; exact zt_pop2 (by first | exact Or.inl ⟨by omega, by omega, by omega, fun j j0 => by rw [a61 j j0]⟩ | exact Or.inr (Or.inl ⟨by omega, by omega, by omega, by omega, fun j j0 => by rw [a61 j j0]⟩))⟩
  · refine zx_T.l (i := .aload_n 0) (k := 1) (v := .ref 44) (pc := 7) rfl rfl rfl ?_
    refine zx_T.s (i := .iconst 2) (k := 1) (st' := [.int (zI (2)), .ref 44]) (pc := 8) rfl rfl ?_
    refine zr_iv (cj := 159) (q' := zp_m159) (As := [.int (zI (2))]) (rest := []) (pc := 9) rfl rfl rfl rfl rfl rfl (Nat.le_of_ble_eq_true rfl) rfl (Nat.le_of_ble_eq_true rfl) hI ((zm_fails (h := h) hI (w := 2) (by omega) (by omega)).up (Nat.le_of_ble_eq_true rfl)) ?_
    rintro r32 h35 ⟨ih35, w36, r32q, x34⟩
    subst r32q
    try dsimp only at x34
    show zx_T zp_P 2 zp_m164 12 [(0, .ref 44), (1, .int (zI (1)))] [] h35 _
    refine zx_T.j (i := .goto 55) (k := 3) (pc' := 67) (st' := []) (pc := 12) rfl rfl rfl rfl rfl ?_
    have i25 : zv_i h35 25 = zv_i h 25 := (zv_wi w36 rfl)
    have i26 : zv_i h35 26 = zv_i h35 26 := rfl
    have a61 : ∀ j, 0 ≤ j → zv_a h35 61 j = zv_a h 61 j := fun j hj => by rw [zv_wa w36 rfl j]
    exact zr_vr (pc := 67) rfl rfl ⟨ih35, (w36.wd rfl : zb_W [(44, 25), (44, 26)] h _), rfl, by dsimp only; exact zt_pop2 (by first | exact Or.inl ⟨by omega, by omega, by omega, fun j j0 => by rw [a61 j j0]⟩ | exact Or.inr (Or.inl ⟨by omega, by omega, by omega, by omega, fun j j0 => by rw [a61 j j0]⟩))⟩

set_option maxRecDepth 100000 in
set_option maxHeartbeats 4000000 in
theorem zm_loadF {h : zx_H} (hI : zb_I zc_H h) {a : Int} (a1 : -2147483648 ≤ a) (a2 : a ≤ 2147483647) (hr : zv_i h 26 = 0) (n8 : ¬ zv_a h 61 8 = 3) : zx_T zp_P 2 zp_m165 0 [(0, .ref 44), (1, .int (zI (a)))] [] h (zr_V [(44, 25), (44, 26), (61, 0)] h (fun h' => zt_eq (zv_i h' 26, zv_i h' 25, zv_a h' 61) (zs_load a (0, zv_i h 25, zv_a h 61)) ∧ ¬ zv_a h' 61 8 = 3)) := by
  refine zx_T.l (i := .iload_n 1) (k := 1) (v := .int (zI (a))) (pc := 0) rfl rfl rfl ?_
  refine zx_T.s (i := .iconst 0) (k := 1) (st' := [.int (zI (0)), .int (zI (a))]) (pc := 1) rfl rfl ?_
  refine zx_T.s (i := .bipush 7) (k := 2) (st' := [.int (zI (7)), .int (zI (0)), .int (zI (a))]) (pc := 2) rfl rfl ?_
  refine zr_is (cj := 155) (q' := zp_m155) (As := [.int (zI (a)), .int (zI (0)), .int (zI (7))]) (rest := []) (pc := 4) rfl rfl rfl rfl rfl rfl (Nat.le_of_ble_eq_true rfl) rfl (Nat.le_of_ble_eq_true rfl) rfl ((zm_in (h := h) hI (v := a) (l := 0) (u := 7) (by omega) (by omega) (by omega) (by omega) (by omega) (by omega)).up (Nat.le_of_ble_eq_true rfl)) ?_
  rintro r1 h4 ⟨h4q, v2, r1q, x3⟩
  subst h4q r1q
  try dsimp only at x3
  show zx_T zp_P 2 zp_m165 7 [(0, .ref 44), (1, .int (zI (a)))] [.int (zI (v2))] h _
  refine zr_i1 (x := v2) (t := 18) (pc := 7) rfl rfl (by omega) (by omega) (fun (c5 : ¬ v2 = 0) => ?_) (fun (c5 : ¬ (¬ v2 = 0)) => ?_)
  · refine zx_T.l (i := .aload_n 0) (k := 1) (v := .ref 44) (pc := 18) rfl rfl rfl ?_
    refine zr_gr (k := 24) (b := 61) (pc := 19) rfl rfl rfl hI ?_
    refine zx_T.l (i := .iload_n 1) (k := 1) (v := .int (zI (a))) (pc := 22) rfl rfl rfl ?_
    refine zr_al (n := 14) (lo := 0) (hi := 8) (e := zv_a h 61 a) (pc := 23) rfl rfl rfl hI (by omega) (by omega) rfl (fun g6a g6b => ?_)
    refine zr_i1 (x := zv_a h 61 a) (t := 37) (pc := 24) rfl rfl (by omega) (by omega) (fun (c7 : (zv_a h 61 a) = 0) => ?_) (fun (c7 : ¬ ((zv_a h 61 a) = 0)) => ?_)
    · refine zx_T.l (i := .aload_n 0) (k := 1) (v := .ref 44) (pc := 37) rfl rfl rfl ?_
      refine zx_T.s (i := .iconst 1) (k := 1) (st' := [.int (zI (1)), .ref 44]) (pc := 38) rfl rfl ?_
      refine zr_iv (cj := 159) (q' := zp_m159) (As := [.int (zI (1))]) (rest := []) (pc := 39) rfl rfl rfl rfl rfl rfl (Nat.le_of_ble_eq_true rfl) rfl (Nat.le_of_ble_eq_true rfl) hI ((zm_fails (h := h) hI (w := 1) (by omega) (by omega)).up (Nat.le_of_ble_eq_true rfl)) ?_
      rintro r9 h12 ⟨ih12, w13, r9q, x11⟩
      subst r9q
      try dsimp only at x11
      show zx_T zp_P 2 zp_m165 42 [(0, .ref 44), (1, .int (zI (a)))] [] h12 _
      refine zx_T.j (i := .goto 13) (k := 3) (pc' := 55) (st' := []) (pc := 42) rfl rfl rfl rfl rfl ?_
      have i25 : zv_i h12 25 = zv_i h 25 := (zv_wi w13 rfl)
      have i26 : zv_i h12 26 = zv_i h12 26 := rfl
      have a61 : ∀ j, 0 ≤ j → zv_a h12 61 j = zv_a h 61 j := fun j hj => by rw [zv_wa w13 rfl j]
      have y17 : zv_a h12 61 8 = zv_a h 61 8 := (zv_wa w13 rfl 8)
      exact zr_vr (pc := 55) rfl rfl ⟨ih12, (w13.wd rfl : zb_W [(44, 25), (44, 26), (61, 0)] h _), rfl, by dsimp only; exact ⟨by exact zt_load (by first | exact Or.inl ⟨by omega, by omega, by omega, fun j j0 => by rw [a61 j j0]⟩ | exact Or.inr (Or.inl ⟨by omega, by omega, by omega, by omega, fun j j0 => by rw [a61 j j0]⟩)), by omega⟩⟩
    · refine zx_T.l (i := .aload_n 0) (k := 1) (v := .ref 44) (pc := 27) rfl rfl rfl ?_
      refine zr_gr (k := 24) (b := 61) (pc := 28) rfl rfl rfl hI ?_
      refine zx_T.l (i := .iload_n 1) (k := 1) (v := .int (zI (a))) (pc := 31) rfl rfl rfl ?_
      refine zr_al (n := 14) (lo := 0) (hi := 8) (e := zv_a h 61 a) (pc := 32) rfl rfl rfl hI (by omega) (by omega) rfl (fun g18a g18b => ?_)
      refine zx_T.s (i := .iconst 3) (k := 1) (st' := [.int (zI (3)), .int (zI (zv_a h 61 a))]) (pc := 33) rfl rfl ?_
      refine zr_i2 (x := zv_a h 61 a) (y := 3) (t := 45) (pc := 34) rfl rfl (by omega) (by omega) (by omega) (by omega) (fun (c19 : ¬ (zv_a h 61 a) = 3) => ?_) (fun (c19 : ¬ (¬ (zv_a h 61 a) = 3)) => ?_)
      · refine zx_T.l (i := .aload_n 0) (k := 1) (v := .ref 44) (pc := 45) rfl rfl rfl ?_
        refine zx_T.l (i := .aload_n 0) (k := 1) (v := .ref 44) (pc := 46) rfl rfl rfl ?_
        refine zr_gr (k := 24) (b := 61) (pc := 47) rfl rfl rfl hI ?_
        refine zx_T.l (i := .iload_n 1) (k := 1) (v := .int (zI (a))) (pc := 50) rfl rfl rfl ?_
        refine zr_al (n := 14) (lo := 0) (hi := 8) (e := zv_a h 61 a) (pc := 51) rfl rfl rfl hI (by omega) (by omega) rfl (fun g20a g20b => ?_)
        refine zr_iv (cj := 163) (q' := zp_m163) (As := [.int (zI (zv_a h 61 a))]) (rest := []) (pc := 52) rfl rfl rfl rfl rfl rfl (Nat.le_of_ble_eq_true rfl) rfl (Nat.le_of_ble_eq_true rfl) hI ((zm_pushF (h := h) hI (k := zv_a h 61 a) (by omega) (by omega) (by omega)).up (Nat.le_of_ble_eq_true rfl)) ?_
        rintro r22 h25 ⟨ih25, w26, r22q, x24⟩
        subst r22q
        try dsimp only at x24
        have qh25 := x24.1
        have p8 := x24.2 (by omega)
        show zx_T zp_P 2 zp_m165 55 [(0, .ref 44), (1, .int (zI (a)))] [] h25 _
        have i25 : zv_i h25 25 = zv_i h25 25 := rfl
        have i26 : zv_i h25 26 = zv_i h25 26 := rfl
        have a61 : ∀ j, 0 ≤ j → zv_a h25 61 j = zv_a h25 61 j := fun j hj => rfl
        exact zr_vr (pc := 55) rfl rfl ⟨ih25, (w26.wd rfl : zb_W [(44, 25), (44, 26), (61, 0)] h _), rfl, by dsimp only; exact ⟨by exact zt_load (Or.inr (Or.inr ⟨by omega, by omega, by have z := qh25; rw [hr] at z; exact z⟩)), by omega⟩⟩
      · refine zx_T.l (i := .aload_n 0) (k := 1) (v := .ref 44) (pc := 37) rfl rfl rfl ?_
        refine zx_T.s (i := .iconst 1) (k := 1) (st' := [.int (zI (1)), .ref 44]) (pc := 38) rfl rfl ?_
        refine zr_iv (cj := 159) (q' := zp_m159) (As := [.int (zI (1))]) (rest := []) (pc := 39) rfl rfl rfl rfl rfl rfl (Nat.le_of_ble_eq_true rfl) rfl (Nat.le_of_ble_eq_true rfl) hI ((zm_fails (h := h) hI (w := 1) (by omega) (by omega)).up (Nat.le_of_ble_eq_true rfl)) ?_
        rintro r32 h35 ⟨ih35, w36, r32q, x34⟩
        subst r32q
        try dsimp only at x34
        show zx_T zp_P 2 zp_m165 42 [(0, .ref 44), (1, .int (zI (a)))] [] h35 _
        refine zx_T.j (i := .goto 13) (k := 3) (pc' := 55) (st' := []) (pc := 42) rfl rfl rfl rfl rfl ?_
        have i25 : zv_i h35 25 = zv_i h 25 := (zv_wi w36 rfl)
        have i26 : zv_i h35 26 = zv_i h35 26 := rfl
        have a61 : ∀ j, 0 ≤ j → zv_a h35 61 j = zv_a h 61 j := fun j hj => by rw [zv_wa w36 rfl j]
        have y40 : zv_a h35 61 8 = zv_a h 61 8 := (zv_wa w36 rfl 8)
        exact zr_vr (pc := 55) rfl rfl ⟨ih35, (w36.wd rfl : zb_W [(44, 25), (44, 26), (61, 0)] h _), rfl, by dsimp only; exact ⟨by exact zt_load (by first | exact Or.inl ⟨by omega, by omega, by omega, fun j j0 => by rw [a61 j j0]⟩ | exact Or.inr (Or.inl ⟨by omega, by omega, by omega, by omega, fun j j0 => by rw [a61 j j0]⟩)), by omega⟩⟩
  · refine zx_T.l (i := .aload_n 0) (k := 1) (v := .ref 44) (pc := 10) rfl rfl rfl ?_
    refine zx_T.s (i := .iconst 4) (k := 1) (st' := [.int (zI (4)), .ref 44]) (pc := 11) rfl rfl ?_
    refine zr_iv (cj := 159) (q' := zp_m159) (As := [.int (zI (4))]) (rest := []) (pc := 12) rfl rfl rfl rfl rfl rfl (Nat.le_of_ble_eq_true rfl) rfl (Nat.le_of_ble_eq_true rfl) hI ((zm_fails (h := h) hI (w := 4) (by omega) (by omega)).up (Nat.le_of_ble_eq_true rfl)) ?_
    rintro r42 h45 ⟨ih45, w46, r42q, x44⟩
    subst r42q
    try dsimp only at x44
    show zx_T zp_P 2 zp_m165 15 [(0, .ref 44), (1, .int (zI (a)))] [] h45 _
    refine zx_T.j (i := .goto 40) (k := 3) (pc' := 55) (st' := []) (pc := 15) rfl rfl rfl rfl rfl ?_
    have i25 : zv_i h45 25 = zv_i h 25 := (zv_wi w46 rfl)
    have i26 : zv_i h45 26 = zv_i h45 26 := rfl
    have a61 : ∀ j, 0 ≤ j → zv_a h45 61 j = zv_a h 61 j := fun j hj => by rw [zv_wa w46 rfl j]
    have y50 : zv_a h45 61 8 = zv_a h 61 8 := (zv_wa w46 rfl 8)
    exact zr_vr (pc := 55) rfl rfl ⟨ih45, (w46.wd rfl : zb_W [(44, 25), (44, 26), (61, 0)] h _), rfl, by dsimp only; exact ⟨by exact zt_load (by first | exact Or.inl ⟨by omega, by omega, by omega, fun j j0 => by rw [a61 j j0]⟩ | exact Or.inr (Or.inl ⟨by omega, by omega, by omega, by omega, fun j j0 => by rw [a61 j j0]⟩)), by omega⟩⟩

set_option maxRecDepth 100000 in
set_option maxHeartbeats 4000000 in
theorem zm_wholeF_61_L {h : zx_H} (hI : zb_I zc_H h) {f : Int} {m : Int} (f1 : 0 ≤ f) (m1 : 0 ≤ m) (fm : f + m ≤ 14) (n : Nat) : (∀ {h2 : zx_H} {k : Int} (hI2 : zb_I zc_H h2) (k1 : f ≤ k) (k2 : k ≤ f + m) (hw : zb_W [(61, 0)] h h2) (hj : ∀ j, 0 ≤ j → (j < k → zv_a h2 61 j = zs_wh f (f + m) (zv_a h 61) j) ∧ (k ≤ j → zv_a h2 61 j = zv_a h 61 j)) (nb : f < k → ¬ (zv_a h 61 (k - 1) = 2 ∧ zv_a h 61 k = 3) ∨ f + m ≤ k), (f + m - k : Int).toNat < n → zx_T zp_P 0 zp_m158 2 [(0, .ref 61), (1, .int (zI (f))), (2, .int (zI (m))), (3, .int (zI (k)))] [] h2 (zr_V [(61, 0)] h (fun h' => ∀ j, 0 ≤ j → zv_a h' 61 j = zs_wh f (f + m) (zv_a h 61) j))) := by
  induction n with
  | zero => exact fun _ _ _ _ _ _ hm => absurd hm (Nat.not_lt_zero _)
  | succ n ih =>
    intro h2 k hI2 k1 k2 hw hj nb hm
    refine zx_T.l (i := .iload_n 3) (k := 1) (v := .int (zI (k))) (pc := 2) rfl rfl rfl ?_
    refine zx_T.l (i := .iload_n 1) (k := 1) (v := .int (zI (f))) (pc := 3) rfl rfl rfl ?_
    refine zx_T.l (i := .iload_n 2) (k := 1) (v := .int (zI (m))) (pc := 4) rfl rfl rfl ?_
    refine zr_add (x := f) (y := m) (e := f + m) (pc := 5) rfl (by omega) ?_
    refine zr_i2 (x := k) (y := f + m) (t := 70) (pc := 6) rfl rfl (by omega) (by omega) (by omega) (by omega) (fun (c1 : (f + m) ≤ k) => ?_) (fun (c1 : ¬ ((f + m) ≤ k)) => ?_)
    · exact zr_vr (pc := 70) rfl rfl ⟨hI2, (hw.wd rfl : zb_W [(61, 0)] h _), rfl, by dsimp only; exact fun j j0 => by by_cases z : j < k; exact (hj j j0).1 z; rw [(hj j j0).2 (by omega)]; unfold zs_wh; rw [if_pos (Or.inr (by omega))]⟩
    · refine zx_T.l (i := .aload_n 0) (k := 1) (v := .ref 61) (pc := 9) rfl rfl rfl ?_
      refine zx_T.l (i := .iload_n 3) (k := 1) (v := .int (zI (k))) (pc := 10) rfl rfl rfl ?_
      refine zr_al (n := 14) (lo := 0) (hi := 8) (e := zv_a h2 61 k) (pc := 11) rfl rfl rfl hI2 (by omega) (by omega) rfl (fun g2a g2b => ?_)
      refine zx_T.s (i := .iconst 2) (k := 1) (st' := [.int (zI (2)), .int (zI (zv_a h2 61 k))]) (pc := 12) rfl rfl ?_
      refine zr_i2 (x := zv_a h2 61 k) (y := 2) (t := 40) (pc := 13) rfl rfl (by omega) (by omega) (by omega) (by omega) (fun (c3 : ¬ (zv_a h2 61 k) = 2) => ?_) (fun (c3 : ¬ (¬ (zv_a h2 61 k) = 2)) => ?_)
      · refine zx_T.l (i := .aload_n 0) (k := 1) (v := .ref 61) (pc := 40) rfl rfl rfl ?_
        refine zx_T.l (i := .iload_n 3) (k := 1) (v := .int (zI (k))) (pc := 41) rfl rfl rfl ?_
        refine zx_T.l (i := .aload_n 0) (k := 1) (v := .ref 61) (pc := 42) rfl rfl rfl ?_
        refine zx_T.l (i := .iload_n 3) (k := 1) (v := .int (zI (k))) (pc := 43) rfl rfl rfl ?_
        refine zr_al (n := 14) (lo := 0) (hi := 8) (e := zv_a h2 61 k) (pc := 44) rfl rfl rfl hI2 (by omega) (by omega) rfl (fun g4a g4b => ?_)
        refine zx_T.s (i := .iconst 2) (k := 1) (st' := [.int (zI (2)), .int (zI (zv_a h2 61 k)), .int (zI (k)), .ref 61]) (pc := 45) rfl rfl ?_
        refine zr_i2 (x := zv_a h2 61 k) (y := 2) (t := 56) (pc := 46) rfl rfl (by omega) (by omega) (by omega) (by omega) (fun (c5 : (zv_a h2 61 k) = 2) => False.elim (by omega)) (fun (c5 : ¬ ((zv_a h2 61 k) = 2)) => ?_)
        refine zx_T.l (i := .aload_n 0) (k := 1) (v := .ref 61) (pc := 49) rfl rfl rfl ?_
        refine zx_T.l (i := .iload_n 3) (k := 1) (v := .int (zI (k))) (pc := 50) rfl rfl rfl ?_
        refine zr_al (n := 14) (lo := 0) (hi := 8) (e := zv_a h2 61 k) (pc := 51) rfl rfl rfl hI2 (by omega) (by omega) rfl (fun g6a g6b => ?_)
        refine zx_T.s (i := .iconst 3) (k := 1) (st' := [.int (zI (3)), .int (zI (zv_a h2 61 k)), .int (zI (k)), .ref 61]) (pc := 52) rfl rfl ?_
        refine zr_i2 (x := zv_a h2 61 k) (y := 3) (t := 60) (pc := 53) rfl rfl (by omega) (by omega) (by omega) (by omega) (fun (c7 : ¬ (zv_a h2 61 k) = 3) => ?_) (fun (c7 : ¬ (¬ (zv_a h2 61 k) = 3)) => ?_)
        · refine zx_T.l (i := .aload_n 0) (k := 1) (v := .ref 61) (pc := 60) rfl rfl rfl ?_
          refine zx_T.l (i := .iload_n 3) (k := 1) (v := .int (zI (k))) (pc := 61) rfl rfl rfl ?_
          refine zr_al (n := 14) (lo := 0) (hi := 8) (e := zv_a h2 61 k) (pc := 62) rfl rfl rfl hI2 (by omega) (by omega) rfl (fun g8a g8b => ?_)
          refine zr_as (n := 14) (lo := 0) (hi := 8) (e := zv_a h2 61 k) (pc := 63) rfl rfl rfl rfl hI2 (by omega) (by omega) (by omega) (by omega) (fun h9 ih9 w10 s11 => ?_)
          refine zr_inc (x := k) (n := 1) (y := k + 1) (ls' := [(3, .int (zI (k + 1))), (0, .ref 61), (1, .int (zI (f))), (2, .int (zI (m)))]) (pc := 64) rfl rfl rfl (by omega) rfl ?_
          refine zx_T.j (i := .goto (-65)) (k := 3) (pc' := 2) (st' := []) (pc := 67) rfl rfl rfl rfl rfl ?_
          have a61 : ∀ j, 0 ≤ j → zv_a h9 61 j = if j = k then zv_a h2 61 k else zv_a h2 61 j := fun j hj => by rw [s11 j hj]
          refine zx_T.lk (ls' := [(0, .ref 61), (1, .int (zI (f))), (2, .int (zI (m))), (3, .int (zI (k + 1)))]) rfl ⟨rfl, rfl, rfl, rfl, trivial⟩ ?_
          exact ih (h2 := h9) (k := k + 1) ih9 (by omega) (by omega) ((hw.wd rfl : zb_W [(61, 0)] h _).tr (w10.wd rfl)) (zs_wh_s (M' := zv_a h9 61) k1 (by omega) hj f1 (fun z => (nb z).resolve_right (by omega)) (by have b := (hj k (by omega)).2 (by omega); have b2 := (hj (k + 1) (by omega)).2 (by omega); omega) (fun j j0 => by have b := (hj k (by omega)).2 (by omega); rw [a61 j j0]; split <;> first | rfl | (split <;> omega))).1 (zs_wh_s (M' := zv_a h9 61) k1 (by omega) hj f1 (fun z => (nb z).resolve_right (by omega)) (by have b := (hj k (by omega)).2 (by omega); have b2 := (hj (k + 1) (by omega)).2 (by omega); omega) (fun j j0 => by have b := (hj k (by omega)).2 (by omega); rw [a61 j j0]; split <;> first | rfl | (split <;> omega))).2 (by omega)
        · refine zx_T.s (i := .iconst 0) (k := 1) (st' := [.int (zI (0)), .int (zI (k)), .ref 61]) (pc := 56) rfl rfl ?_
          refine zx_T.j (i := .goto 6) (k := 3) (pc' := 63) (st' := [.int (zI (0)), .int (zI (k)), .ref 61]) (pc := 57) rfl rfl rfl rfl rfl ?_
          refine zr_as (n := 14) (lo := 0) (hi := 8) (e := 0) (pc := 63) rfl rfl rfl rfl hI2 (by omega) (by omega) (by omega) (by omega) (fun h13 ih13 w14 s15 => ?_)
          refine zr_inc (x := k) (n := 1) (y := k + 1) (ls' := [(3, .int (zI (k + 1))), (0, .ref 61), (1, .int (zI (f))), (2, .int (zI (m)))]) (pc := 64) rfl rfl rfl (by omega) rfl ?_
          refine zx_T.j (i := .goto (-65)) (k := 3) (pc' := 2) (st' := []) (pc := 67) rfl rfl rfl rfl rfl ?_
          have a61 : ∀ j, 0 ≤ j → zv_a h13 61 j = if j = k then 0 else zv_a h2 61 j := fun j hj => by rw [s15 j hj]
          refine zx_T.lk (ls' := [(0, .ref 61), (1, .int (zI (f))), (2, .int (zI (m))), (3, .int (zI (k + 1)))]) rfl ⟨rfl, rfl, rfl, rfl, trivial⟩ ?_
          exact ih (h2 := h13) (k := k + 1) ih13 (by omega) (by omega) ((hw.wd rfl : zb_W [(61, 0)] h _).tr (w14.wd rfl)) (zs_wh_s (M' := zv_a h13 61) k1 (by omega) hj f1 (fun z => (nb z).resolve_right (by omega)) (by have b := (hj k (by omega)).2 (by omega); have b2 := (hj (k + 1) (by omega)).2 (by omega); omega) (fun j j0 => by have b := (hj k (by omega)).2 (by omega); rw [a61 j j0]; split <;> first | rfl | (split <;> omega))).1 (zs_wh_s (M' := zv_a h13 61) k1 (by omega) hj f1 (fun z => (nb z).resolve_right (by omega)) (by have b := (hj k (by omega)).2 (by omega); have b2 := (hj (k + 1) (by omega)).2 (by omega); omega) (fun j j0 => by have b := (hj k (by omega)).2 (by omega); rw [a61 j j0]; split <;> first | rfl | (split <;> omega))).2 (by omega)
      · refine zx_T.l (i := .iload_n 3) (k := 1) (v := .int (zI (k))) (pc := 16) rfl rfl rfl ?_
        refine zx_T.s (i := .iconst 1) (k := 1) (st' := [.int (zI (1)), .int (zI (k))]) (pc := 17) rfl rfl ?_
        refine zr_add (x := k) (y := 1) (e := k + 1) (pc := 18) rfl (by omega) ?_
        refine zx_T.l (i := .iload_n 1) (k := 1) (v := .int (zI (f))) (pc := 19) rfl rfl rfl ?_
        refine zx_T.l (i := .iload_n 2) (k := 1) (v := .int (zI (m))) (pc := 20) rfl rfl rfl ?_
        refine zr_add (x := f) (y := m) (e := f + m) (pc := 21) rfl (by omega) ?_
        refine zr_i2 (x := k + 1) (y := f + m) (t := 40) (pc := 22) rfl rfl (by omega) (by omega) (by omega) (by omega) (fun (c17 : (f + m) ≤ (k + 1)) => ?_) (fun (c17 : ¬ ((f + m) ≤ (k + 1))) => ?_)
        · refine zx_T.l (i := .aload_n 0) (k := 1) (v := .ref 61) (pc := 40) rfl rfl rfl ?_
          refine zx_T.l (i := .iload_n 3) (k := 1) (v := .int (zI (k))) (pc := 41) rfl rfl rfl ?_
          refine zx_T.l (i := .aload_n 0) (k := 1) (v := .ref 61) (pc := 42) rfl rfl rfl ?_
          refine zx_T.l (i := .iload_n 3) (k := 1) (v := .int (zI (k))) (pc := 43) rfl rfl rfl ?_
          refine zr_al (n := 14) (lo := 0) (hi := 8) (e := zv_a h2 61 k) (pc := 44) rfl rfl rfl hI2 (by omega) (by omega) rfl (fun g18a g18b => ?_)
          refine zx_T.s (i := .iconst 2) (k := 1) (st' := [.int (zI (2)), .int (zI (zv_a h2 61 k)), .int (zI (k)), .ref 61]) (pc := 45) rfl rfl ?_
          refine zr_i2 (x := zv_a h2 61 k) (y := 2) (t := 56) (pc := 46) rfl rfl (by omega) (by omega) (by omega) (by omega) (fun (c19 : (zv_a h2 61 k) = 2) => ?_) (fun (c19 : ¬ ((zv_a h2 61 k) = 2)) => False.elim (by omega))
          refine zx_T.s (i := .iconst 0) (k := 1) (st' := [.int (zI (0)), .int (zI (k)), .ref 61]) (pc := 56) rfl rfl ?_
          refine zx_T.j (i := .goto 6) (k := 3) (pc' := 63) (st' := [.int (zI (0)), .int (zI (k)), .ref 61]) (pc := 57) rfl rfl rfl rfl rfl ?_
          refine zr_as (n := 14) (lo := 0) (hi := 8) (e := 0) (pc := 63) rfl rfl rfl rfl hI2 (by omega) (by omega) (by omega) (by omega) (fun h20 ih20 w21 s22 => ?_)
          refine zr_inc (x := k) (n := 1) (y := k + 1) (ls' := [(3, .int (zI (k + 1))), (0, .ref 61), (1, .int (zI (f))), (2, .int (zI (m)))]) (pc := 64) rfl rfl rfl (by omega) rfl ?_
          refine zx_T.j (i := .goto (-65)) (k := 3) (pc' := 2) (st' := []) (pc := 67) rfl rfl rfl rfl rfl ?_
          have a61 : ∀ j, 0 ≤ j → zv_a h20 61 j = if j = k then 0 else zv_a h2 61 j := fun j hj => by rw [s22 j hj]
          refine zx_T.lk (ls' := [(0, .ref 61), (1, .int (zI (f))), (2, .int (zI (m))), (3, .int (zI (k + 1)))]) rfl ⟨rfl, rfl, rfl, rfl, trivial⟩ ?_
          exact ih (h2 := h20) (k := k + 1) ih20 (by omega) (by omega) ((hw.wd rfl : zb_W [(61, 0)] h _).tr (w21.wd rfl)) (zs_wh_s (M' := zv_a h20 61) k1 (by omega) hj f1 (fun z => (nb z).resolve_right (by omega)) (by have b := (hj k (by omega)).2 (by omega); have b2 := (hj (k + 1) (by omega)).2 (by omega); omega) (fun j j0 => by have b := (hj k (by omega)).2 (by omega); rw [a61 j j0]; split <;> first | rfl | (split <;> omega))).1 (zs_wh_s (M' := zv_a h20 61) k1 (by omega) hj f1 (fun z => (nb z).resolve_right (by omega)) (by have b := (hj k (by omega)).2 (by omega); have b2 := (hj (k + 1) (by omega)).2 (by omega); omega) (fun j j0 => by have b := (hj k (by omega)).2 (by omega); rw [a61 j j0]; split <;> first | rfl | (split <;> omega))).2 (by omega)
        · refine zx_T.l (i := .aload_n 0) (k := 1) (v := .ref 61) (pc := 25) rfl rfl rfl ?_
          refine zx_T.l (i := .iload_n 3) (k := 1) (v := .int (zI (k))) (pc := 26) rfl rfl rfl ?_
          refine zx_T.s (i := .iconst 1) (k := 1) (st' := [.int (zI (1)), .int (zI (k)), .ref 61]) (pc := 27) rfl rfl ?_
          refine zr_add (x := k) (y := 1) (e := k + 1) (pc := 28) rfl (by omega) ?_
          refine zr_al (n := 14) (lo := 0) (hi := 8) (e := zv_a h2 61 (k + 1)) (pc := 29) rfl rfl rfl hI2 (by omega) (by omega) rfl (fun g24a g24b => ?_)
          refine zx_T.s (i := .iconst 3) (k := 1) (st' := [.int (zI (3)), .int (zI (zv_a h2 61 (k + 1)))]) (pc := 30) rfl rfl ?_
          refine zr_i2 (x := zv_a h2 61 (k + 1)) (y := 3) (t := 40) (pc := 31) rfl rfl (by omega) (by omega) (by omega) (by omega) (fun (c25 : ¬ (zv_a h2 61 (k + 1)) = 3) => ?_) (fun (c25 : ¬ (¬ (zv_a h2 61 (k + 1)) = 3)) => ?_)
          · refine zx_T.l (i := .aload_n 0) (k := 1) (v := .ref 61) (pc := 40) rfl rfl rfl ?_
            refine zx_T.l (i := .iload_n 3) (k := 1) (v := .int (zI (k))) (pc := 41) rfl rfl rfl ?_
            refine zx_T.l (i := .aload_n 0) (k := 1) (v := .ref 61) (pc := 42) rfl rfl rfl ?_
            refine zx_T.l (i := .iload_n 3) (k := 1) (v := .int (zI (k))) (pc := 43) rfl rfl rfl ?_
            refine zr_al (n := 14) (lo := 0) (hi := 8) (e := zv_a h2 61 k) (pc := 44) rfl rfl rfl hI2 (by omega) (by omega) rfl (fun g26a g26b => ?_)
            refine zx_T.s (i := .iconst 2) (k := 1) (st' := [.int (zI (2)), .int (zI (zv_a h2 61 k)), .int (zI (k)), .ref 61]) (pc := 45) rfl rfl ?_
            refine zr_i2 (x := zv_a h2 61 k) (y := 2) (t := 56) (pc := 46) rfl rfl (by omega) (by omega) (by omega) (by omega) (fun (c27 : (zv_a h2 61 k) = 2) => ?_) (fun (c27 : ¬ ((zv_a h2 61 k) = 2)) => False.elim (by omega))
            refine zx_T.s (i := .iconst 0) (k := 1) (st' := [.int (zI (0)), .int (zI (k)), .ref 61]) (pc := 56) rfl rfl ?_
            refine zx_T.j (i := .goto 6) (k := 3) (pc' := 63) (st' := [.int (zI (0)), .int (zI (k)), .ref 61]) (pc := 57) rfl rfl rfl rfl rfl ?_
            refine zr_as (n := 14) (lo := 0) (hi := 8) (e := 0) (pc := 63) rfl rfl rfl rfl hI2 (by omega) (by omega) (by omega) (by omega) (fun h28 ih28 w29 s30 => ?_)
            refine zr_inc (x := k) (n := 1) (y := k + 1) (ls' := [(3, .int (zI (k + 1))), (0, .ref 61), (1, .int (zI (f))), (2, .int (zI (m)))]) (pc := 64) rfl rfl rfl (by omega) rfl ?_
            refine zx_T.j (i := .goto (-65)) (k := 3) (pc' := 2) (st' := []) (pc := 67) rfl rfl rfl rfl rfl ?_
            have a61 : ∀ j, 0 ≤ j → zv_a h28 61 j = if j = k then 0 else zv_a h2 61 j := fun j hj => by rw [s30 j hj]
            refine zx_T.lk (ls' := [(0, .ref 61), (1, .int (zI (f))), (2, .int (zI (m))), (3, .int (zI (k + 1)))]) rfl ⟨rfl, rfl, rfl, rfl, trivial⟩ ?_
            exact ih (h2 := h28) (k := k + 1) ih28 (by omega) (by omega) ((hw.wd rfl : zb_W [(61, 0)] h _).tr (w29.wd rfl)) (zs_wh_s (M' := zv_a h28 61) k1 (by omega) hj f1 (fun z => (nb z).resolve_right (by omega)) (by have b := (hj k (by omega)).2 (by omega); have b2 := (hj (k + 1) (by omega)).2 (by omega); omega) (fun j j0 => by have b := (hj k (by omega)).2 (by omega); rw [a61 j j0]; split <;> first | rfl | (split <;> omega))).1 (zs_wh_s (M' := zv_a h28 61) k1 (by omega) hj f1 (fun z => (nb z).resolve_right (by omega)) (by have b := (hj k (by omega)).2 (by omega); have b2 := (hj (k + 1) (by omega)).2 (by omega); omega) (fun j j0 => by have b := (hj k (by omega)).2 (by omega); rw [a61 j j0]; split <;> first | rfl | (split <;> omega))).2 (by omega)
          · refine zr_inc (x := k) (n := 2) (y := k + 2) (ls' := [(3, .int (zI (k + 2))), (0, .ref 61), (1, .int (zI (f))), (2, .int (zI (m)))]) (pc := 34) rfl rfl rfl (by omega) rfl ?_
            refine zx_T.j (i := .goto (-35)) (k := 3) (pc' := 2) (st' := []) (pc := 37) rfl rfl rfl rfl rfl ?_
            have a61 : ∀ j, 0 ≤ j → zv_a h2 61 j = zv_a h2 61 j := fun j hj => rfl
            refine zx_T.lk (ls' := [(0, .ref 61), (1, .int (zI (f))), (2, .int (zI (m))), (3, .int (zI (k + 2)))]) rfl ⟨rfl, rfl, rfl, rfl, trivial⟩ ?_
            exact ih (h2 := h2) (k := k + 2) hI2 (by omega) (by omega) (hw.wd rfl : zb_W [(61, 0)] h _) (zs_wh_p k1 (by omega) hj f1 (by have b := (hj k (by omega)).2 (by omega); omega) (by have b := (hj (k + 1) (by omega)).2 (by omega); omega)).1 (fun z => Or.inl ((zs_wh_p k1 (by omega) hj f1 (by have b := (hj k (by omega)).2 (by omega); omega) (by have b := (hj (k + 1) (by omega)).2 (by omega); omega)).2 z)) (by omega)
set_option maxRecDepth 100000 in
set_option maxHeartbeats 4000000 in
theorem zm_wholeF_61 {h : zx_H} (hI : zb_I zc_H h) {f : Int} {m : Int} (f1 : 0 ≤ f) (m1 : 0 ≤ m) (fm : f + m ≤ 14) : zx_T zp_P 0 zp_m158 0 [(0, .ref 61), (1, .int (zI (f))), (2, .int (zI (m)))] [] h (zr_V [(61, 0)] h (fun h' => ∀ j, 0 ≤ j → zv_a h' 61 j = zs_wh f (f + m) (zv_a h 61) j)) := by
  refine zx_T.l (i := .iload_n 1) (k := 1) (v := .int (zI (f))) (pc := 0) rfl rfl rfl ?_
  refine zx_T.t (i := .istore_n 3) (k := 1) (ls' := [(3, .int (zI (f))), (0, .ref 61), (1, .int (zI (f))), (2, .int (zI (m)))]) (st' := []) (pc := 1) rfl rfl rfl rfl ?_
  have a61 : ∀ j, 0 ≤ j → zv_a h 61 j = zv_a h 61 j := fun j hj => rfl
  refine zx_T.lk (ls' := [(0, .ref 61), (1, .int (zI (f))), (2, .int (zI (m))), (3, .int (zI (f)))]) rfl ⟨rfl, rfl, rfl, rfl, trivial⟩ ?_
  exact zm_wholeF_61_L (h := h) hI (f := f) (m := m) f1 m1 fm ((f + m - f : Int).toNat + 1) (h2 := h) (k := f) hI (by omega) (by omega) zb_W.rf (fun j j0 => ⟨fun z => (by unfold zs_wh; rw [if_pos (Or.inl z)]), fun _ => rfl⟩) (fun z => absurd z (by omega)) (Nat.lt_succ_self _)

set_option maxRecDepth 100000 in
set_option maxHeartbeats 4000000 in
theorem zm_storeF {h : zx_H} (hI : zb_I zc_H h) {a : Int} (a1 : -2147483648 ≤ a) (a2 : a ≤ 2147483647) (hr : zv_i h 26 = 0) (n8 : ¬ zv_a h 61 8 = 3) : zx_T zp_P 2 zp_m166 0 [(0, .ref 44), (1, .int (zI (a)))] [] h (zr_V [(44, 25), (44, 26), (61, 0)] h (fun h' => zt_eq (zv_i h' 26, zv_i h' 25, zv_a h' 61) (zs_store a (0, zv_i h 25, zv_a h 61)))) := by
  have hn : zv_i h 25 = 1 → ¬ zv_a h 61 (zv_i h 25 + 7) = 3 := fun z => by rw [z]; exact n8
  have hS := zv_ri hI (k := 25) rfl
  refine zx_T.l (i := .aload_n 0) (k := 1) (v := .ref 44) (pc := 0) rfl rfl rfl ?_
  refine zr_gi (k := 25) (lo := 0) (hi := 6) (e := zv_i h 25) (pc := 1) rfl rfl rfl hI rfl (fun g1a g1b => ?_)
  refine zr_i1 (x := zv_i h 25) (t := 13) (pc := 4) rfl rfl (by omega) (by omega) (fun (c2 : ¬ (zv_i h 25) = 0) => ?_) (fun (c2 : ¬ (¬ (zv_i h 25) = 0)) => ?_)
  · refine zx_T.l (i := .aload_n 0) (k := 1) (v := .ref 44) (pc := 13) rfl rfl rfl ?_
    refine zr_iv (cj := 160) (q' := zp_m160) (As := []) (rest := []) (pc := 14) rfl rfl rfl rfl rfl rfl (Nat.le_of_ble_eq_true rfl) rfl (Nat.le_of_ble_eq_true rfl) hI ((zm_top (h := h) hI  ).up (Nat.le_of_ble_eq_true rfl)) ?_
    rintro r3 h6 ⟨h6q, v4, r3q, x5⟩
    subst h6q r3q
    try dsimp only at x5
    have tp := x5.2.2
    show zx_T zp_P 2 zp_m166 17 [(0, .ref 44), (1, .int (zI (a)))] [.int (zI (v4))] h _
    refine zx_T.t (i := .istore_n 2) (k := 1) (ls' := [(2, .int (zI (v4))), (0, .ref 44), (1, .int (zI (a)))]) (st' := []) (pc := 17) rfl rfl rfl rfl ?_
    refine zx_T.l (i := .iload_n 2) (k := 1) (v := .int (zI (v4))) (pc := 18) rfl rfl rfl ?_
    refine zr_i1 (x := v4) (t := 28) (pc := 19) rfl rfl (by omega) (by omega) (fun (c7 : ¬ v4 = 0) => ?_) (fun (c7 : ¬ (¬ v4 = 0)) => ?_)
    · refine zx_T.l (i := .aload_n 0) (k := 1) (v := .ref 44) (pc := 28) rfl rfl rfl ?_
      refine zx_T.s (i := .dup) (k := 1) (st' := [.ref 44, .ref 44]) (pc := 29) rfl rfl ?_
      refine zr_gi (k := 25) (lo := 0) (hi := 6) (e := zv_i h 25) (pc := 30) rfl rfl rfl hI rfl (fun g8a g8b => ?_)
      refine zx_T.l (i := .iload_n 2) (k := 1) (v := .int (zI (v4))) (pc := 33) rfl rfl rfl ?_
      refine zx_T.s (i := .iconst 3) (k := 1) (st' := [.int (zI (3)), .int (zI (v4)), .int (zI (zv_i h 25)), .ref 44]) (pc := 34) rfl rfl ?_
      refine zr_i2 (x := v4) (y := 3) (t := 42) (pc := 35) rfl rfl (by omega) (by omega) (by omega) (by omega) (fun (c9 : ¬ v4 = 3) => ?_) (fun (c9 : ¬ (¬ v4 = 3)) => ?_)
      · refine zx_T.s (i := .iconst 1) (k := 1) (st' := [.int (zI (1)), .int (zI (zv_i h 25)), .ref 44]) (pc := 42) rfl rfl ?_
        refine zr_sub (x := zv_i h 25) (y := 1) (e := zv_i h 25 - 1) (pc := 43) rfl (by omega) ?_
        refine zr_pi (k := 25) (lo := 0) (hi := 6) (e := zv_i h 25 - 1) (pc := 44) rfl rfl rfl rfl rfl rfl hI (by omega) (by omega) (fun h10 ih10 w11 e12 => ?_)
        refine zx_T.l (i := .iload_n 1) (k := 1) (v := .int (zI (a))) (pc := 47) rfl rfl rfl ?_
        refine zx_T.s (i := .iconst 0) (k := 1) (st' := [.int (zI (0)), .int (zI (a))]) (pc := 48) rfl rfl ?_
        refine zx_T.l (i := .iload_n 2) (k := 1) (v := .int (zI (v4))) (pc := 49) rfl rfl rfl ?_
        refine zx_T.s (i := .iconst 3) (k := 1) (st' := [.int (zI (3)), .int (zI (v4)), .int (zI (0)), .int (zI (a))]) (pc := 50) rfl rfl ?_
        refine zr_i2 (x := v4) (y := 3) (t := 59) (pc := 51) rfl rfl (by omega) (by omega) (by omega) (by omega) (fun (c13 : ¬ v4 = 3) => ?_) (fun (c13 : ¬ (¬ v4 = 3)) => False.elim (by omega))
        refine zx_T.s (i := .bipush 7) (k := 2) (st' := [.int (zI (7)), .int (zI (0)), .int (zI (a))]) (pc := 59) rfl rfl ?_
        refine zr_is (cj := 155) (q' := zp_m155) (As := [.int (zI (a)), .int (zI (0)), .int (zI (7))]) (rest := []) (pc := 61) rfl rfl rfl rfl rfl rfl (Nat.le_of_ble_eq_true rfl) rfl (Nat.le_of_ble_eq_true rfl) rfl ((zm_in (h := h10) ih10 (v := a) (l := 0) (u := 7) (by omega) (by omega) (by omega) (by omega) (by omega) (by omega)).up (Nat.le_of_ble_eq_true rfl)) ?_
        rintro r14 h17 ⟨h17q, v15, r14q, x16⟩
        subst h17q r14q
        try dsimp only at x16
        show zx_T zp_P 2 zp_m166 64 [(2, .int (zI (v4))), (0, .ref 44), (1, .int (zI (a)))] [.int (zI (v15))] h10 _
        refine zr_i1 (x := v15) (t := 73) (pc := 64) rfl rfl (by omega) (by omega) (fun (c18 : ¬ v15 = 0) => ?_) (fun (c18 : ¬ (¬ v15 = 0)) => ?_)
        · refine zx_T.l (i := .aload_n 0) (k := 1) (v := .ref 44) (pc := 73) rfl rfl rfl ?_
          refine zr_gr (k := 24) (b := 61) (pc := 74) rfl rfl rfl ih10 ?_
          refine zx_T.l (i := .iload_n 1) (k := 1) (v := .int (zI (a))) (pc := 77) rfl rfl rfl ?_
          refine zx_T.l (i := .iload_n 2) (k := 1) (v := .int (zI (v4))) (pc := 78) rfl rfl rfl ?_
          refine zx_T.s (i := .iconst 3) (k := 1) (st' := [.int (zI (3)), .int (zI (v4)), .int (zI (a)), .ref 61]) (pc := 79) rfl rfl ?_
          refine zr_i2 (x := v4) (y := 3) (t := 87) (pc := 80) rfl rfl (by omega) (by omega) (by omega) (by omega) (fun (c19 : ¬ v4 = 3) => ?_) (fun (c19 : ¬ (¬ v4 = 3)) => False.elim (by omega))
          refine zx_T.l (i := .iload_n 2) (k := 1) (v := .int (zI (v4))) (pc := 87) rfl rfl rfl ?_
          refine zr_as (n := 14) (lo := 0) (hi := 8) (e := v4) (pc := 88) rfl rfl rfl rfl ih10 (by omega) (by omega) (by omega) (by omega) (fun h20 ih20 w21 s22 => ?_)
          refine zx_T.l (i := .iload_n 2) (k := 1) (v := .int (zI (v4))) (pc := 89) rfl rfl rfl ?_
          refine zx_T.s (i := .iconst 3) (k := 1) (st' := [.int (zI (3)), .int (zI (v4))]) (pc := 90) rfl rfl ?_
          refine zr_i2 (x := v4) (y := 3) (t := 103) (pc := 91) rfl rfl (by omega) (by omega) (by omega) (by omega) (fun (c23 : ¬ v4 = 3) => ?_) (fun (c23 : ¬ (¬ v4 = 3)) => False.elim (by omega))
          refine zx_T.l (i := .aload_n 0) (k := 1) (v := .ref 44) (pc := 103) rfl rfl rfl ?_
          refine zr_gr (k := 24) (b := 61) (pc := 104) rfl rfl rfl ih20 ?_
          refine zx_T.s (i := .iconst 0) (k := 1) (st' := [.int (zI (0)), .ref 61]) (pc := 107) rfl rfl ?_
          refine zx_T.s (i := .bipush 8) (k := 2) (st' := [.int (zI (8)), .int (zI (0)), .ref 61]) (pc := 108) rfl rfl ?_
          refine zr_is (cj := 158) (q' := zp_m158) (As := [.ref 61, .int (zI (0)), .int (zI (8))]) (rest := []) (pc := 110) rfl rfl rfl rfl rfl rfl (Nat.le_of_ble_eq_true rfl) rfl (Nat.le_of_ble_eq_true rfl) rfl ((zm_wholeF_61 (h := h20) ih20 (f := 0) (m := 8) (by omega) (by omega) (by omega)).up (Nat.le_of_ble_eq_true rfl)) ?_
          rintro r24 h27 ⟨ih27, w28, r24q, x26⟩
          subst r24q
          try dsimp only at x26
          have wf := x26
          show zx_T zp_P 2 zp_m166 113 [(2, .int (zI (v4))), (0, .ref 44), (1, .int (zI (a)))] [] h27 _
          have i25 : zv_i h27 25 = zv_i h 25 - 1 := ((zv_wi w28 rfl).trans ((zv_wi w21 rfl).trans e12))
          have i26 : zv_i h27 26 = zv_i h 26 := ((zv_wi w28 rfl).trans ((zv_wi w21 rfl).trans (zv_wi w11 rfl)))
          have a61 : ∀ j, 0 ≤ j → zv_a h27 61 j = zv_a h27 61 j := fun j hj => rfl
          exact zr_vr (pc := 113) rfl rfl ⟨ih27, (((w11.wd rfl : zb_W [(44, 25), (44, 26), (61, 0)] h _).tr (w21.wd rfl)).tr (w28.wd rfl)), rfl, by dsimp only; exact zt_store (by first | exact Or.inr (Or.inr (Or.inl ⟨by omega, by omega, by omega, by omega, by omega, (fun j j0 => by have z := wf j j0; rw [show (0 : Int) + 8 = 8 from rfl] at z; rw [z]; exact zs_wh_cg (fun j hj => by rw [s22 j hj, zv_wa w11 rfl j]; (repeat split) <;> omega) (by omega) j0)⟩)) | exact Or.inr (Or.inr (Or.inr (Or.inr (Or.inl ⟨by omega, by omega, by omega, by omega, by omega, by omega, (fun j j0 => by have z := wf j j0; rw [show (0 : Int) + 8 = 8 from rfl] at z; rw [z]; exact zs_wh_cg (fun j hj => by rw [s22 j hj, zv_wa w11 rfl j]; (repeat split) <;> omega) (by omega) j0)⟩)))))⟩
        · refine zx_T.l (i := .aload_n 0) (k := 1) (v := .ref 44) (pc := 67) rfl rfl rfl ?_
          refine zx_T.s (i := .iconst 4) (k := 1) (st' := [.int (zI (4)), .ref 44]) (pc := 68) rfl rfl ?_
          have y32 : zv_i h10 26 = zv_i h 26 := (zv_wi w11 rfl)
          refine zr_iv (cj := 159) (q' := zp_m159) (As := [.int (zI (4))]) (rest := []) (pc := 69) rfl rfl rfl rfl rfl rfl (Nat.le_of_ble_eq_true rfl) rfl (Nat.le_of_ble_eq_true rfl) ih10 ((zm_fails (h := h10) ih10 (w := 4) (by omega) (by omega)).up (Nat.le_of_ble_eq_true rfl)) ?_
          rintro r33 h36 ⟨ih36, w37, r33q, x35⟩
          subst r33q
          try dsimp only at x35
          show zx_T zp_P 2 zp_m166 72 [(2, .int (zI (v4))), (0, .ref 44), (1, .int (zI (a)))] [] h36 _
          have i25 : zv_i h36 25 = zv_i h 25 - 1 := ((zv_wi w37 rfl).trans e12)
          have i26 : zv_i h36 26 = zv_i h36 26 := rfl
          have a61 : ∀ j, 0 ≤ j → zv_a h36 61 j = zv_a h 61 j := fun j hj => by rw [zv_wa w37 rfl j, zv_wa w11 rfl j]
          exact zr_vr (pc := 72) rfl rfl ⟨ih36, ((w11.wd rfl : zb_W [(44, 25), (44, 26), (61, 0)] h _).tr (w37.wd rfl)), rfl, by dsimp only; exact zt_store (by first | exact Or.inl ⟨by omega, by omega, by omega, fun j j0 => by rw [a61 j j0]⟩ | exact Or.inr (Or.inl ⟨by omega, by omega, by omega, by omega, fun j j0 => by rw [a61 j j0]⟩) | exact Or.inr (Or.inr (Or.inr (Or.inl ⟨by omega, by omega, by omega, by omega, by omega, fun j j0 => by rw [a61 j j0]⟩))) | exact Or.inr (Or.inr (Or.inr (Or.inr (Or.inr ⟨by omega, by omega, by omega, by omega, by omega, by omega, fun j j0 => by rw [a61 j j0]⟩)))))⟩
      · refine zx_T.s (i := .iconst 2) (k := 1) (st' := [.int (zI (2)), .int (zI (zv_i h 25)), .ref 44]) (pc := 38) rfl rfl ?_
        refine zx_T.j (i := .goto 4) (k := 3) (pc' := 43) (st' := [.int (zI (2)), .int (zI (zv_i h 25)), .ref 44]) (pc := 39) rfl rfl rfl rfl rfl ?_
        refine zr_sub (x := zv_i h 25) (y := 2) (e := zv_i h 25 - 2) (pc := 43) rfl (by omega) ?_
        refine zr_pi (k := 25) (lo := 0) (hi := 6) (e := zv_i h 25 - 2) (pc := 44) rfl rfl rfl rfl rfl rfl hI (by omega) (by omega) (fun h41 ih41 w42 e43 => ?_)
        refine zx_T.l (i := .iload_n 1) (k := 1) (v := .int (zI (a))) (pc := 47) rfl rfl rfl ?_
        refine zx_T.s (i := .iconst 0) (k := 1) (st' := [.int (zI (0)), .int (zI (a))]) (pc := 48) rfl rfl ?_
        refine zx_T.l (i := .iload_n 2) (k := 1) (v := .int (zI (v4))) (pc := 49) rfl rfl rfl ?_
        refine zx_T.s (i := .iconst 3) (k := 1) (st' := [.int (zI (3)), .int (zI (v4)), .int (zI (0)), .int (zI (a))]) (pc := 50) rfl rfl ?_
        refine zr_i2 (x := v4) (y := 3) (t := 59) (pc := 51) rfl rfl (by omega) (by omega) (by omega) (by omega) (fun (c44 : ¬ v4 = 3) => False.elim (by omega)) (fun (c44 : ¬ (¬ v4 = 3)) => ?_)
        refine zx_T.s (i := .bipush 6) (k := 2) (st' := [.int (zI (6)), .int (zI (0)), .int (zI (a))]) (pc := 54) rfl rfl ?_
        refine zx_T.j (i := .goto 5) (k := 3) (pc' := 61) (st' := [.int (zI (6)), .int (zI (0)), .int (zI (a))]) (pc := 56) rfl rfl rfl rfl rfl ?_
        refine zr_is (cj := 155) (q' := zp_m155) (As := [.int (zI (a)), .int (zI (0)), .int (zI (6))]) (rest := []) (pc := 61) rfl rfl rfl rfl rfl rfl (Nat.le_of_ble_eq_true rfl) rfl (Nat.le_of_ble_eq_true rfl) rfl ((zm_in (h := h41) ih41 (v := a) (l := 0) (u := 6) (by omega) (by omega) (by omega) (by omega) (by omega) (by omega)).up (Nat.le_of_ble_eq_true rfl)) ?_
        rintro r45 h48 ⟨h48q, v46, r45q, x47⟩
        subst h48q r45q
        try dsimp only at x47
        show zx_T zp_P 2 zp_m166 64 [(2, .int (zI (v4))), (0, .ref 44), (1, .int (zI (a)))] [.int (zI (v46))] h41 _
        refine zr_i1 (x := v46) (t := 73) (pc := 64) rfl rfl (by omega) (by omega) (fun (c49 : ¬ v46 = 0) => ?_) (fun (c49 : ¬ (¬ v46 = 0)) => ?_)
        · refine zx_T.l (i := .aload_n 0) (k := 1) (v := .ref 44) (pc := 73) rfl rfl rfl ?_
          refine zr_gr (k := 24) (b := 61) (pc := 74) rfl rfl rfl ih41 ?_
          refine zx_T.l (i := .iload_n 1) (k := 1) (v := .int (zI (a))) (pc := 77) rfl rfl rfl ?_
          refine zx_T.l (i := .iload_n 2) (k := 1) (v := .int (zI (v4))) (pc := 78) rfl rfl rfl ?_
          refine zx_T.s (i := .iconst 3) (k := 1) (st' := [.int (zI (3)), .int (zI (v4)), .int (zI (a)), .ref 61]) (pc := 79) rfl rfl ?_
          refine zr_i2 (x := v4) (y := 3) (t := 87) (pc := 80) rfl rfl (by omega) (by omega) (by omega) (by omega) (fun (c50 : ¬ v4 = 3) => False.elim (by omega)) (fun (c50 : ¬ (¬ v4 = 3)) => ?_)
          refine zx_T.s (i := .iconst 2) (k := 1) (st' := [.int (zI (2)), .int (zI (a)), .ref 61]) (pc := 83) rfl rfl ?_
          refine zx_T.j (i := .goto 4) (k := 3) (pc' := 88) (st' := [.int (zI (2)), .int (zI (a)), .ref 61]) (pc := 84) rfl rfl rfl rfl rfl ?_
          refine zr_as (n := 14) (lo := 0) (hi := 8) (e := 2) (pc := 88) rfl rfl rfl rfl ih41 (by omega) (by omega) (by omega) (by omega) (fun h51 ih51 w52 s53 => ?_)
          refine zx_T.l (i := .iload_n 2) (k := 1) (v := .int (zI (v4))) (pc := 89) rfl rfl rfl ?_
          refine zx_T.s (i := .iconst 3) (k := 1) (st' := [.int (zI (3)), .int (zI (v4))]) (pc := 90) rfl rfl ?_
          refine zr_i2 (x := v4) (y := 3) (t := 103) (pc := 91) rfl rfl (by omega) (by omega) (by omega) (by omega) (fun (c54 : ¬ v4 = 3) => False.elim (by omega)) (fun (c54 : ¬ (¬ v4 = 3)) => ?_)
          refine zx_T.l (i := .aload_n 0) (k := 1) (v := .ref 44) (pc := 94) rfl rfl rfl ?_
          refine zr_gr (k := 24) (b := 61) (pc := 95) rfl rfl rfl ih51 ?_
          refine zx_T.l (i := .iload_n 1) (k := 1) (v := .int (zI (a))) (pc := 98) rfl rfl rfl ?_
          refine zx_T.s (i := .iconst 1) (k := 1) (st' := [.int (zI (1)), .int (zI (a)), .ref 61]) (pc := 99) rfl rfl ?_
          refine zr_add (x := a) (y := 1) (e := a + 1) (pc := 100) rfl (by omega) ?_
          refine zx_T.s (i := .iconst 3) (k := 1) (st' := [.int (zI (3)), .int (zI (a + 1)), .ref 61]) (pc := 101) rfl rfl ?_
          refine zr_as (n := 14) (lo := 0) (hi := 8) (e := 3) (pc := 102) rfl rfl rfl rfl ih51 (by omega) (by omega) (by omega) (by omega) (fun h55 ih55 w56 s57 => ?_)
          refine zx_T.l (i := .aload_n 0) (k := 1) (v := .ref 44) (pc := 103) rfl rfl rfl ?_
          refine zr_gr (k := 24) (b := 61) (pc := 104) rfl rfl rfl ih55 ?_
          refine zx_T.s (i := .iconst 0) (k := 1) (st' := [.int (zI (0)), .ref 61]) (pc := 107) rfl rfl ?_
          refine zx_T.s (i := .bipush 8) (k := 2) (st' := [.int (zI (8)), .int (zI (0)), .ref 61]) (pc := 108) rfl rfl ?_
          refine zr_is (cj := 158) (q' := zp_m158) (As := [.ref 61, .int (zI (0)), .int (zI (8))]) (rest := []) (pc := 110) rfl rfl rfl rfl rfl rfl (Nat.le_of_ble_eq_true rfl) rfl (Nat.le_of_ble_eq_true rfl) rfl ((zm_wholeF_61 (h := h55) ih55 (f := 0) (m := 8) (by omega) (by omega) (by omega)).up (Nat.le_of_ble_eq_true rfl)) ?_
          rintro r58 h61 ⟨ih61, w62, r58q, x60⟩
          subst r58q
          try dsimp only at x60
          have wf := x60
          show zx_T zp_P 2 zp_m166 113 [(2, .int (zI (v4))), (0, .ref 44), (1, .int (zI (a)))] [] h61 _
          have i25 : zv_i h61 25 = zv_i h 25 - 2 := ((zv_wi w62 rfl).trans ((zv_wi w56 rfl).trans ((zv_wi w52 rfl).trans e43)))
          have i26 : zv_i h61 26 = zv_i h 26 := ((zv_wi w62 rfl).trans ((zv_wi w56 rfl).trans ((zv_wi w52 rfl).trans (zv_wi w42 rfl))))
          have a61 : ∀ j, 0 ≤ j → zv_a h61 61 j = zv_a h61 61 j := fun j hj => rfl
          exact zr_vr (pc := 113) rfl rfl ⟨ih61, ((((w42.wd rfl : zb_W [(44, 25), (44, 26), (61, 0)] h _).tr (w52.wd rfl)).tr (w56.wd rfl)).tr (w62.wd rfl)), rfl, by dsimp only; exact zt_store (by first | exact Or.inr (Or.inr (Or.inl ⟨by omega, by omega, by omega, by omega, by omega, (fun j j0 => by have z := wf j j0; rw [show (0 : Int) + 8 = 8 from rfl] at z; rw [z]; exact zs_wh_cg (fun j hj => by rw [s57 j hj, s53 j hj, zv_wa w42 rfl j]; (repeat split) <;> omega) (by omega) j0)⟩)) | exact Or.inr (Or.inr (Or.inr (Or.inr (Or.inl ⟨by omega, by omega, by omega, by omega, by omega, by omega, (fun j j0 => by have z := wf j j0; rw [show (0 : Int) + 8 = 8 from rfl] at z; rw [z]; exact zs_wh_cg (fun j hj => by rw [s57 j hj, s53 j hj, zv_wa w42 rfl j]; (repeat split) <;> omega) (by omega) j0)⟩)))))⟩
        · refine zx_T.l (i := .aload_n 0) (k := 1) (v := .ref 44) (pc := 67) rfl rfl rfl ?_
          refine zx_T.s (i := .iconst 4) (k := 1) (st' := [.int (zI (4)), .ref 44]) (pc := 68) rfl rfl ?_
          have y66 : zv_i h41 26 = zv_i h 26 := (zv_wi w42 rfl)
          refine zr_iv (cj := 159) (q' := zp_m159) (As := [.int (zI (4))]) (rest := []) (pc := 69) rfl rfl rfl rfl rfl rfl (Nat.le_of_ble_eq_true rfl) rfl (Nat.le_of_ble_eq_true rfl) ih41 ((zm_fails (h := h41) ih41 (w := 4) (by omega) (by omega)).up (Nat.le_of_ble_eq_true rfl)) ?_
          rintro r67 h70 ⟨ih70, w71, r67q, x69⟩
          subst r67q
          try dsimp only at x69
          show zx_T zp_P 2 zp_m166 72 [(2, .int (zI (v4))), (0, .ref 44), (1, .int (zI (a)))] [] h70 _
          have i25 : zv_i h70 25 = zv_i h 25 - 2 := ((zv_wi w71 rfl).trans e43)
          have i26 : zv_i h70 26 = zv_i h70 26 := rfl
          have a61 : ∀ j, 0 ≤ j → zv_a h70 61 j = zv_a h 61 j := fun j hj => by rw [zv_wa w71 rfl j, zv_wa w42 rfl j]
          exact zr_vr (pc := 72) rfl rfl ⟨ih70, ((w42.wd rfl : zb_W [(44, 25), (44, 26), (61, 0)] h _).tr (w71.wd rfl)), rfl, by dsimp only; exact zt_store (by first | exact Or.inl ⟨by omega, by omega, by omega, fun j j0 => by rw [a61 j j0]⟩ | exact Or.inr (Or.inl ⟨by omega, by omega, by omega, by omega, fun j j0 => by rw [a61 j j0]⟩) | exact Or.inr (Or.inr (Or.inr (Or.inl ⟨by omega, by omega, by omega, by omega, by omega, fun j j0 => by rw [a61 j j0]⟩))) | exact Or.inr (Or.inr (Or.inr (Or.inr (Or.inr ⟨by omega, by omega, by omega, by omega, by omega, by omega, fun j j0 => by rw [a61 j j0]⟩)))))⟩
    · refine zx_T.l (i := .aload_n 0) (k := 1) (v := .ref 44) (pc := 22) rfl rfl rfl ?_
      refine zx_T.s (i := .iconst 1) (k := 1) (st' := [.int (zI (1)), .ref 44]) (pc := 23) rfl rfl ?_
      refine zr_iv (cj := 159) (q' := zp_m159) (As := [.int (zI (1))]) (rest := []) (pc := 24) rfl rfl rfl rfl rfl rfl (Nat.le_of_ble_eq_true rfl) rfl (Nat.le_of_ble_eq_true rfl) hI ((zm_fails (h := h) hI (w := 1) (by omega) (by omega)).up (Nat.le_of_ble_eq_true rfl)) ?_
      rintro r76 h79 ⟨ih79, w80, r76q, x78⟩
      subst r76q
      try dsimp only at x78
      show zx_T zp_P 2 zp_m166 27 [(2, .int (zI (v4))), (0, .ref 44), (1, .int (zI (a)))] [] h79 _
      have i25 : zv_i h79 25 = zv_i h 25 := (zv_wi w80 rfl)
      have i26 : zv_i h79 26 = zv_i h79 26 := rfl
      have a61 : ∀ j, 0 ≤ j → zv_a h79 61 j = zv_a h 61 j := fun j hj => by rw [zv_wa w80 rfl j]
      exact zr_vr (pc := 27) rfl rfl ⟨ih79, (w80.wd rfl : zb_W [(44, 25), (44, 26), (61, 0)] h _), rfl, by dsimp only; exact zt_store (by first | exact Or.inl ⟨by omega, by omega, by omega, fun j j0 => by rw [a61 j j0]⟩ | exact Or.inr (Or.inl ⟨by omega, by omega, by omega, by omega, fun j j0 => by rw [a61 j j0]⟩) | exact Or.inr (Or.inr (Or.inr (Or.inl ⟨by omega, by omega, by omega, by omega, by omega, fun j j0 => by rw [a61 j j0]⟩))) | exact Or.inr (Or.inr (Or.inr (Or.inr (Or.inr ⟨by omega, by omega, by omega, by omega, by omega, by omega, fun j j0 => by rw [a61 j j0]⟩)))))⟩
  · refine zx_T.l (i := .aload_n 0) (k := 1) (v := .ref 44) (pc := 7) rfl rfl rfl ?_
    refine zx_T.s (i := .iconst 2) (k := 1) (st' := [.int (zI (2)), .ref 44]) (pc := 8) rfl rfl ?_
    refine zr_iv (cj := 159) (q' := zp_m159) (As := [.int (zI (2))]) (rest := []) (pc := 9) rfl rfl rfl rfl rfl rfl (Nat.le_of_ble_eq_true rfl) rfl (Nat.le_of_ble_eq_true rfl) hI ((zm_fails (h := h) hI (w := 2) (by omega) (by omega)).up (Nat.le_of_ble_eq_true rfl)) ?_
    rintro r85 h88 ⟨ih88, w89, r85q, x87⟩
    subst r85q
    try dsimp only at x87
    show zx_T zp_P 2 zp_m166 12 [(0, .ref 44), (1, .int (zI (a)))] [] h88 _
    have i25 : zv_i h88 25 = zv_i h 25 := (zv_wi w89 rfl)
    have i26 : zv_i h88 26 = zv_i h88 26 := rfl
    have a61 : ∀ j, 0 ≤ j → zv_a h88 61 j = zv_a h 61 j := fun j hj => by rw [zv_wa w89 rfl j]
    exact zr_vr (pc := 12) rfl rfl ⟨ih88, (w89.wd rfl : zb_W [(44, 25), (44, 26), (61, 0)] h _), rfl, by dsimp only; exact zt_store (by first | exact Or.inl ⟨by omega, by omega, by omega, fun j j0 => by rw [a61 j j0]⟩ | exact Or.inr (Or.inl ⟨by omega, by omega, by omega, by omega, fun j j0 => by rw [a61 j j0]⟩) | exact Or.inr (Or.inr (Or.inr (Or.inl ⟨by omega, by omega, by omega, by omega, by omega, fun j j0 => by rw [a61 j j0]⟩))) | exact Or.inr (Or.inr (Or.inr (Or.inr (Or.inr ⟨by omega, by omega, by omega, by omega, by omega, by omega, fun j j0 => by rw [a61 j j0]⟩)))))⟩
