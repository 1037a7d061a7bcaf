/-! ===== 97zy: the reference, method by method (by program) ===== -/
set_option maxRecDepth 100000 in
set_option maxHeartbeats 4000000 in
theorem zm_begin_36_L {h : zx_H} (hI : zb_I zc_H h)   (n : Nat) : (∀ {h2 : zx_H} {k : Int} (hI2 : zb_I zc_H h2) (k1 : 0 ≤ k) (k2 : k ≤ 8) (hw : zb_W [(37, 0)] h h2) (hj : ∀ j, 0 ≤ j → j < k → zv_a h2 37 j = if j < zv_f h 1 10 then zv_a h 9 j else 0), (8 - k : Int).toNat < n → zx_T zp_P 1 zp_m115 2 [(0, .ref 36), (1, .ref 1), (2, .int (zI (k)))] [] h2 (zr_V [(36, 1), (37, 0)] h (fun h' => zv_f h' 36 1 = 0 ∧ ∀ j, 0 ≤ j → j < 8 → zv_a h' 37 j = if j < zv_f h 1 10 then zv_a h 9 j else 0))) := by
  induction n with
  | zero => exact fun _ _ _ _ _ hm => absurd hm (Nat.not_lt_zero _)
  | succ n ih =>
    intro h2 k hI2 k1 k2 hw hj hm
    have hQ := zw_ri hI (a := 1) (k := 10) rfl
    refine zx_T.l (i := .iload_n 2) (k := 1) (v := .int (zI (k))) (pc := 2) rfl rfl rfl ?_
    refine zx_T.s (i := .bipush 8) (k := 2) (st' := [.int (zI (8)), .int (zI (k))]) (pc := 3) rfl rfl ?_
    refine zr_i2 (x := k) (y := 8) (t := 25) (pc := 5) rfl rfl (by omega) (by omega) (by omega) (by omega) (fun (c1 : 8 ≤ k) => ?_) (fun (c1 : ¬ (8 ≤ k)) => ?_)
    · refine zx_T.l (i := .aload_n 0) (k := 1) (v := .ref 36) (pc := 25) rfl rfl rfl ?_
      refine zx_T.s (i := .iconst 0) (k := 1) (st' := [.int (zI (0)), .ref 36]) (pc := 26) rfl rfl ?_
      refine zw_pi (k := 1) (lo := 0) (hi := 6) (e := 0) (pc := 27) rfl rfl rfl rfl rfl rfl hI2 (by omega) (by omega) (fun h3 ih3 w4 e5 => ?_)
      have y6 : zv_f h3 36 1 = 0 := e5
      have a37 : ∀ j, 0 ≤ j → zv_a h3 37 j = zv_a h2 37 j := fun j hj => by rw [zv_wa w4 rfl j]
      exact zr_vr (pc := 30) rfl rfl ⟨ih3, ((hw.wd rfl : zb_W [(36, 1), (37, 0)] h _).tr (w4.wd rfl)), rfl, by dsimp only; exact ⟨by omega, fun j j0 j1 => by rw [a37 j j0]; exact hj j j0 (by omega)⟩⟩
    · refine zx_T.l (i := .aload_n 0) (k := 1) (v := .ref 36) (pc := 8) rfl rfl rfl ?_
      refine zw_gr (k := 0) (b := 37) (pc := 9) rfl rfl rfl hI2 ?_
      refine zx_T.l (i := .iload_n 2) (k := 1) (v := .int (zI (k))) (pc := 12) rfl rfl rfl ?_
      refine zx_T.l (i := .aload_n 1) (k := 1) (v := .ref 1) (pc := 13) rfl rfl rfl ?_
      refine zx_T.l (i := .iload_n 2) (k := 1) (v := .int (zI (k))) (pc := 14) rfl rfl rfl ?_
      refine zw_iv (b := 1) (cj := 19) (q' := zp_m19) (As := [.int (zI (k))]) (rest := [.int (zI (k)), .ref 37]) (pc := 15) rfl rfl rfl rfl rfl rfl rfl (Nat.le_of_ble_eq_true rfl) rfl (Nat.le_of_ble_eq_true rfl) hI2 ((zm_cParKind (h := h2) hI2 (i := k) (by omega) (by omega)).up (Nat.le_of_ble_eq_true rfl)) ?_
      rintro r8 h11 ⟨h11q, v9, r8q, x10⟩
      subst h11q r8q
      try dsimp only at x10
      have pK := x10.1
      rw [zv_wf hw (a := 1) (k := 10) rfl, zv_wa hw (a := 9) rfl] at pK
      show zx_T zp_P 1 zp_m115 18 [(0, .ref 36), (1, .ref 1), (2, .int (zI (k)))] [.int (zI (v9)), .int (zI (k)), .ref 37] h2 _
      refine zr_as (n := 14) (lo := (-2147483648)) (hi := 2147483647) (e := v9) (pc := 18) rfl rfl rfl rfl hI2 (by omega) (by omega) (by omega) (by omega) (fun h12 ih12 w13 s14 => ?_)
      refine zr_inc (x := k) (n := 1) (y := k + 1) (ls' := [(2, .int (zI (k + 1))), (0, .ref 36), (1, .ref 1)]) (pc := 19) rfl rfl rfl (by omega) rfl ?_
      refine zx_T.j (i := .goto (-20)) (k := 3) (pc' := 2) (st' := []) (pc := 22) rfl rfl rfl rfl rfl ?_
      have a37 : ∀ j, 0 ≤ j → zv_a h12 37 j = if j = k then v9 else zv_a h2 37 j := fun j hj => by rw [s14 j hj]
      refine zx_T.lk (ls' := [(0, .ref 36), (1, .ref 1), (2, .int (zI (k + 1)))]) rfl ⟨rfl, rfl, rfl, trivial⟩ ?_
      exact ih (h2 := h12) (k := k + 1) ih12 (by omega) (by omega) ((hw.wd rfl : zb_W [(37, 0)] h _).tr (w13.wd rfl)) (fun j j0 j1 => by rw [a37 j j0]; by_cases z : j = k; rw [if_pos z, z]; have q9 := pK; split <;> omega; rw [if_neg z]; exact hj j j0 (by omega)) (by omega)
set_option maxRecDepth 100000 in
set_option maxHeartbeats 4000000 in
theorem zm_begin_36 {h : zx_H} (hI : zb_I zc_H h)   : zx_T zp_P 1 zp_m115 0 [(0, .ref 36), (1, .ref 1)] [] h (zr_V [(36, 1), (37, 0)] h (fun h' => zv_f h' 36 1 = 0 ∧ ∀ j, 0 ≤ j → j < 8 → zv_a h' 37 j = if j < zv_f h 1 10 then zv_a h 9 j else 0)) := by
  have hQ := zw_ri hI (a := 1) (k := 10) rfl
  refine zx_T.s (i := .iconst 0) (k := 1) (st' := [.int (zI (0))]) (pc := 0) rfl rfl ?_
  refine zx_T.t (i := .istore_n 2) (k := 1) (ls' := [(2, .int (zI (0))), (0, .ref 36), (1, .ref 1)]) (st' := []) (pc := 1) rfl rfl rfl rfl ?_
  have a37 : ∀ j, 0 ≤ j → zv_a h 37 j = zv_a h 37 j := fun j hj => rfl
  refine zx_T.lk (ls' := [(0, .ref 36), (1, .ref 1), (2, .int (zI (0)))]) rfl ⟨rfl, rfl, rfl, trivial⟩ ?_
  exact zm_begin_36_L (h := h) hI   ((8 - 0 : Int).toNat + 1) (h2 := h) (k := 0) hI (by omega) (by omega) zb_W.rf (fun j j0 j1 => absurd j1 (by omega)) (Nat.lt_succ_self _)

set_option maxRecDepth 100000 in
set_option maxHeartbeats 4000000 in
theorem zm_mBeginLocal {h : zx_H} (hI : zb_I zc_H h) {i : Int} (i1 : 0 ≤ i) (i2 : i ≤ 7) (rn : zv_f h 41 2 ≤ 8) (kz : 0 ≤ zv_a h 37 i ∧ zv_a h 37 i ≤ 8) : zx_T zp_P 2 zp_m58 0 [(0, .ref 34), (1, .int (zI (i)))] [] h (zr_V [(38, 0), (37, 0), (42, 0), (43, 0), (41, 2)] h (fun h' => zk_blx (zv_b h 35) i (zv_a h 37) (zv_b h 38) (zv_f h 41 2) (zv_a h 42) (zv_a h 43) (zv_a h' 37) (zv_b h' 38) (zv_f h' 41 2) (zv_a h' 42) (zv_a h' 43))) := by
  have hN9 := zw_ri hI (a := 41) (k := 2) rfl
  refine zx_T.l (i := .aload_n 0) (k := 1) (v := .ref 34) (pc := 0) rfl rfl rfl ?_
  refine zw_gr (k := 1) (b := 35) (pc := 1) rfl rfl rfl hI ?_
  refine zx_T.l (i := .iload_n 1) (k := 1) (v := .int (zI (i))) (pc := 4) rfl rfl rfl ?_
  have g1 := zv_rb (h := h) 35 i
  refine zr_ll (n := 8) (e := zv_b h 35 i) (pc := 5) rfl rfl rfl hI (by omega) (by omega) rfl ?_
  refine zx_T.t (i := .lstore_n 2) (k := 1) (ls' := [(2, .long (zL (zv_b h 35 i))), (0, .ref 34), (1, .int (zI (i)))]) (st' := []) (pc := 6) rfl rfl rfl rfl ?_
  refine zx_T.l (i := .aload_n 0) (k := 1) (v := .ref 34) (pc := 7) rfl rfl rfl ?_
  refine zw_gr (k := 2) (b := 36) (pc := 8) rfl rfl rfl hI ?_
  refine zx_T.l (i := .iload_n 1) (k := 1) (v := .int (zI (i))) (pc := 11) rfl rfl rfl ?_
  refine zw_iv (b := 36) (cj := 118) (q' := zp_m118) (As := [.int (zI (i))]) (rest := []) (pc := 12) rfl rfl rfl rfl rfl rfl rfl (Nat.le_of_ble_eq_true rfl) rfl (Nat.le_of_ble_eq_true rfl) hI ((zm_kindOf_36 (h := h) hI (i := i) (by omega) (by omega)).up (Nat.le_of_ble_eq_true rfl)) ?_
  rintro r2 h5 ⟨h5q, v3, r2q, x4⟩
  subst h5q r2q
  try dsimp only at x4
  have kO := x4.1
  show zx_T zp_P 2 zp_m58 15 [(2, .long (zL (zv_b h 35 i))), (0, .ref 34), (1, .int (zI (i)))] [.int (zI (v3))] h _
  refine zx_T.t (i := .istore 4) (k := 2) (ls' := [(4, .int (zI (v3))), (2, .long (zL (zv_b h 35 i))), (0, .ref 34), (1, .int (zI (i)))]) (st' := []) (pc := 15) rfl rfl rfl rfl ?_
  refine zx_T.l (i := .iload 4) (k := 2) (v := .int (zI (v3))) (pc := 17) rfl rfl rfl ?_
  have c6 : v3 = 1 ∨ v3 = 2 ∨ v3 = 3 ∨ v3 = 0 ∨ v3 = 4 ∨ v3 = 5 ∨ v3 = 6 ∨ v3 = 7 ∨ v3 = 8 := by omega
  rcases c6 with c6 | c6 | c6 | c6 | c6 | c6 | c6 | c6 | c6
  · refine zr_sw (i := .tableswitch 48 1 3 #[25, 36, 45]) (len := 25) (t := 44) (x := v3) (k := 1) (pc := 19) rfl c6 rfl rfl rfl rfl ?_
    refine zx_T.l (i := .aload_n 0) (k := 1) (v := .ref 34) (pc := 44) rfl rfl rfl ?_
    refine zx_T.l (i := .iload_n 1) (k := 1) (v := .int (zI (i))) (pc := 45) rfl rfl rfl ?_
    refine zx_T.l (i := .lload_n 2) (k := 1) (v := .long (zL (zv_b h 35 i))) (pc := 46) rfl rfl rfl ?_
    refine zr_l2i (pc := 47) rfl ?_
    refine zr_n32 (x := zv_b h 35 i) (fun z7a z7b => ?_)
    refine zr_i2l (pc := 48) rfl (by omega) (by omega) ?_
    refine zw_iv (b := 34) (cj := 72) (q' := zp_m72) (As := [.int (zI (i)), .long (zL (zi32 (zv_b h 35 i)))]) (rest := []) (pc := 49) rfl rfl rfl rfl rfl rfl rfl (Nat.le_of_ble_eq_true rfl) rfl (Nat.le_of_ble_eq_true rfl) hI ((zm_mSetValue (h := h) hI (i := i) (v := zi32 (zv_b h 35 i)) (by omega) (by omega) (by omega) (by omega)).up (Nat.le_of_ble_eq_true rfl)) ?_
    rintro r8 h11 ⟨ih11, w12, r8q, x10⟩
    subst r8q
    try dsimp only at x10
    have sV := x10
    show zx_T zp_P 2 zp_m58 52 [(4, .int (zI (v3))), (2, .long (zL (zv_b h 35 i))), (0, .ref 34), (1, .int (zI (i)))] [] h11 _
    refine zx_T.j (i := .goto 77) (k := 3) (pc' := 129) (st' := []) (pc := 52) rfl rfl rfl rfl rfl ?_
    have b38 : ∀ j, 0 ≤ j → zv_b h11 38 j = zv_b h11 38 j := fun j hj => rfl
    have a37 : ∀ j, 0 ≤ j → zv_a h11 37 j = zv_a h 37 j := fun j hj => by rw [zv_wa w12 rfl j]
    have a42 : ∀ j, 0 ≤ j → zv_a h11 42 j = zv_a h 42 j := fun j hj => by rw [zv_wa w12 rfl j]
    have a43 : ∀ j, 0 ≤ j → zv_a h11 43 j = zv_a h 43 j := fun j hj => by rw [zv_wa w12 rfl j]
    have y17 : zv_f h11 41 2 = zv_f h 41 2 := (zv_wf w12 rfl)
    exact zr_vr (pc := 129) rfl rfl ⟨ih11, (w12.wd rfl : zb_W [(38, 0), (37, 0), (42, 0), (43, 0), (41, 2)] h _), rfl, by dsimp only; exact ⟨fun z => by first | (exfalso; omega) | exact fun j j0 => by rw [b38 j j0]; exact sV j j0, fun z => by first | (exfalso; omega) | exact fun j j0 => by rw [b38 j j0]; exact sV j j0, fun z => by first | (exfalso; omega) | exact ⟨fun z5 => by first | (exfalso; omega) | exact fun j j0 => (by rw [b38 j j0]; exact sV j j0), by omega, fun j j0 => by rw [a42 j j0], fun j j0 => by rw [a43 j j0]⟩, fun z => by first | (exfalso; omega), fun j j0 jn => by rw [b38 j j0]; rw [sV j j0, if_neg jn], fun j j0 => by rw [a37 j j0]; unfold zf_n0; by_cases y : j = i; (rw [if_pos y, if_neg (by omega), y]); (rw [if_neg y])⟩⟩
  · refine zr_sw (i := .tableswitch 48 1 3 #[25, 36, 45]) (len := 25) (t := 55) (x := v3) (k := 2) (pc := 19) rfl c6 rfl rfl rfl rfl ?_
    refine zx_T.l (i := .aload_n 0) (k := 1) (v := .ref 34) (pc := 55) rfl rfl rfl ?_
    refine zx_T.l (i := .iload_n 1) (k := 1) (v := .int (zI (i))) (pc := 56) rfl rfl rfl ?_
    refine zx_T.l (i := .lload_n 2) (k := 1) (v := .long (zL (zv_b h 35 i))) (pc := 57) rfl rfl rfl ?_
    refine zw_iv (b := 34) (cj := 72) (q' := zp_m72) (As := [.int (zI (i)), .long (zL (zv_b h 35 i))]) (rest := []) (pc := 58) rfl rfl rfl rfl rfl rfl rfl (Nat.le_of_ble_eq_true rfl) rfl (Nat.le_of_ble_eq_true rfl) hI ((zm_mSetValue (h := h) hI (i := i) (v := zv_b h 35 i) (by omega) (by omega) (by omega) (by omega)).up (Nat.le_of_ble_eq_true rfl)) ?_
    rintro r18 h21 ⟨ih21, w22, r18q, x20⟩
    subst r18q
    try dsimp only at x20
    have sV := x20
    show zx_T zp_P 2 zp_m58 61 [(4, .int (zI (v3))), (2, .long (zL (zv_b h 35 i))), (0, .ref 34), (1, .int (zI (i)))] [] h21 _
    refine zx_T.j (i := .goto 68) (k := 3) (pc' := 129) (st' := []) (pc := 61) rfl rfl rfl rfl rfl ?_
    have b38 : ∀ j, 0 ≤ j → zv_b h21 38 j = zv_b h21 38 j := fun j hj => rfl
    have a37 : ∀ j, 0 ≤ j → zv_a h21 37 j = zv_a h 37 j := fun j hj => by rw [zv_wa w22 rfl j]
    have a42 : ∀ j, 0 ≤ j → zv_a h21 42 j = zv_a h 42 j := fun j hj => by rw [zv_wa w22 rfl j]
    have a43 : ∀ j, 0 ≤ j → zv_a h21 43 j = zv_a h 43 j := fun j hj => by rw [zv_wa w22 rfl j]
    have y27 : zv_f h21 41 2 = zv_f h 41 2 := (zv_wf w22 rfl)
    exact zr_vr (pc := 129) rfl rfl ⟨ih21, (w22.wd rfl : zb_W [(38, 0), (37, 0), (42, 0), (43, 0), (41, 2)] h _), rfl, by dsimp only; exact ⟨fun z => by first | (exfalso; omega) | exact fun j j0 => by rw [b38 j j0]; exact sV j j0, fun z => by first | (exfalso; omega) | exact fun j j0 => by rw [b38 j j0]; exact sV j j0, fun z => by first | (exfalso; omega) | exact ⟨fun z5 => by first | (exfalso; omega) | exact fun j j0 => (by rw [b38 j j0]; exact sV j j0), by omega, fun j j0 => by rw [a42 j j0], fun j j0 => by rw [a43 j j0]⟩, fun z => by first | (exfalso; omega), fun j j0 jn => by rw [b38 j j0]; rw [sV j j0, if_neg jn], fun j j0 => by rw [a37 j j0]; unfold zf_n0; by_cases y : j = i; (rw [if_pos y, if_neg (by omega), y]); (rw [if_neg y])⟩⟩
  · refine zr_sw (i := .tableswitch 48 1 3 #[25, 36, 45]) (len := 25) (t := 64) (x := v3) (k := 3) (pc := 19) rfl c6 rfl rfl rfl rfl ?_
    refine zx_T.j (i := .goto 65) (k := 3) (pc' := 129) (st' := []) (pc := 64) rfl rfl rfl rfl rfl ?_
    have b38 : ∀ j, 0 ≤ j → zv_b h 38 j = zv_b h 38 j := fun j hj => rfl
    have a37 : ∀ j, 0 ≤ j → zv_a h 37 j = zv_a h 37 j := fun j hj => rfl
    have a42 : ∀ j, 0 ≤ j → zv_a h 42 j = zv_a h 42 j := fun j hj => rfl
    have a43 : ∀ j, 0 ≤ j → zv_a h 43 j = zv_a h 43 j := fun j hj => rfl
    exact zr_vr (pc := 129) rfl rfl ⟨hI, zb_W.rf, rfl, by dsimp only; exact ⟨fun z => by first | (exfalso; omega) | exact fun j j0 => by rw [b38 j j0]; exact sV j j0, fun z => by first | (exfalso; omega) | exact fun j j0 => by rw [b38 j j0]; exact sV j j0, fun z => by first | (exfalso; omega) | exact ⟨fun z5 => by first | (exfalso; omega) | exact fun j j0 => (by rw [b38 j j0]; exact sV j j0), by omega, fun j j0 => by rw [a42 j j0], fun j j0 => by rw [a43 j j0]⟩, fun z => by first | (exfalso; omega), fun j j0 jn => by rw [b38 j j0], fun j j0 => by rw [a37 j j0]; unfold zf_n0; by_cases y : j = i; (rw [if_pos y, if_neg (by omega), y]); (rw [if_neg y])⟩⟩
  · refine zr_sw (i := .tableswitch 48 1 3 #[25, 36, 45]) (len := 25) (t := 67) (x := v3) (k := 0) (pc := 19) rfl c6 rfl rfl rfl rfl ?_
    refine zx_T.l (i := .aload_n 0) (k := 1) (v := .ref 34) (pc := 67) rfl rfl rfl ?_
    refine zx_T.l (i := .iload_n 1) (k := 1) (v := .int (zI (i))) (pc := 68) rfl rfl rfl ?_
    refine zx_T.l (i := .iload 4) (k := 2) (v := .int (zI (v3))) (pc := 69) rfl rfl rfl ?_
    refine zx_T.s (i := .bipush 6) (k := 2) (st' := [.int (zI (6)), .int (zI (v3)), .int (zI (i)), .ref 34]) (pc := 71) rfl rfl ?_
    refine zr_i2 (x := v3) (y := 6) (t := 99) (pc := 73) rfl rfl (by omega) (by omega) (by omega) (by omega) (fun (c33 : ¬ v3 = 6) => ?_) (fun (c33 : ¬ (¬ v3 = 6)) => False.elim (by omega))
    refine zx_T.s (i := .lconst 0) (k := 1) (st' := [.long (zL (0)), .int (zI (i)), .ref 34]) (pc := 99) rfl rfl ?_
    refine zw_iv (b := 34) (cj := 72) (q' := zp_m72) (As := [.int (zI (i)), .long (zL (0))]) (rest := []) (pc := 100) rfl rfl rfl rfl rfl rfl rfl (Nat.le_of_ble_eq_true rfl) rfl (Nat.le_of_ble_eq_true rfl) hI ((zm_mSetValue (h := h) hI (i := i) (v := 0) (by omega) (by omega) (by omega) (by omega)).up (Nat.le_of_ble_eq_true rfl)) ?_
    rintro r34 h37 ⟨ih37, w38, r34q, x36⟩
    subst r34q
    try dsimp only at x36
    have sV := x36
    show zx_T zp_P 2 zp_m58 103 [(4, .int (zI (v3))), (2, .long (zL (zv_b h 35 i))), (0, .ref 34), (1, .int (zI (i)))] [] h37 _
    refine zx_T.l (i := .aload_n 0) (k := 1) (v := .ref 34) (pc := 103) rfl rfl rfl ?_
    refine zw_gr (k := 2) (b := 36) (pc := 104) rfl rfl rfl ih37 ?_
    refine zx_T.l (i := .iload_n 1) (k := 1) (v := .int (zI (i))) (pc := 107) rfl rfl rfl ?_
    refine zx_T.l (i := .iload 4) (k := 2) (v := .int (zI (v3))) (pc := 108) rfl rfl rfl ?_
    refine zx_T.s (i := .iconst 5) (k := 1) (st' := [.int (zI (5)), .int (zI (v3)), .int (zI (i)), .ref 36]) (pc := 110) rfl rfl ?_
    refine zr_i2 (x := v3) (y := 5) (t := 124) (pc := 111) rfl rfl (by omega) (by omega) (by omega) (by omega) (fun (c39 : v3 < 5) => ?_) (fun (c39 : ¬ (v3 < 5)) => False.elim (by omega))
    refine zx_T.l (i := .iload 4) (k := 2) (v := .int (zI (v3))) (pc := 124) rfl rfl rfl ?_
    refine zw_iv (b := 36) (cj := 119) (q' := zp_m119) (As := [.int (zI (i)), .int (zI (v3))]) (rest := []) (pc := 126) rfl rfl rfl rfl rfl rfl rfl (Nat.le_of_ble_eq_true rfl) rfl (Nat.le_of_ble_eq_true rfl) ih37 ((zm_setKind_36 (h := h37) ih37 (i := i) (k := v3) (by omega) (by omega) (by omega) (by omega)).up (Nat.le_of_ble_eq_true rfl)) ?_
    rintro r40 h43 ⟨ih43, w44, r40q, x42⟩
    subst r40q
    try dsimp only at x42
    have sk1 := x42
    have sK := x42; rw [show zv_a h37 37 = zv_a h 37 from funext (fun q => zv_wa (w38.wd rfl : zb_W [(38, 0), (42, 0), (43, 0), (41, 2)] h _) rfl q)] at sK
    show zx_T zp_P 2 zp_m58 129 [(4, .int (zI (v3))), (2, .long (zL (zv_b h 35 i))), (0, .ref 34), (1, .int (zI (i)))] [] h43 _
    have b38 : ∀ j, 0 ≤ j → zv_b h43 38 j = zv_b h37 38 j := fun j hj => by rw [zv_wb w44 rfl j]
    have a37 : ∀ j, 0 ≤ j → zv_a h43 37 j = zv_a h43 37 j := fun j hj => rfl
    have a42 : ∀ j, 0 ≤ j → zv_a h43 42 j = zv_a h 42 j := fun j hj => by rw [zv_wa w44 rfl j, zv_wa w38 rfl j]
    have a43 : ∀ j, 0 ≤ j → zv_a h43 43 j = zv_a h 43 j := fun j hj => by rw [zv_wa w44 rfl j, zv_wa w38 rfl j]
    have y49 : zv_f h43 41 2 = zv_f h 41 2 := ((zv_wf w44 rfl).trans (zv_wf w38 rfl))
    exact zr_vr (pc := 129) rfl rfl ⟨ih43, ((w38.wd rfl : zb_W [(38, 0), (37, 0), (42, 0), (43, 0), (41, 2)] h _).tr (w44.wd rfl)), rfl, by dsimp only; exact ⟨fun z => by first | (exfalso; omega) | exact fun j j0 => by rw [b38 j j0]; exact sV j j0, fun z => by first | (exfalso; omega) | exact fun j j0 => by rw [b38 j j0]; exact sV j j0, fun z => by first | (exfalso; omega) | exact ⟨fun z5 => by first | (exfalso; omega) | exact fun j j0 => (by rw [b38 j j0]; exact sV j j0), by omega, fun j j0 => by rw [a42 j j0], fun j j0 => by rw [a43 j j0]⟩, fun z => by first | (exfalso; omega), fun j j0 jn => by rw [b38 j j0]; rw [sV j j0, if_neg jn], fun j j0 => by rw [a37 j j0, sK j j0]; unfold zf_n0; by_cases y : j = i; (rw [if_pos y, if_pos y]; split <;> omega); (rw [if_neg y, if_neg y])⟩⟩
  · refine zr_sw (i := .tableswitch 48 1 3 #[25, 36, 45]) (len := 25) (t := 67) (x := v3) (k := 4) (pc := 19) rfl c6 rfl rfl rfl rfl ?_
    refine zx_T.l (i := .aload_n 0) (k := 1) (v := .ref 34) (pc := 67) rfl rfl rfl ?_
    refine zx_T.l (i := .iload_n 1) (k := 1) (v := .int (zI (i))) (pc := 68) rfl rfl rfl ?_
    refine zx_T.l (i := .iload 4) (k := 2) (v := .int (zI (v3))) (pc := 69) rfl rfl rfl ?_
    refine zx_T.s (i := .bipush 6) (k := 2) (st' := [.int (zI (6)), .int (zI (v3)), .int (zI (i)), .ref 34]) (pc := 71) rfl rfl ?_
    refine zr_i2 (x := v3) (y := 6) (t := 99) (pc := 73) rfl rfl (by omega) (by omega) (by omega) (by omega) (fun (c50 : ¬ v3 = 6) => ?_) (fun (c50 : ¬ (¬ v3 = 6)) => False.elim (by omega))
    refine zx_T.s (i := .lconst 0) (k := 1) (st' := [.long (zL (0)), .int (zI (i)), .ref 34]) (pc := 99) rfl rfl ?_
    refine zw_iv (b := 34) (cj := 72) (q' := zp_m72) (As := [.int (zI (i)), .long (zL (0))]) (rest := []) (pc := 100) rfl rfl rfl rfl rfl rfl rfl (Nat.le_of_ble_eq_true rfl) rfl (Nat.le_of_ble_eq_true rfl) hI ((zm_mSetValue (h := h) hI (i := i) (v := 0) (by omega) (by omega) (by omega) (by omega)).up (Nat.le_of_ble_eq_true rfl)) ?_
    rintro r51 h54 ⟨ih54, w55, r51q, x53⟩
    subst r51q
    try dsimp only at x53
    have sV := x53
    show zx_T zp_P 2 zp_m58 103 [(4, .int (zI (v3))), (2, .long (zL (zv_b h 35 i))), (0, .ref 34), (1, .int (zI (i)))] [] h54 _
    refine zx_T.l (i := .aload_n 0) (k := 1) (v := .ref 34) (pc := 103) rfl rfl rfl ?_
    refine zw_gr (k := 2) (b := 36) (pc := 104) rfl rfl rfl ih54 ?_
    refine zx_T.l (i := .iload_n 1) (k := 1) (v := .int (zI (i))) (pc := 107) rfl rfl rfl ?_
    refine zx_T.l (i := .iload 4) (k := 2) (v := .int (zI (v3))) (pc := 108) rfl rfl rfl ?_
    refine zx_T.s (i := .iconst 5) (k := 1) (st' := [.int (zI (5)), .int (zI (v3)), .int (zI (i)), .ref 36]) (pc := 110) rfl rfl ?_
    refine zr_i2 (x := v3) (y := 5) (t := 124) (pc := 111) rfl rfl (by omega) (by omega) (by omega) (by omega) (fun (c56 : v3 < 5) => ?_) (fun (c56 : ¬ (v3 < 5)) => False.elim (by omega))
    refine zx_T.l (i := .iload 4) (k := 2) (v := .int (zI (v3))) (pc := 124) rfl rfl rfl ?_
    refine zw_iv (b := 36) (cj := 119) (q' := zp_m119) (As := [.int (zI (i)), .int (zI (v3))]) (rest := []) (pc := 126) rfl rfl rfl rfl rfl rfl rfl (Nat.le_of_ble_eq_true rfl) rfl (Nat.le_of_ble_eq_true rfl) ih54 ((zm_setKind_36 (h := h54) ih54 (i := i) (k := v3) (by omega) (by omega) (by omega) (by omega)).up (Nat.le_of_ble_eq_true rfl)) ?_
    rintro r57 h60 ⟨ih60, w61, r57q, x59⟩
    subst r57q
    try dsimp only at x59
    have sk1 := x59
    have sK := x59; rw [show zv_a h54 37 = zv_a h 37 from funext (fun q => zv_wa (w55.wd rfl : zb_W [(38, 0), (42, 0), (43, 0), (41, 2)] h _) rfl q)] at sK
    show zx_T zp_P 2 zp_m58 129 [(4, .int (zI (v3))), (2, .long (zL (zv_b h 35 i))), (0, .ref 34), (1, .int (zI (i)))] [] h60 _
    have b38 : ∀ j, 0 ≤ j → zv_b h60 38 j = zv_b h54 38 j := fun j hj => by rw [zv_wb w61 rfl j]
    have a37 : ∀ j, 0 ≤ j → zv_a h60 37 j = zv_a h60 37 j := fun j hj => rfl
    have a42 : ∀ j, 0 ≤ j → zv_a h60 42 j = zv_a h 42 j := fun j hj => by rw [zv_wa w61 rfl j, zv_wa w55 rfl j]
    have a43 : ∀ j, 0 ≤ j → zv_a h60 43 j = zv_a h 43 j := fun j hj => by rw [zv_wa w61 rfl j, zv_wa w55 rfl j]
    have y66 : zv_f h60 41 2 = zv_f h 41 2 := ((zv_wf w61 rfl).trans (zv_wf w55 rfl))
    exact zr_vr (pc := 129) rfl rfl ⟨ih60, ((w55.wd rfl : zb_W [(38, 0), (37, 0), (42, 0), (43, 0), (41, 2)] h _).tr (w61.wd rfl)), rfl, by dsimp only; exact ⟨fun z => by first | (exfalso; omega) | exact fun j j0 => by rw [b38 j j0]; exact sV j j0, fun z => by first | (exfalso; omega) | exact fun j j0 => by rw [b38 j j0]; exact sV j j0, fun z => by first | (exfalso; omega) | exact ⟨fun z5 => by first | (exfalso; omega) | exact fun j j0 => (by rw [b38 j j0]; exact sV j j0), by omega, fun j j0 => by rw [a42 j j0], fun j j0 => by rw [a43 j j0]⟩, fun z => by first | (exfalso; omega), fun j j0 jn => by rw [b38 j j0]; rw [sV j j0, if_neg jn], fun j j0 => by rw [a37 j j0, sK j j0]; unfold zf_n0; by_cases y : j = i; (rw [if_pos y, if_pos y]; split <;> omega); (rw [if_neg y, if_neg y])⟩⟩
  · refine zr_sw (i := .tableswitch 48 1 3 #[25, 36, 45]) (len := 25) (t := 67) (x := v3) (k := 5) (pc := 19) rfl c6 rfl rfl rfl rfl ?_
    refine zx_T.l (i := .aload_n 0) (k := 1) (v := .ref 34) (pc := 67) rfl rfl rfl ?_
    refine zx_T.l (i := .iload_n 1) (k := 1) (v := .int (zI (i))) (pc := 68) rfl rfl rfl ?_
    refine zx_T.l (i := .iload 4) (k := 2) (v := .int (zI (v3))) (pc := 69) rfl rfl rfl ?_
    refine zx_T.s (i := .bipush 6) (k := 2) (st' := [.int (zI (6)), .int (zI (v3)), .int (zI (i)), .ref 34]) (pc := 71) rfl rfl ?_
    refine zr_i2 (x := v3) (y := 6) (t := 99) (pc := 73) rfl rfl (by omega) (by omega) (by omega) (by omega) (fun (c67 : ¬ v3 = 6) => ?_) (fun (c67 : ¬ (¬ v3 = 6)) => False.elim (by omega))
    refine zx_T.s (i := .lconst 0) (k := 1) (st' := [.long (zL (0)), .int (zI (i)), .ref 34]) (pc := 99) rfl rfl ?_
    refine zw_iv (b := 34) (cj := 72) (q' := zp_m72) (As := [.int (zI (i)), .long (zL (0))]) (rest := []) (pc := 100) rfl rfl rfl rfl rfl rfl rfl (Nat.le_of_ble_eq_true rfl) rfl (Nat.le_of_ble_eq_true rfl) hI ((zm_mSetValue (h := h) hI (i := i) (v := 0) (by omega) (by omega) (by omega) (by omega)).up (Nat.le_of_ble_eq_true rfl)) ?_
    rintro r68 h71 ⟨ih71, w72, r68q, x70⟩
    subst r68q
    try dsimp only at x70
    have sV := x70
    show zx_T zp_P 2 zp_m58 103 [(4, .int (zI (v3))), (2, .long (zL (zv_b h 35 i))), (0, .ref 34), (1, .int (zI (i)))] [] h71 _
    refine zx_T.l (i := .aload_n 0) (k := 1) (v := .ref 34) (pc := 103) rfl rfl rfl ?_
    refine zw_gr (k := 2) (b := 36) (pc := 104) rfl rfl rfl ih71 ?_
    refine zx_T.l (i := .iload_n 1) (k := 1) (v := .int (zI (i))) (pc := 107) rfl rfl rfl ?_
    refine zx_T.l (i := .iload 4) (k := 2) (v := .int (zI (v3))) (pc := 108) rfl rfl rfl ?_
    refine zx_T.s (i := .iconst 5) (k := 1) (st' := [.int (zI (5)), .int (zI (v3)), .int (zI (i)), .ref 36]) (pc := 110) rfl rfl ?_
    refine zr_i2 (x := v3) (y := 5) (t := 124) (pc := 111) rfl rfl (by omega) (by omega) (by omega) (by omega) (fun (c73 : v3 < 5) => False.elim (by omega)) (fun (c73 : ¬ (v3 < 5)) => ?_)
    refine zx_T.l (i := .lload_n 2) (k := 1) (v := .long (zL (zv_b h 35 i))) (pc := 114) rfl rfl rfl ?_
    refine zx_T.s (i := .lconst 0) (k := 1) (st' := [.long (zL (0)), .long (zL (zv_b h 35 i)), .int (zI (i)), .ref 36]) (pc := 115) rfl rfl ?_
    refine zr_lcmp (pc := 116) rfl (by omega) (by omega) (by omega) (by omega) (fun z74 z74a => ?_)
    refine zr_i1 (x := z74) (t := 124) (pc := 117) rfl rfl (by omega) (by omega) (fun (c75 : 0 ≤ z74) => ?_) (fun (c75 : ¬ (0 ≤ z74)) => ?_)
    · refine zx_T.l (i := .iload 4) (k := 2) (v := .int (zI (v3))) (pc := 124) rfl rfl rfl ?_
      refine zw_iv (b := 36) (cj := 119) (q' := zp_m119) (As := [.int (zI (i)), .int (zI (v3))]) (rest := []) (pc := 126) rfl rfl rfl rfl rfl rfl rfl (Nat.le_of_ble_eq_true rfl) rfl (Nat.le_of_ble_eq_true rfl) ih71 ((zm_setKind_36 (h := h71) ih71 (i := i) (k := v3) (by omega) (by omega) (by omega) (by omega)).up (Nat.le_of_ble_eq_true rfl)) ?_
      rintro r76 h79 ⟨ih79, w80, r76q, x78⟩
      subst r76q
      try dsimp only at x78
      have sk1 := x78
      have sK := x78; rw [show zv_a h71 37 = zv_a h 37 from funext (fun q => zv_wa (w72.wd rfl : zb_W [(38, 0), (42, 0), (43, 0), (41, 2)] h _) rfl q)] at sK
      show zx_T zp_P 2 zp_m58 129 [(4, .int (zI (v3))), (2, .long (zL (zv_b h 35 i))), (0, .ref 34), (1, .int (zI (i)))] [] h79 _
      have b38 : ∀ j, 0 ≤ j → zv_b h79 38 j = zv_b h71 38 j := fun j hj => by rw [zv_wb w80 rfl j]
      have a37 : ∀ j, 0 ≤ j → zv_a h79 37 j = zv_a h79 37 j := fun j hj => rfl
      have a42 : ∀ j, 0 ≤ j → zv_a h79 42 j = zv_a h 42 j := fun j hj => by rw [zv_wa w80 rfl j, zv_wa w72 rfl j]
      have a43 : ∀ j, 0 ≤ j → zv_a h79 43 j = zv_a h 43 j := fun j hj => by rw [zv_wa w80 rfl j, zv_wa w72 rfl j]
      have y85 : zv_f h79 41 2 = zv_f h 41 2 := ((zv_wf w80 rfl).trans (zv_wf w72 rfl))
      exact zr_vr (pc := 129) rfl rfl ⟨ih79, ((w72.wd rfl : zb_W [(38, 0), (37, 0), (42, 0), (43, 0), (41, 2)] h _).tr (w80.wd rfl)), rfl, by dsimp only; exact ⟨fun z => by first | (exfalso; omega) | exact fun j j0 => by rw [b38 j j0]; exact sV j j0, fun z => by first | (exfalso; omega) | exact fun j j0 => by rw [b38 j j0]; exact sV j j0, fun z => by first | (exfalso; omega) | exact ⟨fun z5 => by first | (exfalso; omega) | exact fun j j0 => (by rw [b38 j j0]; exact sV j j0), by omega, fun j j0 => by rw [a42 j j0], fun j j0 => by rw [a43 j j0]⟩, fun z => by first | (exfalso; omega), fun j j0 jn => by rw [b38 j j0]; rw [sV j j0, if_neg jn], fun j j0 => by rw [a37 j j0, sK j j0]; unfold zf_n0; by_cases y : j = i; (rw [if_pos y, if_pos y]; split <;> omega); (rw [if_neg y, if_neg y])⟩⟩
    · refine zx_T.s (i := .iconst 4) (k := 1) (st' := [.int (zI (4)), .int (zI (i)), .ref 36]) (pc := 120) rfl rfl ?_
      refine zx_T.j (i := .goto 5) (k := 3) (pc' := 126) (st' := [.int (zI (4)), .int (zI (i)), .ref 36]) (pc := 121) rfl rfl rfl rfl rfl ?_
      refine zw_iv (b := 36) (cj := 119) (q' := zp_m119) (As := [.int (zI (i)), .int (zI (4))]) (rest := []) (pc := 126) rfl rfl rfl rfl rfl rfl rfl (Nat.le_of_ble_eq_true rfl) rfl (Nat.le_of_ble_eq_true rfl) ih71 ((zm_setKind_36 (h := h71) ih71 (i := i) (k := 4) (by omega) (by omega) (by omega) (by omega)).up (Nat.le_of_ble_eq_true rfl)) ?_
      rintro r86 h89 ⟨ih89, w90, r86q, x88⟩
      subst r86q
      try dsimp only at x88
      have sk1 := x88
      have sK := x88; rw [show zv_a h71 37 = zv_a h 37 from funext (fun q => zv_wa (w72.wd rfl : zb_W [(38, 0), (42, 0), (43, 0), (41, 2)] h _) rfl q)] at sK
      show zx_T zp_P 2 zp_m58 129 [(4, .int (zI (v3))), (2, .long (zL (zv_b h 35 i))), (0, .ref 34), (1, .int (zI (i)))] [] h89 _
      have b38 : ∀ j, 0 ≤ j → zv_b h89 38 j = zv_b h71 38 j := fun j hj => by rw [zv_wb w90 rfl j]
      have a37 : ∀ j, 0 ≤ j → zv_a h89 37 j = zv_a h89 37 j := fun j hj => rfl
      have a42 : ∀ j, 0 ≤ j → zv_a h89 42 j = zv_a h 42 j := fun j hj => by rw [zv_wa w90 rfl j, zv_wa w72 rfl j]
      have a43 : ∀ j, 0 ≤ j → zv_a h89 43 j = zv_a h 43 j := fun j hj => by rw [zv_wa w90 rfl j, zv_wa w72 rfl j]
      have y95 : zv_f h89 41 2 = zv_f h 41 2 := ((zv_wf w90 rfl).trans (zv_wf w72 rfl))
      exact zr_vr (pc := 129) rfl rfl ⟨ih89, ((w72.wd rfl : zb_W [(38, 0), (37, 0), (42, 0), (43, 0), (41, 2)] h _).tr (w90.wd rfl)), rfl, by dsimp only; exact ⟨fun z => by first | (exfalso; omega) | exact fun j j0 => by rw [b38 j j0]; exact sV j j0, fun z => by first | (exfalso; omega) | exact fun j j0 => by rw [b38 j j0]; exact sV j j0, fun z => by first | (exfalso; omega) | exact ⟨fun z5 => by first | (exfalso; omega) | exact fun j j0 => (by rw [b38 j j0]; exact sV j j0), by omega, fun j j0 => by rw [a42 j j0], fun j j0 => by rw [a43 j j0]⟩, fun z => by first | (exfalso; omega), fun j j0 jn => by rw [b38 j j0]; rw [sV j j0, if_neg jn], fun j j0 => by rw [a37 j j0, sK j j0]; unfold zf_n0; by_cases y : j = i; (rw [if_pos y, if_pos y]; split <;> omega); (rw [if_neg y, if_neg y])⟩⟩
  · refine zr_sw (i := .tableswitch 48 1 3 #[25, 36, 45]) (len := 25) (t := 67) (x := v3) (k := 6) (pc := 19) rfl c6 rfl rfl rfl rfl ?_
    refine zx_T.l (i := .aload_n 0) (k := 1) (v := .ref 34) (pc := 67) rfl rfl rfl ?_
    refine zx_T.l (i := .iload_n 1) (k := 1) (v := .int (zI (i))) (pc := 68) rfl rfl rfl ?_
    refine zx_T.l (i := .iload 4) (k := 2) (v := .int (zI (v3))) (pc := 69) rfl rfl rfl ?_
    refine zx_T.s (i := .bipush 6) (k := 2) (st' := [.int (zI (6)), .int (zI (v3)), .int (zI (i)), .ref 34]) (pc := 71) rfl rfl ?_
    refine zr_i2 (x := v3) (y := 6) (t := 99) (pc := 73) rfl rfl (by omega) (by omega) (by omega) (by omega) (fun (c96 : ¬ v3 = 6) => False.elim (by omega)) (fun (c96 : ¬ (¬ v3 = 6)) => ?_)
    refine zx_T.l (i := .lload_n 2) (k := 1) (v := .long (zL (zv_b h 35 i))) (pc := 76) rfl rfl rfl ?_
    refine zx_T.s (i := .lconst 0) (k := 1) (st' := [.long (zL (0)), .long (zL (zv_b h 35 i)), .int (zI (i)), .ref 34]) (pc := 77) rfl rfl ?_
    refine zr_lcmp (pc := 78) rfl (by omega) (by omega) (by omega) (by omega) (fun z97 z97a => ?_)
    refine zr_i1 (x := z97) (t := 99) (pc := 79) rfl rfl (by omega) (by omega) (fun (c98 : z97 < 0) => ?_) (fun (c98 : ¬ (z97 < 0)) => ?_)
    · refine zx_T.s (i := .lconst 0) (k := 1) (st' := [.long (zL (0)), .int (zI (i)), .ref 34]) (pc := 99) rfl rfl ?_
      refine zw_iv (b := 34) (cj := 72) (q' := zp_m72) (As := [.int (zI (i)), .long (zL (0))]) (rest := []) (pc := 100) rfl rfl rfl rfl rfl rfl rfl (Nat.le_of_ble_eq_true rfl) rfl (Nat.le_of_ble_eq_true rfl) hI ((zm_mSetValue (h := h) hI (i := i) (v := 0) (by omega) (by omega) (by omega) (by omega)).up (Nat.le_of_ble_eq_true rfl)) ?_
      rintro r99 h102 ⟨ih102, w103, r99q, x101⟩
      subst r99q
      try dsimp only at x101
      have sV := x101
      show zx_T zp_P 2 zp_m58 103 [(4, .int (zI (v3))), (2, .long (zL (zv_b h 35 i))), (0, .ref 34), (1, .int (zI (i)))] [] h102 _
      refine zx_T.l (i := .aload_n 0) (k := 1) (v := .ref 34) (pc := 103) rfl rfl rfl ?_
      refine zw_gr (k := 2) (b := 36) (pc := 104) rfl rfl rfl ih102 ?_
      refine zx_T.l (i := .iload_n 1) (k := 1) (v := .int (zI (i))) (pc := 107) rfl rfl rfl ?_
      refine zx_T.l (i := .iload 4) (k := 2) (v := .int (zI (v3))) (pc := 108) rfl rfl rfl ?_
      refine zx_T.s (i := .iconst 5) (k := 1) (st' := [.int (zI (5)), .int (zI (v3)), .int (zI (i)), .ref 36]) (pc := 110) rfl rfl ?_
      refine zr_i2 (x := v3) (y := 5) (t := 124) (pc := 111) rfl rfl (by omega) (by omega) (by omega) (by omega) (fun (c104 : v3 < 5) => False.elim (by omega)) (fun (c104 : ¬ (v3 < 5)) => ?_)
      refine zx_T.l (i := .lload_n 2) (k := 1) (v := .long (zL (zv_b h 35 i))) (pc := 114) rfl rfl rfl ?_
      refine zx_T.s (i := .lconst 0) (k := 1) (st' := [.long (zL (0)), .long (zL (zv_b h 35 i)), .int (zI (i)), .ref 36]) (pc := 115) rfl rfl ?_
      refine zr_lcmp (pc := 116) rfl (by omega) (by omega) (by omega) (by omega) (fun z105 z105a => ?_)
      refine zr_i1 (x := z105) (t := 124) (pc := 117) rfl rfl (by omega) (by omega) (fun (c106 : 0 ≤ z105) => ?_) (fun (c106 : ¬ (0 ≤ z105)) => ?_)
      · refine zx_T.l (i := .iload 4) (k := 2) (v := .int (zI (v3))) (pc := 124) rfl rfl rfl ?_
        refine zw_iv (b := 36) (cj := 119) (q' := zp_m119) (As := [.int (zI (i)), .int (zI (v3))]) (rest := []) (pc := 126) rfl rfl rfl rfl rfl rfl rfl (Nat.le_of_ble_eq_true rfl) rfl (Nat.le_of_ble_eq_true rfl) ih102 ((zm_setKind_36 (h := h102) ih102 (i := i) (k := v3) (by omega) (by omega) (by omega) (by omega)).up (Nat.le_of_ble_eq_true rfl)) ?_
        rintro r107 h110 ⟨ih110, w111, r107q, x109⟩
        subst r107q
        try dsimp only at x109
        have sk1 := x109
        have sK := x109; rw [show zv_a h102 37 = zv_a h 37 from funext (fun q => zv_wa (w103.wd rfl : zb_W [(38, 0), (42, 0), (43, 0), (41, 2)] h _) rfl q)] at sK
        show zx_T zp_P 2 zp_m58 129 [(4, .int (zI (v3))), (2, .long (zL (zv_b h 35 i))), (0, .ref 34), (1, .int (zI (i)))] [] h110 _
        have b38 : ∀ j, 0 ≤ j → zv_b h110 38 j = zv_b h102 38 j := fun j hj => by rw [zv_wb w111 rfl j]
        have a37 : ∀ j, 0 ≤ j → zv_a h110 37 j = zv_a h110 37 j := fun j hj => rfl
        have a42 : ∀ j, 0 ≤ j → zv_a h110 42 j = zv_a h 42 j := fun j hj => by rw [zv_wa w111 rfl j, zv_wa w103 rfl j]
        have a43 : ∀ j, 0 ≤ j → zv_a h110 43 j = zv_a h 43 j := fun j hj => by rw [zv_wa w111 rfl j, zv_wa w103 rfl j]
        have y116 : zv_f h110 41 2 = zv_f h 41 2 := ((zv_wf w111 rfl).trans (zv_wf w103 rfl))
        exact zr_vr (pc := 129) rfl rfl ⟨ih110, ((w103.wd rfl : zb_W [(38, 0), (37, 0), (42, 0), (43, 0), (41, 2)] h _).tr (w111.wd rfl)), rfl, by dsimp only; exact ⟨fun z => by first | (exfalso; omega) | exact fun j j0 => by rw [b38 j j0]; exact sV j j0, fun z => by first | (exfalso; omega) | exact fun j j0 => by rw [b38 j j0]; exact sV j j0, fun z => by first | (exfalso; omega) | exact ⟨fun z5 => by first | (exfalso; omega) | exact fun j j0 => (by rw [b38 j j0]; exact sV j j0), by omega, fun j j0 => by rw [a42 j j0], fun j j0 => by rw [a43 j j0]⟩, fun z => by first | (exfalso; omega), fun j j0 jn => by rw [b38 j j0]; rw [sV j j0, if_neg jn], fun j j0 => by rw [a37 j j0, sK j j0]; unfold zf_n0; by_cases y : j = i; (rw [if_pos y, if_pos y]; split <;> omega); (rw [if_neg y, if_neg y])⟩⟩
      · refine zx_T.s (i := .iconst 4) (k := 1) (st' := [.int (zI (4)), .int (zI (i)), .ref 36]) (pc := 120) rfl rfl ?_
        refine zx_T.j (i := .goto 5) (k := 3) (pc' := 126) (st' := [.int (zI (4)), .int (zI (i)), .ref 36]) (pc := 121) rfl rfl rfl rfl rfl ?_
        refine zw_iv (b := 36) (cj := 119) (q' := zp_m119) (As := [.int (zI (i)), .int (zI (4))]) (rest := []) (pc := 126) rfl rfl rfl rfl rfl rfl rfl (Nat.le_of_ble_eq_true rfl) rfl (Nat.le_of_ble_eq_true rfl) ih102 ((zm_setKind_36 (h := h102) ih102 (i := i) (k := 4) (by omega) (by omega) (by omega) (by omega)).up (Nat.le_of_ble_eq_true rfl)) ?_
        rintro r117 h120 ⟨ih120, w121, r117q, x119⟩
        subst r117q
        try dsimp only at x119
        have sk1 := x119
        have sK := x119; rw [show zv_a h102 37 = zv_a h 37 from funext (fun q => zv_wa (w103.wd rfl : zb_W [(38, 0), (42, 0), (43, 0), (41, 2)] h _) rfl q)] at sK
        show zx_T zp_P 2 zp_m58 129 [(4, .int (zI (v3))), (2, .long (zL (zv_b h 35 i))), (0, .ref 34), (1, .int (zI (i)))] [] h120 _
        have b38 : ∀ j, 0 ≤ j → zv_b h120 38 j = zv_b h102 38 j := fun j hj => by rw [zv_wb w121 rfl j]
        have a37 : ∀ j, 0 ≤ j → zv_a h120 37 j = zv_a h120 37 j := fun j hj => rfl
        have a42 : ∀ j, 0 ≤ j → zv_a h120 42 j = zv_a h 42 j := fun j hj => by rw [zv_wa w121 rfl j, zv_wa w103 rfl j]
        have a43 : ∀ j, 0 ≤ j → zv_a h120 43 j = zv_a h 43 j := fun j hj => by rw [zv_wa w121 rfl j, zv_wa w103 rfl j]
        have y126 : zv_f h120 41 2 = zv_f h 41 2 := ((zv_wf w121 rfl).trans (zv_wf w103 rfl))
        exact zr_vr (pc := 129) rfl rfl ⟨ih120, ((w103.wd rfl : zb_W [(38, 0), (37, 0), (42, 0), (43, 0), (41, 2)] h _).tr (w121.wd rfl)), rfl, by dsimp only; exact ⟨fun z => by first | (exfalso; omega) | exact fun j j0 => by rw [b38 j j0]; exact sV j j0, fun z => by first | (exfalso; omega) | exact fun j j0 => by rw [b38 j j0]; exact sV j j0, fun z => by first | (exfalso; omega) | exact ⟨fun z5 => by first | (exfalso; omega) | exact fun j j0 => (by rw [b38 j j0]; exact sV j j0), by omega, fun j j0 => by rw [a42 j j0], fun j j0 => by rw [a43 j j0]⟩, fun z => by first | (exfalso; omega), fun j j0 jn => by rw [b38 j j0]; rw [sV j j0, if_neg jn], fun j j0 => by rw [a37 j j0, sK j j0]; unfold zf_n0; by_cases y : j = i; (rw [if_pos y, if_pos y]; split <;> omega); (rw [if_neg y, if_neg y])⟩⟩
    · refine zx_T.l (i := .aload_n 0) (k := 1) (v := .ref 34) (pc := 82) rfl rfl rfl ?_
      refine zw_gr (k := 6) (b := 41) (pc := 83) rfl rfl rfl hI ?_
      refine zx_T.l (i := .lload_n 2) (k := 1) (v := .long (zL (zv_b h 35 i))) (pc := 86) rfl rfl rfl ?_
      refine zx_T.g (i := .ldc2_w 105) (k := 3) (st' := [.long 7, .long (zL (zv_b h 35 i)), .ref 41, .int (zI (i)), .ref 34]) (h' := h) (pc := 87) rfl rfl rfl rfl rfl rfl ?_
      refine zr_and7x (x := zv_b h 35 i) (pc := 90) rfl (fun z127a z127b => ?_)
      refine zr_l2i (pc := 91) rfl ?_
      refine zw_iv (b := 41) (cj := 110) (q' := zp_m110) (As := [.int (zI (zi7 (zv_b h 35 i)))]) (rest := [.int (zI (i)), .ref 34]) (pc := 92) rfl rfl rfl rfl rfl rfl rfl (Nat.le_of_ble_eq_true rfl) rfl (Nat.le_of_ble_eq_true rfl) hI ((zm_rAdd (h := h) hI (m := zi7 (zv_b h 35 i)) (by omega) (by omega)).up (Nat.le_of_ble_eq_true rfl)) ?_
      rintro r128 h131 ⟨ih131, w132, v129, r128q, x130⟩
      subst r128q
      try dsimp only at x130
      have aX := x130
      show zx_T zp_P 2 zp_m58 95 [(4, .int (zI (v3))), (2, .long (zL (zv_b h 35 i))), (0, .ref 34), (1, .int (zI (i)))] [.int (zI (v129)), .int (zI (i)), .ref 34] h131 _
      refine zr_i2l (pc := 95) rfl (by omega) (by omega) ?_
      refine zx_T.j (i := .goto 4) (k := 3) (pc' := 100) (st' := [.long (zL (v129)), .int (zI (i)), .ref 34]) (pc := 96) rfl rfl rfl rfl rfl ?_
      refine zw_iv (b := 34) (cj := 72) (q' := zp_m72) (As := [.int (zI (i)), .long (zL (v129))]) (rest := []) (pc := 100) rfl rfl rfl rfl rfl rfl rfl (Nat.le_of_ble_eq_true rfl) rfl (Nat.le_of_ble_eq_true rfl) ih131 ((zm_mSetValue (h := h131) ih131 (i := i) (v := v129) (by omega) (by omega) (by omega) (by omega)).up (Nat.le_of_ble_eq_true rfl)) ?_
      rintro r133 h136 ⟨ih136, w137, r133q, x135⟩
      subst r133q
      try dsimp only at x135
      have sV := x135; rw [show zv_b h131 38 = zv_b h 38 from funext (fun q => zv_wb (w132.wd rfl : zb_W [(37, 0), (42, 0), (43, 0), (41, 2)] h _) rfl q)] at sV
      show zx_T zp_P 2 zp_m58 103 [(4, .int (zI (v3))), (2, .long (zL (zv_b h 35 i))), (0, .ref 34), (1, .int (zI (i)))] [] h136 _
      refine zx_T.l (i := .aload_n 0) (k := 1) (v := .ref 34) (pc := 103) rfl rfl rfl ?_
      refine zw_gr (k := 2) (b := 36) (pc := 104) rfl rfl rfl ih136 ?_
      refine zx_T.l (i := .iload_n 1) (k := 1) (v := .int (zI (i))) (pc := 107) rfl rfl rfl ?_
      refine zx_T.l (i := .iload 4) (k := 2) (v := .int (zI (v3))) (pc := 108) rfl rfl rfl ?_
      refine zx_T.s (i := .iconst 5) (k := 1) (st' := [.int (zI (5)), .int (zI (v3)), .int (zI (i)), .ref 36]) (pc := 110) rfl rfl ?_
      refine zr_i2 (x := v3) (y := 5) (t := 124) (pc := 111) rfl rfl (by omega) (by omega) (by omega) (by omega) (fun (c138 : v3 < 5) => False.elim (by omega)) (fun (c138 : ¬ (v3 < 5)) => ?_)
      refine zx_T.l (i := .lload_n 2) (k := 1) (v := .long (zL (zv_b h 35 i))) (pc := 114) rfl rfl rfl ?_
      refine zx_T.s (i := .lconst 0) (k := 1) (st' := [.long (zL (0)), .long (zL (zv_b h 35 i)), .int (zI (i)), .ref 36]) (pc := 115) rfl rfl ?_
      refine zr_lcmp (pc := 116) rfl (by omega) (by omega) (by omega) (by omega) (fun z139 z139a => ?_)
      refine zr_i1 (x := z139) (t := 124) (pc := 117) rfl rfl (by omega) (by omega) (fun (c140 : 0 ≤ z139) => ?_) (fun (c140 : ¬ (0 ≤ z139)) => ?_)
      · refine zx_T.l (i := .iload 4) (k := 2) (v := .int (zI (v3))) (pc := 124) rfl rfl rfl ?_
        refine zw_iv (b := 36) (cj := 119) (q' := zp_m119) (As := [.int (zI (i)), .int (zI (v3))]) (rest := []) (pc := 126) rfl rfl rfl rfl rfl rfl rfl (Nat.le_of_ble_eq_true rfl) rfl (Nat.le_of_ble_eq_true rfl) ih136 ((zm_setKind_36 (h := h136) ih136 (i := i) (k := v3) (by omega) (by omega) (by omega) (by omega)).up (Nat.le_of_ble_eq_true rfl)) ?_
        rintro r141 h144 ⟨ih144, w145, r141q, x143⟩
        subst r141q
        try dsimp only at x143
        have sk1 := x143
        have sK := x143; rw [show zv_a h136 37 = zv_a h 37 from funext (fun q => zv_wa ((w132.wd rfl : zb_W [(38, 0), (42, 0), (43, 0), (41, 2)] h _).tr (w137.wd rfl)) rfl q)] at sK
        show zx_T zp_P 2 zp_m58 129 [(4, .int (zI (v3))), (2, .long (zL (zv_b h 35 i))), (0, .ref 34), (1, .int (zI (i)))] [] h144 _
        have b38 : ∀ j, 0 ≤ j → zv_b h144 38 j = zv_b h136 38 j := fun j hj => by rw [zv_wb w145 rfl j]
        have a37 : ∀ j, 0 ≤ j → zv_a h144 37 j = zv_a h144 37 j := fun j hj => rfl
        have a42 : ∀ j, 0 ≤ j → zv_a h144 42 j = zv_a h131 42 j := fun j hj => by rw [zv_wa w145 rfl j, zv_wa w137 rfl j]
        have a43 : ∀ j, 0 ≤ j → zv_a h144 43 j = zv_a h131 43 j := fun j hj => by rw [zv_wa w145 rfl j, zv_wa w137 rfl j]
        have y150 : zv_f h144 41 2 = zv_f h131 41 2 := ((zv_wf w145 rfl).trans (zv_wf w137 rfl))
        exact zr_vr (pc := 129) rfl rfl ⟨ih144, (((w132.wd rfl : zb_W [(38, 0), (37, 0), (42, 0), (43, 0), (41, 2)] h _).tr (w137.wd rfl)).tr (w145.wd rfl)), rfl, by dsimp only; exact ⟨fun z => by first | (exfalso; omega) | exact fun j j0 => by rw [b38 j j0]; exact sV j j0, fun z => by first | (exfalso; omega) | exact fun j j0 => by rw [b38 j j0]; exact sV j j0, fun z => by first | (exfalso; omega) | exact ⟨fun z5 => by first | (exfalso; omega) | exact fun j j0 => (by rw [b38 j j0]; exact sV j j0), by omega, fun j j0 => by rw [a42 j j0], fun j j0 => by rw [a43 j j0]⟩, fun z => by first | (exfalso; omega) | (rcases aX with y | y; (exfalso; omega); exact ⟨fun j j0 => (by rw [b38 j j0, sV j j0, y.2.1]), by omega, fun j j0 => (by rw [a42 j j0, y.2.2.2.1 j j0]), fun j j0 => (by rw [a43 j j0, y.2.2.2.2 j j0])⟩), fun j j0 jn => by rw [b38 j j0]; rw [sV j j0, if_neg jn], fun j j0 => by rw [a37 j j0, sK j j0]; unfold zf_n0; by_cases y : j = i; (rw [if_pos y, if_pos y]; split <;> omega); (rw [if_neg y, if_neg y])⟩⟩
      · refine zx_T.s (i := .iconst 4) (k := 1) (st' := [.int (zI (4)), .int (zI (i)), .ref 36]) (pc := 120) rfl rfl ?_
        refine zx_T.j (i := .goto 5) (k := 3) (pc' := 126) (st' := [.int (zI (4)), .int (zI (i)), .ref 36]) (pc := 121) rfl rfl rfl rfl rfl ?_
        refine zw_iv (b := 36) (cj := 119) (q' := zp_m119) (As := [.int (zI (i)), .int (zI (4))]) (rest := []) (pc := 126) rfl rfl rfl rfl rfl rfl rfl (Nat.le_of_ble_eq_true rfl) rfl (Nat.le_of_ble_eq_true rfl) ih136 ((zm_setKind_36 (h := h136) ih136 (i := i) (k := 4) (by omega) (by omega) (by omega) (by omega)).up (Nat.le_of_ble_eq_true rfl)) ?_
        rintro r151 h154 ⟨ih154, w155, r151q, x153⟩
        subst r151q
        try dsimp only at x153
        have sk1 := x153
        have sK := x153; rw [show zv_a h136 37 = zv_a h 37 from funext (fun q => zv_wa ((w132.wd rfl : zb_W [(38, 0), (42, 0), (43, 0), (41, 2)] h _).tr (w137.wd rfl)) rfl q)] at sK
        show zx_T zp_P 2 zp_m58 129 [(4, .int (zI (v3))), (2, .long (zL (zv_b h 35 i))), (0, .ref 34), (1, .int (zI (i)))] [] h154 _
        have b38 : ∀ j, 0 ≤ j → zv_b h154 38 j = zv_b h136 38 j := fun j hj => by rw [zv_wb w155 rfl j]
        have a37 : ∀ j, 0 ≤ j → zv_a h154 37 j = zv_a h154 37 j := fun j hj => rfl
        have a42 : ∀ j, 0 ≤ j → zv_a h154 42 j = zv_a h131 42 j := fun j hj => by rw [zv_wa w155 rfl j, zv_wa w137 rfl j]
        have a43 : ∀ j, 0 ≤ j → zv_a h154 43 j = zv_a h131 43 j := fun j hj => by rw [zv_wa w155 rfl j, zv_wa w137 rfl j]
        have y160 : zv_f h154 41 2 = zv_f h131 41 2 := ((zv_wf w155 rfl).trans (zv_wf w137 rfl))
        exact zr_vr (pc := 129) rfl rfl ⟨ih154, (((w132.wd rfl : zb_W [(38, 0), (37, 0), (42, 0), (43, 0), (41, 2)] h _).tr (w137.wd rfl)).tr (w155.wd rfl)), rfl, by dsimp only; exact ⟨fun z => by first | (exfalso; omega) | exact fun j j0 => by rw [b38 j j0]; exact sV j j0, fun z => by first | (exfalso; omega) | exact fun j j0 => by rw [b38 j j0]; exact sV j j0, fun z => by first | (exfalso; omega) | exact ⟨fun z5 => by first | (exfalso; omega) | exact fun j j0 => (by rw [b38 j j0]; exact sV j j0), by omega, fun j j0 => by rw [a42 j j0], fun j j0 => by rw [a43 j j0]⟩, fun z => by first | (exfalso; omega) | (rcases aX with y | y; (exfalso; omega); exact ⟨fun j j0 => (by rw [b38 j j0, sV j j0, y.2.1]), by omega, fun j j0 => (by rw [a42 j j0, y.2.2.2.1 j j0]), fun j j0 => (by rw [a43 j j0, y.2.2.2.2 j j0])⟩), fun j j0 jn => by rw [b38 j j0]; rw [sV j j0, if_neg jn], fun j j0 => by rw [a37 j j0, sK j j0]; unfold zf_n0; by_cases y : j = i; (rw [if_pos y, if_pos y]; split <;> omega); (rw [if_neg y, if_neg y])⟩⟩
  · refine zr_sw (i := .tableswitch 48 1 3 #[25, 36, 45]) (len := 25) (t := 67) (x := v3) (k := 7) (pc := 19) rfl c6 rfl rfl rfl rfl ?_
    refine zx_T.l (i := .aload_n 0) (k := 1) (v := .ref 34) (pc := 67) rfl rfl rfl ?_
    refine zx_T.l (i := .iload_n 1) (k := 1) (v := .int (zI (i))) (pc := 68) rfl rfl rfl ?_
    refine zx_T.l (i := .iload 4) (k := 2) (v := .int (zI (v3))) (pc := 69) rfl rfl rfl ?_
    refine zx_T.s (i := .bipush 6) (k := 2) (st' := [.int (zI (6)), .int (zI (v3)), .int (zI (i)), .ref 34]) (pc := 71) rfl rfl ?_
    refine zr_i2 (x := v3) (y := 6) (t := 99) (pc := 73) rfl rfl (by omega) (by omega) (by omega) (by omega) (fun (c161 : ¬ v3 = 6) => ?_) (fun (c161 : ¬ (¬ v3 = 6)) => False.elim (by omega))
    refine zx_T.s (i := .lconst 0) (k := 1) (st' := [.long (zL (0)), .int (zI (i)), .ref 34]) (pc := 99) rfl rfl ?_
    refine zw_iv (b := 34) (cj := 72) (q' := zp_m72) (As := [.int (zI (i)), .long (zL (0))]) (rest := []) (pc := 100) rfl rfl rfl rfl rfl rfl rfl (Nat.le_of_ble_eq_true rfl) rfl (Nat.le_of_ble_eq_true rfl) hI ((zm_mSetValue (h := h) hI (i := i) (v := 0) (by omega) (by omega) (by omega) (by omega)).up (Nat.le_of_ble_eq_true rfl)) ?_
    rintro r162 h165 ⟨ih165, w166, r162q, x164⟩
    subst r162q
    try dsimp only at x164
    have sV := x164
    show zx_T zp_P 2 zp_m58 103 [(4, .int (zI (v3))), (2, .long (zL (zv_b h 35 i))), (0, .ref 34), (1, .int (zI (i)))] [] h165 _
    refine zx_T.l (i := .aload_n 0) (k := 1) (v := .ref 34) (pc := 103) rfl rfl rfl ?_
    refine zw_gr (k := 2) (b := 36) (pc := 104) rfl rfl rfl ih165 ?_
    refine zx_T.l (i := .iload_n 1) (k := 1) (v := .int (zI (i))) (pc := 107) rfl rfl rfl ?_
    refine zx_T.l (i := .iload 4) (k := 2) (v := .int (zI (v3))) (pc := 108) rfl rfl rfl ?_
    refine zx_T.s (i := .iconst 5) (k := 1) (st' := [.int (zI (5)), .int (zI (v3)), .int (zI (i)), .ref 36]) (pc := 110) rfl rfl ?_
    refine zr_i2 (x := v3) (y := 5) (t := 124) (pc := 111) rfl rfl (by omega) (by omega) (by omega) (by omega) (fun (c167 : v3 < 5) => False.elim (by omega)) (fun (c167 : ¬ (v3 < 5)) => ?_)
    refine zx_T.l (i := .lload_n 2) (k := 1) (v := .long (zL (zv_b h 35 i))) (pc := 114) rfl rfl rfl ?_
    refine zx_T.s (i := .lconst 0) (k := 1) (st' := [.long (zL (0)), .long (zL (zv_b h 35 i)), .int (zI (i)), .ref 36]) (pc := 115) rfl rfl ?_
    refine zr_lcmp (pc := 116) rfl (by omega) (by omega) (by omega) (by omega) (fun z168 z168a => ?_)
    refine zr_i1 (x := z168) (t := 124) (pc := 117) rfl rfl (by omega) (by omega) (fun (c169 : 0 ≤ z168) => ?_) (fun (c169 : ¬ (0 ≤ z168)) => ?_)
    · refine zx_T.l (i := .iload 4) (k := 2) (v := .int (zI (v3))) (pc := 124) rfl rfl rfl ?_
      refine zw_iv (b := 36) (cj := 119) (q' := zp_m119) (As := [.int (zI (i)), .int (zI (v3))]) (rest := []) (pc := 126) rfl rfl rfl rfl rfl rfl rfl (Nat.le_of_ble_eq_true rfl) rfl (Nat.le_of_ble_eq_true rfl) ih165 ((zm_setKind_36 (h := h165) ih165 (i := i) (k := v3) (by omega) (by omega) (by omega) (by omega)).up (Nat.le_of_ble_eq_true rfl)) ?_
      rintro r170 h173 ⟨ih173, w174, r170q, x172⟩
      subst r170q
      try dsimp only at x172
      have sk1 := x172
      have sK := x172; rw [show zv_a h165 37 = zv_a h 37 from funext (fun q => zv_wa (w166.wd rfl : zb_W [(38, 0), (42, 0), (43, 0), (41, 2)] h _) rfl q)] at sK
      show zx_T zp_P 2 zp_m58 129 [(4, .int (zI (v3))), (2, .long (zL (zv_b h 35 i))), (0, .ref 34), (1, .int (zI (i)))] [] h173 _
      have b38 : ∀ j, 0 ≤ j → zv_b h173 38 j = zv_b h165 38 j := fun j hj => by rw [zv_wb w174 rfl j]
      have a37 : ∀ j, 0 ≤ j → zv_a h173 37 j = zv_a h173 37 j := fun j hj => rfl
      have a42 : ∀ j, 0 ≤ j → zv_a h173 42 j = zv_a h 42 j := fun j hj => by rw [zv_wa w174 rfl j, zv_wa w166 rfl j]
      have a43 : ∀ j, 0 ≤ j → zv_a h173 43 j = zv_a h 43 j := fun j hj => by rw [zv_wa w174 rfl j, zv_wa w166 rfl j]
      have y179 : zv_f h173 41 2 = zv_f h 41 2 := ((zv_wf w174 rfl).trans (zv_wf w166 rfl))
      exact zr_vr (pc := 129) rfl rfl ⟨ih173, ((w166.wd rfl : zb_W [(38, 0), (37, 0), (42, 0), (43, 0), (41, 2)] h _).tr (w174.wd rfl)), rfl, by dsimp only; exact ⟨fun z => by first | (exfalso; omega) | exact fun j j0 => by rw [b38 j j0]; exact sV j j0, fun z => by first | (exfalso; omega) | exact fun j j0 => by rw [b38 j j0]; exact sV j j0, fun z => by first | (exfalso; omega) | exact ⟨fun z5 => by first | (exfalso; omega) | exact fun j j0 => (by rw [b38 j j0]; exact sV j j0), by omega, fun j j0 => by rw [a42 j j0], fun j j0 => by rw [a43 j j0]⟩, fun z => by first | (exfalso; omega), fun j j0 jn => by rw [b38 j j0]; rw [sV j j0, if_neg jn], fun j j0 => by rw [a37 j j0, sK j j0]; unfold zf_n0; by_cases y : j = i; (rw [if_pos y, if_pos y]; split <;> omega); (rw [if_neg y, if_neg y])⟩⟩
    · refine zx_T.s (i := .iconst 4) (k := 1) (st' := [.int (zI (4)), .int (zI (i)), .ref 36]) (pc := 120) rfl rfl ?_
      refine zx_T.j (i := .goto 5) (k := 3) (pc' := 126) (st' := [.int (zI (4)), .int (zI (i)), .ref 36]) (pc := 121) rfl rfl rfl rfl rfl ?_
      refine zw_iv (b := 36) (cj := 119) (q' := zp_m119) (As := [.int (zI (i)), .int (zI (4))]) (rest := []) (pc := 126) rfl rfl rfl rfl rfl rfl rfl (Nat.le_of_ble_eq_true rfl) rfl (Nat.le_of_ble_eq_true rfl) ih165 ((zm_setKind_36 (h := h165) ih165 (i := i) (k := 4) (by omega) (by omega) (by omega) (by omega)).up (Nat.le_of_ble_eq_true rfl)) ?_
      rintro r180 h183 ⟨ih183, w184, r180q, x182⟩
      subst r180q
      try dsimp only at x182
      have sk1 := x182
      have sK := x182; rw [show zv_a h165 37 = zv_a h 37 from funext (fun q => zv_wa (w166.wd rfl : zb_W [(38, 0), (42, 0), (43, 0), (41, 2)] h _) rfl q)] at sK
      show zx_T zp_P 2 zp_m58 129 [(4, .int (zI (v3))), (2, .long (zL (zv_b h 35 i))), (0, .ref 34), (1, .int (zI (i)))] [] h183 _
      have b38 : ∀ j, 0 ≤ j → zv_b h183 38 j = zv_b h165 38 j := fun j hj => by rw [zv_wb w184 rfl j]
      have a37 : ∀ j, 0 ≤ j → zv_a h183 37 j = zv_a h183 37 j := fun j hj => rfl
      have a42 : ∀ j, 0 ≤ j → zv_a h183 42 j = zv_a h 42 j := fun j hj => by rw [zv_wa w184 rfl j, zv_wa w166 rfl j]
      have a43 : ∀ j, 0 ≤ j → zv_a h183 43 j = zv_a h 43 j := fun j hj => by rw [zv_wa w184 rfl j, zv_wa w166 rfl j]
      have y189 : zv_f h183 41 2 = zv_f h 41 2 := ((zv_wf w184 rfl).trans (zv_wf w166 rfl))
      exact zr_vr (pc := 129) rfl rfl ⟨ih183, ((w166.wd rfl : zb_W [(38, 0), (37, 0), (42, 0), (43, 0), (41, 2)] h _).tr (w184.wd rfl)), rfl, by dsimp only; exact ⟨fun z => by first | (exfalso; omega) | exact fun j j0 => by rw [b38 j j0]; exact sV j j0, fun z => by first | (exfalso; omega) | exact fun j j0 => by rw [b38 j j0]; exact sV j j0, fun z => by first | (exfalso; omega) | exact ⟨fun z5 => by first | (exfalso; omega) | exact fun j j0 => (by rw [b38 j j0]; exact sV j j0), by omega, fun j j0 => by rw [a42 j j0], fun j j0 => by rw [a43 j j0]⟩, fun z => by first | (exfalso; omega), fun j j0 jn => by rw [b38 j j0]; rw [sV j j0, if_neg jn], fun j j0 => by rw [a37 j j0, sK j j0]; unfold zf_n0; by_cases y : j = i; (rw [if_pos y, if_pos y]; split <;> omega); (rw [if_neg y, if_neg y])⟩⟩
  · refine zr_sw (i := .tableswitch 48 1 3 #[25, 36, 45]) (len := 25) (t := 67) (x := v3) (k := 8) (pc := 19) rfl c6 rfl rfl rfl rfl ?_
    refine zx_T.l (i := .aload_n 0) (k := 1) (v := .ref 34) (pc := 67) rfl rfl rfl ?_
    refine zx_T.l (i := .iload_n 1) (k := 1) (v := .int (zI (i))) (pc := 68) rfl rfl rfl ?_
    refine zx_T.l (i := .iload 4) (k := 2) (v := .int (zI (v3))) (pc := 69) rfl rfl rfl ?_
    refine zx_T.s (i := .bipush 6) (k := 2) (st' := [.int (zI (6)), .int (zI (v3)), .int (zI (i)), .ref 34]) (pc := 71) rfl rfl ?_
    refine zr_i2 (x := v3) (y := 6) (t := 99) (pc := 73) rfl rfl (by omega) (by omega) (by omega) (by omega) (fun (c190 : ¬ v3 = 6) => ?_) (fun (c190 : ¬ (¬ v3 = 6)) => False.elim (by omega))
    refine zx_T.s (i := .lconst 0) (k := 1) (st' := [.long (zL (0)), .int (zI (i)), .ref 34]) (pc := 99) rfl rfl ?_
    refine zw_iv (b := 34) (cj := 72) (q' := zp_m72) (As := [.int (zI (i)), .long (zL (0))]) (rest := []) (pc := 100) rfl rfl rfl rfl rfl rfl rfl (Nat.le_of_ble_eq_true rfl) rfl (Nat.le_of_ble_eq_true rfl) hI ((zm_mSetValue (h := h) hI (i := i) (v := 0) (by omega) (by omega) (by omega) (by omega)).up (Nat.le_of_ble_eq_true rfl)) ?_
    rintro r191 h194 ⟨ih194, w195, r191q, x193⟩
    subst r191q
    try dsimp only at x193
    have sV := x193
    show zx_T zp_P 2 zp_m58 103 [(4, .int (zI (v3))), (2, .long (zL (zv_b h 35 i))), (0, .ref 34), (1, .int (zI (i)))] [] h194 _
    refine zx_T.l (i := .aload_n 0) (k := 1) (v := .ref 34) (pc := 103) rfl rfl rfl ?_
    refine zw_gr (k := 2) (b := 36) (pc := 104) rfl rfl rfl ih194 ?_
    refine zx_T.l (i := .iload_n 1) (k := 1) (v := .int (zI (i))) (pc := 107) rfl rfl rfl ?_
    refine zx_T.l (i := .iload 4) (k := 2) (v := .int (zI (v3))) (pc := 108) rfl rfl rfl ?_
    refine zx_T.s (i := .iconst 5) (k := 1) (st' := [.int (zI (5)), .int (zI (v3)), .int (zI (i)), .ref 36]) (pc := 110) rfl rfl ?_
    refine zr_i2 (x := v3) (y := 5) (t := 124) (pc := 111) rfl rfl (by omega) (by omega) (by omega) (by omega) (fun (c196 : v3 < 5) => False.elim (by omega)) (fun (c196 : ¬ (v3 < 5)) => ?_)
    refine zx_T.l (i := .lload_n 2) (k := 1) (v := .long (zL (zv_b h 35 i))) (pc := 114) rfl rfl rfl ?_
    refine zx_T.s (i := .lconst 0) (k := 1) (st' := [.long (zL (0)), .long (zL (zv_b h 35 i)), .int (zI (i)), .ref 36]) (pc := 115) rfl rfl ?_
    refine zr_lcmp (pc := 116) rfl (by omega) (by omega) (by omega) (by omega) (fun z197 z197a => ?_)
    refine zr_i1 (x := z197) (t := 124) (pc := 117) rfl rfl (by omega) (by omega) (fun (c198 : 0 ≤ z197) => ?_) (fun (c198 : ¬ (0 ≤ z197)) => ?_)
    · refine zx_T.l (i := .iload 4) (k := 2) (v := .int (zI (v3))) (pc := 124) rfl rfl rfl ?_
      refine zw_iv (b := 36) (cj := 119) (q' := zp_m119) (As := [.int (zI (i)), .int (zI (v3))]) (rest := []) (pc := 126) rfl rfl rfl rfl rfl rfl rfl (Nat.le_of_ble_eq_true rfl) rfl (Nat.le_of_ble_eq_true rfl) ih194 ((zm_setKind_36 (h := h194) ih194 (i := i) (k := v3) (by omega) (by omega) (by omega) (by omega)).up (Nat.le_of_ble_eq_true rfl)) ?_
      rintro r199 h202 ⟨ih202, w203, r199q, x201⟩
      subst r199q
      try dsimp only at x201
      have sk1 := x201
      have sK := x201; rw [show zv_a h194 37 = zv_a h 37 from funext (fun q => zv_wa (w195.wd rfl : zb_W [(38, 0), (42, 0), (43, 0), (41, 2)] h _) rfl q)] at sK
      show zx_T zp_P 2 zp_m58 129 [(4, .int (zI (v3))), (2, .long (zL (zv_b h 35 i))), (0, .ref 34), (1, .int (zI (i)))] [] h202 _
      have b38 : ∀ j, 0 ≤ j → zv_b h202 38 j = zv_b h194 38 j := fun j hj => by rw [zv_wb w203 rfl j]
      have a37 : ∀ j, 0 ≤ j → zv_a h202 37 j = zv_a h202 37 j := fun j hj => rfl
      have a42 : ∀ j, 0 ≤ j → zv_a h202 42 j = zv_a h 42 j := fun j hj => by rw [zv_wa w203 rfl j, zv_wa w195 rfl j]
      have a43 : ∀ j, 0 ≤ j → zv_a h202 43 j = zv_a h 43 j := fun j hj => by rw [zv_wa w203 rfl j, zv_wa w195 rfl j]
      have y208 : zv_f h202 41 2 = zv_f h 41 2 := ((zv_wf w203 rfl).trans (zv_wf w195 rfl))
      exact zr_vr (pc := 129) rfl rfl ⟨ih202, ((w195.wd rfl : zb_W [(38, 0), (37, 0), (42, 0), (43, 0), (41, 2)] h _).tr (w203.wd rfl)), rfl, by dsimp only; exact ⟨fun z => by first | (exfalso; omega) | exact fun j j0 => by rw [b38 j j0]; exact sV j j0, fun z => by first | (exfalso; omega) | exact fun j j0 => by rw [b38 j j0]; exact sV j j0, fun z => by first | (exfalso; omega) | exact ⟨fun z5 => by first | (exfalso; omega) | exact fun j j0 => (by rw [b38 j j0]; exact sV j j0), by omega, fun j j0 => by rw [a42 j j0], fun j j0 => by rw [a43 j j0]⟩, fun z => by first | (exfalso; omega), fun j j0 jn => by rw [b38 j j0]; rw [sV j j0, if_neg jn], fun j j0 => by rw [a37 j j0, sK j j0]; unfold zf_n0; by_cases y : j = i; (rw [if_pos y, if_pos y]; split <;> omega); (rw [if_neg y, if_neg y])⟩⟩
    · refine zx_T.s (i := .iconst 4) (k := 1) (st' := [.int (zI (4)), .int (zI (i)), .ref 36]) (pc := 120) rfl rfl ?_
      refine zx_T.j (i := .goto 5) (k := 3) (pc' := 126) (st' := [.int (zI (4)), .int (zI (i)), .ref 36]) (pc := 121) rfl rfl rfl rfl rfl ?_
      refine zw_iv (b := 36) (cj := 119) (q' := zp_m119) (As := [.int (zI (i)), .int (zI (4))]) (rest := []) (pc := 126) rfl rfl rfl rfl rfl rfl rfl (Nat.le_of_ble_eq_true rfl) rfl (Nat.le_of_ble_eq_true rfl) ih194 ((zm_setKind_36 (h := h194) ih194 (i := i) (k := 4) (by omega) (by omega) (by omega) (by omega)).up (Nat.le_of_ble_eq_true rfl)) ?_
      rintro r209 h212 ⟨ih212, w213, r209q, x211⟩
      subst r209q
      try dsimp only at x211
      have sk1 := x211
      have sK := x211; rw [show zv_a h194 37 = zv_a h 37 from funext (fun q => zv_wa (w195.wd rfl : zb_W [(38, 0), (42, 0), (43, 0), (41, 2)] h _) rfl q)] at sK
      show zx_T zp_P 2 zp_m58 129 [(4, .int (zI (v3))), (2, .long (zL (zv_b h 35 i))), (0, .ref 34), (1, .int (zI (i)))] [] h212 _
      have b38 : ∀ j, 0 ≤ j → zv_b h212 38 j = zv_b h194 38 j := fun j hj => by rw [zv_wb w213 rfl j]
      have a37 : ∀ j, 0 ≤ j → zv_a h212 37 j = zv_a h212 37 j := fun j hj => rfl
      have a42 : ∀ j, 0 ≤ j → zv_a h212 42 j = zv_a h 42 j := fun j hj => by rw [zv_wa w213 rfl j, zv_wa w195 rfl j]
      have a43 : ∀ j, 0 ≤ j → zv_a h212 43 j = zv_a h 43 j := fun j hj => by rw [zv_wa w213 rfl j, zv_wa w195 rfl j]
      have y218 : zv_f h212 41 2 = zv_f h 41 2 := ((zv_wf w213 rfl).trans (zv_wf w195 rfl))
      exact zr_vr (pc := 129) rfl rfl ⟨ih212, ((w195.wd rfl : zb_W [(38, 0), (37, 0), (42, 0), (43, 0), (41, 2)] h _).tr (w213.wd rfl)), rfl, by dsimp only; exact ⟨fun z => by first | (exfalso; omega) | exact fun j j0 => by rw [b38 j j0]; exact sV j j0, fun z => by first | (exfalso; omega) | exact fun j j0 => by rw [b38 j j0]; exact sV j j0, fun z => by first | (exfalso; omega) | exact ⟨fun z5 => by first | (exfalso; omega) | exact fun j j0 => (by rw [b38 j j0]; exact sV j j0), by omega, fun j j0 => by rw [a42 j j0], fun j j0 => by rw [a43 j j0]⟩, fun z => by first | (exfalso; omega), fun j j0 jn => by rw [b38 j j0]; rw [sV j j0, if_neg jn], fun j j0 => by rw [a37 j j0, sK j j0]; unfold zf_n0; by_cases y : j = i; (rw [if_pos y, if_pos y]; split <;> omega); (rw [if_neg y, if_neg y])⟩⟩

def zk_bf (h : zx_H) (u : zK) : Prop := zk_b0 (zs_row (zc_Pg h)) (zv_b h 35) u ∧ u.o = 2 ∧ u.c = 0 ∧ u.r = zv_f h 34 14 ∧ ((0 < zv_f h 1 3 ∧ u.p = 0 ∧ u.e = 0 ∧ u.f = 0) ∨ (zv_f h 1 3 = 0 ∧ u.p = -1 ∧ u.e = 1 ∧ u.f = 6))
theorem zk_of_w {W : List (Nat × Nat)} {h h' : zx_H} (w : zb_W W h h') (e : (za_in W 36 1 || za_in W 37 0 || za_in W 38 0 || za_in W 41 2 || za_in W 42 0 || za_in W 43 0 || za_in W 34 9 || za_in W 34 8 || za_in W 34 11 || za_in W 34 12 || za_in W 34 13 || za_in W 34 14) = false) : zk_of h' = zk_of h := by
  simp only [Bool.or_eq_false_iff] at e
  obtain ⟨⟨⟨⟨⟨⟨⟨⟨⟨⟨⟨e1, e2⟩, e3⟩, e4⟩, e5⟩, e6⟩, e7⟩, e8⟩, e9⟩, e10⟩, e11⟩, e12⟩ := e
  unfold zk_of
  rw [zv_wf w e1, zv_wf w e4, zv_wf w e7, zv_wf w e8, zv_wf w e9, zv_wf w e10, zv_wf w e12, zv_wfl w e11, show zv_a h' 37 = zv_a h 37 from funext (fun q => zv_wa w e2 q), show zv_b h' 38 = zv_b h 38 from funext (fun q => zv_wb w e3 q), show zv_a h' 42 = zv_a h 42 from funext (fun q => zv_wa w e5 q), show zv_a h' 43 = zv_a h 43 from funext (fun q => zv_wa w e6 q)]
theorem zk_bi_0 {h' : zx_H} {K A : Int → Int} (a : ∀ j, 0 ≤ j → j < 8 → zv_a h' 37 j = K j) (b : zv_f h' 41 2 = 0) : zk_bi K A 0 (zk_of h') := ⟨fun j j0 j1 => by rw [if_neg (by omega)]; exact a j j0 j1, b, fun j j0 j1 => absurd j1 (by omega)⟩

theorem zk_b0_w {W : List (Nat × Nat)} {h h' : zx_H} {K A : Int → Int} (w : zb_W W h h') (e : (za_in W 36 1 || za_in W 37 0 || za_in W 38 0 || za_in W 41 2 || za_in W 42 0 || za_in W 43 0) = false) (a : zk_b0 K A (zk_of h)) : zk_b0 K A (zk_of h') := by
  simp only [Bool.or_eq_false_iff] at e
  obtain ⟨⟨⟨⟨⟨e1, e2⟩, e3⟩, e4⟩, e5⟩, e6⟩ := e
  obtain ⟨a1, a2, a3, a4⟩ := a
  refine ⟨(zv_wf w e1).trans a1, fun j j0 j1 => (zv_wa w e2 j).trans (a2 j j0 j1), (zv_wf w e4).trans a3, fun j j0 j1 => ?_⟩
  obtain ⟨x1, x2, x3, x4⟩ := a4 j j0 j1
  refine ⟨fun z => (zv_wb w e3 j).trans (x1 z), fun z => (zv_wb w e3 j).trans (x2 z), fun z1 z2 => ?_, fun z1 z2 => (zv_wb w e3 j).trans (x4 z1 z2)⟩
  obtain ⟨y1, y2, y3⟩ := x3 z1 z2
  exact ⟨(zv_wb w e3 j).trans y1, (zv_wa w e5 _).trans y2, fun i i0 i1 => (zv_wa w e6 _).trans (y3 i i0 i1)⟩

set_option maxRecDepth 100000 in
set_option maxHeartbeats 4000000 in
theorem zm_mBeginR_L {h : zx_H} (hI : zb_I zc_H h)  (hK : ∀ j, 0 ≤ j → j < 8 → 0 ≤ zs_row (zc_Pg h) j ∧ zs_row (zc_Pg h) j ≤ 8) (n : Nat) : (∀ {h2 : zx_H} {i : Int} (hI2 : zb_I zc_H h2) (i1 : 0 ≤ i) (i2 : i ≤ 8) (hw : zb_W [(38, 0), (37, 0), (42, 0), (43, 0), (41, 2), (36, 1), (34, 7), (34, 8), (34, 9), (34, 10), (34, 11), (34, 12), (34, 13)] h h2) (ff : zv_f h2 34 7 = 1 ∧ zv_f h2 34 8 = 0 ∧ zv_f h2 34 9 = 0 ∧ zv_f h2 34 10 = 0 ∧ zv_f h2 34 11 = 2 ∧ zv_f h2 34 12 = 0) (fl : zv_fl h2 34 13 = 0) (s0 : zv_f h2 36 1 = 0) (bi : zk_bi (zs_row (zc_Pg h)) (zv_b h 35) i (zk_of h2)), (100 - i : Int).toNat < n → zx_T zp_P 3 zp_m57 55 [(0, .ref 34), (1, .int (zI (i)))] [] h2 (zr_V [(38, 0), (37, 0), (42, 0), (43, 0), (41, 2), (36, 1), (34, 7), (34, 8), (34, 9), (34, 10), (34, 11), (34, 12), (34, 13)] h (fun h' => zk_bf h (zk_of h') ∧ zv_f h' 34 7 = 1 ∧ zv_f h' 34 10 = 0))) := by
  induction n with
  | zero => exact fun _ _ _ _ _ _ _ _ hm => absurd hm (Nat.not_lt_zero _)
  | succ n ih =>
    intro h2 i hI2 i1 i2 hw ff fl s0 bi hm
    have hc2 : zv_f h2 1 3 = zv_f h 1 3 := zv_wf hw rfl
    refine zx_T.l (i := .iload_n 1) (k := 1) (v := .int (zI (i))) (pc := 55) rfl rfl rfl ?_
    refine zx_T.s (i := .bipush 8) (k := 2) (st' := [.int (zI (8)), .int (zI (i))]) (pc := 56) rfl rfl ?_
    refine zr_i2 (x := i) (y := 8) (t := 72) (pc := 58) rfl rfl (by omega) (by omega) (by omega) (by omega) (fun (c1 : 8 ≤ i) => ?_) (fun (c1 : ¬ (8 ≤ i)) => ?_)
    · refine zx_T.l (i := .aload_n 0) (k := 1) (v := .ref 34) (pc := 72) rfl rfl rfl ?_
      refine zw_gr (k := 0) (b := 1) (pc := 73) rfl rfl rfl hI2 ?_
      refine zw_iv (b := 1) (cj := 4) (q' := zp_m4) (As := []) (rest := []) (pc := 76) rfl rfl rfl rfl rfl rfl rfl (Nat.le_of_ble_eq_true rfl) rfl (Nat.le_of_ble_eq_true rfl) hI2 ((zm_cPlaces (h := h2) hI2  ).up (Nat.le_of_ble_eq_true rfl)) ?_
      rintro r2 h5 ⟨h5q, v3, r2q, x4⟩
      subst h5q r2q
      try dsimp only at x4
      show zx_T zp_P 3 zp_m57 79 [(0, .ref 34), (1, .int (zI (i)))] [.int (zI (v3))] h2 _
      refine zr_i1 (x := v3) (t := 93) (pc := 79) rfl rfl (by omega) (by omega) (fun (c6 : ¬ v3 = 0) => ?_) (fun (c6 : ¬ (¬ v3 = 0)) => ?_)
      · have y13 : zv_f h2 1 3 = zv_f h 1 3 := (zv_wf hw rfl)
        exact zr_vr (pc := 93) rfl rfl ⟨hI2, (hw.wd rfl : zb_W [(38, 0), (37, 0), (42, 0), (43, 0), (41, 2), (36, 1), (34, 7), (34, 8), (34, 9), (34, 10), (34, 11), (34, 12), (34, 13)] h _), rfl, by dsimp only; exact ⟨⟨zk_bi_e (u := zk_of h2) s0 (by have q := bi; rw [show i = 8 by omega] at q; exact q), by show zv_f h2 34 11 = 2; omega, fl, (zv_wf hw rfl : zv_f h2 34 14 = zv_f h 34 14), Or.inl ⟨by omega, by show zv_f h2 34 9 = 0; omega, by show zv_f h2 34 8 = 0; omega, by show zv_f h2 34 12 = 0; omega⟩⟩, by omega, by omega⟩⟩
      · refine zx_T.l (i := .aload_n 0) (k := 1) (v := .ref 34) (pc := 82) rfl rfl rfl ?_
        refine zx_T.s (i := .iconst (-1)) (k := 1) (st' := [.int (zI ((-1))), .ref 34]) (pc := 83) rfl rfl ?_
        refine zw_pi (k := 9) (lo := (-2147483648)) (hi := 2147483647) (e := (-1)) (pc := 84) rfl rfl rfl rfl rfl rfl hI2 (by omega) (by omega) (fun h14 ih14 w15 e16 => ?_)
        refine zx_T.l (i := .aload_n 0) (k := 1) (v := .ref 34) (pc := 87) rfl rfl rfl ?_
        refine zx_T.s (i := .bipush 6) (k := 2) (st' := [.int (zI (6)), .ref 34]) (pc := 88) rfl rfl ?_
        refine zw_iv (b := 34) (cj := 59) (q' := zp_m59) (As := [.int (zI (6))]) (rest := []) (pc := 90) rfl rfl rfl rfl rfl rfl rfl (Nat.le_of_ble_eq_true rfl) rfl (Nat.le_of_ble_eq_true rfl) ih14 ((zm_mRefuse (h := h14) ih14 (f := 6) (by omega) (by omega)).up (Nat.le_of_ble_eq_true rfl)) ?_
        rintro r17 h20 ⟨ih20, w21, r17q, x19⟩
        subst r17q
        try dsimp only at x19
        show zx_T zp_P 3 zp_m57 93 [(0, .ref 34), (1, .int (zI (i)))] [] h20 _
        have y22 : zv_f h20 34 7 = zv_f h2 34 7 := ((zv_wf w21 rfl).trans (zv_wf w15 rfl))
        have y24 : zv_f h20 34 9 = (-1) := ((zv_wf w21 rfl).trans e16)
        have y25 : zv_f h20 34 10 = zv_f h2 34 10 := ((zv_wf w21 rfl).trans (zv_wf w15 rfl))
        have y26 : zv_f h20 34 11 = zv_f h2 34 11 := ((zv_wf w21 rfl).trans (zv_wf w15 rfl))
        have y28 : zv_f h20 1 3 = zv_f h 1 3 := ((zv_wf w21 rfl).trans ((zv_wf w15 rfl).trans (zv_wf hw rfl)))
        exact zr_vr (pc := 93) rfl rfl ⟨ih20, (((hw.wd rfl : zb_W [(38, 0), (37, 0), (42, 0), (43, 0), (41, 2), (36, 1), (34, 7), (34, 8), (34, 9), (34, 10), (34, 11), (34, 12), (34, 13)] h _).tr (w15.wd rfl)).tr (w21.wd rfl)), rfl, by dsimp only; exact ⟨⟨(by have q := zk_bi_e (u := zk_of h2) s0 (by have q := bi; rw [show i = 8 by omega] at q; exact q); exact zk_b0_w ((w15.wd rfl : zb_W [(34, 9), (34, 12), (34, 8)] h2 _).tr (w21.wd rfl)) rfl q), (show zv_f h20 34 11 = 2 by omega), (zv_wfl ((w15.wd rfl : zb_W [(34, 9), (34, 12), (34, 8)] h2 _).tr (w21.wd rfl)) rfl).trans fl, (zv_wf (((hw.wd rfl : zb_W [(38, 0), (37, 0), (42, 0), (43, 0), (41, 2), (36, 1), (34, 7), (34, 8), (34, 9), (34, 10), (34, 11), (34, 12), (34, 13)] h _).tr (w15.wd rfl)).tr (w21.wd rfl)) rfl : zv_f _ 34 14 = zv_f h 34 14), Or.inr ⟨by omega, (show zv_f h20 34 9 = -1 by omega), (show zv_f h20 34 8 = 1 by omega), (show zv_f h20 34 12 = 6 by omega)⟩⟩, by omega, by omega⟩⟩
    · refine zx_T.l (i := .aload_n 0) (k := 1) (v := .ref 34) (pc := 61) rfl rfl rfl ?_
      refine zx_T.l (i := .iload_n 1) (k := 1) (v := .int (zI (i))) (pc := 62) rfl rfl rfl ?_
      refine zw_iv (b := 34) (cj := 58) (q' := zp_m58) (As := [.int (zI (i))]) (rest := []) (pc := 63) rfl rfl rfl rfl rfl rfl rfl (Nat.le_of_ble_eq_true rfl) rfl (Nat.le_of_ble_eq_true rfl) hI2 ((zm_mBeginLocal (h := h2) hI2 (i := i) (by omega) (by omega) (by have q := bi.2.1; have c := (zf_cn_b (K := zs_row (zc_Pg h)) (A := zv_b h 35) i.toNat).2; have q2 : zv_f h2 41 2 = _ := q; omega) (by have q := bi.1 i (by omega) (by omega); rw [if_neg (by omega)] at q; have q2 : zv_a h2 37 i = _ := q; rw [q2]; exact hK i (by omega) (by omega))).up (Nat.le_of_ble_eq_true rfl)) ?_
      rintro r29 h32 ⟨ih32, w33, r29q, x31⟩
      subst r29q
      try dsimp only at x31
      have bL := x31
      show zx_T zp_P 3 zp_m57 66 [(0, .ref 34), (1, .int (zI (i)))] [] h32 _
      refine zr_inc (x := i) (n := 1) (y := i + 1) (ls' := [(1, .int (zI (i + 1))), (0, .ref 34)]) (pc := 66) rfl rfl rfl (by omega) rfl ?_
      refine zx_T.j (i := .goto (-14)) (k := 3) (pc' := 55) (st' := []) (pc := 69) rfl rfl rfl rfl rfl ?_
      have y34 : zv_f h32 34 7 = zv_f h2 34 7 := (zv_wf w33 rfl)
      have y35 : zv_f h32 34 8 = zv_f h2 34 8 := (zv_wf w33 rfl)
      have y36 : zv_f h32 34 9 = zv_f h2 34 9 := (zv_wf w33 rfl)
      have y37 : zv_f h32 34 10 = zv_f h2 34 10 := (zv_wf w33 rfl)
      have y38 : zv_f h32 34 11 = zv_f h2 34 11 := (zv_wf w33 rfl)
      have y39 : zv_f h32 34 12 = zv_f h2 34 12 := (zv_wf w33 rfl)
      have y40 : zv_f h32 36 1 = zv_f h2 36 1 := (zv_wf w33 rfl)
      refine zx_T.lk (ls' := [(0, .ref 34), (1, .int (zI (i + 1)))]) rfl ⟨rfl, rfl, trivial⟩ ?_
      exact ih (h2 := h32) (i := i + 1) ih32 (by omega) (by omega) ((hw.wd rfl : zb_W [(38, 0), (37, 0), (42, 0), (43, 0), (41, 2), (36, 1), (34, 7), (34, 8), (34, 9), (34, 10), (34, 11), (34, 12), (34, 13)] h _).tr (w33.wd rfl)) (by omega) ((zv_wfl w33 rfl).trans fl) (by omega) (zk_bi_s (by omega) (by omega) bi (by have q := bL; rw [show zv_b h2 35 = zv_b h 35 from funext (fun q => zv_wb hw rfl q)] at q; exact q)) (by omega)
set_option maxRecDepth 100000 in
set_option maxHeartbeats 4000000 in
theorem zm_mBeginR {h : zx_H} (hI : zb_I zc_H h)  (hK : ∀ j, 0 ≤ j → j < 8 → 0 ≤ zs_row (zc_Pg h) j ∧ zs_row (zc_Pg h) j ≤ 8) : zx_T zp_P 3 zp_m57 0 [(0, .ref 34)] [] h (zr_V [(38, 0), (37, 0), (42, 0), (43, 0), (41, 2), (36, 1), (34, 7), (34, 8), (34, 9), (34, 10), (34, 11), (34, 12), (34, 13)] h (fun h' => zk_bf h (zk_of h') ∧ zv_f h' 34 7 = 1 ∧ zv_f h' 34 10 = 0)) := by
  refine zx_T.l (i := .aload_n 0) (k := 1) (v := .ref 34) (pc := 0) rfl rfl rfl ?_
  refine zx_T.s (i := .iconst 1) (k := 1) (st' := [.int (zI (1)), .ref 34]) (pc := 1) rfl rfl ?_
  refine zw_pi (k := 7) (lo := 0) (hi := 1) (e := 1) (pc := 2) rfl rfl rfl rfl rfl rfl hI (by omega) (by omega) (fun h42 ih42 w43 e44 => ?_)
  refine zx_T.l (i := .aload_n 0) (k := 1) (v := .ref 34) (pc := 5) rfl rfl rfl ?_
  refine zx_T.s (i := .iconst 0) (k := 1) (st' := [.int (zI (0)), .ref 34]) (pc := 6) rfl rfl ?_
  refine zw_pi (k := 8) (lo := 0) (hi := 1) (e := 0) (pc := 7) rfl rfl rfl rfl rfl rfl ih42 (by omega) (by omega) (fun h45 ih45 w46 e47 => ?_)
  refine zx_T.l (i := .aload_n 0) (k := 1) (v := .ref 34) (pc := 10) rfl rfl rfl ?_
  refine zx_T.s (i := .iconst 0) (k := 1) (st' := [.int (zI (0)), .ref 34]) (pc := 11) rfl rfl ?_
  refine zw_pi (k := 9) (lo := (-2147483648)) (hi := 2147483647) (e := 0) (pc := 12) rfl rfl rfl rfl rfl rfl ih45 (by omega) (by omega) (fun h48 ih48 w49 e50 => ?_)
  refine zx_T.l (i := .aload_n 0) (k := 1) (v := .ref 34) (pc := 15) rfl rfl rfl ?_
  refine zx_T.s (i := .iconst 0) (k := 1) (st' := [.int (zI (0)), .ref 34]) (pc := 16) rfl rfl ?_
  refine zw_pi (k := 10) (lo := 0) (hi := 300) (e := 0) (pc := 17) rfl rfl rfl rfl rfl rfl ih48 (by omega) (by omega) (fun h51 ih51 w52 e53 => ?_)
  refine zx_T.l (i := .aload_n 0) (k := 1) (v := .ref 34) (pc := 20) rfl rfl rfl ?_
  refine zx_T.s (i := .iconst 2) (k := 1) (st' := [.int (zI (2)), .ref 34]) (pc := 21) rfl rfl ?_
  refine zw_pi (k := 11) (lo := (-2147483648)) (hi := 2147483647) (e := 2) (pc := 22) rfl rfl rfl rfl rfl rfl ih51 (by omega) (by omega) (fun h54 ih54 w55 e56 => ?_)
  refine zx_T.l (i := .aload_n 0) (k := 1) (v := .ref 34) (pc := 25) rfl rfl rfl ?_
  refine zx_T.s (i := .iconst 0) (k := 1) (st' := [.int (zI (0)), .ref 34]) (pc := 26) rfl rfl ?_
  refine zw_pi (k := 12) (lo := (-2147483648)) (hi := 2147483647) (e := 0) (pc := 27) rfl rfl rfl rfl rfl rfl ih54 (by omega) (by omega) (fun h57 ih57 w58 e59 => ?_)
  refine zx_T.l (i := .aload_n 0) (k := 1) (v := .ref 34) (pc := 30) rfl rfl rfl ?_
  refine zx_T.s (i := .lconst 0) (k := 1) (st' := [.long (zL (0)), .ref 34]) (pc := 31) rfl rfl ?_
  refine zw_pl2 (k := 13) (e := 0) (pc := 32) rfl rfl rfl rfl ih57 (by omega) (by omega) (fun h60 ih60 w61 e62 => ?_)
  refine zx_T.l (i := .aload_n 0) (k := 1) (v := .ref 34) (pc := 35) rfl rfl rfl ?_
  refine zw_gr (k := 6) (b := 41) (pc := 36) rfl rfl rfl ih60 ?_
  refine zw_iv (b := 41) (cj := 109) (q' := zp_m109) (As := []) (rest := []) (pc := 39) rfl rfl rfl rfl rfl rfl rfl (Nat.le_of_ble_eq_true rfl) rfl (Nat.le_of_ble_eq_true rfl) ih60 ((zm_rForget (h := h60) ih60  ).up (Nat.le_of_ble_eq_true rfl)) ?_
  rintro r63 h66 ⟨ih66, w67, r63q, x65⟩
  subst r63q
  try dsimp only at x65
  have fG := x65
  show zx_T zp_P 3 zp_m57 42 [(0, .ref 34)] [] h66 _
  refine zx_T.l (i := .aload_n 0) (k := 1) (v := .ref 34) (pc := 42) rfl rfl rfl ?_
  refine zw_gr (k := 2) (b := 36) (pc := 43) rfl rfl rfl ih66 ?_
  refine zx_T.l (i := .aload_n 0) (k := 1) (v := .ref 34) (pc := 46) rfl rfl rfl ?_
  refine zw_gr (k := 0) (b := 1) (pc := 47) rfl rfl rfl ih66 ?_
  refine zw_iv (b := 36) (cj := 115) (q' := zp_m115) (As := [.ref 1]) (rest := []) (pc := 50) rfl rfl rfl rfl rfl rfl rfl (Nat.le_of_ble_eq_true rfl) rfl (Nat.le_of_ble_eq_true rfl) ih66 ((zm_begin_36 (h := h66) ih66  ).up (Nat.le_of_ble_eq_true rfl)) ?_
  rintro r68 h71 ⟨ih71, w72, r68q, x70⟩
  subst r68q
  try dsimp only at x70
  have bG := x70
  show zx_T zp_P 3 zp_m57 53 [(0, .ref 34)] [] h71 _
  refine zx_T.s (i := .iconst 0) (k := 1) (st' := [.int (zI (0))]) (pc := 53) rfl rfl ?_
  refine zx_T.t (i := .istore_n 1) (k := 1) (ls' := [(1, .int (zI (0))), (0, .ref 34)]) (st' := []) (pc := 54) rfl rfl rfl rfl ?_
  have y73 : zv_f h71 34 7 = 1 := ((zv_wf w72 rfl).trans ((zv_wf w67 rfl).trans ((zv_wf w61 rfl).trans ((zv_wf w58 rfl).trans ((zv_wf w55 rfl).trans ((zv_wf w52 rfl).trans ((zv_wf w49 rfl).trans ((zv_wf w46 rfl).trans e44))))))))
  have y74 : zv_f h71 34 8 = 0 := ((zv_wf w72 rfl).trans ((zv_wf w67 rfl).trans ((zv_wf w61 rfl).trans ((zv_wf w58 rfl).trans ((zv_wf w55 rfl).trans ((zv_wf w52 rfl).trans ((zv_wf w49 rfl).trans e47)))))))
  have y75 : zv_f h71 34 9 = 0 := ((zv_wf w72 rfl).trans ((zv_wf w67 rfl).trans ((zv_wf w61 rfl).trans ((zv_wf w58 rfl).trans ((zv_wf w55 rfl).trans ((zv_wf w52 rfl).trans e50))))))
  have y76 : zv_f h71 34 10 = 0 := ((zv_wf w72 rfl).trans ((zv_wf w67 rfl).trans ((zv_wf w61 rfl).trans ((zv_wf w58 rfl).trans ((zv_wf w55 rfl).trans e53)))))
  have y77 : zv_f h71 34 11 = 2 := ((zv_wf w72 rfl).trans ((zv_wf w67 rfl).trans ((zv_wf w61 rfl).trans ((zv_wf w58 rfl).trans e56))))
  have y78 : zv_f h71 34 12 = 0 := ((zv_wf w72 rfl).trans ((zv_wf w67 rfl).trans ((zv_wf w61 rfl).trans e59)))
  have y80 : zv_f h71 41 2 = zv_f h66 41 2 := (zv_wf w72 rfl)
  refine zx_T.lk (ls' := [(0, .ref 34), (1, .int (zI (0)))]) rfl ⟨rfl, rfl, trivial⟩ ?_
  exact zm_mBeginR_L (h := h) hI  hK ((100 - 0 : Int).toNat + 1) (h2 := h71) (i := 0) ih71 (by omega) (by omega) (((((((((w43.wd rfl : zb_W [(38, 0), (37, 0), (42, 0), (43, 0), (41, 2), (36, 1), (34, 7), (34, 8), (34, 9), (34, 10), (34, 11), (34, 12), (34, 13)] h _).tr (w46.wd rfl)).tr (w49.wd rfl)).tr (w52.wd rfl)).tr (w55.wd rfl)).tr (w58.wd rfl)).tr (w61.wd rfl)).tr (w67.wd rfl)).tr (w72.wd rfl)) (by omega) (((zv_wfl w72 rfl).trans ((zv_wfl w67 rfl).trans e62))) (by omega) (zk_bi_0 (fun j j0 j1 => by rw [bG.2 j j0 j1, zv_wf ((((((((w43.wd rfl : zb_W [(38, 0), (37, 0), (42, 0), (43, 0), (41, 2), (36, 1), (34, 7), (34, 8), (34, 9), (34, 10), (34, 11), (34, 12), (34, 13)] h _).tr (w46.wd rfl)).tr (w49.wd rfl)).tr (w52.wd rfl)).tr (w55.wd rfl)).tr (w58.wd rfl)).tr (w61.wd rfl)).tr (w67.wd rfl)) (a := 1) (k := 10) rfl, zv_wa ((((((((w43.wd rfl : zb_W [(38, 0), (37, 0), (42, 0), (43, 0), (41, 2), (36, 1), (34, 7), (34, 8), (34, 9), (34, 10), (34, 11), (34, 12), (34, 13)] h _).tr (w46.wd rfl)).tr (w49.wd rfl)).tr (w52.wd rfl)).tr (w55.wd rfl)).tr (w58.wd rfl)).tr (w61.wd rfl)).tr (w67.wd rfl)) (a := 9) rfl]; rfl) (by omega)) (Nat.lt_succ_self _)

theorem zk_bf_k {h : zx_H} {u : zK} (hP : zP.gd (zc_Pg h)) (b : zk_bf h u) : u.e = 1 ∨ (u.e = 0 ∧ (0 ≤ u.p ∧ u.p < zv_f h 1 3) ∧ zw_ok (0, u.S, u.N) ∧ zk_in u.S u.N) := by
  obtain ⟨⟨a1, a2, a3, a4⟩, _, _, _, c⟩ := b
  rcases c with ⟨c1, c2, c3, _⟩ | ⟨_, _, c3, _⟩
  · obtain ⟨_, _, hw, hk⟩ := hP
    generalize zs_row (zc_Pg h) = K at *
    have uN : ∀ j, 0 ≤ j → j < 8 → (u.N j = 2 ↔ K j = 2) ∧ (u.N j = 3 ↔ K j = 3) := fun j j0 j1 => by
      rw [a2 j j0 j1]
      unfold zf_n0
      split
      · omega
      · omega
    refine Or.inr ⟨c3, by omega, ?_, fun j j0 j1 => ?_⟩
    · rw [a1]
      refine ⟨⟨fun j j0 j1 => ?_, fun j j0 j1 => ?_⟩, by show (0 : Int) ≤ 0; decide, by show (0 : Int) ≤ 6; decide⟩
      · have w := hw j j0 j1
        have n0 := uN j j0 j1
        show (u.N j = 2 → j + 1 < 8 ∧ u.N (j + 1) = 3) ∧ (u.N j = 3 → 0 < j ∧ u.N (j - 1) = 2)
        refine ⟨fun z => ?_, fun z => ?_⟩
        · have y := w.1 (n0.1.mp z)
          exact ⟨y.1, (uN (j + 1) (by omega) y.1).2.mpr y.2⟩
        · have y := w.2 (n0.2.mp z)
          exact ⟨y.1, (uN (j - 1) (by omega) (by omega)).1.mpr y.2⟩
      · exfalso
        have j2 : j < 8 + 0 := j1
        omega
    · rw [a1] at j1
      rw [a2 j j0 (by omega)]
      have y := hk j j0 (by omega)
      unfold zf_n0
      split <;> omega
  · exact Or.inl c3

set_option maxRecDepth 100000 in
set_option maxHeartbeats 8000000 in
theorem zm_mGo_L {h : zx_H} (hI : zb_I zc_H h) {m : Int} (m1 : 0 ≤ m) (m2 : m ≤ 300) (hP : zP.gd (zc_Pg h)) (rf0 : 0 ≤ zv_f h 34 14 ∧ zv_f h 34 14 < 1000) (n : Nat) : (∀ {h2 : zx_H}  (hI2 : zb_I zc_H h2) (u0 : zK) (b0 : zk_bf h u0) (hw : zb_W [(34, 7), (34, 8), (34, 9), (34, 10), (34, 11), (34, 12), (34, 13), (34, 14), (36, 1), (37, 0), (38, 0), (39, 0), (40, 0), (41, 2), (42, 0), (43, 0)] h h2) (go : zk_go (zk_st (zc_Pg h)) u0 (zk_of h2) (zv_f h2 34 10)) (sm : 0 ≤ zv_f h2 34 10 ∧ zv_f h2 34 10 ≤ m) (rn1 : zv_f h2 34 7 = 1) (kp : zv_f h2 34 8 = 1 ∨ (zv_f h2 34 8 = 0 ∧ (0 ≤ zv_f h2 34 9 ∧ zv_f h2 34 9 < zv_f h 1 3) ∧ zw_ok (0, zv_f h2 36 1, zv_a h2 37) ∧ zk_in (zv_f h2 36 1) (zv_a h2 37))) (rr : 0 ≤ zv_f h2 34 14 ∧ zv_f h2 34 14 ≤ 1000 + zv_f h2 34 10) (pq : (-1) ≤ zv_f h2 34 9 ∧ zv_f h2 34 9 ≤ 60), (1000 - zv_f h2 34 10 : Int).toNat < n → zx_T zp_P 7 zp_m56 4 [(0, .ref 34), (1, .int (zI (m)))] [] h2 (zr_V [(34, 7), (34, 8), (34, 9), (34, 10), (34, 11), (34, 12), (34, 13), (34, 14), (36, 1), (37, 0), (38, 0), (39, 0), (40, 0), (41, 2), (42, 0), (43, 0)] h (fun h' => ∃ u0, zk_bf h u0 ∧ zk_go (zk_st (zc_Pg h)) u0 (zk_of h') (zv_f h' 34 10) ∧ zv_f h' 34 10 ≤ m ∧ (zv_f h' 34 8 = 1 ∨ zv_f h' 34 10 = m) ∧ zv_f h' 34 7 = 1 ∧ (0 ≤ zv_f h' 34 14 ∧ zv_f h' 34 14 ≤ 1300) ∧ (-1) ≤ zv_f h' 34 9 ∧ zv_f h' 34 9 ≤ 60))) := by
  induction n with
  | zero => exact fun _ _ _ _ _ _ _ _ _ _ hm => absurd hm (Nat.not_lt_zero _)
  | succ n ih =>
    intro h2  hI2 u0 b0 hw go sm rn1 kp rr pq hm
    have hC := zw_ri hI (a := 1) (k := 3) rfl
    have hE2 := zw_ri hI2 (a := 34) (k := 8) rfl
    refine zx_T.l (i := .aload_n 0) (k := 1) (v := .ref 34) (pc := 4) rfl rfl rfl ?_
    refine zw_gi (k := 8) (lo := 0) (hi := 1) (e := zv_f h2 34 8) (pc := 5) rfl rfl rfl hI2 rfl (fun g1a g1b => ?_)
    refine zr_i1 (x := zv_f h2 34 8) (t := 36) (pc := 8) rfl rfl (by omega) (by omega) (fun (c2 : ¬ (zv_f h2 34 8) = 0) => ?_) (fun (c2 : ¬ (¬ (zv_f h2 34 8) = 0)) => ?_)
    · exact zr_vr (pc := 36) rfl rfl ⟨hI2, (hw.wd rfl : zb_W [(34, 7), (34, 8), (34, 9), (34, 10), (34, 11), (34, 12), (34, 13), (34, 14), (36, 1), (37, 0), (38, 0), (39, 0), (40, 0), (41, 2), (42, 0), (43, 0)] h _), rfl, by dsimp only; exact ⟨u0, b0, go, by omega, by omega, by omega, by omega, by omega, by omega⟩⟩
    · refine zx_T.l (i := .aload_n 0) (k := 1) (v := .ref 34) (pc := 11) rfl rfl rfl ?_
      refine zw_gi (k := 10) (lo := 0) (hi := 300) (e := zv_f h2 34 10) (pc := 12) rfl rfl rfl hI2 rfl (fun g3a g3b => ?_)
      refine zx_T.l (i := .iload_n 1) (k := 1) (v := .int (zI (m))) (pc := 15) rfl rfl rfl ?_
      refine zr_i2 (x := zv_f h2 34 10) (y := m) (t := 36) (pc := 16) rfl rfl (by omega) (by omega) (by omega) (by omega) (fun (c4 : m ≤ (zv_f h2 34 10)) => ?_) (fun (c4 : ¬ (m ≤ (zv_f h2 34 10))) => ?_)
      · exact zr_vr (pc := 36) rfl rfl ⟨hI2, (hw.wd rfl : zb_W [(34, 7), (34, 8), (34, 9), (34, 10), (34, 11), (34, 12), (34, 13), (34, 14), (36, 1), (37, 0), (38, 0), (39, 0), (40, 0), (41, 2), (42, 0), (43, 0)] h _), rfl, by dsimp only; exact ⟨u0, b0, go, by omega, by omega, by omega, by omega, by omega, by omega⟩⟩
      · have kp9 : (0 ≤ zv_f h2 34 9 ∧ zv_f h2 34 9 < zv_f h 1 3) ∧ zw_ok (0, zv_f h2 36 1, zv_a h2 37) ∧ zk_in (zv_f h2 36 1) (zv_a h2 37) := by rcases kp with z | z; omega; exact z.2
        refine zx_T.l (i := .aload_n 0) (k := 1) (v := .ref 34) (pc := 19) rfl rfl rfl ?_
        refine zx_T.s (i := .dup) (k := 1) (st' := [.ref 34, .ref 34]) (pc := 20) rfl rfl ?_
        refine zw_gi (k := 10) (lo := 0) (hi := 300) (e := zv_f h2 34 10) (pc := 21) rfl rfl rfl hI2 rfl (fun g5a g5b => ?_)
        refine zx_T.s (i := .iconst 1) (k := 1) (st' := [.int (zI (1)), .int (zI (zv_f h2 34 10)), .ref 34]) (pc := 24) rfl rfl ?_
        refine zr_add (x := zv_f h2 34 10) (y := 1) (e := zv_f h2 34 10 + 1) (pc := 25) rfl (by omega) ?_
        refine zw_pi (k := 10) (lo := 0) (hi := 300) (e := zv_f h2 34 10 + 1) (pc := 26) rfl rfl rfl rfl rfl rfl hI2 (by omega) (by omega) (fun h6 ih6 w7 e8 => ?_)
        refine zx_T.l (i := .aload_n 0) (k := 1) (v := .ref 34) (pc := 29) rfl rfl rfl ?_
        refine zw_iv (b := 34) (cj := 61) (q' := zp_m61) (As := []) (rest := []) (pc := 30) rfl rfl rfl rfl rfl rfl rfl (Nat.le_of_ble_eq_true rfl) rfl (Nat.le_of_ble_eq_true rfl) ih6 ((zm_mStep (h := h6) ih6  (by rw [zv_wf w7 (a := 34) (k := 9) rfl, zv_wf ((hw.wd rfl : zb_W [(34, 7), (34, 8), (34, 9), (34, 10), (34, 11), (34, 12), (34, 13), (34, 14), (36, 1), (37, 0), (38, 0), (39, 0), (40, 0), (41, 2), (42, 0), (43, 0)] h _).tr (w7.wd rfl)) (a := 1) (k := 3) rfl]; exact kp9.1) (by rw [zv_wf w7 (a := 34) (k := 9) rfl, zv_wa ((hw.wd rfl : zb_W [(34, 7), (34, 8), (34, 9), (34, 10), (34, 11), (34, 12), (34, 13), (34, 14), (36, 1), (37, 0), (38, 0), (39, 0), (40, 0), (41, 2), (42, 0), (43, 0)] h _).tr (w7.wd rfl)) (a := 2) rfl]; exact (hP.1 _ kp9.1.1 kp9.1.2).1) (by rw [zv_wf w7 (a := 34) (k := 9) rfl, zv_wa ((hw.wd rfl : zb_W [(34, 7), (34, 8), (34, 9), (34, 10), (34, 11), (34, 12), (34, 13), (34, 14), (36, 1), (37, 0), (38, 0), (39, 0), (40, 0), (41, 2), (42, 0), (43, 0)] h _).tr (w7.wd rfl)) (a := 2) rfl, zv_wa ((hw.wd rfl : zb_W [(34, 7), (34, 8), (34, 9), (34, 10), (34, 11), (34, 12), (34, 13), (34, 14), (36, 1), (37, 0), (38, 0), (39, 0), (40, 0), (41, 2), (42, 0), (43, 0)] h _).tr (w7.wd rfl)) (a := 3) rfl]; exact (hP.1 _ kp9.1.1 kp9.1.2).2) (by rw [zv_wf w7 (a := 36) (k := 1) rfl, show zv_a h6 37 = zv_a h2 37 from funext (fun q => zv_wa w7 rfl q)]; exact kp9.2.1) (by rw [zv_wf w7 (a := 36) (k := 1) rfl, show zv_a h6 37 = zv_a h2 37 from funext (fun q => zv_wa w7 rfl q)]; exact kp9.2.2) (by rw [zv_wf w7 (a := 34) (k := 14) rfl]; omega)).up (Nat.le_of_ble_eq_true rfl)) ?_
        rintro r9 h12 ⟨ih12, w13, r9q, x11⟩
        subst r9q
        try dsimp only at x11
        have sT := x11
        show zx_T zp_P 7 zp_m56 33 [(0, .ref 34), (1, .int (zI (m)))] [] h12 _
        refine zx_T.j (i := .goto (-29)) (k := 3) (pc' := 4) (st' := []) (pc := 33) rfl rfl rfl rfl rfl ?_
        have y14 : zv_f h12 34 10 = zv_f h2 34 10 + 1 := ((zv_wf w13 rfl).trans e8)
        have y15 : zv_f h12 34 7 = zv_f h2 34 7 := ((zv_wf w13 rfl).trans (zv_wf w7 rfl))
        refine zx_T.lk (ls' := [(0, .ref 34), (1, .int (zI (m)))]) rfl ⟨rfl, rfl, trivial⟩ ?_
        exact ih (h2 := h12)  ih12 u0 b0 (((hw.wd rfl : zb_W [(34, 7), (34, 8), (34, 9), (34, 10), (34, 11), (34, 12), (34, 13), (34, 14), (36, 1), (37, 0), (38, 0), (39, 0), (40, 0), (41, 2), (42, 0), (43, 0)] h _).tr (w7.wd rfl)).tr (w13.wd rfl)) (by have q := zk_go.s go (show zv_f h2 34 8 = 0 by omega) (by have z := sT; rw [zk_of_w w7 rfl, zc_Pg_g (((hw.wd rfl : zb_W [(34, 7), (34, 8), (34, 9), (34, 10), (34, 11), (34, 12), (34, 13), (34, 14), (36, 1), (37, 0), (38, 0), (39, 0), (40, 0), (41, 2), (42, 0), (43, 0)] h _).tr (w7.wd rfl))) rfl] at z; exact z); rw [show zv_f h12 34 10 = zv_f h2 34 10 + 1 from ((zv_wf w13 rfl).trans e8)]; exact q) (by omega) (by omega) (by have q := (zk_keep (P := zc_Pg h) (u := zk_of h2) hP (by have z := kp9.1; exact z) kp9.2.1 kp9.2.2 (by have z := sT; rw [zk_of_w w7 rfl, zc_Pg_g (((hw.wd rfl : zb_W [(34, 7), (34, 8), (34, 9), (34, 10), (34, 11), (34, 12), (34, 13), (34, 14), (36, 1), (37, 0), (38, 0), (39, 0), (40, 0), (41, 2), (42, 0), (43, 0)] h _).tr (w7.wd rfl))) rfl] at z; exact z)).1; rcases q with q | q; exact Or.inl q; exact Or.inr ⟨q.1.trans (show zv_f h2 34 8 = 0 by omega), q.2⟩) (by have q := (zk_keep (P := zc_Pg h) (u := zk_of h2) hP (by have z := kp9.1; exact z) kp9.2.1 kp9.2.2 (by have z := sT; rw [zk_of_w w7 rfl, zc_Pg_g (((hw.wd rfl : zb_W [(34, 7), (34, 8), (34, 9), (34, 10), (34, 11), (34, 12), (34, 13), (34, 14), (36, 1), (37, 0), (38, 0), (39, 0), (40, 0), (41, 2), (42, 0), (43, 0)] h _).tr (w7.wd rfl))) rfl] at z; exact z)).2; have q1 : zv_f h12 34 14 = zv_f h2 34 14 ∨ zv_f h12 34 14 = zv_f h2 34 14 + 1 := q; have q3 : zv_f h12 34 10 = zv_f h2 34 10 + 1 := ((zv_wf w13 rfl).trans e8); omega) (by have q := zk_plc (P := zc_Pg h) (u := zk_of h2) (by have z := kp9.1; exact z) (by have z := sT; rw [zk_of_w w7 rfl, zc_Pg_g (((hw.wd rfl : zb_W [(34, 7), (34, 8), (34, 9), (34, 10), (34, 11), (34, 12), (34, 13), (34, 14), (36, 1), (37, 0), (38, 0), (39, 0), (40, 0), (41, 2), (42, 0), (43, 0)] h _).tr (w7.wd rfl))) rfl] at z; exact z); have q1 : 0 ≤ zv_f h12 34 9 ∧ zv_f h12 34 9 < zv_f h 1 3 := q; omega) (by omega)
set_option maxRecDepth 100000 in
set_option maxHeartbeats 8000000 in
theorem zm_mGo {h : zx_H} (hI : zb_I zc_H h) {m : Int} (m1 : 0 ≤ m) (m2 : m ≤ 300) (hP : zP.gd (zc_Pg h)) (rf0 : 0 ≤ zv_f h 34 14 ∧ zv_f h 34 14 < 1000) : zx_T zp_P 7 zp_m56 0 [(0, .ref 34), (1, .int (zI (m)))] [] h (zr_V [(34, 7), (34, 8), (34, 9), (34, 10), (34, 11), (34, 12), (34, 13), (34, 14), (36, 1), (37, 0), (38, 0), (39, 0), (40, 0), (41, 2), (42, 0), (43, 0)] h (fun h' => ∃ u0, zk_bf h u0 ∧ zk_go (zk_st (zc_Pg h)) u0 (zk_of h') (zv_f h' 34 10) ∧ zv_f h' 34 10 ≤ m ∧ (zv_f h' 34 8 = 1 ∨ zv_f h' 34 10 = m) ∧ zv_f h' 34 7 = 1 ∧ (0 ≤ zv_f h' 34 14 ∧ zv_f h' 34 14 ≤ 1300) ∧ (-1) ≤ zv_f h' 34 9 ∧ zv_f h' 34 9 ≤ 60)) := by
  have hC := zw_ri hI (a := 1) (k := 3) rfl
  refine zx_T.l (i := .aload_n 0) (k := 1) (v := .ref 34) (pc := 0) rfl rfl rfl ?_
  refine zw_iv (b := 34) (cj := 57) (q' := zp_m57) (As := []) (rest := []) (pc := 1) rfl rfl rfl rfl rfl rfl rfl (Nat.le_of_ble_eq_true rfl) rfl (Nat.le_of_ble_eq_true rfl) hI ((zm_mBeginR (h := h) hI  hP.2.2.2).up (Nat.le_of_ble_eq_true rfl)) ?_
  rintro r16 h19 ⟨ih19, w20, r16q, x18⟩
  subst r16q
  try dsimp only at x18
  have bX := x18
  show zx_T zp_P 7 zp_m56 4 [(0, .ref 34), (1, .int (zI (m)))] [] h19 _
  refine zx_T.lk (ls' := [(0, .ref 34), (1, .int (zI (m)))]) rfl ⟨rfl, rfl, trivial⟩ ?_
  exact zm_mGo_L (h := h) hI (m := m) m1 m2 hP rf0 ((1000 - zv_f h19 34 10 : Int).toNat + 1) (h2 := h19)  ih19 (zk_of h19) bX.1 (w20.wd rfl : zb_W [(34, 7), (34, 8), (34, 9), (34, 10), (34, 11), (34, 12), (34, 13), (34, 14), (36, 1), (37, 0), (38, 0), (39, 0), (40, 0), (41, 2), (42, 0), (43, 0)] h _) (by rw [show zv_f h19 34 10 = 0 from bX.2.2]; exact zk_go.z) (by have q2 := bX.2.2; omega) bX.2.1 (zk_bf_k hP bX.1) (by have q : zv_f h19 34 14 = zv_f h 34 14 := bX.1.2.2.2.1; have q2 := bX.2.2; omega) (by have q := bX.1.2.2.2.2; have q1 : (0 < zv_f h 1 3 ∧ zv_f h19 34 9 = 0) ∨ (zv_f h 1 3 = 0 ∧ zv_f h19 34 9 = -1) := (by rcases q with z | z; exact Or.inl ⟨z.1, z.2.1⟩; exact Or.inr ⟨z.1, z.2.1⟩); omega) (Nat.lt_succ_self _)

set_option maxRecDepth 100000 in
set_option maxHeartbeats 8000000 in
theorem zm_cRunX {h : zx_H} (hI : zb_I zc_H h) {m : Int} (m1 : -2147483648 ≤ m) (m2 : m ≤ 2147483647) (hP : zP.gd (zc_Pg h)) (rf0 : 0 ≤ zv_f h 34 14) : zx_T zp_P 8 zp_m149 0 [(0, .ref 0), (1, .int (zI (m)))] [] h (zr_R [(34, 7), (34, 8), (34, 9), (34, 10), (34, 11), (34, 12), (34, 13), (34, 14), (36, 1), (37, 0), (38, 0), (39, 0), (40, 0), (41, 2), (42, 0), (43, 0), (0, 6)] h (fun e h' => ((m < 0 ∨ 300 < m) ∧ e = -2 ∧ h = h') ∨ ((0 ≤ m ∧ m ≤ 300) ∧ 1000 ≤ zv_f h 34 14 ∧ e = -4 ∧ h = h') ∨ ((0 ≤ m ∧ m ≤ 300) ∧ zv_f h 34 14 < 1000 ∧ zv_f h' 0 6 = zv_f h' 34 12 ∧ ((zv_f h' 34 12 = 0 ∧ e = zv_f h' 34 11) ∨ (¬ zv_f h' 34 12 = 0 ∧ e = -10 - zv_f h' 34 9)) ∧ ∃ u0, zk_bf h u0 ∧ zk_go (zk_st (zc_Pg h)) u0 (zk_of h') (zv_f h' 34 10) ∧ zv_f h' 34 10 ≤ m ∧ (zv_f h' 34 8 = 1 ∨ zv_f h' 34 10 = m) ∧ zv_f h' 34 7 = 1 ∧ (0 ≤ zv_f h' 34 14 ∧ zv_f h' 34 14 ≤ 1300) ∧ (-1) ≤ zv_f h' 34 9 ∧ zv_f h' 34 9 ≤ 60))) := by
  refine zx_T.l (i := .iload_n 1) (k := 1) (v := .int (zI (m))) (pc := 0) rfl rfl rfl ?_
  refine zr_i1 (x := m) (t := 11) (pc := 1) rfl rfl (by omega) (by omega) (fun (c1 : m < 0) => ?_) (fun (c1 : ¬ (m < 0)) => ?_)
  · refine zx_T.s (i := .bipush (-2)) (k := 2) (st' := [.int (zI ((-2)))]) (pc := 11) rfl rfl ?_
    exact zr_ir (x := (-2)) (pc := 13) rfl rfl rfl ⟨hI, zb_W.rf, _, rfl, by dsimp only; first | exact Or.inl ⟨by omega, rfl, rfl⟩ | exact Or.inr (Or.inl ⟨by omega, by omega, rfl, rfl⟩)⟩
  · refine zx_T.l (i := .iload_n 1) (k := 1) (v := .int (zI (m))) (pc := 4) rfl rfl rfl ?_
    refine zx_T.s (i := .sipush 300) (k := 3) (st' := [.int (zI (300)), .int (zI (m))]) (pc := 5) rfl rfl ?_
    refine zr_i2 (x := m) (y := 300) (t := 14) (pc := 8) rfl rfl (by omega) (by omega) (by omega) (by omega) (fun (c10 : m ≤ 300) => ?_) (fun (c10 : ¬ (m ≤ 300)) => ?_)
    · refine zx_T.l (i := .aload_n 0) (k := 1) (v := .ref 0) (pc := 14) rfl rfl rfl ?_
      refine zw_gr (k := 5) (b := 34) (pc := 15) rfl rfl rfl hI ?_
      refine zw_iv (b := 34) (cj := 52) (q' := zp_m52) (As := []) (rest := []) (pc := 18) rfl rfl rfl rfl rfl rfl rfl (Nat.le_of_ble_eq_true rfl) rfl (Nat.le_of_ble_eq_true rfl) hI ((zm_mIsFull (h := h) hI  ).up (Nat.le_of_ble_eq_true rfl)) ?_
      rintro r11 h14 ⟨h14q, v12, r11q, x13⟩
      subst h14q r11q
      try dsimp only at x13
      have iF := x13
      show zx_T zp_P 8 zp_m149 21 [(0, .ref 0), (1, .int (zI (m)))] [.int (zI (v12))] h _
      refine zr_i1 (x := v12) (t := 27) (pc := 21) rfl rfl (by omega) (by omega) (fun (c15 : v12 = 0) => ?_) (fun (c15 : ¬ (v12 = 0)) => ?_)
      · refine zx_T.l (i := .aload_n 0) (k := 1) (v := .ref 0) (pc := 27) rfl rfl rfl ?_
        refine zw_gr (k := 5) (b := 34) (pc := 28) rfl rfl rfl hI ?_
        refine zx_T.l (i := .iload_n 1) (k := 1) (v := .int (zI (m))) (pc := 31) rfl rfl rfl ?_
        refine zw_iv (b := 34) (cj := 56) (q' := zp_m56) (As := [.int (zI (m))]) (rest := []) (pc := 32) rfl rfl rfl rfl rfl rfl rfl (Nat.le_of_ble_eq_true rfl) rfl (Nat.le_of_ble_eq_true rfl) hI ((zm_mGo (h := h) hI (m := m) (by omega) (by omega) hP (by omega)).up (Nat.le_of_ble_eq_true rfl)) ?_
        rintro r16 h19 ⟨ih19, w20, r16q, x18⟩
        subst r16q
        try dsimp only at x18
        have gO := x18
        have gp9 : (-1) ≤ zv_f h19 34 9 ∧ zv_f h19 34 9 ≤ 60 := by obtain ⟨_, _, _, _, _, _, _, g⟩ := gO; exact g
        show zx_T zp_P 8 zp_m149 35 [(0, .ref 0), (1, .int (zI (m)))] [] h19 _
        refine zx_T.l (i := .aload_n 0) (k := 1) (v := .ref 0) (pc := 35) rfl rfl rfl ?_
        refine zx_T.l (i := .aload_n 0) (k := 1) (v := .ref 0) (pc := 36) rfl rfl rfl ?_
        refine zw_gr (k := 5) (b := 34) (pc := 37) rfl rfl rfl ih19 ?_
        refine zw_iv (b := 34) (cj := 54) (q' := zp_m54) (As := []) (rest := [.ref 0]) (pc := 40) rfl rfl rfl rfl rfl rfl rfl (Nat.le_of_ble_eq_true rfl) rfl (Nat.le_of_ble_eq_true rfl) ih19 ((zm_mCodeFault (h := h19) ih19  ).up (Nat.le_of_ble_eq_true rfl)) ?_
        rintro r21 h24 ⟨h24q, v22, r21q, x23⟩
        subst h24q r21q
        try dsimp only at x23
        have cF := x23.1
        show zx_T zp_P 8 zp_m149 43 [(0, .ref 0), (1, .int (zI (m)))] [.int (zI (v22)), .ref 0] h19 _
        refine zw_pi (k := 6) (lo := (-2147483648)) (hi := 2147483647) (e := v22) (pc := 43) rfl rfl rfl rfl rfl rfl ih19 (by omega) (by omega) (fun h25 ih25 w26 e27 => ?_)
        refine zx_T.l (i := .aload_n 0) (k := 1) (v := .ref 0) (pc := 46) rfl rfl rfl ?_
        refine zw_gi (k := 6) (lo := (-2147483648)) (hi := 2147483647) (e := v22) (pc := 47) rfl rfl rfl ih25 e27 (fun g28a g28b => ?_)
        refine zr_i1 (x := v22) (t := 63) (pc := 50) rfl rfl (by omega) (by omega) (fun (c29 : ¬ v22 = 0) => ?_) (fun (c29 : ¬ (¬ v22 = 0)) => ?_)
        · refine zx_T.l (i := .aload_n 0) (k := 1) (v := .ref 0) (pc := 63) rfl rfl rfl ?_
          refine zw_gr (k := 5) (b := 34) (pc := 64) rfl rfl rfl ih25 ?_
          refine zw_iv (b := 34) (cj := 55) (q' := zp_m55) (As := []) (rest := []) (pc := 67) rfl rfl rfl rfl rfl rfl rfl (Nat.le_of_ble_eq_true rfl) rfl (Nat.le_of_ble_eq_true rfl) ih25 ((zm_mEndPlace (h := h25) ih25  ).up (Nat.le_of_ble_eq_true rfl)) ?_
          rintro r30 h33 ⟨h33q, v31, r30q, x32⟩
          subst h33q r30q
          try dsimp only at x32
          have eP := x32.1; rw [zv_wf w26 rfl] at eP
          show zx_T zp_P 8 zp_m149 70 [(0, .ref 0), (1, .int (zI (m)))] [.int (zI (v31))] h25 _
          refine zr_is (cj := 154) (q' := zp_m154) (As := [.int (zI (v31))]) (rest := []) (pc := 70) rfl rfl rfl rfl rfl rfl (Nat.le_of_ble_eq_true rfl) rfl (Nat.le_of_ble_eq_true rfl) rfl ((zm_cRefusedAt (h := h25) ih25 (p := v31) (by omega) (by omega)).up (Nat.le_of_ble_eq_true rfl)) ?_
          rintro r34 h37 ⟨h37q, v35, r34q, x36⟩
          subst h37q r34q
          try dsimp only at x36
          have rA := x36.1
          show zx_T zp_P 8 zp_m149 73 [(0, .ref 0), (1, .int (zI (m)))] [.int (zI (v35))] h25 _
          have y38 : zv_f h25 34 7 = zv_f h19 34 7 := (zv_wf w26 rfl)
          have y39 : zv_f h25 34 8 = zv_f h19 34 8 := (zv_wf w26 rfl)
          have y40 : zv_f h25 34 9 = zv_f h19 34 9 := (zv_wf w26 rfl)
          have y41 : zv_f h25 34 10 = zv_f h19 34 10 := (zv_wf w26 rfl)
          have y42 : zv_f h25 34 11 = zv_f h19 34 11 := (zv_wf w26 rfl)
          have y43 : zv_f h25 34 12 = zv_f h19 34 12 := (zv_wf w26 rfl)
          have y44 : zv_f h25 34 14 = zv_f h19 34 14 := (zv_wf w26 rfl)
          have y45 : zv_f h25 0 6 = v22 := e27
          exact zr_ir (x := v35) (pc := 73) rfl rfl rfl ⟨ih25, ((w20.wd rfl : zb_W [(34, 7), (34, 8), (34, 9), (34, 10), (34, 11), (34, 12), (34, 13), (34, 14), (36, 1), (37, 0), (38, 0), (39, 0), (40, 0), (41, 2), (42, 0), (43, 0), (0, 6)] h _).tr (w26.wd rfl)), _, rfl, by dsimp only; obtain ⟨u0, g1, g2, g3, g4, g5, g6, g7, g8⟩ := gO; exact Or.inr (Or.inr ⟨by omega, by omega, by omega, by omega, u0, g1, by rw [zk_of_w w26 rfl, zv_wf w26 (a := 34) (k := 10) rfl]; exact g2, by omega, by omega, by omega, by omega, by omega, by omega⟩)⟩
        · refine zx_T.l (i := .aload_n 0) (k := 1) (v := .ref 0) (pc := 53) rfl rfl rfl ?_
          refine zw_gr (k := 5) (b := 34) (pc := 54) rfl rfl rfl ih25 ?_
          refine zw_iv (b := 34) (cj := 53) (q' := zp_m53) (As := []) (rest := []) (pc := 57) rfl rfl rfl rfl rfl rfl rfl (Nat.le_of_ble_eq_true rfl) rfl (Nat.le_of_ble_eq_true rfl) ih25 ((zm_mOutcome (h := h25) ih25  ).up (Nat.le_of_ble_eq_true rfl)) ?_
          rintro r46 h49 ⟨h49q, v47, r46q, x48⟩
          subst h49q r46q
          try dsimp only at x48
          have oC := x48.1
          show zx_T zp_P 8 zp_m149 60 [(0, .ref 0), (1, .int (zI (m)))] [.int (zI (v47))] h25 _
          refine zx_T.j (i := .goto 13) (k := 3) (pc' := 73) (st' := [.int (zI (v47))]) (pc := 60) rfl rfl rfl rfl rfl ?_
          have y50 : zv_f h25 34 7 = zv_f h19 34 7 := (zv_wf w26 rfl)
          have y51 : zv_f h25 34 8 = zv_f h19 34 8 := (zv_wf w26 rfl)
          have y52 : zv_f h25 34 9 = zv_f h19 34 9 := (zv_wf w26 rfl)
          have y53 : zv_f h25 34 10 = zv_f h19 34 10 := (zv_wf w26 rfl)
          have y54 : zv_f h25 34 11 = zv_f h19 34 11 := (zv_wf w26 rfl)
          have y55 : zv_f h25 34 12 = zv_f h19 34 12 := (zv_wf w26 rfl)
          have y56 : zv_f h25 34 14 = zv_f h19 34 14 := (zv_wf w26 rfl)
          have y57 : zv_f h25 0 6 = v22 := e27
          exact zr_ir (x := v47) (pc := 73) rfl rfl rfl ⟨ih25, ((w20.wd rfl : zb_W [(34, 7), (34, 8), (34, 9), (34, 10), (34, 11), (34, 12), (34, 13), (34, 14), (36, 1), (37, 0), (38, 0), (39, 0), (40, 0), (41, 2), (42, 0), (43, 0), (0, 6)] h _).tr (w26.wd rfl)), _, rfl, by dsimp only; obtain ⟨u0, g1, g2, g3, g4, g5, g6, g7, g8⟩ := gO; exact Or.inr (Or.inr ⟨by omega, by omega, by omega, by omega, u0, g1, by rw [zk_of_w w26 rfl, zv_wf w26 (a := 34) (k := 10) rfl]; exact g2, by omega, by omega, by omega, by omega, by omega, by omega⟩)⟩
      · refine zx_T.s (i := .bipush (-4)) (k := 2) (st' := [.int (zI ((-4)))]) (pc := 24) rfl rfl ?_
        exact zr_ir (x := (-4)) (pc := 26) rfl rfl rfl ⟨hI, zb_W.rf, _, rfl, by dsimp only; first | exact Or.inl ⟨by omega, rfl, rfl⟩ | exact Or.inr (Or.inl ⟨by omega, by omega, rfl, rfl⟩)⟩
    · refine zx_T.s (i := .bipush (-2)) (k := 2) (st' := [.int (zI ((-2)))]) (pc := 11) rfl rfl ?_
      exact zr_ir (x := (-2)) (pc := 13) rfl rfl rfl ⟨hI, zb_W.rf, _, rfl, by dsimp only; first | exact Or.inl ⟨by omega, rfl, rfl⟩ | exact Or.inr (Or.inl ⟨by omega, by omega, rfl, rfl⟩)⟩
