/-! ===== 97z: the reference, method by method (by program) ===== -/
set_option maxRecDepth 100000 in
set_option maxHeartbeats 4000000 in
theorem zm_putF {h : zx_H} (hI : zb_I zc_H h) {b : Int} (b1 : -2147483648 ≤ b) (b2 : b ≤ 2147483647) (pk : zv_i h 30 ≤ 3999) (L : List Int) (bl : zs_bl (zv_i h 30) (zv_a h 64) L) : zx_T zp_P 0 zp_m187 0 [(0, .ref 44), (1, .int (zI (b)))] [] h (zr_V [(44, 30), (64, 0)] h (fun h' => zs_bl (zv_i h' 30) (zv_a h' 64) (L ++ [b]) ∧ zv_i h' 30 = zv_i h 30 + 1)) := by
  have hP := zv_ri hI (k := 30) rfl
  refine zx_T.l (i := .aload_n 0) (k := 1) (v := .ref 44) (pc := 0) rfl rfl rfl ?_
  refine zr_gr (k := 31) (b := 64) (pc := 1) rfl rfl rfl hI ?_
  refine zx_T.l (i := .aload_n 0) (k := 1) (v := .ref 44) (pc := 4) rfl rfl rfl ?_
  refine zr_gi (k := 30) (lo := 0) (hi := 4000) (e := zv_i h 30) (pc := 5) rfl rfl rfl hI rfl (fun g1a g1b => ?_)
  refine zx_T.l (i := .iload_n 1) (k := 1) (v := .int (zI (b))) (pc := 8) rfl rfl rfl ?_
  refine zr_as (n := 4000) (lo := (-2147483648)) (hi := 2147483647) (e := b) (pc := 9) rfl rfl rfl rfl hI (by omega) (by omega) (by omega) (by omega) (fun h3 ih3 w4 s5 => ?_)
  refine zx_T.l (i := .aload_n 0) (k := 1) (v := .ref 44) (pc := 10) rfl rfl rfl ?_
  refine zx_T.s (i := .dup) (k := 1) (st' := [.ref 44, .ref 44]) (pc := 11) rfl rfl ?_
  refine zr_gi (k := 30) (lo := 0) (hi := 4000) (e := zv_i h 30) (pc := 12) rfl rfl rfl ih3 (zv_wi w4 rfl) (fun g6a g6b => ?_)
  refine zx_T.s (i := .iconst 1) (k := 1) (st' := [.int (zI (1)), .int (zI (zv_i h 30)), .ref 44]) (pc := 15) rfl rfl ?_
  refine zr_add (x := zv_i h 30) (y := 1) (e := zv_i h 30 + 1) (pc := 16) rfl (by omega) ?_
  refine zr_pi (k := 30) (lo := 0) (hi := 4000) (e := zv_i h 30 + 1) (pc := 17) rfl rfl rfl rfl rfl rfl ih3 (by omega) (by omega) (fun h7 ih7 w8 e9 => ?_)
  have y10 : zv_i h7 30 = zv_i h 30 + 1 := e9
  have a64 : ∀ j, 0 ≤ j → zv_a h7 64 j = if j = zv_i h 30 then b else zv_a h 64 j := fun j hj => by rw [zv_wa w8 rfl j, s5 j hj]
  exact zr_vr (pc := 20) rfl rfl ⟨ih7, ((w4.wd rfl : zb_W [(44, 30), (64, 0)] h _).tr (w8.wd rfl)), rfl, by dsimp only; refine ⟨?_, by omega⟩; rw [show zv_i h7 30 = zv_i h 30 + 1 by omega]; exact zs_bl_ap bl (fun j j0 => by rw [a64 j j0])⟩

set_option maxRecDepth 100000 in
set_option maxHeartbeats 4000000 in
theorem zm_wideF_66 {h : zx_H} (hI : zb_I zc_H h) {k : Int} {u : Int} (k1 : 0 ≤ k) (k2 : k ≤ 13) (u1 : 0 ≤ u) (u2 : u ≤ 14) : zx_T zp_P 0 zp_m188 0 [(0, .ref 66), (1, .int (zI (k))), (2, .int (zI (u)))] [] h (zr_P h (fun e => e = zs_wi (zv_a h 66) k u ∧ 1 ≤ e ∧ e ≤ 2)) := by
  refine zx_T.l (i := .aload_n 0) (k := 1) (v := .ref 66) (pc := 0) rfl rfl rfl ?_
  refine zx_T.l (i := .iload_n 1) (k := 1) (v := .int (zI (k))) (pc := 1) rfl rfl rfl ?_
  refine zr_al (n := 14) (lo := 0) (hi := 8) (e := zv_a h 66 k) (pc := 2) rfl rfl rfl hI (by omega) (by omega) rfl (fun g1a g1b => ?_)
  refine zx_T.s (i := .iconst 2) (k := 1) (st' := [.int (zI (2)), .int (zI (zv_a h 66 k))]) (pc := 3) rfl rfl ?_
  refine zr_i2 (x := zv_a h 66 k) (y := 2) (t := 27) (pc := 4) rfl rfl (by omega) (by omega) (by omega) (by omega) (fun (c2 : ¬ (zv_a h 66 k) = 2) => ?_) (fun (c2 : ¬ (¬ (zv_a h 66 k) = 2)) => ?_)
  · refine zx_T.s (i := .iconst 1) (k := 1) (st' := [.int (zI (1))]) (pc := 27) rfl rfl ?_
    exact zr_ir (x := 1) (pc := 28) rfl rfl rfl ⟨rfl, _, rfl, by dsimp only; exact ⟨by unfold zs_wi; split <;> omega, by omega, by omega⟩⟩
  · refine zx_T.l (i := .iload_n 1) (k := 1) (v := .int (zI (k))) (pc := 7) rfl rfl rfl ?_
    refine zx_T.s (i := .iconst 1) (k := 1) (st' := [.int (zI (1)), .int (zI (k))]) (pc := 8) rfl rfl ?_
    refine zr_add (x := k) (y := 1) (e := k + 1) (pc := 9) rfl (by omega) ?_
    refine zx_T.l (i := .iload_n 2) (k := 1) (v := .int (zI (u))) (pc := 10) rfl rfl rfl ?_
    refine zr_i2 (x := k + 1) (y := u) (t := 27) (pc := 11) rfl rfl (by omega) (by omega) (by omega) (by omega) (fun (c3 : u ≤ (k + 1)) => ?_) (fun (c3 : ¬ (u ≤ (k + 1))) => ?_)
    · refine zx_T.s (i := .iconst 1) (k := 1) (st' := [.int (zI (1))]) (pc := 27) rfl rfl ?_
      exact zr_ir (x := 1) (pc := 28) rfl rfl rfl ⟨rfl, _, rfl, by dsimp only; exact ⟨by unfold zs_wi; split <;> omega, by omega, by omega⟩⟩
    · refine zx_T.l (i := .aload_n 0) (k := 1) (v := .ref 66) (pc := 14) rfl rfl rfl ?_
      refine zx_T.l (i := .iload_n 1) (k := 1) (v := .int (zI (k))) (pc := 15) rfl rfl rfl ?_
      refine zx_T.s (i := .iconst 1) (k := 1) (st' := [.int (zI (1)), .int (zI (k)), .ref 66]) (pc := 16) rfl rfl ?_
      refine zr_add (x := k) (y := 1) (e := k + 1) (pc := 17) rfl (by omega) ?_
      refine zr_al (n := 14) (lo := 0) (hi := 8) (e := zv_a h 66 (k + 1)) (pc := 18) rfl rfl rfl hI (by omega) (by omega) rfl (fun g4a g4b => ?_)
      refine zx_T.s (i := .iconst 3) (k := 1) (st' := [.int (zI (3)), .int (zI (zv_a h 66 (k + 1)))]) (pc := 19) rfl rfl ?_
      refine zr_i2 (x := zv_a h 66 (k + 1)) (y := 3) (t := 27) (pc := 20) rfl rfl (by omega) (by omega) (by omega) (by omega) (fun (c5 : ¬ (zv_a h 66 (k + 1)) = 3) => ?_) (fun (c5 : ¬ (¬ (zv_a h 66 (k + 1)) = 3)) => ?_)
      · refine zx_T.s (i := .iconst 1) (k := 1) (st' := [.int (zI (1))]) (pc := 27) rfl rfl ?_
        exact zr_ir (x := 1) (pc := 28) rfl rfl rfl ⟨rfl, _, rfl, by dsimp only; exact ⟨by unfold zs_wi; split <;> omega, by omega, by omega⟩⟩
      · refine zx_T.s (i := .iconst 2) (k := 1) (st' := [.int (zI (2))]) (pc := 23) rfl rfl ?_
        refine zx_T.j (i := .goto 4) (k := 3) (pc' := 28) (st' := [.int (zI (2))]) (pc := 24) rfl rfl rfl rfl rfl ?_
        exact zr_ir (x := 2) (pc := 28) rfl rfl rfl ⟨rfl, _, rfl, by dsimp only; exact ⟨by unfold zs_wi; split <;> omega, by omega, by omega⟩⟩

set_option maxRecDepth 100000 in
set_option maxHeartbeats 4000000 in
theorem zm_wideF_65 {h : zx_H} (hI : zb_I zc_H h) {k : Int} {u : Int} (k1 : 0 ≤ k) (k2 : k ≤ 13) (u1 : 0 ≤ u) (u2 : u ≤ 14) : zx_T zp_P 0 zp_m188 0 [(0, .ref 65), (1, .int (zI (k))), (2, .int (zI (u)))] [] h (zr_P h (fun e => e = zs_wi (zv_a h 65) k u ∧ 1 ≤ e ∧ e ≤ 2)) := by
  refine zx_T.l (i := .aload_n 0) (k := 1) (v := .ref 65) (pc := 0) rfl rfl rfl ?_
  refine zx_T.l (i := .iload_n 1) (k := 1) (v := .int (zI (k))) (pc := 1) rfl rfl rfl ?_
  refine zr_al (n := 14) (lo := 0) (hi := 8) (e := zv_a h 65 k) (pc := 2) rfl rfl rfl hI (by omega) (by omega) rfl (fun g1a g1b => ?_)
  refine zx_T.s (i := .iconst 2) (k := 1) (st' := [.int (zI (2)), .int (zI (zv_a h 65 k))]) (pc := 3) rfl rfl ?_
  refine zr_i2 (x := zv_a h 65 k) (y := 2) (t := 27) (pc := 4) rfl rfl (by omega) (by omega) (by omega) (by omega) (fun (c2 : ¬ (zv_a h 65 k) = 2) => ?_) (fun (c2 : ¬ (¬ (zv_a h 65 k) = 2)) => ?_)
  · refine zx_T.s (i := .iconst 1) (k := 1) (st' := [.int (zI (1))]) (pc := 27) rfl rfl ?_
    exact zr_ir (x := 1) (pc := 28) rfl rfl rfl ⟨rfl, _, rfl, by dsimp only; exact ⟨by unfold zs_wi; split <;> omega, by omega, by omega⟩⟩
  · refine zx_T.l (i := .iload_n 1) (k := 1) (v := .int (zI (k))) (pc := 7) rfl rfl rfl ?_
    refine zx_T.s (i := .iconst 1) (k := 1) (st' := [.int (zI (1)), .int (zI (k))]) (pc := 8) rfl rfl ?_
    refine zr_add (x := k) (y := 1) (e := k + 1) (pc := 9) rfl (by omega) ?_
    refine zx_T.l (i := .iload_n 2) (k := 1) (v := .int (zI (u))) (pc := 10) rfl rfl rfl ?_
    refine zr_i2 (x := k + 1) (y := u) (t := 27) (pc := 11) rfl rfl (by omega) (by omega) (by omega) (by omega) (fun (c3 : u ≤ (k + 1)) => ?_) (fun (c3 : ¬ (u ≤ (k + 1))) => ?_)
    · refine zx_T.s (i := .iconst 1) (k := 1) (st' := [.int (zI (1))]) (pc := 27) rfl rfl ?_
      exact zr_ir (x := 1) (pc := 28) rfl rfl rfl ⟨rfl, _, rfl, by dsimp only; exact ⟨by unfold zs_wi; split <;> omega, by omega, by omega⟩⟩
    · refine zx_T.l (i := .aload_n 0) (k := 1) (v := .ref 65) (pc := 14) rfl rfl rfl ?_
      refine zx_T.l (i := .iload_n 1) (k := 1) (v := .int (zI (k))) (pc := 15) rfl rfl rfl ?_
      refine zx_T.s (i := .iconst 1) (k := 1) (st' := [.int (zI (1)), .int (zI (k)), .ref 65]) (pc := 16) rfl rfl ?_
      refine zr_add (x := k) (y := 1) (e := k + 1) (pc := 17) rfl (by omega) ?_
      refine zr_al (n := 14) (lo := 0) (hi := 8) (e := zv_a h 65 (k + 1)) (pc := 18) rfl rfl rfl hI (by omega) (by omega) rfl (fun g4a g4b => ?_)
      refine zx_T.s (i := .iconst 3) (k := 1) (st' := [.int (zI (3)), .int (zI (zv_a h 65 (k + 1)))]) (pc := 19) rfl rfl ?_
      refine zr_i2 (x := zv_a h 65 (k + 1)) (y := 3) (t := 27) (pc := 20) rfl rfl (by omega) (by omega) (by omega) (by omega) (fun (c5 : ¬ (zv_a h 65 (k + 1)) = 3) => ?_) (fun (c5 : ¬ (¬ (zv_a h 65 (k + 1)) = 3)) => ?_)
      · refine zx_T.s (i := .iconst 1) (k := 1) (st' := [.int (zI (1))]) (pc := 27) rfl rfl ?_
        exact zr_ir (x := 1) (pc := 28) rfl rfl rfl ⟨rfl, _, rfl, by dsimp only; exact ⟨by unfold zs_wi; split <;> omega, by omega, by omega⟩⟩
      · refine zx_T.s (i := .iconst 2) (k := 1) (st' := [.int (zI (2))]) (pc := 23) rfl rfl ?_
        refine zx_T.j (i := .goto 4) (k := 3) (pc' := 28) (st' := [.int (zI (2))]) (pc := 24) rfl rfl rfl rfl rfl ?_
        exact zr_ir (x := 2) (pc := 28) rfl rfl rfl ⟨rfl, _, rfl, by dsimp only; exact ⟨by unfold zs_wi; split <;> omega, by omega, by omega⟩⟩

set_option maxRecDepth 100000 in
set_option maxHeartbeats 4000000 in
theorem zm_entriesF_L {h : zx_H} (hI : zb_I zc_H h) {f : Int} {u : Int} (f1 : 0 ≤ f) (f2 : f ≤ u) (u2 : u ≤ 14) (n : Nat) : (∀ {m : Int} {k : Int} (k1 : f ≤ k) (k2 : k ≤ u) (m1 : 0 ≤ m) (mq : m + ((zs_es (zv_a h 66) k u).length : Int) = ((zs_es (zv_a h 66) f u).length : Int)), (u - k : Int).toNat < n → zx_T zp_P 1 zp_m189 5 [(0, .ref 66), (1, .int (zI (f))), (2, .int (zI (u))), (3, .int (zI (m))), (4, .int (zI (k)))] [] h (zr_P h (fun e => e = ((zs_es (zv_a h 66) f u).length : Int) ∧ 0 ≤ e ∧ e ≤ 14))) := by
  induction n with
  | zero => exact fun _ _ _ _ hm => absurd hm (Nat.not_lt_zero _)
  | succ n ih =>
    intro m k k1 k2 m1 mq hm
    have ln := zs_es_len (N := zv_a h 66) (u := u) 14 f (by omega)
    rw [if_pos f2] at ln
    refine zx_T.l (i := .iload 4) (k := 2) (v := .int (zI (k))) (pc := 5) rfl rfl rfl ?_
    refine zx_T.l (i := .iload_n 2) (k := 1) (v := .int (zI (u))) (pc := 7) rfl rfl rfl ?_
    refine zr_i2 (x := k) (y := u) (t := 29) (pc := 8) rfl rfl (by omega) (by omega) (by omega) (by omega) (fun (c1 : u ≤ k) => ?_) (fun (c1 : ¬ (u ≤ k)) => ?_)
    · refine zx_T.l (i := .iload_n 3) (k := 1) (v := .int (zI (m))) (pc := 29) rfl rfl rfl ?_
      exact zr_ir (x := m) (pc := 30) rfl rfl rfl ⟨rfl, _, rfl, by dsimp only; rw [zs_es_e (show u ≤ k by omega)] at mq; have mq2 : m + (0 : Int) = _ := mq; exact ⟨by omega, by omega, by omega⟩⟩
    · refine zr_inc (x := m) (n := 1) (y := m + 1) (ls' := [(3, .int (zI (m + 1))), (0, .ref 66), (1, .int (zI (f))), (2, .int (zI (u))), (4, .int (zI (k)))]) (pc := 11) rfl rfl rfl (by omega) rfl ?_
      refine zx_T.l (i := .iload 4) (k := 2) (v := .int (zI (k))) (pc := 14) rfl rfl rfl ?_
      refine zx_T.l (i := .aload_n 0) (k := 1) (v := .ref 66) (pc := 16) rfl rfl rfl ?_
      refine zx_T.l (i := .iload 4) (k := 2) (v := .int (zI (k))) (pc := 17) rfl rfl rfl ?_
      refine zx_T.l (i := .iload_n 2) (k := 1) (v := .int (zI (u))) (pc := 19) rfl rfl rfl ?_
      refine zr_is (cj := 188) (q' := zp_m188) (As := [.ref 66, .int (zI (k)), .int (zI (u))]) (rest := [.int (zI (k))]) (pc := 20) rfl rfl rfl rfl rfl rfl (Nat.le_of_ble_eq_true rfl) rfl (Nat.le_of_ble_eq_true rfl) rfl ((zm_wideF_66 (h := h) hI (k := k) (u := u) (by omega) (by omega) (by omega) (by omega)).up (Nat.le_of_ble_eq_true rfl)) ?_
      rintro r2 h5 ⟨h5q, v3, r2q, x4⟩
      subst h5q r2q
      try dsimp only at x4
      have wE := x4.1
      show zx_T zp_P 1 zp_m189 23 [(3, .int (zI (m + 1))), (0, .ref 66), (1, .int (zI (f))), (2, .int (zI (u))), (4, .int (zI (k)))] [.int (zI (v3)), .int (zI (k))] h _
      refine zr_add (x := k) (y := v3) (e := k + v3) (pc := 23) rfl (by omega) ?_
      refine zx_T.t (i := .istore 4) (k := 2) (ls' := [(4, .int (zI (k + v3))), (3, .int (zI (m + 1))), (0, .ref 66), (1, .int (zI (f))), (2, .int (zI (u)))]) (st' := []) (pc := 24) rfl rfl rfl rfl ?_
      refine zx_T.j (i := .goto (-21)) (k := 3) (pc' := 5) (st' := []) (pc := 26) rfl rfl rfl rfl rfl ?_
      refine zx_T.lk (ls' := [(0, .ref 66), (1, .int (zI (f))), (2, .int (zI (u))), (3, .int (zI (m + 1))), (4, .int (zI (k + v3)))]) rfl ⟨rfl, rfl, rfl, rfl, rfl, trivial⟩ ?_
      exact ih (m := m + 1) (k := k + v3) (by omega) (by have w9 := (zs_wi_r (N := zv_a h 66) (k := k) (u := u)).2 (by omega); omega) (by omega) (by rw [zs_es_s (show k < u by omega), List.length_cons] at mq; rw [wE]; omega) (by omega)
set_option maxRecDepth 100000 in
set_option maxHeartbeats 4000000 in
theorem zm_entriesF {h : zx_H} (hI : zb_I zc_H h) {f : Int} {u : Int} (f1 : 0 ≤ f) (f2 : f ≤ u) (u2 : u ≤ 14) : zx_T zp_P 1 zp_m189 0 [(0, .ref 66), (1, .int (zI (f))), (2, .int (zI (u)))] [] h (zr_P h (fun e => e = ((zs_es (zv_a h 66) f u).length : Int) ∧ 0 ≤ e ∧ e ≤ 14)) := by
  have ln := zs_es_len (N := zv_a h 66) (u := u) 14 f (by omega)
  rw [if_pos f2] at ln
  refine zx_T.s (i := .iconst 0) (k := 1) (st' := [.int (zI (0))]) (pc := 0) rfl rfl ?_
  refine zx_T.t (i := .istore_n 3) (k := 1) (ls' := [(3, .int (zI (0))), (0, .ref 66), (1, .int (zI (f))), (2, .int (zI (u)))]) (st' := []) (pc := 1) rfl rfl rfl rfl ?_
  refine zx_T.l (i := .iload_n 1) (k := 1) (v := .int (zI (f))) (pc := 2) rfl rfl rfl ?_
  refine zx_T.t (i := .istore 4) (k := 2) (ls' := [(4, .int (zI (f))), (3, .int (zI (0))), (0, .ref 66), (1, .int (zI (f))), (2, .int (zI (u)))]) (st' := []) (pc := 3) rfl rfl rfl rfl ?_
  refine zx_T.lk (ls' := [(0, .ref 66), (1, .int (zI (f))), (2, .int (zI (u))), (3, .int (zI (0))), (4, .int (zI (f)))]) rfl ⟨rfl, rfl, rfl, rfl, rfl, trivial⟩ ?_
  exact zm_entriesF_L (h := h) hI (f := f) (u := u) f1 f2 u2 ((u - f : Int).toNat + 1) (m := 0) (k := f) (by omega) (by omega) (by omega) (Int.zero_add _) (Nat.lt_succ_self _)

set_option maxRecDepth 100000 in
set_option maxHeartbeats 4000000 in
theorem zm_putEntriesF_L {h : zx_H} (hI : zb_I zc_H h) {f : Int} {u : Int} (f1 : 0 ≤ f) (f2 : f ≤ 14) (u1 : 0 ≤ u) (u2 : u ≤ 14) (pk : zv_i h 30 + 42 ≤ 4000) (L : List Int) (bl : zs_bl (zv_i h 30) (zv_a h 64) L) (n : Nat) : (∀ {h2 : zx_H} {k : Int} (hI2 : zb_I zc_H h2) (k1 : f ≤ k) (k2 : k ≤ u ∨ k = f) (hw : zb_W [(44, 30), (64, 0)] h h2) (pb : zv_i h2 30 ≤ zv_i h 30 + 3 * (k - f)) (L2 : List Int) (bl2 : zs_bl (zv_i h2 30) (zv_a h2 64) (L2)) (hq : L2 ++ zs_ebs (zs_es (zv_a h 66) k u) = L ++ zs_ebs (zs_es (zv_a h 66) f u)), (20 - k : Int).toNat < n → zx_T zp_P 1 zp_m190 3 [(0, .ref 44), (1, .ref 66), (2, .int (zI (f))), (3, .int (zI (u))), (4, .int (zI (k)))] [] h2 (zr_V [(44, 30), (64, 0)] h (fun h' => zs_bl (zv_i h' 30) (zv_a h' 64) (L ++ zs_ebs (zs_es (zv_a h 66) f u)) ∧ zv_i h' 30 ≤ zv_i h 30 + 42))) := by
  induction n with
  | zero => exact fun _ _ _ _ _ _ _ _ hm => absurd hm (Nat.not_lt_zero _)
  | succ n ih =>
    intro h2 k hI2 k1 k2 hw pb L2 bl2 hq hm
    have hP := zv_ri hI (k := 30) rfl
    have e66 : zv_a h2 66 = zv_a h 66 := funext (fun q => zv_wa hw rfl q)
    have hP2 := zv_ri hI2 (k := 30) rfl
    refine zx_T.l (i := .iload 4) (k := 2) (v := .int (zI (k))) (pc := 3) rfl rfl rfl ?_
    refine zx_T.l (i := .iload_n 3) (k := 1) (v := .int (zI (u))) (pc := 5) rfl rfl rfl ?_
    refine zr_i2 (x := k) (y := u) (t := 90) (pc := 6) rfl rfl (by omega) (by omega) (by omega) (by omega) (fun (c1 : u ≤ k) => ?_) (fun (c1 : ¬ (u ≤ k)) => ?_)
    · exact zr_vr (pc := 90) rfl rfl ⟨hI2, (hw.wd rfl : zb_W [(44, 30), (64, 0)] h _), rfl, by dsimp only; rw [zs_es_e (show u ≤ k by omega)] at hq; rw [← hq]; exact ⟨by show zs_bl _ _ (L2 ++ []); rw [List.append_nil]; exact bl2, by omega⟩⟩
    · refine zx_T.l (i := .aload_n 1) (k := 1) (v := .ref 66) (pc := 9) rfl rfl rfl ?_
      refine zx_T.l (i := .iload 4) (k := 2) (v := .int (zI (k))) (pc := 10) rfl rfl rfl ?_
      refine zr_al (n := 14) (lo := 0) (hi := 8) (e := zv_a h 66 k) (pc := 12) rfl rfl rfl hI2 (by omega) (by omega) (zv_wa hw rfl k) (fun g2a g2b => ?_)
      refine zx_T.t (i := .istore 5) (k := 2) (ls' := [(5, .int (zI (zv_a h 66 k))), (0, .ref 44), (1, .ref 66), (2, .int (zI (f))), (3, .int (zI (u))), (4, .int (zI (k)))]) (st' := []) (pc := 13) rfl rfl rfl rfl ?_
      refine zx_T.l (i := .aload_n 0) (k := 1) (v := .ref 44) (pc := 15) rfl rfl rfl ?_
      refine zx_T.l (i := .iload 5) (k := 2) (v := .int (zI (zv_a h 66 k))) (pc := 16) rfl rfl rfl ?_
      refine zx_T.s (i := .iconst 1) (k := 1) (st' := [.int (zI (1)), .int (zI (zv_a h 66 k)), .ref 44]) (pc := 18) rfl rfl ?_
      refine zr_i2 (x := zv_a h 66 k) (y := 1) (t := 27) (pc := 19) rfl rfl (by omega) (by omega) (by omega) (by omega) (fun (c3 : 1 < (zv_a h 66 k)) => ?_) (fun (c3 : ¬ (1 < (zv_a h 66 k))) => ?_)
      · refine zx_T.l (i := .iload 5) (k := 2) (v := .int (zI (zv_a h 66 k))) (pc := 27) rfl rfl rfl ?_
        refine zx_T.s (i := .iconst 2) (k := 1) (st' := [.int (zI (2)), .int (zI (zv_a h 66 k)), .ref 44]) (pc := 29) rfl rfl ?_
        refine zr_i2 (x := zv_a h 66 k) (y := 2) (t := 37) (pc := 30) rfl rfl (by omega) (by omega) (by omega) (by omega) (fun (c4 : ¬ (zv_a h 66 k) = 2) => ?_) (fun (c4 : ¬ (¬ (zv_a h 66 k) = 2)) => ?_)
        · refine zx_T.l (i := .iload 5) (k := 2) (v := .int (zI (zv_a h 66 k))) (pc := 37) rfl rfl rfl ?_
          refine zx_T.s (i := .iconst 4) (k := 1) (st' := [.int (zI (4)), .int (zI (zv_a h 66 k)), .ref 44]) (pc := 39) rfl rfl ?_
          refine zr_i2 (x := zv_a h 66 k) (y := 4) (t := 47) (pc := 40) rfl rfl (by omega) (by omega) (by omega) (by omega) (fun (c5 : ¬ (zv_a h 66 k) = 4) => ?_) (fun (c5 : ¬ (¬ (zv_a h 66 k) = 4)) => ?_)
          · refine zx_T.s (i := .bipush 7) (k := 2) (st' := [.int (zI (7)), .ref 44]) (pc := 47) rfl rfl ?_
            refine zr_iv (cj := 187) (q' := zp_m187) (As := [.int (zI (7))]) (rest := []) (pc := 49) rfl rfl rfl rfl rfl rfl (Nat.le_of_ble_eq_true rfl) rfl (Nat.le_of_ble_eq_true rfl) hI2 ((zm_putF (h := h2) hI2 (b := 7) (by omega) (by omega) (by omega) L2 bl2).up (Nat.le_of_ble_eq_true rfl)) ?_
            rintro r7 h10 ⟨ih10, w11, r7q, x9⟩
            subst r7q
            try dsimp only at x9
            have pB1 := x9.1
            have pN1 := x9.2
            skip
            show zx_T zp_P 1 zp_m190 52 [(5, .int (zI (zv_a h 66 k))), (0, .ref 44), (1, .ref 66), (2, .int (zI (f))), (3, .int (zI (u))), (4, .int (zI (k)))] [] h10 _
            refine zx_T.l (i := .iload 5) (k := 2) (v := .int (zI (zv_a h 66 k))) (pc := 52) rfl rfl rfl ?_
            refine zx_T.s (i := .iconst 3) (k := 1) (st' := [.int (zI (3)), .int (zI (zv_a h 66 k))]) (pc := 54) rfl rfl ?_
            refine zr_i2 (x := zv_a h 66 k) (y := 3) (t := 64) (pc := 55) rfl rfl (by omega) (by omega) (by omega) (by omega) (fun (c12 : (zv_a h 66 k) = 3) => ?_) (fun (c12 : ¬ ((zv_a h 66 k) = 3)) => ?_)
            · refine zx_T.l (i := .aload_n 0) (k := 1) (v := .ref 44) (pc := 64) rfl rfl rfl ?_
              refine zx_T.s (i := .iconst 0) (k := 1) (st' := [.int (zI (0)), .ref 44]) (pc := 65) rfl rfl ?_
              refine zr_iv (cj := 187) (q' := zp_m187) (As := [.int (zI (0))]) (rest := []) (pc := 66) rfl rfl rfl rfl rfl rfl (Nat.le_of_ble_eq_true rfl) rfl (Nat.le_of_ble_eq_true rfl) ih10 ((zm_putF (h := h10) ih10 (b := 0) (by omega) (by omega) (by omega) _ pB1).up (Nat.le_of_ble_eq_true rfl)) ?_
              rintro r14 h17 ⟨ih17, w18, r14q, x16⟩
              subst r14q
              try dsimp only at x16
              have pB2 := x16.1
              have pN2 := x16.2
              skip
              show zx_T zp_P 1 zp_m190 69 [(5, .int (zI (zv_a h 66 k))), (0, .ref 44), (1, .ref 66), (2, .int (zI (f))), (3, .int (zI (u))), (4, .int (zI (k)))] [] h17 _
              refine zx_T.l (i := .aload_n 0) (k := 1) (v := .ref 44) (pc := 69) rfl rfl rfl ?_
              refine zx_T.l (i := .iload 5) (k := 2) (v := .int (zI (zv_a h 66 k))) (pc := 70) rfl rfl rfl ?_
              refine zr_iv (cj := 187) (q' := zp_m187) (As := [.int (zI (zv_a h 66 k))]) (rest := []) (pc := 72) rfl rfl rfl rfl rfl rfl (Nat.le_of_ble_eq_true rfl) rfl (Nat.le_of_ble_eq_true rfl) ih17 ((zm_putF (h := h17) ih17 (b := zv_a h 66 k) (by omega) (by omega) (by omega) _ pB2).up (Nat.le_of_ble_eq_true rfl)) ?_
              rintro r20 h23 ⟨ih23, w24, r20q, x22⟩
              subst r20q
              try dsimp only at x22
              have pB3 := x22.1
              have pN3 := x22.2
              skip
              show zx_T zp_P 1 zp_m190 75 [(5, .int (zI (zv_a h 66 k))), (0, .ref 44), (1, .ref 66), (2, .int (zI (f))), (3, .int (zI (u))), (4, .int (zI (k)))] [] h23 _
              refine zx_T.l (i := .iload 4) (k := 2) (v := .int (zI (k))) (pc := 75) rfl rfl rfl ?_
              refine zx_T.l (i := .aload_n 1) (k := 1) (v := .ref 66) (pc := 77) rfl rfl rfl ?_
              refine zx_T.l (i := .iload 4) (k := 2) (v := .int (zI (k))) (pc := 78) rfl rfl rfl ?_
              refine zx_T.l (i := .iload_n 3) (k := 1) (v := .int (zI (u))) (pc := 80) rfl rfl rfl ?_
              refine zr_is (cj := 188) (q' := zp_m188) (As := [.ref 66, .int (zI (k)), .int (zI (u))]) (rest := [.int (zI (k))]) (pc := 81) rfl rfl rfl rfl rfl rfl (Nat.le_of_ble_eq_true rfl) rfl (Nat.le_of_ble_eq_true rfl) rfl ((zm_wideF_66 (h := h23) ih23 (k := k) (u := u) (by omega) (by omega) (by omega) (by omega)).up (Nat.le_of_ble_eq_true rfl)) ?_
              rintro r25 h28 ⟨h28q, v26, r25q, x27⟩
              subst h28q r25q
              try dsimp only at x27
              have wE := x27.1; rw [show zv_a h23 66 = zv_a h 66 from funext (fun q => zv_wa ((((hw.wd rfl : zb_W [(44, 30), (64, 0)] h _).tr (w11.wd rfl)).tr (w18.wd rfl)).tr (w24.wd rfl)) rfl q)] at wE
              show zx_T zp_P 1 zp_m190 84 [(5, .int (zI (zv_a h 66 k))), (0, .ref 44), (1, .ref 66), (2, .int (zI (f))), (3, .int (zI (u))), (4, .int (zI (k)))] [.int (zI (v26)), .int (zI (k))] h23 _
              refine zr_add (x := k) (y := v26) (e := k + v26) (pc := 84) rfl (by omega) ?_
              refine zx_T.t (i := .istore 4) (k := 2) (ls' := [(4, .int (zI (k + v26))), (5, .int (zI (zv_a h 66 k))), (0, .ref 44), (1, .ref 66), (2, .int (zI (f))), (3, .int (zI (u)))]) (st' := []) (pc := 85) rfl rfl rfl rfl ?_
              refine zx_T.j (i := .goto (-84)) (k := 3) (pc' := 3) (st' := []) (pc := 87) rfl rfl rfl rfl rfl ?_
              refine zx_T.lk (ls' := [(0, .ref 44), (1, .ref 66), (2, .int (zI (f))), (3, .int (zI (u))), (4, .int (zI (k + v26)))]) rfl ⟨rfl, rfl, rfl, rfl, rfl, trivial⟩ ?_
              exact ih (h2 := h23) (k := k + v26) ih23 (by omega) (by have w9 := (zs_wi_r (N := zv_a h 66) (k := k) (u := u)).2 (by omega); omega) ((((hw.wd rfl : zb_W [(44, 30), (64, 0)] h _).tr (w11.wd rfl)).tr (w18.wd rfl)).tr (w24.wd rfl)) (by omega) (L2 ++ zs_eb (zv_a h 66 k)) (by have q9 := pB3; rw [show zs_eb (zv_a h 66 k) = [7, 0, zv_a h 66 k] from (by unfold zs_eb; (repeat' split) <;> first | omega | rfl)]; rw [List.append_assoc, List.append_assoc] at q9; exact q9) (by rw [← hq, zs_es_s (show k < u by omega), zs_ebs_c, ← wE, List.append_assoc]) (by omega)
            · refine zx_T.l (i := .iload 5) (k := 2) (v := .int (zI (zv_a h 66 k))) (pc := 58) rfl rfl rfl ?_
              refine zx_T.s (i := .iconst 4) (k := 1) (st' := [.int (zI (4)), .int (zI (zv_a h 66 k))]) (pc := 60) rfl rfl ?_
              refine zr_i2 (x := zv_a h 66 k) (y := 4) (t := 75) (pc := 61) rfl rfl (by omega) (by omega) (by omega) (by omega) (fun (c30 : (zv_a h 66 k) ≤ 4) => False.elim (by omega)) (fun (c30 : ¬ ((zv_a h 66 k) ≤ 4)) => ?_)
              refine zx_T.l (i := .aload_n 0) (k := 1) (v := .ref 44) (pc := 64) rfl rfl rfl ?_
              refine zx_T.s (i := .iconst 0) (k := 1) (st' := [.int (zI (0)), .ref 44]) (pc := 65) rfl rfl ?_
              refine zr_iv (cj := 187) (q' := zp_m187) (As := [.int (zI (0))]) (rest := []) (pc := 66) rfl rfl rfl rfl rfl rfl (Nat.le_of_ble_eq_true rfl) rfl (Nat.le_of_ble_eq_true rfl) ih10 ((zm_putF (h := h10) ih10 (b := 0) (by omega) (by omega) (by omega) _ pB1).up (Nat.le_of_ble_eq_true rfl)) ?_
              rintro r32 h35 ⟨ih35, w36, r32q, x34⟩
              subst r32q
              try dsimp only at x34
              have pB2 := x34.1
              have pN2 := x34.2
              skip
              show zx_T zp_P 1 zp_m190 69 [(5, .int (zI (zv_a h 66 k))), (0, .ref 44), (1, .ref 66), (2, .int (zI (f))), (3, .int (zI (u))), (4, .int (zI (k)))] [] h35 _
              refine zx_T.l (i := .aload_n 0) (k := 1) (v := .ref 44) (pc := 69) rfl rfl rfl ?_
              refine zx_T.l (i := .iload 5) (k := 2) (v := .int (zI (zv_a h 66 k))) (pc := 70) rfl rfl rfl ?_
              refine zr_iv (cj := 187) (q' := zp_m187) (As := [.int (zI (zv_a h 66 k))]) (rest := []) (pc := 72) rfl rfl rfl rfl rfl rfl (Nat.le_of_ble_eq_true rfl) rfl (Nat.le_of_ble_eq_true rfl) ih35 ((zm_putF (h := h35) ih35 (b := zv_a h 66 k) (by omega) (by omega) (by omega) _ pB2).up (Nat.le_of_ble_eq_true rfl)) ?_
              rintro r38 h41 ⟨ih41, w42, r38q, x40⟩
              subst r38q
              try dsimp only at x40
              have pB3 := x40.1
              have pN3 := x40.2
              skip
              show zx_T zp_P 1 zp_m190 75 [(5, .int (zI (zv_a h 66 k))), (0, .ref 44), (1, .ref 66), (2, .int (zI (f))), (3, .int (zI (u))), (4, .int (zI (k)))] [] h41 _
              refine zx_T.l (i := .iload 4) (k := 2) (v := .int (zI (k))) (pc := 75) rfl rfl rfl ?_
              refine zx_T.l (i := .aload_n 1) (k := 1) (v := .ref 66) (pc := 77) rfl rfl rfl ?_
              refine zx_T.l (i := .iload 4) (k := 2) (v := .int (zI (k))) (pc := 78) rfl rfl rfl ?_
              refine zx_T.l (i := .iload_n 3) (k := 1) (v := .int (zI (u))) (pc := 80) rfl rfl rfl ?_
              refine zr_is (cj := 188) (q' := zp_m188) (As := [.ref 66, .int (zI (k)), .int (zI (u))]) (rest := [.int (zI (k))]) (pc := 81) rfl rfl rfl rfl rfl rfl (Nat.le_of_ble_eq_true rfl) rfl (Nat.le_of_ble_eq_true rfl) rfl ((zm_wideF_66 (h := h41) ih41 (k := k) (u := u) (by omega) (by omega) (by omega) (by omega)).up (Nat.le_of_ble_eq_true rfl)) ?_
              rintro r43 h46 ⟨h46q, v44, r43q, x45⟩
              subst h46q r43q
              try dsimp only at x45
              have wE := x45.1; rw [show zv_a h41 66 = zv_a h 66 from funext (fun q => zv_wa ((((hw.wd rfl : zb_W [(44, 30), (64, 0)] h _).tr (w11.wd rfl)).tr (w36.wd rfl)).tr (w42.wd rfl)) rfl q)] at wE
              show zx_T zp_P 1 zp_m190 84 [(5, .int (zI (zv_a h 66 k))), (0, .ref 44), (1, .ref 66), (2, .int (zI (f))), (3, .int (zI (u))), (4, .int (zI (k)))] [.int (zI (v44)), .int (zI (k))] h41 _
              refine zr_add (x := k) (y := v44) (e := k + v44) (pc := 84) rfl (by omega) ?_
              refine zx_T.t (i := .istore 4) (k := 2) (ls' := [(4, .int (zI (k + v44))), (5, .int (zI (zv_a h 66 k))), (0, .ref 44), (1, .ref 66), (2, .int (zI (f))), (3, .int (zI (u)))]) (st' := []) (pc := 85) rfl rfl rfl rfl ?_
              refine zx_T.j (i := .goto (-84)) (k := 3) (pc' := 3) (st' := []) (pc := 87) rfl rfl rfl rfl rfl ?_
              refine zx_T.lk (ls' := [(0, .ref 44), (1, .ref 66), (2, .int (zI (f))), (3, .int (zI (u))), (4, .int (zI (k + v44)))]) rfl ⟨rfl, rfl, rfl, rfl, rfl, trivial⟩ ?_
              exact ih (h2 := h41) (k := k + v44) ih41 (by omega) (by have w9 := (zs_wi_r (N := zv_a h 66) (k := k) (u := u)).2 (by omega); omega) ((((hw.wd rfl : zb_W [(44, 30), (64, 0)] h _).tr (w11.wd rfl)).tr (w36.wd rfl)).tr (w42.wd rfl)) (by omega) (L2 ++ zs_eb (zv_a h 66 k)) (by have q9 := pB3; rw [show zs_eb (zv_a h 66 k) = [7, 0, zv_a h 66 k] from (by unfold zs_eb; (repeat' split) <;> first | omega | rfl)]; rw [List.append_assoc, List.append_assoc] at q9; exact q9) (by rw [← hq, zs_es_s (show k < u by omega), zs_ebs_c, ← wE, List.append_assoc]) (by omega)
          · refine zx_T.s (i := .iconst 5) (k := 1) (st' := [.int (zI (5)), .ref 44]) (pc := 43) rfl rfl ?_
            refine zx_T.j (i := .goto 5) (k := 3) (pc' := 49) (st' := [.int (zI (5)), .ref 44]) (pc := 44) rfl rfl rfl rfl rfl ?_
            refine zr_iv (cj := 187) (q' := zp_m187) (As := [.int (zI (5))]) (rest := []) (pc := 49) rfl rfl rfl rfl rfl rfl (Nat.le_of_ble_eq_true rfl) rfl (Nat.le_of_ble_eq_true rfl) hI2 ((zm_putF (h := h2) hI2 (b := 5) (by omega) (by omega) (by omega) L2 bl2).up (Nat.le_of_ble_eq_true rfl)) ?_
            rintro r49 h52 ⟨ih52, w53, r49q, x51⟩
            subst r49q
            try dsimp only at x51
            have pB1 := x51.1
            have pN1 := x51.2
            skip
            show zx_T zp_P 1 zp_m190 52 [(5, .int (zI (zv_a h 66 k))), (0, .ref 44), (1, .ref 66), (2, .int (zI (f))), (3, .int (zI (u))), (4, .int (zI (k)))] [] h52 _
            refine zx_T.l (i := .iload 5) (k := 2) (v := .int (zI (zv_a h 66 k))) (pc := 52) rfl rfl rfl ?_
            refine zx_T.s (i := .iconst 3) (k := 1) (st' := [.int (zI (3)), .int (zI (zv_a h 66 k))]) (pc := 54) rfl rfl ?_
            refine zr_i2 (x := zv_a h 66 k) (y := 3) (t := 64) (pc := 55) rfl rfl (by omega) (by omega) (by omega) (by omega) (fun (c54 : (zv_a h 66 k) = 3) => False.elim (by omega)) (fun (c54 : ¬ ((zv_a h 66 k) = 3)) => ?_)
            refine zx_T.l (i := .iload 5) (k := 2) (v := .int (zI (zv_a h 66 k))) (pc := 58) rfl rfl rfl ?_
            refine zx_T.s (i := .iconst 4) (k := 1) (st' := [.int (zI (4)), .int (zI (zv_a h 66 k))]) (pc := 60) rfl rfl ?_
            refine zr_i2 (x := zv_a h 66 k) (y := 4) (t := 75) (pc := 61) rfl rfl (by omega) (by omega) (by omega) (by omega) (fun (c55 : (zv_a h 66 k) ≤ 4) => ?_) (fun (c55 : ¬ ((zv_a h 66 k) ≤ 4)) => False.elim (by omega))
            refine zx_T.l (i := .iload 4) (k := 2) (v := .int (zI (k))) (pc := 75) rfl rfl rfl ?_
            refine zx_T.l (i := .aload_n 1) (k := 1) (v := .ref 66) (pc := 77) rfl rfl rfl ?_
            refine zx_T.l (i := .iload 4) (k := 2) (v := .int (zI (k))) (pc := 78) rfl rfl rfl ?_
            refine zx_T.l (i := .iload_n 3) (k := 1) (v := .int (zI (u))) (pc := 80) rfl rfl rfl ?_
            refine zr_is (cj := 188) (q' := zp_m188) (As := [.ref 66, .int (zI (k)), .int (zI (u))]) (rest := [.int (zI (k))]) (pc := 81) rfl rfl rfl rfl rfl rfl (Nat.le_of_ble_eq_true rfl) rfl (Nat.le_of_ble_eq_true rfl) rfl ((zm_wideF_66 (h := h52) ih52 (k := k) (u := u) (by omega) (by omega) (by omega) (by omega)).up (Nat.le_of_ble_eq_true rfl)) ?_
            rintro r56 h59 ⟨h59q, v57, r56q, x58⟩
            subst h59q r56q
            try dsimp only at x58
            have wE := x58.1; rw [show zv_a h52 66 = zv_a h 66 from funext (fun q => zv_wa ((hw.wd rfl : zb_W [(44, 30), (64, 0)] h _).tr (w53.wd rfl)) rfl q)] at wE
            show zx_T zp_P 1 zp_m190 84 [(5, .int (zI (zv_a h 66 k))), (0, .ref 44), (1, .ref 66), (2, .int (zI (f))), (3, .int (zI (u))), (4, .int (zI (k)))] [.int (zI (v57)), .int (zI (k))] h52 _
            refine zr_add (x := k) (y := v57) (e := k + v57) (pc := 84) rfl (by omega) ?_
            refine zx_T.t (i := .istore 4) (k := 2) (ls' := [(4, .int (zI (k + v57))), (5, .int (zI (zv_a h 66 k))), (0, .ref 44), (1, .ref 66), (2, .int (zI (f))), (3, .int (zI (u)))]) (st' := []) (pc := 85) rfl rfl rfl rfl ?_
            refine zx_T.j (i := .goto (-84)) (k := 3) (pc' := 3) (st' := []) (pc := 87) rfl rfl rfl rfl rfl ?_
            refine zx_T.lk (ls' := [(0, .ref 44), (1, .ref 66), (2, .int (zI (f))), (3, .int (zI (u))), (4, .int (zI (k + v57)))]) rfl ⟨rfl, rfl, rfl, rfl, rfl, trivial⟩ ?_
            exact ih (h2 := h52) (k := k + v57) ih52 (by omega) (by have w9 := (zs_wi_r (N := zv_a h 66) (k := k) (u := u)).2 (by omega); omega) ((hw.wd rfl : zb_W [(44, 30), (64, 0)] h _).tr (w53.wd rfl)) (by omega) (L2 ++ zs_eb (zv_a h 66 k)) (by have q9 := pB1; rw [show zs_eb (zv_a h 66 k) = [5] from (by unfold zs_eb; (repeat' split) <;> first | omega | rfl | (congr 1; omega))]; exact q9) (by rw [← hq, zs_es_s (show k < u by omega), zs_ebs_c, ← wE, List.append_assoc]) (by omega)
        · refine zx_T.s (i := .iconst 4) (k := 1) (st' := [.int (zI (4)), .ref 44]) (pc := 33) rfl rfl ?_
          refine zx_T.j (i := .goto 15) (k := 3) (pc' := 49) (st' := [.int (zI (4)), .ref 44]) (pc := 34) rfl rfl rfl rfl rfl ?_
          refine zr_iv (cj := 187) (q' := zp_m187) (As := [.int (zI (4))]) (rest := []) (pc := 49) rfl rfl rfl rfl rfl rfl (Nat.le_of_ble_eq_true rfl) rfl (Nat.le_of_ble_eq_true rfl) hI2 ((zm_putF (h := h2) hI2 (b := 4) (by omega) (by omega) (by omega) L2 bl2).up (Nat.le_of_ble_eq_true rfl)) ?_
          rintro r62 h65 ⟨ih65, w66, r62q, x64⟩
          subst r62q
          try dsimp only at x64
          have pB1 := x64.1
          have pN1 := x64.2
          skip
          show zx_T zp_P 1 zp_m190 52 [(5, .int (zI (zv_a h 66 k))), (0, .ref 44), (1, .ref 66), (2, .int (zI (f))), (3, .int (zI (u))), (4, .int (zI (k)))] [] h65 _
          refine zx_T.l (i := .iload 5) (k := 2) (v := .int (zI (zv_a h 66 k))) (pc := 52) rfl rfl rfl ?_
          refine zx_T.s (i := .iconst 3) (k := 1) (st' := [.int (zI (3)), .int (zI (zv_a h 66 k))]) (pc := 54) rfl rfl ?_
          refine zr_i2 (x := zv_a h 66 k) (y := 3) (t := 64) (pc := 55) rfl rfl (by omega) (by omega) (by omega) (by omega) (fun (c67 : (zv_a h 66 k) = 3) => False.elim (by omega)) (fun (c67 : ¬ ((zv_a h 66 k) = 3)) => ?_)
          refine zx_T.l (i := .iload 5) (k := 2) (v := .int (zI (zv_a h 66 k))) (pc := 58) rfl rfl rfl ?_
          refine zx_T.s (i := .iconst 4) (k := 1) (st' := [.int (zI (4)), .int (zI (zv_a h 66 k))]) (pc := 60) rfl rfl ?_
          refine zr_i2 (x := zv_a h 66 k) (y := 4) (t := 75) (pc := 61) rfl rfl (by omega) (by omega) (by omega) (by omega) (fun (c68 : (zv_a h 66 k) ≤ 4) => ?_) (fun (c68 : ¬ ((zv_a h 66 k) ≤ 4)) => False.elim (by omega))
          refine zx_T.l (i := .iload 4) (k := 2) (v := .int (zI (k))) (pc := 75) rfl rfl rfl ?_
          refine zx_T.l (i := .aload_n 1) (k := 1) (v := .ref 66) (pc := 77) rfl rfl rfl ?_
          refine zx_T.l (i := .iload 4) (k := 2) (v := .int (zI (k))) (pc := 78) rfl rfl rfl ?_
          refine zx_T.l (i := .iload_n 3) (k := 1) (v := .int (zI (u))) (pc := 80) rfl rfl rfl ?_
          refine zr_is (cj := 188) (q' := zp_m188) (As := [.ref 66, .int (zI (k)), .int (zI (u))]) (rest := [.int (zI (k))]) (pc := 81) rfl rfl rfl rfl rfl rfl (Nat.le_of_ble_eq_true rfl) rfl (Nat.le_of_ble_eq_true rfl) rfl ((zm_wideF_66 (h := h65) ih65 (k := k) (u := u) (by omega) (by omega) (by omega) (by omega)).up (Nat.le_of_ble_eq_true rfl)) ?_
          rintro r69 h72 ⟨h72q, v70, r69q, x71⟩
          subst h72q r69q
          try dsimp only at x71
          have wE := x71.1; rw [show zv_a h65 66 = zv_a h 66 from funext (fun q => zv_wa ((hw.wd rfl : zb_W [(44, 30), (64, 0)] h _).tr (w66.wd rfl)) rfl q)] at wE
          show zx_T zp_P 1 zp_m190 84 [(5, .int (zI (zv_a h 66 k))), (0, .ref 44), (1, .ref 66), (2, .int (zI (f))), (3, .int (zI (u))), (4, .int (zI (k)))] [.int (zI (v70)), .int (zI (k))] h65 _
          refine zr_add (x := k) (y := v70) (e := k + v70) (pc := 84) rfl (by omega) ?_
          refine zx_T.t (i := .istore 4) (k := 2) (ls' := [(4, .int (zI (k + v70))), (5, .int (zI (zv_a h 66 k))), (0, .ref 44), (1, .ref 66), (2, .int (zI (f))), (3, .int (zI (u)))]) (st' := []) (pc := 85) rfl rfl rfl rfl ?_
          refine zx_T.j (i := .goto (-84)) (k := 3) (pc' := 3) (st' := []) (pc := 87) rfl rfl rfl rfl rfl ?_
          refine zx_T.lk (ls' := [(0, .ref 44), (1, .ref 66), (2, .int (zI (f))), (3, .int (zI (u))), (4, .int (zI (k + v70)))]) rfl ⟨rfl, rfl, rfl, rfl, rfl, trivial⟩ ?_
          exact ih (h2 := h65) (k := k + v70) ih65 (by omega) (by have w9 := (zs_wi_r (N := zv_a h 66) (k := k) (u := u)).2 (by omega); omega) ((hw.wd rfl : zb_W [(44, 30), (64, 0)] h _).tr (w66.wd rfl)) (by omega) (L2 ++ zs_eb (zv_a h 66 k)) (by have q9 := pB1; rw [show zs_eb (zv_a h 66 k) = [4] from (by unfold zs_eb; (repeat' split) <;> first | omega | rfl | (congr 1; omega))]; exact q9) (by rw [← hq, zs_es_s (show k < u by omega), zs_ebs_c, ← wE, List.append_assoc]) (by omega)
      · refine zx_T.l (i := .iload 5) (k := 2) (v := .int (zI (zv_a h 66 k))) (pc := 22) rfl rfl rfl ?_
        refine zx_T.j (i := .goto 25) (k := 3) (pc' := 49) (st' := [.int (zI (zv_a h 66 k)), .ref 44]) (pc := 24) rfl rfl rfl rfl rfl ?_
        refine zr_iv (cj := 187) (q' := zp_m187) (As := [.int (zI (zv_a h 66 k))]) (rest := []) (pc := 49) rfl rfl rfl rfl rfl rfl (Nat.le_of_ble_eq_true rfl) rfl (Nat.le_of_ble_eq_true rfl) hI2 ((zm_putF (h := h2) hI2 (b := zv_a h 66 k) (by omega) (by omega) (by omega) L2 bl2).up (Nat.le_of_ble_eq_true rfl)) ?_
        rintro r75 h78 ⟨ih78, w79, r75q, x77⟩
        subst r75q
        try dsimp only at x77
        have pB1 := x77.1
        have pN1 := x77.2
        skip
        show zx_T zp_P 1 zp_m190 52 [(5, .int (zI (zv_a h 66 k))), (0, .ref 44), (1, .ref 66), (2, .int (zI (f))), (3, .int (zI (u))), (4, .int (zI (k)))] [] h78 _
        refine zx_T.l (i := .iload 5) (k := 2) (v := .int (zI (zv_a h 66 k))) (pc := 52) rfl rfl rfl ?_
        refine zx_T.s (i := .iconst 3) (k := 1) (st' := [.int (zI (3)), .int (zI (zv_a h 66 k))]) (pc := 54) rfl rfl ?_
        refine zr_i2 (x := zv_a h 66 k) (y := 3) (t := 64) (pc := 55) rfl rfl (by omega) (by omega) (by omega) (by omega) (fun (c80 : (zv_a h 66 k) = 3) => False.elim (by omega)) (fun (c80 : ¬ ((zv_a h 66 k) = 3)) => ?_)
        refine zx_T.l (i := .iload 5) (k := 2) (v := .int (zI (zv_a h 66 k))) (pc := 58) rfl rfl rfl ?_
        refine zx_T.s (i := .iconst 4) (k := 1) (st' := [.int (zI (4)), .int (zI (zv_a h 66 k))]) (pc := 60) rfl rfl ?_
        refine zr_i2 (x := zv_a h 66 k) (y := 4) (t := 75) (pc := 61) rfl rfl (by omega) (by omega) (by omega) (by omega) (fun (c81 : (zv_a h 66 k) ≤ 4) => ?_) (fun (c81 : ¬ ((zv_a h 66 k) ≤ 4)) => False.elim (by omega))
        refine zx_T.l (i := .iload 4) (k := 2) (v := .int (zI (k))) (pc := 75) rfl rfl rfl ?_
        refine zx_T.l (i := .aload_n 1) (k := 1) (v := .ref 66) (pc := 77) rfl rfl rfl ?_
        refine zx_T.l (i := .iload 4) (k := 2) (v := .int (zI (k))) (pc := 78) rfl rfl rfl ?_
        refine zx_T.l (i := .iload_n 3) (k := 1) (v := .int (zI (u))) (pc := 80) rfl rfl rfl ?_
        refine zr_is (cj := 188) (q' := zp_m188) (As := [.ref 66, .int (zI (k)), .int (zI (u))]) (rest := [.int (zI (k))]) (pc := 81) rfl rfl rfl rfl rfl rfl (Nat.le_of_ble_eq_true rfl) rfl (Nat.le_of_ble_eq_true rfl) rfl ((zm_wideF_66 (h := h78) ih78 (k := k) (u := u) (by omega) (by omega) (by omega) (by omega)).up (Nat.le_of_ble_eq_true rfl)) ?_
        rintro r82 h85 ⟨h85q, v83, r82q, x84⟩
        subst h85q r82q
        try dsimp only at x84
        have wE := x84.1; rw [show zv_a h78 66 = zv_a h 66 from funext (fun q => zv_wa ((hw.wd rfl : zb_W [(44, 30), (64, 0)] h _).tr (w79.wd rfl)) rfl q)] at wE
        show zx_T zp_P 1 zp_m190 84 [(5, .int (zI (zv_a h 66 k))), (0, .ref 44), (1, .ref 66), (2, .int (zI (f))), (3, .int (zI (u))), (4, .int (zI (k)))] [.int (zI (v83)), .int (zI (k))] h78 _
        refine zr_add (x := k) (y := v83) (e := k + v83) (pc := 84) rfl (by omega) ?_
        refine zx_T.t (i := .istore 4) (k := 2) (ls' := [(4, .int (zI (k + v83))), (5, .int (zI (zv_a h 66 k))), (0, .ref 44), (1, .ref 66), (2, .int (zI (f))), (3, .int (zI (u)))]) (st' := []) (pc := 85) rfl rfl rfl rfl ?_
        refine zx_T.j (i := .goto (-84)) (k := 3) (pc' := 3) (st' := []) (pc := 87) rfl rfl rfl rfl rfl ?_
        refine zx_T.lk (ls' := [(0, .ref 44), (1, .ref 66), (2, .int (zI (f))), (3, .int (zI (u))), (4, .int (zI (k + v83)))]) rfl ⟨rfl, rfl, rfl, rfl, rfl, trivial⟩ ?_
        exact ih (h2 := h78) (k := k + v83) ih78 (by omega) (by have w9 := (zs_wi_r (N := zv_a h 66) (k := k) (u := u)).2 (by omega); omega) ((hw.wd rfl : zb_W [(44, 30), (64, 0)] h _).tr (w79.wd rfl)) (by omega) (L2 ++ zs_eb (zv_a h 66 k)) (by have q9 := pB1; rw [show zs_eb (zv_a h 66 k) = [zv_a h 66 k] from (by unfold zs_eb; (repeat' split) <;> first | omega | rfl | (congr 1; omega))]; exact q9) (by rw [← hq, zs_es_s (show k < u by omega), zs_ebs_c, ← wE, List.append_assoc]) (by omega)
set_option maxRecDepth 100000 in
set_option maxHeartbeats 4000000 in
theorem zm_putEntriesF {h : zx_H} (hI : zb_I zc_H h) {f : Int} {u : Int} (f1 : 0 ≤ f) (f2 : f ≤ 14) (u1 : 0 ≤ u) (u2 : u ≤ 14) (pk : zv_i h 30 + 42 ≤ 4000) (L : List Int) (bl : zs_bl (zv_i h 30) (zv_a h 64) L) : zx_T zp_P 1 zp_m190 0 [(0, .ref 44), (1, .ref 66), (2, .int (zI (f))), (3, .int (zI (u)))] [] h (zr_V [(44, 30), (64, 0)] h (fun h' => zs_bl (zv_i h' 30) (zv_a h' 64) (L ++ zs_ebs (zs_es (zv_a h 66) f u)) ∧ zv_i h' 30 ≤ zv_i h 30 + 42)) := by
  have hP := zv_ri hI (k := 30) rfl
  refine zx_T.l (i := .iload_n 2) (k := 1) (v := .int (zI (f))) (pc := 0) rfl rfl rfl ?_
  refine zx_T.t (i := .istore 4) (k := 2) (ls' := [(4, .int (zI (f))), (0, .ref 44), (1, .ref 66), (2, .int (zI (f))), (3, .int (zI (u)))]) (st' := []) (pc := 1) rfl rfl rfl rfl ?_
  refine zx_T.lk (ls' := [(0, .ref 44), (1, .ref 66), (2, .int (zI (f))), (3, .int (zI (u))), (4, .int (zI (f)))]) rfl ⟨rfl, rfl, rfl, rfl, rfl, trivial⟩ ?_
  exact zm_putEntriesF_L (h := h) hI (f := f) (u := u) f1 f2 u1 u2 pk L bl ((20 - f : Int).toNat + 1) (h2 := h) (k := f) hI (by omega) (by omega) zb_W.rf (by omega) L bl rfl (Nat.lt_succ_self _)

set_option maxRecDepth 100000 in
set_option maxHeartbeats 4000000 in
theorem zm_listF_65_L {h : zx_H} (hI : zb_I zc_H h) {u : Int} (u1 : 0 ≤ u) (u2 : u ≤ 14) (n : Nat) : (∀ {h2 : zx_H} {m : Int} {k : Int} (hI2 : zb_I zc_H h2) (m1 : 0 ≤ m) (m2 : m ≤ k) (k2 : k ≤ u) (hw : zb_W [(67, 0)] h h2) (L2 : List Int) (bl2 : zs_bl m (zv_a h2 67) L2) (hq : L2 ++ zs_es (zv_a h 65) k u = zs_es (zv_a h 65) 0 u), (20 - k : Int).toNat < n → zx_T zp_P 1 zp_m191 5 [(0, .ref 65), (1, .int (zI (u))), (2, .ref 67), (3, .int (zI (m))), (4, .int (zI (k)))] [] h2 (zr_R [(67, 0)] h (fun e h' => zs_bl e (zv_a h' 67) (zs_es (zv_a h 65) 0 u) ∧ 0 ≤ e ∧ e ≤ 14))) := by
  induction n with
  | zero => exact fun _ _ _ _ _ _ _ _ hm => absurd hm (Nat.not_lt_zero _)
  | succ n ih =>
    intro h2 m k hI2 m1 m2 k2 hw L2 bl2 hq hm
    refine zx_T.l (i := .iload 4) (k := 2) (v := .int (zI (k))) (pc := 5) rfl rfl rfl ?_
    refine zx_T.l (i := .iload_n 1) (k := 1) (v := .int (zI (u))) (pc := 7) rfl rfl rfl ?_
    refine zr_i2 (x := k) (y := u) (t := 36) (pc := 8) rfl rfl (by omega) (by omega) (by omega) (by omega) (fun (c1 : u ≤ k) => ?_) (fun (c1 : ¬ (u ≤ k)) => ?_)
    · refine zx_T.l (i := .iload_n 3) (k := 1) (v := .int (zI (m))) (pc := 36) rfl rfl rfl ?_
      exact zr_ir (x := m) (pc := 37) rfl rfl rfl ⟨hI2, (hw.wd rfl : zb_W [(67, 0)] h _), _, rfl, by dsimp only; rw [zs_es_e (show u ≤ k by omega), List.append_nil] at hq; exact ⟨by rw [← hq]; exact bl2, by omega, by omega⟩⟩
    · refine zx_T.l (i := .aload_n 2) (k := 1) (v := .ref 67) (pc := 11) rfl rfl rfl ?_
      refine zx_T.l (i := .iload_n 3) (k := 1) (v := .int (zI (m))) (pc := 12) rfl rfl rfl ?_
      refine zx_T.l (i := .aload_n 0) (k := 1) (v := .ref 65) (pc := 13) rfl rfl rfl ?_
      refine zx_T.l (i := .iload 4) (k := 2) (v := .int (zI (k))) (pc := 14) rfl rfl rfl ?_
      refine zr_al (n := 14) (lo := 0) (hi := 8) (e := zv_a h 65 k) (pc := 16) rfl rfl rfl hI2 (by omega) (by omega) (zv_wa hw rfl k) (fun g2a g2b => ?_)
      refine zr_as (n := 14) (lo := 0) (hi := 8) (e := zv_a h 65 k) (pc := 17) rfl rfl rfl rfl hI2 (by omega) (by omega) (by omega) (by omega) (fun h3 ih3 w4 s5 => ?_)
      refine zr_inc (x := m) (n := 1) (y := m + 1) (ls' := [(3, .int (zI (m + 1))), (0, .ref 65), (1, .int (zI (u))), (2, .ref 67), (4, .int (zI (k)))]) (pc := 18) rfl rfl rfl (by omega) rfl ?_
      refine zx_T.l (i := .iload 4) (k := 2) (v := .int (zI (k))) (pc := 21) rfl rfl rfl ?_
      refine zx_T.l (i := .aload_n 0) (k := 1) (v := .ref 65) (pc := 23) rfl rfl rfl ?_
      refine zx_T.l (i := .iload 4) (k := 2) (v := .int (zI (k))) (pc := 24) rfl rfl rfl ?_
      refine zx_T.l (i := .iload_n 1) (k := 1) (v := .int (zI (u))) (pc := 26) rfl rfl rfl ?_
      refine zr_is (cj := 188) (q' := zp_m188) (As := [.ref 65, .int (zI (k)), .int (zI (u))]) (rest := [.int (zI (k))]) (pc := 27) rfl rfl rfl rfl rfl rfl (Nat.le_of_ble_eq_true rfl) rfl (Nat.le_of_ble_eq_true rfl) rfl ((zm_wideF_65 (h := h3) ih3 (k := k) (u := u) (by omega) (by omega) (by omega) (by omega)).up (Nat.le_of_ble_eq_true rfl)) ?_
      rintro r6 h9 ⟨h9q, v7, r6q, x8⟩
      subst h9q r6q
      try dsimp only at x8
      have wE := x8.1; rw [show zv_a h3 65 = zv_a h 65 from funext (fun q => zv_wa ((hw.wd rfl : zb_W [(67, 0)] h _).tr (w4.wd rfl)) rfl q)] at wE
      show zx_T zp_P 1 zp_m191 30 [(3, .int (zI (m + 1))), (0, .ref 65), (1, .int (zI (u))), (2, .ref 67), (4, .int (zI (k)))] [.int (zI (v7)), .int (zI (k))] h3 _
      refine zr_add (x := k) (y := v7) (e := k + v7) (pc := 30) rfl (by omega) ?_
      refine zx_T.t (i := .istore 4) (k := 2) (ls' := [(4, .int (zI (k + v7))), (3, .int (zI (m + 1))), (0, .ref 65), (1, .int (zI (u))), (2, .ref 67)]) (st' := []) (pc := 31) rfl rfl rfl rfl ?_
      refine zx_T.j (i := .goto (-28)) (k := 3) (pc' := 5) (st' := []) (pc := 33) rfl rfl rfl rfl rfl ?_
      have a67 : ∀ j, 0 ≤ j → zv_a h3 67 j = if j = m then zv_a h 65 k else zv_a h2 67 j := fun j hj => by rw [s5 j hj]
      refine zx_T.lk (ls' := [(0, .ref 65), (1, .int (zI (u))), (2, .ref 67), (3, .int (zI (m + 1))), (4, .int (zI (k + v7)))]) rfl ⟨rfl, rfl, rfl, rfl, rfl, trivial⟩ ?_
      exact ih (h2 := h3) (m := m + 1) (k := k + v7) ih3 (by omega) (by omega) (by have w9 := (zs_wi_r (N := zv_a h 65) (k := k) (u := u)).2 (by omega); omega) ((hw.wd rfl : zb_W [(67, 0)] h _).tr (w4.wd rfl)) (L2 ++ [zv_a h 65 k]) (zs_bl_ap bl2 (fun j j0 => by rw [a67 j j0])) (by rw [← hq, zs_es_s (show k < u by omega), ← wE, List.append_assoc]; rfl) (by omega)
set_option maxRecDepth 100000 in
set_option maxHeartbeats 4000000 in
theorem zm_listF_65 {h : zx_H} (hI : zb_I zc_H h) {u : Int} (u1 : 0 ≤ u) (u2 : u ≤ 14) : zx_T zp_P 1 zp_m191 0 [(0, .ref 65), (1, .int (zI (u))), (2, .ref 67)] [] h (zr_R [(67, 0)] h (fun e h' => zs_bl e (zv_a h' 67) (zs_es (zv_a h 65) 0 u) ∧ 0 ≤ e ∧ e ≤ 14)) := by
  refine zx_T.s (i := .iconst 0) (k := 1) (st' := [.int (zI (0))]) (pc := 0) rfl rfl ?_
  refine zx_T.t (i := .istore_n 3) (k := 1) (ls' := [(3, .int (zI (0))), (0, .ref 65), (1, .int (zI (u))), (2, .ref 67)]) (st' := []) (pc := 1) rfl rfl rfl rfl ?_
  refine zx_T.s (i := .iconst 0) (k := 1) (st' := [.int (zI (0))]) (pc := 2) rfl rfl ?_
  refine zx_T.t (i := .istore 4) (k := 2) (ls' := [(4, .int (zI (0))), (3, .int (zI (0))), (0, .ref 65), (1, .int (zI (u))), (2, .ref 67)]) (st' := []) (pc := 3) rfl rfl rfl rfl ?_
  have a67 : ∀ j, 0 ≤ j → zv_a h 67 j = zv_a h 67 j := fun j hj => rfl
  refine zx_T.lk (ls' := [(0, .ref 65), (1, .int (zI (u))), (2, .ref 67), (3, .int (zI (0))), (4, .int (zI (0)))]) rfl ⟨rfl, rfl, rfl, rfl, rfl, trivial⟩ ?_
  exact zm_listF_65_L (h := h) hI (u := u) u1 u2 ((20 - 0 : Int).toNat + 1) (h2 := h) (m := 0) (k := 0) hI (by omega) (by omega) (by omega) zb_W.rf [] zs_bl_0 rfl (Nat.lt_succ_self _)

set_option maxRecDepth 100000 in
set_option maxHeartbeats 4000000 in
theorem zm_listF_66_L {h : zx_H} (hI : zb_I zc_H h) {u : Int} (u1 : 0 ≤ u) (u2 : u ≤ 14) (n : Nat) : (∀ {h2 : zx_H} {m : Int} {k : Int} (hI2 : zb_I zc_H h2) (m1 : 0 ≤ m) (m2 : m ≤ k) (k2 : k ≤ u) (hw : zb_W [(68, 0)] h h2) (L2 : List Int) (bl2 : zs_bl m (zv_a h2 68) L2) (hq : L2 ++ zs_es (zv_a h 66) k u = zs_es (zv_a h 66) 0 u), (20 - k : Int).toNat < n → zx_T zp_P 1 zp_m191 5 [(0, .ref 66), (1, .int (zI (u))), (2, .ref 68), (3, .int (zI (m))), (4, .int (zI (k)))] [] h2 (zr_R [(68, 0)] h (fun e h' => zs_bl e (zv_a h' 68) (zs_es (zv_a h 66) 0 u) ∧ 0 ≤ e ∧ e ≤ 14))) := by
  induction n with
  | zero => exact fun _ _ _ _ _ _ _ _ hm => absurd hm (Nat.not_lt_zero _)
  | succ n ih =>
    intro h2 m k hI2 m1 m2 k2 hw L2 bl2 hq hm
    refine zx_T.l (i := .iload 4) (k := 2) (v := .int (zI (k))) (pc := 5) rfl rfl rfl ?_
    refine zx_T.l (i := .iload_n 1) (k := 1) (v := .int (zI (u))) (pc := 7) rfl rfl rfl ?_
    refine zr_i2 (x := k) (y := u) (t := 36) (pc := 8) rfl rfl (by omega) (by omega) (by omega) (by omega) (fun (c1 : u ≤ k) => ?_) (fun (c1 : ¬ (u ≤ k)) => ?_)
    · refine zx_T.l (i := .iload_n 3) (k := 1) (v := .int (zI (m))) (pc := 36) rfl rfl rfl ?_
      exact zr_ir (x := m) (pc := 37) rfl rfl rfl ⟨hI2, (hw.wd rfl : zb_W [(68, 0)] h _), _, rfl, by dsimp only; rw [zs_es_e (show u ≤ k by omega), List.append_nil] at hq; exact ⟨by rw [← hq]; exact bl2, by omega, by omega⟩⟩
    · refine zx_T.l (i := .aload_n 2) (k := 1) (v := .ref 68) (pc := 11) rfl rfl rfl ?_
      refine zx_T.l (i := .iload_n 3) (k := 1) (v := .int (zI (m))) (pc := 12) rfl rfl rfl ?_
      refine zx_T.l (i := .aload_n 0) (k := 1) (v := .ref 66) (pc := 13) rfl rfl rfl ?_
      refine zx_T.l (i := .iload 4) (k := 2) (v := .int (zI (k))) (pc := 14) rfl rfl rfl ?_
      refine zr_al (n := 14) (lo := 0) (hi := 8) (e := zv_a h 66 k) (pc := 16) rfl rfl rfl hI2 (by omega) (by omega) (zv_wa hw rfl k) (fun g2a g2b => ?_)
      refine zr_as (n := 14) (lo := 0) (hi := 8) (e := zv_a h 66 k) (pc := 17) rfl rfl rfl rfl hI2 (by omega) (by omega) (by omega) (by omega) (fun h3 ih3 w4 s5 => ?_)
      refine zr_inc (x := m) (n := 1) (y := m + 1) (ls' := [(3, .int (zI (m + 1))), (0, .ref 66), (1, .int (zI (u))), (2, .ref 68), (4, .int (zI (k)))]) (pc := 18) rfl rfl rfl (by omega) rfl ?_
      refine zx_T.l (i := .iload 4) (k := 2) (v := .int (zI (k))) (pc := 21) rfl rfl rfl ?_
      refine zx_T.l (i := .aload_n 0) (k := 1) (v := .ref 66) (pc := 23) rfl rfl rfl ?_
      refine zx_T.l (i := .iload 4) (k := 2) (v := .int (zI (k))) (pc := 24) rfl rfl rfl ?_
      refine zx_T.l (i := .iload_n 1) (k := 1) (v := .int (zI (u))) (pc := 26) rfl rfl rfl ?_
      refine zr_is (cj := 188) (q' := zp_m188) (As := [.ref 66, .int (zI (k)), .int (zI (u))]) (rest := [.int (zI (k))]) (pc := 27) rfl rfl rfl rfl rfl rfl (Nat.le_of_ble_eq_true rfl) rfl (Nat.le_of_ble_eq_true rfl) rfl ((zm_wideF_66 (h := h3) ih3 (k := k) (u := u) (by omega) (by omega) (by omega) (by omega)).up (Nat.le_of_ble_eq_true rfl)) ?_
      rintro r6 h9 ⟨h9q, v7, r6q, x8⟩
      subst h9q r6q
      try dsimp only at x8
      have wE := x8.1; rw [show zv_a h3 66 = zv_a h 66 from funext (fun q => zv_wa ((hw.wd rfl : zb_W [(68, 0)] h _).tr (w4.wd rfl)) rfl q)] at wE
      show zx_T zp_P 1 zp_m191 30 [(3, .int (zI (m + 1))), (0, .ref 66), (1, .int (zI (u))), (2, .ref 68), (4, .int (zI (k)))] [.int (zI (v7)), .int (zI (k))] h3 _
      refine zr_add (x := k) (y := v7) (e := k + v7) (pc := 30) rfl (by omega) ?_
      refine zx_T.t (i := .istore 4) (k := 2) (ls' := [(4, .int (zI (k + v7))), (3, .int (zI (m + 1))), (0, .ref 66), (1, .int (zI (u))), (2, .ref 68)]) (st' := []) (pc := 31) rfl rfl rfl rfl ?_
      refine zx_T.j (i := .goto (-28)) (k := 3) (pc' := 5) (st' := []) (pc := 33) rfl rfl rfl rfl rfl ?_
      have a68 : ∀ j, 0 ≤ j → zv_a h3 68 j = if j = m then zv_a h 66 k else zv_a h2 68 j := fun j hj => by rw [s5 j hj]
      refine zx_T.lk (ls' := [(0, .ref 66), (1, .int (zI (u))), (2, .ref 68), (3, .int (zI (m + 1))), (4, .int (zI (k + v7)))]) rfl ⟨rfl, rfl, rfl, rfl, rfl, trivial⟩ ?_
      exact ih (h2 := h3) (m := m + 1) (k := k + v7) ih3 (by omega) (by omega) (by have w9 := (zs_wi_r (N := zv_a h 66) (k := k) (u := u)).2 (by omega); omega) ((hw.wd rfl : zb_W [(68, 0)] h _).tr (w4.wd rfl)) (L2 ++ [zv_a h 66 k]) (zs_bl_ap bl2 (fun j j0 => by rw [a68 j j0])) (by rw [← hq, zs_es_s (show k < u by omega), ← wE, List.append_assoc]; rfl) (by omega)
set_option maxRecDepth 100000 in
set_option maxHeartbeats 4000000 in
theorem zm_listF_66 {h : zx_H} (hI : zb_I zc_H h) {u : Int} (u1 : 0 ≤ u) (u2 : u ≤ 14) : zx_T zp_P 1 zp_m191 0 [(0, .ref 66), (1, .int (zI (u))), (2, .ref 68)] [] h (zr_R [(68, 0)] h (fun e h' => zs_bl e (zv_a h' 68) (zs_es (zv_a h 66) 0 u) ∧ 0 ≤ e ∧ e ≤ 14)) := by
  refine zx_T.s (i := .iconst 0) (k := 1) (st' := [.int (zI (0))]) (pc := 0) rfl rfl ?_
  refine zx_T.t (i := .istore_n 3) (k := 1) (ls' := [(3, .int (zI (0))), (0, .ref 66), (1, .int (zI (u))), (2, .ref 68)]) (st' := []) (pc := 1) rfl rfl rfl rfl ?_
  refine zx_T.s (i := .iconst 0) (k := 1) (st' := [.int (zI (0))]) (pc := 2) rfl rfl ?_
  refine zx_T.t (i := .istore 4) (k := 2) (ls' := [(4, .int (zI (0))), (3, .int (zI (0))), (0, .ref 66), (1, .int (zI (u))), (2, .ref 68)]) (st' := []) (pc := 3) rfl rfl rfl rfl ?_
  have a68 : ∀ j, 0 ≤ j → zv_a h 68 j = zv_a h 68 j := fun j hj => rfl
  refine zx_T.lk (ls' := [(0, .ref 66), (1, .int (zI (u))), (2, .ref 68), (3, .int (zI (0))), (4, .int (zI (0)))]) rfl ⟨rfl, rfl, rfl, rfl, rfl, trivial⟩ ?_
  exact zm_listF_66_L (h := h) hI (u := u) u1 u2 ((20 - 0 : Int).toNat + 1) (h2 := h) (m := 0) (k := 0) hI (by omega) (by omega) (by omega) zb_W.rf [] zs_bl_0 rfl (Nat.lt_succ_self _)

set_option maxRecDepth 100000 in
set_option maxHeartbeats 4000000 in
theorem zm_alikeF_L {h : zx_H} (hI : zb_I zc_H h) {b : Int} (b1 : 0 ≤ b) (b2 : b ≤ 14) (n : Nat) : (∀ {k : Int} (k1 : 0 ≤ k) (k2 : k ≤ b) (al : ∀ j, 0 ≤ j → j < k → zv_a h 67 j = zv_a h 68 j), (20 - k : Int).toNat < n → zx_T zp_P 0 zp_m192 2 [(0, .ref 44), (1, .int (zI (b))), (2, .int (zI (k)))] [] h (zr_P h (fun e => ((e = 1 ∧ ∀ j, 0 ≤ j → j < b → zv_a h 67 j = zv_a h 68 j) ∨ (e = 0 ∧ ¬ ∀ j, 0 ≤ j → j < b → zv_a h 67 j = zv_a h 68 j)) ∧ 0 ≤ e ∧ e ≤ 1))) := by
  induction n with
  | zero => exact fun _ _ _ hm => absurd hm (Nat.not_lt_zero _)
  | succ n ih =>
    intro k k1 k2 al hm
    refine zx_T.l (i := .iload_n 2) (k := 1) (v := .int (zI (k))) (pc := 2) rfl rfl rfl ?_
    refine zx_T.l (i := .iload_n 1) (k := 1) (v := .int (zI (b))) (pc := 3) rfl rfl rfl ?_
    refine zr_i2 (x := k) (y := b) (t := 30) (pc := 4) rfl rfl (by omega) (by omega) (by omega) (by omega) (fun (c1 : b ≤ k) => ?_) (fun (c1 : ¬ (b ≤ k)) => ?_)
    · refine zx_T.s (i := .iconst 1) (k := 1) (st' := [.int (zI (1))]) (pc := 30) rfl rfl ?_
      exact zr_ir (x := 1) (pc := 31) rfl rfl (zr_nb (by omega) (by omega)) ⟨rfl, _, rfl, by dsimp only; exact ⟨Or.inl ⟨rfl, fun j j0 j1 => al j j0 (by omega)⟩, by omega, by omega⟩⟩
    · refine zx_T.l (i := .aload_n 0) (k := 1) (v := .ref 44) (pc := 7) rfl rfl rfl ?_
      refine zr_gr (k := 34) (b := 67) (pc := 8) rfl rfl rfl hI ?_
      refine zx_T.l (i := .iload_n 2) (k := 1) (v := .int (zI (k))) (pc := 11) rfl rfl rfl ?_
      refine zr_al (n := 14) (lo := 0) (hi := 8) (e := zv_a h 67 k) (pc := 12) rfl rfl rfl hI (by omega) (by omega) rfl (fun g2a g2b => ?_)
      refine zx_T.l (i := .aload_n 0) (k := 1) (v := .ref 44) (pc := 13) rfl rfl rfl ?_
      refine zr_gr (k := 35) (b := 68) (pc := 14) rfl rfl rfl hI ?_
      refine zx_T.l (i := .iload_n 2) (k := 1) (v := .int (zI (k))) (pc := 17) rfl rfl rfl ?_
      refine zr_al (n := 14) (lo := 0) (hi := 8) (e := zv_a h 68 k) (pc := 18) rfl rfl rfl hI (by omega) (by omega) rfl (fun g3a g3b => ?_)
      refine zr_i2 (x := zv_a h 67 k) (y := zv_a h 68 k) (t := 24) (pc := 19) rfl rfl (by omega) (by omega) (by omega) (by omega) (fun (c4 : (zv_a h 67 k) = (zv_a h 68 k)) => ?_) (fun (c4 : ¬ ((zv_a h 67 k) = (zv_a h 68 k))) => ?_)
      · refine zr_inc (x := k) (n := 1) (y := k + 1) (ls' := [(2, .int (zI (k + 1))), (0, .ref 44), (1, .int (zI (b)))]) (pc := 24) rfl rfl rfl (by omega) rfl ?_
        refine zx_T.j (i := .goto (-25)) (k := 3) (pc' := 2) (st' := []) (pc := 27) rfl rfl rfl rfl rfl ?_
        refine zx_T.lk (ls' := [(0, .ref 44), (1, .int (zI (b))), (2, .int (zI (k + 1)))]) rfl ⟨rfl, rfl, rfl, trivial⟩ ?_
        exact ih (k := k + 1) (by omega) (by omega) (fun j j0 j1 => by rcases (show j = k ∨ j < k by omega) with z | z; (subst z; omega); exact al j j0 z) (by omega)
      · refine zx_T.s (i := .iconst 0) (k := 1) (st' := [.int (zI (0))]) (pc := 22) rfl rfl ?_
        exact zr_ir (x := 0) (pc := 23) rfl rfl (zr_nb (by omega) (by omega)) ⟨rfl, _, rfl, by dsimp only; exact ⟨Or.inr ⟨rfl, fun z => by have := z k k1 (by omega); omega⟩, by omega, by omega⟩⟩
set_option maxRecDepth 100000 in
set_option maxHeartbeats 4000000 in
theorem zm_alikeF {h : zx_H} (hI : zb_I zc_H h) {b : Int} (b1 : 0 ≤ b) (b2 : b ≤ 14) : zx_T zp_P 0 zp_m192 0 [(0, .ref 44), (1, .int (zI (b)))] [] h (zr_P h (fun e => ((e = 1 ∧ ∀ j, 0 ≤ j → j < b → zv_a h 67 j = zv_a h 68 j) ∨ (e = 0 ∧ ¬ ∀ j, 0 ≤ j → j < b → zv_a h 67 j = zv_a h 68 j)) ∧ 0 ≤ e ∧ e ≤ 1)) := by
  refine zx_T.s (i := .iconst 0) (k := 1) (st' := [.int (zI (0))]) (pc := 0) rfl rfl ?_
  refine zx_T.t (i := .istore_n 2) (k := 1) (ls' := [(2, .int (zI (0))), (0, .ref 44), (1, .int (zI (b)))]) (st' := []) (pc := 1) rfl rfl rfl rfl ?_
  refine zx_T.lk (ls' := [(0, .ref 44), (1, .int (zI (b))), (2, .int (zI (0)))]) rfl ⟨rfl, rfl, rfl, trivial⟩ ?_
  exact zm_alikeF_L (h := h) hI (b := b) b1 b2 ((20 - 0 : Int).toNat + 1) (k := 0) (by omega) (by omega) (fun j j0 j1 => absurd j1 (by omega)) (Nat.lt_succ_self _)

set_option maxRecDepth 100000 in
set_option maxHeartbeats 8000000 in
theorem zm_packF_L {h : zx_H} (hI : zb_I zc_H h) {f : Int} (f1 : 0 ≤ f) (f2 : f ≤ 59) (p3 : zv_i h 30 ≤ 3000) (F : zF) (hF : zr_Fr h F) (oF : F.ok) (fn : f < F.n) (L : List Int) (bl : zs_bl (zv_i h 30) (zv_a h 64) L) (n : Nat) : (∀ {h2 : zx_H} {m : Int} {own : Int} {k : Int} (hI2 : zb_I zc_H h2) (m1 : 0 ≤ m) (m2 : m ≤ 8) (mE : (f = 0 ∧ m = zv_i h 10) ∨ (1 ≤ f ∧ m = zv_a h 58 (f - 1))) (w1 : 0 ≤ own) (w2 : own ≤ 8) (wO : own = zv_a h 58 f) (k1 : 0 ≤ k) (k2 : k ≤ 14) (hw : zb_W [(65, 0), (66, 0), (67, 0), (68, 0)] h h2) (ah : ∀ j, 0 ≤ j → j < k → j < m → (f = 0 → zv_a h2 65 j = zv_a h 52 j) ∧ (1 ≤ f → zv_a h2 65 j = zv_a h 60 (14 * (f - 1) + j))) (mi : ∀ j, 0 ≤ j → j < k → j < own + zv_a h 59 f → zv_a h2 66 j = zv_a h 60 (14 * f + j)), (1000 - k : Int).toNat < n → zx_T zp_P 2 zp_m193 30 [(0, .ref 44), (1, .int (zI (f))), (2, .int (zI (m))), (3, .int (zI (own))), (4, .int (zI (k)))] [] h2 (zr_V [(44, 30), (64, 0), (65, 0), (66, 0), (67, 0), (68, 0)] h (fun h' => zs_bl (zv_i h' 30) (zv_a h' 64) (L ++ zs_fb (zs_ah (zr_Pg h) F f) (F.ow f) (F.sk f) (zs_di F f))))) ∧ (∀ {h2 : zx_H} {own : Int} {d : Int} {u : Int} {s : Int} {o : Int} {w : Int} {sm : Int} (hI2 : zb_I zc_H h2) (w1 : 0 ≤ own) (w2 : own ≤ 8) (d1 : (-200) ≤ d) (d2 : d ≤ 200) (u1 : own ≤ u) (u2 : u ≤ own + 6) (s1 : 0 ≤ s) (s2 : s ≤ 6) (o1 : 0 ≤ o) (o2 : o ≤ 8) (t1 : 0 ≤ w) (t2 : w ≤ own) (b1 : 0 ≤ sm) (b2 : sm ≤ 1) (hw : zb_W [(44, 30), (64, 0), (65, 0), (66, 0), (67, 0), (68, 0)] h h2) (pe : zv_i h2 30 = zv_i h 30) (oE : o = ((zs_ah (zr_Pg h) F f).length : Int)) (wE : w = ((F.ow f).length : Int)) (sE : s = ((F.sk f).length : Int)) (dE : d = zs_di F f) (nE : sm = 1 ↔ zs_nl (zs_ah (zr_Pg h) F f) (F.ow f)) (q1 : zs_es (zv_a h2 66) 0 own = F.ow f) (q2 : zs_es (zv_a h2 66) own u = F.sk f) (bl2 : zs_bl (zv_i h2 30) (zv_a h2 64) (L)) (n1 : ¬ (zs_nl (zs_ah (zr_Pg h) F f) (F.ow f) ∧ (F.ow f).length = (zs_ah (zr_Pg h) F f).length ∧ (F.sk f).length = 0)), (900 : Int).toNat < n → zx_T zp_P 2 zp_m193 252 [(0, .ref 44), (1, .int (zI (f))), (3, .int (zI (own))), (4, .int (zI (d))), (5, .int (zI (u))), (6, .int (zI (s))), (7, .int (zI (o))), (8, .int (zI (w))), (9, .int (zI (sm)))] [] h2 (zr_V [(44, 30), (64, 0), (65, 0), (66, 0), (67, 0), (68, 0)] h (fun h' => zs_bl (zv_i h' 30) (zv_a h' 64) (L ++ zs_fb (zs_ah (zr_Pg h) F f) (F.ow f) (F.sk f) (zs_di F f))))) ∧ (∀ {h2 : zx_H} {own : Int} {d : Int} {u : Int} {s : Int} {o : Int} {w : Int} {sm : Int} (hI2 : zb_I zc_H h2) (w1 : 0 ≤ own) (w2 : own ≤ 8) (d1 : (-200) ≤ d) (d2 : d ≤ 200) (u1 : own ≤ u) (u2 : u ≤ own + 6) (s1 : 0 ≤ s) (s2 : s ≤ 6) (o1 : 0 ≤ o) (o2 : o ≤ 8) (t1 : 0 ≤ w) (t2 : w ≤ own) (b1 : 0 ≤ sm) (b2 : sm ≤ 1) (hw : zb_W [(44, 30), (64, 0), (65, 0), (66, 0), (67, 0), (68, 0)] h h2) (pe : zv_i h2 30 = zv_i h 30) (oE : o = ((zs_ah (zr_Pg h) F f).length : Int)) (wE : w = ((F.ow f).length : Int)) (sE : s = ((F.sk f).length : Int)) (dE : d = zs_di F f) (nE : sm = 1 ↔ zs_nl (zs_ah (zr_Pg h) F f) (F.ow f)) (q1 : zs_es (zv_a h2 66) 0 own = F.ow f) (q2 : zs_es (zv_a h2 66) own u = F.sk f) (bl2 : zs_bl (zv_i h2 30) (zv_a h2 64) (L)) (n1 : ¬ (zs_nl (zs_ah (zr_Pg h) F f) (F.ow f) ∧ (F.ow f).length = (zs_ah (zr_Pg h) F f).length ∧ (F.sk f).length = 0)) (n2 : ¬ (zs_nl (zs_ah (zr_Pg h) F f) (F.ow f) ∧ (F.ow f).length = (zs_ah (zr_Pg h) F f).length ∧ (F.sk f).length = 1)), (800 : Int).toNat < n → zx_T zp_P 2 zp_m193 293 [(0, .ref 44), (1, .int (zI (f))), (3, .int (zI (own))), (4, .int (zI (d))), (5, .int (zI (u))), (6, .int (zI (s))), (7, .int (zI (o))), (8, .int (zI (w))), (9, .int (zI (sm)))] [] h2 (zr_V [(44, 30), (64, 0), (65, 0), (66, 0), (67, 0), (68, 0)] h (fun h' => zs_bl (zv_i h' 30) (zv_a h' 64) (L ++ zs_fb (zs_ah (zr_Pg h) F f) (F.ow f) (F.sk f) (zs_di F f))))) ∧ (∀ {h2 : zx_H} {own : Int} {d : Int} {u : Int} {s : Int} {o : Int} {w : Int} {sm : Int} (hI2 : zb_I zc_H h2) (w1 : 0 ≤ own) (w2 : own ≤ 8) (d1 : (-200) ≤ d) (d2 : d ≤ 200) (u1 : own ≤ u) (u2 : u ≤ own + 6) (s1 : 0 ≤ s) (s2 : s ≤ 6) (o1 : 0 ≤ o) (o2 : o ≤ 8) (t1 : 0 ≤ w) (t2 : w ≤ own) (b1 : 0 ≤ sm) (b2 : sm ≤ 1) (hw : zb_W [(44, 30), (64, 0), (65, 0), (66, 0), (67, 0), (68, 0)] h h2) (pe : zv_i h2 30 = zv_i h 30) (oE : o = ((zs_ah (zr_Pg h) F f).length : Int)) (wE : w = ((F.ow f).length : Int)) (sE : s = ((F.sk f).length : Int)) (dE : d = zs_di F f) (nE : sm = 1 ↔ zs_nl (zs_ah (zr_Pg h) F f) (F.ow f)) (q1 : zs_es (zv_a h2 66) 0 own = F.ow f) (q2 : zs_es (zv_a h2 66) own u = F.sk f) (bl2 : zs_bl (zv_i h2 30) (zv_a h2 64) (L)) (n1 : ¬ (zs_nl (zs_ah (zr_Pg h) F f) (F.ow f) ∧ (F.ow f).length = (zs_ah (zr_Pg h) F f).length ∧ (F.sk f).length = 0)) (n2 : ¬ (zs_nl (zs_ah (zr_Pg h) F f) (F.ow f) ∧ (F.ow f).length = (zs_ah (zr_Pg h) F f).length ∧ (F.sk f).length = 1)) (n3 : ¬ (zs_nl (zs_ah (zr_Pg h) F f) (F.ow f) ∧ (F.sk f).length = 0 ∧ (-3 ≤ ((F.ow f).length : Int) - (zs_ah (zr_Pg h) F f).length ∧ ((F.ow f).length : Int) - (zs_ah (zr_Pg h) F f).length ≤ -1))), (700 : Int).toNat < n → zx_T zp_P 2 zp_m193 343 [(0, .ref 44), (1, .int (zI (f))), (3, .int (zI (own))), (4, .int (zI (d))), (5, .int (zI (u))), (6, .int (zI (s))), (7, .int (zI (o))), (8, .int (zI (w))), (9, .int (zI (sm)))] [] h2 (zr_V [(44, 30), (64, 0), (65, 0), (66, 0), (67, 0), (68, 0)] h (fun h' => zs_bl (zv_i h' 30) (zv_a h' 64) (L ++ zs_fb (zs_ah (zr_Pg h) F f) (F.ow f) (F.sk f) (zs_di F f))))) ∧ (∀ {h2 : zx_H} {own : Int} {o : Int} {g : Int} {k : Int} (hI2 : zb_I zc_H h2) (w1 : 0 ≤ own) (w2 : own ≤ 8) (o1 : 0 ≤ o) (o2 : o ≤ 7) (k1 : 0 ≤ k) (k2 : k ≤ o) (g1 : 0 ≤ g) (g2 : g ≤ 2 * k) (g3 : g ≤ own) (hw : zb_W [(44, 30), (64, 0), (65, 0), (66, 0), (67, 0), (68, 0)] h h2) (pe : zv_i h2 30 = zv_i h 30 + 3) (oE : o = ((zs_ah (zr_Pg h) F f).length : Int)) (gl : o < ((F.ow f).length : Int)) (q1 : zs_es (zv_a h2 66) g own = (F.ow f).drop k.toNat) (y3 : zs_nl (zs_ah (zr_Pg h) F f) (F.ow f) ∧ (F.sk f).length = 0 ∧ (-3 ≤ ((F.ow f).length : Int) - (zs_ah (zr_Pg h) F f).length ∧ ((F.ow f).length : Int) - (zs_ah (zr_Pg h) F f).length ≤ 3)) (n1 : ¬ (zs_nl (zs_ah (zr_Pg h) F f) (F.ow f) ∧ (F.ow f).length = (zs_ah (zr_Pg h) F f).length ∧ (F.sk f).length = 0)) (n2 : ¬ (zs_nl (zs_ah (zr_Pg h) F f) (F.ow f) ∧ (F.ow f).length = (zs_ah (zr_Pg h) F f).length ∧ (F.sk f).length = 1)) (bl2 : zs_bl (zv_i h2 30) (zv_a h2 64) (L ++ [251 + (((F.ow f).length : Int) - (zs_ah (zr_Pg h) F f).length), 0, zs_di F f])), (600 - k : Int).toNat < n → zx_T zp_P 2 zp_m193 396 [(0, .ref 44), (1, .int (zI (f))), (3, .int (zI (own))), (7, .int (zI (o))), (10, .int (zI (g))), (11, .int (zI (k)))] [] h2 (zr_V [(44, 30), (64, 0), (65, 0), (66, 0), (67, 0), (68, 0)] h (fun h' => zs_bl (zv_i h' 30) (zv_a h' 64) (L ++ zs_fb (zs_ah (zr_Pg h) F f) (F.ow f) (F.sk f) (zs_di F f))))) ∧ (∀ {h2 : zx_H} {own : Int} {d : Int} {u : Int} {s : Int} {o : Int} {w : Int} {sm : Int} (hI2 : zb_I zc_H h2) (w1 : 0 ≤ own) (w2 : own ≤ 8) (d1 : (-200) ≤ d) (d2 : d ≤ 200) (u1 : own ≤ u) (u2 : u ≤ own + 6) (s1 : 0 ≤ s) (s2 : s ≤ 6) (o1 : 0 ≤ o) (o2 : o ≤ 8) (t1 : 0 ≤ w) (t2 : w ≤ own) (b1 : 0 ≤ sm) (b2 : sm ≤ 1) (hw : zb_W [(44, 30), (64, 0), (65, 0), (66, 0), (67, 0), (68, 0)] h h2) (pe : zv_i h2 30 = zv_i h 30) (oE : o = ((zs_ah (zr_Pg h) F f).length : Int)) (wE : w = ((F.ow f).length : Int)) (sE : s = ((F.sk f).length : Int)) (dE : d = zs_di F f) (nE : sm = 1 ↔ zs_nl (zs_ah (zr_Pg h) F f) (F.ow f)) (q1 : zs_es (zv_a h2 66) 0 own = F.ow f) (q2 : zs_es (zv_a h2 66) own u = F.sk f) (bl2 : zs_bl (zv_i h2 30) (zv_a h2 64) (L)) (n1 : ¬ (zs_nl (zs_ah (zr_Pg h) F f) (F.ow f) ∧ (F.ow f).length = (zs_ah (zr_Pg h) F f).length ∧ (F.sk f).length = 0)) (n2 : ¬ (zs_nl (zs_ah (zr_Pg h) F f) (F.ow f) ∧ (F.ow f).length = (zs_ah (zr_Pg h) F f).length ∧ (F.sk f).length = 1)) (n4 : ¬ (zs_nl (zs_ah (zr_Pg h) F f) (F.ow f) ∧ (F.sk f).length = 0 ∧ (-3 ≤ ((F.ow f).length : Int) - (zs_ah (zr_Pg h) F f).length ∧ ((F.ow f).length : Int) - (zs_ah (zr_Pg h) F f).length ≤ 3))), (500 : Int).toNat < n → zx_T zp_P 2 zp_m193 438 [(0, .ref 44), (1, .int (zI (f))), (3, .int (zI (own))), (4, .int (zI (d))), (5, .int (zI (u))), (6, .int (zI (s))), (7, .int (zI (o))), (8, .int (zI (w))), (9, .int (zI (sm)))] [] h2 (zr_V [(44, 30), (64, 0), (65, 0), (66, 0), (67, 0), (68, 0)] h (fun h' => zs_bl (zv_i h' 30) (zv_a h' 64) (L ++ zs_fb (zs_ah (zr_Pg h) F f) (F.ow f) (F.sk f) (zs_di F f))))) := by
  induction n with
  | zero => exact ⟨fun _ _ _ _ _ _ _ _ _ _ _ _ hm => absurd hm (Nat.not_lt_zero _), fun _ _ _ _ _ _ _ _ _ _ _ _ _ _ _ _ _ _ _ _ _ _ _ _ _ _ hm => absurd hm (Nat.not_lt_zero _), fun _ _ _ _ _ _ _ _ _ _ _ _ _ _ _ _ _ _ _ _ _ _ _ _ _ _ _ hm => absurd hm (Nat.not_lt_zero _), fun _ _ _ _ _ _ _ _ _ _ _ _ _ _ _ _ _ _ _ _ _ _ _ _ _ _ _ _ hm => absurd hm (Nat.not_lt_zero _), fun _ _ _ _ _ _ _ _ _ _ _ _ _ _ _ _ _ _ _ hm => absurd hm (Nat.not_lt_zero _), fun _ _ _ _ _ _ _ _ _ _ _ _ _ _ _ _ _ _ _ _ _ _ _ _ _ _ _ _ hm => absurd hm (Nat.not_lt_zero _)⟩
  | succ n ih =>
    refine ⟨?_, ?_, ?_, ?_, ?_, ?_⟩
    · intro h2 m own k hI2 m1 m2 mE w1 w2 wO k1 k2 hw ah mi hm
      have hP := zv_ri hI (k := 30) rfl
      have hQ := zv_ri hI (k := 10) rfl
      have ofn := oF.2.1
      refine zx_T.l (i := .iload 4) (k := 2) (v := .int (zI (k))) (pc := 30) rfl rfl rfl ?_
      refine zx_T.s (i := .bipush 14) (k := 2) (st' := [.int (zI (14)), .int (zI (k))]) (pc := 32) rfl rfl ?_
      refine zr_i2 (x := k) (y := 14) (t := 124) (pc := 34) rfl rfl (by omega) (by omega) (by omega) (by omega) (fun (c1 : 14 ≤ k) => ?_) (fun (c1 : ¬ (14 ≤ k)) => ?_)
      · refine zx_T.l (i := .iload_n 1) (k := 1) (v := .int (zI (f))) (pc := 124) rfl rfl rfl ?_
        refine zr_i1 (x := f) (t := 137) (pc := 125) rfl rfl (by omega) (by omega) (fun (c2 : ¬ f = 0) => ?_) (fun (c2 : ¬ (¬ f = 0)) => ?_)
        · refine zx_T.l (i := .aload_n 0) (k := 1) (v := .ref 44) (pc := 137) rfl rfl rfl ?_
          refine zr_gr (k := 20) (b := 57) (pc := 138) rfl rfl rfl hI2 ?_
          refine zx_T.l (i := .iload_n 1) (k := 1) (v := .int (zI (f))) (pc := 141) rfl rfl rfl ?_
          refine zr_al (n := 60) (lo := 0) (hi := 59) (e := zv_a h 57 f) (pc := 142) rfl rfl rfl hI2 (by omega) (by omega) (zv_wa hw rfl f) (fun g3a g3b => ?_)
          refine zx_T.l (i := .aload_n 0) (k := 1) (v := .ref 44) (pc := 143) rfl rfl rfl ?_
          refine zr_gr (k := 20) (b := 57) (pc := 144) rfl rfl rfl hI2 ?_
          refine zx_T.l (i := .iload_n 1) (k := 1) (v := .int (zI (f))) (pc := 147) rfl rfl rfl ?_
          refine zx_T.s (i := .iconst 1) (k := 1) (st' := [.int (zI (1)), .int (zI (f)), .ref 57, .int (zI (zv_a h 57 f))]) (pc := 148) rfl rfl ?_
          refine zr_sub (x := f) (y := 1) (e := f - 1) (pc := 149) rfl (by omega) ?_
          refine zr_al (n := 60) (lo := 0) (hi := 59) (e := zv_a h 57 (f - 1)) (pc := 150) rfl rfl rfl hI2 (by omega) (by omega) (zv_wa hw rfl (f - 1)) (fun g4a g4b => ?_)
          refine zr_sub (x := zv_a h 57 f) (y := zv_a h 57 (f - 1)) (e := zv_a h 57 f - zv_a h 57 (f - 1)) (pc := 151) rfl (by omega) ?_
          refine zx_T.s (i := .iconst 1) (k := 1) (st' := [.int (zI (1)), .int (zI (zv_a h 57 f - zv_a h 57 (f - 1)))]) (pc := 152) rfl rfl ?_
          refine zr_sub (x := zv_a h 57 f - zv_a h 57 (f - 1)) (y := 1) (e := zv_a h 57 f - zv_a h 57 (f - 1) - 1) (pc := 153) rfl (by omega) ?_
          refine zx_T.t (i := .istore 4) (k := 2) (ls' := [(4, .int (zI (zv_a h 57 f - zv_a h 57 (f - 1) - 1))), (0, .ref 44), (1, .int (zI (f))), (2, .int (zI (m))), (3, .int (zI (own)))]) (st' := []) (pc := 154) rfl rfl rfl rfl ?_
          have dD : zv_a h 57 f - zv_a h 57 (f - 1) - 1 = zs_di F f := (by have hf0 := (hF.2 f (by omega) (by omega)).1; unfold zs_di; by_cases z : f = 0; (subst z; rw [if_pos rfl]; omega); (rw [if_neg z]; have hf1 := (hF.2 (f - 1) (by omega) (by omega)).1; omega))
          refine zx_T.l (i := .iload_n 3) (k := 1) (v := .int (zI (own))) (pc := 156) rfl rfl rfl ?_
          refine zx_T.l (i := .aload_n 0) (k := 1) (v := .ref 44) (pc := 157) rfl rfl rfl ?_
          refine zr_gr (k := 22) (b := 59) (pc := 158) rfl rfl rfl hI2 ?_
          refine zx_T.l (i := .iload_n 1) (k := 1) (v := .int (zI (f))) (pc := 161) rfl rfl rfl ?_
          refine zr_al (n := 60) (lo := 0) (hi := 6) (e := zv_a h 59 f) (pc := 162) rfl rfl rfl hI2 (by omega) (by omega) (zv_wa hw rfl f) (fun g5a g5b => ?_)
          refine zr_add (x := own) (y := zv_a h 59 f) (e := own + zv_a h 59 f) (pc := 163) rfl (by omega) ?_
          refine zx_T.t (i := .istore 5) (k := 2) (ls' := [(5, .int (zI (own + zv_a h 59 f))), (4, .int (zI (zv_a h 57 f - zv_a h 57 (f - 1) - 1))), (0, .ref 44), (1, .int (zI (f))), (2, .int (zI (m))), (3, .int (zI (own)))]) (st' := []) (pc := 164) rfl rfl rfl rfl ?_
          have of := oF.2.2 f (by omega) (by omega)
          have hf := hF.2 f (by omega) (by omega)
          have aO : zs_es (zv_a h2 66) 0 own = F.ow f := (by unfold zF.ow; rw [wO, hf.2.1]; exact zs_es_cg (fun j j0 j1 => by rw [mi j j0 (by omega) (by omega)]; exact hf.2.2.2.1 j j0 j1))
          have aT : zs_es (zv_a h2 66) own (own + zv_a h 59 f) = F.sk f := (by have z := zs_es_sh (N := zv_a h2 66) (N' := F.kf f) (s := 8 - own) (u := own + zv_a h 59 f) 14 own (by omega) (fun j j0 j1 => by rw [mi j (by omega) (by omega) j1]; have y := hf.2.2.2.2 (j - own) (by omega) (by omega); rw [show 14 * f + F.lo f + (j - own) = 14 * f + j by omega, show 8 + (j - own) = j + (8 - own) by omega] at y; exact y); rw [z]; unfold zF.sk; rw [show own + (8 - own) = 8 by omega, show own + zv_a h 59 f + (8 - own) = 8 + F.st f by omega])
          have aA : zs_es (zv_a h2 65) 0 m = (zs_ah (zr_Pg h) F f) := (by unfold zs_ah; rcases mE with y | y; (rw [if_pos y.1, show (zr_Pg h).pn = zv_i h 10 from rfl, ← y.2]; exact zs_es_cg (fun j j0 j1 => by rw [(ah j j0 (by omega) j1).1 y.1]; show _ = if j < zv_i h 10 then zv_a h 52 j else 0; rw [if_pos (by omega)])); (rw [if_neg (by omega)]; unfold zF.ow; have gf := hF.2 (f - 1) (by omega) (by omega); rw [y.2, gf.2.1]; exact zs_es_cg (fun j j0 j1 => by rw [(ah j j0 (by omega) (by omega)).2 y.1]; exact gf.2.2.2.1 j j0 j1)))
          have hpl := hf.1
          have len1 := zs_es_len (N := zv_a h2 66) (u := own) 14 0 (by omega)
          rw [aO, if_pos w1] at len1
          have len2 := zs_es_len (N := zv_a h2 66) (u := own + zv_a h 59 f) 14 own (by omega)
          rw [aT, if_pos (by omega)] at len2
          have len3 := zs_es_len (N := zv_a h2 65) (u := m) 14 0 (by omega)
          rw [aA, if_pos m1] at len3
          refine zx_T.l (i := .aload_n 0) (k := 1) (v := .ref 44) (pc := 166) rfl rfl rfl ?_
          refine zr_gr (k := 33) (b := 66) (pc := 167) rfl rfl rfl hI2 ?_
          refine zx_T.l (i := .iload_n 3) (k := 1) (v := .int (zI (own))) (pc := 170) rfl rfl rfl ?_
          refine zx_T.l (i := .iload 5) (k := 2) (v := .int (zI (own + zv_a h 59 f))) (pc := 171) rfl rfl rfl ?_
          refine zr_is (cj := 189) (q' := zp_m189) (As := [.ref 66, .int (zI (own)), .int (zI (own + zv_a h 59 f))]) (rest := []) (pc := 173) rfl rfl rfl rfl rfl rfl (Nat.le_of_ble_eq_true rfl) rfl (Nat.le_of_ble_eq_true rfl) rfl ((zm_entriesF (h := h2) hI2 (f := own) (u := own + zv_a h 59 f) (by omega) (by omega) (by omega)).up (Nat.le_of_ble_eq_true rfl)) ?_
          rintro r6 h9 ⟨h9q, v7, r6q, x8⟩
          subst h9q r6q
          try dsimp only at x8
          have sL : v7 = ((F.sk f).length : Int) := x8.1.trans (by rw [aT])
          show zx_T zp_P 2 zp_m193 176 [(5, .int (zI (own + zv_a h 59 f))), (4, .int (zI (zv_a h 57 f - zv_a h 57 (f - 1) - 1))), (0, .ref 44), (1, .int (zI (f))), (2, .int (zI (m))), (3, .int (zI (own)))] [.int (zI (v7))] h2 _
          refine zx_T.t (i := .istore 6) (k := 2) (ls' := [(6, .int (zI (v7))), (5, .int (zI (own + zv_a h 59 f))), (4, .int (zI (zv_a h 57 f - zv_a h 57 (f - 1) - 1))), (0, .ref 44), (1, .int (zI (f))), (2, .int (zI (m))), (3, .int (zI (own)))]) (st' := []) (pc := 176) rfl rfl rfl rfl ?_
          refine zx_T.l (i := .aload_n 0) (k := 1) (v := .ref 44) (pc := 178) rfl rfl rfl ?_
          refine zr_gr (k := 32) (b := 65) (pc := 179) rfl rfl rfl hI2 ?_
          refine zx_T.l (i := .iload_n 2) (k := 1) (v := .int (zI (m))) (pc := 182) rfl rfl rfl ?_
          refine zx_T.l (i := .aload_n 0) (k := 1) (v := .ref 44) (pc := 183) rfl rfl rfl ?_
          refine zr_gr (k := 34) (b := 67) (pc := 184) rfl rfl rfl hI2 ?_
          refine zr_is (cj := 191) (q' := zp_m191) (As := [.ref 65, .int (zI (m)), .ref 67]) (rest := []) (pc := 187) rfl rfl rfl rfl rfl rfl (Nat.le_of_ble_eq_true rfl) rfl (Nat.le_of_ble_eq_true rfl) rfl ((zm_listF_65 (h := h2) hI2 (u := m) (by omega) (by omega)).up (Nat.le_of_ble_eq_true rfl)) ?_
          rintro r10 h13 ⟨ih13, w14, v11, r10q, x12⟩
          subst r10q
          try dsimp only at x12
          have oL := x12.1
          rw [aA] at oL
          show zx_T zp_P 2 zp_m193 190 [(6, .int (zI (v7))), (5, .int (zI (own + zv_a h 59 f))), (4, .int (zI (zv_a h 57 f - zv_a h 57 (f - 1) - 1))), (0, .ref 44), (1, .int (zI (f))), (2, .int (zI (m))), (3, .int (zI (own)))] [.int (zI (v11))] h13 _
          refine zx_T.t (i := .istore 7) (k := 2) (ls' := [(7, .int (zI (v11))), (6, .int (zI (v7))), (5, .int (zI (own + zv_a h 59 f))), (4, .int (zI (zv_a h 57 f - zv_a h 57 (f - 1) - 1))), (0, .ref 44), (1, .int (zI (f))), (2, .int (zI (m))), (3, .int (zI (own)))]) (st' := []) (pc := 190) rfl rfl rfl rfl ?_
          refine zx_T.l (i := .aload_n 0) (k := 1) (v := .ref 44) (pc := 192) rfl rfl rfl ?_
          refine zr_gr (k := 33) (b := 66) (pc := 193) rfl rfl rfl ih13 ?_
          refine zx_T.l (i := .iload_n 3) (k := 1) (v := .int (zI (own))) (pc := 196) rfl rfl rfl ?_
          refine zx_T.l (i := .aload_n 0) (k := 1) (v := .ref 44) (pc := 197) rfl rfl rfl ?_
          refine zr_gr (k := 35) (b := 68) (pc := 198) rfl rfl rfl ih13 ?_
          refine zr_is (cj := 191) (q' := zp_m191) (As := [.ref 66, .int (zI (own)), .ref 68]) (rest := []) (pc := 201) rfl rfl rfl rfl rfl rfl (Nat.le_of_ble_eq_true rfl) rfl (Nat.le_of_ble_eq_true rfl) rfl ((zm_listF_66 (h := h13) ih13 (u := own) (by omega) (by omega)).up (Nat.le_of_ble_eq_true rfl)) ?_
          rintro r15 h18 ⟨ih18, w19, v16, r15q, x17⟩
          subst r15q
          try dsimp only at x17
          have wL := x17.1; rw [show zv_a h13 66 = zv_a h2 66 from funext (fun q => zv_wa w14 rfl q), aO] at wL; have oL2 := oL; rw [← show zv_a h18 67 = zv_a h13 67 from funext (fun q => zv_wa w19 rfl q)] at oL2; have oLn := oL.1; have wLn := wL.1
          show zx_T zp_P 2 zp_m193 204 [(7, .int (zI (v11))), (6, .int (zI (v7))), (5, .int (zI (own + zv_a h 59 f))), (4, .int (zI (zv_a h 57 f - zv_a h 57 (f - 1) - 1))), (0, .ref 44), (1, .int (zI (f))), (2, .int (zI (m))), (3, .int (zI (own)))] [.int (zI (v16))] h18 _
          refine zx_T.t (i := .istore 8) (k := 2) (ls' := [(8, .int (zI (v16))), (7, .int (zI (v11))), (6, .int (zI (v7))), (5, .int (zI (own + zv_a h 59 f))), (4, .int (zI (zv_a h 57 f - zv_a h 57 (f - 1) - 1))), (0, .ref 44), (1, .int (zI (f))), (2, .int (zI (m))), (3, .int (zI (own)))]) (st' := []) (pc := 204) rfl rfl rfl rfl ?_
          refine zx_T.l (i := .aload_n 0) (k := 1) (v := .ref 44) (pc := 206) rfl rfl rfl ?_
          refine zx_T.l (i := .iload 7) (k := 2) (v := .int (zI (v11))) (pc := 207) rfl rfl rfl ?_
          refine zx_T.l (i := .iload 8) (k := 2) (v := .int (zI (v16))) (pc := 209) rfl rfl rfl ?_
          refine zr_i2 (x := v11) (y := v16) (t := 219) (pc := 211) rfl rfl (by omega) (by omega) (by omega) (by omega) (fun (c20 : v16 ≤ v11) => ?_) (fun (c20 : ¬ (v16 ≤ v11)) => ?_)
          · refine zx_T.l (i := .iload 8) (k := 2) (v := .int (zI (v16))) (pc := 219) rfl rfl rfl ?_
            refine zr_iv (cj := 192) (q' := zp_m192) (As := [.int (zI (v16))]) (rest := []) (pc := 221) rfl rfl rfl rfl rfl rfl (Nat.le_of_ble_eq_true rfl) rfl (Nat.le_of_ble_eq_true rfl) ih18 ((zm_alikeF (h := h18) ih18 (b := v16) (by omega) (by omega)).up (Nat.le_of_ble_eq_true rfl)) ?_
            rintro r21 h24 ⟨h24q, v22, r21q, x23⟩
            subst h24q r21q
            try dsimp only at x23
            have aL := x23.1; have nN : v22 = 1 ↔ zs_nl (zs_ah (zr_Pg h) F f) (F.ow f) := (by rw [zs_nl_ag oL2 wL]; exact ⟨fun z j j0 ja jo => (aL.resolve_right (fun y => absurd y.1 (by omega))).2 j j0 (by omega), fun z => by rcases aL with y | y; (exact y.1); (exact absurd (fun j j0 j1 => z j j0 (by omega) (by omega)) y.2)⟩); have e66 : zv_a h18 66 = zv_a h2 66 := funext (fun q => zv_wa ((w14.wd rfl : zb_W [(67, 0), (68, 0)] h2 _).tr (w19.wd rfl)) rfl q); have qq1 : zs_es (zv_a h18 66) 0 own = F.ow f := (by rw [e66]; exact aO); have qq2 : zs_es (zv_a h18 66) own (own + zv_a h 59 f) = F.sk f := (by rw [e66]; exact aT); have blx : zs_bl (zv_i h18 30) (zv_a h18 64) L := (by rw [zv_wi (((hw.wd rfl : zb_W [(65, 0), (66, 0), (67, 0), (68, 0)] h _).tr (w14.wd rfl)).tr (w19.wd rfl)) rfl, show zv_a h18 64 = zv_a h 64 from funext (fun q => zv_wa (((hw.wd rfl : zb_W [(65, 0), (66, 0), (67, 0), (68, 0)] h _).tr (w14.wd rfl)).tr (w19.wd rfl)) rfl q)]; exact bl)
            show zx_T zp_P 2 zp_m193 224 [(8, .int (zI (v16))), (7, .int (zI (v11))), (6, .int (zI (v7))), (5, .int (zI (own + zv_a h 59 f))), (4, .int (zI (zv_a h 57 f - zv_a h 57 (f - 1) - 1))), (0, .ref 44), (1, .int (zI (f))), (2, .int (zI (m))), (3, .int (zI (own)))] [.int (zI (v22))] h18 _
            refine zx_T.t (i := .istore 9) (k := 2) (ls' := [(9, .int (zI (v22))), (8, .int (zI (v16))), (7, .int (zI (v11))), (6, .int (zI (v7))), (5, .int (zI (own + zv_a h 59 f))), (4, .int (zI (zv_a h 57 f - zv_a h 57 (f - 1) - 1))), (0, .ref 44), (1, .int (zI (f))), (2, .int (zI (m))), (3, .int (zI (own)))]) (st' := []) (pc := 224) rfl rfl rfl rfl ?_
            refine zx_T.l (i := .iload 9) (k := 2) (v := .int (zI (v22))) (pc := 226) rfl rfl rfl ?_
            refine zr_i1 (x := v22) (t := 252) (pc := 228) rfl rfl (by omega) (by omega) (fun (c25 : v22 = 0) => ?_) (fun (c25 : ¬ (v22 = 0)) => ?_)
            · have y26 : zv_i h18 30 = zv_i h 30 := ((zv_wi w19 rfl).trans ((zv_wi w14 rfl).trans (zv_wi hw rfl)))
              refine zx_T.lk (ls' := [(0, .ref 44), (1, .int (zI (f))), (3, .int (zI (own))), (4, .int (zI (zv_a h 57 f - zv_a h 57 (f - 1) - 1))), (5, .int (zI (own + zv_a h 59 f))), (6, .int (zI (v7))), (7, .int (zI (v11))), (8, .int (zI (v16))), (9, .int (zI (v22)))]) rfl ⟨rfl, rfl, rfl, rfl, rfl, rfl, rfl, rfl, rfl, trivial⟩ ?_
              exact ih.2.1 (h2 := h18) (own := own) (d := zv_a h 57 f - zv_a h 57 (f - 1) - 1) (u := own + zv_a h 59 f) (s := v7) (o := v11) (w := v16) (sm := v22) ih18 (by omega) (by omega) (by omega) (by omega) (by omega) (by omega) (by omega) (by omega) (by omega) (by omega) (by omega) (by omega) (by omega) (by omega) (((hw.wd rfl : zb_W [(44, 30), (64, 0), (65, 0), (66, 0), (67, 0), (68, 0)] h _).tr (w14.wd rfl)).tr (w19.wd rfl)) (by omega) (oL.1) (wL.1) sL dD nN qq1 qq2 blx (fun z => by have z1 := nN.2 z.1; have z2 := oL.1; have z3 := wL.1; omega) (by omega)
            · refine zx_T.l (i := .iload 7) (k := 2) (v := .int (zI (v11))) (pc := 231) rfl rfl rfl ?_
              refine zx_T.l (i := .iload 8) (k := 2) (v := .int (zI (v16))) (pc := 233) rfl rfl rfl ?_
              refine zr_i2 (x := v11) (y := v16) (t := 252) (pc := 235) rfl rfl (by omega) (by omega) (by omega) (by omega) (fun (c27 : ¬ v11 = v16) => ?_) (fun (c27 : ¬ (¬ v11 = v16)) => ?_)
              · have y28 : zv_i h18 30 = zv_i h 30 := ((zv_wi w19 rfl).trans ((zv_wi w14 rfl).trans (zv_wi hw rfl)))
                refine zx_T.lk (ls' := [(0, .ref 44), (1, .int (zI (f))), (3, .int (zI (own))), (4, .int (zI (zv_a h 57 f - zv_a h 57 (f - 1) - 1))), (5, .int (zI (own + zv_a h 59 f))), (6, .int (zI (v7))), (7, .int (zI (v11))), (8, .int (zI (v16))), (9, .int (zI (v22)))]) rfl ⟨rfl, rfl, rfl, rfl, rfl, rfl, rfl, rfl, rfl, trivial⟩ ?_
                exact ih.2.1 (h2 := h18) (own := own) (d := zv_a h 57 f - zv_a h 57 (f - 1) - 1) (u := own + zv_a h 59 f) (s := v7) (o := v11) (w := v16) (sm := v22) ih18 (by omega) (by omega) (by omega) (by omega) (by omega) (by omega) (by omega) (by omega) (by omega) (by omega) (by omega) (by omega) (by omega) (by omega) (((hw.wd rfl : zb_W [(44, 30), (64, 0), (65, 0), (66, 0), (67, 0), (68, 0)] h _).tr (w14.wd rfl)).tr (w19.wd rfl)) (by omega) (oL.1) (wL.1) sL dD nN qq1 qq2 blx (fun z => by have z1 := nN.2 z.1; have z2 := oL.1; have z3 := wL.1; omega) (by omega)
              · refine zx_T.l (i := .iload 6) (k := 2) (v := .int (zI (v7))) (pc := 238) rfl rfl rfl ?_
                refine zr_i1 (x := v7) (t := 252) (pc := 240) rfl rfl (by omega) (by omega) (fun (c29 : ¬ v7 = 0) => ?_) (fun (c29 : ¬ (¬ v7 = 0)) => ?_)
                · have y30 : zv_i h18 30 = zv_i h 30 := ((zv_wi w19 rfl).trans ((zv_wi w14 rfl).trans (zv_wi hw rfl)))
                  refine zx_T.lk (ls' := [(0, .ref 44), (1, .int (zI (f))), (3, .int (zI (own))), (4, .int (zI (zv_a h 57 f - zv_a h 57 (f - 1) - 1))), (5, .int (zI (own + zv_a h 59 f))), (6, .int (zI (v7))), (7, .int (zI (v11))), (8, .int (zI (v16))), (9, .int (zI (v22)))]) rfl ⟨rfl, rfl, rfl, rfl, rfl, rfl, rfl, rfl, rfl, trivial⟩ ?_
                  exact ih.2.1 (h2 := h18) (own := own) (d := zv_a h 57 f - zv_a h 57 (f - 1) - 1) (u := own + zv_a h 59 f) (s := v7) (o := v11) (w := v16) (sm := v22) ih18 (by omega) (by omega) (by omega) (by omega) (by omega) (by omega) (by omega) (by omega) (by omega) (by omega) (by omega) (by omega) (by omega) (by omega) (((hw.wd rfl : zb_W [(44, 30), (64, 0), (65, 0), (66, 0), (67, 0), (68, 0)] h _).tr (w14.wd rfl)).tr (w19.wd rfl)) (by omega) (oL.1) (wL.1) sL dD nN qq1 qq2 blx (fun z => by have z1 := nN.2 z.1; have z2 := oL.1; have z3 := wL.1; omega) (by omega)
                · refine zx_T.l (i := .aload_n 0) (k := 1) (v := .ref 44) (pc := 243) rfl rfl rfl ?_
                  refine zx_T.l (i := .iload 4) (k := 2) (v := .int (zI (zv_a h 57 f - zv_a h 57 (f - 1) - 1))) (pc := 244) rfl rfl rfl ?_
                  have y31 : zv_i h18 30 = zv_i h 30 := ((zv_wi w19 rfl).trans ((zv_wi w14 rfl).trans (zv_wi hw rfl)))
                  refine zr_iv (cj := 187) (q' := zp_m187) (As := [.int (zI (zv_a h 57 f - zv_a h 57 (f - 1) - 1))]) (rest := []) (pc := 246) rfl rfl rfl rfl rfl rfl (Nat.le_of_ble_eq_true rfl) rfl (Nat.le_of_ble_eq_true rfl) ih18 ((zm_putF (h := h18) ih18 (b := zv_a h 57 f - zv_a h 57 (f - 1) - 1) (by omega) (by omega) (by omega) L blx).up (Nat.le_of_ble_eq_true rfl)) ?_
                  rintro r32 h35 ⟨ih35, w36, r32q, x34⟩
                  subst r32q
                  try dsimp only at x34
                  have pB1 := x34.1
                  have pN1 := x34.2
                  show zx_T zp_P 2 zp_m193 249 [(9, .int (zI (v22))), (8, .int (zI (v16))), (7, .int (zI (v11))), (6, .int (zI (v7))), (5, .int (zI (own + zv_a h 59 f))), (4, .int (zI (zv_a h 57 f - zv_a h 57 (f - 1) - 1))), (0, .ref 44), (1, .int (zI (f))), (2, .int (zI (m))), (3, .int (zI (own)))] [] h35 _
                  refine zx_T.j (i := .goto 250) (k := 3) (pc' := 499) (st' := []) (pc := 249) rfl rfl rfl rfl rfl ?_
                  exact zr_vr (pc := 499) rfl rfl ⟨ih35, ((((hw.wd rfl : zb_W [(44, 30), (64, 0), (65, 0), (66, 0), (67, 0), (68, 0)] h _).tr (w14.wd rfl)).tr (w19.wd rfl)).tr (w36.wd rfl)), rfl, by dsimp only; unfold zs_fb; rw [zi_t ⟨nN.1 (by omega), by have z2 := oL.1; have z3 := wL.1; omega, by have z4 := sL; omega⟩, ← dD]; exact pB1⟩
          · refine zx_T.l (i := .iload 7) (k := 2) (v := .int (zI (v11))) (pc := 214) rfl rfl rfl ?_
            refine zx_T.j (i := .goto 5) (k := 3) (pc' := 221) (st' := [.int (zI (v11)), .ref 44]) (pc := 216) rfl rfl rfl rfl rfl ?_
            refine zr_iv (cj := 192) (q' := zp_m192) (As := [.int (zI (v11))]) (rest := []) (pc := 221) rfl rfl rfl rfl rfl rfl (Nat.le_of_ble_eq_true rfl) rfl (Nat.le_of_ble_eq_true rfl) ih18 ((zm_alikeF (h := h18) ih18 (b := v11) (by omega) (by omega)).up (Nat.le_of_ble_eq_true rfl)) ?_
            rintro r38 h41 ⟨h41q, v39, r38q, x40⟩
            subst h41q r38q
            try dsimp only at x40
            have aL := x40.1; have nN : v39 = 1 ↔ zs_nl (zs_ah (zr_Pg h) F f) (F.ow f) := (by rw [zs_nl_ag oL2 wL]; exact ⟨fun z j j0 ja jo => (aL.resolve_right (fun y => absurd y.1 (by omega))).2 j j0 (by omega), fun z => by rcases aL with y | y; (exact y.1); (exact absurd (fun j j0 j1 => z j j0 (by omega) (by omega)) y.2)⟩); have e66 : zv_a h18 66 = zv_a h2 66 := funext (fun q => zv_wa ((w14.wd rfl : zb_W [(67, 0), (68, 0)] h2 _).tr (w19.wd rfl)) rfl q); have qq1 : zs_es (zv_a h18 66) 0 own = F.ow f := (by rw [e66]; exact aO); have qq2 : zs_es (zv_a h18 66) own (own + zv_a h 59 f) = F.sk f := (by rw [e66]; exact aT); have blx : zs_bl (zv_i h18 30) (zv_a h18 64) L := (by rw [zv_wi (((hw.wd rfl : zb_W [(65, 0), (66, 0), (67, 0), (68, 0)] h _).tr (w14.wd rfl)).tr (w19.wd rfl)) rfl, show zv_a h18 64 = zv_a h 64 from funext (fun q => zv_wa (((hw.wd rfl : zb_W [(65, 0), (66, 0), (67, 0), (68, 0)] h _).tr (w14.wd rfl)).tr (w19.wd rfl)) rfl q)]; exact bl)
            show zx_T zp_P 2 zp_m193 224 [(8, .int (zI (v16))), (7, .int (zI (v11))), (6, .int (zI (v7))), (5, .int (zI (own + zv_a h 59 f))), (4, .int (zI (zv_a h 57 f - zv_a h 57 (f - 1) - 1))), (0, .ref 44), (1, .int (zI (f))), (2, .int (zI (m))), (3, .int (zI (own)))] [.int (zI (v39))] h18 _
            refine zx_T.t (i := .istore 9) (k := 2) (ls' := [(9, .int (zI (v39))), (8, .int (zI (v16))), (7, .int (zI (v11))), (6, .int (zI (v7))), (5, .int (zI (own + zv_a h 59 f))), (4, .int (zI (zv_a h 57 f - zv_a h 57 (f - 1) - 1))), (0, .ref 44), (1, .int (zI (f))), (2, .int (zI (m))), (3, .int (zI (own)))]) (st' := []) (pc := 224) rfl rfl rfl rfl ?_
            refine zx_T.l (i := .iload 9) (k := 2) (v := .int (zI (v39))) (pc := 226) rfl rfl rfl ?_
            refine zr_i1 (x := v39) (t := 252) (pc := 228) rfl rfl (by omega) (by omega) (fun (c42 : v39 = 0) => ?_) (fun (c42 : ¬ (v39 = 0)) => ?_)
            · have y43 : zv_i h18 30 = zv_i h 30 := ((zv_wi w19 rfl).trans ((zv_wi w14 rfl).trans (zv_wi hw rfl)))
              refine zx_T.lk (ls' := [(0, .ref 44), (1, .int (zI (f))), (3, .int (zI (own))), (4, .int (zI (zv_a h 57 f - zv_a h 57 (f - 1) - 1))), (5, .int (zI (own + zv_a h 59 f))), (6, .int (zI (v7))), (7, .int (zI (v11))), (8, .int (zI (v16))), (9, .int (zI (v39)))]) rfl ⟨rfl, rfl, rfl, rfl, rfl, rfl, rfl, rfl, rfl, trivial⟩ ?_
              exact ih.2.1 (h2 := h18) (own := own) (d := zv_a h 57 f - zv_a h 57 (f - 1) - 1) (u := own + zv_a h 59 f) (s := v7) (o := v11) (w := v16) (sm := v39) ih18 (by omega) (by omega) (by omega) (by omega) (by omega) (by omega) (by omega) (by omega) (by omega) (by omega) (by omega) (by omega) (by omega) (by omega) (((hw.wd rfl : zb_W [(44, 30), (64, 0), (65, 0), (66, 0), (67, 0), (68, 0)] h _).tr (w14.wd rfl)).tr (w19.wd rfl)) (by omega) (oL.1) (wL.1) sL dD nN qq1 qq2 blx (fun z => by have z1 := nN.2 z.1; have z2 := oL.1; have z3 := wL.1; omega) (by omega)
            · refine zx_T.l (i := .iload 7) (k := 2) (v := .int (zI (v11))) (pc := 231) rfl rfl rfl ?_
              refine zx_T.l (i := .iload 8) (k := 2) (v := .int (zI (v16))) (pc := 233) rfl rfl rfl ?_
              refine zr_i2 (x := v11) (y := v16) (t := 252) (pc := 235) rfl rfl (by omega) (by omega) (by omega) (by omega) (fun (c44 : ¬ v11 = v16) => ?_) (fun (c44 : ¬ (¬ v11 = v16)) => False.elim (by omega))
              have y45 : zv_i h18 30 = zv_i h 30 := ((zv_wi w19 rfl).trans ((zv_wi w14 rfl).trans (zv_wi hw rfl)))
              refine zx_T.lk (ls' := [(0, .ref 44), (1, .int (zI (f))), (3, .int (zI (own))), (4, .int (zI (zv_a h 57 f - zv_a h 57 (f - 1) - 1))), (5, .int (zI (own + zv_a h 59 f))), (6, .int (zI (v7))), (7, .int (zI (v11))), (8, .int (zI (v16))), (9, .int (zI (v39)))]) rfl ⟨rfl, rfl, rfl, rfl, rfl, rfl, rfl, rfl, rfl, trivial⟩ ?_
              exact ih.2.1 (h2 := h18) (own := own) (d := zv_a h 57 f - zv_a h 57 (f - 1) - 1) (u := own + zv_a h 59 f) (s := v7) (o := v11) (w := v16) (sm := v39) ih18 (by omega) (by omega) (by omega) (by omega) (by omega) (by omega) (by omega) (by omega) (by omega) (by omega) (by omega) (by omega) (by omega) (by omega) (((hw.wd rfl : zb_W [(44, 30), (64, 0), (65, 0), (66, 0), (67, 0), (68, 0)] h _).tr (w14.wd rfl)).tr (w19.wd rfl)) (by omega) (oL.1) (wL.1) sL dD nN qq1 qq2 blx (fun z => by have z1 := nN.2 z.1; have z2 := oL.1; have z3 := wL.1; omega) (by omega)
        · refine zx_T.l (i := .aload_n 0) (k := 1) (v := .ref 44) (pc := 128) rfl rfl rfl ?_
          refine zr_gr (k := 20) (b := 57) (pc := 129) rfl rfl rfl hI2 ?_
          refine zx_T.l (i := .iload_n 1) (k := 1) (v := .int (zI (f))) (pc := 132) rfl rfl rfl ?_
          refine zr_al (n := 60) (lo := 0) (hi := 59) (e := zv_a h 57 f) (pc := 133) rfl rfl rfl hI2 (by omega) (by omega) (zv_wa hw rfl f) (fun g46a g46b => ?_)
          refine zx_T.j (i := .goto 20) (k := 3) (pc' := 154) (st' := [.int (zI (zv_a h 57 f))]) (pc := 134) rfl rfl rfl rfl rfl ?_
          refine zx_T.t (i := .istore 4) (k := 2) (ls' := [(4, .int (zI (zv_a h 57 f))), (0, .ref 44), (1, .int (zI (f))), (2, .int (zI (m))), (3, .int (zI (own)))]) (st' := []) (pc := 154) rfl rfl rfl rfl ?_
          have dD : zv_a h 57 f = zs_di F f := (by have hf0 := (hF.2 f (by omega) (by omega)).1; unfold zs_di; by_cases z : f = 0; (subst z; rw [if_pos rfl]; omega); (rw [if_neg z]; have hf1 := (hF.2 (f - 1) (by omega) (by omega)).1; omega))
          refine zx_T.l (i := .iload_n 3) (k := 1) (v := .int (zI (own))) (pc := 156) rfl rfl rfl ?_
          refine zx_T.l (i := .aload_n 0) (k := 1) (v := .ref 44) (pc := 157) rfl rfl rfl ?_
          refine zr_gr (k := 22) (b := 59) (pc := 158) rfl rfl rfl hI2 ?_
          refine zx_T.l (i := .iload_n 1) (k := 1) (v := .int (zI (f))) (pc := 161) rfl rfl rfl ?_
          refine zr_al (n := 60) (lo := 0) (hi := 6) (e := zv_a h 59 f) (pc := 162) rfl rfl rfl hI2 (by omega) (by omega) (zv_wa hw rfl f) (fun g47a g47b => ?_)
          refine zr_add (x := own) (y := zv_a h 59 f) (e := own + zv_a h 59 f) (pc := 163) rfl (by omega) ?_
          refine zx_T.t (i := .istore 5) (k := 2) (ls' := [(5, .int (zI (own + zv_a h 59 f))), (4, .int (zI (zv_a h 57 f))), (0, .ref 44), (1, .int (zI (f))), (2, .int (zI (m))), (3, .int (zI (own)))]) (st' := []) (pc := 164) rfl rfl rfl rfl ?_
          have of := oF.2.2 f (by omega) (by omega)
          have hf := hF.2 f (by omega) (by omega)
          have aO : zs_es (zv_a h2 66) 0 own = F.ow f := (by unfold zF.ow; rw [wO, hf.2.1]; exact zs_es_cg (fun j j0 j1 => by rw [mi j j0 (by omega) (by omega)]; exact hf.2.2.2.1 j j0 j1))
          have aT : zs_es (zv_a h2 66) own (own + zv_a h 59 f) = F.sk f := (by have z := zs_es_sh (N := zv_a h2 66) (N' := F.kf f) (s := 8 - own) (u := own + zv_a h 59 f) 14 own (by omega) (fun j j0 j1 => by rw [mi j (by omega) (by omega) j1]; have y := hf.2.2.2.2 (j - own) (by omega) (by omega); rw [show 14 * f + F.lo f + (j - own) = 14 * f + j by omega, show 8 + (j - own) = j + (8 - own) by omega] at y; exact y); rw [z]; unfold zF.sk; rw [show own + (8 - own) = 8 by omega, show own + zv_a h 59 f + (8 - own) = 8 + F.st f by omega])
          have aA : zs_es (zv_a h2 65) 0 m = (zs_ah (zr_Pg h) F f) := (by unfold zs_ah; rcases mE with y | y; (rw [if_pos y.1, show (zr_Pg h).pn = zv_i h 10 from rfl, ← y.2]; exact zs_es_cg (fun j j0 j1 => by rw [(ah j j0 (by omega) j1).1 y.1]; show _ = if j < zv_i h 10 then zv_a h 52 j else 0; rw [if_pos (by omega)])); (rw [if_neg (by omega)]; unfold zF.ow; have gf := hF.2 (f - 1) (by omega) (by omega); rw [y.2, gf.2.1]; exact zs_es_cg (fun j j0 j1 => by rw [(ah j j0 (by omega) (by omega)).2 y.1]; exact gf.2.2.2.1 j j0 j1)))
          have hpl := hf.1
          have len1 := zs_es_len (N := zv_a h2 66) (u := own) 14 0 (by omega)
          rw [aO, if_pos w1] at len1
          have len2 := zs_es_len (N := zv_a h2 66) (u := own + zv_a h 59 f) 14 own (by omega)
          rw [aT, if_pos (by omega)] at len2
          have len3 := zs_es_len (N := zv_a h2 65) (u := m) 14 0 (by omega)
          rw [aA, if_pos m1] at len3
          refine zx_T.l (i := .aload_n 0) (k := 1) (v := .ref 44) (pc := 166) rfl rfl rfl ?_
          refine zr_gr (k := 33) (b := 66) (pc := 167) rfl rfl rfl hI2 ?_
          refine zx_T.l (i := .iload_n 3) (k := 1) (v := .int (zI (own))) (pc := 170) rfl rfl rfl ?_
          refine zx_T.l (i := .iload 5) (k := 2) (v := .int (zI (own + zv_a h 59 f))) (pc := 171) rfl rfl rfl ?_
          refine zr_is (cj := 189) (q' := zp_m189) (As := [.ref 66, .int (zI (own)), .int (zI (own + zv_a h 59 f))]) (rest := []) (pc := 173) rfl rfl rfl rfl rfl rfl (Nat.le_of_ble_eq_true rfl) rfl (Nat.le_of_ble_eq_true rfl) rfl ((zm_entriesF (h := h2) hI2 (f := own) (u := own + zv_a h 59 f) (by omega) (by omega) (by omega)).up (Nat.le_of_ble_eq_true rfl)) ?_
          rintro r48 h51 ⟨h51q, v49, r48q, x50⟩
          subst h51q r48q
          try dsimp only at x50
          have sL : v49 = ((F.sk f).length : Int) := x50.1.trans (by rw [aT])
          show zx_T zp_P 2 zp_m193 176 [(5, .int (zI (own + zv_a h 59 f))), (4, .int (zI (zv_a h 57 f))), (0, .ref 44), (1, .int (zI (f))), (2, .int (zI (m))), (3, .int (zI (own)))] [.int (zI (v49))] h2 _
          refine zx_T.t (i := .istore 6) (k := 2) (ls' := [(6, .int (zI (v49))), (5, .int (zI (own + zv_a h 59 f))), (4, .int (zI (zv_a h 57 f))), (0, .ref 44), (1, .int (zI (f))), (2, .int (zI (m))), (3, .int (zI (own)))]) (st' := []) (pc := 176) rfl rfl rfl rfl ?_
          refine zx_T.l (i := .aload_n 0) (k := 1) (v := .ref 44) (pc := 178) rfl rfl rfl ?_
          refine zr_gr (k := 32) (b := 65) (pc := 179) rfl rfl rfl hI2 ?_
          refine zx_T.l (i := .iload_n 2) (k := 1) (v := .int (zI (m))) (pc := 182) rfl rfl rfl ?_
          refine zx_T.l (i := .aload_n 0) (k := 1) (v := .ref 44) (pc := 183) rfl rfl rfl ?_
          refine zr_gr (k := 34) (b := 67) (pc := 184) rfl rfl rfl hI2 ?_
          refine zr_is (cj := 191) (q' := zp_m191) (As := [.ref 65, .int (zI (m)), .ref 67]) (rest := []) (pc := 187) rfl rfl rfl rfl rfl rfl (Nat.le_of_ble_eq_true rfl) rfl (Nat.le_of_ble_eq_true rfl) rfl ((zm_listF_65 (h := h2) hI2 (u := m) (by omega) (by omega)).up (Nat.le_of_ble_eq_true rfl)) ?_
          rintro r52 h55 ⟨ih55, w56, v53, r52q, x54⟩
          subst r52q
          try dsimp only at x54
          have oL := x54.1
          rw [aA] at oL
          show zx_T zp_P 2 zp_m193 190 [(6, .int (zI (v49))), (5, .int (zI (own + zv_a h 59 f))), (4, .int (zI (zv_a h 57 f))), (0, .ref 44), (1, .int (zI (f))), (2, .int (zI (m))), (3, .int (zI (own)))] [.int (zI (v53))] h55 _
          refine zx_T.t (i := .istore 7) (k := 2) (ls' := [(7, .int (zI (v53))), (6, .int (zI (v49))), (5, .int (zI (own + zv_a h 59 f))), (4, .int (zI (zv_a h 57 f))), (0, .ref 44), (1, .int (zI (f))), (2, .int (zI (m))), (3, .int (zI (own)))]) (st' := []) (pc := 190) rfl rfl rfl rfl ?_
          refine zx_T.l (i := .aload_n 0) (k := 1) (v := .ref 44) (pc := 192) rfl rfl rfl ?_
          refine zr_gr (k := 33) (b := 66) (pc := 193) rfl rfl rfl ih55 ?_
          refine zx_T.l (i := .iload_n 3) (k := 1) (v := .int (zI (own))) (pc := 196) rfl rfl rfl ?_
          refine zx_T.l (i := .aload_n 0) (k := 1) (v := .ref 44) (pc := 197) rfl rfl rfl ?_
          refine zr_gr (k := 35) (b := 68) (pc := 198) rfl rfl rfl ih55 ?_
          refine zr_is (cj := 191) (q' := zp_m191) (As := [.ref 66, .int (zI (own)), .ref 68]) (rest := []) (pc := 201) rfl rfl rfl rfl rfl rfl (Nat.le_of_ble_eq_true rfl) rfl (Nat.le_of_ble_eq_true rfl) rfl ((zm_listF_66 (h := h55) ih55 (u := own) (by omega) (by omega)).up (Nat.le_of_ble_eq_true rfl)) ?_
          rintro r57 h60 ⟨ih60, w61, v58, r57q, x59⟩
          subst r57q
          try dsimp only at x59
          have wL := x59.1; rw [show zv_a h55 66 = zv_a h2 66 from funext (fun q => zv_wa w56 rfl q), aO] at wL; have oL2 := oL; rw [← show zv_a h60 67 = zv_a h55 67 from funext (fun q => zv_wa w61 rfl q)] at oL2; have oLn := oL.1; have wLn := wL.1
          show zx_T zp_P 2 zp_m193 204 [(7, .int (zI (v53))), (6, .int (zI (v49))), (5, .int (zI (own + zv_a h 59 f))), (4, .int (zI (zv_a h 57 f))), (0, .ref 44), (1, .int (zI (f))), (2, .int (zI (m))), (3, .int (zI (own)))] [.int (zI (v58))] h60 _
          refine zx_T.t (i := .istore 8) (k := 2) (ls' := [(8, .int (zI (v58))), (7, .int (zI (v53))), (6, .int (zI (v49))), (5, .int (zI (own + zv_a h 59 f))), (4, .int (zI (zv_a h 57 f))), (0, .ref 44), (1, .int (zI (f))), (2, .int (zI (m))), (3, .int (zI (own)))]) (st' := []) (pc := 204) rfl rfl rfl rfl ?_
          refine zx_T.l (i := .aload_n 0) (k := 1) (v := .ref 44) (pc := 206) rfl rfl rfl ?_
          refine zx_T.l (i := .iload 7) (k := 2) (v := .int (zI (v53))) (pc := 207) rfl rfl rfl ?_
          refine zx_T.l (i := .iload 8) (k := 2) (v := .int (zI (v58))) (pc := 209) rfl rfl rfl ?_
          refine zr_i2 (x := v53) (y := v58) (t := 219) (pc := 211) rfl rfl (by omega) (by omega) (by omega) (by omega) (fun (c62 : v58 ≤ v53) => ?_) (fun (c62 : ¬ (v58 ≤ v53)) => ?_)
          · refine zx_T.l (i := .iload 8) (k := 2) (v := .int (zI (v58))) (pc := 219) rfl rfl rfl ?_
            refine zr_iv (cj := 192) (q' := zp_m192) (As := [.int (zI (v58))]) (rest := []) (pc := 221) rfl rfl rfl rfl rfl rfl (Nat.le_of_ble_eq_true rfl) rfl (Nat.le_of_ble_eq_true rfl) ih60 ((zm_alikeF (h := h60) ih60 (b := v58) (by omega) (by omega)).up (Nat.le_of_ble_eq_true rfl)) ?_
            rintro r63 h66 ⟨h66q, v64, r63q, x65⟩
            subst h66q r63q
            try dsimp only at x65
            have aL := x65.1; have nN : v64 = 1 ↔ zs_nl (zs_ah (zr_Pg h) F f) (F.ow f) := (by rw [zs_nl_ag oL2 wL]; exact ⟨fun z j j0 ja jo => (aL.resolve_right (fun y => absurd y.1 (by omega))).2 j j0 (by omega), fun z => by rcases aL with y | y; (exact y.1); (exact absurd (fun j j0 j1 => z j j0 (by omega) (by omega)) y.2)⟩); have e66 : zv_a h60 66 = zv_a h2 66 := funext (fun q => zv_wa ((w56.wd rfl : zb_W [(67, 0), (68, 0)] h2 _).tr (w61.wd rfl)) rfl q); have qq1 : zs_es (zv_a h60 66) 0 own = F.ow f := (by rw [e66]; exact aO); have qq2 : zs_es (zv_a h60 66) own (own + zv_a h 59 f) = F.sk f := (by rw [e66]; exact aT); have blx : zs_bl (zv_i h60 30) (zv_a h60 64) L := (by rw [zv_wi (((hw.wd rfl : zb_W [(65, 0), (66, 0), (67, 0), (68, 0)] h _).tr (w56.wd rfl)).tr (w61.wd rfl)) rfl, show zv_a h60 64 = zv_a h 64 from funext (fun q => zv_wa (((hw.wd rfl : zb_W [(65, 0), (66, 0), (67, 0), (68, 0)] h _).tr (w56.wd rfl)).tr (w61.wd rfl)) rfl q)]; exact bl)
            show zx_T zp_P 2 zp_m193 224 [(8, .int (zI (v58))), (7, .int (zI (v53))), (6, .int (zI (v49))), (5, .int (zI (own + zv_a h 59 f))), (4, .int (zI (zv_a h 57 f))), (0, .ref 44), (1, .int (zI (f))), (2, .int (zI (m))), (3, .int (zI (own)))] [.int (zI (v64))] h60 _
            refine zx_T.t (i := .istore 9) (k := 2) (ls' := [(9, .int (zI (v64))), (8, .int (zI (v58))), (7, .int (zI (v53))), (6, .int (zI (v49))), (5, .int (zI (own + zv_a h 59 f))), (4, .int (zI (zv_a h 57 f))), (0, .ref 44), (1, .int (zI (f))), (2, .int (zI (m))), (3, .int (zI (own)))]) (st' := []) (pc := 224) rfl rfl rfl rfl ?_
            refine zx_T.l (i := .iload 9) (k := 2) (v := .int (zI (v64))) (pc := 226) rfl rfl rfl ?_
            refine zr_i1 (x := v64) (t := 252) (pc := 228) rfl rfl (by omega) (by omega) (fun (c67 : v64 = 0) => ?_) (fun (c67 : ¬ (v64 = 0)) => ?_)
            · have y68 : zv_i h60 30 = zv_i h 30 := ((zv_wi w61 rfl).trans ((zv_wi w56 rfl).trans (zv_wi hw rfl)))
              refine zx_T.lk (ls' := [(0, .ref 44), (1, .int (zI (f))), (3, .int (zI (own))), (4, .int (zI (zv_a h 57 f))), (5, .int (zI (own + zv_a h 59 f))), (6, .int (zI (v49))), (7, .int (zI (v53))), (8, .int (zI (v58))), (9, .int (zI (v64)))]) rfl ⟨rfl, rfl, rfl, rfl, rfl, rfl, rfl, rfl, rfl, trivial⟩ ?_
              exact ih.2.1 (h2 := h60) (own := own) (d := zv_a h 57 f) (u := own + zv_a h 59 f) (s := v49) (o := v53) (w := v58) (sm := v64) ih60 (by omega) (by omega) (by omega) (by omega) (by omega) (by omega) (by omega) (by omega) (by omega) (by omega) (by omega) (by omega) (by omega) (by omega) (((hw.wd rfl : zb_W [(44, 30), (64, 0), (65, 0), (66, 0), (67, 0), (68, 0)] h _).tr (w56.wd rfl)).tr (w61.wd rfl)) (by omega) (oL.1) (wL.1) sL dD nN qq1 qq2 blx (fun z => by have z1 := nN.2 z.1; have z2 := oL.1; have z3 := wL.1; omega) (by omega)
            · refine zx_T.l (i := .iload 7) (k := 2) (v := .int (zI (v53))) (pc := 231) rfl rfl rfl ?_
              refine zx_T.l (i := .iload 8) (k := 2) (v := .int (zI (v58))) (pc := 233) rfl rfl rfl ?_
              refine zr_i2 (x := v53) (y := v58) (t := 252) (pc := 235) rfl rfl (by omega) (by omega) (by omega) (by omega) (fun (c69 : ¬ v53 = v58) => ?_) (fun (c69 : ¬ (¬ v53 = v58)) => ?_)
              · have y70 : zv_i h60 30 = zv_i h 30 := ((zv_wi w61 rfl).trans ((zv_wi w56 rfl).trans (zv_wi hw rfl)))
                refine zx_T.lk (ls' := [(0, .ref 44), (1, .int (zI (f))), (3, .int (zI (own))), (4, .int (zI (zv_a h 57 f))), (5, .int (zI (own + zv_a h 59 f))), (6, .int (zI (v49))), (7, .int (zI (v53))), (8, .int (zI (v58))), (9, .int (zI (v64)))]) rfl ⟨rfl, rfl, rfl, rfl, rfl, rfl, rfl, rfl, rfl, trivial⟩ ?_
                exact ih.2.1 (h2 := h60) (own := own) (d := zv_a h 57 f) (u := own + zv_a h 59 f) (s := v49) (o := v53) (w := v58) (sm := v64) ih60 (by omega) (by omega) (by omega) (by omega) (by omega) (by omega) (by omega) (by omega) (by omega) (by omega) (by omega) (by omega) (by omega) (by omega) (((hw.wd rfl : zb_W [(44, 30), (64, 0), (65, 0), (66, 0), (67, 0), (68, 0)] h _).tr (w56.wd rfl)).tr (w61.wd rfl)) (by omega) (oL.1) (wL.1) sL dD nN qq1 qq2 blx (fun z => by have z1 := nN.2 z.1; have z2 := oL.1; have z3 := wL.1; omega) (by omega)
              · refine zx_T.l (i := .iload 6) (k := 2) (v := .int (zI (v49))) (pc := 238) rfl rfl rfl ?_
                refine zr_i1 (x := v49) (t := 252) (pc := 240) rfl rfl (by omega) (by omega) (fun (c71 : ¬ v49 = 0) => ?_) (fun (c71 : ¬ (¬ v49 = 0)) => ?_)
                · have y72 : zv_i h60 30 = zv_i h 30 := ((zv_wi w61 rfl).trans ((zv_wi w56 rfl).trans (zv_wi hw rfl)))
                  refine zx_T.lk (ls' := [(0, .ref 44), (1, .int (zI (f))), (3, .int (zI (own))), (4, .int (zI (zv_a h 57 f))), (5, .int (zI (own + zv_a h 59 f))), (6, .int (zI (v49))), (7, .int (zI (v53))), (8, .int (zI (v58))), (9, .int (zI (v64)))]) rfl ⟨rfl, rfl, rfl, rfl, rfl, rfl, rfl, rfl, rfl, trivial⟩ ?_
                  exact ih.2.1 (h2 := h60) (own := own) (d := zv_a h 57 f) (u := own + zv_a h 59 f) (s := v49) (o := v53) (w := v58) (sm := v64) ih60 (by omega) (by omega) (by omega) (by omega) (by omega) (by omega) (by omega) (by omega) (by omega) (by omega) (by omega) (by omega) (by omega) (by omega) (((hw.wd rfl : zb_W [(44, 30), (64, 0), (65, 0), (66, 0), (67, 0), (68, 0)] h _).tr (w56.wd rfl)).tr (w61.wd rfl)) (by omega) (oL.1) (wL.1) sL dD nN qq1 qq2 blx (fun z => by have z1 := nN.2 z.1; have z2 := oL.1; have z3 := wL.1; omega) (by omega)
                · refine zx_T.l (i := .aload_n 0) (k := 1) (v := .ref 44) (pc := 243) rfl rfl rfl ?_
                  refine zx_T.l (i := .iload 4) (k := 2) (v := .int (zI (zv_a h 57 f))) (pc := 244) rfl rfl rfl ?_
                  have y73 : zv_i h60 30 = zv_i h 30 := ((zv_wi w61 rfl).trans ((zv_wi w56 rfl).trans (zv_wi hw rfl)))
                  refine zr_iv (cj := 187) (q' := zp_m187) (As := [.int (zI (zv_a h 57 f))]) (rest := []) (pc := 246) rfl rfl rfl rfl rfl rfl (Nat.le_of_ble_eq_true rfl) rfl (Nat.le_of_ble_eq_true rfl) ih60 ((zm_putF (h := h60) ih60 (b := zv_a h 57 f) (by omega) (by omega) (by omega) L blx).up (Nat.le_of_ble_eq_true rfl)) ?_
                  rintro r74 h77 ⟨ih77, w78, r74q, x76⟩
                  subst r74q
                  try dsimp only at x76
                  have pB1 := x76.1
                  have pN1 := x76.2
                  show zx_T zp_P 2 zp_m193 249 [(9, .int (zI (v64))), (8, .int (zI (v58))), (7, .int (zI (v53))), (6, .int (zI (v49))), (5, .int (zI (own + zv_a h 59 f))), (4, .int (zI (zv_a h 57 f))), (0, .ref 44), (1, .int (zI (f))), (2, .int (zI (m))), (3, .int (zI (own)))] [] h77 _
                  refine zx_T.j (i := .goto 250) (k := 3) (pc' := 499) (st' := []) (pc := 249) rfl rfl rfl rfl rfl ?_
                  exact zr_vr (pc := 499) rfl rfl ⟨ih77, ((((hw.wd rfl : zb_W [(44, 30), (64, 0), (65, 0), (66, 0), (67, 0), (68, 0)] h _).tr (w56.wd rfl)).tr (w61.wd rfl)).tr (w78.wd rfl)), rfl, by dsimp only; unfold zs_fb; rw [zi_t ⟨nN.1 (by omega), by have z2 := oL.1; have z3 := wL.1; omega, by have z4 := sL; omega⟩, ← dD]; exact pB1⟩
          · refine zx_T.l (i := .iload 7) (k := 2) (v := .int (zI (v53))) (pc := 214) rfl rfl rfl ?_
            refine zx_T.j (i := .goto 5) (k := 3) (pc' := 221) (st' := [.int (zI (v53)), .ref 44]) (pc := 216) rfl rfl rfl rfl rfl ?_
            refine zr_iv (cj := 192) (q' := zp_m192) (As := [.int (zI (v53))]) (rest := []) (pc := 221) rfl rfl rfl rfl rfl rfl (Nat.le_of_ble_eq_true rfl) rfl (Nat.le_of_ble_eq_true rfl) ih60 ((zm_alikeF (h := h60) ih60 (b := v53) (by omega) (by omega)).up (Nat.le_of_ble_eq_true rfl)) ?_
            rintro r80 h83 ⟨h83q, v81, r80q, x82⟩
            subst h83q r80q
            try dsimp only at x82
            have aL := x82.1; have nN : v81 = 1 ↔ zs_nl (zs_ah (zr_Pg h) F f) (F.ow f) := (by rw [zs_nl_ag oL2 wL]; exact ⟨fun z j j0 ja jo => (aL.resolve_right (fun y => absurd y.1 (by omega))).2 j j0 (by omega), fun z => by rcases aL with y | y; (exact y.1); (exact absurd (fun j j0 j1 => z j j0 (by omega) (by omega)) y.2)⟩); have e66 : zv_a h60 66 = zv_a h2 66 := funext (fun q => zv_wa ((w56.wd rfl : zb_W [(67, 0), (68, 0)] h2 _).tr (w61.wd rfl)) rfl q); have qq1 : zs_es (zv_a h60 66) 0 own = F.ow f := (by rw [e66]; exact aO); have qq2 : zs_es (zv_a h60 66) own (own + zv_a h 59 f) = F.sk f := (by rw [e66]; exact aT); have blx : zs_bl (zv_i h60 30) (zv_a h60 64) L := (by rw [zv_wi (((hw.wd rfl : zb_W [(65, 0), (66, 0), (67, 0), (68, 0)] h _).tr (w56.wd rfl)).tr (w61.wd rfl)) rfl, show zv_a h60 64 = zv_a h 64 from funext (fun q => zv_wa (((hw.wd rfl : zb_W [(65, 0), (66, 0), (67, 0), (68, 0)] h _).tr (w56.wd rfl)).tr (w61.wd rfl)) rfl q)]; exact bl)
            show zx_T zp_P 2 zp_m193 224 [(8, .int (zI (v58))), (7, .int (zI (v53))), (6, .int (zI (v49))), (5, .int (zI (own + zv_a h 59 f))), (4, .int (zI (zv_a h 57 f))), (0, .ref 44), (1, .int (zI (f))), (2, .int (zI (m))), (3, .int (zI (own)))] [.int (zI (v81))] h60 _
            refine zx_T.t (i := .istore 9) (k := 2) (ls' := [(9, .int (zI (v81))), (8, .int (zI (v58))), (7, .int (zI (v53))), (6, .int (zI (v49))), (5, .int (zI (own + zv_a h 59 f))), (4, .int (zI (zv_a h 57 f))), (0, .ref 44), (1, .int (zI (f))), (2, .int (zI (m))), (3, .int (zI (own)))]) (st' := []) (pc := 224) rfl rfl rfl rfl ?_
            refine zx_T.l (i := .iload 9) (k := 2) (v := .int (zI (v81))) (pc := 226) rfl rfl rfl ?_
            refine zr_i1 (x := v81) (t := 252) (pc := 228) rfl rfl (by omega) (by omega) (fun (c84 : v81 = 0) => ?_) (fun (c84 : ¬ (v81 = 0)) => ?_)
            · have y85 : zv_i h60 30 = zv_i h 30 := ((zv_wi w61 rfl).trans ((zv_wi w56 rfl).trans (zv_wi hw rfl)))
              refine zx_T.lk (ls' := [(0, .ref 44), (1, .int (zI (f))), (3, .int (zI (own))), (4, .int (zI (zv_a h 57 f))), (5, .int (zI (own + zv_a h 59 f))), (6, .int (zI (v49))), (7, .int (zI (v53))), (8, .int (zI (v58))), (9, .int (zI (v81)))]) rfl ⟨rfl, rfl, rfl, rfl, rfl, rfl, rfl, rfl, rfl, trivial⟩ ?_
              exact ih.2.1 (h2 := h60) (own := own) (d := zv_a h 57 f) (u := own + zv_a h 59 f) (s := v49) (o := v53) (w := v58) (sm := v81) ih60 (by omega) (by omega) (by omega) (by omega) (by omega) (by omega) (by omega) (by omega) (by omega) (by omega) (by omega) (by omega) (by omega) (by omega) (((hw.wd rfl : zb_W [(44, 30), (64, 0), (65, 0), (66, 0), (67, 0), (68, 0)] h _).tr (w56.wd rfl)).tr (w61.wd rfl)) (by omega) (oL.1) (wL.1) sL dD nN qq1 qq2 blx (fun z => by have z1 := nN.2 z.1; have z2 := oL.1; have z3 := wL.1; omega) (by omega)
            · refine zx_T.l (i := .iload 7) (k := 2) (v := .int (zI (v53))) (pc := 231) rfl rfl rfl ?_
              refine zx_T.l (i := .iload 8) (k := 2) (v := .int (zI (v58))) (pc := 233) rfl rfl rfl ?_
              refine zr_i2 (x := v53) (y := v58) (t := 252) (pc := 235) rfl rfl (by omega) (by omega) (by omega) (by omega) (fun (c86 : ¬ v53 = v58) => ?_) (fun (c86 : ¬ (¬ v53 = v58)) => False.elim (by omega))
              have y87 : zv_i h60 30 = zv_i h 30 := ((zv_wi w61 rfl).trans ((zv_wi w56 rfl).trans (zv_wi hw rfl)))
              refine zx_T.lk (ls' := [(0, .ref 44), (1, .int (zI (f))), (3, .int (zI (own))), (4, .int (zI (zv_a h 57 f))), (5, .int (zI (own + zv_a h 59 f))), (6, .int (zI (v49))), (7, .int (zI (v53))), (8, .int (zI (v58))), (9, .int (zI (v81)))]) rfl ⟨rfl, rfl, rfl, rfl, rfl, rfl, rfl, rfl, rfl, trivial⟩ ?_
              exact ih.2.1 (h2 := h60) (own := own) (d := zv_a h 57 f) (u := own + zv_a h 59 f) (s := v49) (o := v53) (w := v58) (sm := v81) ih60 (by omega) (by omega) (by omega) (by omega) (by omega) (by omega) (by omega) (by omega) (by omega) (by omega) (by omega) (by omega) (by omega) (by omega) (((hw.wd rfl : zb_W [(44, 30), (64, 0), (65, 0), (66, 0), (67, 0), (68, 0)] h _).tr (w56.wd rfl)).tr (w61.wd rfl)) (by omega) (oL.1) (wL.1) sL dD nN qq1 qq2 blx (fun z => by have z1 := nN.2 z.1; have z2 := oL.1; have z3 := wL.1; omega) (by omega)
      · refine zx_T.l (i := .aload_n 0) (k := 1) (v := .ref 44) (pc := 37) rfl rfl rfl ?_
        refine zr_gr (k := 32) (b := 65) (pc := 38) rfl rfl rfl hI2 ?_
        refine zx_T.l (i := .iload 4) (k := 2) (v := .int (zI (k))) (pc := 41) rfl rfl rfl ?_
        refine zx_T.l (i := .iload 4) (k := 2) (v := .int (zI (k))) (pc := 43) rfl rfl rfl ?_
        refine zx_T.l (i := .iload_n 2) (k := 1) (v := .int (zI (m))) (pc := 45) rfl rfl rfl ?_
        refine zr_i2 (x := k) (y := m) (t := 53) (pc := 46) rfl rfl (by omega) (by omega) (by omega) (by omega) (fun (c88 : k < m) => ?_) (fun (c88 : ¬ (k < m)) => ?_)
        · refine zx_T.l (i := .iload_n 1) (k := 1) (v := .int (zI (f))) (pc := 53) rfl rfl rfl ?_
          refine zr_i1 (x := f) (t := 67) (pc := 54) rfl rfl (by omega) (by omega) (fun (c89 : ¬ f = 0) => ?_) (fun (c89 : ¬ (¬ f = 0)) => ?_)
          · refine zx_T.l (i := .aload_n 0) (k := 1) (v := .ref 44) (pc := 67) rfl rfl rfl ?_
            refine zr_gr (k := 23) (b := 60) (pc := 68) rfl rfl rfl hI2 ?_
            refine zx_T.s (i := .bipush 14) (k := 2) (st' := [.int (zI (14)), .ref 60, .int (zI (k)), .ref 65]) (pc := 71) rfl rfl ?_
            refine zx_T.l (i := .iload_n 1) (k := 1) (v := .int (zI (f))) (pc := 73) rfl rfl rfl ?_
            refine zx_T.s (i := .iconst 1) (k := 1) (st' := [.int (zI (1)), .int (zI (f)), .int (zI (14)), .ref 60, .int (zI (k)), .ref 65]) (pc := 74) rfl rfl ?_
            refine zr_sub (x := f) (y := 1) (e := f - 1) (pc := 75) rfl (by omega) ?_
            refine zr_mul (x := 14) (y := f - 1) (e := 14 * f - 14) (pc := 76) rfl (by omega) ?_
            refine zx_T.l (i := .iload 4) (k := 2) (v := .int (zI (k))) (pc := 77) rfl rfl rfl ?_
            refine zr_add (x := 14 * f - 14) (y := k) (e := 14 * f + k - 14) (pc := 79) rfl (by omega) ?_
            refine zr_al (n := 840) (lo := 0) (hi := 8) (e := zv_a h 60 (14 * f + k - 14)) (pc := 80) rfl rfl rfl hI2 (by omega) (by omega) (zv_wa hw rfl (14 * f + k - 14)) (fun g90a g90b => ?_)
            refine zr_as (n := 14) (lo := 0) (hi := 8) (e := zv_a h 60 (14 * f + k - 14)) (pc := 81) rfl rfl rfl rfl hI2 (by omega) (by omega) (by omega) (by omega) (fun h91 ih91 w92 s93 => ?_)
            refine zx_T.l (i := .aload_n 0) (k := 1) (v := .ref 44) (pc := 82) rfl rfl rfl ?_
            refine zr_gr (k := 33) (b := 66) (pc := 83) rfl rfl rfl ih91 ?_
            refine zx_T.l (i := .iload 4) (k := 2) (v := .int (zI (k))) (pc := 86) rfl rfl rfl ?_
            refine zx_T.l (i := .iload 4) (k := 2) (v := .int (zI (k))) (pc := 88) rfl rfl rfl ?_
            refine zx_T.l (i := .iload_n 3) (k := 1) (v := .int (zI (own))) (pc := 90) rfl rfl rfl ?_
            refine zx_T.l (i := .aload_n 0) (k := 1) (v := .ref 44) (pc := 91) rfl rfl rfl ?_
            refine zr_gr (k := 22) (b := 59) (pc := 92) rfl rfl rfl ih91 ?_
            refine zx_T.l (i := .iload_n 1) (k := 1) (v := .int (zI (f))) (pc := 95) rfl rfl rfl ?_
            refine zr_al (n := 60) (lo := 0) (hi := 6) (e := zv_a h 59 f) (pc := 96) rfl rfl rfl ih91 (by omega) (by omega) ((zv_wa w92 rfl f).trans (zv_wa hw rfl f)) (fun g94a g94b => ?_)
            refine zr_add (x := own) (y := zv_a h 59 f) (e := own + zv_a h 59 f) (pc := 97) rfl (by omega) ?_
            refine zr_i2 (x := k) (y := own + zv_a h 59 f) (t := 116) (pc := 98) rfl rfl (by omega) (by omega) (by omega) (by omega) (fun (c95 : (own + zv_a h 59 f) ≤ k) => ?_) (fun (c95 : ¬ ((own + zv_a h 59 f) ≤ k)) => ?_)
            · refine zx_T.s (i := .iconst 0) (k := 1) (st' := [.int (zI (0)), .int (zI (k)), .ref 66]) (pc := 116) rfl rfl ?_
              refine zr_as (n := 14) (lo := 0) (hi := 8) (e := 0) (pc := 117) rfl rfl rfl rfl ih91 (by omega) (by omega) (by omega) (by omega) (fun h96 ih96 w97 s98 => ?_)
              refine zr_inc (x := k) (n := 1) (y := k + 1) (ls' := [(4, .int (zI (k + 1))), (0, .ref 44), (1, .int (zI (f))), (2, .int (zI (m))), (3, .int (zI (own)))]) (pc := 118) rfl rfl rfl (by omega) rfl ?_
              refine zx_T.j (i := .goto (-91)) (k := 3) (pc' := 30) (st' := []) (pc := 121) rfl rfl rfl rfl rfl ?_
              have a65 : ∀ j, 0 ≤ j → zv_a h96 65 j = if j = k then zv_a h 60 (14 * f + k - 14) else zv_a h2 65 j := fun j hj => by rw [zv_wa w97 rfl j, s93 j hj]
              have a66 : ∀ j, 0 ≤ j → zv_a h96 66 j = if j = k then 0 else zv_a h2 66 j := fun j hj => by rw [s98 j hj, zv_wa w92 rfl j]
              refine zx_T.lk (ls' := [(0, .ref 44), (1, .int (zI (f))), (2, .int (zI (m))), (3, .int (zI (own))), (4, .int (zI (k + 1)))]) rfl ⟨rfl, rfl, rfl, rfl, rfl, trivial⟩ ?_
              exact ih.1 (h2 := h96) (m := m) (own := own) (k := k + 1) ih96 (by omega) (by omega) (by omega) (by omega) (by omega) (by omega) (by omega) (by omega) (((hw.wd rfl : zb_W [(65, 0), (66, 0), (67, 0), (68, 0)] h _).tr (w92.wd rfl)).tr (w97.wd rfl)) (fun j j0 j1 j2 => by rw [a65 j j0]; by_cases z : j = k; (rw [if_pos z, z]; exact ⟨fun y => by first | rfl | (exfalso; omega), fun y => by first | (exfalso; omega) | (congr 1; omega)⟩); (rw [if_neg z]; exact ah j j0 (by omega) j2)) (fun j j0 j1 j2 => by rw [a66 j j0]; exact if z : j = k then (by first | (rw [if_pos z, z]; done) | (rw [if_pos z, z]; congr 1; omega) | (exfalso; omega)) else (by rw [if_neg z]; exact mi j j0 (by omega) j2)) (by omega)
            · refine zx_T.l (i := .aload_n 0) (k := 1) (v := .ref 44) (pc := 101) rfl rfl rfl ?_
              refine zr_gr (k := 23) (b := 60) (pc := 102) rfl rfl rfl ih91 ?_
              refine zx_T.s (i := .bipush 14) (k := 2) (st' := [.int (zI (14)), .ref 60, .int (zI (k)), .ref 66]) (pc := 105) rfl rfl ?_
              refine zx_T.l (i := .iload_n 1) (k := 1) (v := .int (zI (f))) (pc := 107) rfl rfl rfl ?_
              refine zr_mul (x := 14) (y := f) (e := 14 * f) (pc := 108) rfl (by omega) ?_
              refine zx_T.l (i := .iload 4) (k := 2) (v := .int (zI (k))) (pc := 109) rfl rfl rfl ?_
              refine zr_add (x := 14 * f) (y := k) (e := 14 * f + k) (pc := 111) rfl (by omega) ?_
              refine zr_al (n := 840) (lo := 0) (hi := 8) (e := zv_a h 60 (14 * f + k)) (pc := 112) rfl rfl rfl ih91 (by omega) (by omega) ((zv_wa w92 rfl (14 * f + k)).trans (zv_wa hw rfl (14 * f + k))) (fun g101a g101b => ?_)
              refine zx_T.j (i := .goto 4) (k := 3) (pc' := 117) (st' := [.int (zI (zv_a h 60 (14 * f + k))), .int (zI (k)), .ref 66]) (pc := 113) rfl rfl rfl rfl rfl ?_
              refine zr_as (n := 14) (lo := 0) (hi := 8) (e := zv_a h 60 (14 * f + k)) (pc := 117) rfl rfl rfl rfl ih91 (by omega) (by omega) (by omega) (by omega) (fun h102 ih102 w103 s104 => ?_)
              refine zr_inc (x := k) (n := 1) (y := k + 1) (ls' := [(4, .int (zI (k + 1))), (0, .ref 44), (1, .int (zI (f))), (2, .int (zI (m))), (3, .int (zI (own)))]) (pc := 118) rfl rfl rfl (by omega) rfl ?_
              refine zx_T.j (i := .goto (-91)) (k := 3) (pc' := 30) (st' := []) (pc := 121) rfl rfl rfl rfl rfl ?_
              have a65 : ∀ j, 0 ≤ j → zv_a h102 65 j = if j = k then zv_a h 60 (14 * f + k - 14) else zv_a h2 65 j := fun j hj => by rw [zv_wa w103 rfl j, s93 j hj]
              have a66 : ∀ j, 0 ≤ j → zv_a h102 66 j = if j = k then zv_a h 60 (14 * f + k) else zv_a h2 66 j := fun j hj => by rw [s104 j hj, zv_wa w92 rfl j]
              refine zx_T.lk (ls' := [(0, .ref 44), (1, .int (zI (f))), (2, .int (zI (m))), (3, .int (zI (own))), (4, .int (zI (k + 1)))]) rfl ⟨rfl, rfl, rfl, rfl, rfl, trivial⟩ ?_
              exact ih.1 (h2 := h102) (m := m) (own := own) (k := k + 1) ih102 (by omega) (by omega) (by omega) (by omega) (by omega) (by omega) (by omega) (by omega) (((hw.wd rfl : zb_W [(65, 0), (66, 0), (67, 0), (68, 0)] h _).tr (w92.wd rfl)).tr (w103.wd rfl)) (fun j j0 j1 j2 => by rw [a65 j j0]; by_cases z : j = k; (rw [if_pos z, z]; exact ⟨fun y => by first | rfl | (exfalso; omega), fun y => by first | (exfalso; omega) | (congr 1; omega)⟩); (rw [if_neg z]; exact ah j j0 (by omega) j2)) (fun j j0 j1 j2 => by rw [a66 j j0]; exact if z : j = k then (by first | (rw [if_pos z, z]; done) | (rw [if_pos z, z]; congr 1; omega) | (exfalso; omega)) else (by rw [if_neg z]; exact mi j j0 (by omega) j2)) (by omega)
          · refine zx_T.l (i := .aload_n 0) (k := 1) (v := .ref 44) (pc := 57) rfl rfl rfl ?_
            refine zr_gr (k := 11) (b := 52) (pc := 58) rfl rfl rfl hI2 ?_
            refine zx_T.l (i := .iload 4) (k := 2) (v := .int (zI (k))) (pc := 61) rfl rfl rfl ?_
            refine zr_al (n := 8) (lo := 0) (hi := 8) (e := zv_a h 52 k) (pc := 63) rfl rfl rfl hI2 (by omega) (by omega) (zv_wa hw rfl k) (fun g107a g107b => ?_)
            refine zx_T.j (i := .goto 17) (k := 3) (pc' := 81) (st' := [.int (zI (zv_a h 52 k)), .int (zI (k)), .ref 65]) (pc := 64) rfl rfl rfl rfl rfl ?_
            refine zr_as (n := 14) (lo := 0) (hi := 8) (e := zv_a h 52 k) (pc := 81) rfl rfl rfl rfl hI2 (by omega) (by omega) (by omega) (by omega) (fun h108 ih108 w109 s110 => ?_)
            refine zx_T.l (i := .aload_n 0) (k := 1) (v := .ref 44) (pc := 82) rfl rfl rfl ?_
            refine zr_gr (k := 33) (b := 66) (pc := 83) rfl rfl rfl ih108 ?_
            refine zx_T.l (i := .iload 4) (k := 2) (v := .int (zI (k))) (pc := 86) rfl rfl rfl ?_
            refine zx_T.l (i := .iload 4) (k := 2) (v := .int (zI (k))) (pc := 88) rfl rfl rfl ?_
            refine zx_T.l (i := .iload_n 3) (k := 1) (v := .int (zI (own))) (pc := 90) rfl rfl rfl ?_
            refine zx_T.l (i := .aload_n 0) (k := 1) (v := .ref 44) (pc := 91) rfl rfl rfl ?_
            refine zr_gr (k := 22) (b := 59) (pc := 92) rfl rfl rfl ih108 ?_
            refine zx_T.l (i := .iload_n 1) (k := 1) (v := .int (zI (f))) (pc := 95) rfl rfl rfl ?_
            refine zr_al (n := 60) (lo := 0) (hi := 6) (e := zv_a h 59 f) (pc := 96) rfl rfl rfl ih108 (by omega) (by omega) ((zv_wa w109 rfl f).trans (zv_wa hw rfl f)) (fun g111a g111b => ?_)
            refine zr_add (x := own) (y := zv_a h 59 f) (e := own + zv_a h 59 f) (pc := 97) rfl (by omega) ?_
            refine zr_i2 (x := k) (y := own + zv_a h 59 f) (t := 116) (pc := 98) rfl rfl (by omega) (by omega) (by omega) (by omega) (fun (c112 : (own + zv_a h 59 f) ≤ k) => ?_) (fun (c112 : ¬ ((own + zv_a h 59 f) ≤ k)) => ?_)
            · refine zx_T.s (i := .iconst 0) (k := 1) (st' := [.int (zI (0)), .int (zI (k)), .ref 66]) (pc := 116) rfl rfl ?_
              refine zr_as (n := 14) (lo := 0) (hi := 8) (e := 0) (pc := 117) rfl rfl rfl rfl ih108 (by omega) (by omega) (by omega) (by omega) (fun h113 ih113 w114 s115 => ?_)
              refine zr_inc (x := k) (n := 1) (y := k + 1) (ls' := [(4, .int (zI (k + 1))), (0, .ref 44), (1, .int (zI (f))), (2, .int (zI (m))), (3, .int (zI (own)))]) (pc := 118) rfl rfl rfl (by omega) rfl ?_
              refine zx_T.j (i := .goto (-91)) (k := 3) (pc' := 30) (st' := []) (pc := 121) rfl rfl rfl rfl rfl ?_
              have a65 : ∀ j, 0 ≤ j → zv_a h113 65 j = if j = k then zv_a h 52 k else zv_a h2 65 j := fun j hj => by rw [zv_wa w114 rfl j, s110 j hj]
              have a66 : ∀ j, 0 ≤ j → zv_a h113 66 j = if j = k then 0 else zv_a h2 66 j := fun j hj => by rw [s115 j hj, zv_wa w109 rfl j]
              refine zx_T.lk (ls' := [(0, .ref 44), (1, .int (zI (f))), (2, .int (zI (m))), (3, .int (zI (own))), (4, .int (zI (k + 1)))]) rfl ⟨rfl, rfl, rfl, rfl, rfl, trivial⟩ ?_
              exact ih.1 (h2 := h113) (m := m) (own := own) (k := k + 1) ih113 (by omega) (by omega) (by omega) (by omega) (by omega) (by omega) (by omega) (by omega) (((hw.wd rfl : zb_W [(65, 0), (66, 0), (67, 0), (68, 0)] h _).tr (w109.wd rfl)).tr (w114.wd rfl)) (fun j j0 j1 j2 => by rw [a65 j j0]; by_cases z : j = k; (rw [if_pos z, z]; exact ⟨fun y => by first | rfl | (exfalso; omega), fun y => by first | (exfalso; omega) | (congr 1; omega)⟩); (rw [if_neg z]; exact ah j j0 (by omega) j2)) (fun j j0 j1 j2 => by rw [a66 j j0]; exact if z : j = k then (by first | (rw [if_pos z, z]; done) | (rw [if_pos z, z]; congr 1; omega) | (exfalso; omega)) else (by rw [if_neg z]; exact mi j j0 (by omega) j2)) (by omega)
            · refine zx_T.l (i := .aload_n 0) (k := 1) (v := .ref 44) (pc := 101) rfl rfl rfl ?_
              refine zr_gr (k := 23) (b := 60) (pc := 102) rfl rfl rfl ih108 ?_
              refine zx_T.s (i := .bipush 14) (k := 2) (st' := [.int (zI (14)), .ref 60, .int (zI (k)), .ref 66]) (pc := 105) rfl rfl ?_
              refine zx_T.l (i := .iload_n 1) (k := 1) (v := .int (zI (f))) (pc := 107) rfl rfl rfl ?_
              refine zr_mul (x := 14) (y := f) (e := 14 * f) (pc := 108) rfl (by omega) ?_
              refine zx_T.l (i := .iload 4) (k := 2) (v := .int (zI (k))) (pc := 109) rfl rfl rfl ?_
              refine zr_add (x := 14 * f) (y := k) (e := 14 * f + k) (pc := 111) rfl (by omega) ?_
              refine zr_al (n := 840) (lo := 0) (hi := 8) (e := zv_a h 60 (14 * f + k)) (pc := 112) rfl rfl rfl ih108 (by omega) (by omega) ((zv_wa w109 rfl (14 * f + k)).trans (zv_wa hw rfl (14 * f + k))) (fun g118a g118b => ?_)
              refine zx_T.j (i := .goto 4) (k := 3) (pc' := 117) (st' := [.int (zI (zv_a h 60 (14 * f + k))), .int (zI (k)), .ref 66]) (pc := 113) rfl rfl rfl rfl rfl ?_
              refine zr_as (n := 14) (lo := 0) (hi := 8) (e := zv_a h 60 (14 * f + k)) (pc := 117) rfl rfl rfl rfl ih108 (by omega) (by omega) (by omega) (by omega) (fun h119 ih119 w120 s121 => ?_)
              refine zr_inc (x := k) (n := 1) (y := k + 1) (ls' := [(4, .int (zI (k + 1))), (0, .ref 44), (1, .int (zI (f))), (2, .int (zI (m))), (3, .int (zI (own)))]) (pc := 118) rfl rfl rfl (by omega) rfl ?_
              refine zx_T.j (i := .goto (-91)) (k := 3) (pc' := 30) (st' := []) (pc := 121) rfl rfl rfl rfl rfl ?_
              have a65 : ∀ j, 0 ≤ j → zv_a h119 65 j = if j = k then zv_a h 52 k else zv_a h2 65 j := fun j hj => by rw [zv_wa w120 rfl j, s110 j hj]
              have a66 : ∀ j, 0 ≤ j → zv_a h119 66 j = if j = k then zv_a h 60 (14 * f + k) else zv_a h2 66 j := fun j hj => by rw [s121 j hj, zv_wa w109 rfl j]
              refine zx_T.lk (ls' := [(0, .ref 44), (1, .int (zI (f))), (2, .int (zI (m))), (3, .int (zI (own))), (4, .int (zI (k + 1)))]) rfl ⟨rfl, rfl, rfl, rfl, rfl, trivial⟩ ?_
              exact ih.1 (h2 := h119) (m := m) (own := own) (k := k + 1) ih119 (by omega) (by omega) (by omega) (by omega) (by omega) (by omega) (by omega) (by omega) (((hw.wd rfl : zb_W [(65, 0), (66, 0), (67, 0), (68, 0)] h _).tr (w109.wd rfl)).tr (w120.wd rfl)) (fun j j0 j1 j2 => by rw [a65 j j0]; by_cases z : j = k; (rw [if_pos z, z]; exact ⟨fun y => by first | rfl | (exfalso; omega), fun y => by first | (exfalso; omega) | (congr 1; omega)⟩); (rw [if_neg z]; exact ah j j0 (by omega) j2)) (fun j j0 j1 j2 => by rw [a66 j j0]; exact if z : j = k then (by first | (rw [if_pos z, z]; done) | (rw [if_pos z, z]; congr 1; omega) | (exfalso; omega)) else (by rw [if_neg z]; exact mi j j0 (by omega) j2)) (by omega)
        · refine zx_T.s (i := .iconst 0) (k := 1) (st' := [.int (zI (0)), .int (zI (k)), .ref 65]) (pc := 49) rfl rfl ?_
          refine zx_T.j (i := .goto 31) (k := 3) (pc' := 81) (st' := [.int (zI (0)), .int (zI (k)), .ref 65]) (pc := 50) rfl rfl rfl rfl rfl ?_
          refine zr_as (n := 14) (lo := 0) (hi := 8) (e := 0) (pc := 81) rfl rfl rfl rfl hI2 (by omega) (by omega) (by omega) (by omega) (fun h124 ih124 w125 s126 => ?_)
          refine zx_T.l (i := .aload_n 0) (k := 1) (v := .ref 44) (pc := 82) rfl rfl rfl ?_
          refine zr_gr (k := 33) (b := 66) (pc := 83) rfl rfl rfl ih124 ?_
          refine zx_T.l (i := .iload 4) (k := 2) (v := .int (zI (k))) (pc := 86) rfl rfl rfl ?_
          refine zx_T.l (i := .iload 4) (k := 2) (v := .int (zI (k))) (pc := 88) rfl rfl rfl ?_
          refine zx_T.l (i := .iload_n 3) (k := 1) (v := .int (zI (own))) (pc := 90) rfl rfl rfl ?_
          refine zx_T.l (i := .aload_n 0) (k := 1) (v := .ref 44) (pc := 91) rfl rfl rfl ?_
          refine zr_gr (k := 22) (b := 59) (pc := 92) rfl rfl rfl ih124 ?_
          refine zx_T.l (i := .iload_n 1) (k := 1) (v := .int (zI (f))) (pc := 95) rfl rfl rfl ?_
          refine zr_al (n := 60) (lo := 0) (hi := 6) (e := zv_a h 59 f) (pc := 96) rfl rfl rfl ih124 (by omega) (by omega) ((zv_wa w125 rfl f).trans (zv_wa hw rfl f)) (fun g127a g127b => ?_)
          refine zr_add (x := own) (y := zv_a h 59 f) (e := own + zv_a h 59 f) (pc := 97) rfl (by omega) ?_
          refine zr_i2 (x := k) (y := own + zv_a h 59 f) (t := 116) (pc := 98) rfl rfl (by omega) (by omega) (by omega) (by omega) (fun (c128 : (own + zv_a h 59 f) ≤ k) => ?_) (fun (c128 : ¬ ((own + zv_a h 59 f) ≤ k)) => ?_)
          · refine zx_T.s (i := .iconst 0) (k := 1) (st' := [.int (zI (0)), .int (zI (k)), .ref 66]) (pc := 116) rfl rfl ?_
            refine zr_as (n := 14) (lo := 0) (hi := 8) (e := 0) (pc := 117) rfl rfl rfl rfl ih124 (by omega) (by omega) (by omega) (by omega) (fun h129 ih129 w130 s131 => ?_)
            refine zr_inc (x := k) (n := 1) (y := k + 1) (ls' := [(4, .int (zI (k + 1))), (0, .ref 44), (1, .int (zI (f))), (2, .int (zI (m))), (3, .int (zI (own)))]) (pc := 118) rfl rfl rfl (by omega) rfl ?_
            refine zx_T.j (i := .goto (-91)) (k := 3) (pc' := 30) (st' := []) (pc := 121) rfl rfl rfl rfl rfl ?_
            have a65 : ∀ j, 0 ≤ j → zv_a h129 65 j = if j = k then 0 else zv_a h2 65 j := fun j hj => by rw [zv_wa w130 rfl j, s126 j hj]
            have a66 : ∀ j, 0 ≤ j → zv_a h129 66 j = if j = k then 0 else zv_a h2 66 j := fun j hj => by rw [s131 j hj, zv_wa w125 rfl j]
            refine zx_T.lk (ls' := [(0, .ref 44), (1, .int (zI (f))), (2, .int (zI (m))), (3, .int (zI (own))), (4, .int (zI (k + 1)))]) rfl ⟨rfl, rfl, rfl, rfl, rfl, trivial⟩ ?_
            exact ih.1 (h2 := h129) (m := m) (own := own) (k := k + 1) ih129 (by omega) (by omega) (by omega) (by omega) (by omega) (by omega) (by omega) (by omega) (((hw.wd rfl : zb_W [(65, 0), (66, 0), (67, 0), (68, 0)] h _).tr (w125.wd rfl)).tr (w130.wd rfl)) (fun j j0 j1 j2 => by rw [a65 j j0]; by_cases z : j = k; (rw [if_pos z, z]; exact ⟨fun y => by first | rfl | (exfalso; omega), fun y => by first | (exfalso; omega) | (congr 1; omega)⟩); (rw [if_neg z]; exact ah j j0 (by omega) j2)) (fun j j0 j1 j2 => by rw [a66 j j0]; exact if z : j = k then (by first | (rw [if_pos z, z]; done) | (rw [if_pos z, z]; congr 1; omega) | (exfalso; omega)) else (by rw [if_neg z]; exact mi j j0 (by omega) j2)) (by omega)
          · refine zx_T.l (i := .aload_n 0) (k := 1) (v := .ref 44) (pc := 101) rfl rfl rfl ?_
            refine zr_gr (k := 23) (b := 60) (pc := 102) rfl rfl rfl ih124 ?_
            refine zx_T.s (i := .bipush 14) (k := 2) (st' := [.int (zI (14)), .ref 60, .int (zI (k)), .ref 66]) (pc := 105) rfl rfl ?_
            refine zx_T.l (i := .iload_n 1) (k := 1) (v := .int (zI (f))) (pc := 107) rfl rfl rfl ?_
            refine zr_mul (x := 14) (y := f) (e := 14 * f) (pc := 108) rfl (by omega) ?_
            refine zx_T.l (i := .iload 4) (k := 2) (v := .int (zI (k))) (pc := 109) rfl rfl rfl ?_
            refine zr_add (x := 14 * f) (y := k) (e := 14 * f + k) (pc := 111) rfl (by omega) ?_
            refine zr_al (n := 840) (lo := 0) (hi := 8) (e := zv_a h 60 (14 * f + k)) (pc := 112) rfl rfl rfl ih124 (by omega) (by omega) ((zv_wa w125 rfl (14 * f + k)).trans (zv_wa hw rfl (14 * f + k))) (fun g134a g134b => ?_)
            refine zx_T.j (i := .goto 4) (k := 3) (pc' := 117) (st' := [.int (zI (zv_a h 60 (14 * f + k))), .int (zI (k)), .ref 66]) (pc := 113) rfl rfl rfl rfl rfl ?_
            refine zr_as (n := 14) (lo := 0) (hi := 8) (e := zv_a h 60 (14 * f + k)) (pc := 117) rfl rfl rfl rfl ih124 (by omega) (by omega) (by omega) (by omega) (fun h135 ih135 w136 s137 => ?_)
            refine zr_inc (x := k) (n := 1) (y := k + 1) (ls' := [(4, .int (zI (k + 1))), (0, .ref 44), (1, .int (zI (f))), (2, .int (zI (m))), (3, .int (zI (own)))]) (pc := 118) rfl rfl rfl (by omega) rfl ?_
            refine zx_T.j (i := .goto (-91)) (k := 3) (pc' := 30) (st' := []) (pc := 121) rfl rfl rfl rfl rfl ?_
            have a65 : ∀ j, 0 ≤ j → zv_a h135 65 j = if j = k then 0 else zv_a h2 65 j := fun j hj => by rw [zv_wa w136 rfl j, s126 j hj]
            have a66 : ∀ j, 0 ≤ j → zv_a h135 66 j = if j = k then zv_a h 60 (14 * f + k) else zv_a h2 66 j := fun j hj => by rw [s137 j hj, zv_wa w125 rfl j]
            refine zx_T.lk (ls' := [(0, .ref 44), (1, .int (zI (f))), (2, .int (zI (m))), (3, .int (zI (own))), (4, .int (zI (k + 1)))]) rfl ⟨rfl, rfl, rfl, rfl, rfl, trivial⟩ ?_
            exact ih.1 (h2 := h135) (m := m) (own := own) (k := k + 1) ih135 (by omega) (by omega) (by omega) (by omega) (by omega) (by omega) (by omega) (by omega) (((hw.wd rfl : zb_W [(65, 0), (66, 0), (67, 0), (68, 0)] h _).tr (w125.wd rfl)).tr (w136.wd rfl)) (fun j j0 j1 j2 => by rw [a65 j j0]; by_cases z : j = k; (rw [if_pos z, z]; exact ⟨fun y => by first | rfl | (exfalso; omega), fun y => by first | (exfalso; omega) | (congr 1; omega)⟩); (rw [if_neg z]; exact ah j j0 (by omega) j2)) (fun j j0 j1 j2 => by rw [a66 j j0]; exact if z : j = k then (by first | (rw [if_pos z, z]; done) | (rw [if_pos z, z]; congr 1; omega) | (exfalso; omega)) else (by rw [if_neg z]; exact mi j j0 (by omega) j2)) (by omega)
    · intro h2 own d u s o w sm hI2 w1 w2 d1 d2 u1 u2 s1 s2 o1 o2 t1 t2 b1 b2 hw pe oE wE sE dE nE q1 q2 bl2 n1 hm
      have hP := zv_ri hI (k := 30) rfl
      have hQ := zv_ri hI (k := 10) rfl
      have ofn := oF.2.1
      have hPk := zv_ri hI2 (k := 30) rfl
      refine zx_T.l (i := .iload 9) (k := 2) (v := .int (zI (sm))) (pc := 252) rfl rfl rfl ?_
      refine zr_i1 (x := sm) (t := 293) (pc := 254) rfl rfl (by omega) (by omega) (fun (c140 : sm = 0) => ?_) (fun (c140 : ¬ (sm = 0)) => ?_)
      · refine zx_T.lk (ls' := [(0, .ref 44), (1, .int (zI (f))), (3, .int (zI (own))), (4, .int (zI (d))), (5, .int (zI (u))), (6, .int (zI (s))), (7, .int (zI (o))), (8, .int (zI (w))), (9, .int (zI (sm)))]) rfl ⟨rfl, rfl, rfl, rfl, rfl, rfl, rfl, rfl, rfl, trivial⟩ ?_
        exact ih.2.2.1 (h2 := h2) (own := own) (d := d) (u := u) (s := s) (o := o) (w := w) (sm := sm) hI2 (by omega) (by omega) (by omega) (by omega) (by omega) (by omega) (by omega) (by omega) (by omega) (by omega) (by omega) (by omega) (by omega) (by omega) (hw.wd rfl : zb_W [(44, 30), (64, 0), (65, 0), (66, 0), (67, 0), (68, 0)] h _) (by omega) oE wE sE dE nE q1 q2 bl2 n1 (fun z => by have z1 := nE.2 z.1; omega) (by omega)
      · refine zx_T.l (i := .iload 7) (k := 2) (v := .int (zI (o))) (pc := 257) rfl rfl rfl ?_
        refine zx_T.l (i := .iload 8) (k := 2) (v := .int (zI (w))) (pc := 259) rfl rfl rfl ?_
        refine zr_i2 (x := o) (y := w) (t := 293) (pc := 261) rfl rfl (by omega) (by omega) (by omega) (by omega) (fun (c142 : ¬ o = w) => ?_) (fun (c142 : ¬ (¬ o = w)) => ?_)
        · refine zx_T.lk (ls' := [(0, .ref 44), (1, .int (zI (f))), (3, .int (zI (own))), (4, .int (zI (d))), (5, .int (zI (u))), (6, .int (zI (s))), (7, .int (zI (o))), (8, .int (zI (w))), (9, .int (zI (sm)))]) rfl ⟨rfl, rfl, rfl, rfl, rfl, rfl, rfl, rfl, rfl, trivial⟩ ?_
          exact ih.2.2.1 (h2 := h2) (own := own) (d := d) (u := u) (s := s) (o := o) (w := w) (sm := sm) hI2 (by omega) (by omega) (by omega) (by omega) (by omega) (by omega) (by omega) (by omega) (by omega) (by omega) (by omega) (by omega) (by omega) (by omega) (hw.wd rfl : zb_W [(44, 30), (64, 0), (65, 0), (66, 0), (67, 0), (68, 0)] h _) (by omega) oE wE sE dE nE q1 q2 bl2 n1 (fun z => by have z1 := nE.2 z.1; omega) (by omega)
        · refine zx_T.l (i := .iload 6) (k := 2) (v := .int (zI (s))) (pc := 264) rfl rfl rfl ?_
          refine zx_T.s (i := .iconst 1) (k := 1) (st' := [.int (zI (1)), .int (zI (s))]) (pc := 266) rfl rfl ?_
          refine zr_i2 (x := s) (y := 1) (t := 293) (pc := 267) rfl rfl (by omega) (by omega) (by omega) (by omega) (fun (c144 : ¬ s = 1) => ?_) (fun (c144 : ¬ (¬ s = 1)) => ?_)
          · refine zx_T.lk (ls' := [(0, .ref 44), (1, .int (zI (f))), (3, .int (zI (own))), (4, .int (zI (d))), (5, .int (zI (u))), (6, .int (zI (s))), (7, .int (zI (o))), (8, .int (zI (w))), (9, .int (zI (sm)))]) rfl ⟨rfl, rfl, rfl, rfl, rfl, rfl, rfl, rfl, rfl, trivial⟩ ?_
            exact ih.2.2.1 (h2 := h2) (own := own) (d := d) (u := u) (s := s) (o := o) (w := w) (sm := sm) hI2 (by omega) (by omega) (by omega) (by omega) (by omega) (by omega) (by omega) (by omega) (by omega) (by omega) (by omega) (by omega) (by omega) (by omega) (hw.wd rfl : zb_W [(44, 30), (64, 0), (65, 0), (66, 0), (67, 0), (68, 0)] h _) (by omega) oE wE sE dE nE q1 q2 bl2 n1 (fun z => by have z1 := nE.2 z.1; omega) (by omega)
          · refine zx_T.l (i := .aload_n 0) (k := 1) (v := .ref 44) (pc := 270) rfl rfl rfl ?_
            refine zx_T.s (i := .bipush 64) (k := 2) (st' := [.int (zI (64)), .ref 44]) (pc := 271) rfl rfl ?_
            refine zx_T.l (i := .iload 4) (k := 2) (v := .int (zI (d))) (pc := 273) rfl rfl rfl ?_
            refine zr_add (x := 64) (y := d) (e := d + 64) (pc := 275) rfl (by omega) ?_
            refine zr_iv (cj := 187) (q' := zp_m187) (As := [.int (zI (d + 64))]) (rest := []) (pc := 276) rfl rfl rfl rfl rfl rfl (Nat.le_of_ble_eq_true rfl) rfl (Nat.le_of_ble_eq_true rfl) hI2 ((zm_putF (h := h2) hI2 (b := d + 64) (by omega) (by omega) (by omega) L bl2).up (Nat.le_of_ble_eq_true rfl)) ?_
            rintro r147 h150 ⟨ih150, w151, r147q, x149⟩
            subst r147q
            try dsimp only at x149
            have pB1 := x149.1
            have pN1 := x149.2
            show zx_T zp_P 2 zp_m193 279 [(0, .ref 44), (1, .int (zI (f))), (3, .int (zI (own))), (4, .int (zI (d))), (5, .int (zI (u))), (6, .int (zI (s))), (7, .int (zI (o))), (8, .int (zI (w))), (9, .int (zI (sm)))] [] h150 _
            refine zx_T.l (i := .aload_n 0) (k := 1) (v := .ref 44) (pc := 279) rfl rfl rfl ?_
            refine zx_T.l (i := .aload_n 0) (k := 1) (v := .ref 44) (pc := 280) rfl rfl rfl ?_
            refine zr_gr (k := 33) (b := 66) (pc := 281) rfl rfl rfl ih150 ?_
            refine zx_T.l (i := .iload_n 3) (k := 1) (v := .int (zI (own))) (pc := 284) rfl rfl rfl ?_
            refine zx_T.l (i := .iload 5) (k := 2) (v := .int (zI (u))) (pc := 285) rfl rfl rfl ?_
            refine zr_iv (cj := 190) (q' := zp_m190) (As := [.ref 66, .int (zI (own)), .int (zI (u))]) (rest := []) (pc := 287) rfl rfl rfl rfl rfl rfl (Nat.le_of_ble_eq_true rfl) rfl (Nat.le_of_ble_eq_true rfl) ih150 ((zm_putEntriesF (h := h150) ih150 (f := own) (u := u) (by omega) (by omega) (by omega) (by omega) (by omega) _ pB1).up (Nat.le_of_ble_eq_true rfl)) ?_
            rintro r153 h156 ⟨ih156, w157, r153q, x155⟩
            subst r153q
            try dsimp only at x155
            have eB1 := x155.1
            have eN1 := x155.2
            have e66a : zv_a h150 66 = zv_a h2 66 := funext (fun q => zv_wa (w151.wd rfl : zb_W [(44, 30), (64, 0)] h2 _) rfl q)
            show zx_T zp_P 2 zp_m193 290 [(0, .ref 44), (1, .int (zI (f))), (3, .int (zI (own))), (4, .int (zI (d))), (5, .int (zI (u))), (6, .int (zI (s))), (7, .int (zI (o))), (8, .int (zI (w))), (9, .int (zI (sm)))] [] h156 _
            refine zx_T.j (i := .goto 209) (k := 3) (pc' := 499) (st' := []) (pc := 290) rfl rfl rfl rfl rfl ?_
            exact zr_vr (pc := 499) rfl rfl ⟨ih156, (((hw.wd rfl : zb_W [(44, 30), (64, 0), (65, 0), (66, 0), (67, 0), (68, 0)] h _).tr (w151.wd rfl)).tr (w157.wd rfl)), rfl, by dsimp only; unfold zs_fb; rw [zi_f n1, zi_t ⟨nE.1 (by omega), by omega, by omega⟩, ← dE, ← q2]; have q9 := eB1; rw [e66a, List.append_assoc] at q9; rw [show 64 + d = d + 64 by omega]; exact q9⟩
    · intro h2 own d u s o w sm hI2 w1 w2 d1 d2 u1 u2 s1 s2 o1 o2 t1 t2 b1 b2 hw pe oE wE sE dE nE q1 q2 bl2 n1 n2 hm
      have hP := zv_ri hI (k := 30) rfl
      have hQ := zv_ri hI (k := 10) rfl
      have ofn := oF.2.1
      have hPk := zv_ri hI2 (k := 30) rfl
      refine zx_T.l (i := .iload 9) (k := 2) (v := .int (zI (sm))) (pc := 293) rfl rfl rfl ?_
      refine zr_i1 (x := sm) (t := 343) (pc := 295) rfl rfl (by omega) (by omega) (fun (c159 : sm = 0) => ?_) (fun (c159 : ¬ (sm = 0)) => ?_)
      · refine zx_T.lk (ls' := [(0, .ref 44), (1, .int (zI (f))), (3, .int (zI (own))), (4, .int (zI (d))), (5, .int (zI (u))), (6, .int (zI (s))), (7, .int (zI (o))), (8, .int (zI (w))), (9, .int (zI (sm)))]) rfl ⟨rfl, rfl, rfl, rfl, rfl, rfl, rfl, rfl, rfl, trivial⟩ ?_
        exact ih.2.2.2.1 (h2 := h2) (own := own) (d := d) (u := u) (s := s) (o := o) (w := w) (sm := sm) hI2 (by omega) (by omega) (by omega) (by omega) (by omega) (by omega) (by omega) (by omega) (by omega) (by omega) (by omega) (by omega) (by omega) (by omega) (hw.wd rfl : zb_W [(44, 30), (64, 0), (65, 0), (66, 0), (67, 0), (68, 0)] h _) (by omega) oE wE sE dE nE q1 q2 bl2 n1 n2 (fun z => by have z1 := nE.2 z.1; omega) (by omega)
      · refine zx_T.l (i := .iload 6) (k := 2) (v := .int (zI (s))) (pc := 298) rfl rfl rfl ?_
        refine zr_i1 (x := s) (t := 343) (pc := 300) rfl rfl (by omega) (by omega) (fun (c161 : ¬ s = 0) => ?_) (fun (c161 : ¬ (¬ s = 0)) => ?_)
        · refine zx_T.lk (ls' := [(0, .ref 44), (1, .int (zI (f))), (3, .int (zI (own))), (4, .int (zI (d))), (5, .int (zI (u))), (6, .int (zI (s))), (7, .int (zI (o))), (8, .int (zI (w))), (9, .int (zI (sm)))]) rfl ⟨rfl, rfl, rfl, rfl, rfl, rfl, rfl, rfl, rfl, trivial⟩ ?_
          exact ih.2.2.2.1 (h2 := h2) (own := own) (d := d) (u := u) (s := s) (o := o) (w := w) (sm := sm) hI2 (by omega) (by omega) (by omega) (by omega) (by omega) (by omega) (by omega) (by omega) (by omega) (by omega) (by omega) (by omega) (by omega) (by omega) (hw.wd rfl : zb_W [(44, 30), (64, 0), (65, 0), (66, 0), (67, 0), (68, 0)] h _) (by omega) oE wE sE dE nE q1 q2 bl2 n1 n2 (fun z => by have z1 := nE.2 z.1; omega) (by omega)
        · refine zx_T.l (i := .iload 7) (k := 2) (v := .int (zI (o))) (pc := 303) rfl rfl rfl ?_
          refine zx_T.l (i := .iload 8) (k := 2) (v := .int (zI (w))) (pc := 305) rfl rfl rfl ?_
          refine zr_sub (x := o) (y := w) (e := o - w) (pc := 307) rfl (by omega) ?_
          refine zx_T.s (i := .iconst 1) (k := 1) (st' := [.int (zI (1)), .int (zI (o - w))]) (pc := 308) rfl rfl ?_
          refine zx_T.s (i := .iconst 3) (k := 1) (st' := [.int (zI (3)), .int (zI (1)), .int (zI (o - w))]) (pc := 309) rfl rfl ?_
          refine zr_is (cj := 155) (q' := zp_m155) (As := [.int (zI (o - w)), .int (zI (1)), .int (zI (3))]) (rest := []) (pc := 310) rfl rfl rfl rfl rfl rfl (Nat.le_of_ble_eq_true rfl) rfl (Nat.le_of_ble_eq_true rfl) rfl ((zm_in (h := h2) hI2 (v := o - w) (l := 1) (u := 3) (by omega) (by omega) (by omega) (by omega) (by omega) (by omega)).up (Nat.le_of_ble_eq_true rfl)) ?_
          rintro r163 h166 ⟨h166q, v164, r163q, x165⟩
          subst h166q r163q
          try dsimp only at x165
          show zx_T zp_P 2 zp_m193 313 [(0, .ref 44), (1, .int (zI (f))), (3, .int (zI (own))), (4, .int (zI (d))), (5, .int (zI (u))), (6, .int (zI (s))), (7, .int (zI (o))), (8, .int (zI (w))), (9, .int (zI (sm)))] [.int (zI (v164))] h2 _
          refine zr_i1 (x := v164) (t := 343) (pc := 313) rfl rfl (by omega) (by omega) (fun (c167 : v164 = 0) => ?_) (fun (c167 : ¬ (v164 = 0)) => ?_)
          · refine zx_T.lk (ls' := [(0, .ref 44), (1, .int (zI (f))), (3, .int (zI (own))), (4, .int (zI (d))), (5, .int (zI (u))), (6, .int (zI (s))), (7, .int (zI (o))), (8, .int (zI (w))), (9, .int (zI (sm)))]) rfl ⟨rfl, rfl, rfl, rfl, rfl, rfl, rfl, rfl, rfl, trivial⟩ ?_
            exact ih.2.2.2.1 (h2 := h2) (own := own) (d := d) (u := u) (s := s) (o := o) (w := w) (sm := sm) hI2 (by omega) (by omega) (by omega) (by omega) (by omega) (by omega) (by omega) (by omega) (by omega) (by omega) (by omega) (by omega) (by omega) (by omega) (hw.wd rfl : zb_W [(44, 30), (64, 0), (65, 0), (66, 0), (67, 0), (68, 0)] h _) (by omega) oE wE sE dE nE q1 q2 bl2 n1 n2 (fun z => by have z1 := nE.2 z.1; omega) (by omega)
          · refine zx_T.l (i := .aload_n 0) (k := 1) (v := .ref 44) (pc := 316) rfl rfl rfl ?_
            refine zx_T.s (i := .sipush 251) (k := 3) (st' := [.int (zI (251)), .ref 44]) (pc := 317) rfl rfl ?_
            refine zx_T.l (i := .iload 7) (k := 2) (v := .int (zI (o))) (pc := 320) rfl rfl rfl ?_
            refine zx_T.l (i := .iload 8) (k := 2) (v := .int (zI (w))) (pc := 322) rfl rfl rfl ?_
            refine zr_sub (x := o) (y := w) (e := o - w) (pc := 324) rfl (by omega) ?_
            refine zr_sub (x := 251) (y := o - w) (e := w - o + 251) (pc := 325) rfl (by omega) ?_
            refine zr_iv (cj := 187) (q' := zp_m187) (As := [.int (zI (w - o + 251))]) (rest := []) (pc := 326) rfl rfl rfl rfl rfl rfl (Nat.le_of_ble_eq_true rfl) rfl (Nat.le_of_ble_eq_true rfl) hI2 ((zm_putF (h := h2) hI2 (b := w - o + 251) (by omega) (by omega) (by omega) L bl2).up (Nat.le_of_ble_eq_true rfl)) ?_
            rintro r170 h173 ⟨ih173, w174, r170q, x172⟩
            subst r170q
            try dsimp only at x172
            have pB1 := x172.1
            have pN1 := x172.2
            show zx_T zp_P 2 zp_m193 329 [(0, .ref 44), (1, .int (zI (f))), (3, .int (zI (own))), (4, .int (zI (d))), (5, .int (zI (u))), (6, .int (zI (s))), (7, .int (zI (o))), (8, .int (zI (w))), (9, .int (zI (sm)))] [] h173 _
            refine zx_T.l (i := .aload_n 0) (k := 1) (v := .ref 44) (pc := 329) rfl rfl rfl ?_
            refine zx_T.s (i := .iconst 0) (k := 1) (st' := [.int (zI (0)), .ref 44]) (pc := 330) rfl rfl ?_
            refine zr_iv (cj := 187) (q' := zp_m187) (As := [.int (zI (0))]) (rest := []) (pc := 331) rfl rfl rfl rfl rfl rfl (Nat.le_of_ble_eq_true rfl) rfl (Nat.le_of_ble_eq_true rfl) ih173 ((zm_putF (h := h173) ih173 (b := 0) (by omega) (by omega) (by omega) _ pB1).up (Nat.le_of_ble_eq_true rfl)) ?_
            rintro r176 h179 ⟨ih179, w180, r176q, x178⟩
            subst r176q
            try dsimp only at x178
            have pB2 := x178.1
            have pN2 := x178.2
            show zx_T zp_P 2 zp_m193 334 [(0, .ref 44), (1, .int (zI (f))), (3, .int (zI (own))), (4, .int (zI (d))), (5, .int (zI (u))), (6, .int (zI (s))), (7, .int (zI (o))), (8, .int (zI (w))), (9, .int (zI (sm)))] [] h179 _
            refine zx_T.l (i := .aload_n 0) (k := 1) (v := .ref 44) (pc := 334) rfl rfl rfl ?_
            refine zx_T.l (i := .iload 4) (k := 2) (v := .int (zI (d))) (pc := 335) rfl rfl rfl ?_
            refine zr_iv (cj := 187) (q' := zp_m187) (As := [.int (zI (d))]) (rest := []) (pc := 337) rfl rfl rfl rfl rfl rfl (Nat.le_of_ble_eq_true rfl) rfl (Nat.le_of_ble_eq_true rfl) ih179 ((zm_putF (h := h179) ih179 (b := d) (by omega) (by omega) (by omega) _ pB2).up (Nat.le_of_ble_eq_true rfl)) ?_
            rintro r182 h185 ⟨ih185, w186, r182q, x184⟩
            subst r182q
            try dsimp only at x184
            have pB3 := x184.1
            have pN3 := x184.2
            show zx_T zp_P 2 zp_m193 340 [(0, .ref 44), (1, .int (zI (f))), (3, .int (zI (own))), (4, .int (zI (d))), (5, .int (zI (u))), (6, .int (zI (s))), (7, .int (zI (o))), (8, .int (zI (w))), (9, .int (zI (sm)))] [] h185 _
            refine zx_T.j (i := .goto 159) (k := 3) (pc' := 499) (st' := []) (pc := 340) rfl rfl rfl rfl rfl ?_
            exact zr_vr (pc := 499) rfl rfl ⟨ih185, ((((hw.wd rfl : zb_W [(44, 30), (64, 0), (65, 0), (66, 0), (67, 0), (68, 0)] h _).tr (w174.wd rfl)).tr (w180.wd rfl)).tr (w186.wd rfl)), rfl, by dsimp only; unfold zs_fb; rw [zi_f n1, zi_f n2, zi_t ⟨nE.1 (by omega), by omega, by omega⟩, ← dE, List.drop_eq_nil_of_le (by omega)]; have q9 := pB3; rw [List.append_assoc, List.append_assoc] at q9; rw [show 251 + (((F.ow f).length : Int) - (zs_ah (zr_Pg h) F f).length) = w - o + 251 by omega]; exact q9⟩
    · intro h2 own d u s o w sm hI2 w1 w2 d1 d2 u1 u2 s1 s2 o1 o2 t1 t2 b1 b2 hw pe oE wE sE dE nE q1 q2 bl2 n1 n2 n3 hm
      have hP := zv_ri hI (k := 30) rfl
      have hQ := zv_ri hI (k := 10) rfl
      have ofn := oF.2.1
      have hPk := zv_ri hI2 (k := 30) rfl
      refine zx_T.l (i := .iload 9) (k := 2) (v := .int (zI (sm))) (pc := 343) rfl rfl rfl ?_
      refine zr_i1 (x := sm) (t := 438) (pc := 345) rfl rfl (by omega) (by omega) (fun (c188 : sm = 0) => ?_) (fun (c188 : ¬ (sm = 0)) => ?_)
      · refine zx_T.lk (ls' := [(0, .ref 44), (1, .int (zI (f))), (3, .int (zI (own))), (4, .int (zI (d))), (5, .int (zI (u))), (6, .int (zI (s))), (7, .int (zI (o))), (8, .int (zI (w))), (9, .int (zI (sm)))]) rfl ⟨rfl, rfl, rfl, rfl, rfl, rfl, rfl, rfl, rfl, trivial⟩ ?_
        exact ih.2.2.2.2.2 (h2 := h2) (own := own) (d := d) (u := u) (s := s) (o := o) (w := w) (sm := sm) hI2 (by omega) (by omega) (by omega) (by omega) (by omega) (by omega) (by omega) (by omega) (by omega) (by omega) (by omega) (by omega) (by omega) (by omega) (hw.wd rfl : zb_W [(44, 30), (64, 0), (65, 0), (66, 0), (67, 0), (68, 0)] h _) (by omega) oE wE sE dE nE q1 q2 bl2 n1 n2 (fun z => by have z1 := nE.2 z.1; by_cases z9 : ((F.ow f).length : Int) - (zs_ah (zr_Pg h) F f).length = 0; (exact n1 ⟨z.1, by omega, z.2.1⟩); (by_cases z8 : ((F.ow f).length : Int) - (zs_ah (zr_Pg h) F f).length ≤ -1; (exact n3 ⟨z.1, z.2.1, z.2.2.1, z8⟩); omega)) (by omega)
      · refine zx_T.l (i := .iload 6) (k := 2) (v := .int (zI (s))) (pc := 348) rfl rfl rfl ?_
        refine zr_i1 (x := s) (t := 438) (pc := 350) rfl rfl (by omega) (by omega) (fun (c190 : ¬ s = 0) => ?_) (fun (c190 : ¬ (¬ s = 0)) => ?_)
        · refine zx_T.lk (ls' := [(0, .ref 44), (1, .int (zI (f))), (3, .int (zI (own))), (4, .int (zI (d))), (5, .int (zI (u))), (6, .int (zI (s))), (7, .int (zI (o))), (8, .int (zI (w))), (9, .int (zI (sm)))]) rfl ⟨rfl, rfl, rfl, rfl, rfl, rfl, rfl, rfl, rfl, trivial⟩ ?_
          exact ih.2.2.2.2.2 (h2 := h2) (own := own) (d := d) (u := u) (s := s) (o := o) (w := w) (sm := sm) hI2 (by omega) (by omega) (by omega) (by omega) (by omega) (by omega) (by omega) (by omega) (by omega) (by omega) (by omega) (by omega) (by omega) (by omega) (hw.wd rfl : zb_W [(44, 30), (64, 0), (65, 0), (66, 0), (67, 0), (68, 0)] h _) (by omega) oE wE sE dE nE q1 q2 bl2 n1 n2 (fun z => by have z1 := nE.2 z.1; by_cases z9 : ((F.ow f).length : Int) - (zs_ah (zr_Pg h) F f).length = 0; (exact n1 ⟨z.1, by omega, z.2.1⟩); (by_cases z8 : ((F.ow f).length : Int) - (zs_ah (zr_Pg h) F f).length ≤ -1; (exact n3 ⟨z.1, z.2.1, z.2.2.1, z8⟩); omega)) (by omega)
        · refine zx_T.l (i := .iload 8) (k := 2) (v := .int (zI (w))) (pc := 353) rfl rfl rfl ?_
          refine zx_T.l (i := .iload 7) (k := 2) (v := .int (zI (o))) (pc := 355) rfl rfl rfl ?_
          refine zr_sub (x := w) (y := o) (e := w - o) (pc := 357) rfl (by omega) ?_
          refine zx_T.s (i := .iconst 1) (k := 1) (st' := [.int (zI (1)), .int (zI (w - o))]) (pc := 358) rfl rfl ?_
          refine zx_T.s (i := .iconst 3) (k := 1) (st' := [.int (zI (3)), .int (zI (1)), .int (zI (w - o))]) (pc := 359) rfl rfl ?_
          refine zr_is (cj := 155) (q' := zp_m155) (As := [.int (zI (w - o)), .int (zI (1)), .int (zI (3))]) (rest := []) (pc := 360) rfl rfl rfl rfl rfl rfl (Nat.le_of_ble_eq_true rfl) rfl (Nat.le_of_ble_eq_true rfl) rfl ((zm_in (h := h2) hI2 (v := w - o) (l := 1) (u := 3) (by omega) (by omega) (by omega) (by omega) (by omega) (by omega)).up (Nat.le_of_ble_eq_true rfl)) ?_
          rintro r192 h195 ⟨h195q, v193, r192q, x194⟩
          subst h195q r192q
          try dsimp only at x194
          show zx_T zp_P 2 zp_m193 363 [(0, .ref 44), (1, .int (zI (f))), (3, .int (zI (own))), (4, .int (zI (d))), (5, .int (zI (u))), (6, .int (zI (s))), (7, .int (zI (o))), (8, .int (zI (w))), (9, .int (zI (sm)))] [.int (zI (v193))] h2 _
          refine zr_i1 (x := v193) (t := 438) (pc := 363) rfl rfl (by omega) (by omega) (fun (c196 : v193 = 0) => ?_) (fun (c196 : ¬ (v193 = 0)) => ?_)
          · refine zx_T.lk (ls' := [(0, .ref 44), (1, .int (zI (f))), (3, .int (zI (own))), (4, .int (zI (d))), (5, .int (zI (u))), (6, .int (zI (s))), (7, .int (zI (o))), (8, .int (zI (w))), (9, .int (zI (sm)))]) rfl ⟨rfl, rfl, rfl, rfl, rfl, rfl, rfl, rfl, rfl, trivial⟩ ?_
            exact ih.2.2.2.2.2 (h2 := h2) (own := own) (d := d) (u := u) (s := s) (o := o) (w := w) (sm := sm) hI2 (by omega) (by omega) (by omega) (by omega) (by omega) (by omega) (by omega) (by omega) (by omega) (by omega) (by omega) (by omega) (by omega) (by omega) (hw.wd rfl : zb_W [(44, 30), (64, 0), (65, 0), (66, 0), (67, 0), (68, 0)] h _) (by omega) oE wE sE dE nE q1 q2 bl2 n1 n2 (fun z => by have z1 := nE.2 z.1; by_cases z9 : ((F.ow f).length : Int) - (zs_ah (zr_Pg h) F f).length = 0; (exact n1 ⟨z.1, by omega, z.2.1⟩); (by_cases z8 : ((F.ow f).length : Int) - (zs_ah (zr_Pg h) F f).length ≤ -1; (exact n3 ⟨z.1, z.2.1, z.2.2.1, z8⟩); omega)) (by omega)
          · refine zx_T.l (i := .aload_n 0) (k := 1) (v := .ref 44) (pc := 366) rfl rfl rfl ?_
            refine zx_T.s (i := .sipush 251) (k := 3) (st' := [.int (zI (251)), .ref 44]) (pc := 367) rfl rfl ?_
            refine zx_T.l (i := .iload 8) (k := 2) (v := .int (zI (w))) (pc := 370) rfl rfl rfl ?_
            refine zr_add (x := 251) (y := w) (e := w + 251) (pc := 372) rfl (by omega) ?_
            refine zx_T.l (i := .iload 7) (k := 2) (v := .int (zI (o))) (pc := 373) rfl rfl rfl ?_
            refine zr_sub (x := w + 251) (y := o) (e := w - o + 251) (pc := 375) rfl (by omega) ?_
            refine zr_iv (cj := 187) (q' := zp_m187) (As := [.int (zI (w - o + 251))]) (rest := []) (pc := 376) rfl rfl rfl rfl rfl rfl (Nat.le_of_ble_eq_true rfl) rfl (Nat.le_of_ble_eq_true rfl) hI2 ((zm_putF (h := h2) hI2 (b := w - o + 251) (by omega) (by omega) (by omega) L bl2).up (Nat.le_of_ble_eq_true rfl)) ?_
            rintro r199 h202 ⟨ih202, w203, r199q, x201⟩
            subst r199q
            try dsimp only at x201
            have pB1 := x201.1
            have pN1 := x201.2
            show zx_T zp_P 2 zp_m193 379 [(0, .ref 44), (1, .int (zI (f))), (3, .int (zI (own))), (4, .int (zI (d))), (5, .int (zI (u))), (6, .int (zI (s))), (7, .int (zI (o))), (8, .int (zI (w))), (9, .int (zI (sm)))] [] h202 _
            refine zx_T.l (i := .aload_n 0) (k := 1) (v := .ref 44) (pc := 379) rfl rfl rfl ?_
            refine zx_T.s (i := .iconst 0) (k := 1) (st' := [.int (zI (0)), .ref 44]) (pc := 380) rfl rfl ?_
            refine zr_iv (cj := 187) (q' := zp_m187) (As := [.int (zI (0))]) (rest := []) (pc := 381) rfl rfl rfl rfl rfl rfl (Nat.le_of_ble_eq_true rfl) rfl (Nat.le_of_ble_eq_true rfl) ih202 ((zm_putF (h := h202) ih202 (b := 0) (by omega) (by omega) (by omega) _ pB1).up (Nat.le_of_ble_eq_true rfl)) ?_
            rintro r205 h208 ⟨ih208, w209, r205q, x207⟩
            subst r205q
            try dsimp only at x207
            have pB2 := x207.1
            have pN2 := x207.2
            show zx_T zp_P 2 zp_m193 384 [(0, .ref 44), (1, .int (zI (f))), (3, .int (zI (own))), (4, .int (zI (d))), (5, .int (zI (u))), (6, .int (zI (s))), (7, .int (zI (o))), (8, .int (zI (w))), (9, .int (zI (sm)))] [] h208 _
            refine zx_T.l (i := .aload_n 0) (k := 1) (v := .ref 44) (pc := 384) rfl rfl rfl ?_
            refine zx_T.l (i := .iload 4) (k := 2) (v := .int (zI (d))) (pc := 385) rfl rfl rfl ?_
            refine zr_iv (cj := 187) (q' := zp_m187) (As := [.int (zI (d))]) (rest := []) (pc := 387) rfl rfl rfl rfl rfl rfl (Nat.le_of_ble_eq_true rfl) rfl (Nat.le_of_ble_eq_true rfl) ih208 ((zm_putF (h := h208) ih208 (b := d) (by omega) (by omega) (by omega) _ pB2).up (Nat.le_of_ble_eq_true rfl)) ?_
            rintro r211 h214 ⟨ih214, w215, r211q, x213⟩
            subst r211q
            try dsimp only at x213
            have pB3 := x213.1
            have pN3 := x213.2
            show zx_T zp_P 2 zp_m193 390 [(0, .ref 44), (1, .int (zI (f))), (3, .int (zI (own))), (4, .int (zI (d))), (5, .int (zI (u))), (6, .int (zI (s))), (7, .int (zI (o))), (8, .int (zI (w))), (9, .int (zI (sm)))] [] h214 _
            refine zx_T.s (i := .iconst 0) (k := 1) (st' := [.int (zI (0))]) (pc := 390) rfl rfl ?_
            refine zx_T.t (i := .istore 10) (k := 2) (ls' := [(10, .int (zI (0))), (0, .ref 44), (1, .int (zI (f))), (3, .int (zI (own))), (4, .int (zI (d))), (5, .int (zI (u))), (6, .int (zI (s))), (7, .int (zI (o))), (8, .int (zI (w))), (9, .int (zI (sm)))]) (st' := []) (pc := 391) rfl rfl rfl rfl ?_
            refine zx_T.s (i := .iconst 0) (k := 1) (st' := [.int (zI (0))]) (pc := 393) rfl rfl ?_
            refine zx_T.t (i := .istore 11) (k := 2) (ls' := [(11, .int (zI (0))), (10, .int (zI (0))), (0, .ref 44), (1, .int (zI (f))), (3, .int (zI (own))), (4, .int (zI (d))), (5, .int (zI (u))), (6, .int (zI (s))), (7, .int (zI (o))), (8, .int (zI (w))), (9, .int (zI (sm)))]) (st' := []) (pc := 394) rfl rfl rfl rfl ?_
            refine zx_T.lk (ls' := [(0, .ref 44), (1, .int (zI (f))), (3, .int (zI (own))), (7, .int (zI (o))), (10, .int (zI (0))), (11, .int (zI (0)))]) rfl ⟨rfl, rfl, rfl, rfl, rfl, rfl, trivial⟩ ?_
            exact ih.2.2.2.2.1 (h2 := h214) (own := own) (o := o) (g := 0) (k := 0) ih214 (by omega) (by omega) (by omega) (by omega) (by omega) (by omega) (by omega) (by omega) (by omega) ((((hw.wd rfl : zb_W [(44, 30), (64, 0), (65, 0), (66, 0), (67, 0), (68, 0)] h _).tr (w203.wd rfl)).tr (w209.wd rfl)).tr (w215.wd rfl)) (by omega) oE (by omega) (by rw [show zv_a h214 66 = zv_a h2 66 from funext (fun q => zv_wa (((w203.wd rfl : zb_W [(44, 30), (64, 0)] h2 _).tr (w209.wd rfl)).tr (w215.wd rfl)) rfl q)]; exact q1) ⟨nE.1 (by omega), by omega, by omega⟩ n1 n2 (by have q9 := pB3; rw [List.append_assoc, List.append_assoc] at q9; rw [← dE, show 251 + (((F.ow f).length : Int) - (zs_ah (zr_Pg h) F f).length) = w - o + 251 by omega]; exact q9) (by omega)
    · intro h2 own o g k hI2 w1 w2 o1 o2 k1 k2 g1 g2 g3 hw pe oE gl q1 y3 n1 n2 bl2 hm
      have hP := zv_ri hI (k := 30) rfl
      have hQ := zv_ri hI (k := 10) rfl
      have ofn := oF.2.1
      have hPk := zv_ri hI2 (k := 30) rfl
      refine zx_T.l (i := .iload 11) (k := 2) (v := .int (zI (k))) (pc := 396) rfl rfl rfl ?_
      refine zx_T.l (i := .iload 7) (k := 2) (v := .int (zI (o))) (pc := 398) rfl rfl rfl ?_
      refine zr_i2 (x := k) (y := o) (t := 424) (pc := 400) rfl rfl (by omega) (by omega) (by omega) (by omega) (fun (c217 : o ≤ k) => ?_) (fun (c217 : ¬ (o ≤ k)) => ?_)
      · refine zx_T.l (i := .aload_n 0) (k := 1) (v := .ref 44) (pc := 424) rfl rfl rfl ?_
        refine zx_T.l (i := .aload_n 0) (k := 1) (v := .ref 44) (pc := 425) rfl rfl rfl ?_
        refine zr_gr (k := 33) (b := 66) (pc := 426) rfl rfl rfl hI2 ?_
        refine zx_T.l (i := .iload 10) (k := 2) (v := .int (zI (g))) (pc := 429) rfl rfl rfl ?_
        refine zx_T.l (i := .iload_n 3) (k := 1) (v := .int (zI (own))) (pc := 431) rfl rfl rfl ?_
        refine zr_iv (cj := 190) (q' := zp_m190) (As := [.ref 66, .int (zI (g)), .int (zI (own))]) (rest := []) (pc := 432) rfl rfl rfl rfl rfl rfl (Nat.le_of_ble_eq_true rfl) rfl (Nat.le_of_ble_eq_true rfl) hI2 ((zm_putEntriesF (h := h2) hI2 (f := g) (u := own) (by omega) (by omega) (by omega) (by omega) (by omega) _ bl2).up (Nat.le_of_ble_eq_true rfl)) ?_
        rintro r219 h222 ⟨ih222, w223, r219q, x221⟩
        subst r219q
        try dsimp only at x221
        have eB1 := x221.1
        have eN1 := x221.2
        have e66a : zv_a h2 66 = zv_a h2 66 := rfl
        show zx_T zp_P 2 zp_m193 435 [(0, .ref 44), (1, .int (zI (f))), (3, .int (zI (own))), (7, .int (zI (o))), (10, .int (zI (g))), (11, .int (zI (k)))] [] h222 _
        refine zx_T.j (i := .goto 64) (k := 3) (pc' := 499) (st' := []) (pc := 435) rfl rfl rfl rfl rfl ?_
        exact zr_vr (pc := 499) rfl rfl ⟨ih222, ((hw.wd rfl : zb_W [(44, 30), (64, 0), (65, 0), (66, 0), (67, 0), (68, 0)] h _).tr (w223.wd rfl)), rfl, by dsimp only; unfold zs_fb; rw [zi_f n1, zi_f n2, zi_t y3]; have q9 := eB1; rw [e66a, q1, show k.toNat = (zs_ah (zr_Pg h) F f).length by omega, List.append_assoc] at q9; exact q9⟩
      · have gg : g < own := (by by_cases z : g < own; exact z; have z1 := q1; rw [zs_es_e (by omega)] at z1; have z2 := congrArg List.length z1; rw [List.length_drop] at z2; have z3 : 0 = (F.ow f).length - k.toNat := z2; omega)
        refine zx_T.l (i := .iload 10) (k := 2) (v := .int (zI (g))) (pc := 403) rfl rfl rfl ?_
        refine zx_T.l (i := .aload_n 0) (k := 1) (v := .ref 44) (pc := 405) rfl rfl rfl ?_
        refine zr_gr (k := 33) (b := 66) (pc := 406) rfl rfl rfl hI2 ?_
        refine zx_T.l (i := .iload 10) (k := 2) (v := .int (zI (g))) (pc := 409) rfl rfl rfl ?_
        refine zx_T.l (i := .iload_n 3) (k := 1) (v := .int (zI (own))) (pc := 411) rfl rfl rfl ?_
        refine zr_is (cj := 188) (q' := zp_m188) (As := [.ref 66, .int (zI (g)), .int (zI (own))]) (rest := [.int (zI (g))]) (pc := 412) rfl rfl rfl rfl rfl rfl (Nat.le_of_ble_eq_true rfl) rfl (Nat.le_of_ble_eq_true rfl) rfl ((zm_wideF_66 (h := h2) hI2 (k := g) (u := own) (by omega) (by omega) (by omega) (by omega)).up (Nat.le_of_ble_eq_true rfl)) ?_
        rintro r225 h228 ⟨h228q, v226, r225q, x227⟩
        subst h228q r225q
        try dsimp only at x227
        have wdE := x227.1
        show zx_T zp_P 2 zp_m193 415 [(0, .ref 44), (1, .int (zI (f))), (3, .int (zI (own))), (7, .int (zI (o))), (10, .int (zI (g))), (11, .int (zI (k)))] [.int (zI (v226)), .int (zI (g))] h2 _
        refine zr_add (x := g) (y := v226) (e := g + v226) (pc := 415) rfl (by omega) ?_
        refine zx_T.t (i := .istore 10) (k := 2) (ls' := [(10, .int (zI (g + v226))), (0, .ref 44), (1, .int (zI (f))), (3, .int (zI (own))), (7, .int (zI (o))), (11, .int (zI (k)))]) (st' := []) (pc := 416) rfl rfl rfl rfl ?_
        refine zr_inc (x := k) (n := 1) (y := k + 1) (ls' := [(11, .int (zI (k + 1))), (10, .int (zI (g + v226))), (0, .ref 44), (1, .int (zI (f))), (3, .int (zI (own))), (7, .int (zI (o)))]) (pc := 418) rfl rfl rfl (by omega) rfl ?_
        refine zx_T.j (i := .goto (-25)) (k := 3) (pc' := 396) (st' := []) (pc := 421) rfl rfl rfl rfl rfl ?_
        refine zx_T.lk (ls' := [(0, .ref 44), (1, .int (zI (f))), (3, .int (zI (own))), (7, .int (zI (o))), (10, .int (zI (g + v226))), (11, .int (zI (k + 1)))]) rfl ⟨rfl, rfl, rfl, rfl, rfl, rfl, trivial⟩ ?_
        exact ih.2.2.2.2.1 (h2 := h2) (own := own) (o := o) (g := g + v226) (k := k + 1) hI2 (by omega) (by omega) (by omega) (by omega) (by omega) (by omega) (by omega) (by omega) (by have w9 := (zs_wi_r (N := zv_a h2 66) (k := g) (u := own)).2 gg; omega) (hw.wd rfl : zb_W [(44, 30), (64, 0), (65, 0), (66, 0), (67, 0), (68, 0)] h _) (by omega) oE (by omega) (by rw [show (k + 1).toNat = k.toNat + 1 by omega, ← List.drop_drop, ← q1, zs_es_s gg, wdE]; rfl) y3 n1 n2 bl2 (by omega)
    · intro h2 own d u s o w sm hI2 w1 w2 d1 d2 u1 u2 s1 s2 o1 o2 t1 t2 b1 b2 hw pe oE wE sE dE nE q1 q2 bl2 n1 n2 n4 hm
      have hP := zv_ri hI (k := 30) rfl
      have hQ := zv_ri hI (k := 10) rfl
      have ofn := oF.2.1
      have hPk := zv_ri hI2 (k := 30) rfl
      refine zx_T.l (i := .aload_n 0) (k := 1) (v := .ref 44) (pc := 438) rfl rfl rfl ?_
      refine zx_T.s (i := .sipush 255) (k := 3) (st' := [.int (zI (255)), .ref 44]) (pc := 439) rfl rfl ?_
      refine zr_iv (cj := 187) (q' := zp_m187) (As := [.int (zI (255))]) (rest := []) (pc := 442) rfl rfl rfl rfl rfl rfl (Nat.le_of_ble_eq_true rfl) rfl (Nat.le_of_ble_eq_true rfl) hI2 ((zm_putF (h := h2) hI2 (b := 255) (by omega) (by omega) (by omega) L bl2).up (Nat.le_of_ble_eq_true rfl)) ?_
      rintro r231 h234 ⟨ih234, w235, r231q, x233⟩
      subst r231q
      try dsimp only at x233
      have pB1 := x233.1
      have pN1 := x233.2
      show zx_T zp_P 2 zp_m193 445 [(0, .ref 44), (1, .int (zI (f))), (3, .int (zI (own))), (4, .int (zI (d))), (5, .int (zI (u))), (6, .int (zI (s))), (7, .int (zI (o))), (8, .int (zI (w))), (9, .int (zI (sm)))] [] h234 _
      refine zx_T.l (i := .aload_n 0) (k := 1) (v := .ref 44) (pc := 445) rfl rfl rfl ?_
      refine zx_T.s (i := .iconst 0) (k := 1) (st' := [.int (zI (0)), .ref 44]) (pc := 446) rfl rfl ?_
      refine zr_iv (cj := 187) (q' := zp_m187) (As := [.int (zI (0))]) (rest := []) (pc := 447) rfl rfl rfl rfl rfl rfl (Nat.le_of_ble_eq_true rfl) rfl (Nat.le_of_ble_eq_true rfl) ih234 ((zm_putF (h := h234) ih234 (b := 0) (by omega) (by omega) (by omega) _ pB1).up (Nat.le_of_ble_eq_true rfl)) ?_
      rintro r237 h240 ⟨ih240, w241, r237q, x239⟩
      subst r237q
      try dsimp only at x239
      have pB2 := x239.1
      have pN2 := x239.2
      show zx_T zp_P 2 zp_m193 450 [(0, .ref 44), (1, .int (zI (f))), (3, .int (zI (own))), (4, .int (zI (d))), (5, .int (zI (u))), (6, .int (zI (s))), (7, .int (zI (o))), (8, .int (zI (w))), (9, .int (zI (sm)))] [] h240 _
      refine zx_T.l (i := .aload_n 0) (k := 1) (v := .ref 44) (pc := 450) rfl rfl rfl ?_
      refine zx_T.l (i := .iload 4) (k := 2) (v := .int (zI (d))) (pc := 451) rfl rfl rfl ?_
      refine zr_iv (cj := 187) (q' := zp_m187) (As := [.int (zI (d))]) (rest := []) (pc := 453) rfl rfl rfl rfl rfl rfl (Nat.le_of_ble_eq_true rfl) rfl (Nat.le_of_ble_eq_true rfl) ih240 ((zm_putF (h := h240) ih240 (b := d) (by omega) (by omega) (by omega) _ pB2).up (Nat.le_of_ble_eq_true rfl)) ?_
      rintro r243 h246 ⟨ih246, w247, r243q, x245⟩
      subst r243q
      try dsimp only at x245
      have pB3 := x245.1
      have pN3 := x245.2
      show zx_T zp_P 2 zp_m193 456 [(0, .ref 44), (1, .int (zI (f))), (3, .int (zI (own))), (4, .int (zI (d))), (5, .int (zI (u))), (6, .int (zI (s))), (7, .int (zI (o))), (8, .int (zI (w))), (9, .int (zI (sm)))] [] h246 _
      refine zx_T.l (i := .aload_n 0) (k := 1) (v := .ref 44) (pc := 456) rfl rfl rfl ?_
      refine zx_T.s (i := .iconst 0) (k := 1) (st' := [.int (zI (0)), .ref 44]) (pc := 457) rfl rfl ?_
      refine zr_iv (cj := 187) (q' := zp_m187) (As := [.int (zI (0))]) (rest := []) (pc := 458) rfl rfl rfl rfl rfl rfl (Nat.le_of_ble_eq_true rfl) rfl (Nat.le_of_ble_eq_true rfl) ih246 ((zm_putF (h := h246) ih246 (b := 0) (by omega) (by omega) (by omega) _ pB3).up (Nat.le_of_ble_eq_true rfl)) ?_
      rintro r249 h252 ⟨ih252, w253, r249q, x251⟩
      subst r249q
      try dsimp only at x251
      have pB4 := x251.1
      have pN4 := x251.2
      show zx_T zp_P 2 zp_m193 461 [(0, .ref 44), (1, .int (zI (f))), (3, .int (zI (own))), (4, .int (zI (d))), (5, .int (zI (u))), (6, .int (zI (s))), (7, .int (zI (o))), (8, .int (zI (w))), (9, .int (zI (sm)))] [] h252 _
      refine zx_T.l (i := .aload_n 0) (k := 1) (v := .ref 44) (pc := 461) rfl rfl rfl ?_
      refine zx_T.l (i := .iload 8) (k := 2) (v := .int (zI (w))) (pc := 462) rfl rfl rfl ?_
      refine zr_iv (cj := 187) (q' := zp_m187) (As := [.int (zI (w))]) (rest := []) (pc := 464) rfl rfl rfl rfl rfl rfl (Nat.le_of_ble_eq_true rfl) rfl (Nat.le_of_ble_eq_true rfl) ih252 ((zm_putF (h := h252) ih252 (b := w) (by omega) (by omega) (by omega) _ pB4).up (Nat.le_of_ble_eq_true rfl)) ?_
      rintro r255 h258 ⟨ih258, w259, r255q, x257⟩
      subst r255q
      try dsimp only at x257
      have pB5 := x257.1
      have pN5 := x257.2
      show zx_T zp_P 2 zp_m193 467 [(0, .ref 44), (1, .int (zI (f))), (3, .int (zI (own))), (4, .int (zI (d))), (5, .int (zI (u))), (6, .int (zI (s))), (7, .int (zI (o))), (8, .int (zI (w))), (9, .int (zI (sm)))] [] h258 _
      refine zx_T.l (i := .aload_n 0) (k := 1) (v := .ref 44) (pc := 467) rfl rfl rfl ?_
      refine zx_T.l (i := .aload_n 0) (k := 1) (v := .ref 44) (pc := 468) rfl rfl rfl ?_
      refine zr_gr (k := 33) (b := 66) (pc := 469) rfl rfl rfl ih258 ?_
      refine zx_T.s (i := .iconst 0) (k := 1) (st' := [.int (zI (0)), .ref 66, .ref 44]) (pc := 472) rfl rfl ?_
      refine zx_T.l (i := .iload_n 3) (k := 1) (v := .int (zI (own))) (pc := 473) rfl rfl rfl ?_
      refine zr_iv (cj := 190) (q' := zp_m190) (As := [.ref 66, .int (zI (0)), .int (zI (own))]) (rest := []) (pc := 474) rfl rfl rfl rfl rfl rfl (Nat.le_of_ble_eq_true rfl) rfl (Nat.le_of_ble_eq_true rfl) ih258 ((zm_putEntriesF (h := h258) ih258 (f := 0) (u := own) (by omega) (by omega) (by omega) (by omega) (by omega) _ pB5).up (Nat.le_of_ble_eq_true rfl)) ?_
      rintro r261 h264 ⟨ih264, w265, r261q, x263⟩
      subst r261q
      try dsimp only at x263
      have eB1 := x263.1
      have eN1 := x263.2
      have e66a : zv_a h258 66 = zv_a h2 66 := funext (fun q => zv_wa (((((w235.wd rfl : zb_W [(44, 30), (64, 0)] h2 _).tr (w241.wd rfl)).tr (w247.wd rfl)).tr (w253.wd rfl)).tr (w259.wd rfl)) rfl q)
      show zx_T zp_P 2 zp_m193 477 [(0, .ref 44), (1, .int (zI (f))), (3, .int (zI (own))), (4, .int (zI (d))), (5, .int (zI (u))), (6, .int (zI (s))), (7, .int (zI (o))), (8, .int (zI (w))), (9, .int (zI (sm)))] [] h264 _
      refine zx_T.l (i := .aload_n 0) (k := 1) (v := .ref 44) (pc := 477) rfl rfl rfl ?_
      refine zx_T.s (i := .iconst 0) (k := 1) (st' := [.int (zI (0)), .ref 44]) (pc := 478) rfl rfl ?_
      refine zr_iv (cj := 187) (q' := zp_m187) (As := [.int (zI (0))]) (rest := []) (pc := 479) rfl rfl rfl rfl rfl rfl (Nat.le_of_ble_eq_true rfl) rfl (Nat.le_of_ble_eq_true rfl) ih264 ((zm_putF (h := h264) ih264 (b := 0) (by omega) (by omega) (by omega) _ eB1).up (Nat.le_of_ble_eq_true rfl)) ?_
      rintro r267 h270 ⟨ih270, w271, r267q, x269⟩
      subst r267q
      try dsimp only at x269
      have pB6 := x269.1
      have pN6 := x269.2
      show zx_T zp_P 2 zp_m193 482 [(0, .ref 44), (1, .int (zI (f))), (3, .int (zI (own))), (4, .int (zI (d))), (5, .int (zI (u))), (6, .int (zI (s))), (7, .int (zI (o))), (8, .int (zI (w))), (9, .int (zI (sm)))] [] h270 _
      refine zx_T.l (i := .aload_n 0) (k := 1) (v := .ref 44) (pc := 482) rfl rfl rfl ?_
      refine zx_T.l (i := .iload 6) (k := 2) (v := .int (zI (s))) (pc := 483) rfl rfl rfl ?_
      refine zr_iv (cj := 187) (q' := zp_m187) (As := [.int (zI (s))]) (rest := []) (pc := 485) rfl rfl rfl rfl rfl rfl (Nat.le_of_ble_eq_true rfl) rfl (Nat.le_of_ble_eq_true rfl) ih270 ((zm_putF (h := h270) ih270 (b := s) (by omega) (by omega) (by omega) _ pB6).up (Nat.le_of_ble_eq_true rfl)) ?_
      rintro r273 h276 ⟨ih276, w277, r273q, x275⟩
      subst r273q
      try dsimp only at x275
      have pB7 := x275.1
      have pN7 := x275.2
      show zx_T zp_P 2 zp_m193 488 [(0, .ref 44), (1, .int (zI (f))), (3, .int (zI (own))), (4, .int (zI (d))), (5, .int (zI (u))), (6, .int (zI (s))), (7, .int (zI (o))), (8, .int (zI (w))), (9, .int (zI (sm)))] [] h276 _
      refine zx_T.l (i := .aload_n 0) (k := 1) (v := .ref 44) (pc := 488) rfl rfl rfl ?_
      refine zx_T.l (i := .aload_n 0) (k := 1) (v := .ref 44) (pc := 489) rfl rfl rfl ?_
      refine zr_gr (k := 33) (b := 66) (pc := 490) rfl rfl rfl ih276 ?_
      refine zx_T.l (i := .iload_n 3) (k := 1) (v := .int (zI (own))) (pc := 493) rfl rfl rfl ?_
      refine zx_T.l (i := .iload 5) (k := 2) (v := .int (zI (u))) (pc := 494) rfl rfl rfl ?_
      refine zr_iv (cj := 190) (q' := zp_m190) (As := [.ref 66, .int (zI (own)), .int (zI (u))]) (rest := []) (pc := 496) rfl rfl rfl rfl rfl rfl (Nat.le_of_ble_eq_true rfl) rfl (Nat.le_of_ble_eq_true rfl) ih276 ((zm_putEntriesF (h := h276) ih276 (f := own) (u := u) (by omega) (by omega) (by omega) (by omega) (by omega) _ pB7).up (Nat.le_of_ble_eq_true rfl)) ?_
      rintro r279 h282 ⟨ih282, w283, r279q, x281⟩
      subst r279q
      try dsimp only at x281
      have eB2 := x281.1
      have eN2 := x281.2
      have e66b : zv_a h276 66 = zv_a h2 66 := funext (fun q => zv_wa ((((((((w235.wd rfl : zb_W [(44, 30), (64, 0)] h2 _).tr (w241.wd rfl)).tr (w247.wd rfl)).tr (w253.wd rfl)).tr (w259.wd rfl)).tr (w265.wd rfl)).tr (w271.wd rfl)).tr (w277.wd rfl)) rfl q)
      show zx_T zp_P 2 zp_m193 499 [(0, .ref 44), (1, .int (zI (f))), (3, .int (zI (own))), (4, .int (zI (d))), (5, .int (zI (u))), (6, .int (zI (s))), (7, .int (zI (o))), (8, .int (zI (w))), (9, .int (zI (sm)))] [] h282 _
      exact zr_vr (pc := 499) rfl rfl ⟨ih282, ((((((((((hw.wd rfl : zb_W [(44, 30), (64, 0), (65, 0), (66, 0), (67, 0), (68, 0)] h _).tr (w235.wd rfl)).tr (w241.wd rfl)).tr (w247.wd rfl)).tr (w253.wd rfl)).tr (w259.wd rfl)).tr (w265.wd rfl)).tr (w271.wd rfl)).tr (w277.wd rfl)).tr (w283.wd rfl)), rfl, by dsimp only; unfold zs_fb; rw [zi_f n1, zi_f n2, zi_f n4, ← dE, ← wE, ← sE]; have q9 := eB2; rw [e66b, e66a, q1, q2] at q9; simp only [List.append_assoc, List.cons_append, List.nil_append] at q9 ⊢; exact q9⟩
set_option maxRecDepth 100000 in
set_option maxHeartbeats 8000000 in
theorem zm_packF {h : zx_H} (hI : zb_I zc_H h) {f : Int} (f1 : 0 ≤ f) (f2 : f ≤ 59) (p3 : zv_i h 30 ≤ 3000) (F : zF) (hF : zr_Fr h F) (oF : F.ok) (fn : f < F.n) (L : List Int) (bl : zs_bl (zv_i h 30) (zv_a h 64) L) : zx_T zp_P 2 zp_m193 0 [(0, .ref 44), (1, .int (zI (f)))] [] h (zr_V [(44, 30), (64, 0), (65, 0), (66, 0), (67, 0), (68, 0)] h (fun h' => zs_bl (zv_i h' 30) (zv_a h' 64) (L ++ zs_fb (zs_ah (zr_Pg h) F f) (F.ow f) (F.sk f) (zs_di F f)))) := by
  have hP := zv_ri hI (k := 30) rfl
  have hQ := zv_ri hI (k := 10) rfl
  have ofn := oF.2.1
  refine zx_T.l (i := .iload_n 1) (k := 1) (v := .int (zI (f))) (pc := 0) rfl rfl rfl ?_
  refine zr_i1 (x := f) (t := 11) (pc := 1) rfl rfl (by omega) (by omega) (fun (c285 : ¬ f = 0) => ?_) (fun (c285 : ¬ (¬ f = 0)) => ?_)
  · refine zx_T.l (i := .aload_n 0) (k := 1) (v := .ref 44) (pc := 11) rfl rfl rfl ?_
    refine zr_gr (k := 21) (b := 58) (pc := 12) rfl rfl rfl hI ?_
    refine zx_T.l (i := .iload_n 1) (k := 1) (v := .int (zI (f))) (pc := 15) rfl rfl rfl ?_
    refine zx_T.s (i := .iconst 1) (k := 1) (st' := [.int (zI (1)), .int (zI (f)), .ref 58]) (pc := 16) rfl rfl ?_
    refine zr_sub (x := f) (y := 1) (e := f - 1) (pc := 17) rfl (by omega) ?_
    refine zr_al (n := 60) (lo := 0) (hi := 8) (e := zv_a h 58 (f - 1)) (pc := 18) rfl rfl rfl hI (by omega) (by omega) rfl (fun g286a g286b => ?_)
    refine zx_T.t (i := .istore_n 2) (k := 1) (ls' := [(2, .int (zI (zv_a h 58 (f - 1)))), (0, .ref 44), (1, .int (zI (f)))]) (st' := []) (pc := 19) rfl rfl rfl rfl ?_
    refine zx_T.l (i := .aload_n 0) (k := 1) (v := .ref 44) (pc := 20) rfl rfl rfl ?_
    refine zr_gr (k := 21) (b := 58) (pc := 21) rfl rfl rfl hI ?_
    refine zx_T.l (i := .iload_n 1) (k := 1) (v := .int (zI (f))) (pc := 24) rfl rfl rfl ?_
    refine zr_al (n := 60) (lo := 0) (hi := 8) (e := zv_a h 58 f) (pc := 25) rfl rfl rfl hI (by omega) (by omega) rfl (fun g287a g287b => ?_)
    refine zx_T.t (i := .istore_n 3) (k := 1) (ls' := [(3, .int (zI (zv_a h 58 f))), (2, .int (zI (zv_a h 58 (f - 1)))), (0, .ref 44), (1, .int (zI (f)))]) (st' := []) (pc := 26) rfl rfl rfl rfl ?_
    refine zx_T.s (i := .iconst 0) (k := 1) (st' := [.int (zI (0))]) (pc := 27) rfl rfl ?_
    refine zx_T.t (i := .istore 4) (k := 2) (ls' := [(4, .int (zI (0))), (3, .int (zI (zv_a h 58 f))), (2, .int (zI (zv_a h 58 (f - 1)))), (0, .ref 44), (1, .int (zI (f)))]) (st' := []) (pc := 28) rfl rfl rfl rfl ?_
    have a65 : ∀ j, 0 ≤ j → zv_a h 65 j = zv_a h 65 j := fun j hj => rfl
    have a66 : ∀ j, 0 ≤ j → zv_a h 66 j = zv_a h 66 j := fun j hj => rfl
    refine zx_T.lk (ls' := [(0, .ref 44), (1, .int (zI (f))), (2, .int (zI (zv_a h 58 (f - 1)))), (3, .int (zI (zv_a h 58 f))), (4, .int (zI (0)))]) rfl ⟨rfl, rfl, rfl, rfl, rfl, trivial⟩ ?_
    exact (zm_packF_L (h := h) hI (f := f) f1 f2 p3 F hF oF fn L bl ((1000 - 0 : Int).toNat + 1)).1 (h2 := h) (m := zv_a h 58 (f - 1)) (own := zv_a h 58 f) (k := 0) hI (by omega) (by omega) (by omega) (by omega) (by omega) (by omega) (by omega) (by omega) zb_W.rf (fun j j0 j1 => absurd j1 (by omega)) (fun j j0 j1 => absurd j1 (by omega)) (Nat.lt_succ_self _)
  · refine zx_T.l (i := .aload_n 0) (k := 1) (v := .ref 44) (pc := 4) rfl rfl rfl ?_
    refine zr_gi (k := 10) (lo := 0) (hi := 8) (e := zv_i h 10) (pc := 5) rfl rfl rfl hI rfl (fun g290a g290b => ?_)
    refine zx_T.j (i := .goto 11) (k := 3) (pc' := 19) (st' := [.int (zI (zv_i h 10))]) (pc := 8) rfl rfl rfl rfl rfl ?_
    refine zx_T.t (i := .istore_n 2) (k := 1) (ls' := [(2, .int (zI (zv_i h 10))), (0, .ref 44), (1, .int (zI (f)))]) (st' := []) (pc := 19) rfl rfl rfl rfl ?_
    refine zx_T.l (i := .aload_n 0) (k := 1) (v := .ref 44) (pc := 20) rfl rfl rfl ?_
    refine zr_gr (k := 21) (b := 58) (pc := 21) rfl rfl rfl hI ?_
    refine zx_T.l (i := .iload_n 1) (k := 1) (v := .int (zI (f))) (pc := 24) rfl rfl rfl ?_
    refine zr_al (n := 60) (lo := 0) (hi := 8) (e := zv_a h 58 f) (pc := 25) rfl rfl rfl hI (by omega) (by omega) rfl (fun g291a g291b => ?_)
    refine zx_T.t (i := .istore_n 3) (k := 1) (ls' := [(3, .int (zI (zv_a h 58 f))), (2, .int (zI (zv_i h 10))), (0, .ref 44), (1, .int (zI (f)))]) (st' := []) (pc := 26) rfl rfl rfl rfl ?_
    refine zx_T.s (i := .iconst 0) (k := 1) (st' := [.int (zI (0))]) (pc := 27) rfl rfl ?_
    refine zx_T.t (i := .istore 4) (k := 2) (ls' := [(4, .int (zI (0))), (3, .int (zI (zv_a h 58 f))), (2, .int (zI (zv_i h 10))), (0, .ref 44), (1, .int (zI (f)))]) (st' := []) (pc := 28) rfl rfl rfl rfl ?_
    have a65 : ∀ j, 0 ≤ j → zv_a h 65 j = zv_a h 65 j := fun j hj => rfl
    have a66 : ∀ j, 0 ≤ j → zv_a h 66 j = zv_a h 66 j := fun j hj => rfl
    refine zx_T.lk (ls' := [(0, .ref 44), (1, .int (zI (f))), (2, .int (zI (zv_i h 10))), (3, .int (zI (zv_a h 58 f))), (4, .int (zI (0)))]) rfl ⟨rfl, rfl, rfl, rfl, rfl, trivial⟩ ?_
    exact (zm_packF_L (h := h) hI (f := f) f1 f2 p3 F hF oF fn L bl ((1000 - 0 : Int).toNat + 1)).1 (h2 := h) (m := zv_i h 10) (own := zv_a h 58 f) (k := 0) hI (by omega) (by omega) (by omega) (by omega) (by omega) (by omega) (by omega) (by omega) zb_W.rf (fun j j0 j1 => absurd j1 (by omega)) (fun j j0 j1 => absurd j1 (by omega)) (Nat.lt_succ_self _)

set_option maxRecDepth 100000 in
set_option maxHeartbeats 4000000 in
theorem zm_packedF_L {h : zx_H} (hI : zb_I zc_H h)  (F : zF) (hF : ¬ zv_i h 13 = 0 → zr_Fr h F) (oF : ¬ zv_i h 13 = 0 → F.ok) (n : Nat) : (∀ {h2 : zx_H} {f : Int} (hI2 : zb_I zc_H h2) (im : ¬ zv_i h 13 = 0) (f1 : 0 ≤ f) (f2 : f ≤ F.n) (hw : zb_W [(44, 0), (44, 30), (64, 0), (65, 0), (66, 0), (67, 0), (68, 0)] h h2) (bl2 : zs_bl (zv_i h2 30) (zv_a h2 64) (zs_pkd (zr_Pg h) F f.toNat)), (100 - f : Int).toNat < n → zx_T zp_P 3 zp_m194 22 [(0, .ref 44), (1, .int (zI (f)))] [] h2 (zr_R [(44, 0), (44, 30), (64, 0), (65, 0), (66, 0), (67, 0), (68, 0)] h (fun e h' => (zv_i h 13 = 0 ∧ e = -3 ∧ zv_i h' 30 = zv_i h 30 ∧ ∀ j, zv_a h' 64 j = zv_a h 64 j) ∨ (¬ zv_i h 13 = 0 ∧ e = zv_i h' 30 ∧ zs_bl (zv_i h' 30) (zv_a h' 64) (zs_pkd (zr_Pg h) F F.n.toNat))))) := by
  induction n with
  | zero => exact fun _ _ _ _ _ _ hm => absurd hm (Nat.not_lt_zero _)
  | succ n ih =>
    intro h2 f hI2 im f1 f2 hw bl2 hm
    have hM9 := zv_ri hI (k := 13) rfl
    have hF0 := zv_ri hI (k := 19) rfl
    have oF9 := oF im
    have hF9 := hF im
    have nF := hF9.1
    have hF2 := zr_Fr_w hw rfl hF9
    have ofn := oF9.2.1
    have pl9 := zs_pkd_l (P := (zr_Pg h)) oF9 f.toNat (by omega)
    have bn := bl2.1
    refine zx_T.l (i := .iload_n 1) (k := 1) (v := .int (zI (f))) (pc := 22) rfl rfl rfl ?_
    refine zx_T.l (i := .aload_n 0) (k := 1) (v := .ref 44) (pc := 23) rfl rfl rfl ?_
    refine zr_gi (k := 19) (lo := 0) (hi := 60) (e := zv_i h 19) (pc := 24) rfl rfl rfl hI2 (zv_wi hw rfl) (fun g1a g1b => ?_)
    refine zr_i2 (x := f) (y := zv_i h 19) (t := 41) (pc := 27) rfl rfl (by omega) (by omega) (by omega) (by omega) (fun (c2 : (zv_i h 19) ≤ f) => ?_) (fun (c2 : ¬ ((zv_i h 19) ≤ f)) => ?_)
    · refine zx_T.l (i := .aload_n 0) (k := 1) (v := .ref 44) (pc := 41) rfl rfl rfl ?_
      refine zr_gi (k := 30) (lo := 0) (hi := 4000) (e := zv_i h2 30) (pc := 42) rfl rfl rfl hI2 rfl (fun g3a g3b => ?_)
      exact zr_ir (x := zv_i h2 30) (pc := 45) rfl rfl rfl ⟨hI2, (hw.wd rfl : zb_W [(44, 0), (44, 30), (64, 0), (65, 0), (66, 0), (67, 0), (68, 0)] h _), _, rfl, by dsimp only; exact Or.inr ⟨im, rfl, by rw [show F.n = f by omega]; exact bl2⟩⟩
    · refine zx_T.l (i := .aload_n 0) (k := 1) (v := .ref 44) (pc := 30) rfl rfl rfl ?_
      refine zx_T.l (i := .iload_n 1) (k := 1) (v := .int (zI (f))) (pc := 31) rfl rfl rfl ?_
      refine zr_iv (cj := 193) (q' := zp_m193) (As := [.int (zI (f))]) (rest := []) (pc := 32) rfl rfl rfl rfl rfl rfl (Nat.le_of_ble_eq_true rfl) rfl (Nat.le_of_ble_eq_true rfl) hI2 ((zm_packF (h := h2) hI2 (f := f) (by omega) (by omega) (by omega) F hF2 oF9 (by omega) _ bl2).up (Nat.le_of_ble_eq_true rfl)) ?_
      rintro r5 h8 ⟨ih8, w9, r5q, x7⟩
      subst r5q
      try dsimp only at x7
      have kB := x7
      show zx_T zp_P 3 zp_m194 35 [(0, .ref 44), (1, .int (zI (f)))] [] h8 _
      refine zr_inc (x := f) (n := 1) (y := f + 1) (ls' := [(1, .int (zI (f + 1))), (0, .ref 44)]) (pc := 35) rfl rfl rfl (by omega) rfl ?_
      refine zx_T.j (i := .goto (-16)) (k := 3) (pc' := 22) (st' := []) (pc := 38) rfl rfl rfl rfl rfl ?_
      refine zx_T.lk (ls' := [(0, .ref 44), (1, .int (zI (f + 1)))]) rfl ⟨rfl, rfl, trivial⟩ ?_
      exact ih (h2 := h8) (f := f + 1) ih8 (by omega) (by omega) (by omega) ((hw.wd rfl : zb_W [(44, 0), (44, 30), (64, 0), (65, 0), (66, 0), (67, 0), (68, 0)] h _).tr (w9.wd rfl)) (by rw [zs_pkd_s f1]; have q9 := kB; rw [zr_Pg_g hw rfl] at q9; exact q9) (by omega)
set_option maxRecDepth 100000 in
set_option maxHeartbeats 4000000 in
theorem zm_packedF {h : zx_H} (hI : zb_I zc_H h)  (F : zF) (hF : ¬ zv_i h 13 = 0 → zr_Fr h F) (oF : ¬ zv_i h 13 = 0 → F.ok) : zx_T zp_P 3 zp_m194 0 [(0, .ref 44)] [] h (zr_R [(44, 0), (44, 30), (64, 0), (65, 0), (66, 0), (67, 0), (68, 0)] h (fun e h' => (zv_i h 13 = 0 ∧ e = -3 ∧ zv_i h' 30 = zv_i h 30 ∧ ∀ j, zv_a h' 64 j = zv_a h 64 j) ∨ (¬ zv_i h 13 = 0 ∧ e = zv_i h' 30 ∧ zs_bl (zv_i h' 30) (zv_a h' 64) (zs_pkd (zr_Pg h) F F.n.toNat)))) := by
  have hM9 := zv_ri hI (k := 13) rfl
  have hF0 := zv_ri hI (k := 19) rfl
  refine zx_T.l (i := .aload_n 0) (k := 1) (v := .ref 44) (pc := 0) rfl rfl rfl ?_
  refine zx_T.s (i := .iconst 0) (k := 1) (st' := [.int (zI (0)), .ref 44]) (pc := 1) rfl rfl ?_
  refine zr_pi (k := 0) (lo := (-2147483648)) (hi := 2147483647) (e := 0) (pc := 2) rfl rfl rfl rfl rfl rfl hI (by omega) (by omega) (fun h11 ih11 w12 e13 => ?_)
  refine zx_T.l (i := .aload_n 0) (k := 1) (v := .ref 44) (pc := 5) rfl rfl rfl ?_
  refine zr_gi (k := 13) (lo := 0) (hi := 1) (e := zv_i h 13) (pc := 6) rfl rfl rfl ih11 (zv_wi w12 rfl) (fun g14a g14b => ?_)
  refine zr_i1 (x := zv_i h 13) (t := 15) (pc := 9) rfl rfl (by omega) (by omega) (fun (c15 : ¬ (zv_i h 13) = 0) => ?_) (fun (c15 : ¬ (¬ (zv_i h 13) = 0)) => ?_)
  · have oF9 := oF (by omega)
    have on9 := oF9.1
    refine zx_T.l (i := .aload_n 0) (k := 1) (v := .ref 44) (pc := 15) rfl rfl rfl ?_
    refine zx_T.s (i := .iconst 0) (k := 1) (st' := [.int (zI (0)), .ref 44]) (pc := 16) rfl rfl ?_
    refine zr_pi (k := 30) (lo := 0) (hi := 4000) (e := 0) (pc := 17) rfl rfl rfl rfl rfl rfl ih11 (by omega) (by omega) (fun h16 ih16 w17 e18 => ?_)
    refine zx_T.s (i := .iconst 0) (k := 1) (st' := [.int (zI (0))]) (pc := 20) rfl rfl ?_
    refine zx_T.t (i := .istore_n 1) (k := 1) (ls' := [(1, .int (zI (0))), (0, .ref 44)]) (st' := []) (pc := 21) rfl rfl rfl rfl ?_
    have y19 : zv_i h16 30 = 0 := e18
    refine zx_T.lk (ls' := [(0, .ref 44), (1, .int (zI (0)))]) rfl ⟨rfl, rfl, trivial⟩ ?_
    exact zm_packedF_L (h := h) hI  F hF oF ((100 - 0 : Int).toNat + 1) (h2 := h16) (f := 0) ih16 (by omega) (by omega) (by omega) ((w12.wd rfl : zb_W [(44, 0), (44, 30), (64, 0), (65, 0), (66, 0), (67, 0), (68, 0)] h _).tr (w17.wd rfl)) (by rw [show zv_i h16 30 = 0 by omega]; exact zs_bl_0) (Nat.lt_succ_self _)
  · refine zx_T.s (i := .bipush (-3)) (k := 2) (st' := [.int (zI ((-3)))]) (pc := 12) rfl rfl ?_
    exact zr_ir (x := (-3)) (pc := 14) rfl rfl rfl ⟨ih11, (w12.wd rfl : zb_W [(44, 0), (44, 30), (64, 0), (65, 0), (66, 0), (67, 0), (68, 0)] h _), _, rfl, by dsimp only; exact Or.inl ⟨by omega, rfl, zv_wi w12 rfl, fun j => zv_wa w12 rfl j⟩⟩
