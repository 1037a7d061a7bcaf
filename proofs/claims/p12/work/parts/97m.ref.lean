/-! ===== 97m: the reference, method by method (by program) ===== -/
set_option maxRecDepth 100000 in
set_option maxHeartbeats 4000000 in
theorem zm_keepF_L {h : zx_H} (hI : zb_I zc_H h) {p : Int} (p1 : 0 ≤ p) (p2 : p ≤ 59) (fr9 : zv_i h 19 ≤ 59) (n : Nat) : (∀ {h2 : zx_H} {m : Int} (hI2 : zb_I zc_H h2) (m1 : 0 ≤ m) (m2 : m ≤ 8) (hw : zb_W [(44, 25), (61, 0)] h h2) (ld : ∀ j, 0 ≤ j → j < 14 → zv_a h2 61 j = zv_a h 55 (14 * p + j)) (sz : zv_i h2 25 = zv_a h 56 p) (hz : ∀ j, m ≤ j → j < 8 → zv_a h2 61 j = 0), (m + 100 : Int).toNat < n → zx_T zp_P 1 zp_m178 8 [(0, .ref 44), (1, .int (zI (p))), (2, .int (zI (m)))] [] h2 (zr_V [(44, 25), (61, 0), (57, 0), (58, 0), (59, 0), (60, 0), (44, 19)] h (fun h' => zv_i h' 19 = zv_i h 19 + 1 ∧ (∀ f, 0 ≤ f → zv_a h' 57 f = if f = zv_i h 19 then p else zv_a h 57 f) ∧ (∀ f, 0 ≤ f → zv_a h' 58 f = if f = zv_i h 19 then zs_ul (fun j => zv_a h 55 (14 * p + j)) 8 else zv_a h 58 f) ∧ (∀ f, 0 ≤ f → zv_a h' 59 f = if f = zv_i h 19 then zv_a h 56 p else zv_a h 59 f) ∧ (∀ j, 0 ≤ j → j < zs_ul (fun j => zv_a h 55 (14 * p + j)) 8 → zv_a h' 60 (14 * zv_i h 19 + j) = zv_a h 55 (14 * p + j)) ∧ (∀ j, 0 ≤ j → j < zv_a h 56 p → zv_a h' 60 (14 * zv_i h 19 + zs_ul (fun j => zv_a h 55 (14 * p + j)) 8 + j) = zv_a h 55 (14 * p + (8 + j))) ∧ (∀ q, 0 ≤ q → q < 14 * zv_i h 19 → zv_a h' 60 q = zv_a h 60 q)))) ∧ (∀ {h2 : zx_H} {m : Int} {k : Int} (hI2 : zb_I zc_H h2) (m1 : 0 ≤ m) (m2 : m ≤ 8) (k1 : 0 ≤ k) (k2 : k ≤ m) (hw : zb_W [(44, 25), (61, 0), (57, 0), (58, 0), (59, 0), (60, 0)] h h2) (ld : ∀ j, 0 ≤ j → j < 14 → zv_a h2 61 j = zv_a h 55 (14 * p + j)) (sz : zv_i h2 25 = zv_a h 56 p) (hu : m = zs_ul (fun j => zv_a h 55 (14 * p + j)) 8) (e57 : ∀ f, 0 ≤ f → zv_a h2 57 f = if f = zv_i h 19 then p else zv_a h 57 f) (e58 : ∀ f, 0 ≤ f → zv_a h2 58 f = if f = zv_i h 19 then m else zv_a h 58 f) (e59 : ∀ f, 0 ≤ f → zv_a h2 59 f = if f = zv_i h 19 then zv_a h 56 p else zv_a h 59 f) (k60 : ∀ j, 0 ≤ j → j < k → zv_a h2 60 (14 * zv_i h 19 + j) = zv_a h 55 (14 * p + j)) (o60 : ∀ q, 0 ≤ q → q < 14 * zv_i h 19 → zv_a h2 60 q = zv_a h 60 q), (50 - k : Int).toNat < n → zx_T zp_P 1 zp_m178 64 [(0, .ref 44), (1, .int (zI (p))), (2, .int (zI (m))), (3, .int (zI (k)))] [] h2 (zr_V [(44, 25), (61, 0), (57, 0), (58, 0), (59, 0), (60, 0), (44, 19)] h (fun h' => zv_i h' 19 = zv_i h 19 + 1 ∧ (∀ f, 0 ≤ f → zv_a h' 57 f = if f = zv_i h 19 then p else zv_a h 57 f) ∧ (∀ f, 0 ≤ f → zv_a h' 58 f = if f = zv_i h 19 then zs_ul (fun j => zv_a h 55 (14 * p + j)) 8 else zv_a h 58 f) ∧ (∀ f, 0 ≤ f → zv_a h' 59 f = if f = zv_i h 19 then zv_a h 56 p else zv_a h 59 f) ∧ (∀ j, 0 ≤ j → j < zs_ul (fun j => zv_a h 55 (14 * p + j)) 8 → zv_a h' 60 (14 * zv_i h 19 + j) = zv_a h 55 (14 * p + j)) ∧ (∀ j, 0 ≤ j → j < zv_a h 56 p → zv_a h' 60 (14 * zv_i h 19 + zs_ul (fun j => zv_a h 55 (14 * p + j)) 8 + j) = zv_a h 55 (14 * p + (8 + j))) ∧ (∀ q, 0 ≤ q → q < 14 * zv_i h 19 → zv_a h' 60 q = zv_a h 60 q)))) ∧ (∀ {h2 : zx_H} {m : Int} {k : Int} (hI2 : zb_I zc_H h2) (m1 : 0 ≤ m) (m2 : m ≤ 8) (k1 : 0 ≤ k) (k2 : k ≤ zv_a h 56 p) (hw : zb_W [(44, 25), (61, 0), (57, 0), (58, 0), (59, 0), (60, 0)] h h2) (ld : ∀ j, 0 ≤ j → j < 14 → zv_a h2 61 j = zv_a h 55 (14 * p + j)) (sz : zv_i h2 25 = zv_a h 56 p) (hu : m = zs_ul (fun j => zv_a h 55 (14 * p + j)) 8) (e57 : ∀ f, 0 ≤ f → zv_a h2 57 f = if f = zv_i h 19 then p else zv_a h 57 f) (e58 : ∀ f, 0 ≤ f → zv_a h2 58 f = if f = zv_i h 19 then m else zv_a h 58 f) (e59 : ∀ f, 0 ≤ f → zv_a h2 59 f = if f = zv_i h 19 then zv_a h 56 p else zv_a h 59 f) (k60 : ∀ j, 0 ≤ j → j < m → zv_a h2 60 (14 * zv_i h 19 + j) = zv_a h 55 (14 * p + j)) (s60 : ∀ j, 0 ≤ j → j < k → zv_a h2 60 (14 * zv_i h 19 + m + j) = zv_a h 55 (14 * p + (8 + j))) (o60 : ∀ q, 0 ≤ q → q < 14 * zv_i h 19 → zv_a h2 60 q = zv_a h 60 q), (10 - k : Int).toNat < n → zx_T zp_P 1 zp_m178 97 [(0, .ref 44), (1, .int (zI (p))), (2, .int (zI (m))), (3, .int (zI (k)))] [] h2 (zr_V [(44, 25), (61, 0), (57, 0), (58, 0), (59, 0), (60, 0), (44, 19)] h (fun h' => zv_i h' 19 = zv_i h 19 + 1 ∧ (∀ f, 0 ≤ f → zv_a h' 57 f = if f = zv_i h 19 then p else zv_a h 57 f) ∧ (∀ f, 0 ≤ f → zv_a h' 58 f = if f = zv_i h 19 then zs_ul (fun j => zv_a h 55 (14 * p + j)) 8 else zv_a h 58 f) ∧ (∀ f, 0 ≤ f → zv_a h' 59 f = if f = zv_i h 19 then zv_a h 56 p else zv_a h 59 f) ∧ (∀ j, 0 ≤ j → j < zs_ul (fun j => zv_a h 55 (14 * p + j)) 8 → zv_a h' 60 (14 * zv_i h 19 + j) = zv_a h 55 (14 * p + j)) ∧ (∀ j, 0 ≤ j → j < zv_a h 56 p → zv_a h' 60 (14 * zv_i h 19 + zs_ul (fun j => zv_a h 55 (14 * p + j)) 8 + j) = zv_a h 55 (14 * p + (8 + j))) ∧ (∀ q, 0 ≤ q → q < 14 * zv_i h 19 → zv_a h' 60 q = zv_a h 60 q)))) := by
  induction n with
  | zero => exact ⟨fun _ _ _ _ _ _ _ hm => absurd hm (Nat.not_lt_zero _), fun _ _ _ _ _ _ _ _ _ _ _ _ _ _ hm => absurd hm (Nat.not_lt_zero _), fun _ _ _ _ _ _ _ _ _ _ _ _ _ _ _ hm => absurd hm (Nat.not_lt_zero _)⟩
  | succ n ih =>
    refine ⟨?_, ?_, ?_⟩
    · intro h2 m hI2 m1 m2 hw ld sz hz hm
      have hF := zv_ri hI (k := 19) rfl
      have hSp := zv_ra hI (a := 56) rfl rfl p
      have hU := zs_ul_r (row := (fun j => zv_a h 55 (14 * p + j))) 8
      refine zx_T.l (i := .iload_n 2) (k := 1) (v := .int (zI (m))) (pc := 8) rfl rfl rfl ?_
      refine zr_i1 (x := m) (t := 29) (pc := 9) rfl rfl (by omega) (by omega) (fun (c1 : m ≤ 0) => ?_) (fun (c1 : ¬ (m ≤ 0)) => ?_)
      · have uE : m = zs_ul (fun j => zv_a h 55 (14 * p + j)) 8 := (zs_ul_u 8 m1 m2 (fun j j0 j1 => by show zv_a h 55 (14 * p + j) = 0; rw [← ld j (by omega) (by have j2 : j < 8 := j1; omega)]; exact hz j j0 j1) (fun z => by show ¬ zv_a h 55 (14 * p + (m - 1)) = 0; rw [← ld (m - 1) (by omega) (by omega)]; omega)).symm
        refine zx_T.l (i := .aload_n 0) (k := 1) (v := .ref 44) (pc := 29) rfl rfl rfl ?_
        refine zr_gr (k := 20) (b := 57) (pc := 30) rfl rfl rfl hI2 ?_
        refine zx_T.l (i := .aload_n 0) (k := 1) (v := .ref 44) (pc := 33) rfl rfl rfl ?_
        refine zr_gi (k := 19) (lo := 0) (hi := 60) (e := zv_i h 19) (pc := 34) rfl rfl rfl hI2 (zv_wi hw rfl) (fun g2a g2b => ?_)
        refine zx_T.l (i := .iload_n 1) (k := 1) (v := .int (zI (p))) (pc := 37) rfl rfl rfl ?_
        refine zr_as (n := 60) (lo := 0) (hi := 59) (e := p) (pc := 38) rfl rfl rfl rfl hI2 (by omega) (by omega) (by omega) (by omega) (fun h3 ih3 w4 s5 => ?_)
        refine zx_T.l (i := .aload_n 0) (k := 1) (v := .ref 44) (pc := 39) rfl rfl rfl ?_
        refine zr_gr (k := 21) (b := 58) (pc := 40) rfl rfl rfl ih3 ?_
        refine zx_T.l (i := .aload_n 0) (k := 1) (v := .ref 44) (pc := 43) rfl rfl rfl ?_
        refine zr_gi (k := 19) (lo := 0) (hi := 60) (e := zv_i h 19) (pc := 44) rfl rfl rfl ih3 ((zv_wi w4 rfl).trans (zv_wi hw rfl)) (fun g6a g6b => ?_)
        refine zx_T.l (i := .iload_n 2) (k := 1) (v := .int (zI (m))) (pc := 47) rfl rfl rfl ?_
        refine zr_as (n := 60) (lo := 0) (hi := 8) (e := m) (pc := 48) rfl rfl rfl rfl ih3 (by omega) (by omega) (by omega) (by omega) (fun h7 ih7 w8 s9 => ?_)
        refine zx_T.l (i := .aload_n 0) (k := 1) (v := .ref 44) (pc := 49) rfl rfl rfl ?_
        refine zr_gr (k := 22) (b := 59) (pc := 50) rfl rfl rfl ih7 ?_
        refine zx_T.l (i := .aload_n 0) (k := 1) (v := .ref 44) (pc := 53) rfl rfl rfl ?_
        refine zr_gi (k := 19) (lo := 0) (hi := 60) (e := zv_i h 19) (pc := 54) rfl rfl rfl ih7 ((zv_wi w8 rfl).trans ((zv_wi w4 rfl).trans (zv_wi hw rfl))) (fun g10a g10b => ?_)
        refine zx_T.l (i := .aload_n 0) (k := 1) (v := .ref 44) (pc := 57) rfl rfl rfl ?_
        refine zr_gi (k := 25) (lo := 0) (hi := 6) (e := zv_i h2 25) (pc := 58) rfl rfl rfl ih7 ((zv_wi w8 rfl).trans (zv_wi w4 rfl)) (fun g11a g11b => ?_)
        refine zr_as (n := 60) (lo := 0) (hi := 6) (e := zv_i h2 25) (pc := 61) rfl rfl rfl rfl ih7 (by omega) (by omega) (by omega) (by omega) (fun h12 ih12 w13 s14 => ?_)
        refine zx_T.s (i := .iconst 0) (k := 1) (st' := [.int (zI (0))]) (pc := 62) rfl rfl ?_
        refine zx_T.t (i := .istore_n 3) (k := 1) (ls' := [(3, .int (zI (0))), (0, .ref 44), (1, .int (zI (p))), (2, .int (zI (m)))]) (st' := []) (pc := 63) rfl rfl rfl rfl ?_
        have a57 : ∀ j, 0 ≤ j → zv_a h12 57 j = if j = zv_i h 19 then p else zv_a h 57 j := fun j hj => by rw [zv_wa w13 rfl j, zv_wa w8 rfl j, s5 j hj, zv_wa hw rfl j]
        have a58 : ∀ j, 0 ≤ j → zv_a h12 58 j = if j = zv_i h 19 then m else zv_a h 58 j := fun j hj => by rw [zv_wa w13 rfl j, s9 j hj, zv_wa w4 rfl j, zv_wa hw rfl j]
        have a59 : ∀ j, 0 ≤ j → zv_a h12 59 j = if j = zv_i h 19 then zv_i h2 25 else zv_a h 59 j := fun j hj => by rw [s14 j hj, zv_wa w8 rfl j, zv_wa w4 rfl j, zv_wa hw rfl j]
        have a60 : ∀ j, 0 ≤ j → zv_a h12 60 j = zv_a h 60 j := fun j hj => by rw [zv_wa w13 rfl j, zv_wa w8 rfl j, zv_wa w4 rfl j, zv_wa hw rfl j]
        have y19 : zv_i h12 25 = zv_i h2 25 := ((zv_wi w13 rfl).trans ((zv_wi w8 rfl).trans (zv_wi w4 rfl)))
        refine zx_T.lk (ls' := [(0, .ref 44), (1, .int (zI (p))), (2, .int (zI (m))), (3, .int (zI (0)))]) rfl ⟨rfl, rfl, rfl, rfl, trivial⟩ ?_
        exact ih.2.1 (h2 := h12) (m := m) (k := 0) ih12 (by omega) (by omega) (by omega) (by omega) ((((hw.wd rfl : zb_W [(44, 25), (61, 0), (57, 0), (58, 0), (59, 0), (60, 0)] h _).tr (w4.wd rfl)).tr (w8.wd rfl)).tr (w13.wd rfl)) (fun j j0 j1 => by rw [zv_wa (((w4.wd rfl : zb_W [(57, 0), (58, 0), (59, 0), (60, 0)] h2 _).tr (w8.wd rfl)).tr (w13.wd rfl)) rfl]; exact ld j j0 j1) (by omega) uE (fun f f0 => a57 f f0) (fun f f0 => a58 f f0) (fun f f0 => (a59 f f0).trans (by rw [sz])) (fun j j0 j1 => absurd j1 (by omega)) (fun q q0 q1 => a60 q q0) (by omega)
      · refine zx_T.l (i := .aload_n 0) (k := 1) (v := .ref 44) (pc := 12) rfl rfl rfl ?_
        refine zr_gr (k := 24) (b := 61) (pc := 13) rfl rfl rfl hI2 ?_
        refine zx_T.l (i := .iload_n 2) (k := 1) (v := .int (zI (m))) (pc := 16) rfl rfl rfl ?_
        refine zx_T.s (i := .iconst 1) (k := 1) (st' := [.int (zI (1)), .int (zI (m)), .ref 61]) (pc := 17) rfl rfl ?_
        refine zr_sub (x := m) (y := 1) (e := m - 1) (pc := 18) rfl (by omega) ?_
        refine zr_al (n := 14) (lo := 0) (hi := 8) (e := zv_a h2 61 (m - 1)) (pc := 19) rfl rfl rfl hI2 (by omega) (by omega) rfl (fun g20a g20b => ?_)
        refine zr_i1 (x := zv_a h2 61 (m - 1)) (t := 29) (pc := 20) rfl rfl (by omega) (by omega) (fun (c21 : ¬ (zv_a h2 61 (m - 1)) = 0) => ?_) (fun (c21 : ¬ (¬ (zv_a h2 61 (m - 1)) = 0)) => ?_)
        · have uE : m = zs_ul (fun j => zv_a h 55 (14 * p + j)) 8 := (zs_ul_u 8 m1 m2 (fun j j0 j1 => by show zv_a h 55 (14 * p + j) = 0; rw [← ld j (by omega) (by have j2 : j < 8 := j1; omega)]; exact hz j j0 j1) (fun z => by show ¬ zv_a h 55 (14 * p + (m - 1)) = 0; rw [← ld (m - 1) (by omega) (by omega)]; omega)).symm
          refine zx_T.l (i := .aload_n 0) (k := 1) (v := .ref 44) (pc := 29) rfl rfl rfl ?_
          refine zr_gr (k := 20) (b := 57) (pc := 30) rfl rfl rfl hI2 ?_
          refine zx_T.l (i := .aload_n 0) (k := 1) (v := .ref 44) (pc := 33) rfl rfl rfl ?_
          refine zr_gi (k := 19) (lo := 0) (hi := 60) (e := zv_i h 19) (pc := 34) rfl rfl rfl hI2 (zv_wi hw rfl) (fun g22a g22b => ?_)
          refine zx_T.l (i := .iload_n 1) (k := 1) (v := .int (zI (p))) (pc := 37) rfl rfl rfl ?_
          refine zr_as (n := 60) (lo := 0) (hi := 59) (e := p) (pc := 38) rfl rfl rfl rfl hI2 (by omega) (by omega) (by omega) (by omega) (fun h23 ih23 w24 s25 => ?_)
          refine zx_T.l (i := .aload_n 0) (k := 1) (v := .ref 44) (pc := 39) rfl rfl rfl ?_
          refine zr_gr (k := 21) (b := 58) (pc := 40) rfl rfl rfl ih23 ?_
          refine zx_T.l (i := .aload_n 0) (k := 1) (v := .ref 44) (pc := 43) rfl rfl rfl ?_
          refine zr_gi (k := 19) (lo := 0) (hi := 60) (e := zv_i h 19) (pc := 44) rfl rfl rfl ih23 ((zv_wi w24 rfl).trans (zv_wi hw rfl)) (fun g26a g26b => ?_)
          refine zx_T.l (i := .iload_n 2) (k := 1) (v := .int (zI (m))) (pc := 47) rfl rfl rfl ?_
          refine zr_as (n := 60) (lo := 0) (hi := 8) (e := m) (pc := 48) rfl rfl rfl rfl ih23 (by omega) (by omega) (by omega) (by omega) (fun h27 ih27 w28 s29 => ?_)
          refine zx_T.l (i := .aload_n 0) (k := 1) (v := .ref 44) (pc := 49) rfl rfl rfl ?_
          refine zr_gr (k := 22) (b := 59) (pc := 50) rfl rfl rfl ih27 ?_
          refine zx_T.l (i := .aload_n 0) (k := 1) (v := .ref 44) (pc := 53) rfl rfl rfl ?_
          refine zr_gi (k := 19) (lo := 0) (hi := 60) (e := zv_i h 19) (pc := 54) rfl rfl rfl ih27 ((zv_wi w28 rfl).trans ((zv_wi w24 rfl).trans (zv_wi hw rfl))) (fun g30a g30b => ?_)
          refine zx_T.l (i := .aload_n 0) (k := 1) (v := .ref 44) (pc := 57) rfl rfl rfl ?_
          refine zr_gi (k := 25) (lo := 0) (hi := 6) (e := zv_i h2 25) (pc := 58) rfl rfl rfl ih27 ((zv_wi w28 rfl).trans (zv_wi w24 rfl)) (fun g31a g31b => ?_)
          refine zr_as (n := 60) (lo := 0) (hi := 6) (e := zv_i h2 25) (pc := 61) rfl rfl rfl rfl ih27 (by omega) (by omega) (by omega) (by omega) (fun h32 ih32 w33 s34 => ?_)
          refine zx_T.s (i := .iconst 0) (k := 1) (st' := [.int (zI (0))]) (pc := 62) rfl rfl ?_
          refine zx_T.t (i := .istore_n 3) (k := 1) (ls' := [(3, .int (zI (0))), (0, .ref 44), (1, .int (zI (p))), (2, .int (zI (m)))]) (st' := []) (pc := 63) rfl rfl rfl rfl ?_
          have a57 : ∀ j, 0 ≤ j → zv_a h32 57 j = if j = zv_i h 19 then p else zv_a h 57 j := fun j hj => by rw [zv_wa w33 rfl j, zv_wa w28 rfl j, s25 j hj, zv_wa hw rfl j]
          have a58 : ∀ j, 0 ≤ j → zv_a h32 58 j = if j = zv_i h 19 then m else zv_a h 58 j := fun j hj => by rw [zv_wa w33 rfl j, s29 j hj, zv_wa w24 rfl j, zv_wa hw rfl j]
          have a59 : ∀ j, 0 ≤ j → zv_a h32 59 j = if j = zv_i h 19 then zv_i h2 25 else zv_a h 59 j := fun j hj => by rw [s34 j hj, zv_wa w28 rfl j, zv_wa w24 rfl j, zv_wa hw rfl j]
          have a60 : ∀ j, 0 ≤ j → zv_a h32 60 j = zv_a h 60 j := fun j hj => by rw [zv_wa w33 rfl j, zv_wa w28 rfl j, zv_wa w24 rfl j, zv_wa hw rfl j]
          have y39 : zv_i h32 25 = zv_i h2 25 := ((zv_wi w33 rfl).trans ((zv_wi w28 rfl).trans (zv_wi w24 rfl)))
          refine zx_T.lk (ls' := [(0, .ref 44), (1, .int (zI (p))), (2, .int (zI (m))), (3, .int (zI (0)))]) rfl ⟨rfl, rfl, rfl, rfl, trivial⟩ ?_
          exact ih.2.1 (h2 := h32) (m := m) (k := 0) ih32 (by omega) (by omega) (by omega) (by omega) ((((hw.wd rfl : zb_W [(44, 25), (61, 0), (57, 0), (58, 0), (59, 0), (60, 0)] h _).tr (w24.wd rfl)).tr (w28.wd rfl)).tr (w33.wd rfl)) (fun j j0 j1 => by rw [zv_wa (((w24.wd rfl : zb_W [(57, 0), (58, 0), (59, 0), (60, 0)] h2 _).tr (w28.wd rfl)).tr (w33.wd rfl)) rfl]; exact ld j j0 j1) (by omega) uE (fun f f0 => a57 f f0) (fun f f0 => a58 f f0) (fun f f0 => (a59 f f0).trans (by rw [sz])) (fun j j0 j1 => absurd j1 (by omega)) (fun q q0 q1 => a60 q q0) (by omega)
        · refine zr_inc (x := m) (n := (-1)) (y := m - 1) (ls' := [(2, .int (zI (m - 1))), (0, .ref 44), (1, .int (zI (p)))]) (pc := 23) rfl rfl rfl (by omega) rfl ?_
          refine zx_T.j (i := .goto (-18)) (k := 3) (pc' := 8) (st' := []) (pc := 26) rfl rfl rfl rfl rfl ?_
          refine zx_T.lk (ls' := [(0, .ref 44), (1, .int (zI (p))), (2, .int (zI (m - 1)))]) rfl ⟨rfl, rfl, rfl, trivial⟩ ?_
          exact ih.1 (h2 := h2) (m := m - 1) hI2 (by omega) (by omega) (hw.wd rfl : zb_W [(44, 25), (61, 0)] h _) ld (by omega) (fun j j0 j1 => by rcases (show j = m - 1 ∨ m ≤ j by omega) with z | z; (rw [z]; omega); exact hz j z j1) (by omega)
    · intro h2 m k hI2 m1 m2 k1 k2 hw ld sz hu e57 e58 e59 k60 o60 hm
      have hF := zv_ri hI (k := 19) rfl
      have hSp := zv_ra hI (a := 56) rfl rfl p
      have hU := zs_ul_r (row := (fun j => zv_a h 55 (14 * p + j))) 8
      refine zx_T.l (i := .iload_n 3) (k := 1) (v := .int (zI (k))) (pc := 64) rfl rfl rfl ?_
      refine zx_T.l (i := .iload_n 2) (k := 1) (v := .int (zI (m))) (pc := 65) rfl rfl rfl ?_
      refine zr_i2 (x := k) (y := m) (t := 95) (pc := 66) rfl rfl (by omega) (by omega) (by omega) (by omega) (fun (c41 : m ≤ k) => ?_) (fun (c41 : ¬ (m ≤ k)) => ?_)
      · refine zx_T.s (i := .iconst 0) (k := 1) (st' := [.int (zI (0))]) (pc := 95) rfl rfl ?_
        refine zx_T.t (i := .istore_n 3) (k := 1) (ls' := [(3, .int (zI (0))), (0, .ref 44), (1, .int (zI (p))), (2, .int (zI (m)))]) (st' := []) (pc := 96) rfl rfl rfl rfl ?_
        have a57 : ∀ j, 0 ≤ j → zv_a h2 57 j = zv_a h2 57 j := fun j hj => rfl
        have a58 : ∀ j, 0 ≤ j → zv_a h2 58 j = zv_a h2 58 j := fun j hj => rfl
        have a59 : ∀ j, 0 ≤ j → zv_a h2 59 j = zv_a h2 59 j := fun j hj => rfl
        have a60 : ∀ j, 0 ≤ j → zv_a h2 60 j = zv_a h2 60 j := fun j hj => rfl
        refine zx_T.lk (ls' := [(0, .ref 44), (1, .int (zI (p))), (2, .int (zI (m))), (3, .int (zI (0)))]) rfl ⟨rfl, rfl, rfl, rfl, trivial⟩ ?_
        exact ih.2.2 (h2 := h2) (m := m) (k := 0) hI2 (by omega) (by omega) (by omega) (by omega) (hw.wd rfl : zb_W [(44, 25), (61, 0), (57, 0), (58, 0), (59, 0), (60, 0)] h _) ld (by omega) hu e57 e58 e59 (fun j j0 j1 => k60 j j0 (by omega)) (fun j j0 j1 => absurd j1 (by omega)) o60 (by omega)
      · refine zx_T.l (i := .aload_n 0) (k := 1) (v := .ref 44) (pc := 69) rfl rfl rfl ?_
        refine zr_gr (k := 23) (b := 60) (pc := 70) rfl rfl rfl hI2 ?_
        refine zx_T.s (i := .bipush 14) (k := 2) (st' := [.int (zI (14)), .ref 60]) (pc := 73) rfl rfl ?_
        refine zx_T.l (i := .aload_n 0) (k := 1) (v := .ref 44) (pc := 75) rfl rfl rfl ?_
        refine zr_gi (k := 19) (lo := 0) (hi := 60) (e := zv_i h 19) (pc := 76) rfl rfl rfl hI2 (zv_wi hw rfl) (fun g47a g47b => ?_)
        refine zr_mul (x := 14) (y := zv_i h 19) (e := 14 * (zv_i h 19)) (pc := 79) rfl (by omega) ?_
        refine zx_T.l (i := .iload_n 3) (k := 1) (v := .int (zI (k))) (pc := 80) rfl rfl rfl ?_
        refine zr_add (x := 14 * (zv_i h 19)) (y := k) (e := 14 * (zv_i h 19) + k) (pc := 81) rfl (by omega) ?_
        refine zx_T.l (i := .aload_n 0) (k := 1) (v := .ref 44) (pc := 82) rfl rfl rfl ?_
        refine zr_gr (k := 24) (b := 61) (pc := 83) rfl rfl rfl hI2 ?_
        refine zx_T.l (i := .iload_n 3) (k := 1) (v := .int (zI (k))) (pc := 86) rfl rfl rfl ?_
        refine zr_al (n := 14) (lo := 0) (hi := 8) (e := zv_a h2 61 k) (pc := 87) rfl rfl rfl hI2 (by omega) (by omega) rfl (fun g48a g48b => ?_)
        refine zr_as (n := 840) (lo := 0) (hi := 8) (e := zv_a h2 61 k) (pc := 88) rfl rfl rfl rfl hI2 (by omega) (by omega) (by omega) (by omega) (fun h49 ih49 w50 s51 => ?_)
        refine zr_inc (x := k) (n := 1) (y := k + 1) (ls' := [(3, .int (zI (k + 1))), (0, .ref 44), (1, .int (zI (p))), (2, .int (zI (m)))]) (pc := 89) rfl rfl rfl (by omega) rfl ?_
        refine zx_T.j (i := .goto (-28)) (k := 3) (pc' := 64) (st' := []) (pc := 92) rfl rfl rfl rfl rfl ?_
        have a57 : ∀ j, 0 ≤ j → zv_a h49 57 j = zv_a h2 57 j := fun j hj => by rw [zv_wa w50 rfl j]
        have a58 : ∀ j, 0 ≤ j → zv_a h49 58 j = zv_a h2 58 j := fun j hj => by rw [zv_wa w50 rfl j]
        have a59 : ∀ j, 0 ≤ j → zv_a h49 59 j = zv_a h2 59 j := fun j hj => by rw [zv_wa w50 rfl j]
        have a60 : ∀ j, 0 ≤ j → zv_a h49 60 j = if j = 14 * (zv_i h 19) + k then zv_a h2 61 k else zv_a h2 60 j := fun j hj => by rw [s51 j hj]
        have y56 : zv_i h49 25 = zv_i h2 25 := (zv_wi w50 rfl)
        refine zx_T.lk (ls' := [(0, .ref 44), (1, .int (zI (p))), (2, .int (zI (m))), (3, .int (zI (k + 1)))]) rfl ⟨rfl, rfl, rfl, rfl, trivial⟩ ?_
        exact ih.2.1 (h2 := h49) (m := m) (k := k + 1) ih49 (by omega) (by omega) (by omega) (by omega) ((hw.wd rfl : zb_W [(44, 25), (61, 0), (57, 0), (58, 0), (59, 0), (60, 0)] h _).tr (w50.wd rfl)) (fun j j0 j1 => by rw [zv_wa (w50.wd rfl : zb_W [(57, 0), (58, 0), (59, 0), (60, 0)] h2 _) rfl]; exact ld j j0 j1) (by omega) hu (fun f f0 => by rw [a57 f f0]; exact e57 f f0) (fun f f0 => by rw [a58 f f0]; exact e58 f f0) (fun f f0 => by rw [a59 f f0]; exact e59 f f0) (fun j j0 j1 => by rw [a60 _ (by omega)]; by_cases z : j = k; (rw [z, if_pos (by omega)]; exact ld k k1 (by omega)); (rw [if_neg (by omega)]; exact k60 j j0 (by omega))) (fun q q0 q1 => by rw [a60 q q0, if_neg (by omega)]; exact o60 q q0 q1) (by omega)
    · intro h2 m k hI2 m1 m2 k1 k2 hw ld sz hu e57 e58 e59 k60 s60 o60 hm
      have hF := zv_ri hI (k := 19) rfl
      have hSp := zv_ra hI (a := 56) rfl rfl p
      have hU := zs_ul_r (row := (fun j => zv_a h 55 (14 * p + j))) 8
      have hS2 := zv_ri hI2 (k := 25) rfl
      refine zx_T.l (i := .iload_n 3) (k := 1) (v := .int (zI (k))) (pc := 97) rfl rfl rfl ?_
      refine zx_T.l (i := .aload_n 0) (k := 1) (v := .ref 44) (pc := 98) rfl rfl rfl ?_
      refine zr_gi (k := 25) (lo := 0) (hi := 6) (e := zv_i h2 25) (pc := 99) rfl rfl rfl hI2 rfl (fun g57a g57b => ?_)
      refine zr_i2 (x := k) (y := zv_i h2 25) (t := 136) (pc := 102) rfl rfl (by omega) (by omega) (by omega) (by omega) (fun (c58 : (zv_i h2 25) ≤ k) => ?_) (fun (c58 : ¬ ((zv_i h2 25) ≤ k)) => ?_)
      · refine zx_T.l (i := .aload_n 0) (k := 1) (v := .ref 44) (pc := 136) rfl rfl rfl ?_
        refine zx_T.s (i := .dup) (k := 1) (st' := [.ref 44, .ref 44]) (pc := 137) rfl rfl ?_
        refine zr_gi (k := 19) (lo := 0) (hi := 60) (e := zv_i h 19) (pc := 138) rfl rfl rfl hI2 (zv_wi hw rfl) (fun g59a g59b => ?_)
        refine zx_T.s (i := .iconst 1) (k := 1) (st' := [.int (zI (1)), .int (zI (zv_i h 19)), .ref 44]) (pc := 141) rfl rfl ?_
        refine zr_add (x := zv_i h 19) (y := 1) (e := zv_i h 19 + 1) (pc := 142) rfl (by omega) ?_
        refine zr_pi (k := 19) (lo := 0) (hi := 60) (e := zv_i h 19 + 1) (pc := 143) rfl rfl rfl rfl rfl rfl hI2 (by omega) (by omega) (fun h60 ih60 w61 e62 => ?_)
        have y63 : zv_i h60 19 = zv_i h 19 + 1 := e62
        have a57 : ∀ j, 0 ≤ j → zv_a h60 57 j = zv_a h2 57 j := fun j hj => by rw [zv_wa w61 rfl j]
        have a58 : ∀ j, 0 ≤ j → zv_a h60 58 j = zv_a h2 58 j := fun j hj => by rw [zv_wa w61 rfl j]
        have a59 : ∀ j, 0 ≤ j → zv_a h60 59 j = zv_a h2 59 j := fun j hj => by rw [zv_wa w61 rfl j]
        have a60 : ∀ j, 0 ≤ j → zv_a h60 60 j = zv_a h2 60 j := fun j hj => by rw [zv_wa w61 rfl j]
        exact zr_vr (pc := 146) rfl rfl ⟨ih60, ((hw.wd rfl : zb_W [(44, 25), (61, 0), (57, 0), (58, 0), (59, 0), (60, 0), (44, 19)] h _).tr (w61.wd rfl)), rfl, by dsimp only; exact ⟨by omega, fun f f0 => by rw [a57 f f0]; exact e57 f f0, fun f f0 => by rw [a58 f f0, ← hu]; exact e58 f f0, fun f f0 => by rw [a59 f f0]; exact e59 f f0, fun j j0 j1 => by rw [a60 _ (by omega)]; exact k60 j j0 (by rw [hu]; exact j1), fun j j0 j1 => by rw [← hu, a60 _ (by omega)]; exact s60 j j0 (by omega), fun q q0 q1 => by rw [a60 q q0]; exact o60 q q0 q1⟩⟩
      · refine zx_T.l (i := .aload_n 0) (k := 1) (v := .ref 44) (pc := 105) rfl rfl rfl ?_
        refine zr_gr (k := 23) (b := 60) (pc := 106) rfl rfl rfl hI2 ?_
        refine zx_T.s (i := .bipush 14) (k := 2) (st' := [.int (zI (14)), .ref 60]) (pc := 109) rfl rfl ?_
        refine zx_T.l (i := .aload_n 0) (k := 1) (v := .ref 44) (pc := 111) rfl rfl rfl ?_
        refine zr_gi (k := 19) (lo := 0) (hi := 60) (e := zv_i h 19) (pc := 112) rfl rfl rfl hI2 (zv_wi hw rfl) (fun g68a g68b => ?_)
        refine zr_mul (x := 14) (y := zv_i h 19) (e := 14 * (zv_i h 19)) (pc := 115) rfl (by omega) ?_
        refine zx_T.l (i := .iload_n 2) (k := 1) (v := .int (zI (m))) (pc := 116) rfl rfl rfl ?_
        refine zr_add (x := 14 * (zv_i h 19)) (y := m) (e := 14 * (zv_i h 19) + m) (pc := 117) rfl (by omega) ?_
        refine zx_T.l (i := .iload_n 3) (k := 1) (v := .int (zI (k))) (pc := 118) rfl rfl rfl ?_
        refine zr_add (x := 14 * (zv_i h 19) + m) (y := k) (e := 14 * (zv_i h 19) + k + m) (pc := 119) rfl (by omega) ?_
        refine zx_T.l (i := .aload_n 0) (k := 1) (v := .ref 44) (pc := 120) rfl rfl rfl ?_
        refine zr_gr (k := 24) (b := 61) (pc := 121) rfl rfl rfl hI2 ?_
        refine zx_T.s (i := .bipush 8) (k := 2) (st' := [.int (zI (8)), .ref 61, .int (zI (14 * (zv_i h 19) + k + m)), .ref 60]) (pc := 124) rfl rfl ?_
        refine zx_T.l (i := .iload_n 3) (k := 1) (v := .int (zI (k))) (pc := 126) rfl rfl rfl ?_
        refine zr_add (x := 8) (y := k) (e := k + 8) (pc := 127) rfl (by omega) ?_
        refine zr_al (n := 14) (lo := 0) (hi := 8) (e := zv_a h2 61 (k + 8)) (pc := 128) rfl rfl rfl hI2 (by omega) (by omega) rfl (fun g69a g69b => ?_)
        refine zr_as (n := 840) (lo := 0) (hi := 8) (e := zv_a h2 61 (k + 8)) (pc := 129) rfl rfl rfl rfl hI2 (by omega) (by omega) (by omega) (by omega) (fun h70 ih70 w71 s72 => ?_)
        refine zr_inc (x := k) (n := 1) (y := k + 1) (ls' := [(3, .int (zI (k + 1))), (0, .ref 44), (1, .int (zI (p))), (2, .int (zI (m)))]) (pc := 130) rfl rfl rfl (by omega) rfl ?_
        refine zx_T.j (i := .goto (-36)) (k := 3) (pc' := 97) (st' := []) (pc := 133) rfl rfl rfl rfl rfl ?_
        have a57 : ∀ j, 0 ≤ j → zv_a h70 57 j = zv_a h2 57 j := fun j hj => by rw [zv_wa w71 rfl j]
        have a58 : ∀ j, 0 ≤ j → zv_a h70 58 j = zv_a h2 58 j := fun j hj => by rw [zv_wa w71 rfl j]
        have a59 : ∀ j, 0 ≤ j → zv_a h70 59 j = zv_a h2 59 j := fun j hj => by rw [zv_wa w71 rfl j]
        have a60 : ∀ j, 0 ≤ j → zv_a h70 60 j = if j = 14 * (zv_i h 19) + k + m then zv_a h2 61 (k + 8) else zv_a h2 60 j := fun j hj => by rw [s72 j hj]
        have y77 : zv_i h70 25 = zv_i h2 25 := (zv_wi w71 rfl)
        refine zx_T.lk (ls' := [(0, .ref 44), (1, .int (zI (p))), (2, .int (zI (m))), (3, .int (zI (k + 1)))]) rfl ⟨rfl, rfl, rfl, rfl, trivial⟩ ?_
        exact ih.2.2 (h2 := h70) (m := m) (k := k + 1) ih70 (by omega) (by omega) (by omega) (by omega) ((hw.wd rfl : zb_W [(44, 25), (61, 0), (57, 0), (58, 0), (59, 0), (60, 0)] h _).tr (w71.wd rfl)) (fun j j0 j1 => by rw [zv_wa (w71.wd rfl : zb_W [(57, 0), (58, 0), (59, 0), (60, 0)] h2 _) rfl]; exact ld j j0 j1) (by omega) hu (fun f f0 => by rw [a57 f f0]; exact e57 f f0) (fun f f0 => by rw [a58 f f0]; exact e58 f f0) (fun f f0 => by rw [a59 f f0]; exact e59 f f0) (fun j j0 j1 => by rw [a60 _ (by omega), if_neg (by omega)]; exact k60 j j0 j1) (fun j j0 j1 => by rw [a60 _ (by omega)]; by_cases z : j = k; (rw [z, if_pos (by omega)]; rw [show k + 8 = 8 + k by omega]; exact ld (8 + k) (by omega) (by omega)); (rw [if_neg (by omega)]; exact s60 j j0 (by omega))) (fun q q0 q1 => by rw [a60 q q0, if_neg (by omega)]; exact o60 q q0 q1) (by omega)
set_option maxRecDepth 100000 in
set_option maxHeartbeats 4000000 in
theorem zm_keepF {h : zx_H} (hI : zb_I zc_H h) {p : Int} (p1 : 0 ≤ p) (p2 : p ≤ 59) (fr9 : zv_i h 19 ≤ 59) : zx_T zp_P 1 zp_m178 0 [(0, .ref 44), (1, .int (zI (p)))] [] h (zr_V [(44, 25), (61, 0), (57, 0), (58, 0), (59, 0), (60, 0), (44, 19)] h (fun h' => zv_i h' 19 = zv_i h 19 + 1 ∧ (∀ f, 0 ≤ f → zv_a h' 57 f = if f = zv_i h 19 then p else zv_a h 57 f) ∧ (∀ f, 0 ≤ f → zv_a h' 58 f = if f = zv_i h 19 then zs_ul (fun j => zv_a h 55 (14 * p + j)) 8 else zv_a h 58 f) ∧ (∀ f, 0 ≤ f → zv_a h' 59 f = if f = zv_i h 19 then zv_a h 56 p else zv_a h 59 f) ∧ (∀ j, 0 ≤ j → j < zs_ul (fun j => zv_a h 55 (14 * p + j)) 8 → zv_a h' 60 (14 * zv_i h 19 + j) = zv_a h 55 (14 * p + j)) ∧ (∀ j, 0 ≤ j → j < zv_a h 56 p → zv_a h' 60 (14 * zv_i h 19 + zs_ul (fun j => zv_a h 55 (14 * p + j)) 8 + j) = zv_a h 55 (14 * p + (8 + j))) ∧ (∀ q, 0 ≤ q → q < 14 * zv_i h 19 → zv_a h' 60 q = zv_a h 60 q))) := by
  have hF := zv_ri hI (k := 19) rfl
  have hSp := zv_ra hI (a := 56) rfl rfl p
  have hU := zs_ul_r (row := (fun j => zv_a h 55 (14 * p + j))) 8
  refine zx_T.l (i := .aload_n 0) (k := 1) (v := .ref 44) (pc := 0) rfl rfl rfl ?_
  refine zx_T.l (i := .iload_n 1) (k := 1) (v := .int (zI (p))) (pc := 1) rfl rfl rfl ?_
  refine zr_iv (cj := 173) (q' := zp_m173) (As := [.int (zI (p))]) (rest := []) (pc := 2) rfl rfl rfl rfl rfl rfl (Nat.le_of_ble_eq_true rfl) rfl (Nat.le_of_ble_eq_true rfl) hI ((zm_lay (h := h) hI (p := p) (by omega) (by omega)).up (Nat.le_of_ble_eq_true rfl)) ?_
  rintro r78 h81 ⟨ih81, w82, r78q, x80⟩
  subst r78q
  try dsimp only at x80
  have yj := x80.2
  have ys := x80.1
  show zx_T zp_P 1 zp_m178 5 [(0, .ref 44), (1, .int (zI (p)))] [] h81 _
  refine zx_T.s (i := .bipush 8) (k := 2) (st' := [.int (zI (8))]) (pc := 5) rfl rfl ?_
  refine zx_T.t (i := .istore_n 2) (k := 1) (ls' := [(2, .int (zI (8))), (0, .ref 44), (1, .int (zI (p)))]) (st' := []) (pc := 7) rfl rfl rfl rfl ?_
  refine zx_T.lk (ls' := [(0, .ref 44), (1, .int (zI (p))), (2, .int (zI (8)))]) rfl ⟨rfl, rfl, rfl, trivial⟩ ?_
  exact (zm_keepF_L (h := h) hI (p := p) p1 p2 fr9 ((8 + 100 : Int).toNat + 1)).1 (h2 := h81) (m := 8) ih81 (by omega) (by omega) (w82.wd rfl : zb_W [(44, 25), (61, 0)] h _) yj (by omega) (fun j j0 j1 => absurd j1 (by omega)) (Nat.lt_succ_self _)

set_option maxRecDepth 100000 in
set_option maxHeartbeats 8000000 in
theorem zm_makeH_L {h : zx_H} (hI : zb_I zc_H h)  (hk : zg_KI h) (hc : zg_CI h) (ht : zg_TI h) (hP : zP.ok (zr_Pg h)) (n : Nat) : (∀ {h2 : zx_H} {p : Int} (hI2 : zb_I zc_H h2) (p1 : 0 ≤ p) (p2 : p ≤ 60) (hw : zb_W [(44, 0), (44, 13), (44, 14), (44, 15), (44, 19), (54, 0), (44, 27), (56, 0), (55, 0), (63, 0), (44, 25), (61, 0), (62, 0), (44, 26), (57, 0), (58, 0), (59, 0), (60, 0)] h h2) (hk2 : zg_KI h2) (im : zv_i h2 13 = 0) (r0 : zv_i h2 15 = 0) (f0 : zv_i h2 19 = 0) (ft : zv_i h2 14 = 0) (cn : 1 ≤ zv_i h 1) (nr : ∀ q, 0 ≤ q → q < p → zv_a h2 54 q = 0), (1000000 + 100 - p : Int).toNat < n → zx_T zp_P 5 zp_m176 43 [(0, .ref 44), (1, .int (zI (p)))] [] h2 (zr_R [(44, 0), (44, 13), (44, 14), (44, 15), (44, 19), (54, 0), (44, 27), (56, 0), (55, 0), (63, 0), (44, 25), (61, 0), (62, 0), (44, 26), (57, 0), (58, 0), (59, 0), (60, 0)] h (fun e h' => zr_M h' (zr_Pg h) e ∧ (zv_i h' 13 = 1 → zr_Fr h' (zs_fr (zr_Pg h) (zs_make (zr_Pg h)).2.2.2 (zv_i h 1).toNat))))) ∧ (∀ {h2 : zx_H}  (hI2 : zb_I zc_H h2) (hw : zb_W [(44, 0), (44, 13), (44, 14), (44, 15), (44, 19), (54, 0), (44, 27), (56, 0), (55, 0), (63, 0), (44, 25), (61, 0), (62, 0), (44, 26), (57, 0), (58, 0), (59, 0), (60, 0)] h h2) (hk2 : zg_KI h2) (im : zv_i h2 13 = 0) (rr : 0 ≤ zv_i h2 15 ∧ zv_i h2 15 + zg_mu h2 ≤ 3421 ∧ (zv_i h2 27 = 1 → zv_i h2 15 + zg_mu h2 ≤ 3420)) (f0 : zv_i h2 19 = 0) (cn : 1 ≤ zv_i h 1) (ft : zv_i h2 14 = 0) (s2 : zS) (hA2 : zr_A h2 s2) (hO2 : zs_ok (zr_Pg h) s2) (hM : zs_make (zr_Pg h) = zs_rounds (zr_Pg h) (3421 - zv_i h2 15).toNat (zv_i h2 15) s2), (200 * zg_mu h2 + 100 * zv_i h2 27 + 105 : Int).toNat < n → zx_T zp_P 5 zp_m176 86 [(0, .ref 44)] [] h2 (zr_R [(44, 0), (44, 13), (44, 14), (44, 15), (44, 19), (54, 0), (44, 27), (56, 0), (55, 0), (63, 0), (44, 25), (61, 0), (62, 0), (44, 26), (57, 0), (58, 0), (59, 0), (60, 0)] h (fun e h' => zr_M h' (zr_Pg h) e ∧ (zv_i h' 13 = 1 → zr_Fr h' (zs_fr (zr_Pg h) (zs_make (zr_Pg h)).2.2.2 (zv_i h 1).toNat))))) ∧ (∀ {h2 : zx_H} {p : Int} (hI2 : zb_I zc_H h2) (p1 : 0 ≤ p) (p2 : p ≤ zv_i h 1) (hw : zb_W [(44, 0), (44, 13), (44, 14), (44, 15), (44, 19), (54, 0), (44, 27), (56, 0), (55, 0), (63, 0), (44, 25), (61, 0), (62, 0), (44, 26), (57, 0), (58, 0), (59, 0), (60, 0)] h h2) (hk2 : zg_KI h2) (im : zv_i h2 13 = 0) (rr : 0 ≤ zv_i h2 15 ∧ zv_i h2 15 + zg_mu h2 ≤ 3421 ∧ (zv_i h2 27 = 1 → zv_i h2 15 + zg_mu h2 ≤ 3420)) (f0 : zv_i h2 19 = 0) (cn : 1 ≤ zv_i h 1) (ft : zv_i h2 14 = 0) (s2 : zS) (hA2 : zr_A h2 s2) (hO2 : zs_ok (zr_Pg h) s2) (hM : zs_make (zr_Pg h) = zs_kt (zr_Pg h) (zv_i h2 15) (zs_pass (zr_Pg h) (zv_i h 1 - p).toNat s2)), (200 * zg_mu h2 + 100 * zv_i h2 27 + 170 - p : Int).toNat < n → zx_T zp_P 5 zp_m176 110 [(0, .ref 44), (2, .int (zI (p)))] [] h2 (zr_R [(44, 0), (44, 13), (44, 14), (44, 15), (44, 19), (54, 0), (44, 27), (56, 0), (55, 0), (63, 0), (44, 25), (61, 0), (62, 0), (44, 26), (57, 0), (58, 0), (59, 0), (60, 0)] h (fun e h' => zr_M h' (zr_Pg h) e ∧ (zv_i h' 13 = 1 → zr_Fr h' (zs_fr (zr_Pg h) (zs_make (zr_Pg h)).2.2.2 (zv_i h 1).toNat))))) ∧ (∀ {h2 : zx_H} {p : Int} (hI2 : zb_I zc_H h2) (p1 : 0 ≤ p) (p2 : p ≤ zv_i h 1) (hw : zb_W [(44, 0), (44, 13), (44, 14), (44, 15), (44, 19), (54, 0), (44, 27), (56, 0), (55, 0), (63, 0), (44, 25), (61, 0), (62, 0), (44, 26), (57, 0), (58, 0), (59, 0), (60, 0)] h h2) (im : zv_i h2 13 = 1) (cn : 1 ≤ zv_i h 1) (ft : zv_i h2 14 = 0) (s2 : zS) (hA2 : zr_A h2 s2) (hO2 : zs_ok (zr_Pg h) s2) (hM : zs_make (zr_Pg h) = (0, 0, zv_i h2 15, s2)) (fl : zv_i h2 19 ≤ p) (fc : zv_i h2 19 = zs_fc (zr_Pg h) s2 p.toNat) (fr4 : zr_Fr h2 (zs_fr (zr_Pg h) s2 p.toNat)), (100 - p : Int).toNat < n → zx_T zp_P 5 zp_m176 164 [(0, .ref 44), (2, .int (zI (p)))] [] h2 (zr_R [(44, 0), (44, 13), (44, 14), (44, 15), (44, 19), (54, 0), (44, 27), (56, 0), (55, 0), (63, 0), (44, 25), (61, 0), (62, 0), (44, 26), (57, 0), (58, 0), (59, 0), (60, 0)] h (fun e h' => zr_M h' (zr_Pg h) e ∧ (zv_i h' 13 = 1 → zr_Fr h' (zs_fr (zr_Pg h) (zs_make (zr_Pg h)).2.2.2 (zv_i h 1).toNat))))) := by
  induction n with
  | zero => exact ⟨fun _ _ _ _ _ _ _ _ _ _ _ hm => absurd hm (Nat.not_lt_zero _), fun _ _ _ _ _ _ _ _ _ _ _ _ hm => absurd hm (Nat.not_lt_zero _), fun _ _ _ _ _ _ _ _ _ _ _ _ _ _ hm => absurd hm (Nat.not_lt_zero _), fun _ _ _ _ _ _ _ _ _ _ _ _ _ _ hm => absurd hm (Nat.not_lt_zero _)⟩
  | succ n ih =>
    refine ⟨?_, ?_, ?_, ?_⟩
    · intro h2 p hI2 p1 p2 hw hk2 im r0 f0 ft cn nr hm
      have hC := zv_ri hI (k := 1) rfl
      have hH := zv_ri hI (k := 5) rfl
      refine zx_T.l (i := .iload_n 1) (k := 1) (v := .int (zI (p))) (pc := 43) rfl rfl rfl ?_
      refine zx_T.s (i := .bipush 60) (k := 2) (st' := [.int (zI (60)), .int (zI (p))]) (pc := 44) rfl rfl ?_
      refine zr_i2 (x := p) (y := 60) (t := 62) (pc := 46) rfl rfl (by omega) (by omega) (by omega) (by omega) (fun (c1 : 60 ≤ p) => ?_) (fun (c1 : ¬ (60 ≤ p)) => ?_)
      · refine zx_T.l (i := .aload_n 0) (k := 1) (v := .ref 44) (pc := 62) rfl rfl rfl ?_
        refine zx_T.l (i := .aload_n 0) (k := 1) (v := .ref 44) (pc := 63) rfl rfl rfl ?_
        refine zr_gr (k := 24) (b := 61) (pc := 64) rfl rfl rfl hI2 ?_
        refine zr_iv (cj := 172) (q' := zp_m172) (As := [.ref 61]) (rest := []) (pc := 67) rfl rfl rfl rfl rfl rfl (Nat.le_of_ble_eq_true rfl) rfl (Nat.le_of_ble_eq_true rfl) hI2 ((zm_begin_61 (h := h2) hI2  ).up (Nat.le_of_ble_eq_true rfl)) ?_
        rintro r2 h5 ⟨ih5, w6, r2q, x4⟩
        subst r2q
        try dsimp only at x4
        have bj := x4
        show zx_T zp_P 5 zp_m176 70 [(0, .ref 44), (1, .int (zI (p)))] [] h5 _
        refine zx_T.l (i := .aload_n 0) (k := 1) (v := .ref 44) (pc := 70) rfl rfl rfl ?_
        refine zx_T.s (i := .iconst 1) (k := 1) (st' := [.int (zI (1)), .ref 44]) (pc := 71) rfl rfl ?_
        refine zr_pi (k := 27) (lo := 0) (hi := 1) (e := 1) (pc := 72) rfl rfl rfl rfl rfl rfl ih5 (by omega) (by omega) (fun h7 ih7 w8 e9 => ?_)
        have nr9 : ∀ q, 0 ≤ q → q < 60 → zv_a h7 54 q = 0 := fun q q0 q1 => by rw [zv_wa ((w6.wd rfl : zb_W [(61, 0), (44, 27)] h2 _).tr (w8.wd rfl)) rfl]; exact nr q q0 (by omega)
        have ro9 : ∀ j, 0 ≤ j → j < 8 → zv_a h7 61 j = zs_row (zr_Pg h) j := fun j j0 j1 => by rw [zv_wa w8 rfl]; have b9 := bj j j0 (by omega); rw [zv_wi hw (k := 10) rfl, zv_wa hw (a := 52) rfl] at b9; show zv_a h5 61 j = if j < zv_i h 10 then zv_a h 52 j else 0; by_cases z : j < zv_i h 10; rw [if_pos z]; exact b9.2 z; rw [if_neg z]; exact b9.1 (by omega)
        refine zx_T.l (i := .aload_n 0) (k := 1) (v := .ref 44) (pc := 75) rfl rfl rfl ?_
        refine zx_T.s (i := .iconst 0) (k := 1) (st' := [.int (zI (0)), .ref 44]) (pc := 76) rfl rfl ?_
        refine zx_T.l (i := .aload_n 0) (k := 1) (v := .ref 44) (pc := 77) rfl rfl rfl ?_
        refine zr_gr (k := 24) (b := 61) (pc := 78) rfl rfl rfl ih7 ?_
        refine zx_T.s (i := .iconst 0) (k := 1) (st' := [.int (zI (0)), .ref 61, .int (zI (0)), .ref 44]) (pc := 81) rfl rfl ?_
        have y10 : zv_i h7 1 = zv_i h 1 := ((zv_wi w8 rfl).trans ((zv_wi w6 rfl).trans (zv_wi hw rfl)))
        refine zr_iv (cj := 174) (q' := zp_m174) (As := [.int (zI (0)), .ref 61, .int (zI (0))]) (rest := []) (pc := 82) rfl rfl rfl rfl rfl rfl (Nat.le_of_ble_eq_true rfl) rfl (Nat.le_of_ble_eq_true rfl) ih7 ((zm_joinF_61 (h := h7) ih7 (place := 0) (many := 0) (by omega) (by omega) (by omega) (by omega) (fun z0 z1 z2 => by have z3 := nr9 0 (by decide) (by decide); omega) ⟨⟨zw_cg hP.2.2 (fun j j0 j1 => ro9 j j0 j1), fun j j0 (j1 : j < 8 + 0) => absurd j1 (by omega)⟩, (show (0 : Int) ≤ 0 by decide), (show (0 : Int) ≤ 6 by decide)⟩).up (Nat.le_of_ble_eq_true rfl)) ?_
        rintro r11 h14 ⟨ih14, w15, v12, r11q, x13⟩
        subst r11q
        try dsimp only at x13
        have Jh14 := x13
        have rjh14 := zr_J_e x13
        have jF := zr_first (P := zr_Pg h) Jh14 (by rw [zv_wi (((hw.wd rfl : zb_W [(44, 0), (44, 13), (44, 14), (44, 15), (44, 19), (54, 0), (44, 27), (56, 0), (55, 0), (63, 0), (44, 25), (61, 0), (62, 0), (44, 26), (57, 0), (58, 0), (59, 0), (60, 0)] h _).tr (w6.wd rfl)).tr (w8.wd rfl)) rfl]; omega) nr9 ro9; have jK := zr_KI ((hk2.w w6 rfl).w w8 rfl) (fun z => absurd z (by decide)) (by decide) Jh14
        show zx_T zp_P 5 zp_m176 85 [(0, .ref 44), (1, .int (zI (p)))] [.int (zI (v12))] h14 _
        refine zx_T.t (i := .istore_n 1) (k := 1) (ls' := [(1, .int (zI (v12))), (0, .ref 44)]) (st' := []) (pc := 85) rfl rfl rfl rfl ?_
        have y16 : zv_i h14 13 = zv_i h2 13 := ((zv_wi w15 rfl).trans ((zv_wi w8 rfl).trans (zv_wi w6 rfl)))
        have y17 : zv_i h14 15 = zv_i h2 15 := ((zv_wi w15 rfl).trans ((zv_wi w8 rfl).trans (zv_wi w6 rfl)))
        have y19 : zv_i h14 19 = zv_i h2 19 := ((zv_wi w15 rfl).trans ((zv_wi w8 rfl).trans (zv_wi w6 rfl)))
        have y20 : zv_i h14 14 = zv_i h2 14 := ((zv_wi w15 rfl).trans ((zv_wi w8 rfl).trans (zv_wi w6 rfl)))
        have mb := zg_mu_b h14
        have mc := zv_ri ih14 (k := 27) rfl
        refine zx_T.lk (ls' := [(0, .ref 44)]) rfl ⟨rfl, trivial⟩ ?_
        exact ih.2.1 (h2 := h14)  ih14 ((((hw.wd rfl : zb_W [(44, 0), (44, 13), (44, 14), (44, 15), (44, 19), (54, 0), (44, 27), (56, 0), (55, 0), (63, 0), (44, 25), (61, 0), (62, 0), (44, 26), (57, 0), (58, 0), (59, 0), (60, 0)] h _).tr (w6.wd rfl)).tr (w8.wd rfl)).tr (w15.wd rfl)) jK (by omega) (by have b1 := zg_mu_b h14; omega) (by omega) (by omega) (by omega) (zs_first (zr_Pg h)) jF (zs_ok_first hP cn) (by rw [show zv_i h14 15 = 0 by omega]; rfl) (by omega)
      · refine zx_T.l (i := .aload_n 0) (k := 1) (v := .ref 44) (pc := 49) rfl rfl rfl ?_
        refine zr_gr (k := 16) (b := 54) (pc := 50) rfl rfl rfl hI2 ?_
        refine zx_T.l (i := .iload_n 1) (k := 1) (v := .int (zI (p))) (pc := 53) rfl rfl rfl ?_
        refine zx_T.s (i := .iconst 0) (k := 1) (st' := [.int (zI (0)), .int (zI (p)), .ref 54]) (pc := 54) rfl rfl ?_
        refine zr_bs (n := 60) (e := 0) (pc := 55) rfl rfl rfl hI2 (by omega) (by omega) (by omega) (by omega) (fun h21 ih21 w22 s23 => ?_)
        refine zr_inc (x := p) (n := 1) (y := p + 1) (ls' := [(1, .int (zI (p + 1))), (0, .ref 44)]) (pc := 56) rfl rfl rfl (by omega) rfl ?_
        refine zx_T.j (i := .goto (-16)) (k := 3) (pc' := 43) (st' := []) (pc := 59) rfl rfl rfl rfl rfl ?_
        have y24 : zv_i h21 13 = zv_i h2 13 := (zv_wi w22 rfl)
        have y25 : zv_i h21 15 = zv_i h2 15 := (zv_wi w22 rfl)
        have y26 : zv_i h21 19 = zv_i h2 19 := (zv_wi w22 rfl)
        have y27 : zv_i h21 14 = zv_i h2 14 := (zv_wi w22 rfl)
        have a54 : ∀ j, 0 ≤ j → zv_a h21 54 j = if j = p then 0 else zv_a h2 54 j := fun j hj => by rw [s23 j hj]
        refine zx_T.lk (ls' := [(0, .ref 44), (1, .int (zI (p + 1)))]) rfl ⟨rfl, rfl, trivial⟩ ?_
        exact ih.1 (h2 := h21) (p := p + 1) ih21 (by omega) (by omega) ((hw.wd rfl : zb_W [(44, 0), (44, 13), (44, 14), (44, 15), (44, 19), (54, 0), (44, 27), (56, 0), (55, 0), (63, 0), (44, 25), (61, 0), (62, 0), (44, 26), (57, 0), (58, 0), (59, 0), (60, 0)] h _).tr (w22.wd rfl)) (hk2.w w22 rfl) (by omega) (by omega) (by omega) (by omega) (by omega) (fun q q0 q1 => by rw [a54 q q0]; by_cases z : q = p; rw [if_pos z]; rw [if_neg z]; exact nr q q0 (by omega)) (by omega)
    · intro h2  hI2 hw hk2 im rr f0 cn ft s2 hA2 hO2 hM hm
      have hC := zv_ri hI (k := 1) rfl
      have hH := zv_ri hI (k := 5) rfl
      have mb0 := zg_mu_b h2
      refine zx_T.l (i := .aload_n 0) (k := 1) (v := .ref 44) (pc := 86) rfl rfl rfl ?_
      refine zr_gi (k := 27) (lo := 0) (hi := 1) (e := zv_i h2 27) (pc := 87) rfl rfl rfl hI2 rfl (fun g29a g29b => ?_)
      refine zr_i1 (x := zv_i h2 27) (t := 157) (pc := 90) rfl rfl (by omega) (by omega) (fun (c30 : (zv_i h2 27) = 0) => ?_) (fun (c30 : ¬ ((zv_i h2 27) = 0)) => ?_)
      · refine zx_T.l (i := .aload_n 0) (k := 1) (v := .ref 44) (pc := 157) rfl rfl rfl ?_
        refine zx_T.s (i := .iconst 1) (k := 1) (st' := [.int (zI (1)), .ref 44]) (pc := 158) rfl rfl ?_
        refine zr_pi (k := 13) (lo := 0) (hi := 1) (e := 1) (pc := 159) rfl rfl rfl rfl rfl rfl hI2 (by omega) (by omega) (fun h31 ih31 w32 e33 => ?_)
        refine zx_T.s (i := .iconst 0) (k := 1) (st' := [.int (zI (0))]) (pc := 162) rfl rfl ?_
        refine zx_T.t (i := .istore_n 2) (k := 1) (ls' := [(2, .int (zI (0))), (0, .ref 44)]) (st' := []) (pc := 163) rfl rfl rfl rfl ?_
        have y34 : zv_i h31 19 = zv_i h2 19 := (zv_wi w32 rfl)
        have y35 : zv_i h31 13 = 1 := e33
        have y36 : zv_i h31 15 = zv_i h2 15 := (zv_wi w32 rfl)
        have y37 : zv_i h31 14 = zv_i h2 14 := (zv_wi w32 rfl)
        refine zx_T.lk (ls' := [(0, .ref 44), (2, .int (zI (0)))]) rfl ⟨rfl, rfl, trivial⟩ ?_
        exact ih.2.2.2 (h2 := h31) (p := 0) ih31 (by omega) (by omega) ((hw.wd rfl : zb_W [(44, 0), (44, 13), (44, 14), (44, 15), (44, 19), (54, 0), (44, 27), (56, 0), (55, 0), (63, 0), (44, 25), (61, 0), (62, 0), (44, 26), (57, 0), (58, 0), (59, 0), (60, 0)] h _).tr (w32.wd rfl)) (by omega) (by omega) (by omega) s2 (zr_A_g w32 rfl rfl rfl rfl hA2) hO2 (by rw [show zv_i h31 15 = zv_i h2 15 by omega]; exact hM.trans (zs_rounds_e (Or.inl (fun z => by have z1 := hA2.2.2.2 z; omega)))) (by omega) (by show _ = (0 : Int); omega) (zr_Fr_0 (by omega)) (by omega)
      · refine zx_T.l (i := .aload_n 0) (k := 1) (v := .ref 44) (pc := 93) rfl rfl rfl ?_
        refine zx_T.s (i := .iconst 0) (k := 1) (st' := [.int (zI (0)), .ref 44]) (pc := 94) rfl rfl ?_
        refine zr_pi (k := 27) (lo := 0) (hi := 1) (e := 0) (pc := 95) rfl rfl rfl rfl rfl rfl hI2 (by omega) (by omega) (fun h38 ih38 w39 e40 => ?_)
        refine zx_T.l (i := .aload_n 0) (k := 1) (v := .ref 44) (pc := 98) rfl rfl rfl ?_
        refine zx_T.s (i := .dup) (k := 1) (st' := [.ref 44, .ref 44]) (pc := 99) rfl rfl ?_
        refine zr_gi (k := 15) (lo := (-2147483648)) (hi := 2147483647) (e := zv_i h2 15) (pc := 100) rfl rfl rfl ih38 (zv_wi w39 rfl) (fun g41a g41b => ?_)
        refine zx_T.s (i := .iconst 1) (k := 1) (st' := [.int (zI (1)), .int (zI (zv_i h2 15)), .ref 44]) (pc := 103) rfl rfl ?_
        refine zr_add (x := zv_i h2 15) (y := 1) (e := zv_i h2 15 + 1) (pc := 104) rfl (by omega) ?_
        refine zr_pi (k := 15) (lo := (-2147483648)) (hi := 2147483647) (e := zv_i h2 15 + 1) (pc := 105) rfl rfl rfl rfl rfl rfl ih38 (by omega) (by omega) (fun h42 ih42 w43 e44 => ?_)
        refine zx_T.s (i := .iconst 0) (k := 1) (st' := [.int (zI (0))]) (pc := 108) rfl rfl ?_
        refine zx_T.t (i := .istore_n 2) (k := 1) (ls' := [(2, .int (zI (0))), (0, .ref 44)]) (st' := []) (pc := 109) rfl rfl rfl rfl ?_
        have y45 : zv_i h42 13 = zv_i h2 13 := ((zv_wi w43 rfl).trans (zv_wi w39 rfl))
        have y46 : zv_i h42 15 = zv_i h2 15 + 1 := e44
        have y47 : zv_i h42 27 = 0 := ((zv_wi w43 rfl).trans e40)
        have y48 : zv_i h42 19 = zv_i h2 19 := ((zv_wi w43 rfl).trans (zv_wi w39 rfl))
        have y49 : zv_i h42 14 = zv_i h2 14 := ((zv_wi w43 rfl).trans (zv_wi w39 rfl))
        have mb := zg_mu_b h2
        have mw := zg_mu_w ((w39.wd rfl : zb_W [(44, 27), (44, 15), (44, 13)] h2 _).tr (w43.wd rfl)) rfl rfl
        refine zx_T.lk (ls' := [(0, .ref 44), (2, .int (zI (0)))]) rfl ⟨rfl, rfl, trivial⟩ ?_
        exact ih.2.2.1 (h2 := h42) (p := 0) ih42 (by omega) (by omega) (((hw.wd rfl : zb_W [(44, 0), (44, 13), (44, 14), (44, 15), (44, 19), (54, 0), (44, 27), (56, 0), (55, 0), (63, 0), (44, 25), (61, 0), (62, 0), (44, 26), (57, 0), (58, 0), (59, 0), (60, 0)] h _).tr (w39.wd rfl)).tr (w43.wd rfl)) ((hk2.w w39 rfl).w w43 rfl) (by omega) (by have b1 := zg_mu_w ((w39.wd rfl : zb_W [(44, 27), (44, 15)] h2 _).tr (w43.wd rfl)) rfl rfl; have b2 := zg_mu_b h2; omega) (by omega) (by omega) (by omega) (zs_un s2) (zr_A_un ((w39.wd rfl : zb_W [(44, 27), (44, 15)] h2 _).tr (w43.wd rfl)) (by omega) hA2) (zs_ok_un hO2) (by rw [show zv_i h42 15 = zv_i h2 15 + 1 by omega, Int.sub_zero]; exact hM.trans (zs_kt_s (by omega) ((hA2.2.2).1 (by omega)))) (by omega)
    · intro h2 p hI2 p1 p2 hw hk2 im rr f0 cn ft s2 hA2 hO2 hM hm
      have hC := zv_ri hI (k := 1) rfl
      have hH := zv_ri hI (k := 5) rfl
      refine zx_T.l (i := .iload_n 2) (k := 1) (v := .int (zI (p))) (pc := 110) rfl rfl rfl ?_
      refine zx_T.l (i := .aload_n 0) (k := 1) (v := .ref 44) (pc := 111) rfl rfl rfl ?_
      refine zr_gi (k := 1) (lo := 0) (hi := 60) (e := zv_i h 1) (pc := 112) rfl rfl rfl hI2 (zv_wi hw rfl) (fun g50a g50b => ?_)
      refine zr_i2 (x := p) (y := zv_i h 1) (t := 154) (pc := 115) rfl rfl (by omega) (by omega) (by omega) (by omega) (fun (c51 : (zv_i h 1) ≤ p) => ?_) (fun (c51 : ¬ ((zv_i h 1) ≤ p)) => ?_)
      · refine zx_T.j (i := .goto (-68)) (k := 3) (pc' := 86) (st' := []) (pc := 154) rfl rfl rfl rfl rfl ?_
        have mb := zg_mu_b h2
        have mb2 := zg_mu_b h2
        have mj := (zg_J.rf hk2)
        have mk := And.intro mj.1 (And.intro mj.2.1 mj.2.2.1)
        have ml := zg_b hI2
        have mn := zg_b hI2
        refine zx_T.lk (ls' := [(0, .ref 44)]) rfl ⟨rfl, trivial⟩ ?_
        exact ih.2.1 (h2 := h2)  hI2 (hw.wd rfl : zb_W [(44, 0), (44, 13), (44, 14), (44, 15), (44, 19), (54, 0), (44, 27), (56, 0), (55, 0), (63, 0), (44, 25), (61, 0), (62, 0), (44, 26), (57, 0), (58, 0), (59, 0), (60, 0)] h _) hk2 (by omega) (by have b1 := (zg_J.rf hk2); have b2 := b1.1; have b3 := b1.2.1; have b4 := b1.2.2.1; have b5 := zg_b hI2; omega) (by omega) (by omega) (by omega) s2 hA2 hO2 (hM.trans (zs_kt_e (P := zr_Pg h) (by show zv_i h 1 ≤ p; omega))) (by omega)
      · refine zx_T.l (i := .aload_n 0) (k := 1) (v := .ref 44) (pc := 118) rfl rfl rfl ?_
        refine zr_gr (k := 16) (b := 54) (pc := 119) rfl rfl rfl hI2 ?_
        refine zx_T.l (i := .iload_n 2) (k := 1) (v := .int (zI (p))) (pc := 122) rfl rfl rfl ?_
        refine zr_bl (n := 60) (lo := 0) (hi := 1) (e := zv_a h2 54 p) (pc := 123) rfl rfl rfl hI2 (by omega) (by omega) rfl (fun g57a g57b => ?_)
        refine zr_i1 (x := zv_a h2 54 p) (t := 148) (pc := 124) rfl rfl (by omega) (by omega) (fun (c58 : (zv_a h2 54 p) = 0) => ?_) (fun (c58 : ¬ ((zv_a h2 54 p) = 0)) => ?_)
        · refine zr_inc (x := p) (n := 1) (y := p + 1) (ls' := [(2, .int (zI (p + 1))), (0, .ref 44)]) (pc := 148) rfl rfl rfl (by omega) rfl ?_
          refine zx_T.j (i := .goto (-41)) (k := 3) (pc' := 110) (st' := []) (pc := 151) rfl rfl rfl rfl rfl ?_
          have mb := zg_mu_b h2
          have mb2 := zg_mu_b h2
          have mj := (zg_J.rf hk2)
          have mk := And.intro mj.1 (And.intro mj.2.1 mj.2.2.1)
          have ml := zg_b hI2
          have mn := zg_b hI2
          refine zx_T.lk (ls' := [(0, .ref 44), (2, .int (zI (p + 1)))]) rfl ⟨rfl, rfl, trivial⟩ ?_
          exact ih.2.2.1 (h2 := h2) (p := p + 1) hI2 (by omega) (by omega) (hw.wd rfl : zb_W [(44, 0), (44, 13), (44, 14), (44, 15), (44, 19), (54, 0), (44, 27), (56, 0), (55, 0), (63, 0), (44, 25), (61, 0), (62, 0), (44, 26), (57, 0), (58, 0), (59, 0), (60, 0)] h _) hk2 (by omega) (by have b1 := (zg_J.rf hk2); have b2 := b1.1; have b3 := b1.2.1; have b4 := b1.2.2.1; have b5 := zg_b hI2; omega) (by omega) (by omega) (by omega) s2 hA2 hO2 (hM.trans (congrArg (zs_kt (zr_Pg h) (zv_i h2 15)) (zs_kt_n (c := 0) (P := zr_Pg h) (p := p) (by show p < zv_i h 1; omega) (fun z => by have z1 := (hA2.1 p p1 (by omega)).2 z; omega)))) (by omega)
        · have hRp := (hA2.1 p p1 (by omega)).1 (by omega)
          have hPx : zr_Pg h2 = zr_Pg h := zr_Pg_g hw rfl
          have hO3 : zs_ok (zr_Pg h2) s2 := by rw [hPx]; exact hO2
          have hP3 : zP.ok (zr_Pg h2) := by rw [hPx]; exact hP
          refine zx_T.l (i := .aload_n 0) (k := 1) (v := .ref 44) (pc := 127) rfl rfl rfl ?_
          refine zx_T.l (i := .aload_n 0) (k := 1) (v := .ref 44) (pc := 128) rfl rfl rfl ?_
          refine zx_T.l (i := .iload_n 2) (k := 1) (v := .int (zI (p))) (pc := 129) rfl rfl rfl ?_
          refine zr_iv (cj := 175) (q' := zp_m175) (As := [.int (zI (p))]) (rest := [.ref 44]) (pc := 130) rfl rfl rfl rfl rfl rfl (Nat.le_of_ble_eq_true rfl) rfl (Nat.le_of_ble_eq_true rfl) hI2 ((zm_workG (h := h2) hI2 (p := p) (by omega) (by omega) s2 hA2 hO3 hRp hP3 hk2 (hc.w hw rfl rfl) (ht.w hw rfl)).up (Nat.le_of_ble_eq_true rfl)) ?_
          rintro r64 h67 ⟨ih67, w68, v65, r64q, x66⟩
          subst r64q
          try dsimp only at x66
          have Jh67 := x66.2.2.1
          have gE := x66.2.2.2.2
          rw [hPx] at gE
          show zx_T zp_P 5 zp_m176 133 [(0, .ref 44), (2, .int (zI (p)))] [.int (zI (v65)), .ref 44] h67 _
          refine zr_pi (k := 14) (lo := (-2147483648)) (hi := 2147483647) (e := v65) (pc := 133) rfl rfl rfl rfl rfl rfl ih67 (by omega) (by omega) (fun h69 ih69 w70 e71 => ?_)
          refine zx_T.l (i := .aload_n 0) (k := 1) (v := .ref 44) (pc := 136) rfl rfl rfl ?_
          refine zr_gi (k := 14) (lo := (-2147483648)) (hi := 2147483647) (e := v65) (pc := 137) rfl rfl rfl ih69 e71 (fun g72a g72b => ?_)
          refine zr_i1 (x := v65) (t := 148) (pc := 140) rfl rfl (by omega) (by omega) (fun (c73 : v65 = 0) => ?_) (fun (c73 : ¬ (v65 = 0)) => ?_)
          · refine zr_inc (x := p) (n := 1) (y := p + 1) (ls' := [(2, .int (zI (p + 1))), (0, .ref 44)]) (pc := 148) rfl rfl rfl (by omega) rfl ?_
            refine zx_T.j (i := .goto (-41)) (k := 3) (pc' := 110) (st' := []) (pc := 151) rfl rfl rfl rfl rfl ?_
            have y74 : zv_i h69 13 = zv_i h2 13 := ((zv_wi w70 rfl).trans (zv_wi w68 rfl))
            have y75 : zv_i h69 15 = zv_i h2 15 := ((zv_wi w70 rfl).trans (zv_wi w68 rfl))
            have y76 : zv_i h69 27 = zv_i h67 27 := (zv_wi w70 rfl)
            have y77 : zv_i h69 19 = zv_i h2 19 := ((zv_wi w70 rfl).trans (zv_wi w68 rfl))
            have y78 : zv_i h69 14 = v65 := e71
            have mb := zg_mu_b h2
            have mb2 := zg_mu_b h69
            have mj := (zg_J.tr (zg_b ih67) Jh67 (zg_J.fr Jh67.2.2.2.2.2 w70 rfl rfl rfl))
            have mk := And.intro mj.1 (And.intro mj.2.1 mj.2.2.1)
            have ml := zg_b hI2
            have mn := zg_b ih69
            refine zx_T.lk (ls' := [(0, .ref 44), (2, .int (zI (p + 1)))]) rfl ⟨rfl, rfl, trivial⟩ ?_
            exact ih.2.2.1 (h2 := h69) (p := p + 1) ih69 (by omega) (by omega) (((hw.wd rfl : zb_W [(44, 0), (44, 13), (44, 14), (44, 15), (44, 19), (54, 0), (44, 27), (56, 0), (55, 0), (63, 0), (44, 25), (61, 0), (62, 0), (44, 26), (57, 0), (58, 0), (59, 0), (60, 0)] h _).tr (w68.wd rfl)).tr (w70.wd rfl)) (Jh67.2.2.2.2.2.w w70 rfl) (by omega) (by have b1 := (zg_J.tr (zg_b ih67) Jh67 (zg_J.fr Jh67.2.2.2.2.2 w70 rfl rfl rfl)); have b2 := b1.1; have b3 := b1.2.1; have b4 := b1.2.2.1; have b5 := zg_b hI2; omega) (by omega) (by omega) (by omega) (zs_work (zr_Pg h) p s2).2 (zr_A_g w70 rfl rfl rfl rfl gE.2) (zs_ok_work hP hH.1 hO2 hRp) (by rw [show zv_i h69 15 = zv_i h2 15 by omega]; exact hM.trans (congrArg (zs_kt (zr_Pg h) (zv_i h2 15)) (zs_kt_y (P := zr_Pg h) (p := p) (by show p < zv_i h 1; omega) hRp (gE.1.symm.trans (by omega))))) (by omega)
          · refine zx_T.s (i := .bipush (-10)) (k := 2) (st' := [.int (zI ((-10)))]) (pc := 143) rfl rfl ?_
            refine zx_T.l (i := .iload_n 2) (k := 1) (v := .int (zI (p))) (pc := 145) rfl rfl rfl ?_
            refine zr_sub (x := (-10)) (y := p) (e := (-1) * p - 10) (pc := 146) rfl (by omega) ?_
            have y79 : zv_i h69 13 = zv_i h2 13 := ((zv_wi w70 rfl).trans (zv_wi w68 rfl))
            have y80 : zv_i h69 14 = v65 := e71
            have y81 : zv_i h69 15 = zv_i h2 15 := ((zv_wi w70 rfl).trans (zv_wi w68 rfl))
            have y82 : zv_i h69 19 = zv_i h2 19 := ((zv_wi w70 rfl).trans (zv_wi w68 rfl))
            exact zr_ir (x := (-1) * p - 10) (pc := 147) rfl rfl rfl ⟨ih69, (((hw.wd rfl : zb_W [(44, 0), (44, 13), (44, 14), (44, 15), (44, 19), (54, 0), (44, 27), (56, 0), (55, 0), (63, 0), (44, 25), (61, 0), (62, 0), (44, 26), (57, 0), (58, 0), (59, 0), (60, 0)] h _).tr (w68.wd rfl)).tr (w70.wd rfl)), _, rfl, by dsimp only; exact ⟨by have m9 := hM.trans (zs_kt_f (P := zr_Pg h) (by show p < zv_i h 1; omega) hRp (fun z => absurd (gE.1.trans z) (by omega))); have g9 := gE.1; exact Or.inr (Or.inl (by rw [m9]; exact ⟨cn, fun z => absurd (g9.trans z) (by omega), by dsimp only; omega, by dsimp only; omega, by omega, by dsimp only; omega⟩)), fun z => absurd z (by omega)⟩⟩
    · intro h2 p hI2 p1 p2 hw im cn ft s2 hA2 hO2 hM fl fc fr4 hm
      have hC := zv_ri hI (k := 1) rfl
      have hH := zv_ri hI (k := 5) rfl
      refine zx_T.l (i := .iload_n 2) (k := 1) (v := .int (zI (p))) (pc := 164) rfl rfl rfl ?_
      refine zx_T.l (i := .aload_n 0) (k := 1) (v := .ref 44) (pc := 165) rfl rfl rfl ?_
      refine zr_gi (k := 1) (lo := 0) (hi := 60) (e := zv_i h 1) (pc := 166) rfl rfl rfl hI2 (zv_wi hw rfl) (fun g83a g83b => ?_)
      refine zr_i2 (x := p) (y := zv_i h 1) (t := 200) (pc := 169) rfl rfl (by omega) (by omega) (by omega) (by omega) (fun (c84 : (zv_i h 1) ≤ p) => ?_) (fun (c84 : ¬ ((zv_i h 1) ≤ p)) => ?_)
      · refine zx_T.l (i := .aload_n 0) (k := 1) (v := .ref 44) (pc := 200) rfl rfl rfl ?_
        refine zr_gi (k := 19) (lo := 0) (hi := 60) (e := zv_i h2 19) (pc := 201) rfl rfl rfl hI2 rfl (fun g85a g85b => ?_)
        exact zr_ir (x := zv_i h2 19) (pc := 204) rfl rfl rfl ⟨hI2, (hw.wd rfl : zb_W [(44, 0), (44, 13), (44, 14), (44, 15), (44, 19), (54, 0), (44, 27), (56, 0), (55, 0), (63, 0), (44, 25), (61, 0), (62, 0), (44, 26), (57, 0), (58, 0), (59, 0), (60, 0)] h _), _, rfl, by dsimp only; exact ⟨by exact Or.inr (Or.inr (by rw [hM]; exact ⟨cn, rfl, rfl, ft, im, rfl, by dsimp only; rw [fc, show p = zv_i h 1 by omega]; rfl, hA2, hO2⟩)), fun _ => by rw [hM, show zv_i h 1 = p by omega]; exact fr4⟩⟩
      · refine zx_T.l (i := .aload_n 0) (k := 1) (v := .ref 44) (pc := 172) rfl rfl rfl ?_
        refine zr_gr (k := 16) (b := 54) (pc := 173) rfl rfl rfl hI2 ?_
        refine zx_T.l (i := .iload_n 2) (k := 1) (v := .int (zI (p))) (pc := 176) rfl rfl rfl ?_
        refine zr_bl (n := 60) (lo := 0) (hi := 1) (e := zv_a h2 54 p) (pc := 177) rfl rfl rfl hI2 (by omega) (by omega) rfl (fun g90a g90b => ?_)
        refine zr_i1 (x := zv_a h2 54 p) (t := 194) (pc := 178) rfl rfl (by omega) (by omega) (fun (c91 : (zv_a h2 54 p) = 0) => ?_) (fun (c91 : ¬ ((zv_a h2 54 p) = 0)) => ?_)
        · have nF : ¬ (s2.R p ∧ zs_isf (zr_Pg h) s2 p) := fun z => by first | (have z1 := (hA2.1 p p1 (by omega)).2 z.1; omega) | (have z2 := zr_isf (p := p) hA2 (by rw [zv_wi hw rfl]; omega) (by omega); rw [zr_Pg_g hw rfl] at z2; have z3 := z2.2 z.2; rcases iF with y | y; exact absurd y.1 (by omega); exact z3.elim y.2.1 y.2.2)
          refine zr_inc (x := p) (n := 1) (y := p + 1) (ls' := [(2, .int (zI (p + 1))), (0, .ref 44)]) (pc := 194) rfl rfl rfl (by omega) rfl ?_
          refine zx_T.j (i := .goto (-33)) (k := 3) (pc' := 164) (st' := []) (pc := 197) rfl rfl rfl rfl rfl ?_
          refine zx_T.lk (ls' := [(0, .ref 44), (2, .int (zI (p + 1)))]) rfl ⟨rfl, rfl, trivial⟩ ?_
          exact ih.2.2.2 (h2 := h2) (p := p + 1) hI2 (by omega) (by omega) (hw.wd rfl : zb_W [(44, 0), (44, 13), (44, 14), (44, 15), (44, 19), (54, 0), (44, 27), (56, 0), (55, 0), (63, 0), (44, 25), (61, 0), (62, 0), (44, 26), (57, 0), (58, 0), (59, 0), (60, 0)] h _) (by omega) (by omega) (by omega) s2 hA2 hO2 hM (by omega) (by rw [zs_fc_s p1, zi_f nF]; omega) (by rw [zs_fr_s p1, zi_f nF]; exact fr4) (by omega)
        · refine zx_T.l (i := .aload_n 0) (k := 1) (v := .ref 44) (pc := 181) rfl rfl rfl ?_
          refine zx_T.l (i := .iload_n 2) (k := 1) (v := .int (zI (p))) (pc := 182) rfl rfl rfl ?_
          refine zr_iv (cj := 177) (q' := zp_m177) (As := [.int (zI (p))]) (rest := []) (pc := 183) rfl rfl rfl rfl rfl rfl (Nat.le_of_ble_eq_true rfl) rfl (Nat.le_of_ble_eq_true rfl) hI2 ((zm_isFrame (h := h2) hI2 (p := p) (by omega) (by omega)).up (Nat.le_of_ble_eq_true rfl)) ?_
          rintro r96 h99 ⟨h99q, v97, r96q, x98⟩
          subst h99q r96q
          try dsimp only at x98
          have iF := x98
          show zx_T zp_P 5 zp_m176 186 [(0, .ref 44), (2, .int (zI (p)))] [.int (zI (v97))] h2 _
          refine zr_i1 (x := v97) (t := 194) (pc := 186) rfl rfl (by omega) (by omega) (fun (c100 : v97 = 0) => ?_) (fun (c100 : ¬ (v97 = 0)) => ?_)
          · have nF : ¬ (s2.R p ∧ zs_isf (zr_Pg h) s2 p) := fun z => by first | (have z1 := (hA2.1 p p1 (by omega)).2 z.1; omega) | (have z2 := zr_isf (p := p) hA2 (by rw [zv_wi hw rfl]; omega) (by omega); rw [zr_Pg_g hw rfl] at z2; have z3 := z2.2 z.2; rcases iF with y | y; exact absurd y.1 (by omega); exact z3.elim y.2.1 y.2.2)
            refine zr_inc (x := p) (n := 1) (y := p + 1) (ls' := [(2, .int (zI (p + 1))), (0, .ref 44)]) (pc := 194) rfl rfl rfl (by omega) rfl ?_
            refine zx_T.j (i := .goto (-33)) (k := 3) (pc' := 164) (st' := []) (pc := 197) rfl rfl rfl rfl rfl ?_
            refine zx_T.lk (ls' := [(0, .ref 44), (2, .int (zI (p + 1)))]) rfl ⟨rfl, rfl, trivial⟩ ?_
            exact ih.2.2.2 (h2 := h2) (p := p + 1) hI2 (by omega) (by omega) (hw.wd rfl : zb_W [(44, 0), (44, 13), (44, 14), (44, 15), (44, 19), (54, 0), (44, 27), (56, 0), (55, 0), (63, 0), (44, 25), (61, 0), (62, 0), (44, 26), (57, 0), (58, 0), (59, 0), (60, 0)] h _) (by omega) (by omega) (by omega) s2 hA2 hO2 hM (by omega) (by rw [zs_fc_s p1, zi_f nF]; omega) (by rw [zs_fr_s p1, zi_f nF]; exact fr4) (by omega)
          · refine zx_T.l (i := .aload_n 0) (k := 1) (v := .ref 44) (pc := 189) rfl rfl rfl ?_
            refine zx_T.l (i := .iload_n 2) (k := 1) (v := .int (zI (p))) (pc := 190) rfl rfl rfl ?_
            refine zr_iv (cj := 178) (q' := zp_m178) (As := [.int (zI (p))]) (rest := []) (pc := 191) rfl rfl rfl rfl rfl rfl (Nat.le_of_ble_eq_true rfl) rfl (Nat.le_of_ble_eq_true rfl) hI2 ((zm_keepF (h := h2) hI2 (p := p) (by omega) (by omega) (by omega)).up (Nat.le_of_ble_eq_true rfl)) ?_
            rintro r105 h108 ⟨ih108, w109, r105q, x107⟩
            subst r105q
            try dsimp only at x107
            have kF := x107
            show zx_T zp_P 5 zp_m176 194 [(0, .ref 44), (2, .int (zI (p)))] [] h108 _
            have yF : s2.R p ∧ zs_isf (zr_Pg h) s2 p := ⟨(hA2.1 p p1 (by omega)).1 (by omega), by have z := zr_isf (p := p) hA2 (by rw [zv_wi hw rfl]; omega) (by omega); rw [zr_Pg_g hw rfl] at z; exact z.1 (by rcases iF with y | y; exact y.2; exact absurd y.1 (by omega))⟩
            refine zr_inc (x := p) (n := 1) (y := p + 1) (ls' := [(2, .int (zI (p + 1))), (0, .ref 44)]) (pc := 194) rfl rfl rfl (by omega) rfl ?_
            refine zx_T.j (i := .goto (-33)) (k := 3) (pc' := 164) (st' := []) (pc := 197) rfl rfl rfl rfl rfl ?_
            have y111 : zv_i h108 13 = zv_i h2 13 := (zv_wi w109 rfl)
            have y112 : zv_i h108 15 = zv_i h2 15 := (zv_wi w109 rfl)
            have y113 : zv_i h108 14 = zv_i h2 14 := (zv_wi w109 rfl)
            refine zx_T.lk (ls' := [(0, .ref 44), (2, .int (zI (p + 1)))]) rfl ⟨rfl, rfl, trivial⟩ ?_
            exact ih.2.2.2 (h2 := h108) (p := p + 1) ih108 (by omega) (by omega) ((hw.wd rfl : zb_W [(44, 0), (44, 13), (44, 14), (44, 15), (44, 19), (54, 0), (44, 27), (56, 0), (55, 0), (63, 0), (44, 25), (61, 0), (62, 0), (44, 26), (57, 0), (58, 0), (59, 0), (60, 0)] h _).tr (w109.wd rfl)) (by omega) (by omega) (by omega) s2 (zr_A_g w109 rfl rfl rfl rfl hA2) hO2 (by rw [show zv_i h108 15 = zv_i h2 15 by omega]; exact hM) (by omega) (by rw [zs_fc_s p1, zi_t yF]; omega) (by rw [zs_fr_s p1, zi_t yF]; exact zr_Fr_add fr4 (zs_fr_ok hO2 (zr_nn hI2 hO2 hC.2 hA2) hC.2 p.toNat (by omega)).1 hA2 yF.1 (hO2.1 p yF.1).2 kF) (by omega)
set_option maxRecDepth 100000 in
set_option maxHeartbeats 8000000 in
theorem zm_makeH {h : zx_H} (hI : zb_I zc_H h)  (hk : zg_KI h) (hc : zg_CI h) (ht : zg_TI h) (hP : zP.ok (zr_Pg h)) : zx_T zp_P 5 zp_m176 0 [(0, .ref 44)] [] h (zr_R [(44, 0), (44, 13), (44, 14), (44, 15), (44, 19), (54, 0), (44, 27), (56, 0), (55, 0), (63, 0), (44, 25), (61, 0), (62, 0), (44, 26), (57, 0), (58, 0), (59, 0), (60, 0)] h (fun e h' => zr_M h' (zr_Pg h) e ∧ (zv_i h' 13 = 1 → zr_Fr h' (zs_fr (zr_Pg h) (zs_make (zr_Pg h)).2.2.2 (zv_i h 1).toNat)))) := by
  have hC := zv_ri hI (k := 1) rfl
  have hH := zv_ri hI (k := 5) rfl
  refine zx_T.l (i := .aload_n 0) (k := 1) (v := .ref 44) (pc := 0) rfl rfl rfl ?_
  refine zx_T.s (i := .iconst 0) (k := 1) (st' := [.int (zI (0)), .ref 44]) (pc := 1) rfl rfl ?_
  refine zr_pi (k := 0) (lo := (-2147483648)) (hi := 2147483647) (e := 0) (pc := 2) rfl rfl rfl rfl rfl rfl hI (by omega) (by omega) (fun h114 ih114 w115 e116 => ?_)
  refine zx_T.l (i := .aload_n 0) (k := 1) (v := .ref 44) (pc := 5) rfl rfl rfl ?_
  refine zx_T.s (i := .iconst 0) (k := 1) (st' := [.int (zI (0)), .ref 44]) (pc := 6) rfl rfl ?_
  refine zr_pi (k := 13) (lo := 0) (hi := 1) (e := 0) (pc := 7) rfl rfl rfl rfl rfl rfl ih114 (by omega) (by omega) (fun h117 ih117 w118 e119 => ?_)
  refine zx_T.l (i := .aload_n 0) (k := 1) (v := .ref 44) (pc := 10) rfl rfl rfl ?_
  refine zx_T.s (i := .iconst 0) (k := 1) (st' := [.int (zI (0)), .ref 44]) (pc := 11) rfl rfl ?_
  refine zr_pi (k := 14) (lo := (-2147483648)) (hi := 2147483647) (e := 0) (pc := 12) rfl rfl rfl rfl rfl rfl ih117 (by omega) (by omega) (fun h120 ih120 w121 e122 => ?_)
  refine zx_T.l (i := .aload_n 0) (k := 1) (v := .ref 44) (pc := 15) rfl rfl rfl ?_
  refine zx_T.s (i := .iconst 0) (k := 1) (st' := [.int (zI (0)), .ref 44]) (pc := 16) rfl rfl ?_
  refine zr_pi (k := 15) (lo := (-2147483648)) (hi := 2147483647) (e := 0) (pc := 17) rfl rfl rfl rfl rfl rfl ih120 (by omega) (by omega) (fun h123 ih123 w124 e125 => ?_)
  refine zx_T.l (i := .aload_n 0) (k := 1) (v := .ref 44) (pc := 20) rfl rfl rfl ?_
  refine zx_T.s (i := .iconst 0) (k := 1) (st' := [.int (zI (0)), .ref 44]) (pc := 21) rfl rfl ?_
  refine zr_pi (k := 19) (lo := 0) (hi := 60) (e := 0) (pc := 22) rfl rfl rfl rfl rfl rfl ih123 (by omega) (by omega) (fun h126 ih126 w127 e128 => ?_)
  refine zx_T.l (i := .aload_n 0) (k := 1) (v := .ref 44) (pc := 25) rfl rfl rfl ?_
  refine zr_gi (k := 1) (lo := 0) (hi := 60) (e := zv_i h 1) (pc := 26) rfl rfl rfl ih126 ((zv_wi w127 rfl).trans ((zv_wi w124 rfl).trans ((zv_wi w121 rfl).trans ((zv_wi w118 rfl).trans (zv_wi w115 rfl))))) (fun g129a g129b => ?_)
  refine zr_i1 (x := zv_i h 1) (t := 41) (pc := 29) rfl rfl (by omega) (by omega) (fun (c130 : ¬ (zv_i h 1) = 0) => ?_) (fun (c130 : ¬ (¬ (zv_i h 1) = 0)) => ?_)
  · refine zx_T.s (i := .iconst 0) (k := 1) (st' := [.int (zI (0))]) (pc := 41) rfl rfl ?_
    refine zx_T.t (i := .istore_n 1) (k := 1) (ls' := [(1, .int (zI (0))), (0, .ref 44)]) (st' := []) (pc := 42) rfl rfl rfl rfl ?_
    have y131 : zv_i h126 13 = 0 := ((zv_wi w127 rfl).trans ((zv_wi w124 rfl).trans ((zv_wi w121 rfl).trans e119)))
    have y132 : zv_i h126 15 = 0 := ((zv_wi w127 rfl).trans e125)
    have y133 : zv_i h126 19 = 0 := e128
    have y134 : zv_i h126 14 = 0 := ((zv_wi w127 rfl).trans ((zv_wi w124 rfl).trans e122))
    have a54 : ∀ j, 0 ≤ j → zv_a h126 54 j = zv_a h 54 j := fun j hj => by rw [zv_wa w127 rfl j, zv_wa w124 rfl j, zv_wa w121 rfl j, zv_wa w118 rfl j, zv_wa w115 rfl j]
    refine zx_T.lk (ls' := [(0, .ref 44), (1, .int (zI (0)))]) rfl ⟨rfl, rfl, trivial⟩ ?_
    exact (zm_makeH_L (h := h) hI  hk hc ht hP ((1000000 + 100 - 0 : Int).toNat + 1)).1 (h2 := h126) (p := 0) ih126 (by omega) (by omega) (((((w115.wd rfl : zb_W [(44, 0), (44, 13), (44, 14), (44, 15), (44, 19), (54, 0), (44, 27), (56, 0), (55, 0), (63, 0), (44, 25), (61, 0), (62, 0), (44, 26), (57, 0), (58, 0), (59, 0), (60, 0)] h _).tr (w118.wd rfl)).tr (w121.wd rfl)).tr (w124.wd rfl)).tr (w127.wd rfl)) (((((hk.w w115 rfl).w w118 rfl).w w121 rfl).w w124 rfl).w w127 rfl) (by omega) (by omega) (by omega) (by omega) (by omega) (fun q q0 q1 => absurd q1 (by omega)) (Nat.lt_succ_self _)
  · refine zx_T.l (i := .aload_n 0) (k := 1) (v := .ref 44) (pc := 32) rfl rfl rfl ?_
    refine zx_T.s (i := .bipush 6) (k := 2) (st' := [.int (zI (6)), .ref 44]) (pc := 33) rfl rfl ?_
    refine zr_pi (k := 14) (lo := (-2147483648)) (hi := 2147483647) (e := 6) (pc := 35) rfl rfl rfl rfl rfl rfl ih126 (by omega) (by omega) (fun h136 ih136 w137 e138 => ?_)
    refine zx_T.s (i := .bipush (-9)) (k := 2) (st' := [.int (zI ((-9)))]) (pc := 38) rfl rfl ?_
    have y139 : zv_i h136 13 = 0 := ((zv_wi w137 rfl).trans ((zv_wi w127 rfl).trans ((zv_wi w124 rfl).trans ((zv_wi w121 rfl).trans e119))))
    have y140 : zv_i h136 14 = 6 := e138
    have y141 : zv_i h136 15 = 0 := ((zv_wi w137 rfl).trans ((zv_wi w127 rfl).trans e125))
    have y142 : zv_i h136 19 = 0 := ((zv_wi w137 rfl).trans e128)
    exact zr_ir (x := (-9)) (pc := 40) rfl rfl rfl ⟨ih136, ((((((w115.wd rfl : zb_W [(44, 0), (44, 13), (44, 14), (44, 15), (44, 19), (54, 0), (44, 27), (56, 0), (55, 0), (63, 0), (44, 25), (61, 0), (62, 0), (44, 26), (57, 0), (58, 0), (59, 0), (60, 0)] h _).tr (w118.wd rfl)).tr (w121.wd rfl)).tr (w124.wd rfl)).tr (w127.wd rfl)).tr (w137.wd rfl)), _, rfl, by dsimp only; exact ⟨by exact Or.inl ⟨by show zv_i h 1 = 0; omega, rfl, by omega, by omega, by omega⟩, fun z => absurd z (by omega)⟩⟩
