/-! ===== 61: the reference, method by method (by program) ===== -/
/-- a value that fits a kind -/
def zg_vo (h : zx_H) (k v : Int) : Prop := 0 ≤ v ∧ v < zv_i h 38 ∧ (k = 6 → 0 ≤ zv_a h 71 v ∧ zv_a h 71 v ≤ 20)
def zg_VI (h : zx_H) : Prop := ∀ j, 0 ≤ j → j < zv_i h 25 + 8 → 5 ≤ zv_a h 61 j → zg_vo h (zv_a h 61 j) (zv_b h 69 j)
def zg_VW (h : zx_H) (t : Int) : Prop := ∀ j, 0 ≤ j → j < t + 1 → 5 ≤ zv_a h 70 j → zg_vo h (zv_a h 70 j) (zv_b h 69 j)
def zg_PI (h : zx_H) : Prop := (zv_i h 42 = 0 ∨ zv_i h 43 = 0) → zg_VI h
def zg_dz (o a S S' : Int) (N N' : Int → Int) : Prop :=
  ((1 ≤ o → o ≤ 6 → S ≤ 5) ∧ (o = 7 → 1 ≤ S) ∧ (o = 8 → S ≤ 5 ∧ 0 ≤ a ∧ a ≤ 7) ∧ (o = 9 → 1 ≤ S ∧ 0 ≤ a ∧ a ≤ 7) ∧ (o = 17 → 2 ≤ S) ∧ (o = 18 → 3 ≤ S) ∧ (19 ≤ o → o ≤ 22 → 1 ≤ S) ∧ (25 ≤ o → o ≤ 27 → 1 ≤ S) ∧ (o = 28 → 0 ≤ a ∧ a ≤ 7)) ∧
  (∀ j, 0 ≤ j → (o = 17 → j = S + 6 → N j = 6 ∨ N j = 4) ∧ (o = 18 → j = S + 5 → N j = 6 ∨ N j = 4) ∧ (o = 19 → j = S + 7 → N j = 6 ∨ N j = 4) ∧ (o = 20 ∨ o = 22 → j = S + 7 → N j = 7 ∨ N j = 8 ∨ N j = 4) ∧ (o = 21 → j = S + 7 → 4 ≤ N j)) ∧
  (¬ o = 9 → ∀ j, 0 ≤ j → j < S' + 8 → 5 ≤ N' j → (N' j = N j ∧ j < S + 8 ∧ (o = 12 ∨ o = 13 ∨ o = 15 ∨ o = 17 → ¬ j = S + 6) ∧ (o = 14 → ¬ j = S + 4) ∧ (o = 7 ∨ o = 19 ∨ o = 20 → ¬ j = S + 7) ∧ (o = 28 → ¬ j = a)) ∨ ((o = 4 ∨ o = 5 ∨ o = 6) ∧ j = S + 8 ∧ ¬ N' j = 6) ∨ (o = 7 ∧ j = S + 7 ∧ N' j = 6) ∨ (o = 8 ∧ j = S + 8 ∧ N' j = N a) ∨ (o = 21 ∧ j = S + 7)) ∧
  (o = 9 → ∀ i, i = S + 7 → ∀ j, 0 ≤ j → j < S' + 8 → 5 ≤ N' j → (¬ j = a ∧ N' j = N j ∧ j < S + 8) ∨ (j = a ∧ N' j = N i))
theorem zg_does.z {o a : Int} {h h' : zx_H} (d : zg_does o a h h') : zg_dz o a (zv_i h 25) (zv_i h' 25) (zv_a h 61) (zv_a h' 61) := d
theorem zg_dz.cg {o a S S' : Int} {N M N' M' : Int → Int} (d : zg_dz o a S S' N N') (s0 : 0 ≤ S) (s1 : S ≤ 6) (s2 : S' ≤ 6) (e : ∀ j, 0 ≤ j → j < 14 → M j = N j) (e' : ∀ j, 0 ≤ j → j < 14 → M' j = N' j) : zg_dz o a S S' M M' := by
  obtain ⟨d1, d2, d3, d4⟩ := d
  refine ⟨d1, fun j j0 => ?_, fun ho j j0 j1 j2 => ?_, fun ho i hi j j0 j1 j2 => ?_⟩
  · have b := d2 j j0
    by_cases z : j < 14
    · rw [e j j0 z]; exact b
    · refine ⟨fun _ z2 => ?_, fun _ z2 => ?_, fun _ z2 => ?_, fun _ z2 => ?_, fun _ z2 => ?_⟩ <;> exact absurd z2 (by omega)
  · rw [e' j j0 (by omega)] at j2
    rw [e' j j0 (by omega), e j j0 (by omega)]
    have b := d3 ho j j0 j1 j2
    by_cases z : o = 8
    · have b1 := d1.2.2.1 z
      rw [e a (by omega) (by omega)]; exact b
    · rcases b with b | b | b | b | b
      · exact Or.inl b
      · exact Or.inr (Or.inl b)
      · exact Or.inr (Or.inr (Or.inl b))
      · exact absurd b.1 z
      · exact Or.inr (Or.inr (Or.inr (Or.inr b)))
  · rw [e' j j0 (by omega)] at j2
    rw [e' j j0 (by omega), e j j0 (by omega), e i (by omega) (by omega)]
    exact d4 ho i hi j j0 j1 j2
theorem zg_vo.up {h h' : zx_H} {k v : Int} (a : zg_vo h k v) (hu : zv_i h 38 ≤ zv_i h' 38) (hof : ∀ j, 0 ≤ j → j < zv_i h 38 → zv_a h' 71 j = zv_a h 71 j) : zg_vo h' k v :=
  ⟨a.1, by have := a.2.1; omega, fun z => by rw [hof v a.1 a.2.1]; exact a.2.2 z⟩
/-- what is kept, and at most one value written -/
theorem zg_VI1 {h h' : zx_H} {t i : Int} (VW : zg_VW h t) (s6 : zv_i h 25 ≤ 6) (hs : zv_i h' 25 = zv_i h 25) (hn : ∀ j, 0 ≤ j → zv_a h' 61 j = zv_a h 61 j) (hv : ∀ j, 0 ≤ j → j = i ∨ zv_b h' 69 j = zv_b h 69 j) (hu : zv_i h 38 ≤ zv_i h' 38) (hof : ∀ j, 0 ≤ j → j < zv_i h 38 → zv_a h' 71 j = zv_a h 71 j) (new : ∀ j, 0 ≤ j → j < zv_i h 25 + 8 → 5 ≤ zv_a h 61 j → (j = i ∨ ¬ (zv_a h 61 j = zv_a h 70 j ∧ j < t + 1)) → zg_vo h' (zv_a h 61 j) (zv_b h' 69 j)) : zg_VI h' := by
  intro j j0 j1 j2
  rw [hs] at j1
  rw [hn j j0] at j2 ⊢
  by_cases z : j = i ∨ ¬ (zv_a h 61 j = zv_a h 70 j ∧ j < t + 1)
  · exact new j j0 j1 j2 z
  · have z1 : zv_a h 61 j = zv_a h 70 j ∧ j < t + 1 := by omega
    have z2 := VW j j0 z1.2 (by rw [← z1.1]; exact j2)
    rw [← z1.1] at z2
    rcases hv j j0 with e | e
    · exact absurd (Or.inl e) z
    · rw [e]; exact z2.up hu hof

set_option maxRecDepth 100000 in
set_option maxHeartbeats 4000000 in
theorem zm_thing_L {h : zx_H} (hI : zb_I zc_H h) {m : Int} (m1 : -2147483648 ≤ m) (m2 : m ≤ 2147483647) (t9 : zv_i h 38 ≤ 399) (n : Nat) : (∀ {h2 : zx_H} {k : Int} (hI2 : zb_I zc_H h2) (k1 : 0 ≤ k) (k2 : k ≤ 20) (hw : zb_W [(71, 0), (72, 0)] h h2) (ho : ∀ j, 0 ≤ j → zv_a h2 71 j = if j = zv_i h 38 then m else zv_a h 71 j), (20 - k : Int).toNat < n → zx_T zp_P 0 zp_m205 12 [(0, .ref 44), (1, .int (zI (m))), (2, .int (zI (k)))] [] h2 (zr_R [(44, 38), (71, 0), (72, 0)] h (fun e h' => e = zv_i h 38 ∧ zv_i h' 38 = zv_i h 38 + 1 ∧ ∀ j, 0 ≤ j → zv_a h' 71 j = if j = zv_i h 38 then m else zv_a h 71 j))) := by
  induction n with
  | zero => exact fun _ _ _ _ _ hm => absurd hm (Nat.not_lt_zero _)
  | succ n ih =>
    intro h2 k hI2 k1 k2 hw ho hm
    have hT := zv_ri hI (k := 38) rfl
    refine zx_T.l (i := .iload_n 2) (k := 1) (v := .int (zI (k))) (pc := 12) rfl rfl rfl ?_
    refine zx_T.s (i := .bipush 20) (k := 2) (st' := [.int (zI (20)), .int (zI (k))]) (pc := 13) rfl rfl ?_
    refine zr_i2 (x := k) (y := 20) (t := 39) (pc := 15) rfl rfl (by omega) (by omega) (by omega) (by omega) (fun (c1 : 20 ≤ k) => ?_) (fun (c1 : ¬ (20 ≤ k)) => ?_)
    · refine zx_T.l (i := .aload_n 0) (k := 1) (v := .ref 44) (pc := 39) rfl rfl rfl ?_
      refine zx_T.s (i := .dup) (k := 1) (st' := [.ref 44, .ref 44]) (pc := 40) rfl rfl ?_
      refine zr_gi (k := 38) (lo := 0) (hi := 400) (e := zv_i h 38) (pc := 41) rfl rfl rfl hI2 (zv_wi hw rfl) (fun g2a g2b => ?_)
      refine zx_T.s (i := .iconst 1) (k := 1) (st' := [.int (zI (1)), .int (zI (zv_i h 38)), .ref 44]) (pc := 44) rfl rfl ?_
      refine zr_add (x := zv_i h 38) (y := 1) (e := zv_i h 38 + 1) (pc := 45) rfl (by omega) ?_
      refine zr_pi (k := 38) (lo := 0) (hi := 400) (e := zv_i h 38 + 1) (pc := 46) rfl rfl rfl rfl rfl rfl hI2 (by omega) (by omega) (fun h3 ih3 w4 e5 => ?_)
      refine zx_T.l (i := .aload_n 0) (k := 1) (v := .ref 44) (pc := 49) rfl rfl rfl ?_
      refine zr_gi (k := 38) (lo := 0) (hi := 400) (e := zv_i h 38 + 1) (pc := 50) rfl rfl rfl ih3 e5 (fun g6a g6b => ?_)
      refine zx_T.s (i := .iconst 1) (k := 1) (st' := [.int (zI (1)), .int (zI (zv_i h 38 + 1))]) (pc := 53) rfl rfl ?_
      refine zr_sub (x := zv_i h 38 + 1) (y := 1) (e := zv_i h 38) (pc := 54) rfl (by omega) ?_
      have y7 : zv_i h3 38 = zv_i h 38 + 1 := e5
      have a71 : ∀ j, 0 ≤ j → zv_a h3 71 j = zv_a h2 71 j := fun j hj => by rw [zv_wa w4 rfl j]
      exact zr_ir (x := zv_i h 38) (pc := 55) rfl rfl rfl ⟨ih3, ((hw.wd rfl : zb_W [(44, 38), (71, 0), (72, 0)] h _).tr (w4.wd rfl)), _, rfl, by dsimp only; exact ⟨by omega, by omega, fun j j0 => by rw [a71 j j0]; exact ho j j0⟩⟩
    · refine zx_T.l (i := .aload_n 0) (k := 1) (v := .ref 44) (pc := 18) rfl rfl rfl ?_
      refine zr_gr (k := 40) (b := 72) (pc := 19) rfl rfl rfl hI2 ?_
      refine zx_T.s (i := .bipush 20) (k := 2) (st' := [.int (zI (20)), .ref 72]) (pc := 22) rfl rfl ?_
      refine zx_T.l (i := .aload_n 0) (k := 1) (v := .ref 44) (pc := 24) rfl rfl rfl ?_
      refine zr_gi (k := 38) (lo := 0) (hi := 400) (e := zv_i h 38) (pc := 25) rfl rfl rfl hI2 (zv_wi hw rfl) (fun g9a g9b => ?_)
      refine zr_mul (x := 20) (y := zv_i h 38) (e := 20 * (zv_i h 38)) (pc := 28) rfl (by omega) ?_
      refine zx_T.l (i := .iload_n 2) (k := 1) (v := .int (zI (k))) (pc := 29) rfl rfl rfl ?_
      refine zr_add (x := 20 * (zv_i h 38)) (y := k) (e := 20 * (zv_i h 38) + k) (pc := 30) rfl (by omega) ?_
      refine zx_T.s (i := .iconst 0) (k := 1) (st' := [.int (zI (0)), .int (zI (20 * (zv_i h 38) + k)), .ref 72]) (pc := 31) rfl rfl ?_
      refine zr_as (n := 8000) (lo := (-2147483648)) (hi := 2147483647) (e := 0) (pc := 32) rfl rfl rfl rfl hI2 (by omega) (by omega) (by omega) (by omega) (fun h10 ih10 w11 s12 => ?_)
      refine zr_inc (x := k) (n := 1) (y := k + 1) (ls' := [(2, .int (zI (k + 1))), (0, .ref 44), (1, .int (zI (m)))]) (pc := 33) rfl rfl rfl (by omega) rfl ?_
      refine zx_T.j (i := .goto (-24)) (k := 3) (pc' := 12) (st' := []) (pc := 36) rfl rfl rfl rfl rfl ?_
      have a71 : ∀ j, 0 ≤ j → zv_a h10 71 j = zv_a h2 71 j := fun j hj => by rw [zv_wa w11 rfl j]
      refine zx_T.lk (ls' := [(0, .ref 44), (1, .int (zI (m))), (2, .int (zI (k + 1)))]) rfl ⟨rfl, rfl, rfl, trivial⟩ ?_
      exact ih (h2 := h10) (k := k + 1) ih10 (by omega) (by omega) ((hw.wd rfl : zb_W [(71, 0), (72, 0)] h _).tr (w11.wd rfl)) (fun j j0 => by first | exact a71 j j0 | (rw [a71 j j0]; exact ho j j0)) (by omega)
set_option maxRecDepth 100000 in
set_option maxHeartbeats 4000000 in
theorem zm_thing {h : zx_H} (hI : zb_I zc_H h) {m : Int} (m1 : -2147483648 ≤ m) (m2 : m ≤ 2147483647) (t9 : zv_i h 38 ≤ 399) : zx_T zp_P 0 zp_m205 0 [(0, .ref 44), (1, .int (zI (m)))] [] h (zr_R [(44, 38), (71, 0), (72, 0)] h (fun e h' => e = zv_i h 38 ∧ zv_i h' 38 = zv_i h 38 + 1 ∧ ∀ j, 0 ≤ j → zv_a h' 71 j = if j = zv_i h 38 then m else zv_a h 71 j)) := by
  have hT := zv_ri hI (k := 38) rfl
  refine zx_T.l (i := .aload_n 0) (k := 1) (v := .ref 44) (pc := 0) rfl rfl rfl ?_
  refine zr_gr (k := 39) (b := 71) (pc := 1) rfl rfl rfl hI ?_
  refine zx_T.l (i := .aload_n 0) (k := 1) (v := .ref 44) (pc := 4) rfl rfl rfl ?_
  refine zr_gi (k := 38) (lo := 0) (hi := 400) (e := zv_i h 38) (pc := 5) rfl rfl rfl hI rfl (fun g14a g14b => ?_)
  refine zx_T.l (i := .iload_n 1) (k := 1) (v := .int (zI (m))) (pc := 8) rfl rfl rfl ?_
  refine zr_as (n := 400) (lo := (-2147483648)) (hi := 2147483647) (e := m) (pc := 9) rfl rfl rfl rfl hI (by omega) (by omega) (by omega) (by omega) (fun h15 ih15 w16 s17 => ?_)
  refine zx_T.s (i := .iconst 0) (k := 1) (st' := [.int (zI (0))]) (pc := 10) rfl rfl ?_
  refine zx_T.t (i := .istore_n 2) (k := 1) (ls' := [(2, .int (zI (0))), (0, .ref 44), (1, .int (zI (m)))]) (st' := []) (pc := 11) rfl rfl rfl rfl ?_
  have a71 : ∀ j, 0 ≤ j → zv_a h15 71 j = if j = zv_i h 38 then m else zv_a h 71 j := fun j hj => by rw [s17 j hj]
  refine zx_T.lk (ls' := [(0, .ref 44), (1, .int (zI (m))), (2, .int (zI (0)))]) rfl ⟨rfl, rfl, rfl, trivial⟩ ?_
  exact zm_thing_L (h := h) hI (m := m) m1 m2 t9 ((20 - 0 : Int).toNat + 1) (h2 := h15) (k := 0) ih15 (by omega) (by omega) (w16.wd rfl : zb_W [(71, 0), (72, 0)] h _) (fun j j0 => by first | exact a71 j j0 | (rw [a71 j j0]; exact ho j j0)) (Nat.lt_succ_self _)

set_option maxRecDepth 100000 in
set_option maxHeartbeats 4000000 in
theorem zm_over {h : zx_H} (hI : zb_I zc_H h) {w : Int} (w1 : -2147483648 ≤ w) (w2 : w ≤ 2147483647) : zx_T zp_P 0 zp_m207 0 [(0, .ref 44), (1, .int (zI (w)))] [] h (zr_V [(44, 42), (44, 43)] h (fun h' => zv_i h' 42 = 1 ∧ zv_i h' 43 = w)) := by
  refine zx_T.l (i := .aload_n 0) (k := 1) (v := .ref 44) (pc := 0) rfl rfl rfl ?_
  refine zx_T.s (i := .iconst 1) (k := 1) (st' := [.int (zI (1)), .ref 44]) (pc := 1) rfl rfl ?_
  refine zr_pi (k := 42) (lo := 0) (hi := 1) (e := 1) (pc := 2) rfl rfl rfl rfl rfl rfl hI (by omega) (by omega) (fun h1 ih1 w2 e3 => ?_)
  refine zx_T.l (i := .aload_n 0) (k := 1) (v := .ref 44) (pc := 5) rfl rfl rfl ?_
  refine zx_T.l (i := .iload_n 1) (k := 1) (v := .int (zI (w))) (pc := 6) rfl rfl rfl ?_
  refine zr_pi (k := 43) (lo := (-2147483648)) (hi := 2147483647) (e := w) (pc := 7) rfl rfl rfl rfl rfl rfl ih1 (by omega) (by omega) (fun h4 ih4 w5 e6 => ?_)
  have y7 : zv_i h4 42 = 1 := ((zv_wi w5 rfl).trans e3)
  have y8 : zv_i h4 43 = w := e6
  exact zr_vr (pc := 10) rfl rfl ⟨ih4, ((w2.wd rfl : zb_W [(44, 42), (44, 43)] h _).tr (w5.wd rfl)), rfl, by dsimp only; omega⟩

set_option maxRecDepth 100000 in
set_option maxHeartbeats 4000000 in
theorem zm_bad {h : zx_H} (hI : zb_I zc_H h) {w : Int} {p : Int} (w1 : -2147483648 ≤ w) (w2 : w ≤ 2147483647) (p1 : 0 ≤ p) (p2 : p ≤ 59) : zx_T zp_P 1 zp_m208 0 [(0, .ref 44), (1, .int (zI (w))), (2, .int (zI (p)))] [] h (zr_V [(44, 14), (44, 42), (44, 43)] h (fun h' => zv_i h' 42 = 1 ∧ ¬ zv_i h' 43 = 0)) := by
  refine zx_T.l (i := .aload_n 0) (k := 1) (v := .ref 44) (pc := 0) rfl rfl rfl ?_
  refine zx_T.l (i := .iload_n 1) (k := 1) (v := .int (zI (w))) (pc := 1) rfl rfl rfl ?_
  refine zr_pi (k := 14) (lo := (-2147483648)) (hi := 2147483647) (e := w) (pc := 2) rfl rfl rfl rfl rfl rfl hI (by omega) (by omega) (fun h1 ih1 w2 e3 => ?_)
  refine zx_T.l (i := .aload_n 0) (k := 1) (v := .ref 44) (pc := 5) rfl rfl rfl ?_
  refine zx_T.s (i := .bipush (-10)) (k := 2) (st' := [.int (zI ((-10))), .ref 44]) (pc := 6) rfl rfl ?_
  refine zx_T.l (i := .iload_n 2) (k := 1) (v := .int (zI (p))) (pc := 8) rfl rfl rfl ?_
  refine zr_sub (x := (-10)) (y := p) (e := (-1) * p - 10) (pc := 9) rfl (by omega) ?_
  refine zr_iv (cj := 207) (q' := zp_m207) (As := [.int (zI ((-1) * p - 10))]) (rest := []) (pc := 10) rfl rfl rfl rfl rfl rfl (Nat.le_of_ble_eq_true rfl) rfl (Nat.le_of_ble_eq_true rfl) ih1 ((zm_over (h := h1) ih1 (w := (-1) * p - 10) (by omega) (by omega)).up (Nat.le_of_ble_eq_true rfl)) ?_
  rintro r4 h7 ⟨ih7, w8, r4q, x6⟩
  subst r4q
  try dsimp only at x6
  show zx_T zp_P 1 zp_m208 13 [(0, .ref 44), (1, .int (zI (w))), (2, .int (zI (p)))] [] h7 _
  exact zr_vr (pc := 13) rfl rfl ⟨ih7, ((w2.wd rfl : zb_W [(44, 14), (44, 42), (44, 43)] h _).tr (w8.wd rfl)), rfl, by dsimp only; omega⟩

set_option maxRecDepth 100000 in
set_option maxHeartbeats 4000000 in
theorem zm_go {h : zx_H} (hI : zb_I zc_H h) {q : Int} {p : Int} (q1 : -2147483648 ≤ q) (q2 : q ≤ 2147483647) (p1 : 0 ≤ p) (p2 : p ≤ 59) : zx_T zp_P 2 zp_m209 0 [(0, .ref 44), (1, .int (zI (q))), (2, .int (zI (p)))] [] h (zr_V [(44, 50), (44, 14), (44, 42), (44, 43)] h (fun h' => (zv_i h' 42 = 1 ∧ ¬ zv_i h' 43 = 0) ∨ (zv_i h' 42 = zv_i h 42 ∧ 0 ≤ zv_i h' 50 ∧ zv_i h' 50 < zv_i h 1))) := by
  have hC := zv_ri hI (k := 1) rfl
  refine zx_T.l (i := .iload_n 1) (k := 1) (v := .int (zI (q))) (pc := 0) rfl rfl rfl ?_
  refine zx_T.s (i := .iconst 0) (k := 1) (st' := [.int (zI (0)), .int (zI (q))]) (pc := 1) rfl rfl ?_
  refine zx_T.l (i := .aload_n 0) (k := 1) (v := .ref 44) (pc := 2) rfl rfl rfl ?_
  refine zr_gi (k := 1) (lo := 0) (hi := 60) (e := zv_i h 1) (pc := 3) rfl rfl rfl hI rfl (fun g1a g1b => ?_)
  refine zx_T.s (i := .iconst 1) (k := 1) (st' := [.int (zI (1)), .int (zI (zv_i h 1)), .int (zI (0)), .int (zI (q))]) (pc := 6) rfl rfl ?_
  refine zr_sub (x := zv_i h 1) (y := 1) (e := zv_i h 1 - 1) (pc := 7) rfl (by omega) ?_
  refine zr_is (cj := 155) (q' := zp_m155) (As := [.int (zI (q)), .int (zI (0)), .int (zI (zv_i h 1 - 1))]) (rest := []) (pc := 8) rfl rfl rfl rfl rfl rfl (Nat.le_of_ble_eq_true rfl) rfl (Nat.le_of_ble_eq_true rfl) rfl ((zm_in (h := h) hI (v := q) (l := 0) (u := zv_i h 1 - 1) (by omega) (by omega) (by omega) (by omega) (by omega) (by omega)).up (Nat.le_of_ble_eq_true rfl)) ?_
  rintro r2 h5 ⟨h5q, v3, r2q, x4⟩
  subst h5q r2q
  try dsimp only at x4
  show zx_T zp_P 2 zp_m209 11 [(0, .ref 44), (1, .int (zI (q))), (2, .int (zI (p)))] [.int (zI (v3))] h _
  refine zr_i1 (x := v3) (t := 22) (pc := 11) rfl rfl (by omega) (by omega) (fun (c6 : v3 = 0) => ?_) (fun (c6 : ¬ (v3 = 0)) => ?_)
  · refine zx_T.l (i := .aload_n 0) (k := 1) (v := .ref 44) (pc := 22) rfl rfl rfl ?_
    refine zx_T.s (i := .bipush 7) (k := 2) (st' := [.int (zI (7)), .ref 44]) (pc := 23) rfl rfl ?_
    refine zx_T.l (i := .iload_n 2) (k := 1) (v := .int (zI (p))) (pc := 25) rfl rfl rfl ?_
    refine zr_iv (cj := 208) (q' := zp_m208) (As := [.int (zI (7)), .int (zI (p))]) (rest := []) (pc := 26) rfl rfl rfl rfl rfl rfl (Nat.le_of_ble_eq_true rfl) rfl (Nat.le_of_ble_eq_true rfl) hI ((zm_bad (h := h) hI (w := 7) (p := p) (by omega) (by omega) (by omega) (by omega)).up (Nat.le_of_ble_eq_true rfl)) ?_
    rintro r7 h10 ⟨ih10, w11, r7q, x9⟩
    subst r7q
    try dsimp only at x9
    show zx_T zp_P 2 zp_m209 29 [(0, .ref 44), (1, .int (zI (q))), (2, .int (zI (p)))] [] h10 _
    have y12 : zv_i h10 50 = zv_i h 50 := (zv_wi w11 rfl)
    exact zr_vr (pc := 29) rfl rfl ⟨ih10, (w11.wd rfl : zb_W [(44, 50), (44, 14), (44, 42), (44, 43)] h _), rfl, by dsimp only; omega⟩
  · refine zx_T.l (i := .aload_n 0) (k := 1) (v := .ref 44) (pc := 14) rfl rfl rfl ?_
    refine zx_T.l (i := .iload_n 1) (k := 1) (v := .int (zI (q))) (pc := 15) rfl rfl rfl ?_
    refine zr_pi (k := 50) (lo := (-1)) (hi := 59) (e := q) (pc := 16) rfl rfl rfl rfl rfl rfl hI (by omega) (by omega) (fun h14 ih14 w15 e16 => ?_)
    refine zx_T.j (i := .goto 10) (k := 3) (pc' := 29) (st' := []) (pc := 19) rfl rfl rfl rfl rfl ?_
    have y17 : zv_i h14 50 = q := e16
    have y18 : zv_i h14 42 = zv_i h 42 := (zv_wi w15 rfl)
    exact zr_vr (pc := 29) rfl rfl ⟨ih14, (w15.wd rfl : zb_W [(44, 50), (44, 14), (44, 42), (44, 43)] h _), rfl, by dsimp only; omega⟩

def zg_ra (h h' : zx_H) (k w : Int) : Prop := ((zv_i h' 42 = 1 ∧ ¬ zv_i h' 43 = 0) ∨ (zv_i h' 42 = zv_i h 42 ∧ 0 ≤ zv_i h' 50 ∧ zv_i h' 50 < zv_i h 1 ∧ zv_i h' 25 = 1 ∧ (∀ j, 0 ≤ j → zv_a h' 61 j = if j = 8 then k else zv_a h 61 j) ∧ (∀ j, 0 ≤ j → zv_b h' 69 j = if j = 8 then w else zv_b h 69 j))) ∧ ¬ zv_a h' 61 8 = 3

theorem zg_ra.mk {h h1 h' : zx_H} {k w : Int} (k1 : 7 ≤ k) (n8 : zv_a h' 61 8 = k) (g : (zv_i h' 42 = 1 ∧ ¬ zv_i h' 43 = 0) ∨ (zv_i h' 42 = zv_i h1 42 ∧ 0 ≤ zv_i h' 50 ∧ zv_i h' 50 < zv_i h1 1)) (x1 : zv_i h1 42 = zv_i h 42) (c1 : zv_i h1 1 = zv_i h 1) (s1 : zv_i h' 25 = 1) (a1 : ∀ j, 0 ≤ j → zv_a h' 61 j = if j = 8 then k else zv_a h 61 j) (v1 : ∀ j, 0 ≤ j → zv_b h' 69 j = if j = 8 then w else zv_b h 69 j) : zg_ra h h' k w := by
  refine ⟨?_, by omega⟩
  rcases g with g | g
  · exact Or.inl g
  · exact Or.inr ⟨by omega, by omega, by omega, s1, a1, v1⟩

set_option maxRecDepth 100000 in
set_option maxHeartbeats 4000000 in
theorem zm_raise_L {h : zx_H} (hI : zb_I zc_H h) {p : Int} {k : Int} {w : Int} (p1 : 0 ≤ p) (p2 : p ≤ 59) (k1 : 7 ≤ k) (k2 : k ≤ 8) (w1 : 0 ≤ w) (w2 : w ≤ 399) (n8 : ¬ zv_a h 61 8 = 3) (n : Nat) : (∀ {t : Int} (t1 : 0 ≤ t) (t2 : t ≤ zv_i h 5), (10 - t : Int).toNat < n → zx_T zp_P 3 zp_m210 3 [(0, .ref 44), (1, .int (zI (p))), (2, .int (zI (k))), (3, .int (zI (w))), (4, .int (zI (t)))] [] h (zr_V [(44, 25), (61, 0), (69, 0), (44, 50), (44, 14), (44, 42), (44, 43), (44, 49)] h (fun h' => zg_ra h h' k w))) := by
  induction n with
  | zero => exact fun _ _ hm => absurd hm (Nat.not_lt_zero _)
  | succ n ih =>
    intro t t1 t2 hm
    have hH := zv_ri hI (k := 5) rfl
    refine zx_T.l (i := .iload 4) (k := 2) (v := .int (zI (t))) (pc := 3) rfl rfl rfl ?_
    refine zx_T.l (i := .aload_n 0) (k := 1) (v := .ref 44) (pc := 5) rfl rfl rfl ?_
    refine zr_gi (k := 5) (lo := 0) (hi := 6) (e := zv_i h 5) (pc := 6) rfl rfl rfl hI rfl (fun g1a g1b => ?_)
    refine zr_i2 (x := t) (y := zv_i h 5) (t := 77) (pc := 9) rfl rfl (by omega) (by omega) (by omega) (by omega) (fun (c2 : (zv_i h 5) ≤ t) => ?_) (fun (c2 : ¬ ((zv_i h 5) ≤ t)) => ?_)
    · refine zx_T.l (i := .aload_n 0) (k := 1) (v := .ref 44) (pc := 77) rfl rfl rfl ?_
      refine zx_T.l (i := .aload_n 0) (k := 1) (v := .ref 44) (pc := 78) rfl rfl rfl ?_
      refine zr_gr (k := 39) (b := 71) (pc := 79) rfl rfl rfl hI ?_
      refine zx_T.l (i := .iload_n 3) (k := 1) (v := .int (zI (w))) (pc := 82) rfl rfl rfl ?_
      refine zr_al (n := 400) (lo := (-2147483648)) (hi := 2147483647) (e := zv_a h 71 w) (pc := 83) rfl rfl rfl hI (by omega) (by omega) rfl (fun g3a g3b => ?_)
      refine zr_pi (k := 49) (lo := (-2147483648)) (hi := 2147483647) (e := zv_a h 71 w) (pc := 84) rfl rfl rfl rfl rfl rfl hI (by omega) (by omega) (fun h4 ih4 w5 e6 => ?_)
      refine zx_T.l (i := .aload_n 0) (k := 1) (v := .ref 44) (pc := 87) rfl rfl rfl ?_
      refine zx_T.s (i := .iconst 1) (k := 1) (st' := [.int (zI (1)), .ref 44]) (pc := 88) rfl rfl ?_
      refine zr_iv (cj := 207) (q' := zp_m207) (As := [.int (zI (1))]) (rest := []) (pc := 89) rfl rfl rfl rfl rfl rfl (Nat.le_of_ble_eq_true rfl) rfl (Nat.le_of_ble_eq_true rfl) ih4 ((zm_over (h := h4) ih4 (w := 1) (by omega) (by omega)).up (Nat.le_of_ble_eq_true rfl)) ?_
      rintro r7 h10 ⟨ih10, w11, r7q, x9⟩
      subst r7q
      try dsimp only at x9
      show zx_T zp_P 3 zp_m210 92 [(0, .ref 44), (1, .int (zI (p))), (2, .int (zI (k))), (3, .int (zI (w))), (4, .int (zI (t)))] [] h10 _
      have y12 : zv_a h10 61 8 = zv_a h 61 8 := ((zv_wa w11 rfl 8).trans (zv_wa w5 rfl 8))
      have i42 : zv_i h10 42 = zv_i h10 42 := rfl
      have y14 : zv_i h10 1 = zv_i h 1 := ((zv_wi w11 rfl).trans (zv_wi w5 rfl))
      have i25 : zv_i h10 25 = zv_i h 25 := ((zv_wi w11 rfl).trans (zv_wi w5 rfl))
      have a61 : ∀ j, 0 ≤ j → zv_a h10 61 j = zv_a h 61 j := fun j hj => by rw [zv_wa w11 rfl j, zv_wa w5 rfl j]
      have b69 : ∀ j, 0 ≤ j → zv_b h10 69 j = zv_b h 69 j := fun j hj => by rw [zv_wb w11 rfl j, zv_wb w5 rfl j]
      exact zr_vr (pc := 92) rfl rfl ⟨ih10, ((w5.wd rfl : zb_W [(44, 25), (61, 0), (69, 0), (44, 50), (44, 14), (44, 42), (44, 43), (44, 49)] h _).tr (w11.wd rfl)), rfl, by dsimp only; exact ⟨Or.inl ⟨by omega, by omega⟩, by omega⟩⟩
    · refine zx_T.l (i := .aload_n 0) (k := 1) (v := .ref 44) (pc := 12) rfl rfl rfl ?_
      refine zx_T.l (i := .iload 4) (k := 2) (v := .int (zI (t))) (pc := 13) rfl rfl rfl ?_
      refine zx_T.l (i := .iload_n 1) (k := 1) (v := .int (zI (p))) (pc := 15) rfl rfl rfl ?_
      refine zr_iv (cj := 171) (q' := zp_m171) (As := [.int (zI (t)), .int (zI (p))]) (rest := []) (pc := 16) rfl rfl rfl rfl rfl rfl (Nat.le_of_ble_eq_true rfl) rfl (Nat.le_of_ble_eq_true rfl) hI ((zm_has (h := h) hI (t := t) (p := p) (by omega) (by omega) (by omega) (by omega)).up (Nat.le_of_ble_eq_true rfl)) ?_
      rintro r18 h21 ⟨h21q, v19, r18q, x20⟩
      subst h21q r18q
      try dsimp only at x20
      show zx_T zp_P 3 zp_m210 19 [(0, .ref 44), (1, .int (zI (p))), (2, .int (zI (k))), (3, .int (zI (w))), (4, .int (zI (t)))] [.int (zI (v19))] h _
      refine zr_i1 (x := v19) (t := 71) (pc := 19) rfl rfl (by omega) (by omega) (fun (c22 : v19 = 0) => ?_) (fun (c22 : ¬ (v19 = 0)) => ?_)
      · refine zr_inc (x := t) (n := 1) (y := t + 1) (ls' := [(4, .int (zI (t + 1))), (0, .ref 44), (1, .int (zI (p))), (2, .int (zI (k))), (3, .int (zI (w)))]) (pc := 71) rfl rfl rfl (by omega) rfl ?_
        refine zx_T.j (i := .goto (-71)) (k := 3) (pc' := 3) (st' := []) (pc := 74) rfl rfl rfl rfl rfl ?_
        refine zx_T.lk (ls' := [(0, .ref 44), (1, .int (zI (p))), (2, .int (zI (k))), (3, .int (zI (w))), (4, .int (zI (t + 1)))]) rfl ⟨rfl, rfl, rfl, rfl, rfl, trivial⟩ ?_
        exact ih (t := t + 1) (by omega) (by omega) (by omega)
      · refine zx_T.l (i := .iload_n 2) (k := 1) (v := .int (zI (k))) (pc := 22) rfl rfl rfl ?_
        refine zx_T.l (i := .aload_n 0) (k := 1) (v := .ref 44) (pc := 23) rfl rfl rfl ?_
        refine zr_gr (k := 9) (b := 51) (pc := 24) rfl rfl rfl hI ?_
        refine zx_T.l (i := .iload 4) (k := 2) (v := .int (zI (t))) (pc := 27) rfl rfl rfl ?_
        refine zr_al (n := 6) (lo := 0) (hi := 8) (e := zv_a h 51 t) (pc := 29) rfl rfl rfl hI (by omega) (by omega) rfl (fun g23a g23b => ?_)
        refine zr_is (cj := 156) (q' := zp_m156) (As := [.int (zI (k)), .int (zI (zv_a h 51 t))]) (rest := []) (pc := 30) rfl rfl rfl rfl rfl rfl (Nat.le_of_ble_eq_true rfl) rfl (Nat.le_of_ble_eq_true rfl) rfl ((zm_goesAs (h := h) hI (a := k) (b := zv_a h 51 t) (by omega) (by omega) (by omega) (by omega)).up (Nat.le_of_ble_eq_true rfl)) ?_
        rintro r24 h27 ⟨h27q, v25, r24q, x26⟩
        subst h27q r24q
        try dsimp only at x26
        show zx_T zp_P 3 zp_m210 33 [(0, .ref 44), (1, .int (zI (p))), (2, .int (zI (k))), (3, .int (zI (w))), (4, .int (zI (t)))] [.int (zI (v25))] h _
        refine zr_i1 (x := v25) (t := 71) (pc := 33) rfl rfl (by omega) (by omega) (fun (c28 : v25 = 0) => ?_) (fun (c28 : ¬ (v25 = 0)) => ?_)
        · refine zr_inc (x := t) (n := 1) (y := t + 1) (ls' := [(4, .int (zI (t + 1))), (0, .ref 44), (1, .int (zI (p))), (2, .int (zI (k))), (3, .int (zI (w)))]) (pc := 71) rfl rfl rfl (by omega) rfl ?_
          refine zx_T.j (i := .goto (-71)) (k := 3) (pc' := 3) (st' := []) (pc := 74) rfl rfl rfl rfl rfl ?_
          refine zx_T.lk (ls' := [(0, .ref 44), (1, .int (zI (p))), (2, .int (zI (k))), (3, .int (zI (w))), (4, .int (zI (t + 1)))]) rfl ⟨rfl, rfl, rfl, rfl, rfl, trivial⟩ ?_
          exact ih (t := t + 1) (by omega) (by omega) (by omega)
        · refine zx_T.l (i := .aload_n 0) (k := 1) (v := .ref 44) (pc := 36) rfl rfl rfl ?_
          refine zx_T.s (i := .iconst 1) (k := 1) (st' := [.int (zI (1)), .ref 44]) (pc := 37) rfl rfl ?_
          refine zr_pi (k := 25) (lo := 0) (hi := 6) (e := 1) (pc := 38) rfl rfl rfl rfl rfl rfl hI (by omega) (by omega) (fun h29 ih29 w30 e31 => ?_)
          refine zx_T.l (i := .aload_n 0) (k := 1) (v := .ref 44) (pc := 41) rfl rfl rfl ?_
          refine zr_gr (k := 24) (b := 61) (pc := 42) rfl rfl rfl ih29 ?_
          refine zx_T.s (i := .bipush 8) (k := 2) (st' := [.int (zI (8)), .ref 61]) (pc := 45) rfl rfl ?_
          refine zx_T.l (i := .iload_n 2) (k := 1) (v := .int (zI (k))) (pc := 47) rfl rfl rfl ?_
          refine zr_as (n := 14) (lo := 0) (hi := 8) (e := k) (pc := 48) rfl rfl rfl rfl ih29 (by omega) (by omega) (by omega) (by omega) (fun h32 ih32 w33 s34 => ?_)
          refine zx_T.l (i := .aload_n 0) (k := 1) (v := .ref 44) (pc := 49) rfl rfl rfl ?_
          refine zr_gr (k := 36) (b := 69) (pc := 50) rfl rfl rfl ih32 ?_
          refine zx_T.s (i := .bipush 8) (k := 2) (st' := [.int (zI (8)), .ref 69]) (pc := 53) rfl rfl ?_
          refine zx_T.l (i := .iload_n 3) (k := 1) (v := .int (zI (w))) (pc := 55) rfl rfl rfl ?_
          refine zr_i2l (pc := 56) rfl (by omega) (by omega) ?_
          refine zr_ls (n := 14) (e := w) (pc := 57) rfl rfl rfl ih32 (by omega) (by omega) (fun h35 ih35 w36 s37 => ?_)
          refine zx_T.l (i := .aload_n 0) (k := 1) (v := .ref 44) (pc := 58) rfl rfl rfl ?_
          refine zx_T.l (i := .aload_n 0) (k := 1) (v := .ref 44) (pc := 59) rfl rfl rfl ?_
          refine zr_gr (k := 8) (b := 50) (pc := 60) rfl rfl rfl ih35 ?_
          refine zx_T.l (i := .iload 4) (k := 2) (v := .int (zI (t))) (pc := 63) rfl rfl rfl ?_
          refine zr_al (n := 6) (lo := 0) (hi := 60) (e := zv_a h 50 t) (pc := 65) rfl rfl rfl ih35 (by omega) (by omega) ((zv_wa w36 rfl t).trans ((zv_wa w33 rfl t).trans (zv_wa w30 rfl t))) (fun g38a g38b => ?_)
          refine zx_T.l (i := .iload_n 1) (k := 1) (v := .int (zI (p))) (pc := 66) rfl rfl rfl ?_
          have y39 : zv_i h35 42 = zv_i h 42 := ((zv_wi w36 rfl).trans ((zv_wi w33 rfl).trans (zv_wi w30 rfl)))
          have y40 : zv_i h35 1 = zv_i h 1 := ((zv_wi w36 rfl).trans ((zv_wi w33 rfl).trans (zv_wi w30 rfl)))
          refine zr_iv (cj := 209) (q' := zp_m209) (As := [.int (zI (zv_a h 50 t)), .int (zI (p))]) (rest := []) (pc := 67) rfl rfl rfl rfl rfl rfl (Nat.le_of_ble_eq_true rfl) rfl (Nat.le_of_ble_eq_true rfl) ih35 ((zm_go (h := h35) ih35 (q := zv_a h 50 t) (p := p) (by omega) (by omega) (by omega) (by omega)).up (Nat.le_of_ble_eq_true rfl)) ?_
          rintro r41 h44 ⟨ih44, w45, r41q, x43⟩
          subst r41q
          try dsimp only at x43
          have gx := x43
          show zx_T zp_P 3 zp_m210 70 [(0, .ref 44), (1, .int (zI (p))), (2, .int (zI (k))), (3, .int (zI (w))), (4, .int (zI (t)))] [] h44 _
          have y46 : zv_a h44 61 8 = k := ((zv_wa w45 rfl 8).trans ((zv_wa w36 rfl 8).trans ((s34 8 (by omega)).trans (if_pos rfl))))
          have i42 : zv_i h44 42 = zv_i h44 42 := rfl
          have y48 : zv_i h44 1 = zv_i h 1 := ((zv_wi w45 rfl).trans ((zv_wi w36 rfl).trans ((zv_wi w33 rfl).trans (zv_wi w30 rfl))))
          have i25 : zv_i h44 25 = 1 := ((zv_wi w45 rfl).trans ((zv_wi w36 rfl).trans ((zv_wi w33 rfl).trans e31)))
          have a61 : ∀ j, 0 ≤ j → zv_a h44 61 j = if j = 8 then k else zv_a h 61 j := fun j hj => by rw [zv_wa w45 rfl j, zv_wa w36 rfl j, s34 j hj, zv_wa w30 rfl j]
          have b69 : ∀ j, 0 ≤ j → zv_b h44 69 j = if j = 8 then (zL (w)).toInt else zv_b h 69 j := fun j hj => by rw [zv_wb w45 rfl j, s37 j hj, zv_wb w33 rfl j, zv_wb w30 rfl j]
          exact zr_vr (pc := 70) rfl rfl ⟨ih44, ((((w30.wd rfl : zb_W [(44, 25), (61, 0), (69, 0), (44, 50), (44, 14), (44, 42), (44, 43), (44, 49)] h _).tr (w33.wd rfl)).tr (w36.wd rfl)).tr (w45.wd rfl)), rfl, by dsimp only; exact zg_ra.mk (h1 := h35) (by omega) (by omega) gx (by omega) (by omega) (by omega) (fun j j0 => by rw [a61 j j0]) (fun j j0 => by rw [b69 j j0, show (zL w).toInt = w from zL_i (by omega) (by omega)])⟩
set_option maxRecDepth 100000 in
set_option maxHeartbeats 4000000 in
theorem zm_raise {h : zx_H} (hI : zb_I zc_H h) {p : Int} {k : Int} {w : Int} (p1 : 0 ≤ p) (p2 : p ≤ 59) (k1 : 7 ≤ k) (k2 : k ≤ 8) (w1 : 0 ≤ w) (w2 : w ≤ 399) (n8 : ¬ zv_a h 61 8 = 3) : zx_T zp_P 3 zp_m210 0 [(0, .ref 44), (1, .int (zI (p))), (2, .int (zI (k))), (3, .int (zI (w)))] [] h (zr_V [(44, 25), (61, 0), (69, 0), (44, 50), (44, 14), (44, 42), (44, 43), (44, 49)] h (fun h' => zg_ra h h' k w)) := by
  have hH := zv_ri hI (k := 5) rfl
  refine zx_T.s (i := .iconst 0) (k := 1) (st' := [.int (zI (0))]) (pc := 0) rfl rfl ?_
  refine zx_T.t (i := .istore 4) (k := 2) (ls' := [(4, .int (zI (0))), (0, .ref 44), (1, .int (zI (p))), (2, .int (zI (k))), (3, .int (zI (w)))]) (st' := []) (pc := 1) rfl rfl rfl rfl ?_
  refine zx_T.lk (ls' := [(0, .ref 44), (1, .int (zI (p))), (2, .int (zI (k))), (3, .int (zI (w))), (4, .int (zI (0)))]) rfl ⟨rfl, rfl, rfl, rfl, rfl, trivial⟩ ?_
  exact zm_raise_L (h := h) hI (p := p) (k := k) (w := w) p1 p2 k1 k2 w1 w2 n8 ((10 - 0 : Int).toNat + 1) (t := 0) (by omega) (by omega) (Nat.lt_succ_self _)

def zg_rf (h h' : zx_H) : Prop := zv_i h' 38 = zv_i h 38 + 1 ∧ zv_i h' 41 = zv_i h 41 + 1 ∧ (∀ j, 0 ≤ j → j < zv_i h 38 → zv_a h' 71 j = zv_a h 71 j) ∧ zg_ra h h' 7 (zv_i h 38)

theorem zg_ra.ba {W : List (Nat × Nat)} {h h1 h' : zx_H} {k w : Int} (a : zg_ra h1 h' k w) (w1 : zb_W W h h1) (e1 : za_in W 44 42 = false) (e2 : za_in W 44 1 = false) (e3 : za_in W 61 0 = false) (e4 : za_in W 69 0 = false) : zg_ra h h' k w := by
  unfold zg_ra at a ⊢
  simp only [zv_wi w1 e1, zv_wi w1 e2, zv_wa w1 e3, zv_wb w1 e4] at a
  exact a

set_option maxRecDepth 100000 in
set_option maxHeartbeats 4000000 in
theorem zm_refuse {h : zx_H} (hI : zb_I zc_H h) {p : Int} {q : Int} (p1 : 0 ≤ p) (p2 : p ≤ 59) (q1 : -2147483648 ≤ q) (q2 : q ≤ 2147483647) (t9 : zv_i h 38 ≤ 399) (r9 : zv_i h 41 ≤ 1000000) (r8 : (-5) ≤ zv_i h 41) (n8 : ¬ zv_a h 61 8 = 3) : zx_T zp_P 4 zp_m211 0 [(0, .ref 44), (1, .int (zI (p))), (2, .int (zI (q)))] [] h (zr_V [(44, 25), (61, 0), (69, 0), (44, 50), (44, 14), (44, 42), (44, 43), (44, 49), (44, 41), (44, 38), (71, 0), (72, 0)] h (fun h' => zg_rf h h')) := by
  have hT := zv_ri hI (k := 38) rfl
  refine zx_T.l (i := .aload_n 0) (k := 1) (v := .ref 44) (pc := 0) rfl rfl rfl ?_
  refine zx_T.s (i := .dup) (k := 1) (st' := [.ref 44, .ref 44]) (pc := 1) rfl rfl ?_
  refine zr_gi (k := 41) (lo := (-2147483648)) (hi := 2147483647) (e := zv_i h 41) (pc := 2) rfl rfl rfl hI rfl (fun g1a g1b => ?_)
  refine zx_T.s (i := .iconst 1) (k := 1) (st' := [.int (zI (1)), .int (zI (zv_i h 41)), .ref 44]) (pc := 5) rfl rfl ?_
  refine zr_add (x := zv_i h 41) (y := 1) (e := zv_i h 41 + 1) (pc := 6) rfl (by omega) ?_
  refine zr_pi (k := 41) (lo := (-2147483648)) (hi := 2147483647) (e := zv_i h 41 + 1) (pc := 7) rfl rfl rfl rfl rfl rfl hI (by omega) (by omega) (fun h3 ih3 w4 e5 => ?_)
  refine zx_T.l (i := .aload_n 0) (k := 1) (v := .ref 44) (pc := 10) rfl rfl rfl ?_
  refine zx_T.l (i := .iload_n 1) (k := 1) (v := .int (zI (p))) (pc := 11) rfl rfl rfl ?_
  refine zx_T.s (i := .bipush 7) (k := 2) (st' := [.int (zI (7)), .int (zI (p)), .ref 44]) (pc := 12) rfl rfl ?_
  refine zx_T.l (i := .aload_n 0) (k := 1) (v := .ref 44) (pc := 14) rfl rfl rfl ?_
  refine zx_T.l (i := .iload_n 2) (k := 1) (v := .int (zI (q))) (pc := 15) rfl rfl rfl ?_
  have y6 : zv_i h3 38 = zv_i h 38 := (zv_wi w4 rfl)
  refine zr_iv (cj := 205) (q' := zp_m205) (As := [.int (zI (q))]) (rest := [.int (zI (7)), .int (zI (p)), .ref 44]) (pc := 16) rfl rfl rfl rfl rfl rfl (Nat.le_of_ble_eq_true rfl) rfl (Nat.le_of_ble_eq_true rfl) ih3 ((zm_thing (h := h3) ih3 (m := q) (by omega) (by omega) (by omega)).up (Nat.le_of_ble_eq_true rfl)) ?_
  rintro r7 h10 ⟨ih10, w11, v8, r7q, x9⟩
  subst r7q
  try dsimp only at x9
  have th := x9
  show zx_T zp_P 4 zp_m211 19 [(0, .ref 44), (1, .int (zI (p))), (2, .int (zI (q)))] [.int (zI (v8)), .int (zI (7)), .int (zI (p)), .ref 44] h10 _
  have y12 : zv_i h10 42 = zv_i h 42 := ((zv_wi w11 rfl).trans (zv_wi w4 rfl))
  have y13 : zv_i h10 1 = zv_i h 1 := ((zv_wi w11 rfl).trans (zv_wi w4 rfl))
  have y14 : zv_a h10 61 8 = zv_a h 61 8 := ((zv_wa w11 rfl 8).trans (zv_wa w4 rfl 8))
  refine zr_iv (cj := 210) (q' := zp_m210) (As := [.int (zI (p)), .int (zI (7)), .int (zI (v8))]) (rest := []) (pc := 19) rfl rfl rfl rfl rfl rfl (Nat.le_of_ble_eq_true rfl) rfl (Nat.le_of_ble_eq_true rfl) ih10 ((zm_raise (h := h10) ih10 (p := p) (k := 7) (w := v8) (by omega) (by omega) (by omega) (by omega) (by omega) (by omega) (by omega)).up (Nat.le_of_ble_eq_true rfl)) ?_
  rintro r15 h18 ⟨ih18, w19, r15q, x17⟩
  subst r15q
  try dsimp only at x17
  have ra := x17
  show zx_T zp_P 4 zp_m211 22 [(0, .ref 44), (1, .int (zI (p))), (2, .int (zI (q)))] [] h18 _
  have y20 : zv_i h18 38 = zv_i h10 38 := (zv_wi w19 rfl)
  have y21 : zv_i h18 41 = zv_i h 41 + 1 := ((zv_wi w19 rfl).trans ((zv_wi w11 rfl).trans e5))
  have a71 : ∀ j, 0 ≤ j → zv_a h18 71 j = zv_a h10 71 j := fun j hj => by rw [zv_wa w19 rfl j]
  exact zr_vr (pc := 22) rfl rfl ⟨ih18, (((w4.wd rfl : zb_W [(44, 25), (61, 0), (69, 0), (44, 50), (44, 14), (44, 42), (44, 43), (44, 49), (44, 41), (44, 38), (71, 0), (72, 0)] h _).tr (w11.wd rfl)).tr (w19.wd rfl)), rfl, by dsimp only; exact ⟨by omega, by omega, fun j j0 j1 => by rw [a71 j j0, th.2.2 j j0, if_neg (by omega)]; exact zv_wa w4 rfl j, by have r2 := ra; rw [th.1, zv_wi w4 rfl] at r2; exact r2.ba ((w4.wd rfl : zb_W [(44, 41), (44, 38), (71, 0), (72, 0)] h _).tr (w11.wd rfl)) rfl rfl rfl rfl⟩⟩
