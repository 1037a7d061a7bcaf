/-! ===== 97zz: the reference, method by method (by program) ===== -/
theorem zf_of_w {W : List (Nat × Nat)} {h h' : zx_H} (w : zb_W W h h') (e : (za_in W 44 25 || za_in W 61 0 || za_in W 69 0 || za_in W 44 38 || za_in W 71 0 || za_in W 72 0 || za_in W 44 42 || za_in W 44 43 || za_in W 44 14 || za_in W 44 49 || za_in W 44 41) = false) (p : Int) : zf_of h' p = zf_of h p := by
  simp only [Bool.or_eq_false_iff] at e
  obtain ⟨⟨⟨⟨⟨⟨⟨⟨⟨⟨e1, e2⟩, e3⟩, e4⟩, e5⟩, e6⟩, e7⟩, e8⟩, e9⟩, e10⟩, e11⟩ := e
  unfold zf_of
  rw [zv_wi w e1, zv_wi w e4, zv_wi w e7, zv_wi w e8, zv_wi w e9, zv_wi w e10, zv_wi w e11, show zv_a h' 61 = zv_a h 61 from funext (fun q => zv_wa w e2 q), show zv_b h' 69 = zv_b h 69 from funext (fun q => zv_wb w e3 q), show zv_a h' 71 = zv_a h 71 from funext (fun q => zv_wa w e5 q), show zv_a h' 72 = zv_a h 72 from funext (fun q => zv_wa w e6 q)]
def zf_bf (h : zx_H) (v : zK) : Prop := zf_b0 (zs_row (zr_Pg h)) (zv_b h 53) v ∧ v.p = 0 ∧ v.e = 0 ∧ v.f = 0 ∧ v.c = 0 ∧ v.r = zv_i h 41
theorem zf_bi_0 {h' : zx_H} {K A : Int → Int} {p : Int} (a : ∀ j, 0 ≤ j → j < 8 → zv_a h' 61 j = K j) (b : zv_i h' 38 = 0) : zf_bi K A 0 (zf_of h' p) := ⟨fun j j0 j1 => by rw [if_neg (by omega)]; exact a j j0 j1, b, fun j j0 j1 => absurd j1 (by omega)⟩
theorem zf_b0_w {W : List (Nat × Nat)} {h h' : zx_H} {K A : Int → Int} {p : Int} (w : zb_W W h h') (e : (za_in W 44 25 || za_in W 61 0 || za_in W 69 0 || za_in W 44 38 || za_in W 71 0 || za_in W 72 0) = false) (a : zf_b0 K A (zf_of h p)) : zf_b0 K A (zf_of h' p) := by
  simp only [Bool.or_eq_false_iff] at e
  obtain ⟨⟨⟨⟨⟨e1, e2⟩, e3⟩, e4⟩, e5⟩, e6⟩ := e
  obtain ⟨a1, a2, a3, a4⟩ := a
  refine ⟨(zv_wi w e1).trans a1, fun j j0 j1 => (zv_wa w e2 j).trans (a2 j j0 j1), (zv_wi w e4).trans a3, fun j j0 j1 => ?_⟩
  obtain ⟨x1, x2, x3⟩ := a4 j j0 j1
  refine ⟨fun z => (zv_wb w e3 j).trans (x1 z), fun z => (zv_wb w e3 j).trans (x2 z), fun z1 z2 => ?_⟩
  obtain ⟨y1, y2, y3⟩ := x3 z1 z2
  exact ⟨(zv_wb w e3 j).trans y1, (zv_wa w e5 _).trans y2, fun i i0 i1 => (zv_wa w e6 _).trans (y3 i i0 i1)⟩
theorem zf_tn0 {h : zx_H} {p : Int} (z : ¬ (zv_i h 43 = 0 ∧ 0 < zv_i h 25)) : zf_tK (zf_of h p) = -1 ∧ zf_tN (zf_of h p) = 0 := ⟨if_neg z, if_neg z⟩
section ZFT
variable {h : zx_H} {p : Int}
theorem zf_t3 (z : zv_i h 43 = 0 ∧ 0 < zv_i h 25) (y : zv_a h 61 (zv_i h 25 + 7) = 3) : zf_tK (zf_of h p) = 2 ∧ zf_tN (zf_of h p) = zv_b h 69 (zv_i h 25 + 6) :=
  ⟨(if_pos z).trans (if_pos y), (if_pos z).trans ((if_neg (show ¬ zv_a h 61 (zv_i h 25 + 7) = 1 by omega)).trans (if_pos y))⟩
theorem zf_t1 (z : zv_i h 43 = 0 ∧ 0 < zv_i h 25) (y : zv_a h 61 (zv_i h 25 + 7) = 1) : zf_tK (zf_of h p) = 1 ∧ zf_tN (zf_of h p) = zv_b h 69 (zv_i h 25 + 7) :=
  ⟨((if_pos z).trans (if_neg (show ¬ zv_a h 61 (zv_i h 25 + 7) = 3 by omega))).trans y, (if_pos z).trans (if_pos y)⟩
theorem zf_t6 (z : zv_i h 43 = 0 ∧ 0 < zv_i h 25) (y : 6 ≤ zv_a h 61 (zv_i h 25 + 7)) : zf_tK (zf_of h p) = zv_a h 61 (zv_i h 25 + 7) ∧ zf_tN (zf_of h p) = zv_a h 71 (zi32 (zv_b h 69 (zv_i h 25 + 7))) :=
  ⟨(if_pos z).trans (if_neg (show ¬ zv_a h 61 (zv_i h 25 + 7) = 3 by omega)), (if_pos z).trans ((if_neg (show ¬ zv_a h 61 (zv_i h 25 + 7) = 1 by omega)).trans ((if_neg (show ¬ zv_a h 61 (zv_i h 25 + 7) = 3 by omega)).trans (if_pos y)))⟩
theorem zf_tr (z : zv_i h 43 = 0 ∧ 0 < zv_i h 25) (y : zv_a h 61 (zv_i h 25 + 7) < 6) (y1 : ¬ zv_a h 61 (zv_i h 25 + 7) = 1) (y3 : ¬ zv_a h 61 (zv_i h 25 + 7) = 3) : zf_tK (zf_of h p) = zv_a h 61 (zv_i h 25 + 7) ∧ zf_tN (zf_of h p) = 0 :=
  ⟨(if_pos z).trans (if_neg y3), (if_pos z).trans ((if_neg y1).trans ((if_neg y3).trans (if_neg (show ¬ 6 ≤ zv_a h 61 (zv_i h 25 + 7) by omega))))⟩
end ZFT
def zf_tl (r k n p s c w : Int) : Int := if r = 0 then 0 else if w = 0 then k else if w = 1 then n else if w = 2 then p else if w = 3 then s else if w = 4 then c else 0

set_option maxRecDepth 100000 in
set_option maxHeartbeats 8000000 in
theorem zm_fillX_L {h : zx_H} (hI : zb_I zc_H h)   (n : Nat) : (∀ {h2 : zx_H} {k : Int} (hI2 : zb_I zc_H h2) (k1 : 0 ≤ k) (k2 : k ≤ zv_i h 10) (hw : zb_W [(44, 25), (61, 0), (69, 0), (44, 38), (71, 0), (72, 0)] h h2) (s0 : zv_i h2 25 = 0) (bi : zf_bi (zs_row (zr_Pg h)) (zv_b h 53) k (zf_of h2 0)), (14 - k : Int).toNat < n → zx_T zp_P 1 zp_m206 20 [(0, .ref 44), (1, .int (zI (k)))] [] h2 (zr_V [(44, 25), (61, 0), (69, 0), (44, 38), (71, 0), (72, 0)] h (fun h' => zf_b0 (zs_row (zr_Pg h)) (zv_b h 53) (zf_of h' 0)))) := by
  induction n with
  | zero => exact fun _ _ _ _ _ _ hm => absurd hm (Nat.not_lt_zero _)
  | succ n ih =>
    intro h2 k hI2 k1 k2 hw s0 bi hm
    have hP := zv_ri hI (k := 10) rfl
    have hT2 := zv_ri hI2 (k := 38) rfl
    refine zx_T.l (i := .iload_n 1) (k := 1) (v := .int (zI (k))) (pc := 20) rfl rfl rfl ?_
    refine zx_T.l (i := .aload_n 0) (k := 1) (v := .ref 44) (pc := 21) rfl rfl rfl ?_
    refine zr_gi (k := 10) (lo := 0) (hi := 8) (e := zv_i h 10) (pc := 22) rfl rfl rfl hI2 (zv_wi hw rfl) (fun g1a g1b => ?_)
    refine zr_i2 (x := k) (y := zv_i h 10) (t := 138) (pc := 25) rfl rfl (by omega) (by omega) (by omega) (by omega) (fun (c2 : (zv_i h 10) ≤ k) => ?_) (fun (c2 : ¬ ((zv_i h 10) ≤ k)) => ?_)
    · exact zr_vr (pc := 138) rfl rfl ⟨hI2, (hw.wd rfl : zb_W [(44, 25), (61, 0), (69, 0), (44, 38), (71, 0), (72, 0)] h _), rfl, by dsimp only; exact zf_bi_e (by omega) (by omega) (show zv_i h2 25 = 0 by omega) (fun j j0 j1 => if_neg (show ¬ j < zv_i h 10 by omega)) bi⟩
    · have tk9 : zv_i h2 38 ≤ 8 := by have q := bi.2.1; have c := (zf_cm_b (K := zs_row (zr_Pg h)) (A := zv_b h 53) k.toNat).2; have q2 : zv_i h2 38 = _ := q; omega
      refine zx_T.l (i := .aload_n 0) (k := 1) (v := .ref 44) (pc := 28) rfl rfl rfl ?_
      refine zr_gr (k := 12) (b := 53) (pc := 29) rfl rfl rfl hI2 ?_
      refine zx_T.l (i := .iload_n 1) (k := 1) (v := .int (zI (k))) (pc := 32) rfl rfl rfl ?_
      have g3 := zv_rb (h := h2) 53 k
      refine zr_ll (n := 8) (e := zv_b h 53 k) (pc := 33) rfl rfl rfl hI2 (by omega) (by omega) (zv_wb hw rfl k) ?_
      rw [show zv_b h2 53 k = zv_b h 53 k from (zv_wb hw rfl k)] at g3
      refine zx_T.t (i := .lstore_n 2) (k := 1) (ls' := [(2, .long (zL (zv_b h 53 k))), (0, .ref 44), (1, .int (zI (k)))]) (st' := []) (pc := 34) rfl rfl rfl rfl ?_
      refine zx_T.l (i := .aload_n 0) (k := 1) (v := .ref 44) (pc := 35) rfl rfl rfl ?_
      refine zr_gr (k := 36) (b := 69) (pc := 36) rfl rfl rfl hI2 ?_
      refine zx_T.l (i := .iload_n 1) (k := 1) (v := .int (zI (k))) (pc := 39) rfl rfl rfl ?_
      refine zx_T.l (i := .aload_n 0) (k := 1) (v := .ref 44) (pc := 40) rfl rfl rfl ?_
      refine zr_gr (k := 24) (b := 61) (pc := 41) rfl rfl rfl hI2 ?_
      refine zx_T.l (i := .iload_n 1) (k := 1) (v := .int (zI (k))) (pc := 44) rfl rfl rfl ?_
      refine zr_al (n := 14) (lo := 0) (hi := 8) (e := zv_a h2 61 k) (pc := 45) rfl rfl rfl hI2 (by omega) (by omega) rfl (fun g4a g4b => ?_)
      refine zx_T.s (i := .iconst 1) (k := 1) (st' := [.int (zI (1)), .int (zI (zv_a h2 61 k)), .int (zI (k)), .ref 69]) (pc := 46) rfl rfl ?_
      refine zr_i2 (x := zv_a h2 61 k) (y := 1) (t := 56) (pc := 47) rfl rfl (by omega) (by omega) (by omega) (by omega) (fun (c5 : ¬ (zv_a h2 61 k) = 1) => ?_) (fun (c5 : ¬ (¬ (zv_a h2 61 k) = 1)) => ?_)
      · refine zx_T.l (i := .lload_n 2) (k := 1) (v := .long (zL (zv_b h 53 k))) (pc := 56) rfl rfl rfl ?_
        refine zr_ls2 (n := 14) (e := zv_b h 53 k) (pc := 57) rfl rfl rfl hI2 (by omega) (by omega) (by omega) (by omega) (fun h6 ih6 w7 s8 => ?_)
        refine zx_T.l (i := .aload_n 0) (k := 1) (v := .ref 44) (pc := 58) rfl rfl rfl ?_
        refine zr_gr (k := 24) (b := 61) (pc := 59) rfl rfl rfl ih6 ?_
        refine zx_T.l (i := .iload_n 1) (k := 1) (v := .int (zI (k))) (pc := 62) rfl rfl rfl ?_
        refine zr_al (n := 14) (lo := 0) (hi := 8) (e := zv_a h2 61 k) (pc := 63) rfl rfl rfl ih6 (by omega) (by omega) (zv_wa w7 rfl k) (fun g9a g9b => ?_)
        refine zx_T.s (i := .iconst 5) (k := 1) (st' := [.int (zI (5)), .int (zI (zv_a h2 61 k))]) (pc := 64) rfl rfl ?_
        refine zr_i2 (x := zv_a h2 61 k) (y := 5) (t := 132) (pc := 65) rfl rfl (by omega) (by omega) (by omega) (by omega) (fun (c10 : (zv_a h2 61 k) < 5) => ?_) (fun (c10 : ¬ ((zv_a h2 61 k) < 5)) => ?_)
        · refine zr_inc (x := k) (n := 1) (y := k + 1) (ls' := [(1, .int (zI (k + 1))), (2, .long (zL (zv_b h 53 k))), (0, .ref 44)]) (pc := 132) rfl rfl rfl (by omega) rfl ?_
          refine zx_T.j (i := .goto (-115)) (k := 3) (pc' := 20) (st' := []) (pc := 135) rfl rfl rfl rfl rfl ?_
          have y11 : zv_i h6 25 = zv_i h2 25 := (zv_wi w7 rfl)
          have y12 : zv_i h6 38 = zv_i h2 38 := (zv_wi w7 rfl)
          have a61 : ∀ j, 0 ≤ j → zv_a h6 61 j = zv_a h2 61 j := fun j hj => by rw [zv_wa w7 rfl j]
          have a71 : ∀ j, 0 ≤ j → zv_a h6 71 j = zv_a h2 71 j := fun j hj => by rw [zv_wa w7 rfl j]
          have a72 : ∀ j, 0 ≤ j → zv_a h6 72 j = zv_a h2 72 j := fun j hj => by rw [zv_wa w7 rfl j]
          have b69 : ∀ j, 0 ≤ j → zv_b h6 69 j = if j = k then zv_b h 53 k else zv_b h2 69 j := fun j hj => by rw [s8 j hj]
          have ag : zv_b h2 53 k = zv_b h 53 k := zv_wb hw rfl k
          refine zx_T.lk (ls' := [(0, .ref 44), (1, .int (zI (k + 1)))]) rfl ⟨rfl, rfl, trivial⟩ ?_
          exact ih (h2 := h6) (k := k + 1) ih6 (by omega) (by omega) ((hw.wd rfl : zb_W [(44, 25), (61, 0), (69, 0), (44, 38), (71, 0), (72, 0)] h _).tr (w7.wd rfl)) (by omega) (zf_bi_s (by omega) (by omega) bi ⟨(fun z => by have z9 : zv_a h2 61 k = 1 := z; first | (exfalso; omega) | (exact fun j j0 => by show zv_b _ 69 j = _; rw [b69 j j0]; rfl)), (fun z => by have z9 : zv_a h2 61 k = 2 := z; first | (exfalso; omega) | (exact fun j j0 => by show zv_b _ 69 j = _; rw [b69 j j0]; rfl)), (fun z => by have z9 : 5 ≤ zv_a h2 61 k ∧ 0 ≤ zv_b h 53 k := z; exfalso; omega), (fun _ => ⟨(show zv_i h6 38 = zv_i h2 38 by omega), fun j j0 => by show zv_a _ 71 j = _; rw [a71 j j0]; rfl, fun j j0 => by show zv_a _ 72 j = _; rw [a72 j j0]; rfl⟩), (fun j j0 jn => by show zv_b _ 69 j = _; rw [b69 j j0]; (repeat rw [if_neg jn]); rfl), (fun j j0 => by show zv_a _ 61 j = if j = k then zf_n0 (zv_a h2 61) (zv_b h 53) k else zv_a h2 61 j; rw [a61 j j0]; unfold zf_n0; exact if y : j = k then (by rw [if_pos y]; first | (exfalso; omega) | (rw [if_pos y, if_pos (by omega)]; done) | (rw [if_pos y, if_neg (by omega)]; done) | (rw [if_neg (by omega), y]) | (rw [if_pos (by omega), y]; omega)) else (by rw [if_neg y]; first | done | rw [if_neg y]))⟩) (by omega)
        · refine zx_T.l (i := .aload_n 0) (k := 1) (v := .ref 44) (pc := 68) rfl rfl rfl ?_
          refine zr_gr (k := 24) (b := 61) (pc := 69) rfl rfl rfl ih6 ?_
          refine zx_T.l (i := .iload_n 1) (k := 1) (v := .int (zI (k))) (pc := 72) rfl rfl rfl ?_
          refine zr_al (n := 14) (lo := 0) (hi := 8) (e := zv_a h2 61 k) (pc := 73) rfl rfl rfl ih6 (by omega) (by omega) (zv_wa w7 rfl k) (fun g17a g17b => ?_)
          refine zx_T.t (i := .istore 4) (k := 2) (ls' := [(4, .int (zI (zv_a h2 61 k))), (2, .long (zL (zv_b h 53 k))), (0, .ref 44), (1, .int (zI (k)))]) (st' := []) (pc := 74) rfl rfl rfl rfl ?_
          refine zx_T.l (i := .aload_n 0) (k := 1) (v := .ref 44) (pc := 76) rfl rfl rfl ?_
          refine zr_gr (k := 24) (b := 61) (pc := 77) rfl rfl rfl ih6 ?_
          refine zx_T.l (i := .iload_n 1) (k := 1) (v := .int (zI (k))) (pc := 80) rfl rfl rfl ?_
          refine zx_T.l (i := .lload_n 2) (k := 1) (v := .long (zL (zv_b h 53 k))) (pc := 81) rfl rfl rfl ?_
          refine zx_T.s (i := .lconst 0) (k := 1) (st' := [.long (zL (0)), .long (zL (zv_b h 53 k)), .int (zI (k)), .ref 61]) (pc := 82) rfl rfl ?_
          refine zr_lcmp (pc := 83) rfl (by omega) (by omega) (by omega) (by omega) (fun z18 z18a => ?_)
          refine zr_i1 (x := z18) (t := 91) (pc := 84) rfl rfl (by omega) (by omega) (fun (c19 : 0 ≤ z18) => ?_) (fun (c19 : ¬ (0 ≤ z18)) => ?_)
          · refine zx_T.l (i := .iload 4) (k := 2) (v := .int (zI (zv_a h2 61 k))) (pc := 91) rfl rfl rfl ?_
            refine zr_as (n := 14) (lo := 0) (hi := 8) (e := zv_a h2 61 k) (pc := 93) rfl rfl rfl rfl ih6 (by omega) (by omega) (by omega) (by omega) (fun h20 ih20 w21 s22 => ?_)
            refine zx_T.l (i := .aload_n 0) (k := 1) (v := .ref 44) (pc := 94) rfl rfl rfl ?_
            refine zr_gr (k := 36) (b := 69) (pc := 95) rfl rfl rfl ih20 ?_
            refine zx_T.l (i := .iload_n 1) (k := 1) (v := .int (zI (k))) (pc := 98) rfl rfl rfl ?_
            refine zx_T.l (i := .lload_n 2) (k := 1) (v := .long (zL (zv_b h 53 k))) (pc := 99) rfl rfl rfl ?_
            refine zx_T.s (i := .lconst 0) (k := 1) (st' := [.long (zL (0)), .long (zL (zv_b h 53 k)), .int (zI (k)), .ref 69]) (pc := 100) rfl rfl ?_
            refine zr_lcmp (pc := 101) rfl (by omega) (by omega) (by omega) (by omega) (fun z23 z23a => ?_)
            refine zr_i1 (x := z23) (t := 109) (pc := 102) rfl rfl (by omega) (by omega) (fun (c24 : 0 ≤ z23) => ?_) (fun (c24 : ¬ (0 ≤ z23)) => ?_)
            · refine zx_T.l (i := .aload_n 0) (k := 1) (v := .ref 44) (pc := 109) rfl rfl rfl ?_
              refine zx_T.l (i := .iload 4) (k := 2) (v := .int (zI (zv_a h2 61 k))) (pc := 110) rfl rfl rfl ?_
              refine zx_T.s (i := .bipush 6) (k := 2) (st' := [.int (zI (6)), .int (zI (zv_a h2 61 k)), .ref 44, .int (zI (k)), .ref 69]) (pc := 112) rfl rfl ?_
              refine zr_i2 (x := zv_a h2 61 k) (y := 6) (t := 126) (pc := 114) rfl rfl (by omega) (by omega) (by omega) (by omega) (fun (c25 : ¬ (zv_a h2 61 k) = 6) => ?_) (fun (c25 : ¬ (¬ (zv_a h2 61 k) = 6)) => ?_)
              · refine zx_T.s (i := .iconst 0) (k := 1) (st' := [.int (zI (0)), .ref 44, .int (zI (k)), .ref 69]) (pc := 126) rfl rfl ?_
                have y26 : zv_i h20 38 = zv_i h2 38 := ((zv_wi w21 rfl).trans (zv_wi w7 rfl))
                refine zr_iv (cj := 205) (q' := zp_m205) (As := [.int (zI (0))]) (rest := [.int (zI (k)), .ref 69]) (pc := 127) rfl rfl rfl rfl rfl rfl (Nat.le_of_ble_eq_true rfl) rfl (Nat.le_of_ble_eq_true rfl) ih20 ((zm_thingX (h := h20) ih20 (m := 0) (by omega) (by omega) (by omega)).up (Nat.le_of_ble_eq_true rfl)) ?_
                rintro r27 h30 ⟨ih30, w31, v28, r27q, x29⟩
                subst r27q
                try dsimp only at x29
                have tX := x29
                show zx_T zp_P 1 zp_m206 130 [(4, .int (zI (zv_a h2 61 k))), (2, .long (zL (zv_b h 53 k))), (0, .ref 44), (1, .int (zI (k)))] [.int (zI (v28)), .int (zI (k)), .ref 69] h30 _
                refine zr_i2l (pc := 130) rfl (by omega) (by omega) ?_
                refine zr_ls2 (n := 14) (e := v28) (pc := 131) rfl rfl rfl ih30 (by omega) (by omega) (by omega) (by omega) (fun h32 ih32 w33 s34 => ?_)
                refine zr_inc (x := k) (n := 1) (y := k + 1) (ls' := [(1, .int (zI (k + 1))), (4, .int (zI (zv_a h2 61 k))), (2, .long (zL (zv_b h 53 k))), (0, .ref 44)]) (pc := 132) rfl rfl rfl (by omega) rfl ?_
                refine zx_T.j (i := .goto (-115)) (k := 3) (pc' := 20) (st' := []) (pc := 135) rfl rfl rfl rfl rfl ?_
                have y35 : zv_i h32 25 = zv_i h2 25 := ((zv_wi w33 rfl).trans ((zv_wi w31 rfl).trans ((zv_wi w21 rfl).trans (zv_wi w7 rfl))))
                have y36 : zv_i h32 38 = zv_i h30 38 := (zv_wi w33 rfl)
                have a61 : ∀ j, 0 ≤ j → zv_a h32 61 j = if j = k then zv_a h2 61 k else zv_a h2 61 j := fun j hj => by rw [zv_wa w33 rfl j, zv_wa w31 rfl j, s22 j hj, zv_wa w7 rfl j]
                have a71 : ∀ j, 0 ≤ j → zv_a h32 71 j = zv_a h30 71 j := fun j hj => by rw [zv_wa w33 rfl j]
                have a72 : ∀ j, 0 ≤ j → zv_a h32 72 j = zv_a h30 72 j := fun j hj => by rw [zv_wa w33 rfl j]
                have b69 : ∀ j, 0 ≤ j → zv_b h32 69 j = if j = k then v28 else if j = k then zv_b h 53 k else zv_b h2 69 j := fun j hj => by rw [s34 j hj, zv_wb w31 rfl j, zv_wb w21 rfl j, s8 j hj]
                have ag : zv_b h2 53 k = zv_b h 53 k := zv_wb hw rfl k
                have thq : zf_th (zv_i h2 38) (zv_a h2 71) (zv_a h2 72) (if zv_a h2 61 k = 6 then zi7 (zv_b h 53 k) else 0) (zv_i h32 38) (zv_a h32 71) (zv_a h32 72) := by have q := tX.2; rw [show zv_i h20 38 = zv_i h2 38 from ((zv_wi w21 rfl).trans (zv_wi w7 rfl)), show zv_a h20 71 = zv_a h2 71 from funext (fun q => zv_wa ((w7.wd rfl : zb_W [(61, 0), (69, 0)] h2 _).tr (w21.wd rfl)) rfl q), show zv_a h20 72 = zv_a h2 72 from funext (fun q => zv_wa ((w7.wd rfl : zb_W [(61, 0), (69, 0)] h2 _).tr (w21.wd rfl)) rfl q)] at q; rw [zv_wi w33 (k := 38) rfl, show zv_a h32 71 = zv_a h30 71 from funext (fun q => zv_wa w33 rfl q), show zv_a h32 72 = zv_a h30 72 from funext (fun q => zv_wa w33 rfl q)]; first | (rw [if_pos (show zv_a h2 61 k = 6 by omega)]; exact q) | (rw [if_neg (show ¬ zv_a h2 61 k = 6 by omega)]; exact q)
                refine zx_T.lk (ls' := [(0, .ref 44), (1, .int (zI (k + 1)))]) rfl ⟨rfl, rfl, trivial⟩ ?_
                exact ih (h2 := h32) (k := k + 1) ih32 (by omega) (by omega) (((((hw.wd rfl : zb_W [(44, 25), (61, 0), (69, 0), (44, 38), (71, 0), (72, 0)] h _).tr (w7.wd rfl)).tr (w21.wd rfl)).tr (w31.wd rfl)).tr (w33.wd rfl)) (by omega) (zf_bi_s (by omega) (by omega) bi ⟨(fun z => by have z9 : zv_a h2 61 k = 1 := z; first | (exfalso; omega) | (exact fun j j0 => by show zv_b _ 69 j = _; rw [b69 j j0]; rfl)), (fun z => by have z9 : zv_a h2 61 k = 2 := z; first | (exfalso; omega) | (exact fun j j0 => by show zv_b _ 69 j = _; rw [b69 j j0]; rfl)), (fun z => ⟨fun j j0 => by show zv_b _ 69 j = _; rw [b69 j j0]; by_cases y : j = k; (rw [if_pos y, if_pos y]; exact tX.1.trans (((zv_wi w21 rfl).trans (zv_wi w7 rfl)))); (rw [if_neg y, if_neg y, if_neg y]; rfl), thq⟩), (fun z => absurd (show 5 ≤ zv_a h2 61 k ∧ 0 ≤ zv_b h 53 k by omega) z), (fun j j0 jn => by show zv_b _ 69 j = _; rw [b69 j j0]; (repeat rw [if_neg jn]); rfl), (fun j j0 => by show zv_a _ 61 j = if j = k then zf_n0 (zv_a h2 61) (zv_b h 53) k else zv_a h2 61 j; rw [a61 j j0]; unfold zf_n0; exact if y : j = k then (by rw [if_pos y]; first | (exfalso; omega) | (rw [if_pos y, if_pos (by omega)]; done) | (rw [if_pos y, if_neg (by omega)]; done) | (rw [if_neg (by omega), y]) | (rw [if_pos (by omega), y]; omega)) else (by rw [if_neg y]; first | done | rw [if_neg y]))⟩) (by omega)
              · refine zx_T.l (i := .lload_n 2) (k := 1) (v := .long (zL (zv_b h 53 k))) (pc := 117) rfl rfl rfl ?_
                refine zx_T.g (i := .ldc2_w 267) (k := 3) (st' := [.long 7, .long (zL (zv_b h 53 k)), .ref 44, .int (zI (k)), .ref 69]) (h' := h20) (pc := 118) rfl rfl rfl rfl rfl rfl ?_
                refine zr_and7x (x := zv_b h 53 k) (pc := 121) rfl (fun z41a z41b => ?_)
                refine zr_l2i (pc := 122) rfl ?_
                refine zx_T.j (i := .goto 4) (k := 3) (pc' := 127) (st' := [.int (zI (zi7 (zv_b h 53 k))), .ref 44, .int (zI (k)), .ref 69]) (pc := 123) rfl rfl rfl rfl rfl ?_
                have y42 : zv_i h20 38 = zv_i h2 38 := ((zv_wi w21 rfl).trans (zv_wi w7 rfl))
                refine zr_iv (cj := 205) (q' := zp_m205) (As := [.int (zI (zi7 (zv_b h 53 k)))]) (rest := [.int (zI (k)), .ref 69]) (pc := 127) rfl rfl rfl rfl rfl rfl (Nat.le_of_ble_eq_true rfl) rfl (Nat.le_of_ble_eq_true rfl) ih20 ((zm_thingX (h := h20) ih20 (m := zi7 (zv_b h 53 k)) (by omega) (by omega) (by omega)).up (Nat.le_of_ble_eq_true rfl)) ?_
                rintro r43 h46 ⟨ih46, w47, v44, r43q, x45⟩
                subst r43q
                try dsimp only at x45
                have tX := x45
                show zx_T zp_P 1 zp_m206 130 [(4, .int (zI (zv_a h2 61 k))), (2, .long (zL (zv_b h 53 k))), (0, .ref 44), (1, .int (zI (k)))] [.int (zI (v44)), .int (zI (k)), .ref 69] h46 _
                refine zr_i2l (pc := 130) rfl (by omega) (by omega) ?_
                refine zr_ls2 (n := 14) (e := v44) (pc := 131) rfl rfl rfl ih46 (by omega) (by omega) (by omega) (by omega) (fun h48 ih48 w49 s50 => ?_)
                refine zr_inc (x := k) (n := 1) (y := k + 1) (ls' := [(1, .int (zI (k + 1))), (4, .int (zI (zv_a h2 61 k))), (2, .long (zL (zv_b h 53 k))), (0, .ref 44)]) (pc := 132) rfl rfl rfl (by omega) rfl ?_
                refine zx_T.j (i := .goto (-115)) (k := 3) (pc' := 20) (st' := []) (pc := 135) rfl rfl rfl rfl rfl ?_
                have y51 : zv_i h48 25 = zv_i h2 25 := ((zv_wi w49 rfl).trans ((zv_wi w47 rfl).trans ((zv_wi w21 rfl).trans (zv_wi w7 rfl))))
                have y52 : zv_i h48 38 = zv_i h46 38 := (zv_wi w49 rfl)
                have a61 : ∀ j, 0 ≤ j → zv_a h48 61 j = if j = k then zv_a h2 61 k else zv_a h2 61 j := fun j hj => by rw [zv_wa w49 rfl j, zv_wa w47 rfl j, s22 j hj, zv_wa w7 rfl j]
                have a71 : ∀ j, 0 ≤ j → zv_a h48 71 j = zv_a h46 71 j := fun j hj => by rw [zv_wa w49 rfl j]
                have a72 : ∀ j, 0 ≤ j → zv_a h48 72 j = zv_a h46 72 j := fun j hj => by rw [zv_wa w49 rfl j]
                have b69 : ∀ j, 0 ≤ j → zv_b h48 69 j = if j = k then v44 else if j = k then zv_b h 53 k else zv_b h2 69 j := fun j hj => by rw [s50 j hj, zv_wb w47 rfl j, zv_wb w21 rfl j, s8 j hj]
                have ag : zv_b h2 53 k = zv_b h 53 k := zv_wb hw rfl k
                have thq : zf_th (zv_i h2 38) (zv_a h2 71) (zv_a h2 72) (if zv_a h2 61 k = 6 then zi7 (zv_b h 53 k) else 0) (zv_i h48 38) (zv_a h48 71) (zv_a h48 72) := by have q := tX.2; rw [show zv_i h20 38 = zv_i h2 38 from ((zv_wi w21 rfl).trans (zv_wi w7 rfl)), show zv_a h20 71 = zv_a h2 71 from funext (fun q => zv_wa ((w7.wd rfl : zb_W [(61, 0), (69, 0)] h2 _).tr (w21.wd rfl)) rfl q), show zv_a h20 72 = zv_a h2 72 from funext (fun q => zv_wa ((w7.wd rfl : zb_W [(61, 0), (69, 0)] h2 _).tr (w21.wd rfl)) rfl q)] at q; rw [zv_wi w49 (k := 38) rfl, show zv_a h48 71 = zv_a h46 71 from funext (fun q => zv_wa w49 rfl q), show zv_a h48 72 = zv_a h46 72 from funext (fun q => zv_wa w49 rfl q)]; first | (rw [if_pos (show zv_a h2 61 k = 6 by omega)]; exact q) | (rw [if_neg (show ¬ zv_a h2 61 k = 6 by omega)]; exact q)
                refine zx_T.lk (ls' := [(0, .ref 44), (1, .int (zI (k + 1)))]) rfl ⟨rfl, rfl, trivial⟩ ?_
                exact ih (h2 := h48) (k := k + 1) ih48 (by omega) (by omega) (((((hw.wd rfl : zb_W [(44, 25), (61, 0), (69, 0), (44, 38), (71, 0), (72, 0)] h _).tr (w7.wd rfl)).tr (w21.wd rfl)).tr (w47.wd rfl)).tr (w49.wd rfl)) (by omega) (zf_bi_s (by omega) (by omega) bi ⟨(fun z => by have z9 : zv_a h2 61 k = 1 := z; first | (exfalso; omega) | (exact fun j j0 => by show zv_b _ 69 j = _; rw [b69 j j0]; rfl)), (fun z => by have z9 : zv_a h2 61 k = 2 := z; first | (exfalso; omega) | (exact fun j j0 => by show zv_b _ 69 j = _; rw [b69 j j0]; rfl)), (fun z => ⟨fun j j0 => by show zv_b _ 69 j = _; rw [b69 j j0]; by_cases y : j = k; (rw [if_pos y, if_pos y]; exact tX.1.trans (((zv_wi w21 rfl).trans (zv_wi w7 rfl)))); (rw [if_neg y, if_neg y, if_neg y]; rfl), thq⟩), (fun z => absurd (show 5 ≤ zv_a h2 61 k ∧ 0 ≤ zv_b h 53 k by omega) z), (fun j j0 jn => by show zv_b _ 69 j = _; rw [b69 j j0]; (repeat rw [if_neg jn]); rfl), (fun j j0 => by show zv_a _ 61 j = if j = k then zf_n0 (zv_a h2 61) (zv_b h 53) k else zv_a h2 61 j; rw [a61 j j0]; unfold zf_n0; exact if y : j = k then (by rw [if_pos y]; first | (exfalso; omega) | (rw [if_pos y, if_pos (by omega)]; done) | (rw [if_pos y, if_neg (by omega)]; done) | (rw [if_neg (by omega), y]) | (rw [if_pos (by omega), y]; omega)) else (by rw [if_neg y]; first | done | rw [if_neg y]))⟩) (by omega)
            · refine zx_T.s (i := .lconst 0) (k := 1) (st' := [.long (zL (0)), .int (zI (k)), .ref 69]) (pc := 105) rfl rfl ?_
              refine zx_T.j (i := .goto 25) (k := 3) (pc' := 131) (st' := [.long (zL (0)), .int (zI (k)), .ref 69]) (pc := 106) rfl rfl rfl rfl rfl ?_
              refine zr_ls2 (n := 14) (e := 0) (pc := 131) rfl rfl rfl ih20 (by omega) (by omega) (by omega) (by omega) (fun h57 ih57 w58 s59 => ?_)
              refine zr_inc (x := k) (n := 1) (y := k + 1) (ls' := [(1, .int (zI (k + 1))), (4, .int (zI (zv_a h2 61 k))), (2, .long (zL (zv_b h 53 k))), (0, .ref 44)]) (pc := 132) rfl rfl rfl (by omega) rfl ?_
              refine zx_T.j (i := .goto (-115)) (k := 3) (pc' := 20) (st' := []) (pc := 135) rfl rfl rfl rfl rfl ?_
              have y60 : zv_i h57 25 = zv_i h2 25 := ((zv_wi w58 rfl).trans ((zv_wi w21 rfl).trans (zv_wi w7 rfl)))
              have y61 : zv_i h57 38 = zv_i h2 38 := ((zv_wi w58 rfl).trans ((zv_wi w21 rfl).trans (zv_wi w7 rfl)))
              have a61 : ∀ j, 0 ≤ j → zv_a h57 61 j = if j = k then zv_a h2 61 k else zv_a h2 61 j := fun j hj => by rw [zv_wa w58 rfl j, s22 j hj, zv_wa w7 rfl j]
              have a71 : ∀ j, 0 ≤ j → zv_a h57 71 j = zv_a h2 71 j := fun j hj => by rw [zv_wa w58 rfl j, zv_wa w21 rfl j, zv_wa w7 rfl j]
              have a72 : ∀ j, 0 ≤ j → zv_a h57 72 j = zv_a h2 72 j := fun j hj => by rw [zv_wa w58 rfl j, zv_wa w21 rfl j, zv_wa w7 rfl j]
              have b69 : ∀ j, 0 ≤ j → zv_b h57 69 j = if j = k then 0 else if j = k then zv_b h 53 k else zv_b h2 69 j := fun j hj => by rw [s59 j hj, zv_wb w21 rfl j, s8 j hj]
              have ag : zv_b h2 53 k = zv_b h 53 k := zv_wb hw rfl k
              refine zx_T.lk (ls' := [(0, .ref 44), (1, .int (zI (k + 1)))]) rfl ⟨rfl, rfl, trivial⟩ ?_
              exact ih (h2 := h57) (k := k + 1) ih57 (by omega) (by omega) ((((hw.wd rfl : zb_W [(44, 25), (61, 0), (69, 0), (44, 38), (71, 0), (72, 0)] h _).tr (w7.wd rfl)).tr (w21.wd rfl)).tr (w58.wd rfl)) (by omega) (zf_bi_s (by omega) (by omega) bi ⟨(fun z => by have z9 : zv_a h2 61 k = 1 := z; first | (exfalso; omega) | (exact fun j j0 => by show zv_b _ 69 j = _; rw [b69 j j0]; rfl)), (fun z => by have z9 : zv_a h2 61 k = 2 := z; first | (exfalso; omega) | (exact fun j j0 => by show zv_b _ 69 j = _; rw [b69 j j0]; rfl)), (fun z => by have z9 : 5 ≤ zv_a h2 61 k ∧ 0 ≤ zv_b h 53 k := z; exfalso; omega), (fun _ => ⟨(show zv_i h57 38 = zv_i h2 38 by omega), fun j j0 => by show zv_a _ 71 j = _; rw [a71 j j0]; rfl, fun j j0 => by show zv_a _ 72 j = _; rw [a72 j j0]; rfl⟩), (fun j j0 jn => by show zv_b _ 69 j = _; rw [b69 j j0]; (repeat rw [if_neg jn]); rfl), (fun j j0 => by show zv_a _ 61 j = if j = k then zf_n0 (zv_a h2 61) (zv_b h 53) k else zv_a h2 61 j; rw [a61 j j0]; unfold zf_n0; exact if y : j = k then (by rw [if_pos y]; first | (exfalso; omega) | (rw [if_pos y, if_pos (by omega)]; done) | (rw [if_pos y, if_neg (by omega)]; done) | (rw [if_neg (by omega), y]) | (rw [if_pos (by omega), y]; omega)) else (by rw [if_neg y]; first | done | rw [if_neg y]))⟩) (by omega)
          · refine zx_T.s (i := .iconst 4) (k := 1) (st' := [.int (zI (4)), .int (zI (k)), .ref 61]) (pc := 87) rfl rfl ?_
            refine zx_T.j (i := .goto 5) (k := 3) (pc' := 93) (st' := [.int (zI (4)), .int (zI (k)), .ref 61]) (pc := 88) rfl rfl rfl rfl rfl ?_
            refine zr_as (n := 14) (lo := 0) (hi := 8) (e := 4) (pc := 93) rfl rfl rfl rfl ih6 (by omega) (by omega) (by omega) (by omega) (fun h66 ih66 w67 s68 => ?_)
            refine zx_T.l (i := .aload_n 0) (k := 1) (v := .ref 44) (pc := 94) rfl rfl rfl ?_
            refine zr_gr (k := 36) (b := 69) (pc := 95) rfl rfl rfl ih66 ?_
            refine zx_T.l (i := .iload_n 1) (k := 1) (v := .int (zI (k))) (pc := 98) rfl rfl rfl ?_
            refine zx_T.l (i := .lload_n 2) (k := 1) (v := .long (zL (zv_b h 53 k))) (pc := 99) rfl rfl rfl ?_
            refine zx_T.s (i := .lconst 0) (k := 1) (st' := [.long (zL (0)), .long (zL (zv_b h 53 k)), .int (zI (k)), .ref 69]) (pc := 100) rfl rfl ?_
            refine zr_lcmp (pc := 101) rfl (by omega) (by omega) (by omega) (by omega) (fun z69 z69a => ?_)
            refine zr_i1 (x := z69) (t := 109) (pc := 102) rfl rfl (by omega) (by omega) (fun (c70 : 0 ≤ z69) => ?_) (fun (c70 : ¬ (0 ≤ z69)) => ?_)
            · refine zx_T.l (i := .aload_n 0) (k := 1) (v := .ref 44) (pc := 109) rfl rfl rfl ?_
              refine zx_T.l (i := .iload 4) (k := 2) (v := .int (zI (zv_a h2 61 k))) (pc := 110) rfl rfl rfl ?_
              refine zx_T.s (i := .bipush 6) (k := 2) (st' := [.int (zI (6)), .int (zI (zv_a h2 61 k)), .ref 44, .int (zI (k)), .ref 69]) (pc := 112) rfl rfl ?_
              refine zr_i2 (x := zv_a h2 61 k) (y := 6) (t := 126) (pc := 114) rfl rfl (by omega) (by omega) (by omega) (by omega) (fun (c71 : ¬ (zv_a h2 61 k) = 6) => ?_) (fun (c71 : ¬ (¬ (zv_a h2 61 k) = 6)) => ?_)
              · refine zx_T.s (i := .iconst 0) (k := 1) (st' := [.int (zI (0)), .ref 44, .int (zI (k)), .ref 69]) (pc := 126) rfl rfl ?_
                have y72 : zv_i h66 38 = zv_i h2 38 := ((zv_wi w67 rfl).trans (zv_wi w7 rfl))
                refine zr_iv (cj := 205) (q' := zp_m205) (As := [.int (zI (0))]) (rest := [.int (zI (k)), .ref 69]) (pc := 127) rfl rfl rfl rfl rfl rfl (Nat.le_of_ble_eq_true rfl) rfl (Nat.le_of_ble_eq_true rfl) ih66 ((zm_thingX (h := h66) ih66 (m := 0) (by omega) (by omega) (by omega)).up (Nat.le_of_ble_eq_true rfl)) ?_
                rintro r73 h76 ⟨ih76, w77, v74, r73q, x75⟩
                subst r73q
                try dsimp only at x75
                have tX := x75
                show zx_T zp_P 1 zp_m206 130 [(4, .int (zI (zv_a h2 61 k))), (2, .long (zL (zv_b h 53 k))), (0, .ref 44), (1, .int (zI (k)))] [.int (zI (v74)), .int (zI (k)), .ref 69] h76 _
                refine zr_i2l (pc := 130) rfl (by omega) (by omega) ?_
                refine zr_ls2 (n := 14) (e := v74) (pc := 131) rfl rfl rfl ih76 (by omega) (by omega) (by omega) (by omega) (fun h78 ih78 w79 s80 => ?_)
                refine zr_inc (x := k) (n := 1) (y := k + 1) (ls' := [(1, .int (zI (k + 1))), (4, .int (zI (zv_a h2 61 k))), (2, .long (zL (zv_b h 53 k))), (0, .ref 44)]) (pc := 132) rfl rfl rfl (by omega) rfl ?_
                refine zx_T.j (i := .goto (-115)) (k := 3) (pc' := 20) (st' := []) (pc := 135) rfl rfl rfl rfl rfl ?_
                have y81 : zv_i h78 25 = zv_i h2 25 := ((zv_wi w79 rfl).trans ((zv_wi w77 rfl).trans ((zv_wi w67 rfl).trans (zv_wi w7 rfl))))
                have y82 : zv_i h78 38 = zv_i h76 38 := (zv_wi w79 rfl)
                have a61 : ∀ j, 0 ≤ j → zv_a h78 61 j = if j = k then 4 else zv_a h2 61 j := fun j hj => by rw [zv_wa w79 rfl j, zv_wa w77 rfl j, s68 j hj, zv_wa w7 rfl j]
                have a71 : ∀ j, 0 ≤ j → zv_a h78 71 j = zv_a h76 71 j := fun j hj => by rw [zv_wa w79 rfl j]
                have a72 : ∀ j, 0 ≤ j → zv_a h78 72 j = zv_a h76 72 j := fun j hj => by rw [zv_wa w79 rfl j]
                have b69 : ∀ j, 0 ≤ j → zv_b h78 69 j = if j = k then v74 else if j = k then zv_b h 53 k else zv_b h2 69 j := fun j hj => by rw [s80 j hj, zv_wb w77 rfl j, zv_wb w67 rfl j, s8 j hj]
                have ag : zv_b h2 53 k = zv_b h 53 k := zv_wb hw rfl k
                have thq : zf_th (zv_i h2 38) (zv_a h2 71) (zv_a h2 72) (if zv_a h2 61 k = 6 then zi7 (zv_b h 53 k) else 0) (zv_i h78 38) (zv_a h78 71) (zv_a h78 72) := by have q := tX.2; rw [show zv_i h66 38 = zv_i h2 38 from ((zv_wi w67 rfl).trans (zv_wi w7 rfl)), show zv_a h66 71 = zv_a h2 71 from funext (fun q => zv_wa ((w7.wd rfl : zb_W [(61, 0), (69, 0)] h2 _).tr (w67.wd rfl)) rfl q), show zv_a h66 72 = zv_a h2 72 from funext (fun q => zv_wa ((w7.wd rfl : zb_W [(61, 0), (69, 0)] h2 _).tr (w67.wd rfl)) rfl q)] at q; rw [zv_wi w79 (k := 38) rfl, show zv_a h78 71 = zv_a h76 71 from funext (fun q => zv_wa w79 rfl q), show zv_a h78 72 = zv_a h76 72 from funext (fun q => zv_wa w79 rfl q)]; first | (rw [if_pos (show zv_a h2 61 k = 6 by omega)]; exact q) | (rw [if_neg (show ¬ zv_a h2 61 k = 6 by omega)]; exact q)
                refine zx_T.lk (ls' := [(0, .ref 44), (1, .int (zI (k + 1)))]) rfl ⟨rfl, rfl, trivial⟩ ?_
                exact ih (h2 := h78) (k := k + 1) ih78 (by omega) (by omega) (((((hw.wd rfl : zb_W [(44, 25), (61, 0), (69, 0), (44, 38), (71, 0), (72, 0)] h _).tr (w7.wd rfl)).tr (w67.wd rfl)).tr (w77.wd rfl)).tr (w79.wd rfl)) (by omega) (zf_bi_s (by omega) (by omega) bi ⟨(fun z => by have z9 : zv_a h2 61 k = 1 := z; first | (exfalso; omega) | (exact fun j j0 => by show zv_b _ 69 j = _; rw [b69 j j0]; rfl)), (fun z => by have z9 : zv_a h2 61 k = 2 := z; first | (exfalso; omega) | (exact fun j j0 => by show zv_b _ 69 j = _; rw [b69 j j0]; rfl)), (fun z => ⟨fun j j0 => by show zv_b _ 69 j = _; rw [b69 j j0]; by_cases y : j = k; (rw [if_pos y, if_pos y]; exact tX.1.trans (((zv_wi w67 rfl).trans (zv_wi w7 rfl)))); (rw [if_neg y, if_neg y, if_neg y]; rfl), thq⟩), (fun z => absurd (show 5 ≤ zv_a h2 61 k ∧ 0 ≤ zv_b h 53 k by omega) z), (fun j j0 jn => by show zv_b _ 69 j = _; rw [b69 j j0]; (repeat rw [if_neg jn]); rfl), (fun j j0 => by show zv_a _ 61 j = if j = k then zf_n0 (zv_a h2 61) (zv_b h 53) k else zv_a h2 61 j; rw [a61 j j0]; unfold zf_n0; exact if y : j = k then (by rw [if_pos y]; first | (exfalso; omega) | (rw [if_pos y, if_pos (by omega)]; done) | (rw [if_pos y, if_neg (by omega)]; done) | (rw [if_neg (by omega), y]) | (rw [if_pos (by omega), y]; omega)) else (by rw [if_neg y]; first | done | rw [if_neg y]))⟩) (by omega)
              · refine zx_T.l (i := .lload_n 2) (k := 1) (v := .long (zL (zv_b h 53 k))) (pc := 117) rfl rfl rfl ?_
                refine zx_T.g (i := .ldc2_w 267) (k := 3) (st' := [.long 7, .long (zL (zv_b h 53 k)), .ref 44, .int (zI (k)), .ref 69]) (h' := h66) (pc := 118) rfl rfl rfl rfl rfl rfl ?_
                refine zr_and7x (x := zv_b h 53 k) (pc := 121) rfl (fun z87a z87b => ?_)
                refine zr_l2i (pc := 122) rfl ?_
                refine zx_T.j (i := .goto 4) (k := 3) (pc' := 127) (st' := [.int (zI (zi7 (zv_b h 53 k))), .ref 44, .int (zI (k)), .ref 69]) (pc := 123) rfl rfl rfl rfl rfl ?_
                have y88 : zv_i h66 38 = zv_i h2 38 := ((zv_wi w67 rfl).trans (zv_wi w7 rfl))
                refine zr_iv (cj := 205) (q' := zp_m205) (As := [.int (zI (zi7 (zv_b h 53 k)))]) (rest := [.int (zI (k)), .ref 69]) (pc := 127) rfl rfl rfl rfl rfl rfl (Nat.le_of_ble_eq_true rfl) rfl (Nat.le_of_ble_eq_true rfl) ih66 ((zm_thingX (h := h66) ih66 (m := zi7 (zv_b h 53 k)) (by omega) (by omega) (by omega)).up (Nat.le_of_ble_eq_true rfl)) ?_
                rintro r89 h92 ⟨ih92, w93, v90, r89q, x91⟩
                subst r89q
                try dsimp only at x91
                have tX := x91
                show zx_T zp_P 1 zp_m206 130 [(4, .int (zI (zv_a h2 61 k))), (2, .long (zL (zv_b h 53 k))), (0, .ref 44), (1, .int (zI (k)))] [.int (zI (v90)), .int (zI (k)), .ref 69] h92 _
                refine zr_i2l (pc := 130) rfl (by omega) (by omega) ?_
                refine zr_ls2 (n := 14) (e := v90) (pc := 131) rfl rfl rfl ih92 (by omega) (by omega) (by omega) (by omega) (fun h94 ih94 w95 s96 => ?_)
                refine zr_inc (x := k) (n := 1) (y := k + 1) (ls' := [(1, .int (zI (k + 1))), (4, .int (zI (zv_a h2 61 k))), (2, .long (zL (zv_b h 53 k))), (0, .ref 44)]) (pc := 132) rfl rfl rfl (by omega) rfl ?_
                refine zx_T.j (i := .goto (-115)) (k := 3) (pc' := 20) (st' := []) (pc := 135) rfl rfl rfl rfl rfl ?_
                have y97 : zv_i h94 25 = zv_i h2 25 := ((zv_wi w95 rfl).trans ((zv_wi w93 rfl).trans ((zv_wi w67 rfl).trans (zv_wi w7 rfl))))
                have y98 : zv_i h94 38 = zv_i h92 38 := (zv_wi w95 rfl)
                have a61 : ∀ j, 0 ≤ j → zv_a h94 61 j = if j = k then 4 else zv_a h2 61 j := fun j hj => by rw [zv_wa w95 rfl j, zv_wa w93 rfl j, s68 j hj, zv_wa w7 rfl j]
                have a71 : ∀ j, 0 ≤ j → zv_a h94 71 j = zv_a h92 71 j := fun j hj => by rw [zv_wa w95 rfl j]
                have a72 : ∀ j, 0 ≤ j → zv_a h94 72 j = zv_a h92 72 j := fun j hj => by rw [zv_wa w95 rfl j]
                have b69 : ∀ j, 0 ≤ j → zv_b h94 69 j = if j = k then v90 else if j = k then zv_b h 53 k else zv_b h2 69 j := fun j hj => by rw [s96 j hj, zv_wb w93 rfl j, zv_wb w67 rfl j, s8 j hj]
                have ag : zv_b h2 53 k = zv_b h 53 k := zv_wb hw rfl k
                have thq : zf_th (zv_i h2 38) (zv_a h2 71) (zv_a h2 72) (if zv_a h2 61 k = 6 then zi7 (zv_b h 53 k) else 0) (zv_i h94 38) (zv_a h94 71) (zv_a h94 72) := by have q := tX.2; rw [show zv_i h66 38 = zv_i h2 38 from ((zv_wi w67 rfl).trans (zv_wi w7 rfl)), show zv_a h66 71 = zv_a h2 71 from funext (fun q => zv_wa ((w7.wd rfl : zb_W [(61, 0), (69, 0)] h2 _).tr (w67.wd rfl)) rfl q), show zv_a h66 72 = zv_a h2 72 from funext (fun q => zv_wa ((w7.wd rfl : zb_W [(61, 0), (69, 0)] h2 _).tr (w67.wd rfl)) rfl q)] at q; rw [zv_wi w95 (k := 38) rfl, show zv_a h94 71 = zv_a h92 71 from funext (fun q => zv_wa w95 rfl q), show zv_a h94 72 = zv_a h92 72 from funext (fun q => zv_wa w95 rfl q)]; first | (rw [if_pos (show zv_a h2 61 k = 6 by omega)]; exact q) | (rw [if_neg (show ¬ zv_a h2 61 k = 6 by omega)]; exact q)
                refine zx_T.lk (ls' := [(0, .ref 44), (1, .int (zI (k + 1)))]) rfl ⟨rfl, rfl, trivial⟩ ?_
                exact ih (h2 := h94) (k := k + 1) ih94 (by omega) (by omega) (((((hw.wd rfl : zb_W [(44, 25), (61, 0), (69, 0), (44, 38), (71, 0), (72, 0)] h _).tr (w7.wd rfl)).tr (w67.wd rfl)).tr (w93.wd rfl)).tr (w95.wd rfl)) (by omega) (zf_bi_s (by omega) (by omega) bi ⟨(fun z => by have z9 : zv_a h2 61 k = 1 := z; first | (exfalso; omega) | (exact fun j j0 => by show zv_b _ 69 j = _; rw [b69 j j0]; rfl)), (fun z => by have z9 : zv_a h2 61 k = 2 := z; first | (exfalso; omega) | (exact fun j j0 => by show zv_b _ 69 j = _; rw [b69 j j0]; rfl)), (fun z => ⟨fun j j0 => by show zv_b _ 69 j = _; rw [b69 j j0]; by_cases y : j = k; (rw [if_pos y, if_pos y]; exact tX.1.trans (((zv_wi w67 rfl).trans (zv_wi w7 rfl)))); (rw [if_neg y, if_neg y, if_neg y]; rfl), thq⟩), (fun z => absurd (show 5 ≤ zv_a h2 61 k ∧ 0 ≤ zv_b h 53 k by omega) z), (fun j j0 jn => by show zv_b _ 69 j = _; rw [b69 j j0]; (repeat rw [if_neg jn]); rfl), (fun j j0 => by show zv_a _ 61 j = if j = k then zf_n0 (zv_a h2 61) (zv_b h 53) k else zv_a h2 61 j; rw [a61 j j0]; unfold zf_n0; exact if y : j = k then (by rw [if_pos y]; first | (exfalso; omega) | (rw [if_pos y, if_pos (by omega)]; done) | (rw [if_pos y, if_neg (by omega)]; done) | (rw [if_neg (by omega), y]) | (rw [if_pos (by omega), y]; omega)) else (by rw [if_neg y]; first | done | rw [if_neg y]))⟩) (by omega)
            · refine zx_T.s (i := .lconst 0) (k := 1) (st' := [.long (zL (0)), .int (zI (k)), .ref 69]) (pc := 105) rfl rfl ?_
              refine zx_T.j (i := .goto 25) (k := 3) (pc' := 131) (st' := [.long (zL (0)), .int (zI (k)), .ref 69]) (pc := 106) rfl rfl rfl rfl rfl ?_
              refine zr_ls2 (n := 14) (e := 0) (pc := 131) rfl rfl rfl ih66 (by omega) (by omega) (by omega) (by omega) (fun h103 ih103 w104 s105 => ?_)
              refine zr_inc (x := k) (n := 1) (y := k + 1) (ls' := [(1, .int (zI (k + 1))), (4, .int (zI (zv_a h2 61 k))), (2, .long (zL (zv_b h 53 k))), (0, .ref 44)]) (pc := 132) rfl rfl rfl (by omega) rfl ?_
              refine zx_T.j (i := .goto (-115)) (k := 3) (pc' := 20) (st' := []) (pc := 135) rfl rfl rfl rfl rfl ?_
              have y106 : zv_i h103 25 = zv_i h2 25 := ((zv_wi w104 rfl).trans ((zv_wi w67 rfl).trans (zv_wi w7 rfl)))
              have y107 : zv_i h103 38 = zv_i h2 38 := ((zv_wi w104 rfl).trans ((zv_wi w67 rfl).trans (zv_wi w7 rfl)))
              have a61 : ∀ j, 0 ≤ j → zv_a h103 61 j = if j = k then 4 else zv_a h2 61 j := fun j hj => by rw [zv_wa w104 rfl j, s68 j hj, zv_wa w7 rfl j]
              have a71 : ∀ j, 0 ≤ j → zv_a h103 71 j = zv_a h2 71 j := fun j hj => by rw [zv_wa w104 rfl j, zv_wa w67 rfl j, zv_wa w7 rfl j]
              have a72 : ∀ j, 0 ≤ j → zv_a h103 72 j = zv_a h2 72 j := fun j hj => by rw [zv_wa w104 rfl j, zv_wa w67 rfl j, zv_wa w7 rfl j]
              have b69 : ∀ j, 0 ≤ j → zv_b h103 69 j = if j = k then 0 else if j = k then zv_b h 53 k else zv_b h2 69 j := fun j hj => by rw [s105 j hj, zv_wb w67 rfl j, s8 j hj]
              have ag : zv_b h2 53 k = zv_b h 53 k := zv_wb hw rfl k
              refine zx_T.lk (ls' := [(0, .ref 44), (1, .int (zI (k + 1)))]) rfl ⟨rfl, rfl, trivial⟩ ?_
              exact ih (h2 := h103) (k := k + 1) ih103 (by omega) (by omega) ((((hw.wd rfl : zb_W [(44, 25), (61, 0), (69, 0), (44, 38), (71, 0), (72, 0)] h _).tr (w7.wd rfl)).tr (w67.wd rfl)).tr (w104.wd rfl)) (by omega) (zf_bi_s (by omega) (by omega) bi ⟨(fun z => by have z9 : zv_a h2 61 k = 1 := z; first | (exfalso; omega) | (exact fun j j0 => by show zv_b _ 69 j = _; rw [b69 j j0]; rfl)), (fun z => by have z9 : zv_a h2 61 k = 2 := z; first | (exfalso; omega) | (exact fun j j0 => by show zv_b _ 69 j = _; rw [b69 j j0]; rfl)), (fun z => by have z9 : 5 ≤ zv_a h2 61 k ∧ 0 ≤ zv_b h 53 k := z; exfalso; omega), (fun _ => ⟨(show zv_i h103 38 = zv_i h2 38 by omega), fun j j0 => by show zv_a _ 71 j = _; rw [a71 j j0]; rfl, fun j j0 => by show zv_a _ 72 j = _; rw [a72 j j0]; rfl⟩), (fun j j0 jn => by show zv_b _ 69 j = _; rw [b69 j j0]; (repeat rw [if_neg jn]); rfl), (fun j j0 => by show zv_a _ 61 j = if j = k then zf_n0 (zv_a h2 61) (zv_b h 53) k else zv_a h2 61 j; rw [a61 j j0]; unfold zf_n0; exact if y : j = k then (by rw [if_pos y]; first | (exfalso; omega) | (rw [if_pos y, if_pos (by omega)]; done) | (rw [if_pos y, if_neg (by omega)]; done) | (rw [if_neg (by omega), y]) | (rw [if_pos (by omega), y]; omega)) else (by rw [if_neg y]; first | done | rw [if_neg y]))⟩) (by omega)
      · refine zx_T.l (i := .lload_n 2) (k := 1) (v := .long (zL (zv_b h 53 k))) (pc := 50) rfl rfl rfl ?_
        refine zr_l2i (pc := 51) rfl ?_
        refine zr_n32 (x := zv_b h 53 k) (fun z112a z112b => ?_)
        refine zr_i2l (pc := 52) rfl (by omega) (by omega) ?_
        refine zx_T.j (i := .goto 4) (k := 3) (pc' := 57) (st' := [.long (zL (zi32 (zv_b h 53 k))), .int (zI (k)), .ref 69]) (pc := 53) rfl rfl rfl rfl rfl ?_
        refine zr_ls2 (n := 14) (e := zi32 (zv_b h 53 k)) (pc := 57) rfl rfl rfl hI2 (by omega) (by omega) (by omega) (by omega) (fun h113 ih113 w114 s115 => ?_)
        refine zx_T.l (i := .aload_n 0) (k := 1) (v := .ref 44) (pc := 58) rfl rfl rfl ?_
        refine zr_gr (k := 24) (b := 61) (pc := 59) rfl rfl rfl ih113 ?_
        refine zx_T.l (i := .iload_n 1) (k := 1) (v := .int (zI (k))) (pc := 62) rfl rfl rfl ?_
        refine zr_al (n := 14) (lo := 0) (hi := 8) (e := zv_a h2 61 k) (pc := 63) rfl rfl rfl ih113 (by omega) (by omega) (zv_wa w114 rfl k) (fun g116a g116b => ?_)
        refine zx_T.s (i := .iconst 5) (k := 1) (st' := [.int (zI (5)), .int (zI (zv_a h2 61 k))]) (pc := 64) rfl rfl ?_
        refine zr_i2 (x := zv_a h2 61 k) (y := 5) (t := 132) (pc := 65) rfl rfl (by omega) (by omega) (by omega) (by omega) (fun (c117 : (zv_a h2 61 k) < 5) => ?_) (fun (c117 : ¬ ((zv_a h2 61 k) < 5)) => False.elim (by omega))
        refine zr_inc (x := k) (n := 1) (y := k + 1) (ls' := [(1, .int (zI (k + 1))), (2, .long (zL (zv_b h 53 k))), (0, .ref 44)]) (pc := 132) rfl rfl rfl (by omega) rfl ?_
        refine zx_T.j (i := .goto (-115)) (k := 3) (pc' := 20) (st' := []) (pc := 135) rfl rfl rfl rfl rfl ?_
        have y118 : zv_i h113 25 = zv_i h2 25 := (zv_wi w114 rfl)
        have y119 : zv_i h113 38 = zv_i h2 38 := (zv_wi w114 rfl)
        have a61 : ∀ j, 0 ≤ j → zv_a h113 61 j = zv_a h2 61 j := fun j hj => by rw [zv_wa w114 rfl j]
        have a71 : ∀ j, 0 ≤ j → zv_a h113 71 j = zv_a h2 71 j := fun j hj => by rw [zv_wa w114 rfl j]
        have a72 : ∀ j, 0 ≤ j → zv_a h113 72 j = zv_a h2 72 j := fun j hj => by rw [zv_wa w114 rfl j]
        have b69 : ∀ j, 0 ≤ j → zv_b h113 69 j = if j = k then zi32 (zv_b h 53 k) else zv_b h2 69 j := fun j hj => by rw [s115 j hj]
        have ag : zv_b h2 53 k = zv_b h 53 k := zv_wb hw rfl k
        refine zx_T.lk (ls' := [(0, .ref 44), (1, .int (zI (k + 1)))]) rfl ⟨rfl, rfl, trivial⟩ ?_
        exact ih (h2 := h113) (k := k + 1) ih113 (by omega) (by omega) ((hw.wd rfl : zb_W [(44, 25), (61, 0), (69, 0), (44, 38), (71, 0), (72, 0)] h _).tr (w114.wd rfl)) (by omega) (zf_bi_s (by omega) (by omega) bi ⟨(fun z => by have z9 : zv_a h2 61 k = 1 := z; first | (exfalso; omega) | (exact fun j j0 => by show zv_b _ 69 j = _; rw [b69 j j0]; rfl)), (fun z => by have z9 : zv_a h2 61 k = 2 := z; first | (exfalso; omega) | (exact fun j j0 => by show zv_b _ 69 j = _; rw [b69 j j0]; rfl)), (fun z => by have z9 : 5 ≤ zv_a h2 61 k ∧ 0 ≤ zv_b h 53 k := z; exfalso; omega), (fun _ => ⟨(show zv_i h113 38 = zv_i h2 38 by omega), fun j j0 => by show zv_a _ 71 j = _; rw [a71 j j0]; rfl, fun j j0 => by show zv_a _ 72 j = _; rw [a72 j j0]; rfl⟩), (fun j j0 jn => by show zv_b _ 69 j = _; rw [b69 j j0]; (repeat rw [if_neg jn]); rfl), (fun j j0 => by show zv_a _ 61 j = if j = k then zf_n0 (zv_a h2 61) (zv_b h 53) k else zv_a h2 61 j; rw [a61 j j0]; unfold zf_n0; exact if y : j = k then (by rw [if_pos y]; first | (exfalso; omega) | (rw [if_pos y, if_pos (by omega)]; done) | (rw [if_pos y, if_neg (by omega)]; done) | (rw [if_neg (by omega), y]) | (rw [if_pos (by omega), y]; omega)) else (by rw [if_neg y]; first | done | rw [if_neg y]))⟩) (by omega)
set_option maxRecDepth 100000 in
set_option maxHeartbeats 8000000 in
theorem zm_fillX {h : zx_H} (hI : zb_I zc_H h)   : zx_T zp_P 1 zp_m206 0 [(0, .ref 44)] [] h (zr_V [(44, 25), (61, 0), (69, 0), (44, 38), (71, 0), (72, 0)] h (fun h' => zf_b0 (zs_row (zr_Pg h)) (zv_b h 53) (zf_of h' 0))) := by
  have hP := zv_ri hI (k := 10) rfl
  refine zx_T.l (i := .aload_n 0) (k := 1) (v := .ref 44) (pc := 0) rfl rfl rfl ?_
  refine zx_T.l (i := .aload_n 0) (k := 1) (v := .ref 44) (pc := 1) rfl rfl rfl ?_
  refine zr_gr (k := 24) (b := 61) (pc := 2) rfl rfl rfl hI ?_
  refine zr_iv (cj := 172) (q' := zp_m172) (As := [.ref 61]) (rest := []) (pc := 5) rfl rfl rfl rfl rfl rfl (Nat.le_of_ble_eq_true rfl) rfl (Nat.le_of_ble_eq_true rfl) hI ((zm_begin_61 (h := h) hI  ).up (Nat.le_of_ble_eq_true rfl)) ?_
  rintro r124 h127 ⟨ih127, w128, r124q, x126⟩
  subst r124q
  try dsimp only at x126
  have bj := x126
  have bj := x126
  show zx_T zp_P 1 zp_m206 8 [(0, .ref 44)] [] h127 _
  refine zx_T.l (i := .aload_n 0) (k := 1) (v := .ref 44) (pc := 8) rfl rfl rfl ?_
  refine zx_T.s (i := .iconst 0) (k := 1) (st' := [.int (zI (0)), .ref 44]) (pc := 9) rfl rfl ?_
  refine zr_pi (k := 25) (lo := 0) (hi := 6) (e := 0) (pc := 10) rfl rfl rfl rfl rfl rfl ih127 (by omega) (by omega) (fun h129 ih129 w130 e131 => ?_)
  refine zx_T.l (i := .aload_n 0) (k := 1) (v := .ref 44) (pc := 13) rfl rfl rfl ?_
  refine zx_T.s (i := .iconst 0) (k := 1) (st' := [.int (zI (0)), .ref 44]) (pc := 14) rfl rfl ?_
  refine zr_pi (k := 38) (lo := 0) (hi := 400) (e := 0) (pc := 15) rfl rfl rfl rfl rfl rfl ih129 (by omega) (by omega) (fun h132 ih132 w133 e134 => ?_)
  refine zx_T.s (i := .iconst 0) (k := 1) (st' := [.int (zI (0))]) (pc := 18) rfl rfl ?_
  refine zx_T.t (i := .istore_n 1) (k := 1) (ls' := [(1, .int (zI (0))), (0, .ref 44)]) (st' := []) (pc := 19) rfl rfl rfl rfl ?_
  have y135 : zv_i h132 25 = 0 := ((zv_wi w133 rfl).trans e131)
  have y136 : zv_i h132 38 = 0 := e134
  have a61 : ∀ j, 0 ≤ j → zv_a h132 61 j = zv_a h127 61 j := fun j hj => by rw [zv_wa w133 rfl j, zv_wa w130 rfl j]
  have a71 : ∀ j, 0 ≤ j → zv_a h132 71 j = zv_a h 71 j := fun j hj => by rw [zv_wa w133 rfl j, zv_wa w130 rfl j, zv_wa w128 rfl j]
  have a72 : ∀ j, 0 ≤ j → zv_a h132 72 j = zv_a h 72 j := fun j hj => by rw [zv_wa w133 rfl j, zv_wa w130 rfl j, zv_wa w128 rfl j]
  have b69 : ∀ j, 0 ≤ j → zv_b h132 69 j = zv_b h 69 j := fun j hj => by rw [zv_wb w133 rfl j, zv_wb w130 rfl j, zv_wb w128 rfl j]
  refine zx_T.lk (ls' := [(0, .ref 44), (1, .int (zI (0)))]) rfl ⟨rfl, rfl, trivial⟩ ?_
  exact zm_fillX_L (h := h) hI   ((14 - 0 : Int).toNat + 1) (h2 := h132) (k := 0) ih132 (by omega) (by omega) (((w128.wd rfl : zb_W [(44, 25), (61, 0), (69, 0), (44, 38), (71, 0), (72, 0)] h _).tr (w130.wd rfl)).tr (w133.wd rfl)) (by omega) (zf_bi_0 (fun j j0 j1 => by rw [a61 j j0]; have b1 := bj j j0 (by omega); show _ = (if j < zv_i h 10 then zv_a h 52 j else 0); by_cases y : j < zv_i h 10; (rw [if_pos y]; exact b1.2 y); (rw [if_neg y]; exact b1.1 (by omega))) (by omega)) (Nat.lt_succ_self _)

theorem zm_fillB {h : zx_H} (hI : zb_I zc_H h)   : zx_T zp_P 1 zp_m206 0 [(0, .ref 44)] [] h (zr_V [(44, 25), (61, 0), (69, 0), (44, 38), (71, 0), (72, 0)] h (fun h' => (zv_i h' 25 = 0 ∧ zv_i h' 38 ≤ 8 ∧ zg_VI h' ∧ ¬ zv_a h' 61 8 = 3) ∧ (zf_b0 (zs_row (zr_Pg h)) (zv_b h 53) (zf_of h' 0)))) :=
  (((zm_fill hI ).up (Nat.le_of_ble_eq_true rfl)).and ((zm_fillX hI ).up (Nat.le_of_ble_eq_true rfl))).im fun r h' ⟨⟨i, w, r1, a⟩, ⟨_, _, _, b⟩⟩ => ⟨i, w, r1, a, b⟩

theorem zm_stepB {h : zx_H} (hI : zb_I zc_H h) {p : Int} (p1 : 0 ≤ p) (p2 : p < zv_i h 1) (hc : zg_CI h) (vi : zg_VI h) (t9 : zv_i h 38 ≤ 399) (r9 : zv_i h 41 ≤ 1000000) (r8 : (-5) ≤ zv_i h 41) (x0 : zv_i h 42 = 0) (n8 : ¬ zv_a h 61 8 = 3) : zx_T zp_P 7 zp_m216 0 [(0, .ref 44), (1, .int (zI (p)))] [] h (zr_V [(70, 0), (44, 26), (44, 25), (61, 0), (69, 0), (44, 50), (44, 14), (44, 42), (44, 43), (44, 49), (44, 41), (44, 38), (71, 0), (72, 0)] h (fun h' => (zg_se h h') ∧ (zf_st (zr_Pg h) (zf_of h p) (zf_of h' (zv_i h' 50))))) :=
  (((zm_step hI p1 p2 hc vi t9 r9 r8 x0 n8).up (Nat.le_of_ble_eq_true rfl)).and ((zm_stepX hI p1 p2 hc vi t9 r9 r8 x0 n8).up (Nat.le_of_ble_eq_true rfl))).im fun r h' ⟨⟨i, w, r1, a⟩, ⟨_, _, _, b⟩⟩ => ⟨i, w, r1, a, b⟩

set_option maxRecDepth 100000 in
set_option maxHeartbeats 16000000 in
theorem zm_runX_L {h : zx_H} (hI : zb_I zc_H h) {m : Int} (m1 : -2147483648 ≤ m) (m2 : m ≤ 2147483647) (hc : zg_CI h) (r8 : 0 ≤ zv_i h 41) (n : Nat) : (∀ {h2 : zx_H} {p : Int} (hI2 : zb_I zc_H h2) (m1b : 0 ≤ m) (m2b : m ≤ 300) (rz : zv_i h 41 < 1000) (cz : 0 < zv_i h 1) (hw : zb_W [(44, 0), (44, 44), (44, 45), (44, 46), (44, 48), (44, 47), (70, 0), (44, 26), (44, 25), (61, 0), (69, 0), (44, 50), (44, 14), (44, 42), (44, 43), (44, 49), (44, 41), (44, 38), (71, 0), (72, 0)] h h2) (pp : zv_i h2 42 = 0 → 0 ≤ p ∧ p < zv_i h 1) (pr : (-1) ≤ p ∧ p ≤ 59) (ns : ¬ zv_a h2 61 8 = 3) (pi : zg_PI h2) (s1 : 0 ≤ zv_i h2 48) (s2 : zv_i h2 48 ≤ m) (tt9 : zv_i h2 38 ≤ 8 + zv_i h2 48) (ff : 0 ≤ zv_i h2 41 ∧ zv_i h2 41 ≤ 1000 + zv_i h2 48) (v0 : zK) (v : zK) (q9 : Int) (b0 : zf_bf h v0) (go : zk_gl (zf_st (zr_Pg h)) v0 v (zv_i h2 48) q9) (al : (v = zf_of h2 p ∧ (1 ≤ zv_i h2 48 → zv_i h2 47 = q9)) ∨ (zv_i h2 42 = 1 ∧ zv_i h2 43 = 2 ∧ zv_i h2 48 = m ∧ v.e = 0 ∧ zv_i h2 47 = v.p ∧ zv_i h2 14 = v.f ∧ zv_i h2 49 = v.c ∧ zv_i h2 41 = v.r)) (tk : zv_i h2 45 = -1 ∧ zv_l h2 46 = 0 ∧ zv_i h2 44 = 1), (2 * (m - zv_i h2 48) + 1 - zv_i h2 42 : Int).toNat < n → zx_T zp_P 8 zp_m217 94 [(0, .ref 44), (1, .int (zI (m))), (2, .int (zI (p)))] [] h2 (zr_R [(44, 0), (44, 44), (44, 45), (44, 46), (44, 48), (44, 47), (70, 0), (44, 26), (44, 25), (61, 0), (69, 0), (44, 50), (44, 14), (44, 42), (44, 43), (44, 49), (44, 41), (44, 38), (71, 0), (72, 0)] h (fun e h' => ((m < 0 ∨ 300 < m) ∧ e = -2 ∧ zb_W [(44, 0)] h h') ∨ ((0 ≤ m ∧ m ≤ 300) ∧ 1000 ≤ zv_i h 41 ∧ e = -4 ∧ zb_W [(44, 0)] h h') ∨ ((0 ≤ m ∧ m ≤ 300) ∧ zv_i h 41 < 1000 ∧ zv_i h 1 = 0 ∧ e = -9 ∧ zv_i h' 14 = 6 ∧ zv_i h' 44 = 1 ∧ zv_i h' 45 = -1 ∧ zv_l h' 46 = 0 ∧ zv_i h' 48 = 0 ∧ zv_i h' 49 = 0 ∧ zv_i h' 47 = -1 ∧ zv_i h' 41 = zv_i h 41) ∨ ((0 ≤ m ∧ m ≤ 300) ∧ zv_i h 41 < 1000 ∧ 0 < zv_i h 1 ∧ zv_i h' 44 = 1 ∧ ∃ v0 v q, zf_bf h v0 ∧ zk_gl (zf_st (zr_Pg h)) v0 v (zv_i h' 48) q ∧ zv_i h' 48 ≤ m ∧ zv_i h' 14 = v.f ∧ zv_i h' 49 = v.c ∧ zv_i h' 41 = v.r ∧ ((v.e = 1 ∧ e = v.o ∧ (1 ≤ zv_i h' 48 → zv_i h' 47 = q) ∧ zv_i h' 45 = zf_tK v ∧ zv_l h' 46 = zf_tN v) ∨ (v.e = 0 ∧ zv_i h' 48 = m ∧ e = 2 ∧ zv_i h' 47 = v.p ∧ zv_i h' 45 = -1 ∧ zv_l h' 46 = 0)))))) := by
  induction n with
  | zero => exact fun _ _ _ _ _ _ _ _ _ _ _ _ _ _ _ _ _ _ _ _ _ hm => absurd hm (Nat.not_lt_zero _)
  | succ n ih =>
    intro h2 p hI2 m1b m2b rz cz hw pp pr ns pi s1 s2 tt9 ff v0 v q9 b0 go al tk hm
    have hC := zv_ri hI (k := 1) rfl
    have hX2 := zv_ri hI2 (k := 42) rfl
    have hX := zv_ri hI2 (k := 42) rfl
    refine zx_T.l (i := .aload_n 0) (k := 1) (v := .ref 44) (pc := 94) rfl rfl rfl ?_
    refine zr_gi (k := 42) (lo := 0) (hi := 1) (e := zv_i h2 42) (pc := 95) rfl rfl rfl hI2 rfl (fun g1a g1b => ?_)
    refine zr_i1 (x := zv_i h2 42) (t := 145) (pc := 98) rfl rfl (by omega) (by omega) (fun (c2 : ¬ (zv_i h2 42) = 0) => ?_) (fun (c2 : ¬ (¬ (zv_i h2 42) = 0)) => ?_)
    · refine zx_T.l (i := .aload_n 0) (k := 1) (v := .ref 44) (pc := 145) rfl rfl rfl ?_
      refine zr_gi (k := 43) (lo := (-2147483648)) (hi := 2147483647) (e := zv_i h2 43) (pc := 146) rfl rfl rfl hI2 rfl (fun g3a g3b => ?_)
      refine zr_i1 (x := zv_i h2 43) (t := 256) (pc := 149) rfl rfl (by omega) (by omega) (fun (c4 : ¬ (zv_i h2 43) = 0) => ?_) (fun (c4 : ¬ (¬ (zv_i h2 43) = 0)) => ?_)
      · refine zx_T.l (i := .aload_n 0) (k := 1) (v := .ref 44) (pc := 256) rfl rfl rfl ?_
        refine zr_gi (k := 43) (lo := (-2147483648)) (hi := 2147483647) (e := zv_i h2 43) (pc := 257) rfl rfl rfl hI2 rfl (fun g5a g5b => ?_)
        have y15 : zv_i h2 1 = zv_i h 1 := (zv_wi hw rfl)
        exact zr_ir (x := zv_i h2 43) (pc := 260) rfl rfl rfl ⟨hI2, (hw.wd rfl : zb_W [(44, 0), (44, 44), (44, 45), (44, 46), (44, 48), (44, 47), (70, 0), (44, 26), (44, 25), (61, 0), (69, 0), (44, 50), (44, 14), (44, 42), (44, 43), (44, 49), (44, 41), (44, 38), (71, 0), (72, 0)] h _), _, rfl, by dsimp only; rcases al with z | z; (have vE := z.1; exact Or.inr (Or.inr (Or.inr ⟨by omega, by omega, by omega, by omega, v0, v, q9, b0, go, by omega,  by rw [vE]; rfl, by rw [vE]; rfl, by rw [vE]; rfl, Or.inl ⟨by rw [vE]; show zv_i h2 42 = 1; omega, by rw [vE]; rfl, z.2, by rw [vE]; exact tk.1.trans (zf_tn0 (h := h2) (p := p) (show ¬ (zv_i h2 43 = 0 ∧ 0 < zv_i h2 25) by omega)).1.symm, by rw [vE]; exact tk.2.1.trans (zf_tn0 (h := h2) (p := p) (show ¬ (zv_i h2 43 = 0 ∧ 0 < zv_i h2 25) by omega)).2.symm⟩⟩))); (exact Or.inr (Or.inr (Or.inr ⟨by omega, by omega, by omega, by omega, v0, v, q9, b0, go, by omega, z.2.2.2.2.2.1, z.2.2.2.2.2.2.1, z.2.2.2.2.2.2.2, Or.inr ⟨z.2.2.2.1, z.2.2.1, z.2.1, z.2.2.2.2.1, tk.1, tk.2.1⟩⟩)))⟩
      · refine zx_T.l (i := .aload_n 0) (k := 1) (v := .ref 44) (pc := 152) rfl rfl rfl ?_
        refine zr_gi (k := 25) (lo := 0) (hi := 6) (e := zv_i h2 25) (pc := 153) rfl rfl rfl hI2 rfl (fun g16a g16b => ?_)
        refine zr_i1 (x := zv_i h2 25) (t := 256) (pc := 156) rfl rfl (by omega) (by omega) (fun (c17 : (zv_i h2 25) ≤ 0) => ?_) (fun (c17 : ¬ ((zv_i h2 25) ≤ 0)) => ?_)
        · refine zx_T.l (i := .aload_n 0) (k := 1) (v := .ref 44) (pc := 256) rfl rfl rfl ?_
          refine zr_gi (k := 43) (lo := (-2147483648)) (hi := 2147483647) (e := zv_i h2 43) (pc := 257) rfl rfl rfl hI2 rfl (fun g18a g18b => ?_)
          have y28 : zv_i h2 1 = zv_i h 1 := (zv_wi hw rfl)
          exact zr_ir (x := zv_i h2 43) (pc := 260) rfl rfl rfl ⟨hI2, (hw.wd rfl : zb_W [(44, 0), (44, 44), (44, 45), (44, 46), (44, 48), (44, 47), (70, 0), (44, 26), (44, 25), (61, 0), (69, 0), (44, 50), (44, 14), (44, 42), (44, 43), (44, 49), (44, 41), (44, 38), (71, 0), (72, 0)] h _), _, rfl, by dsimp only; rcases al with z | z; (have vE := z.1; exact Or.inr (Or.inr (Or.inr ⟨by omega, by omega, by omega, by omega, v0, v, q9, b0, go, by omega,  by rw [vE]; rfl, by rw [vE]; rfl, by rw [vE]; rfl, Or.inl ⟨by rw [vE]; show zv_i h2 42 = 1; omega, by rw [vE]; rfl, z.2, by rw [vE]; exact tk.1.trans (zf_tn0 (h := h2) (p := p) (show ¬ (zv_i h2 43 = 0 ∧ 0 < zv_i h2 25) by omega)).1.symm, by rw [vE]; exact tk.2.1.trans (zf_tn0 (h := h2) (p := p) (show ¬ (zv_i h2 43 = 0 ∧ 0 < zv_i h2 25) by omega)).2.symm⟩⟩))); (exact Or.inr (Or.inr (Or.inr ⟨by omega, by omega, by omega, by omega, v0, v, q9, b0, go, by omega, z.2.2.2.2.2.1, z.2.2.2.2.2.2.1, z.2.2.2.2.2.2.2, Or.inr ⟨z.2.2.2.1, z.2.2.1, z.2.1, z.2.2.2.2.1, tk.1, tk.2.1⟩⟩)))⟩
        · refine zx_T.l (i := .aload_n 0) (k := 1) (v := .ref 44) (pc := 159) rfl rfl rfl ?_
          refine zr_iv (cj := 160) (q' := zp_m160) (As := []) (rest := []) (pc := 160) rfl rfl rfl rfl rfl rfl (Nat.le_of_ble_eq_true rfl) rfl (Nat.le_of_ble_eq_true rfl) hI2 ((zm_top (h := h2) hI2  ).up (Nat.le_of_ble_eq_true rfl)) ?_
          rintro r29 h32 ⟨h32q, v30, r29q, x31⟩
          subst h32q r29q
          try dsimp only at x31
          show zx_T zp_P 8 zp_m217 163 [(0, .ref 44), (1, .int (zI (m))), (2, .int (zI (p)))] [.int (zI (v30))] h2 _
          refine zx_T.s (i := .iconst 3) (k := 1) (st' := [.int (zI (3)), .int (zI (v30))]) (pc := 163) rfl rfl ?_
          refine zr_i2 (x := v30) (y := 3) (t := 171) (pc := 164) rfl rfl (by omega) (by omega) (by omega) (by omega) (fun (c33 : ¬ v30 = 3) => ?_) (fun (c33 : ¬ (¬ v30 = 3)) => ?_)
          · refine zx_T.s (i := .iconst 0) (k := 1) (st' := [.int (zI (0))]) (pc := 171) rfl rfl ?_
            refine zx_T.t (i := .istore_n 3) (k := 1) (ls' := [(3, .int (zI (0))), (0, .ref 44), (1, .int (zI (m))), (2, .int (zI (p)))]) (st' := []) (pc := 172) rfl rfl rfl rfl ?_
            refine zx_T.l (i := .aload_n 0) (k := 1) (v := .ref 44) (pc := 173) rfl rfl rfl ?_
            refine zx_T.l (i := .iload_n 3) (k := 1) (v := .int (zI (0))) (pc := 174) rfl rfl rfl ?_
            refine zr_i1 (x := 0) (t := 182) (pc := 175) rfl rfl (by omega) (by omega) (fun _ => ?_) (fun (c34 : ¬ (0 = 0)) => absurd (by decide) c34)
            refine zx_T.l (i := .aload_n 0) (k := 1) (v := .ref 44) (pc := 182) rfl rfl rfl ?_
            refine zr_iv (cj := 160) (q' := zp_m160) (As := []) (rest := [.ref 44]) (pc := 183) rfl rfl rfl rfl rfl rfl (Nat.le_of_ble_eq_true rfl) rfl (Nat.le_of_ble_eq_true rfl) hI2 ((zm_top (h := h2) hI2  ).up (Nat.le_of_ble_eq_true rfl)) ?_
            rintro r35 h38 ⟨h38q, v36, r35q, x37⟩
            subst h38q r35q
            try dsimp only at x37
            show zx_T zp_P 8 zp_m217 186 [(3, .int (zI (0))), (0, .ref 44), (1, .int (zI (m))), (2, .int (zI (p)))] [.int (zI (v36)), .ref 44] h2 _
            refine zr_pi (k := 45) (lo := (-2147483648)) (hi := 2147483647) (e := v36) (pc := 186) rfl rfl rfl rfl rfl rfl hI2 (by omega) (by omega) (fun h39 ih39 w40 e41 => ?_)
            refine zx_T.l (i := .aload_n 0) (k := 1) (v := .ref 44) (pc := 189) rfl rfl rfl ?_
            refine zr_gr (k := 36) (b := 69) (pc := 190) rfl rfl rfl ih39 ?_
            refine zx_T.s (i := .bipush 8) (k := 2) (st' := [.int (zI (8)), .ref 69]) (pc := 193) rfl rfl ?_
            refine zx_T.l (i := .aload_n 0) (k := 1) (v := .ref 44) (pc := 195) rfl rfl rfl ?_
            refine zr_gi (k := 25) (lo := 0) (hi := 6) (e := zv_i h2 25) (pc := 196) rfl rfl rfl ih39 (zv_wi w40 rfl) (fun g42a g42b => ?_)
            refine zr_add (x := 8) (y := zv_i h2 25) (e := zv_i h2 25 + 8) (pc := 199) rfl (by omega) ?_
            refine zx_T.l (i := .iload_n 3) (k := 1) (v := .int (zI (0))) (pc := 200) rfl rfl rfl ?_
            refine zr_i1 (x := 0) (t := 208) (pc := 201) rfl rfl (by omega) (by omega) (fun _ => ?_) (fun (c43 : ¬ (0 = 0)) => absurd (by decide) c43)
            refine zx_T.s (i := .iconst 1) (k := 1) (st' := [.int (zI (1)), .int (zI (zv_i h2 25 + 8)), .ref 69]) (pc := 208) rfl rfl ?_
            refine zr_sub (x := zv_i h2 25 + 8) (y := 1) (e := zv_i h2 25 + 7) (pc := 209) rfl (by omega) ?_
            have g44 := zv_rb (h := h39) 69 (zv_i h2 25 + 7)
            refine zr_ll (n := 14) (e := zv_b h2 69 (zv_i h2 25 + 7)) (pc := 210) rfl rfl rfl ih39 (by omega) (by omega) (zv_wb w40 rfl (zv_i h2 25 + 7)) ?_
            rw [show zv_b h39 69 (zv_i h2 25 + 7) = zv_b h2 69 (zv_i h2 25 + 7) from (zv_wb w40 rfl (zv_i h2 25 + 7))] at g44
            refine zx_T.t (i := .lstore 4) (k := 2) (ls' := [(4, .long (zL (zv_b h2 69 (zv_i h2 25 + 7)))), (3, .int (zI (0))), (0, .ref 44), (1, .int (zI (m))), (2, .int (zI (p)))]) (st' := []) (pc := 211) rfl rfl rfl rfl ?_
            refine zx_T.l (i := .aload_n 0) (k := 1) (v := .ref 44) (pc := 213) rfl rfl rfl ?_
            refine zx_T.l (i := .aload_n 0) (k := 1) (v := .ref 44) (pc := 214) rfl rfl rfl ?_
            refine zr_gi (k := 45) (lo := (-2147483648)) (hi := 2147483647) (e := v36) (pc := 215) rfl rfl rfl ih39 e41 (fun g45a g45b => ?_)
            refine zx_T.s (i := .iconst 1) (k := 1) (st' := [.int (zI (1)), .int (zI (v36)), .ref 44]) (pc := 218) rfl rfl ?_
            refine zr_i2 (x := v36) (y := 1) (t := 226) (pc := 219) rfl rfl (by omega) (by omega) (by omega) (by omega) (fun (c46 : v36 = 1) => ?_) (fun (c46 : ¬ (v36 = 1)) => ?_)
            · refine zx_T.l (i := .lload 4) (k := 2) (v := .long (zL (zv_b h2 69 (zv_i h2 25 + 7)))) (pc := 226) rfl rfl rfl ?_
              refine zx_T.j (i := .goto 25) (k := 3) (pc' := 253) (st' := [.long (zL (zv_b h2 69 (zv_i h2 25 + 7))), .ref 44]) (pc := 228) rfl rfl rfl rfl rfl ?_
              refine zr_pl2 (k := 46) (e := zv_b h2 69 (zv_i h2 25 + 7)) (pc := 253) rfl rfl rfl rfl ih39 (by omega) (by omega) (fun h47 ih47 w48 e49 => ?_)
              refine zx_T.l (i := .aload_n 0) (k := 1) (v := .ref 44) (pc := 256) rfl rfl rfl ?_
              refine zr_gi (k := 43) (lo := (-2147483648)) (hi := 2147483647) (e := zv_i h2 43) (pc := 257) rfl rfl rfl ih47 ((zv_wi w48 rfl).trans (zv_wi w40 rfl)) (fun g50a g50b => ?_)
              have y51 : zv_i h47 42 = zv_i h2 42 := ((zv_wi w48 rfl).trans (zv_wi w40 rfl))
              have y52 : zv_i h47 43 = zv_i h2 43 := ((zv_wi w48 rfl).trans (zv_wi w40 rfl))
              have y53 : zv_i h47 48 = zv_i h2 48 := ((zv_wi w48 rfl).trans (zv_wi w40 rfl))
              have y54 : zv_i h47 47 = zv_i h2 47 := ((zv_wi w48 rfl).trans (zv_wi w40 rfl))
              have y55 : zv_i h47 45 = v36 := ((zv_wi w48 rfl).trans e41)
              have y56 : zv_i h47 44 = zv_i h2 44 := ((zv_wi w48 rfl).trans (zv_wi w40 rfl))
              have y57 : zv_i h47 14 = zv_i h2 14 := ((zv_wi w48 rfl).trans (zv_wi w40 rfl))
              have y58 : zv_i h47 49 = zv_i h2 49 := ((zv_wi w48 rfl).trans (zv_wi w40 rfl))
              have y59 : zv_i h47 41 = zv_i h2 41 := ((zv_wi w48 rfl).trans (zv_wi w40 rfl))
              have y60 : zv_i h47 1 = zv_i h 1 := ((zv_wi w48 rfl).trans ((zv_wi w40 rfl).trans (zv_wi hw rfl)))
              exact zr_ir (x := zv_i h2 43) (pc := 260) rfl rfl rfl ⟨ih47, (((hw.wd rfl : zb_W [(44, 0), (44, 44), (44, 45), (44, 46), (44, 48), (44, 47), (70, 0), (44, 26), (44, 25), (61, 0), (69, 0), (44, 50), (44, 14), (44, 42), (44, 43), (44, 49), (44, 41), (44, 38), (71, 0), (72, 0)] h _).tr (w40.wd rfl)).tr (w48.wd rfl)), _, rfl, by dsimp only; rcases al with z | z; (have vE := z.1; have tt : zv_i h47 45 = zf_tK (zf_of h2 p) ∧ zv_l h47 46 = zf_tN (zf_of h2 p) := (by skip; first | (have t0 := zf_t3 (h := h2) (p := p) (show zv_i h2 43 = 0 ∧ 0 < zv_i h2 25 by omega) (by omega); rw [t0.1, t0.2]; exact ⟨by omega, (e49).trans (by first | rfl | (congr 1; omega))⟩) | (have t0 := zf_t1 (h := h2) (p := p) (show zv_i h2 43 = 0 ∧ 0 < zv_i h2 25 by omega) (by omega); rw [t0.1, t0.2]; exact ⟨by omega, (e49).trans (by first | rfl | (congr 1; omega))⟩) | (have t0 := zf_t6 (h := h2) (p := p) (show zv_i h2 43 = 0 ∧ 0 < zv_i h2 25 by omega) (by omega); rw [t0.1, t0.2]; exact ⟨by omega, (e49).trans (by first | rfl | (congr 2; congr 1; omega))⟩) | (have t0 := zf_tr (h := h2) (p := p) (show zv_i h2 43 = 0 ∧ 0 < zv_i h2 25 by omega) (by omega) (by omega) (by omega); rw [t0.1, t0.2]; exact ⟨by omega, e49⟩)); exact Or.inr (Or.inr (Or.inr ⟨by omega, by omega, by omega, by omega, v0, v, q9, b0, (by rw [zv_wi ((w40.wd rfl : zb_W [(44, 45), (44, 46)] h2 _).tr (w48.wd rfl)) (k := 48) rfl]; exact go), by omega, by rw [vE]; show _ = zv_i h2 14; exact zv_wi ((w40.wd rfl : zb_W [(44, 45), (44, 46)] h2 _).tr (w48.wd rfl)) rfl, by rw [vE]; show _ = zv_i h2 49; exact zv_wi ((w40.wd rfl : zb_W [(44, 45), (44, 46)] h2 _).tr (w48.wd rfl)) rfl, by rw [vE]; show _ = zv_i h2 41; exact zv_wi ((w40.wd rfl : zb_W [(44, 45), (44, 46)] h2 _).tr (w48.wd rfl)) rfl, Or.inl ⟨by rw [vE]; show zv_i h2 42 = 1; omega, by rw [vE]; show _ = zv_i h2 43; omega, fun y => (zv_wi ((w40.wd rfl : zb_W [(44, 45), (44, 46)] h2 _).tr (w48.wd rfl)) rfl).trans (z.2 (by rw [zv_wi ((w40.wd rfl : zb_W [(44, 45), (44, 46)] h2 _).tr (w48.wd rfl)) (k := 48) rfl] at y; exact y)), by rw [vE]; exact tt.1, by rw [vE]; exact tt.2⟩⟩))); (exfalso; omega)⟩
            · refine zx_T.l (i := .iload_n 3) (k := 1) (v := .int (zI (0))) (pc := 222) rfl rfl rfl ?_
              refine zr_i1 (x := 0) (t := 231) (pc := 223) rfl rfl (by omega) (by omega) (fun _ => ?_) (fun (c61 : ¬ (0 = 0)) => absurd (by decide) c61)
              refine zx_T.l (i := .aload_n 0) (k := 1) (v := .ref 44) (pc := 231) rfl rfl rfl ?_
              refine zr_gi (k := 45) (lo := (-2147483648)) (hi := 2147483647) (e := v36) (pc := 232) rfl rfl rfl ih39 e41 (fun g62a g62b => ?_)
              refine zx_T.s (i := .bipush 6) (k := 2) (st' := [.int (zI (6)), .int (zI (v36)), .ref 44]) (pc := 235) rfl rfl ?_
              refine zr_i2 (x := v36) (y := 6) (t := 252) (pc := 237) rfl rfl (by omega) (by omega) (by omega) (by omega) (fun (c63 : v36 < 6) => ?_) (fun (c63 : ¬ (v36 < 6)) => ?_)
              · refine zx_T.s (i := .lconst 0) (k := 1) (st' := [.long (zL (0)), .ref 44]) (pc := 252) rfl rfl ?_
                refine zr_pl2 (k := 46) (e := 0) (pc := 253) rfl rfl rfl rfl ih39 (by omega) (by omega) (fun h64 ih64 w65 e66 => ?_)
                refine zx_T.l (i := .aload_n 0) (k := 1) (v := .ref 44) (pc := 256) rfl rfl rfl ?_
                refine zr_gi (k := 43) (lo := (-2147483648)) (hi := 2147483647) (e := zv_i h2 43) (pc := 257) rfl rfl rfl ih64 ((zv_wi w65 rfl).trans (zv_wi w40 rfl)) (fun g67a g67b => ?_)
                have y68 : zv_i h64 42 = zv_i h2 42 := ((zv_wi w65 rfl).trans (zv_wi w40 rfl))
                have y69 : zv_i h64 43 = zv_i h2 43 := ((zv_wi w65 rfl).trans (zv_wi w40 rfl))
                have y70 : zv_i h64 48 = zv_i h2 48 := ((zv_wi w65 rfl).trans (zv_wi w40 rfl))
                have y71 : zv_i h64 47 = zv_i h2 47 := ((zv_wi w65 rfl).trans (zv_wi w40 rfl))
                have y72 : zv_i h64 45 = v36 := ((zv_wi w65 rfl).trans e41)
                have y73 : zv_i h64 44 = zv_i h2 44 := ((zv_wi w65 rfl).trans (zv_wi w40 rfl))
                have y74 : zv_i h64 14 = zv_i h2 14 := ((zv_wi w65 rfl).trans (zv_wi w40 rfl))
                have y75 : zv_i h64 49 = zv_i h2 49 := ((zv_wi w65 rfl).trans (zv_wi w40 rfl))
                have y76 : zv_i h64 41 = zv_i h2 41 := ((zv_wi w65 rfl).trans (zv_wi w40 rfl))
                have y77 : zv_i h64 1 = zv_i h 1 := ((zv_wi w65 rfl).trans ((zv_wi w40 rfl).trans (zv_wi hw rfl)))
                exact zr_ir (x := zv_i h2 43) (pc := 260) rfl rfl rfl ⟨ih64, (((hw.wd rfl : zb_W [(44, 0), (44, 44), (44, 45), (44, 46), (44, 48), (44, 47), (70, 0), (44, 26), (44, 25), (61, 0), (69, 0), (44, 50), (44, 14), (44, 42), (44, 43), (44, 49), (44, 41), (44, 38), (71, 0), (72, 0)] h _).tr (w40.wd rfl)).tr (w65.wd rfl)), _, rfl, by dsimp only; rcases al with z | z; (have vE := z.1; have tt : zv_i h64 45 = zf_tK (zf_of h2 p) ∧ zv_l h64 46 = zf_tN (zf_of h2 p) := (by skip; first | (have t0 := zf_t3 (h := h2) (p := p) (show zv_i h2 43 = 0 ∧ 0 < zv_i h2 25 by omega) (by omega); rw [t0.1, t0.2]; exact ⟨by omega, (e66).trans (by first | rfl | (congr 1; omega))⟩) | (have t0 := zf_t1 (h := h2) (p := p) (show zv_i h2 43 = 0 ∧ 0 < zv_i h2 25 by omega) (by omega); rw [t0.1, t0.2]; exact ⟨by omega, (e66).trans (by first | rfl | (congr 1; omega))⟩) | (have t0 := zf_t6 (h := h2) (p := p) (show zv_i h2 43 = 0 ∧ 0 < zv_i h2 25 by omega) (by omega); rw [t0.1, t0.2]; exact ⟨by omega, (e66).trans (by first | rfl | (congr 2; congr 1; omega))⟩) | (have t0 := zf_tr (h := h2) (p := p) (show zv_i h2 43 = 0 ∧ 0 < zv_i h2 25 by omega) (by omega) (by omega) (by omega); rw [t0.1, t0.2]; exact ⟨by omega, e66⟩)); exact Or.inr (Or.inr (Or.inr ⟨by omega, by omega, by omega, by omega, v0, v, q9, b0, (by rw [zv_wi ((w40.wd rfl : zb_W [(44, 45), (44, 46)] h2 _).tr (w65.wd rfl)) (k := 48) rfl]; exact go), by omega, by rw [vE]; show _ = zv_i h2 14; exact zv_wi ((w40.wd rfl : zb_W [(44, 45), (44, 46)] h2 _).tr (w65.wd rfl)) rfl, by rw [vE]; show _ = zv_i h2 49; exact zv_wi ((w40.wd rfl : zb_W [(44, 45), (44, 46)] h2 _).tr (w65.wd rfl)) rfl, by rw [vE]; show _ = zv_i h2 41; exact zv_wi ((w40.wd rfl : zb_W [(44, 45), (44, 46)] h2 _).tr (w65.wd rfl)) rfl, Or.inl ⟨by rw [vE]; show zv_i h2 42 = 1; omega, by rw [vE]; show _ = zv_i h2 43; omega, fun y => (zv_wi ((w40.wd rfl : zb_W [(44, 45), (44, 46)] h2 _).tr (w65.wd rfl)) rfl).trans (z.2 (by rw [zv_wi ((w40.wd rfl : zb_W [(44, 45), (44, 46)] h2 _).tr (w65.wd rfl)) (k := 48) rfl] at y; exact y)), by rw [vE]; exact tt.1, by rw [vE]; exact tt.2⟩⟩))); (exfalso; omega)⟩
              · have vq := (pi (Or.inr (by omega))) (zv_i h2 25 + 7) (by omega) (by omega) (by omega)
                have vq1 := vq.1
                have vq2 := vq.2.1
                have hT := zv_ri hI2 (k := 38) rfl
                have z32 : zi32 (zv_b h2 69 (zv_i h2 25 + 7)) = zv_b h2 69 (zv_i h2 25 + 7) := zi32_i (by omega) (by omega)
                refine zx_T.l (i := .aload_n 0) (k := 1) (v := .ref 44) (pc := 240) rfl rfl rfl ?_
                refine zr_gr (k := 39) (b := 71) (pc := 241) rfl rfl rfl ih39 ?_
                refine zx_T.l (i := .lload 4) (k := 2) (v := .long (zL (zv_b h2 69 (zv_i h2 25 + 7)))) (pc := 244) rfl rfl rfl ?_
                refine zr_l2i (pc := 246) rfl ?_
                refine zr_n32 (x := zv_b h2 69 (zv_i h2 25 + 7)) (fun z78a z78b => ?_)
                refine zr_al (n := 400) (lo := (-2147483648)) (hi := 2147483647) (e := zv_a h2 71 (zi32 (zv_b h2 69 (zv_i h2 25 + 7)))) (pc := 247) rfl rfl rfl ih39 (by omega) (by omega) (zv_wa w40 rfl (zi32 (zv_b h2 69 (zv_i h2 25 + 7)))) (fun g79a g79b => ?_)
                refine zr_i2l (pc := 248) rfl (by omega) (by omega) ?_
                refine zx_T.j (i := .goto 4) (k := 3) (pc' := 253) (st' := [.long (zL (zv_a h2 71 (zi32 (zv_b h2 69 (zv_i h2 25 + 7))))), .ref 44]) (pc := 249) rfl rfl rfl rfl rfl ?_
                refine zr_pl2 (k := 46) (e := zv_a h2 71 (zi32 (zv_b h2 69 (zv_i h2 25 + 7)))) (pc := 253) rfl rfl rfl rfl ih39 (by omega) (by omega) (fun h80 ih80 w81 e82 => ?_)
                refine zx_T.l (i := .aload_n 0) (k := 1) (v := .ref 44) (pc := 256) rfl rfl rfl ?_
                refine zr_gi (k := 43) (lo := (-2147483648)) (hi := 2147483647) (e := zv_i h2 43) (pc := 257) rfl rfl rfl ih80 ((zv_wi w81 rfl).trans (zv_wi w40 rfl)) (fun g83a g83b => ?_)
                have y84 : zv_i h80 42 = zv_i h2 42 := ((zv_wi w81 rfl).trans (zv_wi w40 rfl))
                have y85 : zv_i h80 43 = zv_i h2 43 := ((zv_wi w81 rfl).trans (zv_wi w40 rfl))
                have y86 : zv_i h80 48 = zv_i h2 48 := ((zv_wi w81 rfl).trans (zv_wi w40 rfl))
                have y87 : zv_i h80 47 = zv_i h2 47 := ((zv_wi w81 rfl).trans (zv_wi w40 rfl))
                have y88 : zv_i h80 45 = v36 := ((zv_wi w81 rfl).trans e41)
                have y89 : zv_i h80 44 = zv_i h2 44 := ((zv_wi w81 rfl).trans (zv_wi w40 rfl))
                have y90 : zv_i h80 14 = zv_i h2 14 := ((zv_wi w81 rfl).trans (zv_wi w40 rfl))
                have y91 : zv_i h80 49 = zv_i h2 49 := ((zv_wi w81 rfl).trans (zv_wi w40 rfl))
                have y92 : zv_i h80 41 = zv_i h2 41 := ((zv_wi w81 rfl).trans (zv_wi w40 rfl))
                have y93 : zv_i h80 1 = zv_i h 1 := ((zv_wi w81 rfl).trans ((zv_wi w40 rfl).trans (zv_wi hw rfl)))
                exact zr_ir (x := zv_i h2 43) (pc := 260) rfl rfl rfl ⟨ih80, (((hw.wd rfl : zb_W [(44, 0), (44, 44), (44, 45), (44, 46), (44, 48), (44, 47), (70, 0), (44, 26), (44, 25), (61, 0), (69, 0), (44, 50), (44, 14), (44, 42), (44, 43), (44, 49), (44, 41), (44, 38), (71, 0), (72, 0)] h _).tr (w40.wd rfl)).tr (w81.wd rfl)), _, rfl, by dsimp only; rcases al with z | z; (have vE := z.1; have tt : zv_i h80 45 = zf_tK (zf_of h2 p) ∧ zv_l h80 46 = zf_tN (zf_of h2 p) := (by skip; first | (have t0 := zf_t3 (h := h2) (p := p) (show zv_i h2 43 = 0 ∧ 0 < zv_i h2 25 by omega) (by omega); rw [t0.1, t0.2]; exact ⟨by omega, (e82).trans (by first | rfl | (congr 1; omega))⟩) | (have t0 := zf_t1 (h := h2) (p := p) (show zv_i h2 43 = 0 ∧ 0 < zv_i h2 25 by omega) (by omega); rw [t0.1, t0.2]; exact ⟨by omega, (e82).trans (by first | rfl | (congr 1; omega))⟩) | (have t0 := zf_t6 (h := h2) (p := p) (show zv_i h2 43 = 0 ∧ 0 < zv_i h2 25 by omega) (by omega); rw [t0.1, t0.2]; exact ⟨by omega, (e82).trans (by first | rfl | (congr 2; congr 1; omega))⟩) | (have t0 := zf_tr (h := h2) (p := p) (show zv_i h2 43 = 0 ∧ 0 < zv_i h2 25 by omega) (by omega) (by omega) (by omega); rw [t0.1, t0.2]; exact ⟨by omega, e82⟩)); exact Or.inr (Or.inr (Or.inr ⟨by omega, by omega, by omega, by omega, v0, v, q9, b0, (by rw [zv_wi ((w40.wd rfl : zb_W [(44, 45), (44, 46)] h2 _).tr (w81.wd rfl)) (k := 48) rfl]; exact go), by omega, by rw [vE]; show _ = zv_i h2 14; exact zv_wi ((w40.wd rfl : zb_W [(44, 45), (44, 46)] h2 _).tr (w81.wd rfl)) rfl, by rw [vE]; show _ = zv_i h2 49; exact zv_wi ((w40.wd rfl : zb_W [(44, 45), (44, 46)] h2 _).tr (w81.wd rfl)) rfl, by rw [vE]; show _ = zv_i h2 41; exact zv_wi ((w40.wd rfl : zb_W [(44, 45), (44, 46)] h2 _).tr (w81.wd rfl)) rfl, Or.inl ⟨by rw [vE]; show zv_i h2 42 = 1; omega, by rw [vE]; show _ = zv_i h2 43; omega, fun y => (zv_wi ((w40.wd rfl : zb_W [(44, 45), (44, 46)] h2 _).tr (w81.wd rfl)) rfl).trans (z.2 (by rw [zv_wi ((w40.wd rfl : zb_W [(44, 45), (44, 46)] h2 _).tr (w81.wd rfl)) (k := 48) rfl] at y; exact y)), by rw [vE]; exact tt.1, by rw [vE]; exact tt.2⟩⟩))); (exfalso; omega)⟩
          · refine zx_T.s (i := .iconst 1) (k := 1) (st' := [.int (zI (1))]) (pc := 167) rfl rfl ?_
            refine zx_T.j (i := .goto 4) (k := 3) (pc' := 172) (st' := [.int (zI (1))]) (pc := 168) rfl rfl rfl rfl rfl ?_
            refine zx_T.t (i := .istore_n 3) (k := 1) (ls' := [(3, .int (zI (1))), (0, .ref 44), (1, .int (zI (m))), (2, .int (zI (p)))]) (st' := []) (pc := 172) rfl rfl rfl rfl ?_
            refine zx_T.l (i := .aload_n 0) (k := 1) (v := .ref 44) (pc := 173) rfl rfl rfl ?_
            refine zx_T.l (i := .iload_n 3) (k := 1) (v := .int (zI (1))) (pc := 174) rfl rfl rfl ?_
            refine zr_i1 (x := 1) (t := 182) (pc := 175) rfl rfl (by omega) (by omega) (fun (c94 : 1 = 0) => absurd c94 (by decide)) (fun _ => ?_)
            refine zx_T.s (i := .iconst 2) (k := 1) (st' := [.int (zI (2)), .ref 44]) (pc := 178) rfl rfl ?_
            refine zx_T.j (i := .goto 7) (k := 3) (pc' := 186) (st' := [.int (zI (2)), .ref 44]) (pc := 179) rfl rfl rfl rfl rfl ?_
            refine zr_pi (k := 45) (lo := (-2147483648)) (hi := 2147483647) (e := 2) (pc := 186) rfl rfl rfl rfl rfl rfl hI2 (by omega) (by omega) (fun h95 ih95 w96 e97 => ?_)
            refine zx_T.l (i := .aload_n 0) (k := 1) (v := .ref 44) (pc := 189) rfl rfl rfl ?_
            refine zr_gr (k := 36) (b := 69) (pc := 190) rfl rfl rfl ih95 ?_
            refine zx_T.s (i := .bipush 8) (k := 2) (st' := [.int (zI (8)), .ref 69]) (pc := 193) rfl rfl ?_
            refine zx_T.l (i := .aload_n 0) (k := 1) (v := .ref 44) (pc := 195) rfl rfl rfl ?_
            refine zr_gi (k := 25) (lo := 0) (hi := 6) (e := zv_i h2 25) (pc := 196) rfl rfl rfl ih95 (zv_wi w96 rfl) (fun g98a g98b => ?_)
            refine zr_add (x := 8) (y := zv_i h2 25) (e := zv_i h2 25 + 8) (pc := 199) rfl (by omega) ?_
            refine zx_T.l (i := .iload_n 3) (k := 1) (v := .int (zI (1))) (pc := 200) rfl rfl rfl ?_
            refine zr_i1 (x := 1) (t := 208) (pc := 201) rfl rfl (by omega) (by omega) (fun (c99 : 1 = 0) => absurd c99 (by decide)) (fun _ => ?_)
            refine zx_T.s (i := .iconst 2) (k := 1) (st' := [.int (zI (2)), .int (zI (zv_i h2 25 + 8)), .ref 69]) (pc := 204) rfl rfl ?_
            refine zx_T.j (i := .goto 4) (k := 3) (pc' := 209) (st' := [.int (zI (2)), .int (zI (zv_i h2 25 + 8)), .ref 69]) (pc := 205) rfl rfl rfl rfl rfl ?_
            refine zr_sub (x := zv_i h2 25 + 8) (y := 2) (e := zv_i h2 25 + 6) (pc := 209) rfl (by omega) ?_
            have g100 := zv_rb (h := h95) 69 (zv_i h2 25 + 6)
            refine zr_ll (n := 14) (e := zv_b h2 69 (zv_i h2 25 + 6)) (pc := 210) rfl rfl rfl ih95 (by omega) (by omega) (zv_wb w96 rfl (zv_i h2 25 + 6)) ?_
            rw [show zv_b h95 69 (zv_i h2 25 + 6) = zv_b h2 69 (zv_i h2 25 + 6) from (zv_wb w96 rfl (zv_i h2 25 + 6))] at g100
            refine zx_T.t (i := .lstore 4) (k := 2) (ls' := [(4, .long (zL (zv_b h2 69 (zv_i h2 25 + 6)))), (3, .int (zI (1))), (0, .ref 44), (1, .int (zI (m))), (2, .int (zI (p)))]) (st' := []) (pc := 211) rfl rfl rfl rfl ?_
            refine zx_T.l (i := .aload_n 0) (k := 1) (v := .ref 44) (pc := 213) rfl rfl rfl ?_
            refine zx_T.l (i := .aload_n 0) (k := 1) (v := .ref 44) (pc := 214) rfl rfl rfl ?_
            refine zr_gi (k := 45) (lo := (-2147483648)) (hi := 2147483647) (e := 2) (pc := 215) rfl rfl rfl ih95 e97 (fun g101a g101b => ?_)
            refine zx_T.s (i := .iconst 1) (k := 1) (st' := [.int (zI (1)), .int (zI (2)), .ref 44]) (pc := 218) rfl rfl ?_
            refine zr_i2 (x := 2) (y := 1) (t := 226) (pc := 219) rfl rfl (by omega) (by omega) (by omega) (by omega) (fun (c102 : 2 = 1) => absurd c102 (by decide)) (fun _ => ?_)
            refine zx_T.l (i := .iload_n 3) (k := 1) (v := .int (zI (1))) (pc := 222) rfl rfl rfl ?_
            refine zr_i1 (x := 1) (t := 231) (pc := 223) rfl rfl (by omega) (by omega) (fun (c103 : 1 = 0) => absurd c103 (by decide)) (fun _ => ?_)
            refine zx_T.l (i := .lload 4) (k := 2) (v := .long (zL (zv_b h2 69 (zv_i h2 25 + 6)))) (pc := 226) rfl rfl rfl ?_
            refine zx_T.j (i := .goto 25) (k := 3) (pc' := 253) (st' := [.long (zL (zv_b h2 69 (zv_i h2 25 + 6))), .ref 44]) (pc := 228) rfl rfl rfl rfl rfl ?_
            refine zr_pl2 (k := 46) (e := zv_b h2 69 (zv_i h2 25 + 6)) (pc := 253) rfl rfl rfl rfl ih95 (by omega) (by omega) (fun h104 ih104 w105 e106 => ?_)
            refine zx_T.l (i := .aload_n 0) (k := 1) (v := .ref 44) (pc := 256) rfl rfl rfl ?_
            refine zr_gi (k := 43) (lo := (-2147483648)) (hi := 2147483647) (e := zv_i h2 43) (pc := 257) rfl rfl rfl ih104 ((zv_wi w105 rfl).trans (zv_wi w96 rfl)) (fun g107a g107b => ?_)
            have y108 : zv_i h104 42 = zv_i h2 42 := ((zv_wi w105 rfl).trans (zv_wi w96 rfl))
            have y109 : zv_i h104 43 = zv_i h2 43 := ((zv_wi w105 rfl).trans (zv_wi w96 rfl))
            have y110 : zv_i h104 48 = zv_i h2 48 := ((zv_wi w105 rfl).trans (zv_wi w96 rfl))
            have y111 : zv_i h104 47 = zv_i h2 47 := ((zv_wi w105 rfl).trans (zv_wi w96 rfl))
            have y112 : zv_i h104 45 = 2 := ((zv_wi w105 rfl).trans e97)
            have y113 : zv_i h104 44 = zv_i h2 44 := ((zv_wi w105 rfl).trans (zv_wi w96 rfl))
            have y114 : zv_i h104 14 = zv_i h2 14 := ((zv_wi w105 rfl).trans (zv_wi w96 rfl))
            have y115 : zv_i h104 49 = zv_i h2 49 := ((zv_wi w105 rfl).trans (zv_wi w96 rfl))
            have y116 : zv_i h104 41 = zv_i h2 41 := ((zv_wi w105 rfl).trans (zv_wi w96 rfl))
            have y117 : zv_i h104 1 = zv_i h 1 := ((zv_wi w105 rfl).trans ((zv_wi w96 rfl).trans (zv_wi hw rfl)))
            exact zr_ir (x := zv_i h2 43) (pc := 260) rfl rfl rfl ⟨ih104, (((hw.wd rfl : zb_W [(44, 0), (44, 44), (44, 45), (44, 46), (44, 48), (44, 47), (70, 0), (44, 26), (44, 25), (61, 0), (69, 0), (44, 50), (44, 14), (44, 42), (44, 43), (44, 49), (44, 41), (44, 38), (71, 0), (72, 0)] h _).tr (w96.wd rfl)).tr (w105.wd rfl)), _, rfl, by dsimp only; rcases al with z | z; (have vE := z.1; have tt : zv_i h104 45 = zf_tK (zf_of h2 p) ∧ zv_l h104 46 = zf_tN (zf_of h2 p) := (by skip; first | (have t0 := zf_t3 (h := h2) (p := p) (show zv_i h2 43 = 0 ∧ 0 < zv_i h2 25 by omega) (by omega); rw [t0.1, t0.2]; exact ⟨by omega, (e106).trans (by first | rfl | (congr 1; omega))⟩) | (have t0 := zf_t1 (h := h2) (p := p) (show zv_i h2 43 = 0 ∧ 0 < zv_i h2 25 by omega) (by omega); rw [t0.1, t0.2]; exact ⟨by omega, (e106).trans (by first | rfl | (congr 1; omega))⟩) | (have t0 := zf_t6 (h := h2) (p := p) (show zv_i h2 43 = 0 ∧ 0 < zv_i h2 25 by omega) (by omega); rw [t0.1, t0.2]; exact ⟨by omega, (e106).trans (by first | rfl | (congr 2; congr 1; omega))⟩) | (have t0 := zf_tr (h := h2) (p := p) (show zv_i h2 43 = 0 ∧ 0 < zv_i h2 25 by omega) (by omega) (by omega) (by omega); rw [t0.1, t0.2]; exact ⟨by omega, e106⟩)); exact Or.inr (Or.inr (Or.inr ⟨by omega, by omega, by omega, by omega, v0, v, q9, b0, (by rw [zv_wi ((w96.wd rfl : zb_W [(44, 45), (44, 46)] h2 _).tr (w105.wd rfl)) (k := 48) rfl]; exact go), by omega, by rw [vE]; show _ = zv_i h2 14; exact zv_wi ((w96.wd rfl : zb_W [(44, 45), (44, 46)] h2 _).tr (w105.wd rfl)) rfl, by rw [vE]; show _ = zv_i h2 49; exact zv_wi ((w96.wd rfl : zb_W [(44, 45), (44, 46)] h2 _).tr (w105.wd rfl)) rfl, by rw [vE]; show _ = zv_i h2 41; exact zv_wi ((w96.wd rfl : zb_W [(44, 45), (44, 46)] h2 _).tr (w105.wd rfl)) rfl, Or.inl ⟨by rw [vE]; show zv_i h2 42 = 1; omega, by rw [vE]; show _ = zv_i h2 43; omega, fun y => (zv_wi ((w96.wd rfl : zb_W [(44, 45), (44, 46)] h2 _).tr (w105.wd rfl)) rfl).trans (z.2 (by rw [zv_wi ((w96.wd rfl : zb_W [(44, 45), (44, 46)] h2 _).tr (w105.wd rfl)) (k := 48) rfl] at y; exact y)), by rw [vE]; exact tt.1, by rw [vE]; exact tt.2⟩⟩))); (exfalso; omega)⟩
    · have vE : v = zf_of h2 p := by rcases al with z | z; exact z.1; omega
      refine zx_T.l (i := .aload_n 0) (k := 1) (v := .ref 44) (pc := 101) rfl rfl rfl ?_
      refine zx_T.l (i := .iload_n 2) (k := 1) (v := .int (zI (p))) (pc := 102) rfl rfl rfl ?_
      refine zr_pi (k := 47) (lo := (-2147483648)) (hi := 2147483647) (e := p) (pc := 103) rfl rfl rfl rfl rfl rfl hI2 (by omega) (by omega) (fun h118 ih118 w119 e120 => ?_)
      refine zx_T.l (i := .aload_n 0) (k := 1) (v := .ref 44) (pc := 106) rfl rfl rfl ?_
      refine zr_gi (k := 48) (lo := (-2147483648)) (hi := 2147483647) (e := zv_i h2 48) (pc := 107) rfl rfl rfl ih118 (zv_wi w119 rfl) (fun g121a g121b => ?_)
      refine zx_T.l (i := .iload_n 1) (k := 1) (v := .int (zI (m))) (pc := 110) rfl rfl rfl ?_
      refine zr_i2 (x := zv_i h2 48) (y := m) (t := 122) (pc := 111) rfl rfl (by omega) (by omega) (by omega) (by omega) (fun (c122 : ¬ (zv_i h2 48) = m) => ?_) (fun (c122 : ¬ (¬ (zv_i h2 48) = m)) => ?_)
      · refine zx_T.l (i := .aload_n 0) (k := 1) (v := .ref 44) (pc := 122) rfl rfl rfl ?_
        refine zx_T.s (i := .dup) (k := 1) (st' := [.ref 44, .ref 44]) (pc := 123) rfl rfl ?_
        refine zr_gi (k := 48) (lo := (-2147483648)) (hi := 2147483647) (e := zv_i h2 48) (pc := 124) rfl rfl rfl ih118 (zv_wi w119 rfl) (fun g123a g123b => ?_)
        refine zx_T.s (i := .iconst 1) (k := 1) (st' := [.int (zI (1)), .int (zI (zv_i h2 48)), .ref 44]) (pc := 127) rfl rfl ?_
        refine zr_add (x := zv_i h2 48) (y := 1) (e := zv_i h2 48 + 1) (pc := 128) rfl (by omega) ?_
        refine zr_pi (k := 48) (lo := (-2147483648)) (hi := 2147483647) (e := zv_i h2 48 + 1) (pc := 129) rfl rfl rfl rfl rfl rfl ih118 (by omega) (by omega) (fun h124 ih124 w125 e126 => ?_)
        refine zx_T.l (i := .aload_n 0) (k := 1) (v := .ref 44) (pc := 132) rfl rfl rfl ?_
        refine zx_T.l (i := .iload_n 2) (k := 1) (v := .int (zI (p))) (pc := 133) rfl rfl rfl ?_
        have y127 : zv_i h124 38 = zv_i h2 38 := ((zv_wi w125 rfl).trans (zv_wi w119 rfl))
        have y128 : zv_i h124 41 = zv_i h2 41 := ((zv_wi w125 rfl).trans (zv_wi w119 rfl))
        have y129 : zv_i h124 42 = zv_i h2 42 := ((zv_wi w125 rfl).trans (zv_wi w119 rfl))
        have y130 : zv_a h124 61 8 = zv_a h2 61 8 := ((zv_wa w125 rfl 8).trans (zv_wa w119 rfl 8))
        have y131 : zv_i h124 1 = zv_i h 1 := ((zv_wi w125 rfl).trans ((zv_wi w119 rfl).trans (zv_wi hw rfl)))
        refine zr_iv (cj := 216) (q' := zp_m216) (As := [.int (zI (p))]) (rest := []) (pc := 134) rfl rfl rfl rfl rfl rfl (Nat.le_of_ble_eq_true rfl) rfl (Nat.le_of_ble_eq_true rfl) ih124 ((zm_stepB (h := h124) ih124 (p := p) (by omega) (by omega) (hc.w (((hw.wd rfl : zb_W [(44, 0), (44, 44), (44, 45), (44, 46), (44, 48), (44, 47), (70, 0), (44, 26), (44, 25), (61, 0), (69, 0), (44, 50), (44, 14), (44, 42), (44, 43), (44, 49), (44, 41), (44, 38), (71, 0), (72, 0)] h _).tr (w119.wd rfl)).tr (w125.wd rfl)) rfl rfl) ((pi (Or.inl (by omega))).w ((w119.wd rfl : zb_W [(44, 47), (44, 48)] h2 _).tr (w125.wd rfl)) rfl) (by omega) (by omega) (by omega) (by omega) (by omega)).up (Nat.le_of_ble_eq_true rfl)) ?_
        rintro r132 h135 ⟨ih135, w136, r132q, x134⟩
        subst r132q
        try dsimp only at x134
        have se := x134.1
        have se2 := se.2
        have sX := x134.2
        show zx_T zp_P 8 zp_m217 137 [(0, .ref 44), (1, .int (zI (m))), (2, .int (zI (p)))] [] h135 _
        refine zx_T.l (i := .aload_n 0) (k := 1) (v := .ref 44) (pc := 137) rfl rfl rfl ?_
        refine zr_gi (k := 50) (lo := (-1)) (hi := 59) (e := zv_i h135 50) (pc := 138) rfl rfl rfl ih135 rfl (fun g137a g137b => ?_)
        refine zx_T.t (i := .istore_n 2) (k := 1) (ls' := [(2, .int (zI (zv_i h135 50))), (0, .ref 44), (1, .int (zI (m)))]) (st' := []) (pc := 141) rfl rfl rfl rfl ?_
        refine zx_T.j (i := .goto (-48)) (k := 3) (pc' := 94) (st' := []) (pc := 142) rfl rfl rfl rfl rfl ?_
        have y139 : zv_i h135 48 = zv_i h2 48 + 1 := ((zv_wi w136 rfl).trans e126)
        have y145 : zv_i h135 45 = zv_i h2 45 := ((zv_wi w136 rfl).trans ((zv_wi w125 rfl).trans (zv_wi w119 rfl)))
        have y146 : zv_i h135 44 = zv_i h2 44 := ((zv_wi w136 rfl).trans ((zv_wi w125 rfl).trans (zv_wi w119 rfl)))
        have y149 : zv_i h135 47 = p := ((zv_wi w136 rfl).trans ((zv_wi w125 rfl).trans e120))
        refine zx_T.lk (ls' := [(0, .ref 44), (1, .int (zI (m))), (2, .int (zI (zv_i h135 50)))]) rfl ⟨rfl, rfl, rfl, trivial⟩ ?_
        exact ih (h2 := h135) (p := zv_i h135 50) ih135 (by omega) (by omega) (by omega) (by omega) ((((hw.wd rfl : zb_W [(44, 0), (44, 44), (44, 45), (44, 46), (44, 48), (44, 47), (70, 0), (44, 26), (44, 25), (61, 0), (69, 0), (44, 50), (44, 14), (44, 42), (44, 43), (44, 49), (44, 41), (44, 38), (71, 0), (72, 0)] h _).tr (w119.wd rfl)).tr (w125.wd rfl)).tr (w136.wd rfl)) (by omega) (by omega) (by omega) se.1 (by omega) (by omega) (by omega) (by omega) v0 (zf_of h135 (zv_i h135 50)) p b0 (by rw [show zv_i h135 48 = zv_i h2 48 + 1 from ((zv_wi w136 rfl).trans e126)]; refine zk_gl.s go (by rw [vE]; show zv_i h2 42 = 0; omega) (by rw [vE]; have z := sX; rw [zf_of_w ((w119.wd rfl : zb_W [(44, 47), (44, 48)] h2 _).tr (w125.wd rfl)) rfl, zr_Pg_g ((((hw.wd rfl : zb_W [(44, 0), (44, 44), (44, 45), (44, 46), (44, 48), (44, 47), (70, 0), (44, 26), (44, 25), (61, 0), (69, 0), (44, 50), (44, 14), (44, 42), (44, 43), (44, 49), (44, 41), (44, 38), (71, 0), (72, 0)] h _).tr (w119.wd rfl)).tr (w125.wd rfl))) rfl] at z; exact z) (by rw [vE]; rfl)) (Or.inl ⟨rfl, fun _ => ((zv_wi w136 rfl).trans ((zv_wi w125 rfl).trans e120))⟩) ⟨by omega, (zv_wl (((w119.wd rfl : zb_W [(44, 0), (44, 44), (44, 45), (44, 48), (44, 47), (70, 0), (44, 26), (44, 25), (61, 0), (69, 0), (44, 50), (44, 14), (44, 42), (44, 43), (44, 49), (44, 41), (44, 38), (71, 0), (72, 0)] h2 _).tr (w125.wd rfl)).tr (w136.wd rfl)) rfl).trans tk.2.1, by omega⟩ (by omega)
      · refine zx_T.l (i := .aload_n 0) (k := 1) (v := .ref 44) (pc := 114) rfl rfl rfl ?_
        refine zx_T.s (i := .iconst 2) (k := 1) (st' := [.int (zI (2)), .ref 44]) (pc := 115) rfl rfl ?_
        refine zr_iv (cj := 207) (q' := zp_m207) (As := [.int (zI (2))]) (rest := []) (pc := 116) rfl rfl rfl rfl rfl rfl (Nat.le_of_ble_eq_true rfl) rfl (Nat.le_of_ble_eq_true rfl) ih118 ((zm_over (h := h118) ih118 (w := 2) (by omega) (by omega)).up (Nat.le_of_ble_eq_true rfl)) ?_
        rintro r150 h153 ⟨ih153, w154, r150q, x152⟩
        subst r150q
        try dsimp only at x152
        show zx_T zp_P 8 zp_m217 119 [(0, .ref 44), (1, .int (zI (m))), (2, .int (zI (p)))] [] h153 _
        refine zx_T.j (i := .goto (-25)) (k := 3) (pc' := 94) (st' := []) (pc := 119) rfl rfl rfl rfl rfl ?_
        have y156 : zv_i h153 48 = zv_i h2 48 := ((zv_wi w154 rfl).trans (zv_wi w119 rfl))
        have y157 : zv_i h153 38 = zv_i h2 38 := ((zv_wi w154 rfl).trans (zv_wi w119 rfl))
        have y158 : zv_i h153 41 = zv_i h2 41 := ((zv_wi w154 rfl).trans (zv_wi w119 rfl))
        have y159 : zv_a h153 61 8 = zv_a h2 61 8 := ((zv_wa w154 rfl 8).trans (zv_wa w119 rfl 8))
        have y161 : zv_i h153 50 = zv_i h2 50 := ((zv_wi w154 rfl).trans (zv_wi w119 rfl))
        have y162 : zv_i h153 45 = zv_i h2 45 := ((zv_wi w154 rfl).trans (zv_wi w119 rfl))
        have y163 : zv_i h153 44 = zv_i h2 44 := ((zv_wi w154 rfl).trans (zv_wi w119 rfl))
        have y164 : zv_i h153 14 = zv_i h2 14 := ((zv_wi w154 rfl).trans (zv_wi w119 rfl))
        have y165 : zv_i h153 49 = zv_i h2 49 := ((zv_wi w154 rfl).trans (zv_wi w119 rfl))
        have y166 : zv_i h153 47 = p := ((zv_wi w154 rfl).trans e120)
        refine zx_T.lk (ls' := [(0, .ref 44), (1, .int (zI (m))), (2, .int (zI (p)))]) rfl ⟨rfl, rfl, rfl, trivial⟩ ?_
        exact ih (h2 := h153) (p := p) ih153 (by omega) (by omega) (by omega) (by omega) (((hw.wd rfl : zb_W [(44, 0), (44, 44), (44, 45), (44, 46), (44, 48), (44, 47), (70, 0), (44, 26), (44, 25), (61, 0), (69, 0), (44, 50), (44, 14), (44, 42), (44, 43), (44, 49), (44, 41), (44, 38), (71, 0), (72, 0)] h _).tr (w119.wd rfl)).tr (w154.wd rfl)) (by omega) (by omega) (by omega) (fun z => absurd z (by omega)) (by omega) (by omega) (by omega) (by omega) v0 v q9 b0 (by rw [show zv_i h153 48 = zv_i h2 48 from ((zv_wi w154 rfl).trans (zv_wi w119 rfl))]; exact go) (Or.inr ⟨by omega, by omega, by omega, by rw [vE]; show zv_i h2 42 = 0; omega, by rw [vE]; show _ = p; omega, by rw [vE]; show _ = zv_i h2 14; omega, by rw [vE]; show _ = zv_i h2 49; omega, by rw [vE]; show _ = zv_i h2 41; omega⟩) ⟨by omega, (zv_wl ((w119.wd rfl : zb_W [(44, 0), (44, 44), (44, 45), (44, 48), (44, 47), (70, 0), (44, 26), (44, 25), (61, 0), (69, 0), (44, 50), (44, 14), (44, 42), (44, 43), (44, 49), (44, 41), (44, 38), (71, 0), (72, 0)] h2 _).tr (w154.wd rfl)) rfl).trans tk.2.1, by omega⟩ (by omega)
set_option maxRecDepth 100000 in
set_option maxHeartbeats 16000000 in
theorem zm_runX {h : zx_H} (hI : zb_I zc_H h) {m : Int} (m1 : -2147483648 ≤ m) (m2 : m ≤ 2147483647) (hc : zg_CI h) (r8 : 0 ≤ zv_i h 41) : zx_T zp_P 8 zp_m217 0 [(0, .ref 44), (1, .int (zI (m)))] [] h (zr_R [(44, 0), (44, 44), (44, 45), (44, 46), (44, 48), (44, 47), (70, 0), (44, 26), (44, 25), (61, 0), (69, 0), (44, 50), (44, 14), (44, 42), (44, 43), (44, 49), (44, 41), (44, 38), (71, 0), (72, 0)] h (fun e h' => ((m < 0 ∨ 300 < m) ∧ e = -2 ∧ zb_W [(44, 0)] h h') ∨ ((0 ≤ m ∧ m ≤ 300) ∧ 1000 ≤ zv_i h 41 ∧ e = -4 ∧ zb_W [(44, 0)] h h') ∨ ((0 ≤ m ∧ m ≤ 300) ∧ zv_i h 41 < 1000 ∧ zv_i h 1 = 0 ∧ e = -9 ∧ zv_i h' 14 = 6 ∧ zv_i h' 44 = 1 ∧ zv_i h' 45 = -1 ∧ zv_l h' 46 = 0 ∧ zv_i h' 48 = 0 ∧ zv_i h' 49 = 0 ∧ zv_i h' 47 = -1 ∧ zv_i h' 41 = zv_i h 41) ∨ ((0 ≤ m ∧ m ≤ 300) ∧ zv_i h 41 < 1000 ∧ 0 < zv_i h 1 ∧ zv_i h' 44 = 1 ∧ ∃ v0 v q, zf_bf h v0 ∧ zk_gl (zf_st (zr_Pg h)) v0 v (zv_i h' 48) q ∧ zv_i h' 48 ≤ m ∧ zv_i h' 14 = v.f ∧ zv_i h' 49 = v.c ∧ zv_i h' 41 = v.r ∧ ((v.e = 1 ∧ e = v.o ∧ (1 ≤ zv_i h' 48 → zv_i h' 47 = q) ∧ zv_i h' 45 = zf_tK v ∧ zv_l h' 46 = zf_tN v) ∨ (v.e = 0 ∧ zv_i h' 48 = m ∧ e = 2 ∧ zv_i h' 47 = v.p ∧ zv_i h' 45 = -1 ∧ zv_l h' 46 = 0))))) := by
  have hC := zv_ri hI (k := 1) rfl
  refine zx_T.l (i := .aload_n 0) (k := 1) (v := .ref 44) (pc := 0) rfl rfl rfl ?_
  refine zx_T.s (i := .iconst 0) (k := 1) (st' := [.int (zI (0)), .ref 44]) (pc := 1) rfl rfl ?_
  refine zr_pi (k := 0) (lo := (-2147483648)) (hi := 2147483647) (e := 0) (pc := 2) rfl rfl rfl rfl rfl rfl hI (by omega) (by omega) (fun h167 ih167 w168 e169 => ?_)
  refine zx_T.l (i := .iload_n 1) (k := 1) (v := .int (zI (m))) (pc := 5) rfl rfl rfl ?_
  refine zx_T.s (i := .iconst 0) (k := 1) (st' := [.int (zI (0)), .int (zI (m))]) (pc := 6) rfl rfl ?_
  refine zx_T.s (i := .sipush 300) (k := 3) (st' := [.int (zI (300)), .int (zI (0)), .int (zI (m))]) (pc := 7) rfl rfl ?_
  refine zr_is (cj := 155) (q' := zp_m155) (As := [.int (zI (m)), .int (zI (0)), .int (zI (300))]) (rest := []) (pc := 10) rfl rfl rfl rfl rfl rfl (Nat.le_of_ble_eq_true rfl) rfl (Nat.le_of_ble_eq_true rfl) rfl ((zm_in (h := h167) ih167 (v := m) (l := 0) (u := 300) (by omega) (by omega) (by omega) (by omega) (by omega) (by omega)).up (Nat.le_of_ble_eq_true rfl)) ?_
  rintro r170 h173 ⟨h173q, v171, r170q, x172⟩
  subst h173q r170q
  try dsimp only at x172
  show zx_T zp_P 8 zp_m217 13 [(0, .ref 44), (1, .int (zI (m)))] [.int (zI (v171))] h167 _
  refine zr_i1 (x := v171) (t := 19) (pc := 13) rfl rfl (by omega) (by omega) (fun (c174 : ¬ v171 = 0) => ?_) (fun (c174 : ¬ (¬ v171 = 0)) => ?_)
  · refine zx_T.l (i := .aload_n 0) (k := 1) (v := .ref 44) (pc := 19) rfl rfl rfl ?_
    refine zr_gi (k := 41) (lo := (-2147483648)) (hi := 2147483647) (e := zv_i h 41) (pc := 20) rfl rfl rfl ih167 (zv_wi w168 rfl) (fun g175a g175b => ?_)
    refine zx_T.s (i := .sipush 1000) (k := 3) (st' := [.int (zI (1000)), .int (zI (zv_i h 41))]) (pc := 23) rfl rfl ?_
    refine zr_i2 (x := zv_i h 41) (y := 1000) (t := 32) (pc := 26) rfl rfl (by omega) (by omega) (by omega) (by omega) (fun (c176 : (zv_i h 41) < 1000) => ?_) (fun (c176 : ¬ ((zv_i h 41) < 1000)) => ?_)
    · refine zx_T.l (i := .aload_n 0) (k := 1) (v := .ref 44) (pc := 32) rfl rfl rfl ?_
      refine zx_T.s (i := .iconst 1) (k := 1) (st' := [.int (zI (1)), .ref 44]) (pc := 33) rfl rfl ?_
      refine zr_pi (k := 44) (lo := 0) (hi := 1) (e := 1) (pc := 34) rfl rfl rfl rfl rfl rfl ih167 (by omega) (by omega) (fun h177 ih177 w178 e179 => ?_)
      refine zx_T.l (i := .aload_n 0) (k := 1) (v := .ref 44) (pc := 37) rfl rfl rfl ?_
      refine zx_T.s (i := .iconst 0) (k := 1) (st' := [.int (zI (0)), .ref 44]) (pc := 38) rfl rfl ?_
      refine zr_pi (k := 14) (lo := (-2147483648)) (hi := 2147483647) (e := 0) (pc := 39) rfl rfl rfl rfl rfl rfl ih177 (by omega) (by omega) (fun h180 ih180 w181 e182 => ?_)
      refine zx_T.l (i := .aload_n 0) (k := 1) (v := .ref 44) (pc := 42) rfl rfl rfl ?_
      refine zx_T.s (i := .iconst (-1)) (k := 1) (st' := [.int (zI ((-1))), .ref 44]) (pc := 43) rfl rfl ?_
      refine zr_pi (k := 45) (lo := (-2147483648)) (hi := 2147483647) (e := (-1)) (pc := 44) rfl rfl rfl rfl rfl rfl ih180 (by omega) (by omega) (fun h183 ih183 w184 e185 => ?_)
      refine zx_T.l (i := .aload_n 0) (k := 1) (v := .ref 44) (pc := 47) rfl rfl rfl ?_
      refine zx_T.s (i := .lconst 0) (k := 1) (st' := [.long (zL (0)), .ref 44]) (pc := 48) rfl rfl ?_
      refine zr_pl2 (k := 46) (e := 0) (pc := 49) rfl rfl rfl rfl ih183 (by omega) (by omega) (fun h186 ih186 w187 e188 => ?_)
      refine zx_T.l (i := .aload_n 0) (k := 1) (v := .ref 44) (pc := 52) rfl rfl rfl ?_
      refine zx_T.s (i := .iconst 0) (k := 1) (st' := [.int (zI (0)), .ref 44]) (pc := 53) rfl rfl ?_
      refine zr_pi (k := 48) (lo := (-2147483648)) (hi := 2147483647) (e := 0) (pc := 54) rfl rfl rfl rfl rfl rfl ih186 (by omega) (by omega) (fun h189 ih189 w190 e191 => ?_)
      refine zx_T.l (i := .aload_n 0) (k := 1) (v := .ref 44) (pc := 57) rfl rfl rfl ?_
      refine zx_T.s (i := .iconst 0) (k := 1) (st' := [.int (zI (0)), .ref 44]) (pc := 58) rfl rfl ?_
      refine zr_pi (k := 49) (lo := (-2147483648)) (hi := 2147483647) (e := 0) (pc := 59) rfl rfl rfl rfl rfl rfl ih189 (by omega) (by omega) (fun h192 ih192 w193 e194 => ?_)
      refine zx_T.l (i := .aload_n 0) (k := 1) (v := .ref 44) (pc := 62) rfl rfl rfl ?_
      refine zx_T.s (i := .iconst (-1)) (k := 1) (st' := [.int (zI ((-1))), .ref 44]) (pc := 63) rfl rfl ?_
      refine zr_pi (k := 47) (lo := (-2147483648)) (hi := 2147483647) (e := (-1)) (pc := 64) rfl rfl rfl rfl rfl rfl ih192 (by omega) (by omega) (fun h195 ih195 w196 e197 => ?_)
      refine zx_T.l (i := .aload_n 0) (k := 1) (v := .ref 44) (pc := 67) rfl rfl rfl ?_
      refine zr_gi (k := 1) (lo := 0) (hi := 60) (e := zv_i h 1) (pc := 68) rfl rfl rfl ih195 ((zv_wi w196 rfl).trans ((zv_wi w193 rfl).trans ((zv_wi w190 rfl).trans ((zv_wi w187 rfl).trans ((zv_wi w184 rfl).trans ((zv_wi w181 rfl).trans ((zv_wi w178 rfl).trans (zv_wi w168 rfl)))))))) (fun g198a g198b => ?_)
      refine zr_i1 (x := zv_i h 1) (t := 83) (pc := 71) rfl rfl (by omega) (by omega) (fun (c199 : ¬ (zv_i h 1) = 0) => ?_) (fun (c199 : ¬ (¬ (zv_i h 1) = 0)) => ?_)
      · refine zx_T.l (i := .aload_n 0) (k := 1) (v := .ref 44) (pc := 83) rfl rfl rfl ?_
        refine zr_iv (cj := 206) (q' := zp_m206) (As := []) (rest := []) (pc := 84) rfl rfl rfl rfl rfl rfl (Nat.le_of_ble_eq_true rfl) rfl (Nat.le_of_ble_eq_true rfl) ih195 ((zm_fillB (h := h195) ih195  ).up (Nat.le_of_ble_eq_true rfl)) ?_
        rintro r200 h203 ⟨ih203, w204, r200q, x202⟩
        subst r200q
        try dsimp only at x202
        have fi := x202.1
        have fX := x202.2
        show zx_T zp_P 8 zp_m217 87 [(0, .ref 44), (1, .int (zI (m)))] [] h203 _
        refine zx_T.l (i := .aload_n 0) (k := 1) (v := .ref 44) (pc := 87) rfl rfl rfl ?_
        refine zx_T.s (i := .iconst 0) (k := 1) (st' := [.int (zI (0)), .ref 44]) (pc := 88) rfl rfl ?_
        refine zr_pi (k := 42) (lo := 0) (hi := 1) (e := 0) (pc := 89) rfl rfl rfl rfl rfl rfl ih203 (by omega) (by omega) (fun h205 ih205 w206 e207 => ?_)
        refine zx_T.s (i := .iconst 0) (k := 1) (st' := [.int (zI (0))]) (pc := 92) rfl rfl ?_
        refine zx_T.t (i := .istore_n 2) (k := 1) (ls' := [(2, .int (zI (0))), (0, .ref 44), (1, .int (zI (m)))]) (st' := []) (pc := 93) rfl rfl rfl rfl ?_
        have y208 : zv_i h205 42 = 0 := e207
        have y209 : zv_i h205 48 = 0 := ((zv_wi w206 rfl).trans ((zv_wi w204 rfl).trans ((zv_wi w196 rfl).trans ((zv_wi w193 rfl).trans e191))))
        have y210 : zv_i h205 38 = zv_i h203 38 := (zv_wi w206 rfl)
        have y211 : zv_i h205 41 = zv_i h 41 := ((zv_wi w206 rfl).trans ((zv_wi w204 rfl).trans ((zv_wi w196 rfl).trans ((zv_wi w193 rfl).trans ((zv_wi w190 rfl).trans ((zv_wi w187 rfl).trans ((zv_wi w184 rfl).trans ((zv_wi w181 rfl).trans ((zv_wi w178 rfl).trans (zv_wi w168 rfl))))))))))
        have y212 : zv_a h205 61 8 = zv_a h203 61 8 := (zv_wa w206 rfl 8)
        have y213 : zv_i h205 43 = zv_i h 43 := ((zv_wi w206 rfl).trans ((zv_wi w204 rfl).trans ((zv_wi w196 rfl).trans ((zv_wi w193 rfl).trans ((zv_wi w190 rfl).trans ((zv_wi w187 rfl).trans ((zv_wi w184 rfl).trans ((zv_wi w181 rfl).trans ((zv_wi w178 rfl).trans (zv_wi w168 rfl))))))))))
        have y214 : zv_i h205 50 = zv_i h 50 := ((zv_wi w206 rfl).trans ((zv_wi w204 rfl).trans ((zv_wi w196 rfl).trans ((zv_wi w193 rfl).trans ((zv_wi w190 rfl).trans ((zv_wi w187 rfl).trans ((zv_wi w184 rfl).trans ((zv_wi w181 rfl).trans ((zv_wi w178 rfl).trans (zv_wi w168 rfl))))))))))
        have y215 : zv_i h205 45 = (-1) := ((zv_wi w206 rfl).trans ((zv_wi w204 rfl).trans ((zv_wi w196 rfl).trans ((zv_wi w193 rfl).trans ((zv_wi w190 rfl).trans ((zv_wi w187 rfl).trans e185))))))
        have y216 : zv_i h205 44 = 1 := ((zv_wi w206 rfl).trans ((zv_wi w204 rfl).trans ((zv_wi w196 rfl).trans ((zv_wi w193 rfl).trans ((zv_wi w190 rfl).trans ((zv_wi w187 rfl).trans ((zv_wi w184 rfl).trans ((zv_wi w181 rfl).trans e179))))))))
        have y217 : zv_i h205 14 = 0 := ((zv_wi w206 rfl).trans ((zv_wi w204 rfl).trans ((zv_wi w196 rfl).trans ((zv_wi w193 rfl).trans ((zv_wi w190 rfl).trans ((zv_wi w187 rfl).trans ((zv_wi w184 rfl).trans e182)))))))
        have y218 : zv_i h205 49 = 0 := ((zv_wi w206 rfl).trans ((zv_wi w204 rfl).trans ((zv_wi w196 rfl).trans e194)))
        have y219 : zv_i h205 47 = (-1) := ((zv_wi w206 rfl).trans ((zv_wi w204 rfl).trans e197))
        refine zx_T.lk (ls' := [(0, .ref 44), (1, .int (zI (m))), (2, .int (zI (0)))]) rfl ⟨rfl, rfl, rfl, trivial⟩ ?_
        exact zm_runX_L (h := h) hI (m := m) m1 m2 hc r8 ((2 * (m - zv_i h205 48) + 1 - zv_i h205 42 : Int).toNat + 1) (h2 := h205) (p := 0) ih205 (by omega) (by omega) (by omega) (by omega) ((((((((((w168.wd rfl : zb_W [(44, 0), (44, 44), (44, 45), (44, 46), (44, 48), (44, 47), (70, 0), (44, 26), (44, 25), (61, 0), (69, 0), (44, 50), (44, 14), (44, 42), (44, 43), (44, 49), (44, 41), (44, 38), (71, 0), (72, 0)] h _).tr (w178.wd rfl)).tr (w181.wd rfl)).tr (w184.wd rfl)).tr (w187.wd rfl)).tr (w190.wd rfl)).tr (w193.wd rfl)).tr (w196.wd rfl)).tr (w204.wd rfl)).tr (w206.wd rfl)) (by omega) (by omega) (by omega) (fun _ => fi.2.2.1.w w206 rfl) (by omega) (by omega) (by omega) (by omega) (zf_of h205 0) (zf_of h205 0) 0 ⟨by have q := fX; rw [zr_Pg_g (((((((((w168.wd rfl : zb_W [(44, 0), (44, 44), (44, 45), (44, 46), (44, 48), (44, 47), (70, 0), (44, 26), (44, 25), (61, 0), (69, 0), (44, 50), (44, 14), (44, 42), (44, 43), (44, 49), (44, 41), (44, 38), (71, 0), (72, 0)] h _).tr (w178.wd rfl)).tr (w181.wd rfl)).tr (w184.wd rfl)).tr (w187.wd rfl)).tr (w190.wd rfl)).tr (w193.wd rfl)).tr (w196.wd rfl))) rfl, show zv_b h195 53 = zv_b h 53 from funext (fun q => zv_wb ((((((((w168.wd rfl : zb_W [(44, 0), (44, 44), (44, 45), (44, 46), (44, 48), (44, 47), (70, 0), (44, 26), (44, 25), (61, 0), (69, 0), (44, 50), (44, 14), (44, 42), (44, 43), (44, 49), (44, 41), (44, 38), (71, 0), (72, 0)] h _).tr (w178.wd rfl)).tr (w181.wd rfl)).tr (w184.wd rfl)).tr (w187.wd rfl)).tr (w190.wd rfl)).tr (w193.wd rfl)).tr (w196.wd rfl)) rfl q)] at q; exact zf_b0_w w206 rfl q, rfl, (show zv_i h205 42 = 0 from e207), (show zv_i h205 14 = 0 from ((zv_wi w206 rfl).trans ((zv_wi w204 rfl).trans ((zv_wi w196 rfl).trans ((zv_wi w193 rfl).trans ((zv_wi w190 rfl).trans ((zv_wi w187 rfl).trans ((zv_wi w184 rfl).trans e182)))))))), (show zv_i h205 49 = 0 from ((zv_wi w206 rfl).trans ((zv_wi w204 rfl).trans ((zv_wi w196 rfl).trans e194)))), (show zv_i h205 41 = zv_i h 41 from ((zv_wi w206 rfl).trans ((zv_wi w204 rfl).trans ((zv_wi w196 rfl).trans ((zv_wi w193 rfl).trans ((zv_wi w190 rfl).trans ((zv_wi w187 rfl).trans ((zv_wi w184 rfl).trans ((zv_wi w181 rfl).trans ((zv_wi w178 rfl).trans (zv_wi w168 rfl)))))))))))⟩ (by rw [show zv_i h205 48 = 0 from ((zv_wi w206 rfl).trans ((zv_wi w204 rfl).trans ((zv_wi w196 rfl).trans ((zv_wi w193 rfl).trans e191))))]; exact zk_gl.z) (Or.inl ⟨rfl, fun z => by have q : zv_i h205 48 = 0 := ((zv_wi w206 rfl).trans ((zv_wi w204 rfl).trans ((zv_wi w196 rfl).trans ((zv_wi w193 rfl).trans e191)))); omega⟩) ⟨by omega, ((zv_wl w206 rfl).trans ((zv_wl w204 rfl).trans ((zv_wl w196 rfl).trans ((zv_wl w193 rfl).trans ((zv_wl w190 rfl).trans e188))))), by omega⟩ (Nat.lt_succ_self _)
      · refine zx_T.l (i := .aload_n 0) (k := 1) (v := .ref 44) (pc := 74) rfl rfl rfl ?_
        refine zx_T.s (i := .bipush 6) (k := 2) (st' := [.int (zI (6)), .ref 44]) (pc := 75) rfl rfl ?_
        refine zr_pi (k := 14) (lo := (-2147483648)) (hi := 2147483647) (e := 6) (pc := 77) rfl rfl rfl rfl rfl rfl ih195 (by omega) (by omega) (fun h220 ih220 w221 e222 => ?_)
        refine zx_T.s (i := .bipush (-9)) (k := 2) (st' := [.int (zI ((-9)))]) (pc := 80) rfl rfl ?_
        have y223 : zv_i h220 42 = zv_i h 42 := ((zv_wi w221 rfl).trans ((zv_wi w196 rfl).trans ((zv_wi w193 rfl).trans ((zv_wi w190 rfl).trans ((zv_wi w187 rfl).trans ((zv_wi w184 rfl).trans ((zv_wi w181 rfl).trans ((zv_wi w178 rfl).trans (zv_wi w168 rfl)))))))))
        have y224 : zv_i h220 43 = zv_i h 43 := ((zv_wi w221 rfl).trans ((zv_wi w196 rfl).trans ((zv_wi w193 rfl).trans ((zv_wi w190 rfl).trans ((zv_wi w187 rfl).trans ((zv_wi w184 rfl).trans ((zv_wi w181 rfl).trans ((zv_wi w178 rfl).trans (zv_wi w168 rfl)))))))))
        have y225 : zv_i h220 48 = 0 := ((zv_wi w221 rfl).trans ((zv_wi w196 rfl).trans ((zv_wi w193 rfl).trans e191)))
        have y226 : zv_i h220 47 = (-1) := ((zv_wi w221 rfl).trans e197)
        have y227 : zv_i h220 45 = (-1) := ((zv_wi w221 rfl).trans ((zv_wi w196 rfl).trans ((zv_wi w193 rfl).trans ((zv_wi w190 rfl).trans ((zv_wi w187 rfl).trans e185)))))
        have y228 : zv_i h220 44 = 1 := ((zv_wi w221 rfl).trans ((zv_wi w196 rfl).trans ((zv_wi w193 rfl).trans ((zv_wi w190 rfl).trans ((zv_wi w187 rfl).trans ((zv_wi w184 rfl).trans ((zv_wi w181 rfl).trans e179)))))))
        have y229 : zv_i h220 14 = 6 := e222
        have y230 : zv_i h220 49 = 0 := ((zv_wi w221 rfl).trans ((zv_wi w196 rfl).trans e194))
        have y231 : zv_i h220 41 = zv_i h 41 := ((zv_wi w221 rfl).trans ((zv_wi w196 rfl).trans ((zv_wi w193 rfl).trans ((zv_wi w190 rfl).trans ((zv_wi w187 rfl).trans ((zv_wi w184 rfl).trans ((zv_wi w181 rfl).trans ((zv_wi w178 rfl).trans (zv_wi w168 rfl)))))))))
        have y232 : zv_i h220 1 = zv_i h 1 := ((zv_wi w221 rfl).trans ((zv_wi w196 rfl).trans ((zv_wi w193 rfl).trans ((zv_wi w190 rfl).trans ((zv_wi w187 rfl).trans ((zv_wi w184 rfl).trans ((zv_wi w181 rfl).trans ((zv_wi w178 rfl).trans (zv_wi w168 rfl)))))))))
        exact zr_ir (x := (-9)) (pc := 82) rfl rfl rfl ⟨ih220, (((((((((w168.wd rfl : zb_W [(44, 0), (44, 44), (44, 45), (44, 46), (44, 48), (44, 47), (70, 0), (44, 26), (44, 25), (61, 0), (69, 0), (44, 50), (44, 14), (44, 42), (44, 43), (44, 49), (44, 41), (44, 38), (71, 0), (72, 0)] h _).tr (w178.wd rfl)).tr (w181.wd rfl)).tr (w184.wd rfl)).tr (w187.wd rfl)).tr (w190.wd rfl)).tr (w193.wd rfl)).tr (w196.wd rfl)).tr (w221.wd rfl)), _, rfl, by dsimp only; exact Or.inr (Or.inr (Or.inl ⟨by omega, by omega, by omega, rfl, by omega, by omega, by omega, ((zv_wl w221 rfl).trans ((zv_wl w196 rfl).trans ((zv_wl w193 rfl).trans ((zv_wl w190 rfl).trans e188)))), by omega, by omega, by omega, by omega⟩))⟩
    · refine zx_T.s (i := .bipush (-4)) (k := 2) (st' := [.int (zI ((-4)))]) (pc := 29) rfl rfl ?_
      have y233 : zv_i h167 42 = zv_i h 42 := (zv_wi w168 rfl)
      have y234 : zv_i h167 43 = zv_i h 43 := (zv_wi w168 rfl)
      have y235 : zv_i h167 48 = zv_i h 48 := (zv_wi w168 rfl)
      have y236 : zv_i h167 47 = zv_i h 47 := (zv_wi w168 rfl)
      have y237 : zv_i h167 45 = zv_i h 45 := (zv_wi w168 rfl)
      have y238 : zv_i h167 44 = zv_i h 44 := (zv_wi w168 rfl)
      have y239 : zv_i h167 14 = zv_i h 14 := (zv_wi w168 rfl)
      have y240 : zv_i h167 49 = zv_i h 49 := (zv_wi w168 rfl)
      have y241 : zv_i h167 41 = zv_i h 41 := (zv_wi w168 rfl)
      have y242 : zv_i h167 1 = zv_i h 1 := (zv_wi w168 rfl)
      exact zr_ir (x := (-4)) (pc := 31) rfl rfl rfl ⟨ih167, (w168.wd rfl : zb_W [(44, 0), (44, 44), (44, 45), (44, 46), (44, 48), (44, 47), (70, 0), (44, 26), (44, 25), (61, 0), (69, 0), (44, 50), (44, 14), (44, 42), (44, 43), (44, 49), (44, 41), (44, 38), (71, 0), (72, 0)] h _), _, rfl, by dsimp only; exact Or.inr (Or.inl ⟨by omega, by omega, rfl, (w168.wd rfl : zb_W [(44, 0)] h _)⟩)⟩
  · refine zx_T.s (i := .bipush (-2)) (k := 2) (st' := [.int (zI ((-2)))]) (pc := 16) rfl rfl ?_
    have y243 : zv_i h167 42 = zv_i h 42 := (zv_wi w168 rfl)
    have y244 : zv_i h167 43 = zv_i h 43 := (zv_wi w168 rfl)
    have y245 : zv_i h167 48 = zv_i h 48 := (zv_wi w168 rfl)
    have y246 : zv_i h167 47 = zv_i h 47 := (zv_wi w168 rfl)
    have y247 : zv_i h167 45 = zv_i h 45 := (zv_wi w168 rfl)
    have y248 : zv_i h167 44 = zv_i h 44 := (zv_wi w168 rfl)
    have y249 : zv_i h167 14 = zv_i h 14 := (zv_wi w168 rfl)
    have y250 : zv_i h167 49 = zv_i h 49 := (zv_wi w168 rfl)
    have y251 : zv_i h167 41 = zv_i h 41 := (zv_wi w168 rfl)
    have y252 : zv_i h167 1 = zv_i h 1 := (zv_wi w168 rfl)
    exact zr_ir (x := (-2)) (pc := 18) rfl rfl rfl ⟨ih167, (w168.wd rfl : zb_W [(44, 0), (44, 44), (44, 45), (44, 46), (44, 48), (44, 47), (70, 0), (44, 26), (44, 25), (61, 0), (69, 0), (44, 50), (44, 14), (44, 42), (44, 43), (44, 49), (44, 41), (44, 38), (71, 0), (72, 0)] h _), _, rfl, by dsimp only; exact Or.inl ⟨by omega, rfl, (w168.wd rfl : zb_W [(44, 0)] h _)⟩⟩

set_option maxRecDepth 100000 in
set_option maxHeartbeats 4000000 in
theorem zm_toldX {h : zx_H} (hI : zb_I zc_H h) {w : Int} (w1 : -2147483648 ≤ w) (w2 : w ≤ 2147483647) : zx_T zp_P 0 zp_m218 0 [(0, .ref 44), (1, .int (zI (w)))] [] h (zr_G [(44, 0)] h (fun e h' => e = zf_tl (zv_i h 44) (zv_i h 45) (zv_l h 46) (zv_i h 47) (zv_i h 48) (zv_i h 49) w)) := by
  refine zx_T.l (i := .aload_n 0) (k := 1) (v := .ref 44) (pc := 0) rfl rfl rfl ?_
  refine zx_T.s (i := .iconst 0) (k := 1) (st' := [.int (zI (0)), .ref 44]) (pc := 1) rfl rfl ?_
  refine zr_pi (k := 0) (lo := (-2147483648)) (hi := 2147483647) (e := 0) (pc := 2) rfl rfl rfl rfl rfl rfl hI (by omega) (by omega) (fun h1 ih1 w2 e3 => ?_)
  refine zx_T.l (i := .aload_n 0) (k := 1) (v := .ref 44) (pc := 5) rfl rfl rfl ?_
  refine zr_gi (k := 44) (lo := 0) (hi := 1) (e := zv_i h 44) (pc := 6) rfl rfl rfl ih1 (zv_wi w2 rfl) (fun g4a g4b => ?_)
  refine zr_i1 (x := zv_i h 44) (t := 14) (pc := 9) rfl rfl (by omega) (by omega) (fun (c5 : ¬ (zv_i h 44) = 0) => ?_) (fun (c5 : ¬ (¬ (zv_i h 44) = 0)) => ?_)
  · refine zx_T.l (i := .iload_n 1) (k := 1) (v := .int (zI (w))) (pc := 14) rfl rfl rfl ?_
    refine zr_i1 (x := w) (t := 26) (pc := 15) rfl rfl (by omega) (by omega) (fun (c6 : ¬ w = 0) => ?_) (fun (c6 : ¬ (¬ w = 0)) => ?_)
    · refine zx_T.l (i := .iload_n 1) (k := 1) (v := .int (zI (w))) (pc := 26) rfl rfl rfl ?_
      refine zx_T.s (i := .iconst 1) (k := 1) (st' := [.int (zI (1)), .int (zI (w))]) (pc := 27) rfl rfl ?_
      refine zr_i2 (x := w) (y := 1) (t := 38) (pc := 28) rfl rfl (by omega) (by omega) (by omega) (by omega) (fun (c7 : ¬ w = 1) => ?_) (fun (c7 : ¬ (¬ w = 1)) => ?_)
      · refine zx_T.l (i := .iload_n 1) (k := 1) (v := .int (zI (w))) (pc := 38) rfl rfl rfl ?_
        refine zx_T.s (i := .iconst 2) (k := 1) (st' := [.int (zI (2)), .int (zI (w))]) (pc := 39) rfl rfl ?_
        refine zr_i2 (x := w) (y := 2) (t := 51) (pc := 40) rfl rfl (by omega) (by omega) (by omega) (by omega) (fun (c8 : ¬ w = 2) => ?_) (fun (c8 : ¬ (¬ w = 2)) => ?_)
        · refine zx_T.l (i := .iload_n 1) (k := 1) (v := .int (zI (w))) (pc := 51) rfl rfl rfl ?_
          refine zx_T.s (i := .iconst 3) (k := 1) (st' := [.int (zI (3)), .int (zI (w))]) (pc := 52) rfl rfl ?_
          refine zr_i2 (x := w) (y := 3) (t := 64) (pc := 53) rfl rfl (by omega) (by omega) (by omega) (by omega) (fun (c9 : ¬ w = 3) => ?_) (fun (c9 : ¬ (¬ w = 3)) => ?_)
          · refine zx_T.l (i := .iload_n 1) (k := 1) (v := .int (zI (w))) (pc := 64) rfl rfl rfl ?_
            refine zx_T.s (i := .iconst 4) (k := 1) (st' := [.int (zI (4)), .int (zI (w))]) (pc := 65) rfl rfl ?_
            refine zr_i2 (x := w) (y := 4) (t := 77) (pc := 66) rfl rfl (by omega) (by omega) (by omega) (by omega) (fun (c10 : ¬ w = 4) => ?_) (fun (c10 : ¬ (¬ w = 4)) => ?_)
            · refine zx_T.s (i := .lconst 0) (k := 1) (st' := [.long (zL (0))]) (pc := 77) rfl rfl ?_
              exact zr_lr (x := 0) (pc := 78) rfl rfl ⟨ih1, (w2.wd rfl : zb_W [(44, 0)] h _), _, rfl, by dsimp only; unfold zf_tl; first | (rw [if_pos (by omega)]) | (rw [if_neg (by omega)]; first | (rw [if_pos (by omega)]) | (rw [if_neg (by omega)]; first | (rw [if_pos (by omega)]) | (rw [if_neg (by omega)]; first | (rw [if_pos (by omega)]) | (rw [if_neg (by omega)]; first | (rw [if_pos (by omega)]) | (rw [if_neg (by omega)]; first | (rw [if_pos (by omega)]) | (rw [if_neg (by omega)]))))))⟩
            · refine zx_T.l (i := .aload_n 0) (k := 1) (v := .ref 44) (pc := 69) rfl rfl rfl ?_
              refine zr_gi (k := 49) (lo := (-2147483648)) (hi := 2147483647) (e := zv_i h 49) (pc := 70) rfl rfl rfl ih1 (zv_wi w2 rfl) (fun g11a g11b => ?_)
              refine zr_i2l (pc := 73) rfl (by omega) (by omega) ?_
              refine zx_T.j (i := .goto 4) (k := 3) (pc' := 78) (st' := [.long (zL (zv_i h 49))]) (pc := 74) rfl rfl rfl rfl rfl ?_
              exact zr_lr (x := zv_i h 49) (pc := 78) rfl rfl ⟨ih1, (w2.wd rfl : zb_W [(44, 0)] h _), _, rfl, by dsimp only; unfold zf_tl; first | (rw [if_pos (by omega)]) | (rw [if_neg (by omega)]; first | (rw [if_pos (by omega)]) | (rw [if_neg (by omega)]; first | (rw [if_pos (by omega)]) | (rw [if_neg (by omega)]; first | (rw [if_pos (by omega)]) | (rw [if_neg (by omega)]; first | (rw [if_pos (by omega)]) | (rw [if_neg (by omega)]; first | (rw [if_pos (by omega)]) | (rw [if_neg (by omega)]))))))⟩
          · refine zx_T.l (i := .aload_n 0) (k := 1) (v := .ref 44) (pc := 56) rfl rfl rfl ?_
            refine zr_gi (k := 48) (lo := (-2147483648)) (hi := 2147483647) (e := zv_i h 48) (pc := 57) rfl rfl rfl ih1 (zv_wi w2 rfl) (fun g12a g12b => ?_)
            refine zr_i2l (pc := 60) rfl (by omega) (by omega) ?_
            refine zx_T.j (i := .goto 17) (k := 3) (pc' := 78) (st' := [.long (zL (zv_i h 48))]) (pc := 61) rfl rfl rfl rfl rfl ?_
            exact zr_lr (x := zv_i h 48) (pc := 78) rfl rfl ⟨ih1, (w2.wd rfl : zb_W [(44, 0)] h _), _, rfl, by dsimp only; unfold zf_tl; first | (rw [if_pos (by omega)]) | (rw [if_neg (by omega)]; first | (rw [if_pos (by omega)]) | (rw [if_neg (by omega)]; first | (rw [if_pos (by omega)]) | (rw [if_neg (by omega)]; first | (rw [if_pos (by omega)]) | (rw [if_neg (by omega)]; first | (rw [if_pos (by omega)]) | (rw [if_neg (by omega)]; first | (rw [if_pos (by omega)]) | (rw [if_neg (by omega)]))))))⟩
        · refine zx_T.l (i := .aload_n 0) (k := 1) (v := .ref 44) (pc := 43) rfl rfl rfl ?_
          refine zr_gi (k := 47) (lo := (-2147483648)) (hi := 2147483647) (e := zv_i h 47) (pc := 44) rfl rfl rfl ih1 (zv_wi w2 rfl) (fun g13a g13b => ?_)
          refine zr_i2l (pc := 47) rfl (by omega) (by omega) ?_
          refine zx_T.j (i := .goto 30) (k := 3) (pc' := 78) (st' := [.long (zL (zv_i h 47))]) (pc := 48) rfl rfl rfl rfl rfl ?_
          exact zr_lr (x := zv_i h 47) (pc := 78) rfl rfl ⟨ih1, (w2.wd rfl : zb_W [(44, 0)] h _), _, rfl, by dsimp only; unfold zf_tl; first | (rw [if_pos (by omega)]) | (rw [if_neg (by omega)]; first | (rw [if_pos (by omega)]) | (rw [if_neg (by omega)]; first | (rw [if_pos (by omega)]) | (rw [if_neg (by omega)]; first | (rw [if_pos (by omega)]) | (rw [if_neg (by omega)]; first | (rw [if_pos (by omega)]) | (rw [if_neg (by omega)]; first | (rw [if_pos (by omega)]) | (rw [if_neg (by omega)]))))))⟩
      · refine zx_T.l (i := .aload_n 0) (k := 1) (v := .ref 44) (pc := 31) rfl rfl rfl ?_
        refine zr_gl (k := 46) (e := zv_l h 46) (pc := 32) rfl rfl rfl ih1 (zv_wl w2 rfl) ?_
        refine zx_T.j (i := .goto 43) (k := 3) (pc' := 78) (st' := [.long (zL (zv_l h 46))]) (pc := 35) rfl rfl rfl rfl rfl ?_
        exact zr_lr (x := zv_l h 46) (pc := 78) rfl rfl ⟨ih1, (w2.wd rfl : zb_W [(44, 0)] h _), _, rfl, by dsimp only; unfold zf_tl; first | (rw [if_pos (by omega)]) | (rw [if_neg (by omega)]; first | (rw [if_pos (by omega)]) | (rw [if_neg (by omega)]; first | (rw [if_pos (by omega)]) | (rw [if_neg (by omega)]; first | (rw [if_pos (by omega)]) | (rw [if_neg (by omega)]; first | (rw [if_pos (by omega)]) | (rw [if_neg (by omega)]; first | (rw [if_pos (by omega)]) | (rw [if_neg (by omega)]))))))⟩
    · refine zx_T.l (i := .aload_n 0) (k := 1) (v := .ref 44) (pc := 18) rfl rfl rfl ?_
      refine zr_gi (k := 45) (lo := (-2147483648)) (hi := 2147483647) (e := zv_i h 45) (pc := 19) rfl rfl rfl ih1 (zv_wi w2 rfl) (fun g14a g14b => ?_)
      refine zr_i2l (pc := 22) rfl (by omega) (by omega) ?_
      refine zx_T.j (i := .goto 55) (k := 3) (pc' := 78) (st' := [.long (zL (zv_i h 45))]) (pc := 23) rfl rfl rfl rfl rfl ?_
      exact zr_lr (x := zv_i h 45) (pc := 78) rfl rfl ⟨ih1, (w2.wd rfl : zb_W [(44, 0)] h _), _, rfl, by dsimp only; unfold zf_tl; first | (rw [if_pos (by omega)]) | (rw [if_neg (by omega)]; first | (rw [if_pos (by omega)]) | (rw [if_neg (by omega)]; first | (rw [if_pos (by omega)]) | (rw [if_neg (by omega)]; first | (rw [if_pos (by omega)]) | (rw [if_neg (by omega)]; first | (rw [if_pos (by omega)]) | (rw [if_neg (by omega)]; first | (rw [if_pos (by omega)]) | (rw [if_neg (by omega)]))))))⟩
  · refine zx_T.s (i := .lconst 0) (k := 1) (st' := [.long (zL (0))]) (pc := 12) rfl rfl ?_
    exact zr_lr (x := 0) (pc := 13) rfl rfl ⟨ih1, (w2.wd rfl : zb_W [(44, 0)] h _), _, rfl, by dsimp only; unfold zf_tl; first | (rw [if_pos (by omega)]) | (rw [if_neg (by omega)]; first | (rw [if_pos (by omega)]) | (rw [if_neg (by omega)]; first | (rw [if_pos (by omega)]) | (rw [if_neg (by omega)]; first | (rw [if_pos (by omega)]) | (rw [if_neg (by omega)]; first | (rw [if_pos (by omega)]) | (rw [if_neg (by omega)]; first | (rw [if_pos (by omega)]) | (rw [if_neg (by omega)]))))))⟩
