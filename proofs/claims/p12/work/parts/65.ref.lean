/-! ===== 65: the reference, method by method (by program) ===== -/
def zs_pk (c : Int) : Prop := c = 1 ∨ c = 2 ∨ (5 ≤ c ∧ c ≤ 8)
def zs_par (c e P P' : Int) : Prop := (¬ (c = 1 ∨ c = 2 ∨ (5 ≤ c ∧ c ≤ 8)) ∧ e = -2 ∧ P' = P) ∨ ((c = 1 ∨ c = 2 ∨ (5 ≤ c ∧ c ≤ 8)) ∧ (((c = 2 ∧ 8 < P + 2) ∨ (¬ c = 2 ∧ 8 < P + 1)) ∧ e = -4 ∧ P' = P)) ∨ ((c = 1 ∨ c = 2 ∨ (5 ≤ c ∧ c ≤ 8)) ∧ ((c = 2 ∧ P + 2 ≤ 8 ∧ P' = P + 2) ∨ (¬ c = 2 ∧ P + 1 ≤ 8 ∧ P' = P + 1)) ∧ e = P)
theorem zs_par.d {c e e2 P P' P2 : Int} (a : zs_par c e P P') (b : zs_par c e2 P P2) : e = e2 ∧ P' = P2 := by unfold zs_par at a b; omega
def zs_opn (o a e C C' : Int) : Prop := (¬ (0 ≤ o ∧ o ≤ 28 ∧ (o = 21 → 5 ≤ a ∧ a ≤ 8)) ∧ e = -2 ∧ C' = C) ∨ ((0 ≤ o ∧ o ≤ 28 ∧ (o = 21 → 5 ≤ a ∧ a ≤ 8)) ∧ ((60 ≤ C ∧ e = -4 ∧ C' = C) ∨ (C < 60 ∧ e = C ∧ C' = C + 1)))
theorem zs_opn.d {o a e e2 P P' P2 : Int} (x : zs_opn o a e P P') (y : zs_opn o a e2 P P2) : e = e2 ∧ P' = P2 := by unfold zs_opn at x y; omega
def zs_hnd (f t p k e N N' : Int) : Prop := (¬ (0 ≤ f ∧ f ≤ 60 ∧ 0 ≤ t ∧ t ≤ 60 ∧ 0 ≤ p ∧ p ≤ 60 ∧ 7 ≤ k ∧ k ≤ 8) ∧ e = -2 ∧ N' = N) ∨ ((0 ≤ f ∧ f ≤ 60 ∧ 0 ≤ t ∧ t ≤ 60 ∧ 0 ≤ p ∧ p ≤ 60 ∧ 7 ≤ k ∧ k ≤ 8) ∧ ((6 ≤ N ∧ e = -4 ∧ N' = N) ∨ (N < 6 ∧ e = N ∧ N' = N + 1)))
theorem zs_hnd.d {f t p k e e2 P P' P2 : Int} (x : zs_hnd f t p k e P P') (y : zs_hnd f t p k e2 P P2) : e = e2 ∧ P' = P2 := by unfold zs_hnd at x y; omega
def zs_arg (i v e : Int) (A A' : Int → Int) : Prop := (¬ (0 ≤ i ∧ i ≤ 7) ∧ e = -2 ∧ ∀ j, 0 ≤ j → A' j = A j) ∨ ((0 ≤ i ∧ i ≤ 7) ∧ e = A i ∧ ∀ j, 0 ≤ j → A' j = if j = i then (zL v).toInt else A j)
theorem zs_arg.d {i v e e2 : Int} {A A' B B' : Int → Int} (x : zs_arg i v e A A') (y : zs_arg i v e2 B B') (ab : ∀ j, 0 ≤ j → A j = B j) : e = e2 ∧ ∀ j, 0 ≤ j → A' j = B' j := by
  rcases x with ⟨x1, x2, x3⟩ | ⟨x1, x2, x3⟩ <;> rcases y with ⟨y1, y2, y3⟩ | ⟨y1, y2, y3⟩
  · exact ⟨by omega, fun j j0 => by rw [x3 j j0, y3 j j0]; exact ab j j0⟩
  · exact absurd y1 x1
  · exact absurd x1 y1
  · exact ⟨by rw [x2, y2]; exact ab i x1.1, fun j j0 => by rw [x3 j j0, y3 j j0, ab j j0]⟩

set_option maxRecDepth 100000 in
set_option maxHeartbeats 4000000 in
theorem zm_parameter {h : zx_H} (hI : zb_I zc_H h) {c : Int} (c1 : -2147483648 ≤ c) (c2 : c ≤ 2147483647) : zx_T zp_P 1 zp_m196 0 [(0, .ref 44), (1, .int (zI (c)))] [] h (zr_R [(44, 0), (44, 10), (52, 0), (44, 13)] h (fun e h' => zs_par c e (zv_i h 10) (zv_i h' 10) ∧ (zv_i h' 13 = 0 ∨ zv_i h' 13 = zv_i h 13))) := by
  have hP := zv_ri hI (k := 10) rfl
  refine zx_T.l (i := .aload_n 0) (k := 1) (v := .ref 44) (pc := 0) rfl rfl rfl ?_
  refine zx_T.s (i := .iconst 0) (k := 1) (st' := [.int (zI (0)), .ref 44]) (pc := 1) rfl rfl ?_
  refine zr_pi (k := 0) (lo := (-2147483648)) (hi := 2147483647) (e := 0) (pc := 2) rfl rfl rfl rfl rfl rfl hI (by omega) (by omega) (fun h1 ih1 w2 e3 => ?_)
  refine zx_T.l (i := .iload_n 1) (k := 1) (v := .int (zI (c))) (pc := 5) rfl rfl rfl ?_
  refine zx_T.s (i := .iconst 1) (k := 1) (st' := [.int (zI (1)), .int (zI (c))]) (pc := 6) rfl rfl ?_
  refine zr_i2 (x := c) (y := 1) (t := 28) (pc := 7) rfl rfl (by omega) (by omega) (by omega) (by omega) (fun (c4 : c = 1) => ?_) (fun (c4 : ¬ (c = 1)) => ?_)
  · refine zx_T.l (i := .iload_n 1) (k := 1) (v := .int (zI (c))) (pc := 28) rfl rfl rfl ?_
    refine zx_T.s (i := .iconst 2) (k := 1) (st' := [.int (zI (2)), .int (zI (c))]) (pc := 29) rfl rfl ?_
    refine zr_i2 (x := c) (y := 2) (t := 37) (pc := 30) rfl rfl (by omega) (by omega) (by omega) (by omega) (fun (c5 : ¬ c = 2) => ?_) (fun (c5 : ¬ (¬ c = 2)) => False.elim (by omega))
    refine zx_T.s (i := .iconst 1) (k := 1) (st' := [.int (zI (1))]) (pc := 37) rfl rfl ?_
    refine zx_T.t (i := .istore_n 2) (k := 1) (ls' := [(2, .int (zI (1))), (0, .ref 44), (1, .int (zI (c)))]) (st' := []) (pc := 38) rfl rfl rfl rfl ?_
    refine zx_T.l (i := .aload_n 0) (k := 1) (v := .ref 44) (pc := 39) rfl rfl rfl ?_
    refine zr_gi (k := 10) (lo := 0) (hi := 8) (e := zv_i h 10) (pc := 40) rfl rfl rfl ih1 (zv_wi w2 rfl) (fun g6a g6b => ?_)
    refine zx_T.l (i := .iload_n 2) (k := 1) (v := .int (zI (1))) (pc := 43) rfl rfl rfl ?_
    refine zr_add (x := zv_i h 10) (y := 1) (e := zv_i h 10 + 1) (pc := 44) rfl (by omega) ?_
    refine zx_T.s (i := .bipush 8) (k := 2) (st' := [.int (zI (8)), .int (zI (zv_i h 10 + 1))]) (pc := 45) rfl rfl ?_
    refine zr_i2 (x := zv_i h 10 + 1) (y := 8) (t := 53) (pc := 47) rfl rfl (by omega) (by omega) (by omega) (by omega) (fun (c7 : (zv_i h 10 + 1) ≤ 8) => ?_) (fun (c7 : ¬ ((zv_i h 10 + 1) ≤ 8)) => ?_)
    · refine zx_T.l (i := .aload_n 0) (k := 1) (v := .ref 44) (pc := 53) rfl rfl rfl ?_
      refine zr_gr (k := 11) (b := 52) (pc := 54) rfl rfl rfl ih1 ?_
      refine zx_T.l (i := .aload_n 0) (k := 1) (v := .ref 44) (pc := 57) rfl rfl rfl ?_
      refine zr_gi (k := 10) (lo := 0) (hi := 8) (e := zv_i h 10) (pc := 58) rfl rfl rfl ih1 (zv_wi w2 rfl) (fun g8a g8b => ?_)
      refine zx_T.l (i := .iload_n 1) (k := 1) (v := .int (zI (c))) (pc := 61) rfl rfl rfl ?_
      refine zr_as (n := 8) (lo := 0) (hi := 8) (e := c) (pc := 62) rfl rfl rfl rfl ih1 (by omega) (by omega) (by omega) (by omega) (fun h9 ih9 w10 s11 => ?_)
      refine zx_T.l (i := .iload_n 1) (k := 1) (v := .int (zI (c))) (pc := 63) rfl rfl rfl ?_
      refine zx_T.s (i := .iconst 2) (k := 1) (st' := [.int (zI (2)), .int (zI (c))]) (pc := 64) rfl rfl ?_
      refine zr_i2 (x := c) (y := 2) (t := 80) (pc := 65) rfl rfl (by omega) (by omega) (by omega) (by omega) (fun (c12 : ¬ c = 2) => ?_) (fun (c12 : ¬ (¬ c = 2)) => False.elim (by omega))
      refine zx_T.l (i := .aload_n 0) (k := 1) (v := .ref 44) (pc := 80) rfl rfl rfl ?_
      refine zx_T.s (i := .dup) (k := 1) (st' := [.ref 44, .ref 44]) (pc := 81) rfl rfl ?_
      refine zr_gi (k := 10) (lo := 0) (hi := 8) (e := zv_i h 10) (pc := 82) rfl rfl rfl ih9 ((zv_wi w10 rfl).trans (zv_wi w2 rfl)) (fun g13a g13b => ?_)
      refine zx_T.l (i := .iload_n 2) (k := 1) (v := .int (zI (1))) (pc := 85) rfl rfl rfl ?_
      refine zr_add (x := zv_i h 10) (y := 1) (e := zv_i h 10 + 1) (pc := 86) rfl (by omega) ?_
      refine zr_pi (k := 10) (lo := 0) (hi := 8) (e := zv_i h 10 + 1) (pc := 87) rfl rfl rfl rfl rfl rfl ih9 (by omega) (by omega) (fun h14 ih14 w15 e16 => ?_)
      refine zx_T.l (i := .aload_n 0) (k := 1) (v := .ref 44) (pc := 90) rfl rfl rfl ?_
      refine zx_T.s (i := .iconst 0) (k := 1) (st' := [.int (zI (0)), .ref 44]) (pc := 91) rfl rfl ?_
      refine zr_pi (k := 13) (lo := 0) (hi := 1) (e := 0) (pc := 92) rfl rfl rfl rfl rfl rfl ih14 (by omega) (by omega) (fun h17 ih17 w18 e19 => ?_)
      refine zx_T.l (i := .aload_n 0) (k := 1) (v := .ref 44) (pc := 95) rfl rfl rfl ?_
      refine zr_gi (k := 10) (lo := 0) (hi := 8) (e := zv_i h 10 + 1) (pc := 96) rfl rfl rfl ih17 ((zv_wi w18 rfl).trans e16) (fun g20a g20b => ?_)
      refine zx_T.l (i := .iload_n 2) (k := 1) (v := .int (zI (1))) (pc := 99) rfl rfl rfl ?_
      refine zr_sub (x := zv_i h 10 + 1) (y := 1) (e := zv_i h 10) (pc := 100) rfl (by omega) ?_
      have y21 : zv_i h17 10 = zv_i h 10 + 1 := ((zv_wi w18 rfl).trans e16)
      have y22 : zv_i h17 13 = 0 := e19
      exact zr_ir (x := zv_i h 10) (pc := 101) rfl rfl rfl ⟨ih17, ((((w2.wd rfl : zb_W [(44, 0), (44, 10), (52, 0), (44, 13)] h _).tr (w10.wd rfl)).tr (w15.wd rfl)).tr (w18.wd rfl)), _, rfl, by dsimp only; exact ⟨by unfold zs_par; omega, by omega⟩⟩
    · refine zx_T.s (i := .bipush (-4)) (k := 2) (st' := [.int (zI ((-4)))]) (pc := 50) rfl rfl ?_
      have y23 : zv_i h1 10 = zv_i h 10 := (zv_wi w2 rfl)
      have y24 : zv_i h1 13 = zv_i h 13 := (zv_wi w2 rfl)
      exact zr_ir (x := (-4)) (pc := 52) rfl rfl rfl ⟨ih1, (w2.wd rfl : zb_W [(44, 0), (44, 10), (52, 0), (44, 13)] h _), _, rfl, by dsimp only; exact ⟨by unfold zs_par; omega, by omega⟩⟩
  · refine zx_T.l (i := .iload_n 1) (k := 1) (v := .int (zI (c))) (pc := 10) rfl rfl rfl ?_
    refine zx_T.s (i := .iconst 2) (k := 1) (st' := [.int (zI (2)), .int (zI (c))]) (pc := 11) rfl rfl ?_
    refine zr_i2 (x := c) (y := 2) (t := 28) (pc := 12) rfl rfl (by omega) (by omega) (by omega) (by omega) (fun (c25 : c = 2) => ?_) (fun (c25 : ¬ (c = 2)) => ?_)
    · refine zx_T.l (i := .iload_n 1) (k := 1) (v := .int (zI (c))) (pc := 28) rfl rfl rfl ?_
      refine zx_T.s (i := .iconst 2) (k := 1) (st' := [.int (zI (2)), .int (zI (c))]) (pc := 29) rfl rfl ?_
      refine zr_i2 (x := c) (y := 2) (t := 37) (pc := 30) rfl rfl (by omega) (by omega) (by omega) (by omega) (fun (c26 : ¬ c = 2) => False.elim (by omega)) (fun (c26 : ¬ (¬ c = 2)) => ?_)
      refine zx_T.s (i := .iconst 2) (k := 1) (st' := [.int (zI (2))]) (pc := 33) rfl rfl ?_
      refine zx_T.j (i := .goto 4) (k := 3) (pc' := 38) (st' := [.int (zI (2))]) (pc := 34) rfl rfl rfl rfl rfl ?_
      refine zx_T.t (i := .istore_n 2) (k := 1) (ls' := [(2, .int (zI (2))), (0, .ref 44), (1, .int (zI (c)))]) (st' := []) (pc := 38) rfl rfl rfl rfl ?_
      refine zx_T.l (i := .aload_n 0) (k := 1) (v := .ref 44) (pc := 39) rfl rfl rfl ?_
      refine zr_gi (k := 10) (lo := 0) (hi := 8) (e := zv_i h 10) (pc := 40) rfl rfl rfl ih1 (zv_wi w2 rfl) (fun g27a g27b => ?_)
      refine zx_T.l (i := .iload_n 2) (k := 1) (v := .int (zI (2))) (pc := 43) rfl rfl rfl ?_
      refine zr_add (x := zv_i h 10) (y := 2) (e := zv_i h 10 + 2) (pc := 44) rfl (by omega) ?_
      refine zx_T.s (i := .bipush 8) (k := 2) (st' := [.int (zI (8)), .int (zI (zv_i h 10 + 2))]) (pc := 45) rfl rfl ?_
      refine zr_i2 (x := zv_i h 10 + 2) (y := 8) (t := 53) (pc := 47) rfl rfl (by omega) (by omega) (by omega) (by omega) (fun (c28 : (zv_i h 10 + 2) ≤ 8) => ?_) (fun (c28 : ¬ ((zv_i h 10 + 2) ≤ 8)) => ?_)
      · refine zx_T.l (i := .aload_n 0) (k := 1) (v := .ref 44) (pc := 53) rfl rfl rfl ?_
        refine zr_gr (k := 11) (b := 52) (pc := 54) rfl rfl rfl ih1 ?_
        refine zx_T.l (i := .aload_n 0) (k := 1) (v := .ref 44) (pc := 57) rfl rfl rfl ?_
        refine zr_gi (k := 10) (lo := 0) (hi := 8) (e := zv_i h 10) (pc := 58) rfl rfl rfl ih1 (zv_wi w2 rfl) (fun g29a g29b => ?_)
        refine zx_T.l (i := .iload_n 1) (k := 1) (v := .int (zI (c))) (pc := 61) rfl rfl rfl ?_
        refine zr_as (n := 8) (lo := 0) (hi := 8) (e := c) (pc := 62) rfl rfl rfl rfl ih1 (by omega) (by omega) (by omega) (by omega) (fun h30 ih30 w31 s32 => ?_)
        refine zx_T.l (i := .iload_n 1) (k := 1) (v := .int (zI (c))) (pc := 63) rfl rfl rfl ?_
        refine zx_T.s (i := .iconst 2) (k := 1) (st' := [.int (zI (2)), .int (zI (c))]) (pc := 64) rfl rfl ?_
        refine zr_i2 (x := c) (y := 2) (t := 80) (pc := 65) rfl rfl (by omega) (by omega) (by omega) (by omega) (fun (c33 : ¬ c = 2) => False.elim (by omega)) (fun (c33 : ¬ (¬ c = 2)) => ?_)
        refine zx_T.l (i := .aload_n 0) (k := 1) (v := .ref 44) (pc := 68) rfl rfl rfl ?_
        refine zr_gr (k := 11) (b := 52) (pc := 69) rfl rfl rfl ih30 ?_
        refine zx_T.l (i := .aload_n 0) (k := 1) (v := .ref 44) (pc := 72) rfl rfl rfl ?_
        refine zr_gi (k := 10) (lo := 0) (hi := 8) (e := zv_i h 10) (pc := 73) rfl rfl rfl ih30 ((zv_wi w31 rfl).trans (zv_wi w2 rfl)) (fun g34a g34b => ?_)
        refine zx_T.s (i := .iconst 1) (k := 1) (st' := [.int (zI (1)), .int (zI (zv_i h 10)), .ref 52]) (pc := 76) rfl rfl ?_
        refine zr_add (x := zv_i h 10) (y := 1) (e := zv_i h 10 + 1) (pc := 77) rfl (by omega) ?_
        refine zx_T.s (i := .iconst 3) (k := 1) (st' := [.int (zI (3)), .int (zI (zv_i h 10 + 1)), .ref 52]) (pc := 78) rfl rfl ?_
        refine zr_as (n := 8) (lo := 0) (hi := 8) (e := 3) (pc := 79) rfl rfl rfl rfl ih30 (by omega) (by omega) (by omega) (by omega) (fun h35 ih35 w36 s37 => ?_)
        refine zx_T.l (i := .aload_n 0) (k := 1) (v := .ref 44) (pc := 80) rfl rfl rfl ?_
        refine zx_T.s (i := .dup) (k := 1) (st' := [.ref 44, .ref 44]) (pc := 81) rfl rfl ?_
        refine zr_gi (k := 10) (lo := 0) (hi := 8) (e := zv_i h 10) (pc := 82) rfl rfl rfl ih35 ((zv_wi w36 rfl).trans ((zv_wi w31 rfl).trans (zv_wi w2 rfl))) (fun g38a g38b => ?_)
        refine zx_T.l (i := .iload_n 2) (k := 1) (v := .int (zI (2))) (pc := 85) rfl rfl rfl ?_
        refine zr_add (x := zv_i h 10) (y := 2) (e := zv_i h 10 + 2) (pc := 86) rfl (by omega) ?_
        refine zr_pi (k := 10) (lo := 0) (hi := 8) (e := zv_i h 10 + 2) (pc := 87) rfl rfl rfl rfl rfl rfl ih35 (by omega) (by omega) (fun h39 ih39 w40 e41 => ?_)
        refine zx_T.l (i := .aload_n 0) (k := 1) (v := .ref 44) (pc := 90) rfl rfl rfl ?_
        refine zx_T.s (i := .iconst 0) (k := 1) (st' := [.int (zI (0)), .ref 44]) (pc := 91) rfl rfl ?_
        refine zr_pi (k := 13) (lo := 0) (hi := 1) (e := 0) (pc := 92) rfl rfl rfl rfl rfl rfl ih39 (by omega) (by omega) (fun h42 ih42 w43 e44 => ?_)
        refine zx_T.l (i := .aload_n 0) (k := 1) (v := .ref 44) (pc := 95) rfl rfl rfl ?_
        refine zr_gi (k := 10) (lo := 0) (hi := 8) (e := zv_i h 10 + 2) (pc := 96) rfl rfl rfl ih42 ((zv_wi w43 rfl).trans e41) (fun g45a g45b => ?_)
        refine zx_T.l (i := .iload_n 2) (k := 1) (v := .int (zI (2))) (pc := 99) rfl rfl rfl ?_
        refine zr_sub (x := zv_i h 10 + 2) (y := 2) (e := zv_i h 10) (pc := 100) rfl (by omega) ?_
        have y46 : zv_i h42 10 = zv_i h 10 + 2 := ((zv_wi w43 rfl).trans e41)
        have y47 : zv_i h42 13 = 0 := e44
        exact zr_ir (x := zv_i h 10) (pc := 101) rfl rfl rfl ⟨ih42, (((((w2.wd rfl : zb_W [(44, 0), (44, 10), (52, 0), (44, 13)] h _).tr (w31.wd rfl)).tr (w36.wd rfl)).tr (w40.wd rfl)).tr (w43.wd rfl)), _, rfl, by dsimp only; exact ⟨by unfold zs_par; omega, by omega⟩⟩
      · refine zx_T.s (i := .bipush (-4)) (k := 2) (st' := [.int (zI ((-4)))]) (pc := 50) rfl rfl ?_
        have y48 : zv_i h1 10 = zv_i h 10 := (zv_wi w2 rfl)
        have y49 : zv_i h1 13 = zv_i h 13 := (zv_wi w2 rfl)
        exact zr_ir (x := (-4)) (pc := 52) rfl rfl rfl ⟨ih1, (w2.wd rfl : zb_W [(44, 0), (44, 10), (52, 0), (44, 13)] h _), _, rfl, by dsimp only; exact ⟨by unfold zs_par; omega, by omega⟩⟩
    · refine zx_T.l (i := .iload_n 1) (k := 1) (v := .int (zI (c))) (pc := 15) rfl rfl rfl ?_
      refine zx_T.s (i := .iconst 5) (k := 1) (st' := [.int (zI (5)), .int (zI (c))]) (pc := 16) rfl rfl ?_
      refine zx_T.s (i := .bipush 8) (k := 2) (st' := [.int (zI (8)), .int (zI (5)), .int (zI (c))]) (pc := 17) rfl rfl ?_
      refine zr_is (cj := 155) (q' := zp_m155) (As := [.int (zI (c)), .int (zI (5)), .int (zI (8))]) (rest := []) (pc := 19) rfl rfl rfl rfl rfl rfl (Nat.le_of_ble_eq_true rfl) rfl (Nat.le_of_ble_eq_true rfl) rfl ((zm_in (h := h1) ih1 (v := c) (l := 5) (u := 8) (by omega) (by omega) (by omega) (by omega) (by omega) (by omega)).up (Nat.le_of_ble_eq_true rfl)) ?_
      rintro r50 h53 ⟨h53q, v51, r50q, x52⟩
      subst h53q r50q
      try dsimp only at x52
      show zx_T zp_P 1 zp_m196 22 [(0, .ref 44), (1, .int (zI (c)))] [.int (zI (v51))] h1 _
      refine zr_i1 (x := v51) (t := 28) (pc := 22) rfl rfl (by omega) (by omega) (fun (c54 : ¬ v51 = 0) => ?_) (fun (c54 : ¬ (¬ v51 = 0)) => ?_)
      · refine zx_T.l (i := .iload_n 1) (k := 1) (v := .int (zI (c))) (pc := 28) rfl rfl rfl ?_
        refine zx_T.s (i := .iconst 2) (k := 1) (st' := [.int (zI (2)), .int (zI (c))]) (pc := 29) rfl rfl ?_
        refine zr_i2 (x := c) (y := 2) (t := 37) (pc := 30) rfl rfl (by omega) (by omega) (by omega) (by omega) (fun (c55 : ¬ c = 2) => ?_) (fun (c55 : ¬ (¬ c = 2)) => False.elim (by omega))
        refine zx_T.s (i := .iconst 1) (k := 1) (st' := [.int (zI (1))]) (pc := 37) rfl rfl ?_
        refine zx_T.t (i := .istore_n 2) (k := 1) (ls' := [(2, .int (zI (1))), (0, .ref 44), (1, .int (zI (c)))]) (st' := []) (pc := 38) rfl rfl rfl rfl ?_
        refine zx_T.l (i := .aload_n 0) (k := 1) (v := .ref 44) (pc := 39) rfl rfl rfl ?_
        refine zr_gi (k := 10) (lo := 0) (hi := 8) (e := zv_i h 10) (pc := 40) rfl rfl rfl ih1 (zv_wi w2 rfl) (fun g56a g56b => ?_)
        refine zx_T.l (i := .iload_n 2) (k := 1) (v := .int (zI (1))) (pc := 43) rfl rfl rfl ?_
        refine zr_add (x := zv_i h 10) (y := 1) (e := zv_i h 10 + 1) (pc := 44) rfl (by omega) ?_
        refine zx_T.s (i := .bipush 8) (k := 2) (st' := [.int (zI (8)), .int (zI (zv_i h 10 + 1))]) (pc := 45) rfl rfl ?_
        refine zr_i2 (x := zv_i h 10 + 1) (y := 8) (t := 53) (pc := 47) rfl rfl (by omega) (by omega) (by omega) (by omega) (fun (c57 : (zv_i h 10 + 1) ≤ 8) => ?_) (fun (c57 : ¬ ((zv_i h 10 + 1) ≤ 8)) => ?_)
        · refine zx_T.l (i := .aload_n 0) (k := 1) (v := .ref 44) (pc := 53) rfl rfl rfl ?_
          refine zr_gr (k := 11) (b := 52) (pc := 54) rfl rfl rfl ih1 ?_
          refine zx_T.l (i := .aload_n 0) (k := 1) (v := .ref 44) (pc := 57) rfl rfl rfl ?_
          refine zr_gi (k := 10) (lo := 0) (hi := 8) (e := zv_i h 10) (pc := 58) rfl rfl rfl ih1 (zv_wi w2 rfl) (fun g58a g58b => ?_)
          refine zx_T.l (i := .iload_n 1) (k := 1) (v := .int (zI (c))) (pc := 61) rfl rfl rfl ?_
          refine zr_as (n := 8) (lo := 0) (hi := 8) (e := c) (pc := 62) rfl rfl rfl rfl ih1 (by omega) (by omega) (by omega) (by omega) (fun h59 ih59 w60 s61 => ?_)
          refine zx_T.l (i := .iload_n 1) (k := 1) (v := .int (zI (c))) (pc := 63) rfl rfl rfl ?_
          refine zx_T.s (i := .iconst 2) (k := 1) (st' := [.int (zI (2)), .int (zI (c))]) (pc := 64) rfl rfl ?_
          refine zr_i2 (x := c) (y := 2) (t := 80) (pc := 65) rfl rfl (by omega) (by omega) (by omega) (by omega) (fun (c62 : ¬ c = 2) => ?_) (fun (c62 : ¬ (¬ c = 2)) => False.elim (by omega))
          refine zx_T.l (i := .aload_n 0) (k := 1) (v := .ref 44) (pc := 80) rfl rfl rfl ?_
          refine zx_T.s (i := .dup) (k := 1) (st' := [.ref 44, .ref 44]) (pc := 81) rfl rfl ?_
          refine zr_gi (k := 10) (lo := 0) (hi := 8) (e := zv_i h 10) (pc := 82) rfl rfl rfl ih59 ((zv_wi w60 rfl).trans (zv_wi w2 rfl)) (fun g63a g63b => ?_)
          refine zx_T.l (i := .iload_n 2) (k := 1) (v := .int (zI (1))) (pc := 85) rfl rfl rfl ?_
          refine zr_add (x := zv_i h 10) (y := 1) (e := zv_i h 10 + 1) (pc := 86) rfl (by omega) ?_
          refine zr_pi (k := 10) (lo := 0) (hi := 8) (e := zv_i h 10 + 1) (pc := 87) rfl rfl rfl rfl rfl rfl ih59 (by omega) (by omega) (fun h64 ih64 w65 e66 => ?_)
          refine zx_T.l (i := .aload_n 0) (k := 1) (v := .ref 44) (pc := 90) rfl rfl rfl ?_
          refine zx_T.s (i := .iconst 0) (k := 1) (st' := [.int (zI (0)), .ref 44]) (pc := 91) rfl rfl ?_
          refine zr_pi (k := 13) (lo := 0) (hi := 1) (e := 0) (pc := 92) rfl rfl rfl rfl rfl rfl ih64 (by omega) (by omega) (fun h67 ih67 w68 e69 => ?_)
          refine zx_T.l (i := .aload_n 0) (k := 1) (v := .ref 44) (pc := 95) rfl rfl rfl ?_
          refine zr_gi (k := 10) (lo := 0) (hi := 8) (e := zv_i h 10 + 1) (pc := 96) rfl rfl rfl ih67 ((zv_wi w68 rfl).trans e66) (fun g70a g70b => ?_)
          refine zx_T.l (i := .iload_n 2) (k := 1) (v := .int (zI (1))) (pc := 99) rfl rfl rfl ?_
          refine zr_sub (x := zv_i h 10 + 1) (y := 1) (e := zv_i h 10) (pc := 100) rfl (by omega) ?_
          have y71 : zv_i h67 10 = zv_i h 10 + 1 := ((zv_wi w68 rfl).trans e66)
          have y72 : zv_i h67 13 = 0 := e69
          exact zr_ir (x := zv_i h 10) (pc := 101) rfl rfl rfl ⟨ih67, ((((w2.wd rfl : zb_W [(44, 0), (44, 10), (52, 0), (44, 13)] h _).tr (w60.wd rfl)).tr (w65.wd rfl)).tr (w68.wd rfl)), _, rfl, by dsimp only; exact ⟨by unfold zs_par; omega, by omega⟩⟩
        · refine zx_T.s (i := .bipush (-4)) (k := 2) (st' := [.int (zI ((-4)))]) (pc := 50) rfl rfl ?_
          have y73 : zv_i h1 10 = zv_i h 10 := (zv_wi w2 rfl)
          have y74 : zv_i h1 13 = zv_i h 13 := (zv_wi w2 rfl)
          exact zr_ir (x := (-4)) (pc := 52) rfl rfl rfl ⟨ih1, (w2.wd rfl : zb_W [(44, 0), (44, 10), (52, 0), (44, 13)] h _), _, rfl, by dsimp only; exact ⟨by unfold zs_par; omega, by omega⟩⟩
      · refine zx_T.s (i := .bipush (-2)) (k := 2) (st' := [.int (zI ((-2)))]) (pc := 25) rfl rfl ?_
        have y75 : zv_i h1 10 = zv_i h 10 := (zv_wi w2 rfl)
        have y76 : zv_i h1 13 = zv_i h 13 := (zv_wi w2 rfl)
        exact zr_ir (x := (-2)) (pc := 27) rfl rfl rfl ⟨ih1, (w2.wd rfl : zb_W [(44, 0), (44, 10), (52, 0), (44, 13)] h _), _, rfl, by dsimp only; exact ⟨by unfold zs_par; omega, by omega⟩⟩

set_option maxRecDepth 100000 in
set_option maxHeartbeats 4000000 in
theorem zm_operation {h : zx_H} (hI : zb_I zc_H h) {o : Int} {a : Int} {b : Int} (o1 : -2147483648 ≤ o) (o2 : o ≤ 2147483647) (a1 : -2147483648 ≤ a) (a2 : a ≤ 2147483647) (b1 : -2147483648 ≤ b) (b2 : b ≤ 2147483647) : zx_T zp_P 1 zp_m197 0 [(0, .ref 44), (1, .int (zI (o))), (2, .int (zI (a))), (3, .int (zI (b)))] [] h (zr_R [(44, 0), (44, 1), (45, 0), (46, 0), (47, 0), (44, 13)] h (fun e h' => zs_opn o a e (zv_i h 1) (zv_i h' 1) ∧ (zv_i h' 13 = 0 ∨ (zv_i h' 13 = zv_i h 13 ∧ zv_i h' 1 = zv_i h 1 ∧ ∀ j, 0 ≤ j → zv_a h' 45 j = zv_a h 45 j ∧ zv_a h' 46 j = zv_a h 46 j ∧ zv_a h' 47 j = zv_a h 47 j)) ∧ (zg_CI h → zg_CI h'))) := by
  have hP := zv_ri hI (k := 1) rfl
  refine zx_T.l (i := .aload_n 0) (k := 1) (v := .ref 44) (pc := 0) rfl rfl rfl ?_
  refine zx_T.s (i := .iconst 0) (k := 1) (st' := [.int (zI (0)), .ref 44]) (pc := 1) rfl rfl ?_
  refine zr_pi (k := 0) (lo := (-2147483648)) (hi := 2147483647) (e := 0) (pc := 2) rfl rfl rfl rfl rfl rfl hI (by omega) (by omega) (fun h1 ih1 w2 e3 => ?_)
  refine zx_T.l (i := .iload_n 1) (k := 1) (v := .int (zI (o))) (pc := 5) rfl rfl rfl ?_
  refine zx_T.s (i := .iconst 0) (k := 1) (st' := [.int (zI (0)), .int (zI (o))]) (pc := 6) rfl rfl ?_
  refine zx_T.s (i := .bipush 28) (k := 2) (st' := [.int (zI (28)), .int (zI (0)), .int (zI (o))]) (pc := 7) rfl rfl ?_
  refine zr_is (cj := 155) (q' := zp_m155) (As := [.int (zI (o)), .int (zI (0)), .int (zI (28))]) (rest := []) (pc := 9) rfl rfl rfl rfl rfl rfl (Nat.le_of_ble_eq_true rfl) rfl (Nat.le_of_ble_eq_true rfl) rfl ((zm_in (h := h1) ih1 (v := o) (l := 0) (u := 28) (by omega) (by omega) (by omega) (by omega) (by omega) (by omega)).up (Nat.le_of_ble_eq_true rfl)) ?_
  rintro r4 h7 ⟨h7q, v5, r4q, x6⟩
  subst h7q r4q
  try dsimp only at x6
  show zx_T zp_P 1 zp_m197 12 [(0, .ref 44), (1, .int (zI (o))), (2, .int (zI (a))), (3, .int (zI (b)))] [.int (zI (v5))] h1 _
  refine zr_i1 (x := v5) (t := 31) (pc := 12) rfl rfl (by omega) (by omega) (fun (c8 : v5 = 0) => ?_) (fun (c8 : ¬ (v5 = 0)) => ?_)
  · refine zx_T.s (i := .bipush (-2)) (k := 2) (st' := [.int (zI ((-2)))]) (pc := 31) rfl rfl ?_
    have y9 : zv_i h1 1 = zv_i h 1 := (zv_wi w2 rfl)
    have y10 : zv_i h1 13 = zv_i h 13 := (zv_wi w2 rfl)
    have a45 : ∀ j, 0 ≤ j → zv_a h1 45 j = zv_a h 45 j := fun j hj => by rw [zv_wa w2 rfl j]
    have a46 : ∀ j, 0 ≤ j → zv_a h1 46 j = zv_a h 46 j := fun j hj => by rw [zv_wa w2 rfl j]
    have a47 : ∀ j, 0 ≤ j → zv_a h1 47 j = zv_a h 47 j := fun j hj => by rw [zv_wa w2 rfl j]
    exact zr_ir (x := (-2)) (pc := 33) rfl rfl rfl ⟨ih1, (w2.wd rfl : zb_W [(44, 0), (44, 1), (45, 0), (46, 0), (47, 0), (44, 13)] h _), _, rfl, by dsimp only; exact ⟨by unfold zs_opn; omega, Or.inr ⟨by omega, by omega, fun j j0 => ⟨by rw [a45 j j0], by rw [a46 j j0], by rw [a47 j j0]⟩⟩, fun hc q q0 q1 q2 => by have d1 := a45 q q0; have d2 := a46 q q0; have d3 := hc q q0 q1; omega⟩⟩
  · refine zx_T.l (i := .iload_n 1) (k := 1) (v := .int (zI (o))) (pc := 15) rfl rfl rfl ?_
    refine zx_T.s (i := .bipush 21) (k := 2) (st' := [.int (zI (21)), .int (zI (o))]) (pc := 16) rfl rfl ?_
    refine zr_i2 (x := o) (y := 21) (t := 34) (pc := 18) rfl rfl (by omega) (by omega) (by omega) (by omega) (fun (c14 : ¬ o = 21) => ?_) (fun (c14 : ¬ (¬ o = 21)) => ?_)
    · refine zx_T.l (i := .aload_n 0) (k := 1) (v := .ref 44) (pc := 34) rfl rfl rfl ?_
      refine zr_gi (k := 1) (lo := 0) (hi := 60) (e := zv_i h 1) (pc := 35) rfl rfl rfl ih1 (zv_wi w2 rfl) (fun g15a g15b => ?_)
      refine zx_T.s (i := .bipush 60) (k := 2) (st' := [.int (zI (60)), .int (zI (zv_i h 1))]) (pc := 38) rfl rfl ?_
      refine zr_i2 (x := zv_i h 1) (y := 60) (t := 46) (pc := 40) rfl rfl (by omega) (by omega) (by omega) (by omega) (fun (c16 : ¬ (zv_i h 1) = 60) => ?_) (fun (c16 : ¬ (¬ (zv_i h 1) = 60)) => ?_)
      · refine zx_T.l (i := .aload_n 0) (k := 1) (v := .ref 44) (pc := 46) rfl rfl rfl ?_
        refine zr_gr (k := 2) (b := 45) (pc := 47) rfl rfl rfl ih1 ?_
        refine zx_T.l (i := .aload_n 0) (k := 1) (v := .ref 44) (pc := 50) rfl rfl rfl ?_
        refine zr_gi (k := 1) (lo := 0) (hi := 60) (e := zv_i h 1) (pc := 51) rfl rfl rfl ih1 (zv_wi w2 rfl) (fun g17a g17b => ?_)
        refine zx_T.l (i := .iload_n 1) (k := 1) (v := .int (zI (o))) (pc := 54) rfl rfl rfl ?_
        refine zr_as (n := 60) (lo := 0) (hi := 28) (e := o) (pc := 55) rfl rfl rfl rfl ih1 (by omega) (by omega) (by omega) (by omega) (fun h18 ih18 w19 s20 => ?_)
        refine zx_T.l (i := .aload_n 0) (k := 1) (v := .ref 44) (pc := 56) rfl rfl rfl ?_
        refine zr_gr (k := 3) (b := 46) (pc := 57) rfl rfl rfl ih18 ?_
        refine zx_T.l (i := .aload_n 0) (k := 1) (v := .ref 44) (pc := 60) rfl rfl rfl ?_
        refine zr_gi (k := 1) (lo := 0) (hi := 60) (e := zv_i h 1) (pc := 61) rfl rfl rfl ih18 ((zv_wi w19 rfl).trans (zv_wi w2 rfl)) (fun g21a g21b => ?_)
        refine zx_T.l (i := .iload_n 2) (k := 1) (v := .int (zI (a))) (pc := 64) rfl rfl rfl ?_
        refine zr_as (n := 60) (lo := (-2147483648)) (hi := 2147483647) (e := a) (pc := 65) rfl rfl rfl rfl ih18 (by omega) (by omega) (by omega) (by omega) (fun h22 ih22 w23 s24 => ?_)
        refine zx_T.l (i := .aload_n 0) (k := 1) (v := .ref 44) (pc := 66) rfl rfl rfl ?_
        refine zr_gr (k := 4) (b := 47) (pc := 67) rfl rfl rfl ih22 ?_
        refine zx_T.l (i := .aload_n 0) (k := 1) (v := .ref 44) (pc := 70) rfl rfl rfl ?_
        refine zr_gi (k := 1) (lo := 0) (hi := 60) (e := zv_i h 1) (pc := 71) rfl rfl rfl ih22 ((zv_wi w23 rfl).trans ((zv_wi w19 rfl).trans (zv_wi w2 rfl))) (fun g25a g25b => ?_)
        refine zx_T.l (i := .iload_n 3) (k := 1) (v := .int (zI (b))) (pc := 74) rfl rfl rfl ?_
        refine zr_as (n := 60) (lo := (-2147483648)) (hi := 2147483647) (e := b) (pc := 75) rfl rfl rfl rfl ih22 (by omega) (by omega) (by omega) (by omega) (fun h26 ih26 w27 s28 => ?_)
        refine zx_T.l (i := .aload_n 0) (k := 1) (v := .ref 44) (pc := 76) rfl rfl rfl ?_
        refine zx_T.s (i := .dup) (k := 1) (st' := [.ref 44, .ref 44]) (pc := 77) rfl rfl ?_
        refine zr_gi (k := 1) (lo := 0) (hi := 60) (e := zv_i h 1) (pc := 78) rfl rfl rfl ih26 ((zv_wi w27 rfl).trans ((zv_wi w23 rfl).trans ((zv_wi w19 rfl).trans (zv_wi w2 rfl)))) (fun g29a g29b => ?_)
        refine zx_T.s (i := .iconst 1) (k := 1) (st' := [.int (zI (1)), .int (zI (zv_i h 1)), .ref 44]) (pc := 81) rfl rfl ?_
        refine zr_add (x := zv_i h 1) (y := 1) (e := zv_i h 1 + 1) (pc := 82) rfl (by omega) ?_
        refine zr_pi (k := 1) (lo := 0) (hi := 60) (e := zv_i h 1 + 1) (pc := 83) rfl rfl rfl rfl rfl rfl ih26 (by omega) (by omega) (fun h30 ih30 w31 e32 => ?_)
        refine zx_T.l (i := .aload_n 0) (k := 1) (v := .ref 44) (pc := 86) rfl rfl rfl ?_
        refine zx_T.s (i := .iconst 0) (k := 1) (st' := [.int (zI (0)), .ref 44]) (pc := 87) rfl rfl ?_
        refine zr_pi (k := 13) (lo := 0) (hi := 1) (e := 0) (pc := 88) rfl rfl rfl rfl rfl rfl ih30 (by omega) (by omega) (fun h33 ih33 w34 e35 => ?_)
        refine zx_T.l (i := .aload_n 0) (k := 1) (v := .ref 44) (pc := 91) rfl rfl rfl ?_
        refine zr_gi (k := 1) (lo := 0) (hi := 60) (e := zv_i h 1 + 1) (pc := 92) rfl rfl rfl ih33 ((zv_wi w34 rfl).trans e32) (fun g36a g36b => ?_)
        refine zx_T.s (i := .iconst 1) (k := 1) (st' := [.int (zI (1)), .int (zI (zv_i h 1 + 1))]) (pc := 95) rfl rfl ?_
        refine zr_sub (x := zv_i h 1 + 1) (y := 1) (e := zv_i h 1) (pc := 96) rfl (by omega) ?_
        have y37 : zv_i h33 1 = zv_i h 1 + 1 := ((zv_wi w34 rfl).trans e32)
        have y38 : zv_i h33 13 = 0 := e35
        have a45 : ∀ j, 0 ≤ j → zv_a h33 45 j = if j = zv_i h 1 then o else zv_a h 45 j := fun j hj => by rw [zv_wa w34 rfl j, zv_wa w31 rfl j, zv_wa w27 rfl j, zv_wa w23 rfl j, s20 j hj, zv_wa w2 rfl j]
        have a46 : ∀ j, 0 ≤ j → zv_a h33 46 j = if j = zv_i h 1 then a else zv_a h 46 j := fun j hj => by rw [zv_wa w34 rfl j, zv_wa w31 rfl j, zv_wa w27 rfl j, s24 j hj, zv_wa w19 rfl j, zv_wa w2 rfl j]
        have a47 : ∀ j, 0 ≤ j → zv_a h33 47 j = if j = zv_i h 1 then b else zv_a h 47 j := fun j hj => by rw [zv_wa w34 rfl j, zv_wa w31 rfl j, s28 j hj, zv_wa w23 rfl j, zv_wa w19 rfl j, zv_wa w2 rfl j]
        exact zr_ir (x := zv_i h 1) (pc := 97) rfl rfl rfl ⟨ih33, ((((((w2.wd rfl : zb_W [(44, 0), (44, 1), (45, 0), (46, 0), (47, 0), (44, 13)] h _).tr (w19.wd rfl)).tr (w23.wd rfl)).tr (w27.wd rfl)).tr (w31.wd rfl)).tr (w34.wd rfl)), _, rfl, by dsimp only; exact ⟨by unfold zs_opn; omega, Or.inl (by omega), fun hc q q0 q1 q2 => by have d1 := a45 q q0; have d2 := a46 q q0; have d3 := hc q q0 q1; split at d1 <;> omega⟩⟩
      · refine zx_T.s (i := .bipush (-4)) (k := 2) (st' := [.int (zI ((-4)))]) (pc := 43) rfl rfl ?_
        have y42 : zv_i h1 1 = zv_i h 1 := (zv_wi w2 rfl)
        have y43 : zv_i h1 13 = zv_i h 13 := (zv_wi w2 rfl)
        have a45 : ∀ j, 0 ≤ j → zv_a h1 45 j = zv_a h 45 j := fun j hj => by rw [zv_wa w2 rfl j]
        have a46 : ∀ j, 0 ≤ j → zv_a h1 46 j = zv_a h 46 j := fun j hj => by rw [zv_wa w2 rfl j]
        have a47 : ∀ j, 0 ≤ j → zv_a h1 47 j = zv_a h 47 j := fun j hj => by rw [zv_wa w2 rfl j]
        exact zr_ir (x := (-4)) (pc := 45) rfl rfl rfl ⟨ih1, (w2.wd rfl : zb_W [(44, 0), (44, 1), (45, 0), (46, 0), (47, 0), (44, 13)] h _), _, rfl, by dsimp only; exact ⟨by unfold zs_opn; omega, Or.inr ⟨by omega, by omega, fun j j0 => ⟨by rw [a45 j j0], by rw [a46 j j0], by rw [a47 j j0]⟩⟩, fun hc q q0 q1 q2 => by have d1 := a45 q q0; have d2 := a46 q q0; have d3 := hc q q0 q1; omega⟩⟩
    · refine zx_T.l (i := .iload_n 2) (k := 1) (v := .int (zI (a))) (pc := 21) rfl rfl rfl ?_
      refine zx_T.s (i := .iconst 5) (k := 1) (st' := [.int (zI (5)), .int (zI (a))]) (pc := 22) rfl rfl ?_
      refine zx_T.s (i := .bipush 8) (k := 2) (st' := [.int (zI (8)), .int (zI (5)), .int (zI (a))]) (pc := 23) rfl rfl ?_
      refine zr_is (cj := 155) (q' := zp_m155) (As := [.int (zI (a)), .int (zI (5)), .int (zI (8))]) (rest := []) (pc := 25) rfl rfl rfl rfl rfl rfl (Nat.le_of_ble_eq_true rfl) rfl (Nat.le_of_ble_eq_true rfl) rfl ((zm_in (h := h1) ih1 (v := a) (l := 5) (u := 8) (by omega) (by omega) (by omega) (by omega) (by omega) (by omega)).up (Nat.le_of_ble_eq_true rfl)) ?_
      rintro r47 h50 ⟨h50q, v48, r47q, x49⟩
      subst h50q r47q
      try dsimp only at x49
      show zx_T zp_P 1 zp_m197 28 [(0, .ref 44), (1, .int (zI (o))), (2, .int (zI (a))), (3, .int (zI (b)))] [.int (zI (v48))] h1 _
      refine zr_i1 (x := v48) (t := 34) (pc := 28) rfl rfl (by omega) (by omega) (fun (c51 : ¬ v48 = 0) => ?_) (fun (c51 : ¬ (¬ v48 = 0)) => ?_)
      · refine zx_T.l (i := .aload_n 0) (k := 1) (v := .ref 44) (pc := 34) rfl rfl rfl ?_
        refine zr_gi (k := 1) (lo := 0) (hi := 60) (e := zv_i h 1) (pc := 35) rfl rfl rfl ih1 (zv_wi w2 rfl) (fun g52a g52b => ?_)
        refine zx_T.s (i := .bipush 60) (k := 2) (st' := [.int (zI (60)), .int (zI (zv_i h 1))]) (pc := 38) rfl rfl ?_
        refine zr_i2 (x := zv_i h 1) (y := 60) (t := 46) (pc := 40) rfl rfl (by omega) (by omega) (by omega) (by omega) (fun (c53 : ¬ (zv_i h 1) = 60) => ?_) (fun (c53 : ¬ (¬ (zv_i h 1) = 60)) => ?_)
        · refine zx_T.l (i := .aload_n 0) (k := 1) (v := .ref 44) (pc := 46) rfl rfl rfl ?_
          refine zr_gr (k := 2) (b := 45) (pc := 47) rfl rfl rfl ih1 ?_
          refine zx_T.l (i := .aload_n 0) (k := 1) (v := .ref 44) (pc := 50) rfl rfl rfl ?_
          refine zr_gi (k := 1) (lo := 0) (hi := 60) (e := zv_i h 1) (pc := 51) rfl rfl rfl ih1 (zv_wi w2 rfl) (fun g54a g54b => ?_)
          refine zx_T.l (i := .iload_n 1) (k := 1) (v := .int (zI (o))) (pc := 54) rfl rfl rfl ?_
          refine zr_as (n := 60) (lo := 0) (hi := 28) (e := o) (pc := 55) rfl rfl rfl rfl ih1 (by omega) (by omega) (by omega) (by omega) (fun h55 ih55 w56 s57 => ?_)
          refine zx_T.l (i := .aload_n 0) (k := 1) (v := .ref 44) (pc := 56) rfl rfl rfl ?_
          refine zr_gr (k := 3) (b := 46) (pc := 57) rfl rfl rfl ih55 ?_
          refine zx_T.l (i := .aload_n 0) (k := 1) (v := .ref 44) (pc := 60) rfl rfl rfl ?_
          refine zr_gi (k := 1) (lo := 0) (hi := 60) (e := zv_i h 1) (pc := 61) rfl rfl rfl ih55 ((zv_wi w56 rfl).trans (zv_wi w2 rfl)) (fun g58a g58b => ?_)
          refine zx_T.l (i := .iload_n 2) (k := 1) (v := .int (zI (a))) (pc := 64) rfl rfl rfl ?_
          refine zr_as (n := 60) (lo := (-2147483648)) (hi := 2147483647) (e := a) (pc := 65) rfl rfl rfl rfl ih55 (by omega) (by omega) (by omega) (by omega) (fun h59 ih59 w60 s61 => ?_)
          refine zx_T.l (i := .aload_n 0) (k := 1) (v := .ref 44) (pc := 66) rfl rfl rfl ?_
          refine zr_gr (k := 4) (b := 47) (pc := 67) rfl rfl rfl ih59 ?_
          refine zx_T.l (i := .aload_n 0) (k := 1) (v := .ref 44) (pc := 70) rfl rfl rfl ?_
          refine zr_gi (k := 1) (lo := 0) (hi := 60) (e := zv_i h 1) (pc := 71) rfl rfl rfl ih59 ((zv_wi w60 rfl).trans ((zv_wi w56 rfl).trans (zv_wi w2 rfl))) (fun g62a g62b => ?_)
          refine zx_T.l (i := .iload_n 3) (k := 1) (v := .int (zI (b))) (pc := 74) rfl rfl rfl ?_
          refine zr_as (n := 60) (lo := (-2147483648)) (hi := 2147483647) (e := b) (pc := 75) rfl rfl rfl rfl ih59 (by omega) (by omega) (by omega) (by omega) (fun h63 ih63 w64 s65 => ?_)
          refine zx_T.l (i := .aload_n 0) (k := 1) (v := .ref 44) (pc := 76) rfl rfl rfl ?_
          refine zx_T.s (i := .dup) (k := 1) (st' := [.ref 44, .ref 44]) (pc := 77) rfl rfl ?_
          refine zr_gi (k := 1) (lo := 0) (hi := 60) (e := zv_i h 1) (pc := 78) rfl rfl rfl ih63 ((zv_wi w64 rfl).trans ((zv_wi w60 rfl).trans ((zv_wi w56 rfl).trans (zv_wi w2 rfl)))) (fun g66a g66b => ?_)
          refine zx_T.s (i := .iconst 1) (k := 1) (st' := [.int (zI (1)), .int (zI (zv_i h 1)), .ref 44]) (pc := 81) rfl rfl ?_
          refine zr_add (x := zv_i h 1) (y := 1) (e := zv_i h 1 + 1) (pc := 82) rfl (by omega) ?_
          refine zr_pi (k := 1) (lo := 0) (hi := 60) (e := zv_i h 1 + 1) (pc := 83) rfl rfl rfl rfl rfl rfl ih63 (by omega) (by omega) (fun h67 ih67 w68 e69 => ?_)
          refine zx_T.l (i := .aload_n 0) (k := 1) (v := .ref 44) (pc := 86) rfl rfl rfl ?_
          refine zx_T.s (i := .iconst 0) (k := 1) (st' := [.int (zI (0)), .ref 44]) (pc := 87) rfl rfl ?_
          refine zr_pi (k := 13) (lo := 0) (hi := 1) (e := 0) (pc := 88) rfl rfl rfl rfl rfl rfl ih67 (by omega) (by omega) (fun h70 ih70 w71 e72 => ?_)
          refine zx_T.l (i := .aload_n 0) (k := 1) (v := .ref 44) (pc := 91) rfl rfl rfl ?_
          refine zr_gi (k := 1) (lo := 0) (hi := 60) (e := zv_i h 1 + 1) (pc := 92) rfl rfl rfl ih70 ((zv_wi w71 rfl).trans e69) (fun g73a g73b => ?_)
          refine zx_T.s (i := .iconst 1) (k := 1) (st' := [.int (zI (1)), .int (zI (zv_i h 1 + 1))]) (pc := 95) rfl rfl ?_
          refine zr_sub (x := zv_i h 1 + 1) (y := 1) (e := zv_i h 1) (pc := 96) rfl (by omega) ?_
          have y74 : zv_i h70 1 = zv_i h 1 + 1 := ((zv_wi w71 rfl).trans e69)
          have y75 : zv_i h70 13 = 0 := e72
          have a45 : ∀ j, 0 ≤ j → zv_a h70 45 j = if j = zv_i h 1 then o else zv_a h 45 j := fun j hj => by rw [zv_wa w71 rfl j, zv_wa w68 rfl j, zv_wa w64 rfl j, zv_wa w60 rfl j, s57 j hj, zv_wa w2 rfl j]
          have a46 : ∀ j, 0 ≤ j → zv_a h70 46 j = if j = zv_i h 1 then a else zv_a h 46 j := fun j hj => by rw [zv_wa w71 rfl j, zv_wa w68 rfl j, zv_wa w64 rfl j, s61 j hj, zv_wa w56 rfl j, zv_wa w2 rfl j]
          have a47 : ∀ j, 0 ≤ j → zv_a h70 47 j = if j = zv_i h 1 then b else zv_a h 47 j := fun j hj => by rw [zv_wa w71 rfl j, zv_wa w68 rfl j, s65 j hj, zv_wa w60 rfl j, zv_wa w56 rfl j, zv_wa w2 rfl j]
          exact zr_ir (x := zv_i h 1) (pc := 97) rfl rfl rfl ⟨ih70, ((((((w2.wd rfl : zb_W [(44, 0), (44, 1), (45, 0), (46, 0), (47, 0), (44, 13)] h _).tr (w56.wd rfl)).tr (w60.wd rfl)).tr (w64.wd rfl)).tr (w68.wd rfl)).tr (w71.wd rfl)), _, rfl, by dsimp only; exact ⟨by unfold zs_opn; omega, Or.inl (by omega), fun hc q q0 q1 q2 => by have d1 := a45 q q0; have d2 := a46 q q0; have d3 := hc q q0 q1; split at d1 <;> omega⟩⟩
        · refine zx_T.s (i := .bipush (-4)) (k := 2) (st' := [.int (zI ((-4)))]) (pc := 43) rfl rfl ?_
          have y79 : zv_i h1 1 = zv_i h 1 := (zv_wi w2 rfl)
          have y80 : zv_i h1 13 = zv_i h 13 := (zv_wi w2 rfl)
          have a45 : ∀ j, 0 ≤ j → zv_a h1 45 j = zv_a h 45 j := fun j hj => by rw [zv_wa w2 rfl j]
          have a46 : ∀ j, 0 ≤ j → zv_a h1 46 j = zv_a h 46 j := fun j hj => by rw [zv_wa w2 rfl j]
          have a47 : ∀ j, 0 ≤ j → zv_a h1 47 j = zv_a h 47 j := fun j hj => by rw [zv_wa w2 rfl j]
          exact zr_ir (x := (-4)) (pc := 45) rfl rfl rfl ⟨ih1, (w2.wd rfl : zb_W [(44, 0), (44, 1), (45, 0), (46, 0), (47, 0), (44, 13)] h _), _, rfl, by dsimp only; exact ⟨by unfold zs_opn; omega, Or.inr ⟨by omega, by omega, fun j j0 => ⟨by rw [a45 j j0], by rw [a46 j j0], by rw [a47 j j0]⟩⟩, fun hc q q0 q1 q2 => by have d1 := a45 q q0; have d2 := a46 q q0; have d3 := hc q q0 q1; omega⟩⟩
      · refine zx_T.s (i := .bipush (-2)) (k := 2) (st' := [.int (zI ((-2)))]) (pc := 31) rfl rfl ?_
        have y84 : zv_i h1 1 = zv_i h 1 := (zv_wi w2 rfl)
        have y85 : zv_i h1 13 = zv_i h 13 := (zv_wi w2 rfl)
        have a45 : ∀ j, 0 ≤ j → zv_a h1 45 j = zv_a h 45 j := fun j hj => by rw [zv_wa w2 rfl j]
        have a46 : ∀ j, 0 ≤ j → zv_a h1 46 j = zv_a h 46 j := fun j hj => by rw [zv_wa w2 rfl j]
        have a47 : ∀ j, 0 ≤ j → zv_a h1 47 j = zv_a h 47 j := fun j hj => by rw [zv_wa w2 rfl j]
        exact zr_ir (x := (-2)) (pc := 33) rfl rfl rfl ⟨ih1, (w2.wd rfl : zb_W [(44, 0), (44, 1), (45, 0), (46, 0), (47, 0), (44, 13)] h _), _, rfl, by dsimp only; exact ⟨by unfold zs_opn; omega, Or.inr ⟨by omega, by omega, fun j j0 => ⟨by rw [a45 j j0], by rw [a46 j j0], by rw [a47 j j0]⟩⟩, fun hc q q0 q1 q2 => by have d1 := a45 q q0; have d2 := a46 q q0; have d3 := hc q q0 q1; omega⟩⟩

set_option maxRecDepth 100000 in
set_option maxHeartbeats 4000000 in
theorem zm_handler {h : zx_H} (hI : zb_I zc_H h) {f : Int} {t : Int} {p : Int} {k : Int} (f1 : -2147483648 ≤ f) (f2 : f ≤ 2147483647) (t1 : -2147483648 ≤ t) (t2 : t ≤ 2147483647) (p1 : -2147483648 ≤ p) (p2 : p ≤ 2147483647) (k1 : -2147483648 ≤ k) (k2 : k ≤ 2147483647) : zx_T zp_P 1 zp_m198 0 [(0, .ref 44), (1, .int (zI (f))), (2, .int (zI (t))), (3, .int (zI (p))), (4, .int (zI (k)))] [] h (zr_R [(44, 0), (44, 5), (48, 0), (49, 0), (50, 0), (51, 0), (44, 13)] h (fun e h' => zs_hnd f t p k e (zv_i h 5) (zv_i h' 5) ∧ (zv_i h' 13 = 0 ∨ (zv_i h' 13 = zv_i h 13 ∧ zv_i h' 5 = zv_i h 5 ∧ ∀ j, 0 ≤ j → zv_a h' 48 j = zv_a h 48 j ∧ zv_a h' 49 j = zv_a h 49 j ∧ zv_a h' 50 j = zv_a h 50 j)) ∧ (zg_TI h → zg_TI h'))) := by
  have hP := zv_ri hI (k := 5) rfl
  refine zx_T.l (i := .aload_n 0) (k := 1) (v := .ref 44) (pc := 0) rfl rfl rfl ?_
  refine zx_T.s (i := .iconst 0) (k := 1) (st' := [.int (zI (0)), .ref 44]) (pc := 1) rfl rfl ?_
  refine zr_pi (k := 0) (lo := (-2147483648)) (hi := 2147483647) (e := 0) (pc := 2) rfl rfl rfl rfl rfl rfl hI (by omega) (by omega) (fun h1 ih1 w2 e3 => ?_)
  refine zx_T.l (i := .iload_n 1) (k := 1) (v := .int (zI (f))) (pc := 5) rfl rfl rfl ?_
  refine zx_T.s (i := .iconst 0) (k := 1) (st' := [.int (zI (0)), .int (zI (f))]) (pc := 6) rfl rfl ?_
  refine zx_T.s (i := .bipush 60) (k := 2) (st' := [.int (zI (60)), .int (zI (0)), .int (zI (f))]) (pc := 7) rfl rfl ?_
  refine zr_is (cj := 155) (q' := zp_m155) (As := [.int (zI (f)), .int (zI (0)), .int (zI (60))]) (rest := []) (pc := 9) rfl rfl rfl rfl rfl rfl (Nat.le_of_ble_eq_true rfl) rfl (Nat.le_of_ble_eq_true rfl) rfl ((zm_in (h := h1) ih1 (v := f) (l := 0) (u := 60) (by omega) (by omega) (by omega) (by omega) (by omega) (by omega)).up (Nat.le_of_ble_eq_true rfl)) ?_
  rintro r4 h7 ⟨h7q, v5, r4q, x6⟩
  subst h7q r4q
  try dsimp only at x6
  show zx_T zp_P 1 zp_m198 12 [(0, .ref 44), (1, .int (zI (f))), (2, .int (zI (t))), (3, .int (zI (p))), (4, .int (zI (k)))] [.int (zI (v5))] h1 _
  refine zr_i1 (x := v5) (t := 47) (pc := 12) rfl rfl (by omega) (by omega) (fun (c8 : v5 = 0) => ?_) (fun (c8 : ¬ (v5 = 0)) => ?_)
  · refine zx_T.s (i := .bipush (-2)) (k := 2) (st' := [.int (zI ((-2)))]) (pc := 47) rfl rfl ?_
    have y9 : zv_i h1 5 = zv_i h 5 := (zv_wi w2 rfl)
    have y10 : zv_i h1 13 = zv_i h 13 := (zv_wi w2 rfl)
    have a48 : ∀ j, 0 ≤ j → zv_a h1 48 j = zv_a h 48 j := fun j hj => by rw [zv_wa w2 rfl j]
    have a49 : ∀ j, 0 ≤ j → zv_a h1 49 j = zv_a h 49 j := fun j hj => by rw [zv_wa w2 rfl j]
    have a50 : ∀ j, 0 ≤ j → zv_a h1 50 j = zv_a h 50 j := fun j hj => by rw [zv_wa w2 rfl j]
    have a51 : ∀ j, 0 ≤ j → zv_a h1 51 j = zv_a h 51 j := fun j hj => by rw [zv_wa w2 rfl j]
    exact zr_ir (x := (-2)) (pc := 49) rfl rfl rfl ⟨ih1, (w2.wd rfl : zb_W [(44, 0), (44, 5), (48, 0), (49, 0), (50, 0), (51, 0), (44, 13)] h _), _, rfl, by dsimp only; exact ⟨by unfold zs_hnd; omega, Or.inr ⟨by omega, by omega, fun j j0 => ⟨by rw [a48 j j0], by rw [a49 j j0], by rw [a50 j j0]⟩⟩, fun hc q q0 q1 => by have d1 := a51 q q0; have d3 := hc q q0 q1; omega⟩⟩
  · refine zx_T.l (i := .iload_n 2) (k := 1) (v := .int (zI (t))) (pc := 15) rfl rfl rfl ?_
    refine zx_T.s (i := .iconst 0) (k := 1) (st' := [.int (zI (0)), .int (zI (t))]) (pc := 16) rfl rfl ?_
    refine zx_T.s (i := .bipush 60) (k := 2) (st' := [.int (zI (60)), .int (zI (0)), .int (zI (t))]) (pc := 17) rfl rfl ?_
    refine zr_is (cj := 155) (q' := zp_m155) (As := [.int (zI (t)), .int (zI (0)), .int (zI (60))]) (rest := []) (pc := 19) rfl rfl rfl rfl rfl rfl (Nat.le_of_ble_eq_true rfl) rfl (Nat.le_of_ble_eq_true rfl) rfl ((zm_in (h := h1) ih1 (v := t) (l := 0) (u := 60) (by omega) (by omega) (by omega) (by omega) (by omega) (by omega)).up (Nat.le_of_ble_eq_true rfl)) ?_
    rintro r15 h18 ⟨h18q, v16, r15q, x17⟩
    subst h18q r15q
    try dsimp only at x17
    show zx_T zp_P 1 zp_m198 22 [(0, .ref 44), (1, .int (zI (f))), (2, .int (zI (t))), (3, .int (zI (p))), (4, .int (zI (k)))] [.int (zI (v16))] h1 _
    refine zr_i1 (x := v16) (t := 47) (pc := 22) rfl rfl (by omega) (by omega) (fun (c19 : v16 = 0) => ?_) (fun (c19 : ¬ (v16 = 0)) => ?_)
    · refine zx_T.s (i := .bipush (-2)) (k := 2) (st' := [.int (zI ((-2)))]) (pc := 47) rfl rfl ?_
      have y20 : zv_i h1 5 = zv_i h 5 := (zv_wi w2 rfl)
      have y21 : zv_i h1 13 = zv_i h 13 := (zv_wi w2 rfl)
      have a48 : ∀ j, 0 ≤ j → zv_a h1 48 j = zv_a h 48 j := fun j hj => by rw [zv_wa w2 rfl j]
      have a49 : ∀ j, 0 ≤ j → zv_a h1 49 j = zv_a h 49 j := fun j hj => by rw [zv_wa w2 rfl j]
      have a50 : ∀ j, 0 ≤ j → zv_a h1 50 j = zv_a h 50 j := fun j hj => by rw [zv_wa w2 rfl j]
      have a51 : ∀ j, 0 ≤ j → zv_a h1 51 j = zv_a h 51 j := fun j hj => by rw [zv_wa w2 rfl j]
      exact zr_ir (x := (-2)) (pc := 49) rfl rfl rfl ⟨ih1, (w2.wd rfl : zb_W [(44, 0), (44, 5), (48, 0), (49, 0), (50, 0), (51, 0), (44, 13)] h _), _, rfl, by dsimp only; exact ⟨by unfold zs_hnd; omega, Or.inr ⟨by omega, by omega, fun j j0 => ⟨by rw [a48 j j0], by rw [a49 j j0], by rw [a50 j j0]⟩⟩, fun hc q q0 q1 => by have d1 := a51 q q0; have d3 := hc q q0 q1; omega⟩⟩
    · refine zx_T.l (i := .iload_n 3) (k := 1) (v := .int (zI (p))) (pc := 25) rfl rfl rfl ?_
      refine zx_T.s (i := .iconst 0) (k := 1) (st' := [.int (zI (0)), .int (zI (p))]) (pc := 26) rfl rfl ?_
      refine zx_T.s (i := .bipush 60) (k := 2) (st' := [.int (zI (60)), .int (zI (0)), .int (zI (p))]) (pc := 27) rfl rfl ?_
      refine zr_is (cj := 155) (q' := zp_m155) (As := [.int (zI (p)), .int (zI (0)), .int (zI (60))]) (rest := []) (pc := 29) rfl rfl rfl rfl rfl rfl (Nat.le_of_ble_eq_true rfl) rfl (Nat.le_of_ble_eq_true rfl) rfl ((zm_in (h := h1) ih1 (v := p) (l := 0) (u := 60) (by omega) (by omega) (by omega) (by omega) (by omega) (by omega)).up (Nat.le_of_ble_eq_true rfl)) ?_
      rintro r26 h29 ⟨h29q, v27, r26q, x28⟩
      subst h29q r26q
      try dsimp only at x28
      show zx_T zp_P 1 zp_m198 32 [(0, .ref 44), (1, .int (zI (f))), (2, .int (zI (t))), (3, .int (zI (p))), (4, .int (zI (k)))] [.int (zI (v27))] h1 _
      refine zr_i1 (x := v27) (t := 47) (pc := 32) rfl rfl (by omega) (by omega) (fun (c30 : v27 = 0) => ?_) (fun (c30 : ¬ (v27 = 0)) => ?_)
      · refine zx_T.s (i := .bipush (-2)) (k := 2) (st' := [.int (zI ((-2)))]) (pc := 47) rfl rfl ?_
        have y31 : zv_i h1 5 = zv_i h 5 := (zv_wi w2 rfl)
        have y32 : zv_i h1 13 = zv_i h 13 := (zv_wi w2 rfl)
        have a48 : ∀ j, 0 ≤ j → zv_a h1 48 j = zv_a h 48 j := fun j hj => by rw [zv_wa w2 rfl j]
        have a49 : ∀ j, 0 ≤ j → zv_a h1 49 j = zv_a h 49 j := fun j hj => by rw [zv_wa w2 rfl j]
        have a50 : ∀ j, 0 ≤ j → zv_a h1 50 j = zv_a h 50 j := fun j hj => by rw [zv_wa w2 rfl j]
        have a51 : ∀ j, 0 ≤ j → zv_a h1 51 j = zv_a h 51 j := fun j hj => by rw [zv_wa w2 rfl j]
        exact zr_ir (x := (-2)) (pc := 49) rfl rfl rfl ⟨ih1, (w2.wd rfl : zb_W [(44, 0), (44, 5), (48, 0), (49, 0), (50, 0), (51, 0), (44, 13)] h _), _, rfl, by dsimp only; exact ⟨by unfold zs_hnd; omega, Or.inr ⟨by omega, by omega, fun j j0 => ⟨by rw [a48 j j0], by rw [a49 j j0], by rw [a50 j j0]⟩⟩, fun hc q q0 q1 => by have d1 := a51 q q0; have d3 := hc q q0 q1; omega⟩⟩
      · refine zx_T.l (i := .iload 4) (k := 2) (v := .int (zI (k))) (pc := 35) rfl rfl rfl ?_
        refine zx_T.s (i := .bipush 7) (k := 2) (st' := [.int (zI (7)), .int (zI (k))]) (pc := 37) rfl rfl ?_
        refine zx_T.s (i := .bipush 8) (k := 2) (st' := [.int (zI (8)), .int (zI (7)), .int (zI (k))]) (pc := 39) rfl rfl ?_
        refine zr_is (cj := 155) (q' := zp_m155) (As := [.int (zI (k)), .int (zI (7)), .int (zI (8))]) (rest := []) (pc := 41) rfl rfl rfl rfl rfl rfl (Nat.le_of_ble_eq_true rfl) rfl (Nat.le_of_ble_eq_true rfl) rfl ((zm_in (h := h1) ih1 (v := k) (l := 7) (u := 8) (by omega) (by omega) (by omega) (by omega) (by omega) (by omega)).up (Nat.le_of_ble_eq_true rfl)) ?_
        rintro r37 h40 ⟨h40q, v38, r37q, x39⟩
        subst h40q r37q
        try dsimp only at x39
        show zx_T zp_P 1 zp_m198 44 [(0, .ref 44), (1, .int (zI (f))), (2, .int (zI (t))), (3, .int (zI (p))), (4, .int (zI (k)))] [.int (zI (v38))] h1 _
        refine zr_i1 (x := v38) (t := 50) (pc := 44) rfl rfl (by omega) (by omega) (fun (c41 : ¬ v38 = 0) => ?_) (fun (c41 : ¬ (¬ v38 = 0)) => ?_)
        · refine zx_T.l (i := .aload_n 0) (k := 1) (v := .ref 44) (pc := 50) rfl rfl rfl ?_
          refine zr_gi (k := 5) (lo := 0) (hi := 6) (e := zv_i h 5) (pc := 51) rfl rfl rfl ih1 (zv_wi w2 rfl) (fun g42a g42b => ?_)
          refine zx_T.s (i := .bipush 6) (k := 2) (st' := [.int (zI (6)), .int (zI (zv_i h 5))]) (pc := 54) rfl rfl ?_
          refine zr_i2 (x := zv_i h 5) (y := 6) (t := 62) (pc := 56) rfl rfl (by omega) (by omega) (by omega) (by omega) (fun (c43 : ¬ (zv_i h 5) = 6) => ?_) (fun (c43 : ¬ (¬ (zv_i h 5) = 6)) => ?_)
          · refine zx_T.l (i := .aload_n 0) (k := 1) (v := .ref 44) (pc := 62) rfl rfl rfl ?_
            refine zr_gr (k := 6) (b := 48) (pc := 63) rfl rfl rfl ih1 ?_
            refine zx_T.l (i := .aload_n 0) (k := 1) (v := .ref 44) (pc := 66) rfl rfl rfl ?_
            refine zr_gi (k := 5) (lo := 0) (hi := 6) (e := zv_i h 5) (pc := 67) rfl rfl rfl ih1 (zv_wi w2 rfl) (fun g44a g44b => ?_)
            refine zx_T.l (i := .iload_n 1) (k := 1) (v := .int (zI (f))) (pc := 70) rfl rfl rfl ?_
            refine zr_as (n := 6) (lo := 0) (hi := 60) (e := f) (pc := 71) rfl rfl rfl rfl ih1 (by omega) (by omega) (by omega) (by omega) (fun h45 ih45 w46 s47 => ?_)
            refine zx_T.l (i := .aload_n 0) (k := 1) (v := .ref 44) (pc := 72) rfl rfl rfl ?_
            refine zr_gr (k := 7) (b := 49) (pc := 73) rfl rfl rfl ih45 ?_
            refine zx_T.l (i := .aload_n 0) (k := 1) (v := .ref 44) (pc := 76) rfl rfl rfl ?_
            refine zr_gi (k := 5) (lo := 0) (hi := 6) (e := zv_i h 5) (pc := 77) rfl rfl rfl ih45 ((zv_wi w46 rfl).trans (zv_wi w2 rfl)) (fun g48a g48b => ?_)
            refine zx_T.l (i := .iload_n 2) (k := 1) (v := .int (zI (t))) (pc := 80) rfl rfl rfl ?_
            refine zr_as (n := 6) (lo := 0) (hi := 60) (e := t) (pc := 81) rfl rfl rfl rfl ih45 (by omega) (by omega) (by omega) (by omega) (fun h49 ih49 w50 s51 => ?_)
            refine zx_T.l (i := .aload_n 0) (k := 1) (v := .ref 44) (pc := 82) rfl rfl rfl ?_
            refine zr_gr (k := 8) (b := 50) (pc := 83) rfl rfl rfl ih49 ?_
            refine zx_T.l (i := .aload_n 0) (k := 1) (v := .ref 44) (pc := 86) rfl rfl rfl ?_
            refine zr_gi (k := 5) (lo := 0) (hi := 6) (e := zv_i h 5) (pc := 87) rfl rfl rfl ih49 ((zv_wi w50 rfl).trans ((zv_wi w46 rfl).trans (zv_wi w2 rfl))) (fun g52a g52b => ?_)
            refine zx_T.l (i := .iload_n 3) (k := 1) (v := .int (zI (p))) (pc := 90) rfl rfl rfl ?_
            refine zr_as (n := 6) (lo := 0) (hi := 60) (e := p) (pc := 91) rfl rfl rfl rfl ih49 (by omega) (by omega) (by omega) (by omega) (fun h53 ih53 w54 s55 => ?_)
            refine zx_T.l (i := .aload_n 0) (k := 1) (v := .ref 44) (pc := 92) rfl rfl rfl ?_
            refine zr_gr (k := 9) (b := 51) (pc := 93) rfl rfl rfl ih53 ?_
            refine zx_T.l (i := .aload_n 0) (k := 1) (v := .ref 44) (pc := 96) rfl rfl rfl ?_
            refine zr_gi (k := 5) (lo := 0) (hi := 6) (e := zv_i h 5) (pc := 97) rfl rfl rfl ih53 ((zv_wi w54 rfl).trans ((zv_wi w50 rfl).trans ((zv_wi w46 rfl).trans (zv_wi w2 rfl)))) (fun g56a g56b => ?_)
            refine zx_T.l (i := .iload 4) (k := 2) (v := .int (zI (k))) (pc := 100) rfl rfl rfl ?_
            refine zr_as (n := 6) (lo := 0) (hi := 8) (e := k) (pc := 102) rfl rfl rfl rfl ih53 (by omega) (by omega) (by omega) (by omega) (fun h57 ih57 w58 s59 => ?_)
            refine zx_T.l (i := .aload_n 0) (k := 1) (v := .ref 44) (pc := 103) rfl rfl rfl ?_
            refine zx_T.s (i := .dup) (k := 1) (st' := [.ref 44, .ref 44]) (pc := 104) rfl rfl ?_
            refine zr_gi (k := 5) (lo := 0) (hi := 6) (e := zv_i h 5) (pc := 105) rfl rfl rfl ih57 ((zv_wi w58 rfl).trans ((zv_wi w54 rfl).trans ((zv_wi w50 rfl).trans ((zv_wi w46 rfl).trans (zv_wi w2 rfl))))) (fun g60a g60b => ?_)
            refine zx_T.s (i := .iconst 1) (k := 1) (st' := [.int (zI (1)), .int (zI (zv_i h 5)), .ref 44]) (pc := 108) rfl rfl ?_
            refine zr_add (x := zv_i h 5) (y := 1) (e := zv_i h 5 + 1) (pc := 109) rfl (by omega) ?_
            refine zr_pi (k := 5) (lo := 0) (hi := 6) (e := zv_i h 5 + 1) (pc := 110) rfl rfl rfl rfl rfl rfl ih57 (by omega) (by omega) (fun h61 ih61 w62 e63 => ?_)
            refine zx_T.l (i := .aload_n 0) (k := 1) (v := .ref 44) (pc := 113) rfl rfl rfl ?_
            refine zx_T.s (i := .iconst 0) (k := 1) (st' := [.int (zI (0)), .ref 44]) (pc := 114) rfl rfl ?_
            refine zr_pi (k := 13) (lo := 0) (hi := 1) (e := 0) (pc := 115) rfl rfl rfl rfl rfl rfl ih61 (by omega) (by omega) (fun h64 ih64 w65 e66 => ?_)
            refine zx_T.l (i := .aload_n 0) (k := 1) (v := .ref 44) (pc := 118) rfl rfl rfl ?_
            refine zr_gi (k := 5) (lo := 0) (hi := 6) (e := zv_i h 5 + 1) (pc := 119) rfl rfl rfl ih64 ((zv_wi w65 rfl).trans e63) (fun g67a g67b => ?_)
            refine zx_T.s (i := .iconst 1) (k := 1) (st' := [.int (zI (1)), .int (zI (zv_i h 5 + 1))]) (pc := 122) rfl rfl ?_
            refine zr_sub (x := zv_i h 5 + 1) (y := 1) (e := zv_i h 5) (pc := 123) rfl (by omega) ?_
            have y68 : zv_i h64 5 = zv_i h 5 + 1 := ((zv_wi w65 rfl).trans e63)
            have y69 : zv_i h64 13 = 0 := e66
            have a48 : ∀ j, 0 ≤ j → zv_a h64 48 j = if j = zv_i h 5 then f else zv_a h 48 j := fun j hj => by rw [zv_wa w65 rfl j, zv_wa w62 rfl j, zv_wa w58 rfl j, zv_wa w54 rfl j, zv_wa w50 rfl j, s47 j hj, zv_wa w2 rfl j]
            have a49 : ∀ j, 0 ≤ j → zv_a h64 49 j = if j = zv_i h 5 then t else zv_a h 49 j := fun j hj => by rw [zv_wa w65 rfl j, zv_wa w62 rfl j, zv_wa w58 rfl j, zv_wa w54 rfl j, s51 j hj, zv_wa w46 rfl j, zv_wa w2 rfl j]
            have a50 : ∀ j, 0 ≤ j → zv_a h64 50 j = if j = zv_i h 5 then p else zv_a h 50 j := fun j hj => by rw [zv_wa w65 rfl j, zv_wa w62 rfl j, zv_wa w58 rfl j, s55 j hj, zv_wa w50 rfl j, zv_wa w46 rfl j, zv_wa w2 rfl j]
            have a51 : ∀ j, 0 ≤ j → zv_a h64 51 j = if j = zv_i h 5 then k else zv_a h 51 j := fun j hj => by rw [zv_wa w65 rfl j, zv_wa w62 rfl j, s59 j hj, zv_wa w54 rfl j, zv_wa w50 rfl j, zv_wa w46 rfl j, zv_wa w2 rfl j]
            exact zr_ir (x := zv_i h 5) (pc := 124) rfl rfl rfl ⟨ih64, (((((((w2.wd rfl : zb_W [(44, 0), (44, 5), (48, 0), (49, 0), (50, 0), (51, 0), (44, 13)] h _).tr (w46.wd rfl)).tr (w50.wd rfl)).tr (w54.wd rfl)).tr (w58.wd rfl)).tr (w62.wd rfl)).tr (w65.wd rfl)), _, rfl, by dsimp only; exact ⟨by unfold zs_hnd; omega, Or.inl (by omega), fun hc q q0 q1 => by have d1 := a51 q q0; have d3 := hc q q0 q1; split at d1 <;> omega⟩⟩
          · refine zx_T.s (i := .bipush (-4)) (k := 2) (st' := [.int (zI ((-4)))]) (pc := 59) rfl rfl ?_
            have y74 : zv_i h1 5 = zv_i h 5 := (zv_wi w2 rfl)
            have y75 : zv_i h1 13 = zv_i h 13 := (zv_wi w2 rfl)
            have a48 : ∀ j, 0 ≤ j → zv_a h1 48 j = zv_a h 48 j := fun j hj => by rw [zv_wa w2 rfl j]
            have a49 : ∀ j, 0 ≤ j → zv_a h1 49 j = zv_a h 49 j := fun j hj => by rw [zv_wa w2 rfl j]
            have a50 : ∀ j, 0 ≤ j → zv_a h1 50 j = zv_a h 50 j := fun j hj => by rw [zv_wa w2 rfl j]
            have a51 : ∀ j, 0 ≤ j → zv_a h1 51 j = zv_a h 51 j := fun j hj => by rw [zv_wa w2 rfl j]
            exact zr_ir (x := (-4)) (pc := 61) rfl rfl rfl ⟨ih1, (w2.wd rfl : zb_W [(44, 0), (44, 5), (48, 0), (49, 0), (50, 0), (51, 0), (44, 13)] h _), _, rfl, by dsimp only; exact ⟨by unfold zs_hnd; omega, Or.inr ⟨by omega, by omega, fun j j0 => ⟨by rw [a48 j j0], by rw [a49 j j0], by rw [a50 j j0]⟩⟩, fun hc q q0 q1 => by have d1 := a51 q q0; have d3 := hc q q0 q1; omega⟩⟩
        · refine zx_T.s (i := .bipush (-2)) (k := 2) (st' := [.int (zI ((-2)))]) (pc := 47) rfl rfl ?_
          have y80 : zv_i h1 5 = zv_i h 5 := (zv_wi w2 rfl)
          have y81 : zv_i h1 13 = zv_i h 13 := (zv_wi w2 rfl)
          have a48 : ∀ j, 0 ≤ j → zv_a h1 48 j = zv_a h 48 j := fun j hj => by rw [zv_wa w2 rfl j]
          have a49 : ∀ j, 0 ≤ j → zv_a h1 49 j = zv_a h 49 j := fun j hj => by rw [zv_wa w2 rfl j]
          have a50 : ∀ j, 0 ≤ j → zv_a h1 50 j = zv_a h 50 j := fun j hj => by rw [zv_wa w2 rfl j]
          have a51 : ∀ j, 0 ≤ j → zv_a h1 51 j = zv_a h 51 j := fun j hj => by rw [zv_wa w2 rfl j]
          exact zr_ir (x := (-2)) (pc := 49) rfl rfl rfl ⟨ih1, (w2.wd rfl : zb_W [(44, 0), (44, 5), (48, 0), (49, 0), (50, 0), (51, 0), (44, 13)] h _), _, rfl, by dsimp only; exact ⟨by unfold zs_hnd; omega, Or.inr ⟨by omega, by omega, fun j j0 => ⟨by rw [a48 j j0], by rw [a49 j j0], by rw [a50 j j0]⟩⟩, fun hc q q0 q1 => by have d1 := a51 q q0; have d3 := hc q q0 q1; omega⟩⟩

set_option maxRecDepth 100000 in
set_option maxHeartbeats 4000000 in
theorem zm_clear {h : zx_H} (hI : zb_I zc_H h)   : zx_T zp_P 0 zp_m220 0 [(0, .ref 44)] [] h (zr_R [(44, 0), (44, 1), (44, 5), (44, 10), (44, 13)] h (fun e h' => e = zv_i h 1 ∧ zv_i h' 1 = 0 ∧ zv_i h' 5 = 0 ∧ zv_i h' 10 = 0 ∧ zv_i h' 13 = 0)) := by
  refine zx_T.l (i := .aload_n 0) (k := 1) (v := .ref 44) (pc := 0) rfl rfl rfl ?_
  refine zx_T.s (i := .iconst 0) (k := 1) (st' := [.int (zI (0)), .ref 44]) (pc := 1) rfl rfl ?_
  refine zr_pi (k := 0) (lo := (-2147483648)) (hi := 2147483647) (e := 0) (pc := 2) rfl rfl rfl rfl rfl rfl hI (by omega) (by omega) (fun h1 ih1 w2 e3 => ?_)
  refine zx_T.l (i := .aload_n 0) (k := 1) (v := .ref 44) (pc := 5) rfl rfl rfl ?_
  refine zr_gi (k := 1) (lo := 0) (hi := 60) (e := zv_i h 1) (pc := 6) rfl rfl rfl ih1 (zv_wi w2 rfl) (fun g4a g4b => ?_)
  refine zx_T.t (i := .istore_n 1) (k := 1) (ls' := [(1, .int (zI (zv_i h 1))), (0, .ref 44)]) (st' := []) (pc := 9) rfl rfl rfl rfl ?_
  refine zx_T.l (i := .aload_n 0) (k := 1) (v := .ref 44) (pc := 10) rfl rfl rfl ?_
  refine zx_T.s (i := .iconst 0) (k := 1) (st' := [.int (zI (0)), .ref 44]) (pc := 11) rfl rfl ?_
  refine zr_pi (k := 1) (lo := 0) (hi := 60) (e := 0) (pc := 12) rfl rfl rfl rfl rfl rfl ih1 (by omega) (by omega) (fun h5 ih5 w6 e7 => ?_)
  refine zx_T.l (i := .aload_n 0) (k := 1) (v := .ref 44) (pc := 15) rfl rfl rfl ?_
  refine zx_T.s (i := .iconst 0) (k := 1) (st' := [.int (zI (0)), .ref 44]) (pc := 16) rfl rfl ?_
  refine zr_pi (k := 5) (lo := 0) (hi := 6) (e := 0) (pc := 17) rfl rfl rfl rfl rfl rfl ih5 (by omega) (by omega) (fun h8 ih8 w9 e10 => ?_)
  refine zx_T.l (i := .aload_n 0) (k := 1) (v := .ref 44) (pc := 20) rfl rfl rfl ?_
  refine zx_T.s (i := .iconst 0) (k := 1) (st' := [.int (zI (0)), .ref 44]) (pc := 21) rfl rfl ?_
  refine zr_pi (k := 10) (lo := 0) (hi := 8) (e := 0) (pc := 22) rfl rfl rfl rfl rfl rfl ih8 (by omega) (by omega) (fun h11 ih11 w12 e13 => ?_)
  refine zx_T.l (i := .aload_n 0) (k := 1) (v := .ref 44) (pc := 25) rfl rfl rfl ?_
  refine zx_T.s (i := .iconst 0) (k := 1) (st' := [.int (zI (0)), .ref 44]) (pc := 26) rfl rfl ?_
  refine zr_pi (k := 13) (lo := 0) (hi := 1) (e := 0) (pc := 27) rfl rfl rfl rfl rfl rfl ih11 (by omega) (by omega) (fun h14 ih14 w15 e16 => ?_)
  refine zx_T.l (i := .iload_n 1) (k := 1) (v := .int (zI (zv_i h 1))) (pc := 30) rfl rfl rfl ?_
  have y17 : zv_i h14 1 = 0 := ((zv_wi w15 rfl).trans ((zv_wi w12 rfl).trans ((zv_wi w9 rfl).trans e7)))
  have y18 : zv_i h14 5 = 0 := ((zv_wi w15 rfl).trans ((zv_wi w12 rfl).trans e10))
  have y19 : zv_i h14 10 = 0 := ((zv_wi w15 rfl).trans e13)
  have y20 : zv_i h14 13 = 0 := e16
  exact zr_ir (x := zv_i h 1) (pc := 31) rfl rfl rfl ⟨ih14, (((((w2.wd rfl : zb_W [(44, 0), (44, 1), (44, 5), (44, 10), (44, 13)] h _).tr (w6.wd rfl)).tr (w9.wd rfl)).tr (w12.wd rfl)).tr (w15.wd rfl)), _, rfl, by dsimp only; exact ⟨by omega, by omega, by omega, by omega, by omega⟩⟩

set_option maxRecDepth 100000 in
set_option maxHeartbeats 4000000 in
theorem zm_argument {h : zx_H} (hI : zb_I zc_H h) {i : Int} {v : Int} (i1 : -2147483648 ≤ i) (i2 : i ≤ 2147483647) : zx_T zp_P 1 zp_m204 0 [(0, .ref 44), (1, .int (zI (i))), (2, .long (zL (v)))] [] h (zr_G [(44, 0), (53, 0)] h (fun e h' => zs_arg i v e (zv_b h 53) (zv_b h' 53))) := by
  refine zx_T.l (i := .aload_n 0) (k := 1) (v := .ref 44) (pc := 0) rfl rfl rfl ?_
  refine zx_T.s (i := .iconst 0) (k := 1) (st' := [.int (zI (0)), .ref 44]) (pc := 1) rfl rfl ?_
  refine zr_pi (k := 0) (lo := (-2147483648)) (hi := 2147483647) (e := 0) (pc := 2) rfl rfl rfl rfl rfl rfl hI (by omega) (by omega) (fun h1 ih1 w2 e3 => ?_)
  refine zx_T.l (i := .iload_n 1) (k := 1) (v := .int (zI (i))) (pc := 5) rfl rfl rfl ?_
  refine zx_T.s (i := .iconst 0) (k := 1) (st' := [.int (zI (0)), .int (zI (i))]) (pc := 6) rfl rfl ?_
  refine zx_T.s (i := .bipush 7) (k := 2) (st' := [.int (zI (7)), .int (zI (0)), .int (zI (i))]) (pc := 7) rfl rfl ?_
  refine zr_is (cj := 155) (q' := zp_m155) (As := [.int (zI (i)), .int (zI (0)), .int (zI (7))]) (rest := []) (pc := 9) rfl rfl rfl rfl rfl rfl (Nat.le_of_ble_eq_true rfl) rfl (Nat.le_of_ble_eq_true rfl) rfl ((zm_in (h := h1) ih1 (v := i) (l := 0) (u := 7) (by omega) (by omega) (by omega) (by omega) (by omega) (by omega)).up (Nat.le_of_ble_eq_true rfl)) ?_
  rintro r4 h7 ⟨h7q, v5, r4q, x6⟩
  subst h7q r4q
  try dsimp only at x6
  show zx_T zp_P 1 zp_m204 12 [(0, .ref 44), (1, .int (zI (i))), (2, .long (zL (v)))] [.int (zI (v5))] h1 _
  refine zr_i1 (x := v5) (t := 19) (pc := 12) rfl rfl (by omega) (by omega) (fun (c8 : ¬ v5 = 0) => ?_) (fun (c8 : ¬ (¬ v5 = 0)) => ?_)
  · refine zx_T.l (i := .aload_n 0) (k := 1) (v := .ref 44) (pc := 19) rfl rfl rfl ?_
    refine zr_gr (k := 12) (b := 53) (pc := 20) rfl rfl rfl ih1 ?_
    refine zx_T.l (i := .iload_n 1) (k := 1) (v := .int (zI (i))) (pc := 23) rfl rfl rfl ?_
    have g9 := zv_rb (h := h1) 53 i
    refine zr_ll (n := 8) (e := zv_b h 53 i) (pc := 24) rfl rfl rfl ih1 (by omega) (by omega) (zv_wb w2 rfl i) ?_
    rw [show zv_b h1 53 i = zv_b h 53 i from (zv_wb w2 rfl i)] at g9
    refine zx_T.t (i := .lstore 4) (k := 2) (ls' := [(4, .long (zL (zv_b h 53 i))), (0, .ref 44), (1, .int (zI (i))), (2, .long (zL (v)))]) (st' := []) (pc := 25) rfl rfl rfl rfl ?_
    refine zx_T.l (i := .aload_n 0) (k := 1) (v := .ref 44) (pc := 27) rfl rfl rfl ?_
    refine zr_gr (k := 12) (b := 53) (pc := 28) rfl rfl rfl ih1 ?_
    refine zx_T.l (i := .iload_n 1) (k := 1) (v := .int (zI (i))) (pc := 31) rfl rfl rfl ?_
    refine zx_T.l (i := .lload_n 2) (k := 1) (v := .long (zL (v))) (pc := 32) rfl rfl rfl ?_
    refine zr_ls (n := 8) (e := v) (pc := 33) rfl rfl rfl ih1 (by omega) (by omega) (fun h10 ih10 w11 s12 => ?_)
    refine zx_T.l (i := .lload 4) (k := 2) (v := .long (zL (zv_b h 53 i))) (pc := 34) rfl rfl rfl ?_
    have b53 : ∀ j, 0 ≤ j → zv_b h10 53 j = if j = i then (zL (v)).toInt else zv_b h 53 j := fun j hj => by rw [s12 j hj, zv_wb w2 rfl j]
    exact zr_lr (x := zv_b h 53 i) (pc := 36) rfl rfl ⟨ih10, ((w2.wd rfl : zb_W [(44, 0), (53, 0)] h _).tr (w11.wd rfl)), _, rfl, by dsimp only; exact Or.inr ⟨by omega, by omega, fun j j0 => by rw [b53 j j0]⟩⟩
  · refine zx_T.g (i := .ldc2_w 262) (k := 3) (st' := [.long (zL ((-2)))]) (h' := h1) (pc := 15) rfl rfl rfl rfl rfl rfl ?_
    have b53 : ∀ j, 0 ≤ j → zv_b h1 53 j = zv_b h 53 j := fun j hj => by rw [zv_wb w2 rfl j]
    exact zr_lr (x := (-2)) (pc := 18) rfl rfl ⟨ih1, (w2.wd rfl : zb_W [(44, 0), (53, 0)] h _), _, rfl, by dsimp only; exact Or.inl ⟨by omega, by omega, fun j j0 => by rw [b53 j j0]⟩⟩

set_option maxRecDepth 100000 in
set_option maxHeartbeats 4000000 in
theorem zm_cAddPar {h : zx_H} (hI : zb_I zc_H h) {c : Int} (c1 : -2147483648 ≤ c) (c2 : c ≤ 2147483647) (ok : c = 1 ∨ c = 2 ∨ (5 ≤ c ∧ c ≤ 8)) : zx_T zp_P 0 zp_m0 0 [(0, .ref 1), (1, .int (zI (c)))] [] h (zr_R [(9, 0), (1, 10)] h (fun e h' => ((((c = 2 ∧ 8 < zv_f h 1 10 + 2) ∨ (¬ c = 2 ∧ 8 < zv_f h 1 10 + 1)) ∧ e = -4 ∧ zv_f h' 1 10 = zv_f h 1 10)) ∨ (((c = 2 ∧ zv_f h 1 10 + 2 ≤ 8 ∧ zv_f h' 1 10 = zv_f h 1 10 + 2) ∨ (¬ c = 2 ∧ zv_f h 1 10 + 1 ≤ 8 ∧ zv_f h' 1 10 = zv_f h 1 10 + 1)) ∧ e = zv_f h 1 10))) := by
  refine zx_T.l (i := .iload_n 1) (k := 1) (v := .int (zI (c))) (pc := 0) rfl rfl rfl ?_
  refine zx_T.s (i := .iconst 2) (k := 1) (st' := [.int (zI (2)), .int (zI (c))]) (pc := 1) rfl rfl ?_
  refine zr_i2 (x := c) (y := 2) (t := 9) (pc := 2) rfl rfl (by omega) (by omega) (by omega) (by omega) (fun (c1 : ¬ c = 2) => ?_) (fun (c1 : ¬ (¬ c = 2)) => ?_)
  · refine zx_T.s (i := .iconst 1) (k := 1) (st' := [.int (zI (1))]) (pc := 9) rfl rfl ?_
    refine zx_T.t (i := .istore_n 2) (k := 1) (ls' := [(2, .int (zI (1))), (0, .ref 1), (1, .int (zI (c)))]) (st' := []) (pc := 10) rfl rfl rfl rfl ?_
    refine zx_T.l (i := .aload_n 0) (k := 1) (v := .ref 1) (pc := 11) rfl rfl rfl ?_
    refine zw_gi (k := 10) (lo := 0) (hi := 8) (e := zv_f h 1 10) (pc := 12) rfl rfl rfl hI rfl (fun g2a g2b => ?_)
    refine zx_T.l (i := .iload_n 2) (k := 1) (v := .int (zI (1))) (pc := 15) rfl rfl rfl ?_
    refine zr_add (x := zv_f h 1 10) (y := 1) (e := zv_f h 1 10 + 1) (pc := 16) rfl (by omega) ?_
    refine zx_T.s (i := .bipush 8) (k := 2) (st' := [.int (zI (8)), .int (zI (zv_f h 1 10 + 1))]) (pc := 17) rfl rfl ?_
    refine zr_i2 (x := zv_f h 1 10 + 1) (y := 8) (t := 25) (pc := 19) rfl rfl (by omega) (by omega) (by omega) (by omega) (fun (c3 : (zv_f h 1 10 + 1) ≤ 8) => ?_) (fun (c3 : ¬ ((zv_f h 1 10 + 1) ≤ 8)) => ?_)
    · refine zx_T.l (i := .aload_n 0) (k := 1) (v := .ref 1) (pc := 25) rfl rfl rfl ?_
      refine zw_gi (k := 10) (lo := 0) (hi := 8) (e := zv_f h 1 10) (pc := 26) rfl rfl rfl hI rfl (fun g4a g4b => ?_)
      refine zx_T.t (i := .istore_n 3) (k := 1) (ls' := [(3, .int (zI (zv_f h 1 10))), (2, .int (zI (1))), (0, .ref 1), (1, .int (zI (c)))]) (st' := []) (pc := 29) rfl rfl rfl rfl ?_
      refine zx_T.l (i := .aload_n 0) (k := 1) (v := .ref 1) (pc := 30) rfl rfl rfl ?_
      refine zw_gr (k := 9) (b := 9) (pc := 31) rfl rfl rfl hI ?_
      refine zx_T.l (i := .iload_n 3) (k := 1) (v := .int (zI (zv_f h 1 10))) (pc := 34) rfl rfl rfl ?_
      refine zx_T.l (i := .iload_n 1) (k := 1) (v := .int (zI (c))) (pc := 35) rfl rfl rfl ?_
      refine zr_as (n := 8) (lo := (-2147483648)) (hi := 2147483647) (e := c) (pc := 36) rfl rfl rfl rfl hI (by omega) (by omega) (by omega) (by omega) (fun h5 ih5 w6 s7 => ?_)
      refine zx_T.l (i := .iload_n 2) (k := 1) (v := .int (zI (1))) (pc := 37) rfl rfl rfl ?_
      refine zx_T.s (i := .iconst 2) (k := 1) (st' := [.int (zI (2)), .int (zI (1))]) (pc := 38) rfl rfl ?_
      refine zr_i2 (x := 1) (y := 2) (t := 51) (pc := 39) rfl rfl (by omega) (by omega) (by omega) (by omega) (fun _ => ?_) (fun (c8 : ¬ (¬ 1 = 2)) => absurd (by decide) c8)
      refine zx_T.l (i := .aload_n 0) (k := 1) (v := .ref 1) (pc := 51) rfl rfl rfl ?_
      refine zx_T.s (i := .dup) (k := 1) (st' := [.ref 1, .ref 1]) (pc := 52) rfl rfl ?_
      refine zw_gi (k := 10) (lo := 0) (hi := 8) (e := zv_f h 1 10) (pc := 53) rfl rfl rfl ih5 (zv_wf w6 rfl) (fun g9a g9b => ?_)
      refine zx_T.l (i := .iload_n 2) (k := 1) (v := .int (zI (1))) (pc := 56) rfl rfl rfl ?_
      refine zr_add (x := zv_f h 1 10) (y := 1) (e := zv_f h 1 10 + 1) (pc := 57) rfl (by omega) ?_
      refine zw_pi (k := 10) (lo := 0) (hi := 8) (e := zv_f h 1 10 + 1) (pc := 58) rfl rfl rfl rfl rfl rfl ih5 (by omega) (by omega) (fun h10 ih10 w11 e12 => ?_)
      refine zx_T.l (i := .iload_n 3) (k := 1) (v := .int (zI (zv_f h 1 10))) (pc := 61) rfl rfl rfl ?_
      have y13 : zv_f h10 1 10 = zv_f h 1 10 + 1 := e12
      exact zr_ir (x := zv_f h 1 10) (pc := 62) rfl rfl rfl ⟨ih10, ((w6.wd rfl : zb_W [(9, 0), (1, 10)] h _).tr (w11.wd rfl)), _, rfl, by dsimp only; omega⟩
    · refine zx_T.s (i := .bipush (-4)) (k := 2) (st' := [.int (zI ((-4)))]) (pc := 22) rfl rfl ?_
      exact zr_ir (x := (-4)) (pc := 24) rfl rfl rfl ⟨hI, zb_W.rf, _, rfl, by dsimp only; omega⟩
  · refine zx_T.s (i := .iconst 2) (k := 1) (st' := [.int (zI (2))]) (pc := 5) rfl rfl ?_
    refine zx_T.j (i := .goto 4) (k := 3) (pc' := 10) (st' := [.int (zI (2))]) (pc := 6) rfl rfl rfl rfl rfl ?_
    refine zx_T.t (i := .istore_n 2) (k := 1) (ls' := [(2, .int (zI (2))), (0, .ref 1), (1, .int (zI (c)))]) (st' := []) (pc := 10) rfl rfl rfl rfl ?_
    refine zx_T.l (i := .aload_n 0) (k := 1) (v := .ref 1) (pc := 11) rfl rfl rfl ?_
    refine zw_gi (k := 10) (lo := 0) (hi := 8) (e := zv_f h 1 10) (pc := 12) rfl rfl rfl hI rfl (fun g15a g15b => ?_)
    refine zx_T.l (i := .iload_n 2) (k := 1) (v := .int (zI (2))) (pc := 15) rfl rfl rfl ?_
    refine zr_add (x := zv_f h 1 10) (y := 2) (e := zv_f h 1 10 + 2) (pc := 16) rfl (by omega) ?_
    refine zx_T.s (i := .bipush 8) (k := 2) (st' := [.int (zI (8)), .int (zI (zv_f h 1 10 + 2))]) (pc := 17) rfl rfl ?_
    refine zr_i2 (x := zv_f h 1 10 + 2) (y := 8) (t := 25) (pc := 19) rfl rfl (by omega) (by omega) (by omega) (by omega) (fun (c16 : (zv_f h 1 10 + 2) ≤ 8) => ?_) (fun (c16 : ¬ ((zv_f h 1 10 + 2) ≤ 8)) => ?_)
    · refine zx_T.l (i := .aload_n 0) (k := 1) (v := .ref 1) (pc := 25) rfl rfl rfl ?_
      refine zw_gi (k := 10) (lo := 0) (hi := 8) (e := zv_f h 1 10) (pc := 26) rfl rfl rfl hI rfl (fun g17a g17b => ?_)
      refine zx_T.t (i := .istore_n 3) (k := 1) (ls' := [(3, .int (zI (zv_f h 1 10))), (2, .int (zI (2))), (0, .ref 1), (1, .int (zI (c)))]) (st' := []) (pc := 29) rfl rfl rfl rfl ?_
      refine zx_T.l (i := .aload_n 0) (k := 1) (v := .ref 1) (pc := 30) rfl rfl rfl ?_
      refine zw_gr (k := 9) (b := 9) (pc := 31) rfl rfl rfl hI ?_
      refine zx_T.l (i := .iload_n 3) (k := 1) (v := .int (zI (zv_f h 1 10))) (pc := 34) rfl rfl rfl ?_
      refine zx_T.l (i := .iload_n 1) (k := 1) (v := .int (zI (c))) (pc := 35) rfl rfl rfl ?_
      refine zr_as (n := 8) (lo := (-2147483648)) (hi := 2147483647) (e := c) (pc := 36) rfl rfl rfl rfl hI (by omega) (by omega) (by omega) (by omega) (fun h18 ih18 w19 s20 => ?_)
      refine zx_T.l (i := .iload_n 2) (k := 1) (v := .int (zI (2))) (pc := 37) rfl rfl rfl ?_
      refine zx_T.s (i := .iconst 2) (k := 1) (st' := [.int (zI (2)), .int (zI (2))]) (pc := 38) rfl rfl ?_
      refine zr_i2 (x := 2) (y := 2) (t := 51) (pc := 39) rfl rfl (by omega) (by omega) (by omega) (by omega) (fun (c21 : ¬ 2 = 2) => absurd c21 (by decide)) (fun _ => ?_)
      refine zx_T.l (i := .aload_n 0) (k := 1) (v := .ref 1) (pc := 42) rfl rfl rfl ?_
      refine zw_gr (k := 9) (b := 9) (pc := 43) rfl rfl rfl ih18 ?_
      refine zx_T.l (i := .iload_n 3) (k := 1) (v := .int (zI (zv_f h 1 10))) (pc := 46) rfl rfl rfl ?_
      refine zx_T.s (i := .iconst 1) (k := 1) (st' := [.int (zI (1)), .int (zI (zv_f h 1 10)), .ref 9]) (pc := 47) rfl rfl ?_
      refine zr_add (x := zv_f h 1 10) (y := 1) (e := zv_f h 1 10 + 1) (pc := 48) rfl (by omega) ?_
      refine zx_T.s (i := .iconst 3) (k := 1) (st' := [.int (zI (3)), .int (zI (zv_f h 1 10 + 1)), .ref 9]) (pc := 49) rfl rfl ?_
      refine zr_as (n := 8) (lo := (-2147483648)) (hi := 2147483647) (e := 3) (pc := 50) rfl rfl rfl rfl ih18 (by omega) (by omega) (by omega) (by omega) (fun h22 ih22 w23 s24 => ?_)
      refine zx_T.l (i := .aload_n 0) (k := 1) (v := .ref 1) (pc := 51) rfl rfl rfl ?_
      refine zx_T.s (i := .dup) (k := 1) (st' := [.ref 1, .ref 1]) (pc := 52) rfl rfl ?_
      refine zw_gi (k := 10) (lo := 0) (hi := 8) (e := zv_f h 1 10) (pc := 53) rfl rfl rfl ih22 ((zv_wf w23 rfl).trans (zv_wf w19 rfl)) (fun g25a g25b => ?_)
      refine zx_T.l (i := .iload_n 2) (k := 1) (v := .int (zI (2))) (pc := 56) rfl rfl rfl ?_
      refine zr_add (x := zv_f h 1 10) (y := 2) (e := zv_f h 1 10 + 2) (pc := 57) rfl (by omega) ?_
      refine zw_pi (k := 10) (lo := 0) (hi := 8) (e := zv_f h 1 10 + 2) (pc := 58) rfl rfl rfl rfl rfl rfl ih22 (by omega) (by omega) (fun h26 ih26 w27 e28 => ?_)
      refine zx_T.l (i := .iload_n 3) (k := 1) (v := .int (zI (zv_f h 1 10))) (pc := 61) rfl rfl rfl ?_
      have y29 : zv_f h26 1 10 = zv_f h 1 10 + 2 := e28
      exact zr_ir (x := zv_f h 1 10) (pc := 62) rfl rfl rfl ⟨ih26, (((w19.wd rfl : zb_W [(9, 0), (1, 10)] h _).tr (w23.wd rfl)).tr (w27.wd rfl)), _, rfl, by dsimp only; omega⟩
    · refine zx_T.s (i := .bipush (-4)) (k := 2) (st' := [.int (zI ((-4)))]) (pc := 22) rfl rfl ?_
      exact zr_ir (x := (-4)) (pc := 24) rfl rfl rfl ⟨hI, zb_W.rf, _, rfl, by dsimp only; omega⟩

set_option maxRecDepth 100000 in
set_option maxHeartbeats 4000000 in
theorem zm_cUndo {h : zx_H} (hI : zb_I zc_H h)   : zx_T zp_P 0 zp_m78 0 [(0, .ref 16)] [] h (zr_V [(16, 4)] h (fun h' => zv_f h' 16 4 = 0)) := by
  refine zx_T.l (i := .aload_n 0) (k := 1) (v := .ref 16) (pc := 0) rfl rfl rfl ?_
  refine zx_T.s (i := .iconst 0) (k := 1) (st' := [.int (zI (0)), .ref 16]) (pc := 1) rfl rfl ?_
  refine zw_pi (k := 4) (lo := 0) (hi := 1) (e := 0) (pc := 2) rfl rfl rfl rfl rfl rfl hI (by omega) (by omega) (fun h1 ih1 w2 e3 => ?_)
  have y4 : zv_f h1 16 4 = 0 := e3
  exact zr_vr (pc := 5) rfl rfl ⟨ih1, (w2.wd rfl : zb_W [(16, 4)] h _), rfl, by dsimp only; omega⟩

set_option maxRecDepth 100000 in
set_option maxHeartbeats 4000000 in
theorem zm_cParameter {h : zx_H} (hI : zb_I zc_H h) {c : Int} (c1 : -2147483648 ≤ c) (c2 : c ≤ 2147483647) : zx_T zp_P 1 zp_m136 0 [(0, .ref 0), (1, .int (zI (c)))] [] h (zr_R [(9, 0), (1, 10), (16, 4)] h (fun e h' => zs_par c e (zv_f h 1 10) (zv_f h' 1 10))) := by
  have hP := zw_ri hI (a := 1) (k := 10) rfl
  refine zx_T.l (i := .iload_n 1) (k := 1) (v := .int (zI (c))) (pc := 0) rfl rfl rfl ?_
  refine zx_T.s (i := .iconst 1) (k := 1) (st' := [.int (zI (1)), .int (zI (c))]) (pc := 1) rfl rfl ?_
  refine zr_i2 (x := c) (y := 1) (t := 24) (pc := 2) rfl rfl (by omega) (by omega) (by omega) (by omega) (fun (c1 : c = 1) => ?_) (fun (c1 : ¬ (c = 1)) => ?_)
  · refine zx_T.l (i := .aload_n 0) (k := 1) (v := .ref 0) (pc := 24) rfl rfl rfl ?_
    refine zw_gr (k := 0) (b := 1) (pc := 25) rfl rfl rfl hI ?_
    refine zx_T.l (i := .iload_n 1) (k := 1) (v := .int (zI (c))) (pc := 28) rfl rfl rfl ?_
    refine zw_iv (b := 1) (cj := 0) (q' := zp_m0) (As := [.int (zI (c))]) (rest := []) (pc := 29) rfl rfl rfl rfl rfl rfl rfl (Nat.le_of_ble_eq_true rfl) rfl (Nat.le_of_ble_eq_true rfl) hI ((zm_cAddPar (h := h) hI (c := c) (by omega) (by omega) (by omega)).up (Nat.le_of_ble_eq_true rfl)) ?_
    rintro r3 h6 ⟨ih6, w7, v4, r3q, x5⟩
    subst r3q
    try dsimp only at x5
    show zx_T zp_P 1 zp_m136 32 [(0, .ref 0), (1, .int (zI (c)))] [.int (zI (v4))] h6 _
    refine zx_T.t (i := .istore_n 2) (k := 1) (ls' := [(2, .int (zI (v4))), (0, .ref 0), (1, .int (zI (c)))]) (st' := []) (pc := 32) rfl rfl rfl rfl ?_
    refine zx_T.l (i := .iload_n 2) (k := 1) (v := .int (zI (v4))) (pc := 33) rfl rfl rfl ?_
    refine zx_T.s (i := .bipush (-4)) (k := 2) (st' := [.int (zI ((-4))), .int (zI (v4))]) (pc := 34) rfl rfl ?_
    refine zr_i2 (x := v4) (y := (-4)) (t := 46) (pc := 36) rfl rfl (by omega) (by omega) (by omega) (by omega) (fun (c8 : v4 = (-4)) => ?_) (fun (c8 : ¬ (v4 = (-4))) => ?_)
    · refine zx_T.l (i := .iload_n 2) (k := 1) (v := .int (zI (v4))) (pc := 46) rfl rfl rfl ?_
      exact zr_ir (x := v4) (pc := 47) rfl rfl rfl ⟨ih6, (w7.wd rfl : zb_W [(9, 0), (1, 10), (16, 4)] h _), _, rfl, by dsimp only; unfold zs_par; omega⟩
    · refine zx_T.l (i := .aload_n 0) (k := 1) (v := .ref 0) (pc := 39) rfl rfl rfl ?_
      refine zw_gr (k := 2) (b := 16) (pc := 40) rfl rfl rfl ih6 ?_
      refine zw_iv (b := 16) (cj := 78) (q' := zp_m78) (As := []) (rest := []) (pc := 43) rfl rfl rfl rfl rfl rfl rfl (Nat.le_of_ble_eq_true rfl) rfl (Nat.le_of_ble_eq_true rfl) ih6 ((zm_cUndo (h := h6) ih6  ).up (Nat.le_of_ble_eq_true rfl)) ?_
      rintro r10 h13 ⟨ih13, w14, r10q, x12⟩
      subst r10q
      try dsimp only at x12
      show zx_T zp_P 1 zp_m136 46 [(2, .int (zI (v4))), (0, .ref 0), (1, .int (zI (c)))] [] h13 _
      refine zx_T.l (i := .iload_n 2) (k := 1) (v := .int (zI (v4))) (pc := 46) rfl rfl rfl ?_
      have y15 : zv_f h13 1 10 = zv_f h6 1 10 := (zv_wf w14 rfl)
      exact zr_ir (x := v4) (pc := 47) rfl rfl rfl ⟨ih13, ((w7.wd rfl : zb_W [(9, 0), (1, 10), (16, 4)] h _).tr (w14.wd rfl)), _, rfl, by dsimp only; unfold zs_par; omega⟩
  · refine zx_T.l (i := .iload_n 1) (k := 1) (v := .int (zI (c))) (pc := 5) rfl rfl rfl ?_
    refine zx_T.s (i := .iconst 2) (k := 1) (st' := [.int (zI (2)), .int (zI (c))]) (pc := 6) rfl rfl ?_
    refine zr_i2 (x := c) (y := 2) (t := 24) (pc := 7) rfl rfl (by omega) (by omega) (by omega) (by omega) (fun (c16 : c = 2) => ?_) (fun (c16 : ¬ (c = 2)) => ?_)
    · refine zx_T.l (i := .aload_n 0) (k := 1) (v := .ref 0) (pc := 24) rfl rfl rfl ?_
      refine zw_gr (k := 0) (b := 1) (pc := 25) rfl rfl rfl hI ?_
      refine zx_T.l (i := .iload_n 1) (k := 1) (v := .int (zI (c))) (pc := 28) rfl rfl rfl ?_
      refine zw_iv (b := 1) (cj := 0) (q' := zp_m0) (As := [.int (zI (c))]) (rest := []) (pc := 29) rfl rfl rfl rfl rfl rfl rfl (Nat.le_of_ble_eq_true rfl) rfl (Nat.le_of_ble_eq_true rfl) hI ((zm_cAddPar (h := h) hI (c := c) (by omega) (by omega) (by omega)).up (Nat.le_of_ble_eq_true rfl)) ?_
      rintro r18 h21 ⟨ih21, w22, v19, r18q, x20⟩
      subst r18q
      try dsimp only at x20
      show zx_T zp_P 1 zp_m136 32 [(0, .ref 0), (1, .int (zI (c)))] [.int (zI (v19))] h21 _
      refine zx_T.t (i := .istore_n 2) (k := 1) (ls' := [(2, .int (zI (v19))), (0, .ref 0), (1, .int (zI (c)))]) (st' := []) (pc := 32) rfl rfl rfl rfl ?_
      refine zx_T.l (i := .iload_n 2) (k := 1) (v := .int (zI (v19))) (pc := 33) rfl rfl rfl ?_
      refine zx_T.s (i := .bipush (-4)) (k := 2) (st' := [.int (zI ((-4))), .int (zI (v19))]) (pc := 34) rfl rfl ?_
      refine zr_i2 (x := v19) (y := (-4)) (t := 46) (pc := 36) rfl rfl (by omega) (by omega) (by omega) (by omega) (fun (c23 : v19 = (-4)) => ?_) (fun (c23 : ¬ (v19 = (-4))) => ?_)
      · refine zx_T.l (i := .iload_n 2) (k := 1) (v := .int (zI (v19))) (pc := 46) rfl rfl rfl ?_
        exact zr_ir (x := v19) (pc := 47) rfl rfl rfl ⟨ih21, (w22.wd rfl : zb_W [(9, 0), (1, 10), (16, 4)] h _), _, rfl, by dsimp only; unfold zs_par; omega⟩
      · refine zx_T.l (i := .aload_n 0) (k := 1) (v := .ref 0) (pc := 39) rfl rfl rfl ?_
        refine zw_gr (k := 2) (b := 16) (pc := 40) rfl rfl rfl ih21 ?_
        refine zw_iv (b := 16) (cj := 78) (q' := zp_m78) (As := []) (rest := []) (pc := 43) rfl rfl rfl rfl rfl rfl rfl (Nat.le_of_ble_eq_true rfl) rfl (Nat.le_of_ble_eq_true rfl) ih21 ((zm_cUndo (h := h21) ih21  ).up (Nat.le_of_ble_eq_true rfl)) ?_
        rintro r25 h28 ⟨ih28, w29, r25q, x27⟩
        subst r25q
        try dsimp only at x27
        show zx_T zp_P 1 zp_m136 46 [(2, .int (zI (v19))), (0, .ref 0), (1, .int (zI (c)))] [] h28 _
        refine zx_T.l (i := .iload_n 2) (k := 1) (v := .int (zI (v19))) (pc := 46) rfl rfl rfl ?_
        have y30 : zv_f h28 1 10 = zv_f h21 1 10 := (zv_wf w29 rfl)
        exact zr_ir (x := v19) (pc := 47) rfl rfl rfl ⟨ih28, ((w22.wd rfl : zb_W [(9, 0), (1, 10), (16, 4)] h _).tr (w29.wd rfl)), _, rfl, by dsimp only; unfold zs_par; omega⟩
    · refine zx_T.l (i := .iload_n 1) (k := 1) (v := .int (zI (c))) (pc := 10) rfl rfl rfl ?_
      refine zx_T.s (i := .iconst 5) (k := 1) (st' := [.int (zI (5)), .int (zI (c))]) (pc := 11) rfl rfl ?_
      refine zr_i2 (x := c) (y := 5) (t := 21) (pc := 12) rfl rfl (by omega) (by omega) (by omega) (by omega) (fun (c31 : c < 5) => ?_) (fun (c31 : ¬ (c < 5)) => ?_)
      · refine zx_T.s (i := .bipush (-2)) (k := 2) (st' := [.int (zI ((-2)))]) (pc := 21) rfl rfl ?_
        exact zr_ir (x := (-2)) (pc := 23) rfl rfl rfl ⟨hI, zb_W.rf, _, rfl, by dsimp only; unfold zs_par; omega⟩
      · refine zx_T.l (i := .iload_n 1) (k := 1) (v := .int (zI (c))) (pc := 15) rfl rfl rfl ?_
        refine zx_T.s (i := .bipush 8) (k := 2) (st' := [.int (zI (8)), .int (zI (c))]) (pc := 16) rfl rfl ?_
        refine zr_i2 (x := c) (y := 8) (t := 24) (pc := 18) rfl rfl (by omega) (by omega) (by omega) (by omega) (fun (c33 : c ≤ 8) => ?_) (fun (c33 : ¬ (c ≤ 8)) => ?_)
        · refine zx_T.l (i := .aload_n 0) (k := 1) (v := .ref 0) (pc := 24) rfl rfl rfl ?_
          refine zw_gr (k := 0) (b := 1) (pc := 25) rfl rfl rfl hI ?_
          refine zx_T.l (i := .iload_n 1) (k := 1) (v := .int (zI (c))) (pc := 28) rfl rfl rfl ?_
          refine zw_iv (b := 1) (cj := 0) (q' := zp_m0) (As := [.int (zI (c))]) (rest := []) (pc := 29) rfl rfl rfl rfl rfl rfl rfl (Nat.le_of_ble_eq_true rfl) rfl (Nat.le_of_ble_eq_true rfl) hI ((zm_cAddPar (h := h) hI (c := c) (by omega) (by omega) (by omega)).up (Nat.le_of_ble_eq_true rfl)) ?_
          rintro r35 h38 ⟨ih38, w39, v36, r35q, x37⟩
          subst r35q
          try dsimp only at x37
          show zx_T zp_P 1 zp_m136 32 [(0, .ref 0), (1, .int (zI (c)))] [.int (zI (v36))] h38 _
          refine zx_T.t (i := .istore_n 2) (k := 1) (ls' := [(2, .int (zI (v36))), (0, .ref 0), (1, .int (zI (c)))]) (st' := []) (pc := 32) rfl rfl rfl rfl ?_
          refine zx_T.l (i := .iload_n 2) (k := 1) (v := .int (zI (v36))) (pc := 33) rfl rfl rfl ?_
          refine zx_T.s (i := .bipush (-4)) (k := 2) (st' := [.int (zI ((-4))), .int (zI (v36))]) (pc := 34) rfl rfl ?_
          refine zr_i2 (x := v36) (y := (-4)) (t := 46) (pc := 36) rfl rfl (by omega) (by omega) (by omega) (by omega) (fun (c40 : v36 = (-4)) => ?_) (fun (c40 : ¬ (v36 = (-4))) => ?_)
          · refine zx_T.l (i := .iload_n 2) (k := 1) (v := .int (zI (v36))) (pc := 46) rfl rfl rfl ?_
            exact zr_ir (x := v36) (pc := 47) rfl rfl rfl ⟨ih38, (w39.wd rfl : zb_W [(9, 0), (1, 10), (16, 4)] h _), _, rfl, by dsimp only; unfold zs_par; omega⟩
          · refine zx_T.l (i := .aload_n 0) (k := 1) (v := .ref 0) (pc := 39) rfl rfl rfl ?_
            refine zw_gr (k := 2) (b := 16) (pc := 40) rfl rfl rfl ih38 ?_
            refine zw_iv (b := 16) (cj := 78) (q' := zp_m78) (As := []) (rest := []) (pc := 43) rfl rfl rfl rfl rfl rfl rfl (Nat.le_of_ble_eq_true rfl) rfl (Nat.le_of_ble_eq_true rfl) ih38 ((zm_cUndo (h := h38) ih38  ).up (Nat.le_of_ble_eq_true rfl)) ?_
            rintro r42 h45 ⟨ih45, w46, r42q, x44⟩
            subst r42q
            try dsimp only at x44
            show zx_T zp_P 1 zp_m136 46 [(2, .int (zI (v36))), (0, .ref 0), (1, .int (zI (c)))] [] h45 _
            refine zx_T.l (i := .iload_n 2) (k := 1) (v := .int (zI (v36))) (pc := 46) rfl rfl rfl ?_
            have y47 : zv_f h45 1 10 = zv_f h38 1 10 := (zv_wf w46 rfl)
            exact zr_ir (x := v36) (pc := 47) rfl rfl rfl ⟨ih45, ((w39.wd rfl : zb_W [(9, 0), (1, 10), (16, 4)] h _).tr (w46.wd rfl)), _, rfl, by dsimp only; unfold zs_par; omega⟩
        · refine zx_T.s (i := .bipush (-2)) (k := 2) (st' := [.int (zI ((-2)))]) (pc := 21) rfl rfl ?_
          exact zr_ir (x := (-2)) (pc := 23) rfl rfl rfl ⟨hI, zb_W.rf, _, rfl, by dsimp only; unfold zs_par; omega⟩

set_option maxRecDepth 100000 in
set_option maxHeartbeats 4000000 in
theorem zm_cAddIns {h : zx_H} (hI : zb_I zc_H h) {o : Int} {a : Int} {b : Int} (o1 : -2147483648 ≤ o) (o2 : o ≤ 2147483647) (a1 : -2147483648 ≤ a) (a2 : a ≤ 2147483647) (b1 : -2147483648 ≤ b) (b2 : b ≤ 2147483647) : zx_T zp_P 0 zp_m1 0 [(0, .ref 1), (1, .int (zI (o))), (2, .int (zI (a))), (3, .int (zI (b)))] [] h (zr_R [(2, 0), (3, 0), (4, 0), (1, 3)] h (fun e h' => (60 ≤ zv_f h 1 3 ∧ e = -4 ∧ zv_f h' 1 3 = zv_f h 1 3) ∨ (zv_f h 1 3 < 60 ∧ e = zv_f h 1 3 ∧ zv_f h' 1 3 = zv_f h 1 3 + 1))) := by
  refine zx_T.l (i := .aload_n 0) (k := 1) (v := .ref 1) (pc := 0) rfl rfl rfl ?_
  refine zw_gi (k := 3) (lo := 0) (hi := 60) (e := zv_f h 1 3) (pc := 1) rfl rfl rfl hI rfl (fun g1a g1b => ?_)
  refine zx_T.s (i := .bipush 60) (k := 2) (st' := [.int (zI (60)), .int (zI (zv_f h 1 3))]) (pc := 4) rfl rfl ?_
  refine zr_i2 (x := zv_f h 1 3) (y := 60) (t := 12) (pc := 6) rfl rfl (by omega) (by omega) (by omega) (by omega) (fun (c2 : (zv_f h 1 3) < 60) => ?_) (fun (c2 : ¬ ((zv_f h 1 3) < 60)) => ?_)
  · refine zx_T.l (i := .aload_n 0) (k := 1) (v := .ref 1) (pc := 12) rfl rfl rfl ?_
    refine zw_gr (k := 0) (b := 2) (pc := 13) rfl rfl rfl hI ?_
    refine zx_T.l (i := .aload_n 0) (k := 1) (v := .ref 1) (pc := 16) rfl rfl rfl ?_
    refine zw_gi (k := 3) (lo := 0) (hi := 60) (e := zv_f h 1 3) (pc := 17) rfl rfl rfl hI rfl (fun g3a g3b => ?_)
    refine zx_T.l (i := .iload_n 1) (k := 1) (v := .int (zI (o))) (pc := 20) rfl rfl rfl ?_
    refine zr_as (n := 60) (lo := (-2147483648)) (hi := 2147483647) (e := o) (pc := 21) rfl rfl rfl rfl hI (by omega) (by omega) (by omega) (by omega) (fun h4 ih4 w5 s6 => ?_)
    refine zx_T.l (i := .aload_n 0) (k := 1) (v := .ref 1) (pc := 22) rfl rfl rfl ?_
    refine zw_gr (k := 1) (b := 3) (pc := 23) rfl rfl rfl ih4 ?_
    refine zx_T.l (i := .aload_n 0) (k := 1) (v := .ref 1) (pc := 26) rfl rfl rfl ?_
    refine zw_gi (k := 3) (lo := 0) (hi := 60) (e := zv_f h 1 3) (pc := 27) rfl rfl rfl ih4 (zv_wf w5 rfl) (fun g7a g7b => ?_)
    refine zx_T.l (i := .iload_n 2) (k := 1) (v := .int (zI (a))) (pc := 30) rfl rfl rfl ?_
    refine zr_as (n := 60) (lo := (-2147483648)) (hi := 2147483647) (e := a) (pc := 31) rfl rfl rfl rfl ih4 (by omega) (by omega) (by omega) (by omega) (fun h8 ih8 w9 s10 => ?_)
    refine zx_T.l (i := .aload_n 0) (k := 1) (v := .ref 1) (pc := 32) rfl rfl rfl ?_
    refine zw_gr (k := 2) (b := 4) (pc := 33) rfl rfl rfl ih8 ?_
    refine zx_T.l (i := .aload_n 0) (k := 1) (v := .ref 1) (pc := 36) rfl rfl rfl ?_
    refine zw_gi (k := 3) (lo := 0) (hi := 60) (e := zv_f h 1 3) (pc := 37) rfl rfl rfl ih8 ((zv_wf w9 rfl).trans (zv_wf w5 rfl)) (fun g11a g11b => ?_)
    refine zx_T.l (i := .iload_n 3) (k := 1) (v := .int (zI (b))) (pc := 40) rfl rfl rfl ?_
    refine zr_as (n := 60) (lo := (-2147483648)) (hi := 2147483647) (e := b) (pc := 41) rfl rfl rfl rfl ih8 (by omega) (by omega) (by omega) (by omega) (fun h12 ih12 w13 s14 => ?_)
    refine zx_T.l (i := .aload_n 0) (k := 1) (v := .ref 1) (pc := 42) rfl rfl rfl ?_
    refine zx_T.s (i := .dup) (k := 1) (st' := [.ref 1, .ref 1]) (pc := 43) rfl rfl ?_
    refine zw_gi (k := 3) (lo := 0) (hi := 60) (e := zv_f h 1 3) (pc := 44) rfl rfl rfl ih12 ((zv_wf w13 rfl).trans ((zv_wf w9 rfl).trans (zv_wf w5 rfl))) (fun g15a g15b => ?_)
    refine zx_T.s (i := .dup_x1) (k := 1) (st' := [.int (zI (zv_f h 1 3)), .ref 1, .int (zI (zv_f h 1 3))]) (pc := 47) rfl rfl ?_
    refine zx_T.s (i := .iconst 1) (k := 1) (st' := [.int (zI (1)), .int (zI (zv_f h 1 3)), .ref 1, .int (zI (zv_f h 1 3))]) (pc := 48) rfl rfl ?_
    refine zr_add (x := zv_f h 1 3) (y := 1) (e := zv_f h 1 3 + 1) (pc := 49) rfl (by omega) ?_
    refine zw_pi (k := 3) (lo := 0) (hi := 60) (e := zv_f h 1 3 + 1) (pc := 50) rfl rfl rfl rfl rfl rfl ih12 (by omega) (by omega) (fun h16 ih16 w17 e18 => ?_)
    have y19 : zv_f h16 1 3 = zv_f h 1 3 + 1 := e18
    exact zr_ir (x := zv_f h 1 3) (pc := 53) rfl rfl rfl ⟨ih16, ((((w5.wd rfl : zb_W [(2, 0), (3, 0), (4, 0), (1, 3)] h _).tr (w9.wd rfl)).tr (w13.wd rfl)).tr (w17.wd rfl)), _, rfl, by dsimp only; omega⟩
  · refine zx_T.s (i := .bipush (-4)) (k := 2) (st' := [.int (zI ((-4)))]) (pc := 9) rfl rfl ?_
    exact zr_ir (x := (-4)) (pc := 11) rfl rfl rfl ⟨hI, zb_W.rf, _, rfl, by dsimp only; omega⟩

set_option maxRecDepth 100000 in
set_option maxHeartbeats 4000000 in
theorem zm_cOperation {h : zx_H} (hI : zb_I zc_H h) {o : Int} {a : Int} {b : Int} (o1 : -2147483648 ≤ o) (o2 : o ≤ 2147483647) (a1 : -2147483648 ≤ a) (a2 : a ≤ 2147483647) (b1 : -2147483648 ≤ b) (b2 : b ≤ 2147483647) : zx_T zp_P 1 zp_m137 0 [(0, .ref 0), (1, .int (zI (o))), (2, .int (zI (a))), (3, .int (zI (b)))] [] h (zr_R [(2, 0), (3, 0), (4, 0), (1, 3), (16, 4)] h (fun e h' => zs_opn o a e (zv_f h 1 3) (zv_f h' 1 3))) := by
  have hP := zw_ri hI (a := 1) (k := 3) rfl
  refine zx_T.l (i := .iload_n 1) (k := 1) (v := .int (zI (o))) (pc := 0) rfl rfl rfl ?_
  refine zr_i1 (x := o) (t := 27) (pc := 1) rfl rfl (by omega) (by omega) (fun (c1 : o < 0) => ?_) (fun (c1 : ¬ (o < 0)) => ?_)
  · refine zx_T.s (i := .bipush (-2)) (k := 2) (st' := [.int (zI ((-2)))]) (pc := 27) rfl rfl ?_
    exact zr_ir (x := (-2)) (pc := 29) rfl rfl rfl ⟨hI, zb_W.rf, _, rfl, by dsimp only; unfold zs_opn; omega⟩
  · refine zx_T.l (i := .iload_n 1) (k := 1) (v := .int (zI (o))) (pc := 4) rfl rfl rfl ?_
    refine zx_T.s (i := .bipush 28) (k := 2) (st' := [.int (zI (28)), .int (zI (o))]) (pc := 5) rfl rfl ?_
    refine zr_i2 (x := o) (y := 28) (t := 27) (pc := 7) rfl rfl (by omega) (by omega) (by omega) (by omega) (fun (c3 : 28 < o) => ?_) (fun (c3 : ¬ (28 < o)) => ?_)
    · refine zx_T.s (i := .bipush (-2)) (k := 2) (st' := [.int (zI ((-2)))]) (pc := 27) rfl rfl ?_
      exact zr_ir (x := (-2)) (pc := 29) rfl rfl rfl ⟨hI, zb_W.rf, _, rfl, by dsimp only; unfold zs_opn; omega⟩
    · refine zx_T.l (i := .iload_n 1) (k := 1) (v := .int (zI (o))) (pc := 10) rfl rfl rfl ?_
      refine zx_T.s (i := .bipush 21) (k := 2) (st' := [.int (zI (21)), .int (zI (o))]) (pc := 11) rfl rfl ?_
      refine zr_i2 (x := o) (y := 21) (t := 30) (pc := 13) rfl rfl (by omega) (by omega) (by omega) (by omega) (fun (c5 : ¬ o = 21) => ?_) (fun (c5 : ¬ (¬ o = 21)) => ?_)
      · refine zx_T.l (i := .aload_n 0) (k := 1) (v := .ref 0) (pc := 30) rfl rfl rfl ?_
        refine zw_gr (k := 0) (b := 1) (pc := 31) rfl rfl rfl hI ?_
        refine zx_T.l (i := .iload_n 1) (k := 1) (v := .int (zI (o))) (pc := 34) rfl rfl rfl ?_
        refine zx_T.l (i := .iload_n 2) (k := 1) (v := .int (zI (a))) (pc := 35) rfl rfl rfl ?_
        refine zx_T.l (i := .iload_n 3) (k := 1) (v := .int (zI (b))) (pc := 36) rfl rfl rfl ?_
        refine zw_iv (b := 1) (cj := 1) (q' := zp_m1) (As := [.int (zI (o)), .int (zI (a)), .int (zI (b))]) (rest := []) (pc := 37) rfl rfl rfl rfl rfl rfl rfl (Nat.le_of_ble_eq_true rfl) rfl (Nat.le_of_ble_eq_true rfl) hI ((zm_cAddIns (h := h) hI (o := o) (a := a) (b := b) (by omega) (by omega) (by omega) (by omega) (by omega) (by omega)).up (Nat.le_of_ble_eq_true rfl)) ?_
        rintro r7 h10 ⟨ih10, w11, v8, r7q, x9⟩
        subst r7q
        try dsimp only at x9
        show zx_T zp_P 1 zp_m137 40 [(0, .ref 0), (1, .int (zI (o))), (2, .int (zI (a))), (3, .int (zI (b)))] [.int (zI (v8))] h10 _
        refine zx_T.t (i := .istore 4) (k := 2) (ls' := [(4, .int (zI (v8))), (0, .ref 0), (1, .int (zI (o))), (2, .int (zI (a))), (3, .int (zI (b)))]) (st' := []) (pc := 40) rfl rfl rfl rfl ?_
        refine zx_T.l (i := .iload 4) (k := 2) (v := .int (zI (v8))) (pc := 42) rfl rfl rfl ?_
        refine zx_T.s (i := .bipush (-4)) (k := 2) (st' := [.int (zI ((-4))), .int (zI (v8))]) (pc := 44) rfl rfl ?_
        refine zr_i2 (x := v8) (y := (-4)) (t := 56) (pc := 46) rfl rfl (by omega) (by omega) (by omega) (by omega) (fun (c12 : v8 = (-4)) => ?_) (fun (c12 : ¬ (v8 = (-4))) => ?_)
        · refine zx_T.l (i := .iload 4) (k := 2) (v := .int (zI (v8))) (pc := 56) rfl rfl rfl ?_
          exact zr_ir (x := v8) (pc := 58) rfl rfl rfl ⟨ih10, (w11.wd rfl : zb_W [(2, 0), (3, 0), (4, 0), (1, 3), (16, 4)] h _), _, rfl, by dsimp only; unfold zs_opn; omega⟩
        · refine zx_T.l (i := .aload_n 0) (k := 1) (v := .ref 0) (pc := 49) rfl rfl rfl ?_
          refine zw_gr (k := 2) (b := 16) (pc := 50) rfl rfl rfl ih10 ?_
          refine zw_iv (b := 16) (cj := 78) (q' := zp_m78) (As := []) (rest := []) (pc := 53) rfl rfl rfl rfl rfl rfl rfl (Nat.le_of_ble_eq_true rfl) rfl (Nat.le_of_ble_eq_true rfl) ih10 ((zm_cUndo (h := h10) ih10  ).up (Nat.le_of_ble_eq_true rfl)) ?_
          rintro r14 h17 ⟨ih17, w18, r14q, x16⟩
          subst r14q
          try dsimp only at x16
          show zx_T zp_P 1 zp_m137 56 [(4, .int (zI (v8))), (0, .ref 0), (1, .int (zI (o))), (2, .int (zI (a))), (3, .int (zI (b)))] [] h17 _
          refine zx_T.l (i := .iload 4) (k := 2) (v := .int (zI (v8))) (pc := 56) rfl rfl rfl ?_
          have y19 : zv_f h17 1 3 = zv_f h10 1 3 := (zv_wf w18 rfl)
          exact zr_ir (x := v8) (pc := 58) rfl rfl rfl ⟨ih17, ((w11.wd rfl : zb_W [(2, 0), (3, 0), (4, 0), (1, 3), (16, 4)] h _).tr (w18.wd rfl)), _, rfl, by dsimp only; unfold zs_opn; omega⟩
      · refine zx_T.l (i := .iload_n 2) (k := 1) (v := .int (zI (a))) (pc := 16) rfl rfl rfl ?_
        refine zx_T.s (i := .iconst 5) (k := 1) (st' := [.int (zI (5)), .int (zI (a))]) (pc := 17) rfl rfl ?_
        refine zr_i2 (x := a) (y := 5) (t := 27) (pc := 18) rfl rfl (by omega) (by omega) (by omega) (by omega) (fun (c20 : a < 5) => ?_) (fun (c20 : ¬ (a < 5)) => ?_)
        · refine zx_T.s (i := .bipush (-2)) (k := 2) (st' := [.int (zI ((-2)))]) (pc := 27) rfl rfl ?_
          exact zr_ir (x := (-2)) (pc := 29) rfl rfl rfl ⟨hI, zb_W.rf, _, rfl, by dsimp only; unfold zs_opn; omega⟩
        · refine zx_T.l (i := .iload_n 2) (k := 1) (v := .int (zI (a))) (pc := 21) rfl rfl rfl ?_
          refine zx_T.s (i := .bipush 8) (k := 2) (st' := [.int (zI (8)), .int (zI (a))]) (pc := 22) rfl rfl ?_
          refine zr_i2 (x := a) (y := 8) (t := 30) (pc := 24) rfl rfl (by omega) (by omega) (by omega) (by omega) (fun (c22 : a ≤ 8) => ?_) (fun (c22 : ¬ (a ≤ 8)) => ?_)
          · refine zx_T.l (i := .aload_n 0) (k := 1) (v := .ref 0) (pc := 30) rfl rfl rfl ?_
            refine zw_gr (k := 0) (b := 1) (pc := 31) rfl rfl rfl hI ?_
            refine zx_T.l (i := .iload_n 1) (k := 1) (v := .int (zI (o))) (pc := 34) rfl rfl rfl ?_
            refine zx_T.l (i := .iload_n 2) (k := 1) (v := .int (zI (a))) (pc := 35) rfl rfl rfl ?_
            refine zx_T.l (i := .iload_n 3) (k := 1) (v := .int (zI (b))) (pc := 36) rfl rfl rfl ?_
            refine zw_iv (b := 1) (cj := 1) (q' := zp_m1) (As := [.int (zI (o)), .int (zI (a)), .int (zI (b))]) (rest := []) (pc := 37) rfl rfl rfl rfl rfl rfl rfl (Nat.le_of_ble_eq_true rfl) rfl (Nat.le_of_ble_eq_true rfl) hI ((zm_cAddIns (h := h) hI (o := o) (a := a) (b := b) (by omega) (by omega) (by omega) (by omega) (by omega) (by omega)).up (Nat.le_of_ble_eq_true rfl)) ?_
            rintro r24 h27 ⟨ih27, w28, v25, r24q, x26⟩
            subst r24q
            try dsimp only at x26
            show zx_T zp_P 1 zp_m137 40 [(0, .ref 0), (1, .int (zI (o))), (2, .int (zI (a))), (3, .int (zI (b)))] [.int (zI (v25))] h27 _
            refine zx_T.t (i := .istore 4) (k := 2) (ls' := [(4, .int (zI (v25))), (0, .ref 0), (1, .int (zI (o))), (2, .int (zI (a))), (3, .int (zI (b)))]) (st' := []) (pc := 40) rfl rfl rfl rfl ?_
            refine zx_T.l (i := .iload 4) (k := 2) (v := .int (zI (v25))) (pc := 42) rfl rfl rfl ?_
            refine zx_T.s (i := .bipush (-4)) (k := 2) (st' := [.int (zI ((-4))), .int (zI (v25))]) (pc := 44) rfl rfl ?_
            refine zr_i2 (x := v25) (y := (-4)) (t := 56) (pc := 46) rfl rfl (by omega) (by omega) (by omega) (by omega) (fun (c29 : v25 = (-4)) => ?_) (fun (c29 : ¬ (v25 = (-4))) => ?_)
            · refine zx_T.l (i := .iload 4) (k := 2) (v := .int (zI (v25))) (pc := 56) rfl rfl rfl ?_
              exact zr_ir (x := v25) (pc := 58) rfl rfl rfl ⟨ih27, (w28.wd rfl : zb_W [(2, 0), (3, 0), (4, 0), (1, 3), (16, 4)] h _), _, rfl, by dsimp only; unfold zs_opn; omega⟩
            · refine zx_T.l (i := .aload_n 0) (k := 1) (v := .ref 0) (pc := 49) rfl rfl rfl ?_
              refine zw_gr (k := 2) (b := 16) (pc := 50) rfl rfl rfl ih27 ?_
              refine zw_iv (b := 16) (cj := 78) (q' := zp_m78) (As := []) (rest := []) (pc := 53) rfl rfl rfl rfl rfl rfl rfl (Nat.le_of_ble_eq_true rfl) rfl (Nat.le_of_ble_eq_true rfl) ih27 ((zm_cUndo (h := h27) ih27  ).up (Nat.le_of_ble_eq_true rfl)) ?_
              rintro r31 h34 ⟨ih34, w35, r31q, x33⟩
              subst r31q
              try dsimp only at x33
              show zx_T zp_P 1 zp_m137 56 [(4, .int (zI (v25))), (0, .ref 0), (1, .int (zI (o))), (2, .int (zI (a))), (3, .int (zI (b)))] [] h34 _
              refine zx_T.l (i := .iload 4) (k := 2) (v := .int (zI (v25))) (pc := 56) rfl rfl rfl ?_
              have y36 : zv_f h34 1 3 = zv_f h27 1 3 := (zv_wf w35 rfl)
              exact zr_ir (x := v25) (pc := 58) rfl rfl rfl ⟨ih34, ((w28.wd rfl : zb_W [(2, 0), (3, 0), (4, 0), (1, 3), (16, 4)] h _).tr (w35.wd rfl)), _, rfl, by dsimp only; unfold zs_opn; omega⟩
          · refine zx_T.s (i := .bipush (-2)) (k := 2) (st' := [.int (zI ((-2)))]) (pc := 27) rfl rfl ?_
            exact zr_ir (x := (-2)) (pc := 29) rfl rfl rfl ⟨hI, zb_W.rf, _, rfl, by dsimp only; unfold zs_opn; omega⟩

set_option maxRecDepth 100000 in
set_option maxHeartbeats 4000000 in
theorem zm_cBound {h : zx_H} (hI : zb_I zc_H h) {v : Int} (v1 : -2147483648 ≤ v) (v2 : v ≤ 2147483647) : zx_T zp_P 0 zp_m153 0 [(0, .int (zI (v)))] [] h (zr_P h (fun e => (e = 1 ∧ 0 ≤ v ∧ v ≤ 60) ∨ (e = 0 ∧ ¬ (0 ≤ v ∧ v ≤ 60)))) := by
  refine zx_T.l (i := .iload_n 0) (k := 1) (v := .int (zI (v))) (pc := 0) rfl rfl rfl ?_
  refine zr_i1 (x := v) (t := 14) (pc := 1) rfl rfl (by omega) (by omega) (fun (c1 : v < 0) => ?_) (fun (c1 : ¬ (v < 0)) => ?_)
  · refine zx_T.s (i := .iconst 0) (k := 1) (st' := [.int (zI (0))]) (pc := 14) rfl rfl ?_
    exact zr_ir (x := 0) (pc := 15) rfl rfl (zr_nb (by omega) (by omega)) ⟨rfl, _, rfl, by dsimp only; omega⟩
  · refine zx_T.l (i := .iload_n 0) (k := 1) (v := .int (zI (v))) (pc := 4) rfl rfl rfl ?_
    refine zx_T.s (i := .bipush 60) (k := 2) (st' := [.int (zI (60)), .int (zI (v))]) (pc := 5) rfl rfl ?_
    refine zr_i2 (x := v) (y := 60) (t := 14) (pc := 7) rfl rfl (by omega) (by omega) (by omega) (by omega) (fun (c2 : 60 < v) => ?_) (fun (c2 : ¬ (60 < v)) => ?_)
    · refine zx_T.s (i := .iconst 0) (k := 1) (st' := [.int (zI (0))]) (pc := 14) rfl rfl ?_
      exact zr_ir (x := 0) (pc := 15) rfl rfl (zr_nb (by omega) (by omega)) ⟨rfl, _, rfl, by dsimp only; omega⟩
    · refine zx_T.s (i := .iconst 1) (k := 1) (st' := [.int (zI (1))]) (pc := 10) rfl rfl ?_
      refine zx_T.j (i := .goto 4) (k := 3) (pc' := 15) (st' := [.int (zI (1))]) (pc := 11) rfl rfl rfl rfl rfl ?_
      exact zr_ir (x := 1) (pc := 15) rfl rfl (zr_nb (by omega) (by omega)) ⟨rfl, _, rfl, by dsimp only; omega⟩

set_option maxRecDepth 100000 in
set_option maxHeartbeats 4000000 in
theorem zm_cAddHnd {h : zx_H} (hI : zb_I zc_H h) {f : Int} {t : Int} {p : Int} {k : Int} (f1 : -2147483648 ≤ f) (f2 : f ≤ 2147483647) (t1 : -2147483648 ≤ t) (t2 : t ≤ 2147483647) (p1 : -2147483648 ≤ p) (p2 : p ≤ 2147483647) (k1 : -2147483648 ≤ k) (k2 : k ≤ 2147483647) : zx_T zp_P 0 zp_m2 0 [(0, .ref 1), (1, .int (zI (f))), (2, .int (zI (t))), (3, .int (zI (p))), (4, .int (zI (k)))] [] h (zr_R [(5, 0), (6, 0), (7, 0), (8, 0), (1, 8)] h (fun e h' => (6 ≤ zv_f h 1 8 ∧ e = -4 ∧ zv_f h' 1 8 = zv_f h 1 8) ∨ (zv_f h 1 8 < 6 ∧ e = zv_f h 1 8 ∧ zv_f h' 1 8 = zv_f h 1 8 + 1))) := by
  refine zx_T.l (i := .aload_n 0) (k := 1) (v := .ref 1) (pc := 0) rfl rfl rfl ?_
  refine zw_gi (k := 8) (lo := 0) (hi := 6) (e := zv_f h 1 8) (pc := 1) rfl rfl rfl hI rfl (fun g1a g1b => ?_)
  refine zx_T.s (i := .bipush 6) (k := 2) (st' := [.int (zI (6)), .int (zI (zv_f h 1 8))]) (pc := 4) rfl rfl ?_
  refine zr_i2 (x := zv_f h 1 8) (y := 6) (t := 12) (pc := 6) rfl rfl (by omega) (by omega) (by omega) (by omega) (fun (c2 : (zv_f h 1 8) < 6) => ?_) (fun (c2 : ¬ ((zv_f h 1 8) < 6)) => ?_)
  · refine zx_T.l (i := .aload_n 0) (k := 1) (v := .ref 1) (pc := 12) rfl rfl rfl ?_
    refine zw_gr (k := 4) (b := 5) (pc := 13) rfl rfl rfl hI ?_
    refine zx_T.l (i := .aload_n 0) (k := 1) (v := .ref 1) (pc := 16) rfl rfl rfl ?_
    refine zw_gi (k := 8) (lo := 0) (hi := 6) (e := zv_f h 1 8) (pc := 17) rfl rfl rfl hI rfl (fun g3a g3b => ?_)
    refine zx_T.l (i := .iload_n 1) (k := 1) (v := .int (zI (f))) (pc := 20) rfl rfl rfl ?_
    refine zr_as (n := 6) (lo := (-2147483648)) (hi := 2147483647) (e := f) (pc := 21) rfl rfl rfl rfl hI (by omega) (by omega) (by omega) (by omega) (fun h4 ih4 w5 s6 => ?_)
    refine zx_T.l (i := .aload_n 0) (k := 1) (v := .ref 1) (pc := 22) rfl rfl rfl ?_
    refine zw_gr (k := 5) (b := 6) (pc := 23) rfl rfl rfl ih4 ?_
    refine zx_T.l (i := .aload_n 0) (k := 1) (v := .ref 1) (pc := 26) rfl rfl rfl ?_
    refine zw_gi (k := 8) (lo := 0) (hi := 6) (e := zv_f h 1 8) (pc := 27) rfl rfl rfl ih4 (zv_wf w5 rfl) (fun g7a g7b => ?_)
    refine zx_T.l (i := .iload_n 2) (k := 1) (v := .int (zI (t))) (pc := 30) rfl rfl rfl ?_
    refine zr_as (n := 6) (lo := (-2147483648)) (hi := 2147483647) (e := t) (pc := 31) rfl rfl rfl rfl ih4 (by omega) (by omega) (by omega) (by omega) (fun h8 ih8 w9 s10 => ?_)
    refine zx_T.l (i := .aload_n 0) (k := 1) (v := .ref 1) (pc := 32) rfl rfl rfl ?_
    refine zw_gr (k := 6) (b := 7) (pc := 33) rfl rfl rfl ih8 ?_
    refine zx_T.l (i := .aload_n 0) (k := 1) (v := .ref 1) (pc := 36) rfl rfl rfl ?_
    refine zw_gi (k := 8) (lo := 0) (hi := 6) (e := zv_f h 1 8) (pc := 37) rfl rfl rfl ih8 ((zv_wf w9 rfl).trans (zv_wf w5 rfl)) (fun g11a g11b => ?_)
    refine zx_T.l (i := .iload_n 3) (k := 1) (v := .int (zI (p))) (pc := 40) rfl rfl rfl ?_
    refine zr_as (n := 6) (lo := (-2147483648)) (hi := 2147483647) (e := p) (pc := 41) rfl rfl rfl rfl ih8 (by omega) (by omega) (by omega) (by omega) (fun h12 ih12 w13 s14 => ?_)
    refine zx_T.l (i := .aload_n 0) (k := 1) (v := .ref 1) (pc := 42) rfl rfl rfl ?_
    refine zw_gr (k := 7) (b := 8) (pc := 43) rfl rfl rfl ih12 ?_
    refine zx_T.l (i := .aload_n 0) (k := 1) (v := .ref 1) (pc := 46) rfl rfl rfl ?_
    refine zw_gi (k := 8) (lo := 0) (hi := 6) (e := zv_f h 1 8) (pc := 47) rfl rfl rfl ih12 ((zv_wf w13 rfl).trans ((zv_wf w9 rfl).trans (zv_wf w5 rfl))) (fun g15a g15b => ?_)
    refine zx_T.l (i := .iload 4) (k := 2) (v := .int (zI (k))) (pc := 50) rfl rfl rfl ?_
    refine zr_as (n := 6) (lo := (-2147483648)) (hi := 2147483647) (e := k) (pc := 52) rfl rfl rfl rfl ih12 (by omega) (by omega) (by omega) (by omega) (fun h16 ih16 w17 s18 => ?_)
    refine zx_T.l (i := .aload_n 0) (k := 1) (v := .ref 1) (pc := 53) rfl rfl rfl ?_
    refine zx_T.s (i := .dup) (k := 1) (st' := [.ref 1, .ref 1]) (pc := 54) rfl rfl ?_
    refine zw_gi (k := 8) (lo := 0) (hi := 6) (e := zv_f h 1 8) (pc := 55) rfl rfl rfl ih16 ((zv_wf w17 rfl).trans ((zv_wf w13 rfl).trans ((zv_wf w9 rfl).trans (zv_wf w5 rfl)))) (fun g19a g19b => ?_)
    refine zx_T.s (i := .dup_x1) (k := 1) (st' := [.int (zI (zv_f h 1 8)), .ref 1, .int (zI (zv_f h 1 8))]) (pc := 58) rfl rfl ?_
    refine zx_T.s (i := .iconst 1) (k := 1) (st' := [.int (zI (1)), .int (zI (zv_f h 1 8)), .ref 1, .int (zI (zv_f h 1 8))]) (pc := 59) rfl rfl ?_
    refine zr_add (x := zv_f h 1 8) (y := 1) (e := zv_f h 1 8 + 1) (pc := 60) rfl (by omega) ?_
    refine zw_pi (k := 8) (lo := 0) (hi := 6) (e := zv_f h 1 8 + 1) (pc := 61) rfl rfl rfl rfl rfl rfl ih16 (by omega) (by omega) (fun h20 ih20 w21 e22 => ?_)
    have y23 : zv_f h20 1 8 = zv_f h 1 8 + 1 := e22
    exact zr_ir (x := zv_f h 1 8) (pc := 64) rfl rfl rfl ⟨ih20, (((((w5.wd rfl : zb_W [(5, 0), (6, 0), (7, 0), (8, 0), (1, 8)] h _).tr (w9.wd rfl)).tr (w13.wd rfl)).tr (w17.wd rfl)).tr (w21.wd rfl)), _, rfl, by dsimp only; omega⟩
  · refine zx_T.s (i := .bipush (-4)) (k := 2) (st' := [.int (zI ((-4)))]) (pc := 9) rfl rfl ?_
    exact zr_ir (x := (-4)) (pc := 11) rfl rfl rfl ⟨hI, zb_W.rf, _, rfl, by dsimp only; omega⟩

set_option maxRecDepth 100000 in
set_option maxHeartbeats 4000000 in
theorem zm_cHandler {h : zx_H} (hI : zb_I zc_H h) {f : Int} {t : Int} {p : Int} {k : Int} (f1 : -2147483648 ≤ f) (f2 : f ≤ 2147483647) (t1 : -2147483648 ≤ t) (t2 : t ≤ 2147483647) (p1 : -2147483648 ≤ p) (p2 : p ≤ 2147483647) (k1 : -2147483648 ≤ k) (k2 : k ≤ 2147483647) : zx_T zp_P 1 zp_m138 0 [(0, .ref 0), (1, .int (zI (f))), (2, .int (zI (t))), (3, .int (zI (p))), (4, .int (zI (k)))] [] h (zr_R [(5, 0), (6, 0), (7, 0), (8, 0), (1, 8), (16, 4)] h (fun e h' => zs_hnd f t p k e (zv_f h 1 8) (zv_f h' 1 8))) := by
  have hP := zw_ri hI (a := 1) (k := 8) rfl
  refine zx_T.l (i := .iload_n 1) (k := 1) (v := .int (zI (f))) (pc := 0) rfl rfl rfl ?_
  refine zr_is (cj := 153) (q' := zp_m153) (As := [.int (zI (f))]) (rest := []) (pc := 1) rfl rfl rfl rfl rfl rfl (Nat.le_of_ble_eq_true rfl) rfl (Nat.le_of_ble_eq_true rfl) rfl ((zm_cBound (h := h) hI (v := f) (by omega) (by omega)).up (Nat.le_of_ble_eq_true rfl)) ?_
  rintro r1 h4 ⟨h4q, v2, r1q, x3⟩
  subst h4q r1q
  try dsimp only at x3
  show zx_T zp_P 1 zp_m138 4 [(0, .ref 0), (1, .int (zI (f))), (2, .int (zI (t))), (3, .int (zI (p))), (4, .int (zI (k)))] [.int (zI (v2))] h _
  refine zr_i1 (x := v2) (t := 35) (pc := 4) rfl rfl (by omega) (by omega) (fun (c5 : v2 = 0) => ?_) (fun (c5 : ¬ (v2 = 0)) => ?_)
  · refine zx_T.s (i := .bipush (-2)) (k := 2) (st' := [.int (zI ((-2)))]) (pc := 35) rfl rfl ?_
    exact zr_ir (x := (-2)) (pc := 37) rfl rfl rfl ⟨hI, zb_W.rf, _, rfl, by dsimp only; unfold zs_hnd; omega⟩
  · refine zx_T.l (i := .iload_n 2) (k := 1) (v := .int (zI (t))) (pc := 7) rfl rfl rfl ?_
    refine zr_is (cj := 153) (q' := zp_m153) (As := [.int (zI (t))]) (rest := []) (pc := 8) rfl rfl rfl rfl rfl rfl (Nat.le_of_ble_eq_true rfl) rfl (Nat.le_of_ble_eq_true rfl) rfl ((zm_cBound (h := h) hI (v := t) (by omega) (by omega)).up (Nat.le_of_ble_eq_true rfl)) ?_
    rintro r7 h10 ⟨h10q, v8, r7q, x9⟩
    subst h10q r7q
    try dsimp only at x9
    show zx_T zp_P 1 zp_m138 11 [(0, .ref 0), (1, .int (zI (f))), (2, .int (zI (t))), (3, .int (zI (p))), (4, .int (zI (k)))] [.int (zI (v8))] h _
    refine zr_i1 (x := v8) (t := 35) (pc := 11) rfl rfl (by omega) (by omega) (fun (c11 : v8 = 0) => ?_) (fun (c11 : ¬ (v8 = 0)) => ?_)
    · refine zx_T.s (i := .bipush (-2)) (k := 2) (st' := [.int (zI ((-2)))]) (pc := 35) rfl rfl ?_
      exact zr_ir (x := (-2)) (pc := 37) rfl rfl rfl ⟨hI, zb_W.rf, _, rfl, by dsimp only; unfold zs_hnd; omega⟩
    · refine zx_T.l (i := .iload_n 3) (k := 1) (v := .int (zI (p))) (pc := 14) rfl rfl rfl ?_
      refine zr_is (cj := 153) (q' := zp_m153) (As := [.int (zI (p))]) (rest := []) (pc := 15) rfl rfl rfl rfl rfl rfl (Nat.le_of_ble_eq_true rfl) rfl (Nat.le_of_ble_eq_true rfl) rfl ((zm_cBound (h := h) hI (v := p) (by omega) (by omega)).up (Nat.le_of_ble_eq_true rfl)) ?_
      rintro r13 h16 ⟨h16q, v14, r13q, x15⟩
      subst h16q r13q
      try dsimp only at x15
      show zx_T zp_P 1 zp_m138 18 [(0, .ref 0), (1, .int (zI (f))), (2, .int (zI (t))), (3, .int (zI (p))), (4, .int (zI (k)))] [.int (zI (v14))] h _
      refine zr_i1 (x := v14) (t := 35) (pc := 18) rfl rfl (by omega) (by omega) (fun (c17 : v14 = 0) => ?_) (fun (c17 : ¬ (v14 = 0)) => ?_)
      · refine zx_T.s (i := .bipush (-2)) (k := 2) (st' := [.int (zI ((-2)))]) (pc := 35) rfl rfl ?_
        exact zr_ir (x := (-2)) (pc := 37) rfl rfl rfl ⟨hI, zb_W.rf, _, rfl, by dsimp only; unfold zs_hnd; omega⟩
      · refine zx_T.l (i := .iload 4) (k := 2) (v := .int (zI (k))) (pc := 21) rfl rfl rfl ?_
        refine zx_T.s (i := .bipush 7) (k := 2) (st' := [.int (zI (7)), .int (zI (k))]) (pc := 23) rfl rfl ?_
        refine zr_i2 (x := k) (y := 7) (t := 38) (pc := 25) rfl rfl (by omega) (by omega) (by omega) (by omega) (fun (c19 : k = 7) => ?_) (fun (c19 : ¬ (k = 7)) => ?_)
        · refine zx_T.l (i := .aload_n 0) (k := 1) (v := .ref 0) (pc := 38) rfl rfl rfl ?_
          refine zw_gr (k := 0) (b := 1) (pc := 39) rfl rfl rfl hI ?_
          refine zx_T.l (i := .iload_n 1) (k := 1) (v := .int (zI (f))) (pc := 42) rfl rfl rfl ?_
          refine zx_T.l (i := .iload_n 2) (k := 1) (v := .int (zI (t))) (pc := 43) rfl rfl rfl ?_
          refine zx_T.l (i := .iload_n 3) (k := 1) (v := .int (zI (p))) (pc := 44) rfl rfl rfl ?_
          refine zx_T.l (i := .iload 4) (k := 2) (v := .int (zI (k))) (pc := 45) rfl rfl rfl ?_
          refine zw_iv (b := 1) (cj := 2) (q' := zp_m2) (As := [.int (zI (f)), .int (zI (t)), .int (zI (p)), .int (zI (k))]) (rest := []) (pc := 47) rfl rfl rfl rfl rfl rfl rfl (Nat.le_of_ble_eq_true rfl) rfl (Nat.le_of_ble_eq_true rfl) hI ((zm_cAddHnd (h := h) hI (f := f) (t := t) (p := p) (k := k) (by omega) (by omega) (by omega) (by omega) (by omega) (by omega) (by omega) (by omega)).up (Nat.le_of_ble_eq_true rfl)) ?_
          rintro r21 h24 ⟨ih24, w25, v22, r21q, x23⟩
          subst r21q
          try dsimp only at x23
          show zx_T zp_P 1 zp_m138 50 [(0, .ref 0), (1, .int (zI (f))), (2, .int (zI (t))), (3, .int (zI (p))), (4, .int (zI (k)))] [.int (zI (v22))] h24 _
          refine zx_T.t (i := .istore 5) (k := 2) (ls' := [(5, .int (zI (v22))), (0, .ref 0), (1, .int (zI (f))), (2, .int (zI (t))), (3, .int (zI (p))), (4, .int (zI (k)))]) (st' := []) (pc := 50) rfl rfl rfl rfl ?_
          refine zx_T.l (i := .iload 5) (k := 2) (v := .int (zI (v22))) (pc := 52) rfl rfl rfl ?_
          refine zx_T.s (i := .bipush (-4)) (k := 2) (st' := [.int (zI ((-4))), .int (zI (v22))]) (pc := 54) rfl rfl ?_
          refine zr_i2 (x := v22) (y := (-4)) (t := 66) (pc := 56) rfl rfl (by omega) (by omega) (by omega) (by omega) (fun (c26 : v22 = (-4)) => ?_) (fun (c26 : ¬ (v22 = (-4))) => ?_)
          · refine zx_T.l (i := .iload 5) (k := 2) (v := .int (zI (v22))) (pc := 66) rfl rfl rfl ?_
            exact zr_ir (x := v22) (pc := 68) rfl rfl rfl ⟨ih24, (w25.wd rfl : zb_W [(5, 0), (6, 0), (7, 0), (8, 0), (1, 8), (16, 4)] h _), _, rfl, by dsimp only; unfold zs_hnd; omega⟩
          · refine zx_T.l (i := .aload_n 0) (k := 1) (v := .ref 0) (pc := 59) rfl rfl rfl ?_
            refine zw_gr (k := 2) (b := 16) (pc := 60) rfl rfl rfl ih24 ?_
            refine zw_iv (b := 16) (cj := 78) (q' := zp_m78) (As := []) (rest := []) (pc := 63) rfl rfl rfl rfl rfl rfl rfl (Nat.le_of_ble_eq_true rfl) rfl (Nat.le_of_ble_eq_true rfl) ih24 ((zm_cUndo (h := h24) ih24  ).up (Nat.le_of_ble_eq_true rfl)) ?_
            rintro r28 h31 ⟨ih31, w32, r28q, x30⟩
            subst r28q
            try dsimp only at x30
            show zx_T zp_P 1 zp_m138 66 [(5, .int (zI (v22))), (0, .ref 0), (1, .int (zI (f))), (2, .int (zI (t))), (3, .int (zI (p))), (4, .int (zI (k)))] [] h31 _
            refine zx_T.l (i := .iload 5) (k := 2) (v := .int (zI (v22))) (pc := 66) rfl rfl rfl ?_
            have y33 : zv_f h31 1 8 = zv_f h24 1 8 := (zv_wf w32 rfl)
            exact zr_ir (x := v22) (pc := 68) rfl rfl rfl ⟨ih31, ((w25.wd rfl : zb_W [(5, 0), (6, 0), (7, 0), (8, 0), (1, 8), (16, 4)] h _).tr (w32.wd rfl)), _, rfl, by dsimp only; unfold zs_hnd; omega⟩
        · refine zx_T.l (i := .iload 4) (k := 2) (v := .int (zI (k))) (pc := 28) rfl rfl rfl ?_
          refine zx_T.s (i := .bipush 8) (k := 2) (st' := [.int (zI (8)), .int (zI (k))]) (pc := 30) rfl rfl ?_
          refine zr_i2 (x := k) (y := 8) (t := 38) (pc := 32) rfl rfl (by omega) (by omega) (by omega) (by omega) (fun (c34 : k = 8) => ?_) (fun (c34 : ¬ (k = 8)) => ?_)
          · refine zx_T.l (i := .aload_n 0) (k := 1) (v := .ref 0) (pc := 38) rfl rfl rfl ?_
            refine zw_gr (k := 0) (b := 1) (pc := 39) rfl rfl rfl hI ?_
            refine zx_T.l (i := .iload_n 1) (k := 1) (v := .int (zI (f))) (pc := 42) rfl rfl rfl ?_
            refine zx_T.l (i := .iload_n 2) (k := 1) (v := .int (zI (t))) (pc := 43) rfl rfl rfl ?_
            refine zx_T.l (i := .iload_n 3) (k := 1) (v := .int (zI (p))) (pc := 44) rfl rfl rfl ?_
            refine zx_T.l (i := .iload 4) (k := 2) (v := .int (zI (k))) (pc := 45) rfl rfl rfl ?_
            refine zw_iv (b := 1) (cj := 2) (q' := zp_m2) (As := [.int (zI (f)), .int (zI (t)), .int (zI (p)), .int (zI (k))]) (rest := []) (pc := 47) rfl rfl rfl rfl rfl rfl rfl (Nat.le_of_ble_eq_true rfl) rfl (Nat.le_of_ble_eq_true rfl) hI ((zm_cAddHnd (h := h) hI (f := f) (t := t) (p := p) (k := k) (by omega) (by omega) (by omega) (by omega) (by omega) (by omega) (by omega) (by omega)).up (Nat.le_of_ble_eq_true rfl)) ?_
            rintro r36 h39 ⟨ih39, w40, v37, r36q, x38⟩
            subst r36q
            try dsimp only at x38
            show zx_T zp_P 1 zp_m138 50 [(0, .ref 0), (1, .int (zI (f))), (2, .int (zI (t))), (3, .int (zI (p))), (4, .int (zI (k)))] [.int (zI (v37))] h39 _
            refine zx_T.t (i := .istore 5) (k := 2) (ls' := [(5, .int (zI (v37))), (0, .ref 0), (1, .int (zI (f))), (2, .int (zI (t))), (3, .int (zI (p))), (4, .int (zI (k)))]) (st' := []) (pc := 50) rfl rfl rfl rfl ?_
            refine zx_T.l (i := .iload 5) (k := 2) (v := .int (zI (v37))) (pc := 52) rfl rfl rfl ?_
            refine zx_T.s (i := .bipush (-4)) (k := 2) (st' := [.int (zI ((-4))), .int (zI (v37))]) (pc := 54) rfl rfl ?_
            refine zr_i2 (x := v37) (y := (-4)) (t := 66) (pc := 56) rfl rfl (by omega) (by omega) (by omega) (by omega) (fun (c41 : v37 = (-4)) => ?_) (fun (c41 : ¬ (v37 = (-4))) => ?_)
            · refine zx_T.l (i := .iload 5) (k := 2) (v := .int (zI (v37))) (pc := 66) rfl rfl rfl ?_
              exact zr_ir (x := v37) (pc := 68) rfl rfl rfl ⟨ih39, (w40.wd rfl : zb_W [(5, 0), (6, 0), (7, 0), (8, 0), (1, 8), (16, 4)] h _), _, rfl, by dsimp only; unfold zs_hnd; omega⟩
            · refine zx_T.l (i := .aload_n 0) (k := 1) (v := .ref 0) (pc := 59) rfl rfl rfl ?_
              refine zw_gr (k := 2) (b := 16) (pc := 60) rfl rfl rfl ih39 ?_
              refine zw_iv (b := 16) (cj := 78) (q' := zp_m78) (As := []) (rest := []) (pc := 63) rfl rfl rfl rfl rfl rfl rfl (Nat.le_of_ble_eq_true rfl) rfl (Nat.le_of_ble_eq_true rfl) ih39 ((zm_cUndo (h := h39) ih39  ).up (Nat.le_of_ble_eq_true rfl)) ?_
              rintro r43 h46 ⟨ih46, w47, r43q, x45⟩
              subst r43q
              try dsimp only at x45
              show zx_T zp_P 1 zp_m138 66 [(5, .int (zI (v37))), (0, .ref 0), (1, .int (zI (f))), (2, .int (zI (t))), (3, .int (zI (p))), (4, .int (zI (k)))] [] h46 _
              refine zx_T.l (i := .iload 5) (k := 2) (v := .int (zI (v37))) (pc := 66) rfl rfl rfl ?_
              have y48 : zv_f h46 1 8 = zv_f h39 1 8 := (zv_wf w47 rfl)
              exact zr_ir (x := v37) (pc := 68) rfl rfl rfl ⟨ih46, ((w40.wd rfl : zb_W [(5, 0), (6, 0), (7, 0), (8, 0), (1, 8), (16, 4)] h _).tr (w47.wd rfl)), _, rfl, by dsimp only; unfold zs_hnd; omega⟩
          · refine zx_T.s (i := .bipush (-2)) (k := 2) (st' := [.int (zI ((-2)))]) (pc := 35) rfl rfl ?_
            exact zr_ir (x := (-2)) (pc := 37) rfl rfl rfl ⟨hI, zb_W.rf, _, rfl, by dsimp only; unfold zs_hnd; omega⟩

set_option maxRecDepth 100000 in
set_option maxHeartbeats 4000000 in
theorem zm_cPlaces {h : zx_H} (hI : zb_I zc_H h)   : zx_T zp_P 0 zp_m4 0 [(0, .ref 1)] [] h (zr_P h (fun e => e = zv_f h 1 3 ∧ 0 ≤ e ∧ e ≤ 60)) := by
  refine zx_T.l (i := .aload_n 0) (k := 1) (v := .ref 1) (pc := 0) rfl rfl rfl ?_
  refine zw_gi (k := 3) (lo := 0) (hi := 60) (e := zv_f h 1 3) (pc := 1) rfl rfl rfl hI rfl (fun g1a g1b => ?_)
  exact zr_ir (x := zv_f h 1 3) (pc := 4) rfl rfl rfl ⟨rfl, _, rfl, by dsimp only; omega⟩

set_option maxRecDepth 100000 in
set_option maxHeartbeats 4000000 in
theorem zm_cForget {h : zx_H} (hI : zb_I zc_H h)   : zx_T zp_P 0 zp_m3 0 [(0, .ref 1)] [] h (zr_V [(1, 3), (1, 8), (1, 10)] h (fun h' => zv_f h' 1 3 = 0 ∧ zv_f h' 1 8 = 0 ∧ zv_f h' 1 10 = 0)) := by
  refine zx_T.l (i := .aload_n 0) (k := 1) (v := .ref 1) (pc := 0) rfl rfl rfl ?_
  refine zx_T.s (i := .iconst 0) (k := 1) (st' := [.int (zI (0)), .ref 1]) (pc := 1) rfl rfl ?_
  refine zw_pi (k := 3) (lo := 0) (hi := 60) (e := 0) (pc := 2) rfl rfl rfl rfl rfl rfl hI (by omega) (by omega) (fun h1 ih1 w2 e3 => ?_)
  refine zx_T.l (i := .aload_n 0) (k := 1) (v := .ref 1) (pc := 5) rfl rfl rfl ?_
  refine zx_T.s (i := .iconst 0) (k := 1) (st' := [.int (zI (0)), .ref 1]) (pc := 6) rfl rfl ?_
  refine zw_pi (k := 8) (lo := 0) (hi := 6) (e := 0) (pc := 7) rfl rfl rfl rfl rfl rfl ih1 (by omega) (by omega) (fun h4 ih4 w5 e6 => ?_)
  refine zx_T.l (i := .aload_n 0) (k := 1) (v := .ref 1) (pc := 10) rfl rfl rfl ?_
  refine zx_T.s (i := .iconst 0) (k := 1) (st' := [.int (zI (0)), .ref 1]) (pc := 11) rfl rfl ?_
  refine zw_pi (k := 10) (lo := 0) (hi := 8) (e := 0) (pc := 12) rfl rfl rfl rfl rfl rfl ih4 (by omega) (by omega) (fun h7 ih7 w8 e9 => ?_)
  have y10 : zv_f h7 1 3 = 0 := ((zv_wf w8 rfl).trans ((zv_wf w5 rfl).trans e3))
  have y11 : zv_f h7 1 8 = 0 := ((zv_wf w8 rfl).trans e6)
  have y12 : zv_f h7 1 10 = 0 := e9
  exact zr_vr (pc := 15) rfl rfl ⟨ih7, (((w2.wd rfl : zb_W [(1, 3), (1, 8), (1, 10)] h _).tr (w5.wd rfl)).tr (w8.wd rfl)), rfl, by dsimp only; omega⟩

set_option maxRecDepth 100000 in
set_option maxHeartbeats 4000000 in
theorem zm_cClear {h : zx_H} (hI : zb_I zc_H h)   : zx_T zp_P 1 zp_m152 0 [(0, .ref 0)] [] h (zr_R [(1, 3), (1, 8), (1, 10), (16, 4)] h (fun e h' => e = zv_f h 1 3 ∧ zv_f h' 1 3 = 0 ∧ zv_f h' 1 8 = 0 ∧ zv_f h' 1 10 = 0)) := by
  refine zx_T.l (i := .aload_n 0) (k := 1) (v := .ref 0) (pc := 0) rfl rfl rfl ?_
  refine zw_gr (k := 0) (b := 1) (pc := 1) rfl rfl rfl hI ?_
  refine zw_iv (b := 1) (cj := 4) (q' := zp_m4) (As := []) (rest := []) (pc := 4) rfl rfl rfl rfl rfl rfl rfl (Nat.le_of_ble_eq_true rfl) rfl (Nat.le_of_ble_eq_true rfl) hI ((zm_cPlaces (h := h) hI  ).up (Nat.le_of_ble_eq_true rfl)) ?_
  rintro r1 h4 ⟨h4q, v2, r1q, x3⟩
  subst h4q r1q
  try dsimp only at x3
  show zx_T zp_P 1 zp_m152 7 [(0, .ref 0)] [.int (zI (v2))] h _
  refine zx_T.t (i := .istore_n 1) (k := 1) (ls' := [(1, .int (zI (v2))), (0, .ref 0)]) (st' := []) (pc := 7) rfl rfl rfl rfl ?_
  refine zx_T.l (i := .aload_n 0) (k := 1) (v := .ref 0) (pc := 8) rfl rfl rfl ?_
  refine zw_gr (k := 0) (b := 1) (pc := 9) rfl rfl rfl hI ?_
  refine zw_iv (b := 1) (cj := 3) (q' := zp_m3) (As := []) (rest := []) (pc := 12) rfl rfl rfl rfl rfl rfl rfl (Nat.le_of_ble_eq_true rfl) rfl (Nat.le_of_ble_eq_true rfl) hI ((zm_cForget (h := h) hI  ).up (Nat.le_of_ble_eq_true rfl)) ?_
  rintro r5 h8 ⟨ih8, w9, r5q, x7⟩
  subst r5q
  try dsimp only at x7
  show zx_T zp_P 1 zp_m152 15 [(1, .int (zI (v2))), (0, .ref 0)] [] h8 _
  refine zx_T.l (i := .aload_n 0) (k := 1) (v := .ref 0) (pc := 15) rfl rfl rfl ?_
  refine zw_gr (k := 2) (b := 16) (pc := 16) rfl rfl rfl ih8 ?_
  refine zw_iv (b := 16) (cj := 78) (q' := zp_m78) (As := []) (rest := []) (pc := 19) rfl rfl rfl rfl rfl rfl rfl (Nat.le_of_ble_eq_true rfl) rfl (Nat.le_of_ble_eq_true rfl) ih8 ((zm_cUndo (h := h8) ih8  ).up (Nat.le_of_ble_eq_true rfl)) ?_
  rintro r10 h13 ⟨ih13, w14, r10q, x12⟩
  subst r10q
  try dsimp only at x12
  show zx_T zp_P 1 zp_m152 22 [(1, .int (zI (v2))), (0, .ref 0)] [] h13 _
  refine zx_T.l (i := .iload_n 1) (k := 1) (v := .int (zI (v2))) (pc := 22) rfl rfl rfl ?_
  have y15 : zv_f h13 1 3 = zv_f h8 1 3 := (zv_wf w14 rfl)
  have y16 : zv_f h13 1 8 = zv_f h8 1 8 := (zv_wf w14 rfl)
  have y17 : zv_f h13 1 10 = zv_f h8 1 10 := (zv_wf w14 rfl)
  exact zr_ir (x := v2) (pc := 23) rfl rfl rfl ⟨ih13, ((w9.wd rfl : zb_W [(1, 3), (1, 8), (1, 10), (16, 4)] h _).tr (w14.wd rfl)), _, rfl, by dsimp only; exact ⟨by omega, by omega, by omega, by omega⟩⟩

set_option maxRecDepth 100000 in
set_option maxHeartbeats 4000000 in
theorem zm_cChange {h : zx_H} (hI : zb_I zc_H h) {i : Int} {v : Int} (i1 : -2147483648 ≤ i) (i2 : i ≤ 2147483647) : zx_T zp_P 0 zp_m51 0 [(0, .ref 34), (1, .int (zI (i))), (2, .long (zL (v)))] [] h (zr_G [(35, 0)] h (fun e h' => zs_arg i v e (zv_b h 35) (zv_b h' 35))) := by
  refine zx_T.l (i := .iload_n 1) (k := 1) (v := .int (zI (i))) (pc := 0) rfl rfl rfl ?_
  refine zr_i1 (x := i) (t := 10) (pc := 1) rfl rfl (by omega) (by omega) (fun (c1 : i < 0) => ?_) (fun (c1 : ¬ (i < 0)) => ?_)
  · refine zx_T.g (i := .ldc2_w 43) (k := 3) (st' := [.long (zL ((-2)))]) (h' := h) (pc := 10) rfl rfl rfl rfl rfl rfl ?_
    have b35 : ∀ j, 0 ≤ j → zv_b h 35 j = zv_b h 35 j := fun j hj => rfl
    exact zr_lr (x := (-2)) (pc := 13) rfl rfl ⟨hI, zb_W.rf, _, rfl, by dsimp only; exact Or.inl ⟨by omega, by omega, fun j j0 => by rw [b35 j j0]⟩⟩
  · refine zx_T.l (i := .iload_n 1) (k := 1) (v := .int (zI (i))) (pc := 4) rfl rfl rfl ?_
    refine zx_T.s (i := .bipush 8) (k := 2) (st' := [.int (zI (8)), .int (zI (i))]) (pc := 5) rfl rfl ?_
    refine zr_i2 (x := i) (y := 8) (t := 14) (pc := 7) rfl rfl (by omega) (by omega) (by omega) (by omega) (fun (c3 : i < 8) => ?_) (fun (c3 : ¬ (i < 8)) => ?_)
    · refine zx_T.l (i := .aload_n 0) (k := 1) (v := .ref 34) (pc := 14) rfl rfl rfl ?_
      refine zw_gr (k := 1) (b := 35) (pc := 15) rfl rfl rfl hI ?_
      refine zx_T.l (i := .iload_n 1) (k := 1) (v := .int (zI (i))) (pc := 18) rfl rfl rfl ?_
      have g4 := zv_rb (h := h) 35 i
      refine zr_ll (n := 8) (e := zv_b h 35 i) (pc := 19) rfl rfl rfl hI (by omega) (by omega) rfl ?_
      refine zx_T.t (i := .lstore 4) (k := 2) (ls' := [(4, .long (zL (zv_b h 35 i))), (0, .ref 34), (1, .int (zI (i))), (2, .long (zL (v)))]) (st' := []) (pc := 20) rfl rfl rfl rfl ?_
      refine zx_T.l (i := .aload_n 0) (k := 1) (v := .ref 34) (pc := 22) rfl rfl rfl ?_
      refine zw_gr (k := 1) (b := 35) (pc := 23) rfl rfl rfl hI ?_
      refine zx_T.l (i := .iload_n 1) (k := 1) (v := .int (zI (i))) (pc := 26) rfl rfl rfl ?_
      refine zx_T.l (i := .lload_n 2) (k := 1) (v := .long (zL (v))) (pc := 27) rfl rfl rfl ?_
      refine zr_ls (n := 8) (e := v) (pc := 28) rfl rfl rfl hI (by omega) (by omega) (fun h5 ih5 w6 s7 => ?_)
      refine zx_T.l (i := .lload 4) (k := 2) (v := .long (zL (zv_b h 35 i))) (pc := 29) rfl rfl rfl ?_
      have b35 : ∀ j, 0 ≤ j → zv_b h5 35 j = if j = i then (zL (v)).toInt else zv_b h 35 j := fun j hj => by rw [s7 j hj]
      exact zr_lr (x := zv_b h 35 i) (pc := 31) rfl rfl ⟨ih5, (w6.wd rfl : zb_W [(35, 0)] h _), _, rfl, by dsimp only; exact Or.inr ⟨by omega, by omega, fun j j0 => by rw [b35 j j0]⟩⟩
    · refine zx_T.g (i := .ldc2_w 43) (k := 3) (st' := [.long (zL ((-2)))]) (h' := h) (pc := 10) rfl rfl rfl rfl rfl rfl ?_
      have b35 : ∀ j, 0 ≤ j → zv_b h 35 j = zv_b h 35 j := fun j hj => rfl
      exact zr_lr (x := (-2)) (pc := 13) rfl rfl ⟨hI, zb_W.rf, _, rfl, by dsimp only; exact Or.inl ⟨by omega, by omega, fun j j0 => by rw [b35 j j0]⟩⟩

set_option maxRecDepth 100000 in
set_option maxHeartbeats 4000000 in
theorem zm_cArgument {h : zx_H} (hI : zb_I zc_H h) {i : Int} {v : Int} (i1 : -2147483648 ≤ i) (i2 : i ≤ 2147483647) : zx_T zp_P 1 zp_m148 0 [(0, .ref 0), (1, .int (zI (i))), (2, .long (zL (v)))] [] h (zr_G [(35, 0)] h (fun e h' => zs_arg i v e (zv_b h 35) (zv_b h' 35))) := by
  refine zx_T.l (i := .aload_n 0) (k := 1) (v := .ref 0) (pc := 0) rfl rfl rfl ?_
  refine zw_gr (k := 5) (b := 34) (pc := 1) rfl rfl rfl hI ?_
  refine zx_T.l (i := .iload_n 1) (k := 1) (v := .int (zI (i))) (pc := 4) rfl rfl rfl ?_
  refine zx_T.l (i := .lload_n 2) (k := 1) (v := .long (zL (v))) (pc := 5) rfl rfl rfl ?_
  refine zw_iv (b := 34) (cj := 51) (q' := zp_m51) (As := [.int (zI (i)), .long (zL (v))]) (rest := []) (pc := 6) rfl rfl rfl rfl rfl rfl rfl (Nat.le_of_ble_eq_true rfl) rfl (Nat.le_of_ble_eq_true rfl) hI ((zm_cChange (h := h) hI (i := i) (v := v) (by omega) (by omega)).up (Nat.le_of_ble_eq_true rfl)) ?_
  rintro r1 h4 ⟨ih4, w5, v2, r1q, x3⟩
  subst r1q
  try dsimp only at x3
  have xq := x3
  show zx_T zp_P 1 zp_m148 9 [(0, .ref 0), (1, .int (zI (i))), (2, .long (zL (v)))] [.long (zL (v2))] h4 _
  exact zr_lr (x := v2) (pc := 9) rfl rfl ⟨ih4, (w5.wd rfl : zb_W [(35, 0)] h _), _, rfl, by dsimp only; exact xq⟩
