/-! ===== 98m: rounds of the law's loop (by program) ===== -/
section ZLC
variable {HT : List za_D} {P P2 : zx_P} {stop d pc : Nat} {q : zx_M} {ls : zx_L} {st : List Value} {h : zx_H} {F : zx_L → List Value → zx_H → Prop}
theorem zl_cv {idx b ci cj : Nat} {q' : zx_M} {As rest : List Value} {Fc : Option Value → zx_H → Prop} (ha : zx_at (zx_mi q) pc = some (.invokevirtual idx, 3)) (hpc : zx_pc P2 (zx_mo q) idx = some cj) (hpm : (zx_pm P2)[cj]? = some q') (hq : (zx_pm P)[cj]? = some q') (hmc : zx_mc q' = some ci) (hoc : za_oc HT b ci = true) (hst : st = As.reverse ++ .ref b :: rest) (hlen : As.length = zx_mp q') (hcat : (rest.map fun v => v.category).sum ≤ 8) (hml : Nat.ble (zx_ml q') 21 = true) (hsl : (lg_sl (.ref b :: As)).length ≤ zx_ml q') (hI : zb_I HT h) (hc : zx_T P d q' 0 (lv_args 0 (.ref b :: As)) [] h Fc) (ht : ∀ r1 h1, Fc r1 h1 → zl_T P P2 stop q d (pc + 3) ls (r1.toList ++ rest) h1 F) : zl_T P P2 stop q d pc ls st h F := by
  have hdrop : st.drop (zx_mp q') = .ref b :: rest := by rw [hst, ← hlen, ← List.length_reverse, List.drop_left]
  have htake : st.take (zx_mp q') = As.reverse := by rw [hst, ← hlen, ← List.length_reverse, List.take_left]
  obtain ⟨fs, hfs⟩ : ∃ fs, h[b]? = some (.inr (ci, fs)) := by
    unfold za_oc at hoc
    split at hoc
    · next cj9 fd9 e9 =>
      obtain ⟨fs, e8, _⟩ := hI.obj e9
      rw [← Nat.eq_of_beq_eq_true hoc]
      exact ⟨fs, e8⟩
    · cases hoc
  refine zl_T.c (cj := cj) (as := .ref b :: As) (rest := rest) (q' := q') ha rfl rfl rfl rfl rfl rfl rfl ?_ hq hc ht
  unfold zx_k
  simp only [hpc, hpm, hdrop, hfs, htake, List.reverse_reverse]
  rw [if_pos ⟨trivial, hmc, by rw [List.length_reverse]; exact hlen, hcat, Nat.le_of_ble_eq_true hml, hsl⟩]
end ZLC
theorem zn_5 (i : Nat) : nI i + Int32.ofInt 5 = nI (i + 5) := by
  rw [show Int32.ofInt 5 = nI 5 from by decide +kernel]; exact nI_add i 5
theorem zn_l5 (L : Nat) (hL : L ≤ 2560) : (nI L - Int32.ofInt 5).toInt = (L : Int) - 5 := by
  have e : nI L - Int32.ofInt 5 = zI ((L : Int) - 5) := by
    rw [show nI L = Int32.ofInt (L : Int) from Int32.ofInt_eq_ofNat.symm, zI, Int32.ofInt_sub]
  rw [e, zI_i (by omega) (by omega)]
theorem zn_gt (i L : Nat) (hi : i ≤ 3000) (hL : L ≤ 2560) : zx_cmp .gt (nI i) (nI L - Int32.ofInt 5) = decide (L < i + 5) := by
  unfold zx_cmp
  rw [decide_eq_decide, Int32.lt_iff_toInt_lt, zn_l5 L hL, nI_toInt (by omega)]
  omega
theorem zn_31 (x : Int32) : 0 ≤ (x &&& (Int8.ofInt 31).toInt32).toInt ∧ (x &&& (Int8.ofInt 31).toInt32).toInt ≤ 31 := by
  rw [show (Int8.ofInt 31).toInt32 = (31 : Int32) from by decide +kernel]
  have e1 : (x &&& 31).toInt = (x.toBitVec &&& 31#32).toInt := rfl
  have e2 : (x.toBitVec &&& 31#32).toNat ≤ 31 := by
    rw [BitVec.toNat_and]; exact Nat.and_le_right
  rw [e1, BitVec.toInt_eq_toNat_of_lt (by omega)]
  omega
def zn_SW : Instr := .tableswitch 601 0 16 #[81, 106, 155, 216, 229, 242, 279, 304, 341, 390, 403, 416, 444, 513, 538, 563, 588]
theorem zn_sw {x : Int32} {k : Int} {t : Nat} (hx : x.toInt = k) (e : (if k < 0 ∨ 16 < k then (zx_tg 39 601).map (fun t => (t, ([] : List Value))) else (match (#[81, 106, 155, 216, 229, 242, 279, 304, 341, 390, 403, 416, 444, 513, 538, 563, 588] : Array Int)[(k - 0).toNat]? with
    | some off => (zx_tg 39 off).map (fun t => (t, ([] : List Value)))
    | none => none)) = some (t, [])) : zx_j zn_SW 81 39 [.int x] = some (t, []) := by subst hx; exact e
theorem zn_sd {x : Int32} (hx : 17 ≤ x.toInt) : zx_j zn_SW 81 39 [.int x] = some (640, []) := by
  refine zn_sw rfl ?_
  rw [if_pos (Or.inr (by omega))]
  rfl
theorem zn_cmp0 (x : Int64) : lg_cmp x x = 0 := by
  unfold lg_cmp
  rw [if_neg (Int64.lt_irrefl), if_pos rfl]

theorem zn_eq {x : Int32} {off : Int} {t n pc : Nat} {r : List Value} (e : (if n = 3 then (zx_tg pc off).map (fun t => (t, r)) else none) = some (t, r)) : zx_j (.if_icmp .eq off) n pc (.int x :: .int x :: r) = some (t, r) := by
  by_cases c : n = 3
  · rw [if_pos c] at e
    unfold zx_j
    simp only
    rw [if_pos c]
    cases e9 : zx_tg pc off with
    | none => rw [e9] at e; cases e
    | some t9 => rw [e9] at e; cases e; simp [zx_cmp]
  · rw [if_neg c] at e; cases e

set_option maxRecDepth 100000 in
theorem zl_o0 {L : Nat} {xs : Nat → Int32} {i : Nat} {h : zx_H} (hi : i + 5 ≤ L) (hL : L ≤ 2560) (hN : zn_U h) : zl_T zp_P (zl_P L xs) 23 zl_q 20 120 [(4, .int (nI (i))), (0, .ref 2000000), (1, .ref 0), (2, .ref 44), (3, .ref 73)] [] h (fun ls' st' h' => ls' = [(4, .int (nI (i + 5))), (0, .ref 2000000), (1, .ref 0), (2, .ref 44), (3, .ref 73)] ∧ st' = [] ∧ zn_U h') := by
  refine zl_T.l (i := .aload_n 1) (k := 1) (v := .ref 0) zl_a120 rfl rfl (by decide) ?_
  refine zl_arg (i := i) (c := 1) zl_a121 zl_a122 zl_a124 zl_a125 zl_a126 rfl rfl hN.1.1.1.1.1 (by decide) (by decide) hi hL (by decide) ?_
  refine zl_cv (b := 0) (cj := 136) (q' := zp_m136) (As := [.int (xs (i + 1))]) (rest := []) zl_a127 rfl rfl rfl rfl rfl rfl rfl (Nat.le_of_ble_eq_true rfl) rfl (Nat.le_of_ble_eq_true rfl) hN.1.1.1.1.1 ((zN_c_parameter hN.1.1.1.1.1 ((xs (i + 1)))).up (Nat.le_of_ble_eq_true rfl)) ?_
  rintro r1 h1 ⟨i1, w1, e1, rfl, x1⟩
  refine zl_T.s (i := .pop) (k := 1) (st' := []) zl_a130 rfl (by decide) ?_
  refine zl_T.l (i := .aload_n 2) (k := 1) (v := .ref 44) zl_a131 rfl rfl (by decide) ?_
  refine zl_arg (i := i) (c := 1) zl_a132 zl_a133 zl_a135 zl_a136 zl_a137 rfl rfl i1 (by decide) (by decide) hi hL (by decide) ?_
  refine zl_cv (b := 44) (cj := 196) (q' := zp_m196) (As := [.int (xs (i + 1))]) (rest := []) zl_a138 rfl rfl rfl rfl rfl rfl rfl (Nat.le_of_ble_eq_true rfl) rfl (Nat.le_of_ble_eq_true rfl) i1 ((zN_m_parameter i1 ((xs (i + 1)))).up (Nat.le_of_ble_eq_true rfl)) ?_
  rintro r2 h2 ⟨i2, w2, e2, rfl, x2⟩
  obtain ⟨hN2, ee⟩ := zU_p_parameter hN i1 i2 w1 w2 x1 x2
  subst ee
  refine zl_T.s (i := .pop) (k := 1) (st' := []) zl_a141 rfl (by decide) ?_
  refine zl_T.j (i := .goto 498) (k := 3) (pc' := 640) (st' := []) zl_a142 rfl rfl rfl rfl (by decide) ?_
  refine zl_T.t (i := .iinc 4 5) (k := 3) (ls' := [(4, .int (nI (i + 5))), (0, .ref 2000000), (1, .ref 0), (2, .ref 44), (3, .ref 73)]) (st' := []) zl_a640 rfl rfl (by show some (3, zx_set1 _ 4 (.int (nI i + Int32.ofInt 5)), _) = _; rw [zn_5]; rfl) (by decide) ?_
  exact zl_T.js (i := .goto (-620)) (k := 3) (st' := []) zl_a643 rfl rfl rfl rfl ⟨rfl, rfl, hN2⟩

set_option maxRecDepth 100000 in
theorem zl_o1 {L : Nat} {xs : Nat → Int32} {i : Nat} {h : zx_H} (hi : i + 5 ≤ L) (hL : L ≤ 2560) (hN : zn_U h) : zl_T zp_P (zl_P L xs) 23 zl_q 20 145 [(4, .int (nI (i))), (0, .ref 2000000), (1, .ref 0), (2, .ref 44), (3, .ref 73)] [] h (fun ls' st' h' => ls' = [(4, .int (nI (i + 5))), (0, .ref 2000000), (1, .ref 0), (2, .ref 44), (3, .ref 73)] ∧ st' = [] ∧ zn_U h') := by
  refine zl_T.l (i := .aload_n 1) (k := 1) (v := .ref 0) zl_a145 rfl rfl (by decide) ?_
  refine zl_arg (i := i) (c := 1) zl_a146 zl_a147 zl_a149 zl_a150 zl_a151 rfl rfl hN.1.1.1.1.1 (by decide) (by decide) hi hL (by decide) ?_
  refine zl_arg (i := i) (c := 2) zl_a152 zl_a153 zl_a155 zl_a156 zl_a157 rfl rfl hN.1.1.1.1.1 (by decide) (by decide) hi hL (by decide) ?_
  refine zl_arg (i := i) (c := 3) zl_a158 zl_a159 zl_a161 zl_a162 zl_a163 rfl rfl hN.1.1.1.1.1 (by decide) (by decide) hi hL (by decide) ?_
  refine zl_cv (b := 0) (cj := 137) (q' := zp_m137) (As := [.int (xs (i + 1)), .int (xs (i + 2)), .int (xs (i + 3))]) (rest := []) zl_a164 rfl rfl rfl rfl rfl rfl rfl (Nat.le_of_ble_eq_true rfl) rfl (Nat.le_of_ble_eq_true rfl) hN.1.1.1.1.1 ((zN_c_operation hN.1.1.1.1.1 ((xs (i + 1))) ((xs (i + 2))) ((xs (i + 3)))).up (Nat.le_of_ble_eq_true rfl)) ?_
  rintro r1 h1 ⟨i1, w1, e1, rfl, x1⟩
  refine zl_T.s (i := .pop) (k := 1) (st' := []) zl_a167 rfl (by decide) ?_
  refine zl_T.l (i := .aload_n 2) (k := 1) (v := .ref 44) zl_a168 rfl rfl (by decide) ?_
  refine zl_arg (i := i) (c := 1) zl_a169 zl_a170 zl_a172 zl_a173 zl_a174 rfl rfl i1 (by decide) (by decide) hi hL (by decide) ?_
  refine zl_arg (i := i) (c := 2) zl_a175 zl_a176 zl_a178 zl_a179 zl_a180 rfl rfl i1 (by decide) (by decide) hi hL (by decide) ?_
  refine zl_arg (i := i) (c := 3) zl_a181 zl_a182 zl_a184 zl_a185 zl_a186 rfl rfl i1 (by decide) (by decide) hi hL (by decide) ?_
  refine zl_cv (b := 44) (cj := 197) (q' := zp_m197) (As := [.int (xs (i + 1)), .int (xs (i + 2)), .int (xs (i + 3))]) (rest := []) zl_a187 rfl rfl rfl rfl rfl rfl rfl (Nat.le_of_ble_eq_true rfl) rfl (Nat.le_of_ble_eq_true rfl) i1 ((zN_m_operation i1 ((xs (i + 1))) ((xs (i + 2))) ((xs (i + 3)))).up (Nat.le_of_ble_eq_true rfl)) ?_
  rintro r2 h2 ⟨i2, w2, e2, rfl, x2⟩
  obtain ⟨hN2, ee⟩ := zU_p_operation hN i1 i2 w1 w2 x1 x2
  subst ee
  refine zl_T.s (i := .pop) (k := 1) (st' := []) zl_a190 rfl (by decide) ?_
  refine zl_T.j (i := .goto 449) (k := 3) (pc' := 640) (st' := []) zl_a191 rfl rfl rfl rfl (by decide) ?_
  refine zl_T.t (i := .iinc 4 5) (k := 3) (ls' := [(4, .int (nI (i + 5))), (0, .ref 2000000), (1, .ref 0), (2, .ref 44), (3, .ref 73)]) (st' := []) zl_a640 rfl rfl (by show some (3, zx_set1 _ 4 (.int (nI i + Int32.ofInt 5)), _) = _; rw [zn_5]; rfl) (by decide) ?_
  exact zl_T.js (i := .goto (-620)) (k := 3) (st' := []) zl_a643 rfl rfl rfl rfl ⟨rfl, rfl, hN2⟩

set_option maxRecDepth 100000 in
theorem zl_o2 {L : Nat} {xs : Nat → Int32} {i : Nat} {h : zx_H} (hi : i + 5 ≤ L) (hL : L ≤ 2560) (hN : zn_U h) : zl_T zp_P (zl_P L xs) 23 zl_q 20 194 [(4, .int (nI (i))), (0, .ref 2000000), (1, .ref 0), (2, .ref 44), (3, .ref 73)] [] h (fun ls' st' h' => ls' = [(4, .int (nI (i + 5))), (0, .ref 2000000), (1, .ref 0), (2, .ref 44), (3, .ref 73)] ∧ st' = [] ∧ zn_U h') := by
  refine zl_T.l (i := .aload_n 1) (k := 1) (v := .ref 0) zl_a194 rfl rfl (by decide) ?_
  refine zl_arg (i := i) (c := 1) zl_a195 zl_a196 zl_a198 zl_a199 zl_a200 rfl rfl hN.1.1.1.1.1 (by decide) (by decide) hi hL (by decide) ?_
  refine zl_arg (i := i) (c := 2) zl_a201 zl_a202 zl_a204 zl_a205 zl_a206 rfl rfl hN.1.1.1.1.1 (by decide) (by decide) hi hL (by decide) ?_
  refine zl_arg (i := i) (c := 3) zl_a207 zl_a208 zl_a210 zl_a211 zl_a212 rfl rfl hN.1.1.1.1.1 (by decide) (by decide) hi hL (by decide) ?_
  refine zl_arg (i := i) (c := 4) zl_a213 zl_a214 zl_a216 zl_a217 zl_a218 rfl rfl hN.1.1.1.1.1 (by decide) (by decide) hi hL (by decide) ?_
  refine zl_cv (b := 0) (cj := 138) (q' := zp_m138) (As := [.int (xs (i + 1)), .int (xs (i + 2)), .int (xs (i + 3)), .int (xs (i + 4))]) (rest := []) zl_a219 rfl rfl rfl rfl rfl rfl rfl (Nat.le_of_ble_eq_true rfl) rfl (Nat.le_of_ble_eq_true rfl) hN.1.1.1.1.1 ((zN_c_handler hN.1.1.1.1.1 ((xs (i + 1))) ((xs (i + 2))) ((xs (i + 3))) ((xs (i + 4)))).up (Nat.le_of_ble_eq_true rfl)) ?_
  rintro r1 h1 ⟨i1, w1, e1, rfl, x1⟩
  refine zl_T.s (i := .pop) (k := 1) (st' := []) zl_a222 rfl (by decide) ?_
  refine zl_T.l (i := .aload_n 2) (k := 1) (v := .ref 44) zl_a223 rfl rfl (by decide) ?_
  refine zl_arg (i := i) (c := 1) zl_a224 zl_a225 zl_a227 zl_a228 zl_a229 rfl rfl i1 (by decide) (by decide) hi hL (by decide) ?_
  refine zl_arg (i := i) (c := 2) zl_a230 zl_a231 zl_a233 zl_a234 zl_a235 rfl rfl i1 (by decide) (by decide) hi hL (by decide) ?_
  refine zl_arg (i := i) (c := 3) zl_a236 zl_a237 zl_a239 zl_a240 zl_a241 rfl rfl i1 (by decide) (by decide) hi hL (by decide) ?_
  refine zl_arg (i := i) (c := 4) zl_a242 zl_a243 zl_a245 zl_a246 zl_a247 rfl rfl i1 (by decide) (by decide) hi hL (by decide) ?_
  refine zl_cv (b := 44) (cj := 198) (q' := zp_m198) (As := [.int (xs (i + 1)), .int (xs (i + 2)), .int (xs (i + 3)), .int (xs (i + 4))]) (rest := []) zl_a248 rfl rfl rfl rfl rfl rfl rfl (Nat.le_of_ble_eq_true rfl) rfl (Nat.le_of_ble_eq_true rfl) i1 ((zN_m_handler i1 ((xs (i + 1))) ((xs (i + 2))) ((xs (i + 3))) ((xs (i + 4)))).up (Nat.le_of_ble_eq_true rfl)) ?_
  rintro r2 h2 ⟨i2, w2, e2, rfl, x2⟩
  obtain ⟨hN2, ee⟩ := zU_p_handler hN i1 i2 w1 w2 x1 x2
  subst ee
  refine zl_T.s (i := .pop) (k := 1) (st' := []) zl_a251 rfl (by decide) ?_
  refine zl_T.j (i := .goto 388) (k := 3) (pc' := 640) (st' := []) zl_a252 rfl rfl rfl rfl (by decide) ?_
  refine zl_T.t (i := .iinc 4 5) (k := 3) (ls' := [(4, .int (nI (i + 5))), (0, .ref 2000000), (1, .ref 0), (2, .ref 44), (3, .ref 73)]) (st' := []) zl_a640 rfl rfl (by show some (3, zx_set1 _ 4 (.int (nI i + Int32.ofInt 5)), _) = _; rw [zn_5]; rfl) (by decide) ?_
  exact zl_T.js (i := .goto (-620)) (k := 3) (st' := []) zl_a643 rfl rfl rfl rfl ⟨rfl, rfl, hN2⟩

set_option maxRecDepth 100000 in
theorem zl_o3 {L : Nat} {xs : Nat → Int32} {i : Nat} {h : zx_H} (hi : i + 5 ≤ L) (hL : L ≤ 2560) (hN : zn_U h) : zl_T zp_P (zl_P L xs) 23 zl_q 20 255 [(4, .int (nI (i))), (0, .ref 2000000), (1, .ref 0), (2, .ref 44), (3, .ref 73)] [] h (fun ls' st' h' => ls' = [(4, .int (nI (i + 5))), (0, .ref 2000000), (1, .ref 0), (2, .ref 44), (3, .ref 73)] ∧ st' = [] ∧ zn_U h') := by
  refine zl_T.l (i := .aload_n 1) (k := 1) (v := .ref 0) zl_a255 rfl rfl (by decide) ?_
  refine zl_cv (b := 0) (cj := 139) (q' := zp_m139) (As := []) (rest := []) zl_a256 rfl rfl rfl rfl rfl rfl rfl (Nat.le_of_ble_eq_true rfl) rfl (Nat.le_of_ble_eq_true rfl) hN.1.1.1.1.1 ((zV_c_make hN.1).up (Nat.le_of_ble_eq_true rfl)) ?_
  rintro r1 h1 ⟨i1, w1, e1, rfl, x1⟩
  refine zl_T.s (i := .pop) (k := 1) (st' := []) zl_a259 rfl (by decide) ?_
  refine zl_T.l (i := .aload_n 2) (k := 1) (v := .ref 44) zl_a260 rfl rfl (by decide) ?_
  refine zl_cv (b := 44) (cj := 176) (q' := zp_m176) (As := []) (rest := []) zl_a261 rfl rfl rfl rfl rfl rfl rfl (Nat.le_of_ble_eq_true rfl) rfl (Nat.le_of_ble_eq_true rfl) i1 ((zV_m_make hN.1 i1 w1).up (Nat.le_of_ble_eq_true rfl)) ?_
  rintro r2 h2 ⟨i2, w2, e2, rfl, x2⟩
  obtain ⟨hN2, ee⟩ := zU_p_make hN i1 i2 w1 w2 x1 x2
  subst ee
  refine zl_T.s (i := .pop) (k := 1) (st' := []) zl_a264 rfl (by decide) ?_
  refine zl_T.j (i := .goto 375) (k := 3) (pc' := 640) (st' := []) zl_a265 rfl rfl rfl rfl (by decide) ?_
  refine zl_T.t (i := .iinc 4 5) (k := 3) (ls' := [(4, .int (nI (i + 5))), (0, .ref 2000000), (1, .ref 0), (2, .ref 44), (3, .ref 73)]) (st' := []) zl_a640 rfl rfl (by show some (3, zx_set1 _ 4 (.int (nI i + Int32.ofInt 5)), _) = _; rw [zn_5]; rfl) (by decide) ?_
  exact zl_T.js (i := .goto (-620)) (k := 3) (st' := []) zl_a643 rfl rfl rfl rfl ⟨rfl, rfl, hN2⟩

set_option maxRecDepth 100000 in
theorem zl_o4 {L : Nat} {xs : Nat → Int32} {i : Nat} {h : zx_H} (hi : i + 5 ≤ L) (hL : L ≤ 2560) (hN : zn_U h) : zl_T zp_P (zl_P L xs) 23 zl_q 20 268 [(4, .int (nI (i))), (0, .ref 2000000), (1, .ref 0), (2, .ref 44), (3, .ref 73)] [] h (fun ls' st' h' => ls' = [(4, .int (nI (i + 5))), (0, .ref 2000000), (1, .ref 0), (2, .ref 44), (3, .ref 73)] ∧ st' = [] ∧ zn_U h') := by
  refine zl_T.l (i := .aload_n 1) (k := 1) (v := .ref 0) zl_a268 rfl rfl (by decide) ?_
  refine zl_cv (b := 0) (cj := 140) (q' := zp_m140) (As := []) (rest := []) zl_a269 rfl rfl rfl rfl rfl rfl rfl (Nat.le_of_ble_eq_true rfl) rfl (Nat.le_of_ble_eq_true rfl) hN.1.1.1.1.1 ((zU_c_fault hN ).up (Nat.le_of_ble_eq_true rfl)) ?_
  rintro r1 h1 ⟨⟨v1, rfl⟩, hN1⟩
  refine zl_T.s (i := .pop) (k := 1) (st' := []) zl_a272 rfl (by decide) ?_
  refine zl_T.l (i := .aload_n 2) (k := 1) (v := .ref 44) zl_a273 rfl rfl (by decide) ?_
  refine zl_cv (b := 44) (cj := 199) (q' := zp_m199) (As := []) (rest := []) zl_a274 rfl rfl rfl rfl rfl rfl rfl (Nat.le_of_ble_eq_true rfl) rfl (Nat.le_of_ble_eq_true rfl) hN1.1.1.1.1.1 ((zU_m_fault hN1 ).up (Nat.le_of_ble_eq_true rfl)) ?_
  rintro r2 h2 ⟨⟨v2, rfl⟩, hN2⟩
  refine zl_T.s (i := .pop) (k := 1) (st' := []) zl_a277 rfl (by decide) ?_
  refine zl_T.j (i := .goto 362) (k := 3) (pc' := 640) (st' := []) zl_a278 rfl rfl rfl rfl (by decide) ?_
  refine zl_T.t (i := .iinc 4 5) (k := 3) (ls' := [(4, .int (nI (i + 5))), (0, .ref 2000000), (1, .ref 0), (2, .ref 44), (3, .ref 73)]) (st' := []) zl_a640 rfl rfl (by show some (3, zx_set1 _ 4 (.int (nI i + Int32.ofInt 5)), _) = _; rw [zn_5]; rfl) (by decide) ?_
  exact zl_T.js (i := .goto (-620)) (k := 3) (st' := []) zl_a643 rfl rfl rfl rfl ⟨rfl, rfl, hN2⟩

set_option maxRecDepth 100000 in
theorem zl_o5 {L : Nat} {xs : Nat → Int32} {i : Nat} {h : zx_H} (hi : i + 5 ≤ L) (hL : L ≤ 2560) (hN : zn_U h) : zl_T zp_P (zl_P L xs) 23 zl_q 20 281 [(4, .int (nI (i))), (0, .ref 2000000), (1, .ref 0), (2, .ref 44), (3, .ref 73)] [] h (fun ls' st' h' => ls' = [(4, .int (nI (i + 5))), (0, .ref 2000000), (1, .ref 0), (2, .ref 44), (3, .ref 73)] ∧ st' = [] ∧ zn_U h') := by
  refine zl_T.l (i := .aload_n 1) (k := 1) (v := .ref 0) zl_a281 rfl rfl (by decide) ?_
  refine zl_arg (i := i) (c := 1) zl_a282 zl_a283 zl_a285 zl_a286 zl_a287 rfl rfl hN.1.1.1.1.1 (by decide) (by decide) hi hL (by decide) ?_
  refine zl_arg (i := i) (c := 2) zl_a288 zl_a289 zl_a291 zl_a292 zl_a293 rfl rfl hN.1.1.1.1.1 (by decide) (by decide) hi hL (by decide) ?_
  refine zl_cv (b := 0) (cj := 141) (q' := zp_m141) (As := [.int (xs (i + 1)), .int (xs (i + 2))]) (rest := []) zl_a294 rfl rfl rfl rfl rfl rfl rfl (Nat.le_of_ble_eq_true rfl) rfl (Nat.le_of_ble_eq_true rfl) hN.1.1.1.1.1 ((zN_c_kind hN.1.1 ((xs (i + 1))) ((xs (i + 2)))).up (Nat.le_of_ble_eq_true rfl)) ?_
  rintro r1 h1 ⟨i1, w1, e1, rfl, x1⟩
  refine zl_T.s (i := .pop) (k := 1) (st' := []) zl_a297 rfl (by decide) ?_
  refine zl_T.l (i := .aload_n 2) (k := 1) (v := .ref 44) zl_a298 rfl rfl (by decide) ?_
  refine zl_arg (i := i) (c := 1) zl_a299 zl_a300 zl_a302 zl_a303 zl_a304 rfl rfl i1 (by decide) (by decide) hi hL (by decide) ?_
  refine zl_arg (i := i) (c := 2) zl_a305 zl_a306 zl_a308 zl_a309 zl_a310 rfl rfl i1 (by decide) (by decide) hi hL (by decide) ?_
  refine zl_cv (b := 44) (cj := 200) (q' := zp_m200) (As := [.int (xs (i + 1)), .int (xs (i + 2))]) (rest := []) zl_a311 rfl rfl rfl rfl rfl rfl rfl (Nat.le_of_ble_eq_true rfl) rfl (Nat.le_of_ble_eq_true rfl) i1 ((zN_m_kind i1 ((xs (i + 1))) ((xs (i + 2)))).up (Nat.le_of_ble_eq_true rfl)) ?_
  rintro r2 h2 ⟨i2, w2, e2, rfl, x2⟩
  obtain ⟨hN2, ee⟩ := zU_p_kind hN i1 i2 w1 w2 x1 x2
  subst ee
  refine zl_T.s (i := .pop) (k := 1) (st' := []) zl_a314 rfl (by decide) ?_
  refine zl_T.j (i := .goto 325) (k := 3) (pc' := 640) (st' := []) zl_a315 rfl rfl rfl rfl (by decide) ?_
  refine zl_T.t (i := .iinc 4 5) (k := 3) (ls' := [(4, .int (nI (i + 5))), (0, .ref 2000000), (1, .ref 0), (2, .ref 44), (3, .ref 73)]) (st' := []) zl_a640 rfl rfl (by show some (3, zx_set1 _ 4 (.int (nI i + Int32.ofInt 5)), _) = _; rw [zn_5]; rfl) (by decide) ?_
  exact zl_T.js (i := .goto (-620)) (k := 3) (st' := []) zl_a643 rfl rfl rfl rfl ⟨rfl, rfl, hN2⟩

set_option maxRecDepth 100000 in
theorem zl_o6 {L : Nat} {xs : Nat → Int32} {i : Nat} {h : zx_H} (hi : i + 5 ≤ L) (hL : L ≤ 2560) (hN : zn_U h) : zl_T zp_P (zl_P L xs) 23 zl_q 20 318 [(4, .int (nI (i))), (0, .ref 2000000), (1, .ref 0), (2, .ref 44), (3, .ref 73)] [] h (fun ls' st' h' => ls' = [(4, .int (nI (i + 5))), (0, .ref 2000000), (1, .ref 0), (2, .ref 44), (3, .ref 73)] ∧ st' = [] ∧ zn_U h') := by
  refine zl_T.l (i := .aload_n 1) (k := 1) (v := .ref 0) zl_a318 rfl rfl (by decide) ?_
  refine zl_arg (i := i) (c := 1) zl_a319 zl_a320 zl_a322 zl_a323 zl_a324 rfl rfl hN.1.1.1.1.1 (by decide) (by decide) hi hL (by decide) ?_
  refine zl_cv (b := 0) (cj := 142) (q' := zp_m142) (As := [.int (xs (i + 1))]) (rest := []) zl_a325 rfl rfl rfl rfl rfl rfl rfl (Nat.le_of_ble_eq_true rfl) rfl (Nat.le_of_ble_eq_true rfl) hN.1.1.1.1.1 ((zN_c_size hN.1.1 ((xs (i + 1)))).up (Nat.le_of_ble_eq_true rfl)) ?_
  rintro r1 h1 ⟨i1, w1, e1, rfl, x1⟩
  refine zl_T.s (i := .pop) (k := 1) (st' := []) zl_a328 rfl (by decide) ?_
  refine zl_T.l (i := .aload_n 2) (k := 1) (v := .ref 44) zl_a329 rfl rfl (by decide) ?_
  refine zl_arg (i := i) (c := 1) zl_a330 zl_a331 zl_a333 zl_a334 zl_a335 rfl rfl i1 (by decide) (by decide) hi hL (by decide) ?_
  refine zl_cv (b := 44) (cj := 201) (q' := zp_m201) (As := [.int (xs (i + 1))]) (rest := []) zl_a336 rfl rfl rfl rfl rfl rfl rfl (Nat.le_of_ble_eq_true rfl) rfl (Nat.le_of_ble_eq_true rfl) i1 ((zN_m_size i1 ((xs (i + 1)))).up (Nat.le_of_ble_eq_true rfl)) ?_
  rintro r2 h2 ⟨i2, w2, e2, rfl, x2⟩
  obtain ⟨hN2, ee⟩ := zU_p_size hN i1 i2 w1 w2 x1 x2
  subst ee
  refine zl_T.s (i := .pop) (k := 1) (st' := []) zl_a339 rfl (by decide) ?_
  refine zl_T.j (i := .goto 300) (k := 3) (pc' := 640) (st' := []) zl_a340 rfl rfl rfl rfl (by decide) ?_
  refine zl_T.t (i := .iinc 4 5) (k := 3) (ls' := [(4, .int (nI (i + 5))), (0, .ref 2000000), (1, .ref 0), (2, .ref 44), (3, .ref 73)]) (st' := []) zl_a640 rfl rfl (by show some (3, zx_set1 _ 4 (.int (nI i + Int32.ofInt 5)), _) = _; rw [zn_5]; rfl) (by decide) ?_
  exact zl_T.js (i := .goto (-620)) (k := 3) (st' := []) zl_a643 rfl rfl rfl rfl ⟨rfl, rfl, hN2⟩

set_option maxRecDepth 100000 in
theorem zl_o7 {L : Nat} {xs : Nat → Int32} {i : Nat} {h : zx_H} (hi : i + 5 ≤ L) (hL : L ≤ 2560) (hN : zn_U h) : zl_T zp_P (zl_P L xs) 23 zl_q 20 343 [(4, .int (nI (i))), (0, .ref 2000000), (1, .ref 0), (2, .ref 44), (3, .ref 73)] [] h (fun ls' st' h' => ls' = [(4, .int (nI (i + 5))), (0, .ref 2000000), (1, .ref 0), (2, .ref 44), (3, .ref 73)] ∧ st' = [] ∧ zn_U h') := by
  refine zl_T.l (i := .aload_n 1) (k := 1) (v := .ref 0) zl_a343 rfl rfl (by decide) ?_
  refine zl_arg (i := i) (c := 1) zl_a344 zl_a345 zl_a347 zl_a348 zl_a349 rfl rfl hN.1.1.1.1.1 (by decide) (by decide) hi hL (by decide) ?_
  refine zl_arg (i := i) (c := 2) zl_a350 zl_a351 zl_a353 zl_a354 zl_a355 rfl rfl hN.1.1.1.1.1 (by decide) (by decide) hi hL (by decide) ?_
  refine zl_cv (b := 0) (cj := 143) (q' := zp_m143) (As := [.int (xs (i + 1)), .int (xs (i + 2))]) (rest := []) zl_a356 rfl rfl rfl rfl rfl rfl rfl (Nat.le_of_ble_eq_true rfl) rfl (Nat.le_of_ble_eq_true rfl) hN.1.1.1.1.1 ((zU_c_frame hN ((xs (i + 1))) ((xs (i + 2)))).up (Nat.le_of_ble_eq_true rfl)) ?_
  rintro r1 h1 ⟨⟨v1, rfl⟩, hN1⟩
  refine zl_T.s (i := .pop) (k := 1) (st' := []) zl_a359 rfl (by decide) ?_
  refine zl_T.l (i := .aload_n 2) (k := 1) (v := .ref 44) zl_a360 rfl rfl (by decide) ?_
  refine zl_arg (i := i) (c := 1) zl_a361 zl_a362 zl_a364 zl_a365 zl_a366 rfl rfl hN1.1.1.1.1.1 (by decide) (by decide) hi hL (by decide) ?_
  refine zl_arg (i := i) (c := 2) zl_a367 zl_a368 zl_a370 zl_a371 zl_a372 rfl rfl hN1.1.1.1.1.1 (by decide) (by decide) hi hL (by decide) ?_
  refine zl_cv (b := 44) (cj := 202) (q' := zp_m202) (As := [.int (xs (i + 1)), .int (xs (i + 2))]) (rest := []) zl_a373 rfl rfl rfl rfl rfl rfl rfl (Nat.le_of_ble_eq_true rfl) rfl (Nat.le_of_ble_eq_true rfl) hN1.1.1.1.1.1 ((zU_m_frame hN1 ((xs (i + 1))) ((xs (i + 2)))).up (Nat.le_of_ble_eq_true rfl)) ?_
  rintro r2 h2 ⟨⟨v2, rfl⟩, hN2⟩
  refine zl_T.s (i := .pop) (k := 1) (st' := []) zl_a376 rfl (by decide) ?_
  refine zl_T.j (i := .goto 263) (k := 3) (pc' := 640) (st' := []) zl_a377 rfl rfl rfl rfl (by decide) ?_
  refine zl_T.t (i := .iinc 4 5) (k := 3) (ls' := [(4, .int (nI (i + 5))), (0, .ref 2000000), (1, .ref 0), (2, .ref 44), (3, .ref 73)]) (st' := []) zl_a640 rfl rfl (by show some (3, zx_set1 _ 4 (.int (nI i + Int32.ofInt 5)), _) = _; rw [zn_5]; rfl) (by decide) ?_
  exact zl_T.js (i := .goto (-620)) (k := 3) (st' := []) zl_a643 rfl rfl rfl rfl ⟨rfl, rfl, hN2⟩

set_option maxRecDepth 100000 in
theorem zl_o8 {L : Nat} {xs : Nat → Int32} {i : Nat} {h : zx_H} (hi : i + 5 ≤ L) (hL : L ≤ 2560) (hN : zn_U h) : zl_T zp_P (zl_P L xs) 23 zl_q 20 380 [(4, .int (nI (i))), (0, .ref 2000000), (1, .ref 0), (2, .ref 44), (3, .ref 73)] [] h (fun ls' st' h' => ls' = [(4, .int (nI (i + 5))), (0, .ref 2000000), (1, .ref 0), (2, .ref 44), (3, .ref 73)] ∧ st' = [] ∧ zn_U h') := by
  refine zl_T.l (i := .aload_n 1) (k := 1) (v := .ref 0) zl_a380 rfl rfl (by decide) ?_
  refine zl_arg (i := i) (c := 1) zl_a381 zl_a382 zl_a384 zl_a385 zl_a386 rfl rfl hN.1.1.1.1.1 (by decide) (by decide) hi hL (by decide) ?_
  refine zl_arg (i := i) (c := 2) zl_a387 zl_a388 zl_a390 zl_a391 zl_a392 rfl rfl hN.1.1.1.1.1 (by decide) (by decide) hi hL (by decide) ?_
  refine zl_arg (i := i) (c := 3) zl_a393 zl_a394 zl_a396 zl_a397 zl_a398 rfl rfl hN.1.1.1.1.1 (by decide) (by decide) hi hL (by decide) ?_
  refine zl_cv (b := 0) (cj := 144) (q' := zp_m144) (As := [.int (xs (i + 1)), .int (xs (i + 2)), .int (xs (i + 3))]) (rest := []) zl_a399 rfl rfl rfl rfl rfl rfl rfl (Nat.le_of_ble_eq_true rfl) rfl (Nat.le_of_ble_eq_true rfl) hN.1.1.1.1.1 ((zV_c_plant hN.1 ((xs (i + 1))) ((xs (i + 2))) ((xs (i + 3)))).up (Nat.le_of_ble_eq_true rfl)) ?_
  rintro r1 h1 ⟨i1, w1, e1, rfl, x1⟩
  refine zl_T.s (i := .pop) (k := 1) (st' := []) zl_a402 rfl (by decide) ?_
  refine zl_T.l (i := .aload_n 2) (k := 1) (v := .ref 44) zl_a403 rfl rfl (by decide) ?_
  refine zl_arg (i := i) (c := 1) zl_a404 zl_a405 zl_a407 zl_a408 zl_a409 rfl rfl i1 (by decide) (by decide) hi hL (by decide) ?_
  refine zl_arg (i := i) (c := 2) zl_a410 zl_a411 zl_a413 zl_a414 zl_a415 rfl rfl i1 (by decide) (by decide) hi hL (by decide) ?_
  refine zl_arg (i := i) (c := 3) zl_a416 zl_a417 zl_a419 zl_a420 zl_a421 rfl rfl i1 (by decide) (by decide) hi hL (by decide) ?_
  refine zl_cv (b := 44) (cj := 203) (q' := zp_m203) (As := [.int (xs (i + 1)), .int (xs (i + 2)), .int (xs (i + 3))]) (rest := []) zl_a422 rfl rfl rfl rfl rfl rfl rfl (Nat.le_of_ble_eq_true rfl) rfl (Nat.le_of_ble_eq_true rfl) i1 ((zV_m_plant i1 ((xs (i + 1))) ((xs (i + 2))) ((xs (i + 3)))).up (Nat.le_of_ble_eq_true rfl)) ?_
  rintro r2 h2 ⟨i2, w2, e2, rfl, x2⟩
  have hN2 := zU_p_plant hN i1 i2 w1 w2 x1 x2
  refine zl_T.s (i := .pop) (k := 1) (st' := []) zl_a425 rfl (by decide) ?_
  refine zl_T.j (i := .goto 214) (k := 3) (pc' := 640) (st' := []) zl_a426 rfl rfl rfl rfl (by decide) ?_
  refine zl_T.t (i := .iinc 4 5) (k := 3) (ls' := [(4, .int (nI (i + 5))), (0, .ref 2000000), (1, .ref 0), (2, .ref 44), (3, .ref 73)]) (st' := []) zl_a640 rfl rfl (by show some (3, zx_set1 _ 4 (.int (nI i + Int32.ofInt 5)), _) = _; rw [zn_5]; rfl) (by decide) ?_
  exact zl_T.js (i := .goto (-620)) (k := 3) (st' := []) zl_a643 rfl rfl rfl rfl ⟨rfl, rfl, hN2⟩

set_option maxRecDepth 100000 in
theorem zl_o9 {L : Nat} {xs : Nat → Int32} {i : Nat} {h : zx_H} (hi : i + 5 ≤ L) (hL : L ≤ 2560) (hN : zn_U h) : zl_T zp_P (zl_P L xs) 23 zl_q 20 429 [(4, .int (nI (i))), (0, .ref 2000000), (1, .ref 0), (2, .ref 44), (3, .ref 73)] [] h (fun ls' st' h' => ls' = [(4, .int (nI (i + 5))), (0, .ref 2000000), (1, .ref 0), (2, .ref 44), (3, .ref 73)] ∧ st' = [] ∧ zn_U h') := by
  refine zl_T.l (i := .aload_n 1) (k := 1) (v := .ref 0) zl_a429 rfl rfl (by decide) ?_
  obtain ⟨s9, F9, g9⟩ := zn_gh hN.1
  refine zl_cv (b := 0) (cj := 145) (q' := zp_m145) (As := []) (rest := []) zl_a430 rfl rfl rfl rfl rfl rfl rfl (Nat.le_of_ble_eq_true rfl) rfl (Nat.le_of_ble_eq_true rfl) hN.1.1.1.1.1 ((zV_c_judge hN.1 g9).up (Nat.le_of_ble_eq_true rfl)) ?_
  rintro r1 h1 ⟨i1, w1, e1, rfl, x1⟩
  refine zl_T.s (i := .pop) (k := 1) (st' := []) zl_a433 rfl (by decide) ?_
  refine zl_T.l (i := .aload_n 2) (k := 1) (v := .ref 44) zl_a434 rfl rfl (by decide) ?_
  refine zl_cv (b := 44) (cj := 186) (q' := zp_m186) (As := []) (rest := []) zl_a435 rfl rfl rfl rfl rfl rfl rfl (Nat.le_of_ble_eq_true rfl) rfl (Nat.le_of_ble_eq_true rfl) i1 ((zV_m_judge hN.1 i1 w1 g9).up (Nat.le_of_ble_eq_true rfl)) ?_
  rintro r2 h2 ⟨i2, w2, e2, rfl, x2⟩
  obtain ⟨hN2, ee⟩ := zU_p_judge hN i1 i2 w1 w2 x1 x2
  subst ee
  refine zl_T.s (i := .pop) (k := 1) (st' := []) zl_a438 rfl (by decide) ?_
  refine zl_T.j (i := .goto 201) (k := 3) (pc' := 640) (st' := []) zl_a439 rfl rfl rfl rfl (by decide) ?_
  refine zl_T.t (i := .iinc 4 5) (k := 3) (ls' := [(4, .int (nI (i + 5))), (0, .ref 2000000), (1, .ref 0), (2, .ref 44), (3, .ref 73)]) (st' := []) zl_a640 rfl rfl (by show some (3, zx_set1 _ 4 (.int (nI i + Int32.ofInt 5)), _) = _; rw [zn_5]; rfl) (by decide) ?_
  exact zl_T.js (i := .goto (-620)) (k := 3) (st' := []) zl_a643 rfl rfl rfl rfl ⟨rfl, rfl, hN2⟩

set_option maxRecDepth 100000 in
theorem zl_o10 {L : Nat} {xs : Nat → Int32} {i : Nat} {h : zx_H} (hi : i + 5 ≤ L) (hL : L ≤ 2560) (hN : zn_U h) : zl_T zp_P (zl_P L xs) 23 zl_q 20 442 [(4, .int (nI (i))), (0, .ref 2000000), (1, .ref 0), (2, .ref 44), (3, .ref 73)] [] h (fun ls' st' h' => ls' = [(4, .int (nI (i + 5))), (0, .ref 2000000), (1, .ref 0), (2, .ref 44), (3, .ref 73)] ∧ st' = [] ∧ zn_U h') := by
  refine zl_T.l (i := .aload_n 1) (k := 1) (v := .ref 0) zl_a442 rfl rfl (by decide) ?_
  obtain ⟨s9, F9, g9⟩ := zn_gh hN.1
  refine zl_cv (b := 0) (cj := 146) (q' := zp_m146) (As := []) (rest := []) zl_a443 rfl rfl rfl rfl rfl rfl rfl (Nat.le_of_ble_eq_true rfl) rfl (Nat.le_of_ble_eq_true rfl) hN.1.1.1.1.1 ((zU_c_packed hN g9).up (Nat.le_of_ble_eq_true rfl)) ?_
  rintro r1 h1 ⟨i1, w1, e1, rfl, x1⟩
  refine zl_T.l (i := .aload_n 2) (k := 1) (v := .ref 44) zl_a446 rfl rfl (by decide) ?_
  refine zl_cv (b := 44) (cj := 194) (q' := zp_m194) (As := []) (rest := [.int (zI e1)]) zl_a447 rfl rfl rfl rfl rfl rfl rfl (Nat.le_of_ble_eq_true rfl) rfl (Nat.le_of_ble_eq_true rfl) i1 ((zU_m_packed hN i1 w1 g9).up (Nat.le_of_ble_eq_true rfl)) ?_
  rintro r2 h2 ⟨i2, w2, e2, rfl, x2⟩
  obtain ⟨hN2, ee⟩ := zU_p_packed hN i1 i2 w1 w2 x1 x2
  subst ee
  refine zl_T.j (i := .if_icmp .eq 190) (k := 3) (pc' := 640) (st' := []) zl_a450 rfl rfl rfl (zn_eq rfl) (by decide) ?_
  refine zl_T.t (i := .iinc 4 5) (k := 3) (ls' := [(4, .int (nI (i + 5))), (0, .ref 2000000), (1, .ref 0), (2, .ref 44), (3, .ref 73)]) (st' := []) zl_a640 rfl rfl (by show some (3, zx_set1 _ 4 (.int (nI i + Int32.ofInt 5)), _) = _; rw [zn_5]; rfl) (by decide) ?_
  exact zl_T.js (i := .goto (-620)) (k := 3) (st' := []) zl_a643 rfl rfl rfl rfl ⟨rfl, rfl, hN2⟩

set_option maxRecDepth 100000 in
theorem zl_o12 {L : Nat} {xs : Nat → Int32} {i : Nat} {h : zx_H} (hi : i + 5 ≤ L) (hL : L ≤ 2560) (hN : zn_U h) : zl_T zp_P (zl_P L xs) 23 zl_q 20 483 [(4, .int (nI (i))), (0, .ref 2000000), (1, .ref 0), (2, .ref 44), (3, .ref 73)] [] h (fun ls' st' h' => ls' = [(4, .int (nI (i + 5))), (0, .ref 2000000), (1, .ref 0), (2, .ref 44), (3, .ref 73)] ∧ st' = [] ∧ zn_U h') := by
  refine zl_T.l (i := .aload_n 1) (k := 1) (v := .ref 0) zl_a483 rfl rfl (by decide) ?_
  refine zl_arg (i := i) (c := 1) zl_a484 zl_a485 zl_a487 zl_a488 zl_a489 rfl rfl hN.1.1.1.1.1 (by decide) (by decide) hi hL (by decide) ?_
  refine zl_arg (i := i) (c := 2) zl_a490 zl_a491 zl_a493 zl_a494 zl_a495 rfl rfl hN.1.1.1.1.1 (by decide) (by decide) hi hL (by decide) ?_
  refine zl_T.s (i := .i2l) (k := 1) (st' := [.long (xs (i + 2)).toInt64, .int (xs (i + 1)), .ref 0]) zl_a496 rfl (by decide) ?_
  refine zl_T.s (i := .bipush 32) (k := 2) (st' := [.int (Int8.ofInt 32).toInt32, .long (xs (i + 2)).toInt64, .int (xs (i + 1)), .ref 0]) zl_a497 rfl (by decide) ?_
  refine zl_T.s (i := .lshl) (k := 1) (st' := [.long ((xs (i + 2)).toInt64 <<< ((Int8.ofInt 32).toInt32.toInt64 &&& 63)), .int (xs (i + 1)), .ref 0]) zl_a499 rfl (by decide) ?_
  refine zl_arg (i := i) (c := 3) zl_a500 zl_a501 zl_a503 zl_a504 zl_a505 rfl rfl hN.1.1.1.1.1 (by decide) (by decide) hi hL (by decide) ?_
  refine zl_T.s (i := .i2l) (k := 1) (st' := [.long (xs (i + 3)).toInt64, .long ((xs (i + 2)).toInt64 <<< ((Int8.ofInt 32).toInt32.toInt64 &&& 63)), .int (xs (i + 1)), .ref 0]) zl_a506 rfl (by decide) ?_
  refine zl_T.g (i := .ldc2_w 73) (k := 3) (st' := [.long 4294967295, .long (xs (i + 3)).toInt64, .long ((xs (i + 2)).toInt64 <<< ((Int8.ofInt 32).toInt32.toInt64 &&& 63)), .int (xs (i + 1)), .ref 0]) (h' := h) zl_a507 rfl rfl rfl rfl rfl (by decide) ?_
  refine zl_T.s (i := .land) (k := 1) (st' := [.long ((xs (i + 3)).toInt64 &&& 4294967295), .long ((xs (i + 2)).toInt64 <<< ((Int8.ofInt 32).toInt32.toInt64 &&& 63)), .int (xs (i + 1)), .ref 0]) zl_a510 rfl (by decide) ?_
  refine zl_T.s (i := .lor) (k := 1) (st' := [.long (((xs (i + 2)).toInt64 <<< ((Int8.ofInt 32).toInt32.toInt64 &&& 63)) ||| ((xs (i + 3)).toInt64 &&& 4294967295)), .int (xs (i + 1)), .ref 0]) zl_a511 rfl (by decide) ?_
  refine zl_cv (b := 0) (cj := 148) (q' := zp_m148) (As := [.int (xs (i + 1)), .long (((xs (i + 2)).toInt64 <<< ((Int8.ofInt 32).toInt32.toInt64 &&& 63)) ||| ((xs (i + 3)).toInt64 &&& 4294967295))]) (rest := []) zl_a512 rfl rfl rfl rfl rfl rfl rfl (Nat.le_of_ble_eq_true rfl) rfl (Nat.le_of_ble_eq_true rfl) hN.1.1.1.1.1 ((zn_c_argument hN.1.1.1.1.1 ((xs (i + 1))) ((((xs (i + 2)).toInt64 <<< ((Int8.ofInt 32).toInt32.toInt64 &&& 63)) ||| ((xs (i + 3)).toInt64 &&& 4294967295)))).up (Nat.le_of_ble_eq_true rfl)) ?_
  rintro r1 h1 ⟨i1, w1, e1, rfl, x1⟩
  refine zl_T.s (i := .pop2) (k := 1) (st' := []) zl_a515 rfl (by decide) ?_
  refine zl_T.l (i := .aload_n 2) (k := 1) (v := .ref 44) zl_a516 rfl rfl (by decide) ?_
  refine zl_arg (i := i) (c := 1) zl_a517 zl_a518 zl_a520 zl_a521 zl_a522 rfl rfl i1 (by decide) (by decide) hi hL (by decide) ?_
  refine zl_arg (i := i) (c := 2) zl_a523 zl_a524 zl_a526 zl_a527 zl_a528 rfl rfl i1 (by decide) (by decide) hi hL (by decide) ?_
  refine zl_T.s (i := .i2l) (k := 1) (st' := [.long (xs (i + 2)).toInt64, .int (xs (i + 1)), .ref 44]) zl_a529 rfl (by decide) ?_
  refine zl_T.s (i := .bipush 32) (k := 2) (st' := [.int (Int8.ofInt 32).toInt32, .long (xs (i + 2)).toInt64, .int (xs (i + 1)), .ref 44]) zl_a530 rfl (by decide) ?_
  refine zl_T.s (i := .lshl) (k := 1) (st' := [.long ((xs (i + 2)).toInt64 <<< ((Int8.ofInt 32).toInt32.toInt64 &&& 63)), .int (xs (i + 1)), .ref 44]) zl_a532 rfl (by decide) ?_
  refine zl_arg (i := i) (c := 3) zl_a533 zl_a534 zl_a536 zl_a537 zl_a538 rfl rfl i1 (by decide) (by decide) hi hL (by decide) ?_
  refine zl_T.s (i := .i2l) (k := 1) (st' := [.long (xs (i + 3)).toInt64, .long ((xs (i + 2)).toInt64 <<< ((Int8.ofInt 32).toInt32.toInt64 &&& 63)), .int (xs (i + 1)), .ref 44]) zl_a539 rfl (by decide) ?_
  refine zl_T.g (i := .ldc2_w 73) (k := 3) (st' := [.long 4294967295, .long (xs (i + 3)).toInt64, .long ((xs (i + 2)).toInt64 <<< ((Int8.ofInt 32).toInt32.toInt64 &&& 63)), .int (xs (i + 1)), .ref 44]) (h' := h1) zl_a540 rfl rfl rfl rfl rfl (by decide) ?_
  refine zl_T.s (i := .land) (k := 1) (st' := [.long ((xs (i + 3)).toInt64 &&& 4294967295), .long ((xs (i + 2)).toInt64 <<< ((Int8.ofInt 32).toInt32.toInt64 &&& 63)), .int (xs (i + 1)), .ref 44]) zl_a543 rfl (by decide) ?_
  refine zl_T.s (i := .lor) (k := 1) (st' := [.long (((xs (i + 2)).toInt64 <<< ((Int8.ofInt 32).toInt32.toInt64 &&& 63)) ||| ((xs (i + 3)).toInt64 &&& 4294967295)), .int (xs (i + 1)), .ref 44]) zl_a544 rfl (by decide) ?_
  refine zl_cv (b := 44) (cj := 204) (q' := zp_m204) (As := [.int (xs (i + 1)), .long (((xs (i + 2)).toInt64 <<< ((Int8.ofInt 32).toInt32.toInt64 &&& 63)) ||| ((xs (i + 3)).toInt64 &&& 4294967295))]) (rest := []) zl_a545 rfl rfl rfl rfl rfl rfl rfl (Nat.le_of_ble_eq_true rfl) rfl (Nat.le_of_ble_eq_true rfl) i1 ((zn_m_argument i1 ((xs (i + 1))) ((((xs (i + 2)).toInt64 <<< ((Int8.ofInt 32).toInt32.toInt64 &&& 63)) ||| ((xs (i + 3)).toInt64 &&& 4294967295)))).up (Nat.le_of_ble_eq_true rfl)) ?_
  rintro r2 h2 ⟨i2, w2, e2, rfl, x2⟩
  obtain ⟨hN2, ee⟩ := zU_p_argument hN i1 i2 w1 w2 x1 x2
  subst ee
  refine zl_T.s (i := .pop2) (k := 1) (st' := []) zl_a548 rfl (by decide) ?_
  refine zl_T.j (i := .goto 91) (k := 3) (pc' := 640) (st' := []) zl_a549 rfl rfl rfl rfl (by decide) ?_
  refine zl_T.t (i := .iinc 4 5) (k := 3) (ls' := [(4, .int (nI (i + 5))), (0, .ref 2000000), (1, .ref 0), (2, .ref 44), (3, .ref 73)]) (st' := []) zl_a640 rfl rfl (by show some (3, zx_set1 _ 4 (.int (nI i + Int32.ofInt 5)), _) = _; rw [zn_5]; rfl) (by decide) ?_
  exact zl_T.js (i := .goto (-620)) (k := 3) (st' := []) zl_a643 rfl rfl rfl rfl ⟨rfl, rfl, hN2⟩

set_option maxRecDepth 100000 in
theorem zl_o13 {L : Nat} {xs : Nat → Int32} {i : Nat} {h : zx_H} (hi : i + 5 ≤ L) (hL : L ≤ 2560) (hN : zn_U h) : zl_T zp_P (zl_P L xs) 23 zl_q 20 552 [(4, .int (nI (i))), (0, .ref 2000000), (1, .ref 0), (2, .ref 44), (3, .ref 73)] [] h (fun ls' st' h' => ls' = [(4, .int (nI (i + 5))), (0, .ref 2000000), (1, .ref 0), (2, .ref 44), (3, .ref 73)] ∧ st' = [] ∧ zn_U h') := by
  refine zl_T.l (i := .aload_n 1) (k := 1) (v := .ref 0) zl_a552 rfl rfl (by decide) ?_
  refine zl_arg (i := i) (c := 1) zl_a553 zl_a554 zl_a556 zl_a557 zl_a558 rfl rfl hN.1.1.1.1.1 (by decide) (by decide) hi hL (by decide) ?_
  refine zl_cv (b := 0) (cj := 149) (q' := zp_m149) (As := [.int (xs (i + 1))]) (rest := []) zl_a559 rfl rfl rfl rfl rfl rfl rfl (Nat.le_of_ble_eq_true rfl) rfl (Nat.le_of_ble_eq_true rfl) hN.1.1.1.1.1 ((zU_c_run hN ((xs (i + 1)))).up (Nat.le_of_ble_eq_true rfl)) ?_
  rintro r1 h1 ⟨⟨v1, rfl⟩, hN1⟩
  refine zl_T.s (i := .pop) (k := 1) (st' := []) zl_a562 rfl (by decide) ?_
  refine zl_T.l (i := .aload_n 2) (k := 1) (v := .ref 44) zl_a563 rfl rfl (by decide) ?_
  refine zl_arg (i := i) (c := 1) zl_a564 zl_a565 zl_a567 zl_a568 zl_a569 rfl rfl hN1.1.1.1.1.1 (by decide) (by decide) hi hL (by decide) ?_
  refine zl_cv (b := 44) (cj := 217) (q' := zp_m217) (As := [.int (xs (i + 1))]) (rest := []) zl_a570 rfl rfl rfl rfl rfl rfl rfl (Nat.le_of_ble_eq_true rfl) rfl (Nat.le_of_ble_eq_true rfl) hN1.1.1.1.1.1 ((zU_run hN1 ((xs (i + 1)))).up (Nat.le_of_ble_eq_true rfl)) ?_
  rintro r2 h2 ⟨⟨v2, rfl⟩, hN2⟩
  refine zl_T.s (i := .pop) (k := 1) (st' := []) zl_a573 rfl (by decide) ?_
  refine zl_T.j (i := .goto 66) (k := 3) (pc' := 640) (st' := []) zl_a574 rfl rfl rfl rfl (by decide) ?_
  refine zl_T.t (i := .iinc 4 5) (k := 3) (ls' := [(4, .int (nI (i + 5))), (0, .ref 2000000), (1, .ref 0), (2, .ref 44), (3, .ref 73)]) (st' := []) zl_a640 rfl rfl (by show some (3, zx_set1 _ 4 (.int (nI i + Int32.ofInt 5)), _) = _; rw [zn_5]; rfl) (by decide) ?_
  exact zl_T.js (i := .goto (-620)) (k := 3) (st' := []) zl_a643 rfl rfl rfl rfl ⟨rfl, rfl, hN2⟩

set_option maxRecDepth 100000 in
theorem zl_o14 {L : Nat} {xs : Nat → Int32} {i : Nat} {h : zx_H} (hi : i + 5 ≤ L) (hL : L ≤ 2560) (hN : zn_U h) : zl_T zp_P (zl_P L xs) 23 zl_q 20 577 [(4, .int (nI (i))), (0, .ref 2000000), (1, .ref 0), (2, .ref 44), (3, .ref 73)] [] h (fun ls' st' h' => ls' = [(4, .int (nI (i + 5))), (0, .ref 2000000), (1, .ref 0), (2, .ref 44), (3, .ref 73)] ∧ st' = [] ∧ zn_U h') := by
  refine zl_T.l (i := .aload_n 1) (k := 1) (v := .ref 0) zl_a577 rfl rfl (by decide) ?_
  refine zl_arg (i := i) (c := 1) zl_a578 zl_a579 zl_a581 zl_a582 zl_a583 rfl rfl hN.1.1.1.1.1 (by decide) (by decide) hi hL (by decide) ?_
  refine zl_cv (b := 0) (cj := 150) (q' := zp_m150) (As := [.int (xs (i + 1))]) (rest := []) zl_a584 rfl rfl rfl rfl rfl rfl rfl (Nat.le_of_ble_eq_true rfl) rfl (Nat.le_of_ble_eq_true rfl) hN.1.1.1.1.1 ((zU_c_told hN ((xs (i + 1)))).up (Nat.le_of_ble_eq_true rfl)) ?_
  rintro r1 h1 ⟨⟨v1, rfl⟩, hN1⟩
  refine zl_T.s (i := .pop2) (k := 1) (st' := []) zl_a587 rfl (by decide) ?_
  refine zl_T.l (i := .aload_n 2) (k := 1) (v := .ref 44) zl_a588 rfl rfl (by decide) ?_
  refine zl_arg (i := i) (c := 1) zl_a589 zl_a590 zl_a592 zl_a593 zl_a594 rfl rfl hN1.1.1.1.1.1 (by decide) (by decide) hi hL (by decide) ?_
  refine zl_cv (b := 44) (cj := 218) (q' := zp_m218) (As := [.int (xs (i + 1))]) (rest := []) zl_a595 rfl rfl rfl rfl rfl rfl rfl (Nat.le_of_ble_eq_true rfl) rfl (Nat.le_of_ble_eq_true rfl) hN1.1.1.1.1.1 ((zU_m_told hN1 ((xs (i + 1)))).up (Nat.le_of_ble_eq_true rfl)) ?_
  rintro r2 h2 ⟨⟨v2, rfl⟩, hN2⟩
  refine zl_T.s (i := .pop2) (k := 1) (st' := []) zl_a598 rfl (by decide) ?_
  refine zl_T.j (i := .goto 41) (k := 3) (pc' := 640) (st' := []) zl_a599 rfl rfl rfl rfl (by decide) ?_
  refine zl_T.t (i := .iinc 4 5) (k := 3) (ls' := [(4, .int (nI (i + 5))), (0, .ref 2000000), (1, .ref 0), (2, .ref 44), (3, .ref 73)]) (st' := []) zl_a640 rfl rfl (by show some (3, zx_set1 _ 4 (.int (nI i + Int32.ofInt 5)), _) = _; rw [zn_5]; rfl) (by decide) ?_
  exact zl_T.js (i := .goto (-620)) (k := 3) (st' := []) zl_a643 rfl rfl rfl rfl ⟨rfl, rfl, hN2⟩

set_option maxRecDepth 100000 in
theorem zl_o15 {L : Nat} {xs : Nat → Int32} {i : Nat} {h : zx_H} (hi : i + 5 ≤ L) (hL : L ≤ 2560) (hN : zn_U h) : zl_T zp_P (zl_P L xs) 23 zl_q 20 602 [(4, .int (nI (i))), (0, .ref 2000000), (1, .ref 0), (2, .ref 44), (3, .ref 73)] [] h (fun ls' st' h' => ls' = [(4, .int (nI (i + 5))), (0, .ref 2000000), (1, .ref 0), (2, .ref 44), (3, .ref 73)] ∧ st' = [] ∧ zn_U h') := by
  refine zl_T.l (i := .aload_n 1) (k := 1) (v := .ref 0) zl_a602 rfl rfl (by decide) ?_
  refine zl_arg (i := i) (c := 1) zl_a603 zl_a604 zl_a606 zl_a607 zl_a608 rfl rfl hN.1.1.1.1.1 (by decide) (by decide) hi hL (by decide) ?_
  refine zl_cv (b := 0) (cj := 151) (q' := zp_m151) (As := [.int (xs (i + 1))]) (rest := []) zl_a609 rfl rfl rfl rfl rfl rfl rfl (Nat.le_of_ble_eq_true rfl) rfl (Nat.le_of_ble_eq_true rfl) hN.1.1.1.1.1 ((zN_c_count hN.1.1 ((xs (i + 1)))).up (Nat.le_of_ble_eq_true rfl)) ?_
  rintro r1 h1 ⟨i1, w1, e1, rfl, x1⟩
  refine zl_T.s (i := .pop) (k := 1) (st' := []) zl_a612 rfl (by decide) ?_
  refine zl_T.l (i := .aload_n 2) (k := 1) (v := .ref 44) zl_a613 rfl rfl (by decide) ?_
  refine zl_arg (i := i) (c := 1) zl_a614 zl_a615 zl_a617 zl_a618 zl_a619 rfl rfl i1 (by decide) (by decide) hi hL (by decide) ?_
  refine zl_cv (b := 44) (cj := 219) (q' := zp_m219) (As := [.int (xs (i + 1))]) (rest := []) zl_a620 rfl rfl rfl rfl rfl rfl rfl (Nat.le_of_ble_eq_true rfl) rfl (Nat.le_of_ble_eq_true rfl) i1 ((zN_m_count i1 ((xs (i + 1)))).up (Nat.le_of_ble_eq_true rfl)) ?_
  rintro r2 h2 ⟨i2, w2, e2, rfl, x2⟩
  obtain ⟨hN2, ee⟩ := zU_p_count hN i1 i2 w1 w2 x1 x2
  subst ee
  refine zl_T.s (i := .pop) (k := 1) (st' := []) zl_a623 rfl (by decide) ?_
  refine zl_T.j (i := .goto 16) (k := 3) (pc' := 640) (st' := []) zl_a624 rfl rfl rfl rfl (by decide) ?_
  refine zl_T.t (i := .iinc 4 5) (k := 3) (ls' := [(4, .int (nI (i + 5))), (0, .ref 2000000), (1, .ref 0), (2, .ref 44), (3, .ref 73)]) (st' := []) zl_a640 rfl rfl (by show some (3, zx_set1 _ 4 (.int (nI i + Int32.ofInt 5)), _) = _; rw [zn_5]; rfl) (by decide) ?_
  exact zl_T.js (i := .goto (-620)) (k := 3) (st' := []) zl_a643 rfl rfl rfl rfl ⟨rfl, rfl, hN2⟩

set_option maxRecDepth 100000 in
theorem zl_o16 {L : Nat} {xs : Nat → Int32} {i : Nat} {h : zx_H} (hi : i + 5 ≤ L) (hL : L ≤ 2560) (hN : zn_U h) : zl_T zp_P (zl_P L xs) 23 zl_q 20 627 [(4, .int (nI (i))), (0, .ref 2000000), (1, .ref 0), (2, .ref 44), (3, .ref 73)] [] h (fun ls' st' h' => ls' = [(4, .int (nI (i + 5))), (0, .ref 2000000), (1, .ref 0), (2, .ref 44), (3, .ref 73)] ∧ st' = [] ∧ zn_U h') := by
  refine zl_T.l (i := .aload_n 1) (k := 1) (v := .ref 0) zl_a627 rfl rfl (by decide) ?_
  refine zl_cv (b := 0) (cj := 152) (q' := zp_m152) (As := []) (rest := []) zl_a628 rfl rfl rfl rfl rfl rfl rfl (Nat.le_of_ble_eq_true rfl) rfl (Nat.le_of_ble_eq_true rfl) hN.1.1.1.1.1 ((zN_c_clear hN.1.1.1.1.1 ).up (Nat.le_of_ble_eq_true rfl)) ?_
  rintro r1 h1 ⟨i1, w1, e1, rfl, x1⟩
  refine zl_T.s (i := .pop) (k := 1) (st' := []) zl_a631 rfl (by decide) ?_
  refine zl_T.l (i := .aload_n 2) (k := 1) (v := .ref 44) zl_a632 rfl rfl (by decide) ?_
  refine zl_cv (b := 44) (cj := 220) (q' := zp_m220) (As := []) (rest := []) zl_a633 rfl rfl rfl rfl rfl rfl rfl (Nat.le_of_ble_eq_true rfl) rfl (Nat.le_of_ble_eq_true rfl) i1 ((zN_m_clear i1 ).up (Nat.le_of_ble_eq_true rfl)) ?_
  rintro r2 h2 ⟨i2, w2, e2, rfl, x2⟩
  obtain ⟨hN2, ee⟩ := zU_p_clear hN i1 i2 w1 w2 x1 x2
  subst ee
  refine zl_T.s (i := .pop) (k := 1) (st' := []) zl_a636 rfl (by decide) ?_
  refine zl_T.j (i := .goto 3) (k := 3) (pc' := 640) (st' := []) zl_a637 rfl rfl rfl rfl (by decide) ?_
  refine zl_T.t (i := .iinc 4 5) (k := 3) (ls' := [(4, .int (nI (i + 5))), (0, .ref 2000000), (1, .ref 0), (2, .ref 44), (3, .ref 73)]) (st' := []) zl_a640 rfl rfl (by show some (3, zx_set1 _ 4 (.int (nI i + Int32.ofInt 5)), _) = _; rw [zn_5]; rfl) (by decide) ?_
  exact zl_T.js (i := .goto (-620)) (k := 3) (st' := []) zl_a643 rfl rfl rfl rfl ⟨rfl, rfl, hN2⟩

set_option maxRecDepth 100000 in
theorem zl_od {L : Nat} {xs : Nat → Int32} {i : Nat} {h : zx_H} (hi : i + 5 ≤ L) (hL : L ≤ 2560) (hN : zn_U h) : zl_T zp_P (zl_P L xs) 23 zl_q 20 640 [(4, .int (nI (i))), (0, .ref 2000000), (1, .ref 0), (2, .ref 44), (3, .ref 73)] [] h (fun ls' st' h' => ls' = [(4, .int (nI (i + 5))), (0, .ref 2000000), (1, .ref 0), (2, .ref 44), (3, .ref 73)] ∧ st' = [] ∧ zn_U h') := by
  refine zl_T.t (i := .iinc 4 5) (k := 3) (ls' := [(4, .int (nI (i + 5))), (0, .ref 2000000), (1, .ref 0), (2, .ref 44), (3, .ref 73)]) (st' := []) zl_a640 rfl rfl (by show some (3, zx_set1 _ 4 (.int (nI i + Int32.ofInt 5)), _) = _; rw [zn_5]; rfl) (by decide) ?_
  exact zl_T.js (i := .goto (-620)) (k := 3) (st' := []) zl_a643 rfl rfl rfl rfl ⟨rfl, rfl, hN⟩

theorem zn_go {i L : Nat} (hi : i + 5 ≤ L) (hL : L ≤ 2560) : zx_j (.if_icmp .gt 617) 3 29 [.int (nI L - Int32.ofInt 5), .int (nI i)] = some (32, []) := by
  have e := zn_gt i L (by omega) hL
  rw [decide_eq_false (by omega)] at e
  unfold zx_j
  simp only [e]
  rfl
theorem zn_end {i L : Nat} (hi : L < i + 5) (h3 : i ≤ 3000) (hL : L ≤ 2560) : zx_j (.if_icmp .gt 617) 3 29 [.int (nI L - Int32.ofInt 5), .int (nI i)] = some (646, []) := by
  have e := zn_gt i L h3 hL
  rw [decide_eq_true hi] at e
  unfold zx_j
  simp only [e]
  rfl

set_option maxRecDepth 100000 in
theorem zl_round {L : Nat} {xs : Nat → Int32} {i : Nat} {h : zx_H} (hi : i + 5 ≤ L) (hL : L ≤ 2560) (hN : zn_U h) (ho : ¬ (xs i &&& (Int8.ofInt 31).toInt32).toInt = 11) : zl_T zp_P (zl_P L xs) 23 zl_q 20 23 [(4, .int (nI (i))), (0, .ref 2000000), (1, .ref 0), (2, .ref 44), (3, .ref 73)] [] h (fun ls' st' h' => ls' = [(4, .int (nI (i + 5))), (0, .ref 2000000), (1, .ref 0), (2, .ref 44), (3, .ref 73)] ∧ st' = [] ∧ zn_U h') := by
  refine zl_T.l (i := .iload 4) (k := 2) (v := .int (nI i)) zl_a23 rfl rfl (by decide) ?_
  refine zl_T.l (i := .aload_n 0) (k := 1) (v := .ref 2000000) zl_a25 rfl rfl (by decide) ?_
  refine zl_slen zl_a26 hN.1.1.1.1.1 (by decide) (by decide) ?_
  refine zl_T.s (i := .iconst 5) (k := 1) (st' := [.int (Int32.ofInt 5), .int (nI L), .int (nI i)]) zl_a27 rfl (by decide) ?_
  refine zl_T.s (i := .isub) (k := 1) (st' := [.int (nI L - Int32.ofInt 5), .int (nI i)]) zl_a28 rfl (by decide) ?_
  refine zl_T.j (i := .if_icmp .gt 617) (k := 3) (pc' := 32) (st' := []) zl_a29 rfl rfl rfl (zn_go hi hL) (by decide) ?_
  refine zl_T.l (i := .aload_n 0) (k := 1) (v := .ref 2000000) zl_a32 rfl rfl (by decide) ?_
  refine zl_T.l (i := .iload 4) (k := 2) (v := .int (nI i)) zl_a33 rfl rfl (by decide) ?_
  refine zl_sld (i := i) (r := []) zl_a35 hN.1.1.1.1.1 (by decide) (by omega) hL (by decide) ?_
  refine zl_T.s (i := .bipush 31) (k := 2) (st' := [.int (Int8.ofInt 31).toInt32, .int (xs i)]) zl_a36 rfl (by decide) ?_
  refine zl_T.s (i := .iand) (k := 1) (st' := [.int (xs i &&& (Int8.ofInt 31).toInt32)]) zl_a38 rfl (by decide) ?_
  have hx := zn_31 (xs i)
  have hc : (xs i &&& (Int8.ofInt 31).toInt32).toInt = 0 ∨ (xs i &&& (Int8.ofInt 31).toInt32).toInt = 1 ∨ (xs i &&& (Int8.ofInt 31).toInt32).toInt = 2 ∨ (xs i &&& (Int8.ofInt 31).toInt32).toInt = 3 ∨ (xs i &&& (Int8.ofInt 31).toInt32).toInt = 4 ∨ (xs i &&& (Int8.ofInt 31).toInt32).toInt = 5 ∨ (xs i &&& (Int8.ofInt 31).toInt32).toInt = 6 ∨ (xs i &&& (Int8.ofInt 31).toInt32).toInt = 7 ∨ (xs i &&& (Int8.ofInt 31).toInt32).toInt = 8 ∨ (xs i &&& (Int8.ofInt 31).toInt32).toInt = 9 ∨ (xs i &&& (Int8.ofInt 31).toInt32).toInt = 10 ∨ (xs i &&& (Int8.ofInt 31).toInt32).toInt = 12 ∨ (xs i &&& (Int8.ofInt 31).toInt32).toInt = 13 ∨ (xs i &&& (Int8.ofInt 31).toInt32).toInt = 14 ∨ (xs i &&& (Int8.ofInt 31).toInt32).toInt = 15 ∨ (xs i &&& (Int8.ofInt 31).toInt32).toInt = 16 ∨ 17 ≤ (xs i &&& (Int8.ofInt 31).toInt32).toInt := by omega
  rcases hc with hc | hc | hc | hc | hc | hc | hc | hc | hc | hc | hc | hc | hc | hc | hc | hc | hc
  · exact zl_T.j (i := zn_SW) (k := 81) (pc' := 120) (st' := []) zl_a39 rfl rfl rfl (zn_sw hc rfl) (by decide) (zl_o0 hi hL hN)
  · exact zl_T.j (i := zn_SW) (k := 81) (pc' := 145) (st' := []) zl_a39 rfl rfl rfl (zn_sw hc rfl) (by decide) (zl_o1 hi hL hN)
  · exact zl_T.j (i := zn_SW) (k := 81) (pc' := 194) (st' := []) zl_a39 rfl rfl rfl (zn_sw hc rfl) (by decide) (zl_o2 hi hL hN)
  · exact zl_T.j (i := zn_SW) (k := 81) (pc' := 255) (st' := []) zl_a39 rfl rfl rfl (zn_sw hc rfl) (by decide) (zl_o3 hi hL hN)
  · exact zl_T.j (i := zn_SW) (k := 81) (pc' := 268) (st' := []) zl_a39 rfl rfl rfl (zn_sw hc rfl) (by decide) (zl_o4 hi hL hN)
  · exact zl_T.j (i := zn_SW) (k := 81) (pc' := 281) (st' := []) zl_a39 rfl rfl rfl (zn_sw hc rfl) (by decide) (zl_o5 hi hL hN)
  · exact zl_T.j (i := zn_SW) (k := 81) (pc' := 318) (st' := []) zl_a39 rfl rfl rfl (zn_sw hc rfl) (by decide) (zl_o6 hi hL hN)
  · exact zl_T.j (i := zn_SW) (k := 81) (pc' := 343) (st' := []) zl_a39 rfl rfl rfl (zn_sw hc rfl) (by decide) (zl_o7 hi hL hN)
  · exact zl_T.j (i := zn_SW) (k := 81) (pc' := 380) (st' := []) zl_a39 rfl rfl rfl (zn_sw hc rfl) (by decide) (zl_o8 hi hL hN)
  · exact zl_T.j (i := zn_SW) (k := 81) (pc' := 429) (st' := []) zl_a39 rfl rfl rfl (zn_sw hc rfl) (by decide) (zl_o9 hi hL hN)
  · exact zl_T.j (i := zn_SW) (k := 81) (pc' := 442) (st' := []) zl_a39 rfl rfl rfl (zn_sw hc rfl) (by decide) (zl_o10 hi hL hN)
  · exact zl_T.j (i := zn_SW) (k := 81) (pc' := 483) (st' := []) zl_a39 rfl rfl rfl (zn_sw hc rfl) (by decide) (zl_o12 hi hL hN)
  · exact zl_T.j (i := zn_SW) (k := 81) (pc' := 552) (st' := []) zl_a39 rfl rfl rfl (zn_sw hc rfl) (by decide) (zl_o13 hi hL hN)
  · exact zl_T.j (i := zn_SW) (k := 81) (pc' := 577) (st' := []) zl_a39 rfl rfl rfl (zn_sw hc rfl) (by decide) (zl_o14 hi hL hN)
  · exact zl_T.j (i := zn_SW) (k := 81) (pc' := 602) (st' := []) zl_a39 rfl rfl rfl (zn_sw hc rfl) (by decide) (zl_o15 hi hL hN)
  · exact zl_T.j (i := zn_SW) (k := 81) (pc' := 627) (st' := []) zl_a39 rfl rfl rfl (zn_sw hc rfl) (by decide) (zl_o16 hi hL hN)
  · exact zl_T.j (i := zn_SW) (k := 81) (pc' := 640) (st' := []) zl_a39 rfl rfl rfl (zn_sd hc) (by decide) (zl_od hi hL hN)

set_option maxRecDepth 100000 in
theorem zl_out1 {L : Nat} {xs : Nat → Int32} {i : Nat} {h : zx_H} (hi : i + 5 ≤ L) (hL : L ≤ 2560) (hN : zn_U h) (ho : (xs i &&& (Int8.ofInt 31).toInt32).toInt = 11) : zl_T zp_P (zl_P L xs) 463 zl_q 20 23 [(4, .int (nI (i))), (0, .ref 2000000), (1, .ref 0), (2, .ref 44), (3, .ref 73)] [] h (fun ls' st' h' => ls' = [(4, .int (nI (i))), (0, .ref 2000000), (1, .ref 0), (2, .ref 44), (3, .ref 73)] ∧ st' = [.ref 73, .int (xs (i + 1)), .ref 0] ∧ h' = h) := by
  refine zl_T.l (i := .iload 4) (k := 2) (v := .int (nI i)) zl_a23 rfl rfl (by decide) ?_
  refine zl_T.l (i := .aload_n 0) (k := 1) (v := .ref 2000000) zl_a25 rfl rfl (by decide) ?_
  refine zl_slen zl_a26 hN.1.1.1.1.1 (by decide) (by decide) ?_
  refine zl_T.s (i := .iconst 5) (k := 1) (st' := [.int (Int32.ofInt 5), .int (nI L), .int (nI i)]) zl_a27 rfl (by decide) ?_
  refine zl_T.s (i := .isub) (k := 1) (st' := [.int (nI L - Int32.ofInt 5), .int (nI i)]) zl_a28 rfl (by decide) ?_
  refine zl_T.j (i := .if_icmp .gt 617) (k := 3) (pc' := 32) (st' := []) zl_a29 rfl rfl rfl (zn_go hi hL) (by decide) ?_
  refine zl_T.l (i := .aload_n 0) (k := 1) (v := .ref 2000000) zl_a32 rfl rfl (by decide) ?_
  refine zl_T.l (i := .iload 4) (k := 2) (v := .int (nI i)) zl_a33 rfl rfl (by decide) ?_
  refine zl_sld (i := i) (r := []) zl_a35 hN.1.1.1.1.1 (by decide) (by omega) hL (by decide) ?_
  refine zl_T.s (i := .bipush 31) (k := 2) (st' := [.int (Int8.ofInt 31).toInt32, .int (xs i)]) zl_a36 rfl (by decide) ?_
  refine zl_T.s (i := .iand) (k := 1) (st' := [.int (xs i &&& (Int8.ofInt 31).toInt32)]) zl_a38 rfl (by decide) ?_
  refine zl_T.j (i := zn_SW) (k := 81) (pc' := 455) (st' := []) zl_a39 rfl rfl rfl (zn_sw ho rfl) (by decide) ?_
  refine zl_T.l (i := .aload_n 1) (k := 1) (v := .ref 0) zl_a455 rfl rfl (by decide) ?_
  refine zl_T.l (i := .aload_n 0) (k := 1) (v := .ref 2000000) zl_a456 rfl rfl (by decide) ?_
  refine zl_T.l (i := .iload 4) (k := 2) (v := .int (nI i)) zl_a457 rfl rfl (by decide) ?_
  refine zl_T.s (i := .iconst 1) (k := 1) (st' := [.int (nI 1), .int (nI i), .ref 2000000, .ref 0]) zl_a459 rfl (by decide) ?_
  refine zl_T.s (i := .iadd) (k := 1) (st' := [.int (nI (i + 1)), .ref 2000000, .ref 0]) zl_a460 (by show some (1, Value.int (nI i + nI 1) :: _) = _; rw [nI_add]) (by decide) ?_
  refine zl_sld (i := i + 1) (r := [.ref 0]) zl_a461 hN.1.1.1.1.1 (by decide) (by omega) hL (by decide) ?_
  exact zl_T.en (pc := 462) (by unfold zx_o; simp only [zl_a462, show zx_s (.aload_n 3) [.int (xs (i + 1)), .ref 0] = none from rfl, show zx_l (.aload_n 3) [(4, .int (nI (i))), (0, .ref 2000000), (1, .ref 0), (2, .ref 44), (3, .ref 73)] = some (1, .ref 73) from rfl]; rfl) ⟨rfl, rfl, rfl⟩

set_option maxRecDepth 100000 in
theorem zl_out2 {L : Nat} {xs : Nat → Int32} {i : Nat} {h : zx_H} (hi : i + 5 ≤ L) (hL : L ≤ 2560) (hN : zn_U h) (r : Int32) : zl_T zp_P (zl_P L xs) 23 zl_q 20 466 [(4, .int (nI (i))), (0, .ref 2000000), (1, .ref 0), (2, .ref 44), (3, .ref 73)] [.int r] h (fun ls' st' h' => ∃ v, ls' = [(4, .int (nI (i + 5))), (6, .int v), (5, .int r), (0, .ref 2000000), (1, .ref 0), (2, .ref 44), (3, .ref 73)] ∧ st' = [] ∧ zn_U h') := by
  refine zl_T.t (i := .istore 5) (k := 2) (ls' := [(5, .int r), (4, .int (nI i)), (0, .ref 2000000), (1, .ref 0), (2, .ref 44), (3, .ref 73)]) (st' := []) zl_a466 rfl rfl rfl (by decide) ?_
  refine zl_T.l (i := .aload_n 2) (k := 1) (v := .ref 44) zl_a468 rfl rfl (by decide) ?_
  refine zl_arg (i := i) (c := 1) zl_a469 zl_a470 zl_a472 zl_a473 zl_a474 rfl rfl hN.1.1.1.1.1 (by decide) (by decide) hi hL (by decide) ?_
  refine zl_cv (b := 44) (cj := 195) (q' := zp_m195) (As := [.int (xs (i + 1))]) (rest := []) zl_a475 rfl rfl rfl rfl rfl rfl rfl (by decide) rfl (Nat.le_of_ble_eq_true rfl) hN.1.1.1.1.1 ((zU_m_out hN (xs (i + 1))).up (Nat.le_of_ble_eq_true rfl)) ?_
  rintro r1 h1 ⟨⟨v1, rfl⟩, hN1⟩
  refine zl_T.t (i := .istore 6) (k := 2) (ls' := [(6, .int v1), (5, .int r), (4, .int (nI i)), (0, .ref 2000000), (1, .ref 0), (2, .ref 44), (3, .ref 73)]) (st' := []) zl_a478 rfl rfl rfl (by decide) ?_
  refine zl_T.j (i := .goto 160) (k := 3) (pc' := 640) (st' := []) zl_a480 rfl rfl rfl rfl (by decide) ?_
  refine zl_T.t (i := .iinc 4 5) (k := 3) (ls' := [(4, .int (nI (i + 5))), (6, .int v1), (5, .int r), (0, .ref 2000000), (1, .ref 0), (2, .ref 44), (3, .ref 73)]) (st' := []) zl_a640 rfl rfl (by show some (3, zx_set1 _ 4 (.int (nI i + Int32.ofInt 5)), _) = _; rw [zn_5]; rfl) (by decide) ?_
  exact zl_T.js (i := .goto (-620)) (k := 3) (st' := []) zl_a643 rfl rfl rfl rfl ⟨v1, rfl, rfl, hN1⟩

set_option maxRecDepth 100000 in
theorem zl_fin {L : Nat} {xs : Nat → Int32} {i : Nat} {h : zx_H} (hi : L < i + 5) (h3 : i ≤ 3000) (hL : L ≤ 2560) (hN : zn_U h) : zl_T zp_P (zl_P L xs) 647 zl_q 20 23 [(4, .int (nI (i))), (0, .ref 2000000), (1, .ref 0), (2, .ref 44), (3, .ref 73)] [] h (fun ls' st' h' => st' = [.int 1]) := by
  refine zl_T.l (i := .iload 4) (k := 2) (v := .int (nI i)) zl_a23 rfl rfl (by decide) ?_
  refine zl_T.l (i := .aload_n 0) (k := 1) (v := .ref 2000000) zl_a25 rfl rfl (by decide) ?_
  refine zl_slen zl_a26 hN.1.1.1.1.1 (by decide) (by decide) ?_
  refine zl_T.s (i := .iconst 5) (k := 1) (st' := [.int (Int32.ofInt 5), .int (nI L), .int (nI i)]) zl_a27 rfl (by decide) ?_
  refine zl_T.s (i := .isub) (k := 1) (st' := [.int (nI L - Int32.ofInt 5), .int (nI i)]) zl_a28 rfl (by decide) ?_
  refine zl_T.j (i := .if_icmp .gt 617) (k := 3) (pc' := 646) (st' := []) zl_a29 rfl rfl rfl (zn_end hi h3 hL) (by decide) ?_
  exact zl_T.en (by unfold zx_o; simp only [zl_a646, show zx_s (.iconst 1) [] = some (1, [.int 1]) from rfl]; rfl) rfl
