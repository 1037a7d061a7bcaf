/-! ===== 73: the law's loop at the machine ===== -/
/-! THE CLAIM OUT OF ONE WALK OF THE LAW'S BODY. Your part is whole_start (and what it stands on); all else here is the same for every law, but numbers. -/
def R_law : String := "ClassFramesLaw"
def lw_P (b : Addr) (xs : List Int32) (args : Array Value) (s : State) : Prop := args = #[.ref b] ∧ s.IntsAt b xs ∧ xs.length ≤ 2560 ∧ (Jvm.Cond.and given_1 narrow_1).before args s = true
def lw_Q (_ : Array Value) (s : State) (o : Outcome) (t : State) : Prop := o = .returned (some (.int 1)) ∧ Framed s o t [] 603072 7211114
def lw_Z (below : List Frame) (a : Array Value) (s : State) : State → Prop := fun t => ∃ o, t.status = .running ∧ Ended t below o ∧ lw_Q a s o t
/-- the law's own end, with 1 on the stack, nothing written that was there before, its room as the claim has it -/
theorem lw_ret {p : Program} {l : Launch} {e : Env} {s : State} {m : MethodId} {below : List Frame} {meth : Method} {c : Code} {b : Nat} (hx : p.tables.exec = Jvm.exec) (hb : c.code = code) (hr : meth.sig.returnType = ret) (hlocks : meth.locks = false) {pc : Nat} {H : Heap} {ls : Array Slot} (hdg : decode code pc = .ok (.ireturn, 1)) : W p l e room_1 s m #[Value.ref b] below meth c H [] 603072 7211114 (lw_Z below #[Value.ref b] s) (F0 m pc ls [.int 1]) := by
  intro T hT X
  obtain ⟨fs, hret, hrun, hended, hW, hframe⟩ := X.leave (v := some (.int 1)) (hlocks := hlocks) (fun h => by rw [hr] at h; cases h)
  have hmeth' : T.vm.method? m = some meth := X.method'
  refine ⟨T.setFrames fs, ?_, .returned (some (.int 1)), hrun, hended, rfl, ⟨_, rfl⟩, hW, hframe⟩
  jvm_step X.here [X.here.top, hx, hb, hdg, hmeth', hr, ret, narrow_b1]
  (try refine ⟨rfl, ?_⟩); (try refine ⟨rfl, ?_⟩)
  first | (intro acts; rw [hret _ acts rfl rfl rfl]) | rw [hret _ _ rfl rfl rfl]
  exact Steps.refl _
/-- what holds at the law's entry: the machine, the code, the tables' words (any of lw_tbl by 'hts w (by decide +kernel)'), the script of L ints xs at the cell b, what the Statement gives of the start (any of its parts by flat_of_before) -/
def lw_At (p : Program) (s : State) (m : MethodId) (meth : Method) (c : Code) (b L : Nat) (xs : Nat → Int32) : Prop :=
  p.tables.exec = Jvm.exec ∧ c.code = code ∧ meth.sig.returnType = ret ∧ c.maxLocals = 7 ∧ s.vm.findClass R_law = some m.cls ∧ (∀ w ∈ lw_tbl, w.before #[Value.ref b] s = true) ∧ va_X b L xs s s.heap ∧ b < s.heap.size ∧ meth.locks = false ∧ (Jvm.Cond.and given_1 narrow_1).before #[Value.ref b] s = true

theorem zn_dl (pc : Nat) (i : Instr) (n : Nat) (h : zx_at (zx_mi zl_q) pc = some (i, n)) : decode code pc = .ok (i, n) := (zl_qok 0 (fun _ => 0)).2 (pc, (i, n)) (zx_at_mem h)
set_option maxRecDepth 100000 in
theorem zn_w1 : Cond.methodLink RL 67 zo_yh ∈ zp_G := List.mem_filter.mpr (by decide +kernel)
set_option maxRecDepth 100000 in
theorem zn_w2 : Cond.static zo_yh ∈ zp_G := List.mem_filter.mpr (by decide +kernel)
set_option maxRecDepth 100000 in
theorem zn_w3 : Cond.initialized zo_yh.cls ∈ zp_G := List.mem_filter.mpr (by decide +kernel)
theorem zn_good : GoodIn zp_G (va_wsS RL 67 zo_yh (zo_cw :: zp_G)) := by
  intro w hw
  have h1 : w ∈ zp_G := by
    unfold va_wsS at hw
    rcases List.mem_append.mp hw with h | h
    · rcases List.mem_cons.mp h with rfl | h
      · exact zn_w1
      · rcases List.mem_cons.mp h with rfl | h
        · exact zn_w2
        · rcases List.mem_cons.mp h with rfl | h
          · exact zn_w3
          · cases h
    · rcases List.mem_cons.mp h with rfl | h
      · exact zo_w4
      · exact h
  exact ⟨h1, zp_ok.1 w h1⟩
theorem zn_L73 {h u : zx_H} (hN : zn_U h) (i : zb_I zc_H u) (w : zb_W [(73, 0)] h u) : zn_U u := hN.w i w rfl rfl
set_option maxHeartbeats 4000000 in
set_option maxRecDepth 100000 in
theorem zn_loop {p : Program} {e : Env} {s : State} {m : MethodId} {below : List Frame} {meth : Method} {c : Code} (l : Launch) (htr : l.stackTraces = false) {b L : Nat} {xs : Nat → Int32} (hL : L ≤ 2560) (C0 : lw_At p s m meth c b L xs) {D : va_G} {ad : Nat → Nat} {cA : Nat → ClassId} {sa : Nat}
    (hK : va_K D zp_cl (zx_ty cA) s) (hZ : zx_Z zp_P zp_G ad (fun q => s.heap.size ≤ q) s s.heap) (hZ2 : zx_Z (zl_P L xs) zp_G ad (fun q => s.heap.size ≤ q) s s.heap) (hSS : zo_S (fun q => s.heap.size ≤ q) sa s s.heap) :
    ∀ (n i cells slots : Nat) (h : zx_H) (H : Heap) (locs : List Loc) (lsA : Array Slot), L < i + n → i ≤ L → cells + (L - i) ≤ 603072 → slots + 6 * (L - i) ≤ 7211114 → zn_U h → va_P D zp_cl (zx_w ad cA h) H → va_D (fun q => s.heap.size ≤ q) (zx_w ad cA h) → va_S (fun q => s.heap.size ≤ q) s.heap H locs → lv_has lsA 7 (zx_lm ad [(4, .int (nI (i))), (0, .ref 2000000), (1, .ref 0), (2, .ref 44), (3, .ref 73)]) →
    W p l e room_1 s m #[Value.ref b] below meth c H locs cells slots (lw_Z below #[Value.ref b] s) (F0 m 23 lsA []) := by
  obtain ⟨hx, hb, hr, hml, hown, hts9, hX, hbl, hlocks, hgv⟩ := id C0
  have hts : ∀ w ∈ zp_G, w.before #[Value.ref b] s = true := fun w hw => hts9 w (List.mem_filter.mp hw).1
  have hA : ∀ q : Nat, s.heap.size ≤ q → (fun q : Nat => s.heap.size ≤ q) q := fun _ h => h
  intro n
  induction n with
  | zero => intro i cells slots h H locs lsA hn hi; omega
  | succ n ih =>
    intro i cells slots h H locs lsA hn hi hc1 hs1 hN hP hD hS hl
    by_cases hi5 : i + 5 ≤ L
    · by_cases ho : (xs i &&& (Int8.ofInt 31).toInt32).toInt = 11
      · obtain ⟨n1, ls1, st1, h1, hx1, e1, e2, e3⟩ := zl_out1 (xs := xs) hi5 hL hN ho
        have e3 := e3.symm
        subst e1 e2 e3
        refine zl_seg zp_ok (zl_ok L xs) rfl (zl_qok L xs) (R := room_1) (ad := ad) (cA := cA) (A := fun q => s.heap.size ≤ q) hx hb hml hown hts hK hZ hZ2 hA (by decide) (by decide) (by show cells ≤ 603072; omega) (by show slots ≤ 7211114; omega) n1 23 _ [] h _ _ _ hx1 H locs lsA hP hD hS hl ?_
        intro H1 locs1 lsB a1 a2 a3 a4
        have hsub := zx_sub a2 a3 hA
        refine va_calli (S := zx_H) (vx_runSW (As := [.ref (ad 0), .int (xs (i + 1)), .ref (ad 73)]) (rest := []) (nL := 7) (own := RL) (index := 67) (y := zo_yh) (hh := zo_hh) (n := 3) ⟨hx, hb, hml, hown, hts⟩ (zo_hmet l htr D ad cA h hN.1.1.1.1.1 H1.size sa (xs (i + 1)))
          (vx_cwSW 3 hts zn_good rfl rfl rfl ⟨by decide, by decide, by decide +kernel⟩ ⟨by decide, by decide⟩)
          ⟨zo_blind D ad cA h H1.size sa _, fun U hU hW => ⟨rfl, zx_preU hK hZ hA a1 a2 a3 U hU hW, by rw [hU]; exact (zo_S.kn hSS (fun a g1 g2 => a3.2.1 a g1 g2) hsub).mv hW⟩⟩ rfl rfl a4.1 rfl (lv_room (Nat.le_of_ble_eq_true rfl)) (zn_dl 463 _ _ zl_a463) ⟨by show cells + 1 ≤ 603072; omega, by show slots + 6 ≤ 7211114; omega⟩) a3 (fun q _ g => hsub q g) hsub ?_
        rintro r u t H2 locs2 ht hvm ⟨u1, u2⟩ ⟨b1, b2⟩ hz hk b3
        rw [ht] at b1
        have hN2 := zn_L73 hN u1 u2
        obtain ⟨n2, ls2, st2, h2, hx2, v, e4, e5, hN3⟩ := zl_out2 (xs := xs) hi5 hL hN2 r
        subst e4 e5
        refine zl_seg zp_ok (zl_ok L xs) rfl (zl_qok L xs) (R := room_1) (ad := ad) (cA := cA) (A := fun q => s.heap.size ≤ q) hx hb hml hown hts hK hZ hZ2 hA (by decide) (by decide) (by show cells + 1 ≤ 603072; omega) (by show slots + 6 ≤ 7211114; omega) n2 466 _ _ u _ _ _ hx2 H2 locs2 lsB b1 (b2.weaken (fun _ _ _ z => hsub _ z)) b3 a4 ?_
        intro H3 locs3 lsC c1 c2 c3 c4
        exact ih (i + 5) (cells + 1) (slots + 6) _ H3 locs3 lsC (by omega) hi5 (by omega) (by omega) hN3 c1 c2 c3 (lv_sub c4 [0, 3, 4, 5, 6] rfl)
      · obtain ⟨n1, ls1, st1, h1, hx1, e1, e2, hN1⟩ := zl_round (xs := xs) hi5 hL hN ho
        subst e1 e2
        refine zl_seg zp_ok (zl_ok L xs) rfl (zl_qok L xs) (R := room_1) (ad := ad) (cA := cA) (A := fun q => s.heap.size ≤ q) hx hb hml hown hts hK hZ hZ2 hA (by decide) (by decide) (by show cells ≤ 603072; omega) (by show slots ≤ 7211114; omega) n1 23 _ [] h _ _ _ hx1 H locs lsA hP hD hS hl ?_
        intro H1 locs1 lsB a1 a2 a3 a4
        exact ih (i + 5) cells slots _ H1 locs1 lsB (by omega) hi5 (by omega) (by omega) hN1 a1 a2 a3 a4
    · obtain ⟨n1, ls1, st1, h1, hx1, e1⟩ := zl_fin (xs := xs) (i := i) (h := h) (by omega) (by omega) hL hN
      subst e1
      refine zl_seg zp_ok (zl_ok L xs) rfl (zl_qok L xs) (R := room_1) (ad := ad) (cA := cA) (A := fun q => s.heap.size ≤ q) hx hb hml hown hts hK hZ hZ2 hA (by decide) (by decide) (by show cells ≤ 603072; omega) (by show slots ≤ 7211114; omega) n1 23 _ [] h _ _ _ hx1 H locs lsA hP hD hS hl ?_
      intro H1 locs1 lsB a1 a2 a3 a4
      refine va_forget (fun q hq => a3.2.2 q hq) ?_
      refine W.widen (k := 603072) (n := 7211114) (by omega) (by omega) ?_
      exact lw_ret hx hb hr hlocks (zn_dl 647 _ _ zl_a647)
