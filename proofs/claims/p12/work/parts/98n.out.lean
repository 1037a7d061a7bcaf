/-! ===== 72: out, which throws, and the law's helper, which catches (by program) ===== -/
def zo_X : String := "java/lang/ArrayIndexOutOfBoundsException"
def zo_N : List String := ["java/lang/IndexOutOfBoundsException", "java/lang/RuntimeException", "java/lang/Exception"]
def zo_L : List Cond := vx_atS "ClassFrames" 124 zo_X zo_N
def zo_B : List Cond := zo_L.filter (fun w => !goodWord w)
set_option maxRecDepth 100000 in
theorem zo_g : (zo_L.filter goodWord).all (fun w => decide (w ∈ lw_tbl)) = true := by decide +kernel
theorem zo_gG : ∀ w ∈ zo_L.filter goodWord, w ∈ zp_G := fun w hw => List.mem_filter.mpr ⟨of_decide_eq_true (List.all_eq_true.mp zo_g w hw), (List.mem_filter.mp hw).2⟩
def zo_isc (w : Cond) : Bool := match w with | .castable _ _ => true | .declares _ => true | _ => false
set_option maxRecDepth 100000 in
theorem zo_b : zo_B.all (fun w => zo_isc w && decide (w ∈ lw_tbl)) = true := by decide +kernel
set_option maxRecDepth 100000 in
theorem zo_ot : (Cond.classLink "ClassFrames" 120 zo_X :: Cond.initialized zo_X :: zo_L).all vx_ot = true := by decide +kernel
set_option maxRecDepth 100000 in
theorem zo_w1 : Cond.classLink "ClassFrames" 120 zo_X ∈ zp_G := List.mem_filter.mpr (by decide +kernel)
set_option maxRecDepth 100000 in
theorem zo_w2 : Cond.initialized zo_X ∈ zp_G := List.mem_filter.mpr (by decide +kernel)
theorem zo_cast {a b : String} {args a' : Array Value} {s U : State} (hv : s.vm.Alike U.vm) (h : (Cond.castable a b).before args s = true) : (Cond.castable a b).before a' U = true := by
  obtain ⟨c3, c4, h3, h4, h5⟩ := Cond.castable_spec h
  have e1 : U.vm.findClass a = some c3 := by rw [hv.findClass]; exact h3
  have e2 : U.vm.findClass b = some c4 := by rw [hv.findClass]; exact h4
  have e3 : U.vm.assignable c3 c4 = true := by rw [hv.assignable]; exact h5
  simp [Cond.before, Cond.holds, Cond.value, e1, e2, e3]
theorem zo_decl {x : MethodName} {args a' : Array Value} {s U : State} (hv : s.vm.Alike U.vm) (h : (Cond.declares x).before args s = true) : (Cond.declares x).before a' U = true := va_tabs (u := s.setVm U.vm) rfl rfl (A := args) (by rw [Cond.declares_setVm hv]; exact h)
theorem zo_Bm {args a' : Array Value} {s U : State} (hv : s.vm.Alike U.vm) (h : ∀ w ∈ zo_B, w.before args s = true) : ∀ w ∈ zo_B, w.before a' U = true := fun w hw => by
  have h1 := List.all_eq_true.mp zo_b w hw
  rw [Bool.and_eq_true] at h1
  have h2 := h w hw
  have h3 := h1.1
  cases w <;> first | exact zo_cast hv h2 | exact zo_decl hv h2 | cases h3
/-- the statics and the text that a throw needs -/
def zo_S (A : Nat → Prop) (sa : Nat) (U : State) (H : Heap) : Prop := vx_Zq Bundle.tN "UNASSIGNED_STACK" Bundle.steD A U H ∧ vx_Zq Bundle.tN "SUPPRESSED_SENTINEL" Bundle.listD A U H ∧ vk_R "ClassFrames" 122 "no such byte was packed" sa U ∧ ∀ w ∈ zo_B, w.before #[] U = true
theorem zo_S.mv {A : Nat → Prop} {sa : Nat} {u U : State} {H : Heap} (h : zo_S A sa u H) (hW : u.WarmedH U.vm) : zo_S A sa U H := ⟨vx_Zq.moved hW.alike h.1, vx_Zq.moved hW.alike h.2.1, vk_R.warm hW h.2.2.1, zo_Bm hW.alike h.2.2.2⟩
theorem zo_S.same {A : Nat → Prop} {sa : Nat} {u U : State} {H : Heap} (h : zo_S A sa u H) (hv : U.vm = u.vm) : zo_S A sa U H := ⟨vx_Zq.moved (by rw [hv]; exact Vm.Alike.refl _) h.1, vx_Zq.moved (by rw [hv]; exact Vm.Alike.refl _) h.2.1, vk_R.same hv h.2.2.1, zo_Bm (by rw [hv]; exact Vm.Alike.refl _) h.2.2.2⟩
theorem zo_S.kn {A B : Nat → Prop} {sa : Nat} {U : State} {H H1 : Heap} (h : zo_S A sa U H) (hq : ∀ a : Nat, a < H.size → ¬ A a → H1[a]? = H[a]?) (hAB : ∀ q, B q → A q) : zo_S B sa U H1 := ⟨(h.1.kept hq).narrow hAB, (h.2.1.kept hq).narrow hAB, h.2.2.1, h.2.2.2⟩
def zo_pre (D : va_G) (ad : Nat → Nat) (cA : Nat → ClassId) (h : zx_H) (sz sa : Nat) : State → Prop := fun U => zx_pre zp_P zp_G D zp_cl ad cA h sz U ∧ zo_S (va_A (zx_w ad cA h) sz) sa U U.heap
theorem zo_blind (D : va_G) (ad : Nat → Nat) (cA : Nat → ClassId) (h : zx_H) (sz sa : Nat) (av : List Value) : FrameBlind (va_Pc av (zo_pre D ad cA h sz sa)) := by
  intro a U g mk ⟨q0, q1, q2⟩
  exact ⟨q0, (zx_blind zp_P zp_G D zp_cl ad cA h sz av a U g mk ⟨q0, q1⟩).2, zo_S.same (U := U.calling g mk a) q2 rfl⟩
/-- a stretch that ends behind a call -/
def zl_E (P P2 : zx_P) (stop : Nat) (q : zx_M) (d pc : Nat) (ls : zx_L) (st : List Value) (h : zx_H) (F : zx_L → List Value → zx_H → Prop) : Prop := zl_T P P2 stop q d pc ls st h F
/-- out's two roads -/
theorem zo_lt (i : Int32) : zx_j (.ifCond .lt 14) 3 1 [.int i] = some (if i.toInt < 0 then 15 else 4, []) := by
  have e : zx_cmp .lt i 0 = decide (i.toInt < 0) := by unfold zx_cmp; rw [decide_eq_decide, Int32.lt_iff_toInt_lt, Int32.toInt_zero]
  unfold zx_j
  simp only [e, decide_eq_true_eq]
  rfl
theorem zo_lt2 (i : Int32) (n : Int) (h1 : 0 ≤ n) (h2 : n ≤ 2940) : zx_j (.if_icmp .lt 13) 3 12 [.int (zI n), .int i] = some (if i.toInt < n then 25 else 15, []) := by
  have e : zx_cmp .lt i (zI n) = decide (i.toInt < n) := by unfold zx_cmp; rw [decide_eq_decide, Int32.lt_iff_toInt_lt, zI_i (by omega) (by omega)]
  unfold zx_j
  simp only [e, decide_eq_true_eq]
  rfl
theorem zo_gf {h : zx_H} (hI : zb_I zc_H h) : zx_gf zp_P 11 44 0 h = some (.ref 27) := by
  obtain ⟨fs, v, e1, e3, e4⟩ := zw_v hI (a := 0) (k := 4) (ci := 9) (t := .inr (.inr 27)) rfl
  have e5 : v = .ref 27 := e4
  subst e5
  rw [zb_gfx (ci := 9) (k := 4) rfl e1, e3]
set_option maxRecDepth 100000 in
theorem zo_thr {h : zx_H} (hI : zb_I zc_H h) (i : Int32) (hi : i.toInt < 0 ∨ zv_f h 27 4 ≤ i.toInt) : zl_T zp_P zp_P 15 zp_m147 4 0 [(0, .ref 0), (1, .int i)] [] h (fun ls' st' h' => ls' = [(0, .ref 0), (1, .int i)] ∧ st' = [] ∧ h = h') := by
  refine zl_T.l (i := .iload_n 1) (k := 1) (v := .int i) rfl rfl rfl (by decide) ?_
  by_cases c : i.toInt < 0
  · exact zl_T.js (i := .ifCond .lt 14) (k := 3) (st' := []) rfl rfl rfl rfl ((zo_lt i).trans (by rw [if_pos c])) ⟨rfl, rfl, rfl⟩
  · refine zl_T.j (i := .ifCond .lt 14) (k := 3) (pc' := 4) (st' := []) rfl rfl rfl rfl ((zo_lt i).trans (by rw [if_neg c])) (by decide) ?_
    refine zl_T.l (i := .iload_n 1) (k := 1) (v := .int i) rfl rfl rfl (by decide) ?_
    refine zl_T.l (i := .aload_n 0) (k := 1) (v := .ref 0) rfl rfl rfl (by decide) ?_
    refine zl_T.g (i := .getfield 44) (k := 3) (st' := [.ref 27, .int i]) (h' := h) rfl rfl rfl rfl rfl (by show (zx_gf zp_P 11 44 0 h).map _ = _; rw [zo_gf hI]; rfl) (by decide) ?_
    refine zl_cv (b := 27) (cj := 96) (q' := zp_m96) (As := []) (rest := [.int i]) rfl rfl rfl rfl rfl rfl rfl rfl (Nat.le_of_ble_eq_true rfl) rfl (Nat.le_of_ble_eq_true rfl) hI ((zm_cHowMany hI).up (Nat.le_of_ble_eq_true rfl)) ?_
    rintro r1 h1 ⟨rfl, e, rfl, x1, x2, x3⟩
    exact zl_T.js (i := .if_icmp .lt 13) (k := 3) (st' := []) rfl rfl rfl rfl ((zo_lt2 i e x2 x3).trans (by rw [if_neg (by omega)])) ⟨rfl, rfl, rfl⟩
set_option maxRecDepth 100000 in
theorem zo_ret {h : zx_H} (hI : zb_I zc_H h) (i : Int32) (hi : ¬ (i.toInt < 0 ∨ zv_f h 27 4 ≤ i.toInt)) : zl_T zp_P zp_P 30 zp_m147 4 0 [(0, .ref 0), (1, .int i)] [] h (fun ls' st' h' => ls' = [(0, .ref 0), (1, .int i)] ∧ st' = [.int i, .ref 27] ∧ h = h') := by
  refine zl_T.l (i := .iload_n 1) (k := 1) (v := .int i) rfl rfl rfl (by decide) ?_
  refine zl_T.j (i := .ifCond .lt 14) (k := 3) (pc' := 4) (st' := []) rfl rfl rfl rfl ((zo_lt i).trans (by rw [if_neg (by omega)])) (by decide) ?_
  refine zl_T.l (i := .iload_n 1) (k := 1) (v := .int i) rfl rfl rfl (by decide) ?_
  refine zl_T.l (i := .aload_n 0) (k := 1) (v := .ref 0) rfl rfl rfl (by decide) ?_
  refine zl_T.g (i := .getfield 44) (k := 3) (st' := [.ref 27, .int i]) (h' := h) rfl rfl rfl rfl rfl (by show (zx_gf zp_P 11 44 0 h).map _ = _; rw [zo_gf hI]; rfl) (by decide) ?_
  refine zl_cv (b := 27) (cj := 96) (q' := zp_m96) (As := []) (rest := [.int i]) rfl rfl rfl rfl rfl rfl rfl rfl (Nat.le_of_ble_eq_true rfl) rfl (Nat.le_of_ble_eq_true rfl) hI ((zm_cHowMany hI).up (Nat.le_of_ble_eq_true rfl)) ?_
  rintro r1 h1 ⟨rfl, e, rfl, x1, x2, x3⟩
  refine zl_T.j (i := .if_icmp .lt 13) (k := 3) (pc' := 25) (st' := []) rfl rfl rfl rfl ((zo_lt2 i e x2 x3).trans (by rw [if_pos (by omega)])) (by decide) ?_
  refine zl_T.l (i := .aload_n 0) (k := 1) (v := .ref 0) rfl rfl rfl (by decide) ?_
  refine zl_T.g (i := .getfield 44) (k := 3) (st' := [.ref 27]) (h' := h) rfl rfl rfl rfl rfl (by show (zx_gf zp_P 11 44 0 h).map _ = _; rw [zo_gf hI]; rfl) (by decide) ?_
  exact zl_T.en (pc := 29) (by unfold zx_o; simp only [show zx_at (zx_mi zp_m147) 29 = some (.iload_n 1, 1) from rfl, show zx_s (.iload_n 1) [Value.ref 27] = none from rfl, show zx_l (.iload_n 1) [(0, Value.ref 0), (1, Value.int i)] = some (1, .int i) from rfl]; rfl) ⟨rfl, rfl, rfl⟩
theorem zo_keep {D : va_G} {cl : List vw_C} {ws : va_W} {H H1 : Heap} (hP : va_P D cl ws H) (hk : ∀ q : Nat, q < H.size → H1[q]? = H[q]?) : va_P D cl ws H1 :=
  hP.kept fun k q hq => hk _ (hP k q hq).lt
set_option maxHeartbeats 4000000 in
/-- a call of the interpreter's, at the machine -/
theorem zl_call {P P2 : zx_P} {G : List Cond} {cl : List vw_C} (ok : zx_ok P G cl) (ok2 : zx_ok P2 G cl) (hpm : zx_pm P2 = zx_pm P) {d : Nat} {q : zx_M} (hq : zl_mok P2 q) {p : Program} {l : Launch} {e : Env} {R : Room} {s : State} {m : MethodId} {args : Array Value} {below : List Frame} {meth : Method} {c : Code} {cells slots : Nat} {Q : State → Prop} {D : va_G} {ad : Nat → Nat} {cA : Nat → ClassId} {A : Nat → Prop}
    (xe : p.tables.exec = Jvm.exec) (xb : c.code = zx_mb q) (xm : c.maxLocals = zx_ml q) (xo : s.vm.findClass (zx_my q).cls = some m.cls) (hts : ∀ w ∈ G, w.before args s = true) (hK : va_K D cl (zx_ty cA) s) (hZ : zx_Z P G ad A s s.heap) (hA : ∀ q : Nat, s.heap.size ≤ q → A q) (hR1 : d + 1 ≤ R.frames) (hR2 : 40 * (d + 1) ≤ R.locals) (hR3 : cells ≤ R.cells) (hR4 : slots ≤ R.slots)
    {pc idx b ci cj n : Nat} {q' : zx_M} {fs : List Value} {As rest : List Value} {h h' : zx_H} {r : Option Value} (hat : zx_at (zx_mi q) pc = some (.invokevirtual idx, 3)) (hpc : zx_pc P2 (zx_mo q) idx = some cj) (hq' : (zx_pm P)[cj]? = some q') (hmc : zx_mc q' = some ci) (hbc : h[b]? = some (.inr (ci, fs))) (hlen : As.length = zx_mp q') (hcat : (rest.map fun v => v.category).sum ≤ 8) (hml : zx_ml q' ≤ 21) (hsl : (lg_sl (.ref b :: As)).length ≤ zx_ml q') (hx : zx_x P n d q' 0 (lv_args 0 (.ref b :: As)) [] h = some (r, h'))
    {H : Heap} {locs : List Loc} {lsA : Array Slot} {lms : List (Nat × Value)} (hP : va_P D cl (zx_w ad cA h) H) (hD : va_D A (zx_w ad cA h)) (hS : va_S A s.heap H locs) (hl : lv_has lsA (zx_ml q) lms)
    (kk : ∀ (H1 : Heap) (locs1 : List Loc), va_P D cl (zx_w ad cA h') H1 → va_D A (zx_w ad cA h') → va_S A s.heap H1 locs1 → W p l e R s m args below meth c H1 locs1 cells slots Q (F0 m (pc + 3) lsA ((r.toList ++ rest).map (zx_v ad)))) :
    W p l e R s m args below meth c H locs cells slots Q (F0 m pc lsA ((As.reverse ++ .ref b :: rest).map (zx_v ad))) := by
  have hown : s.vm.findClass (zx_po P2 (zx_mo q)) = some m.cls := by rw [hq.1]; exact xo
  have hd : decode (zx_mb q) pc = .ok (.invokevirtual idx, 3) := hq.2 (pc, (.invokevirtual idx, 3)) (zx_at_mem hat)
  obtain ⟨y1, y2, y3, y4, y5, y6, y7, y8⟩ := ok.2.1 _ _ hq'
  obtain ⟨q8, hq8, hlk⟩ := ok2.2.2.2.1 _ _ _ hpc
  rw [hpm] at hq8
  cases hq8.symm.trans hq'
  rw [hmc] at y7
  obtain ⟨z1, z2, T9, N9, z3⟩ := y7
  exact zx_call (va_runV (As := As.map (zx_v ad)) (b := ad b) (C := (zx_my q').cls) (nL := zx_ml q) ⟨xe, xb, xm, hown, hts⟩ (zx_met_of (zx_sim_all ok n) (ok.2.1 _ _ hq') hsl hx l D ad cA H.size)
    ⟨callB_of (zx_mp q') hts (zx_good ok y5) rfl rfl rfl (hts _ y6) (hts _ hlk) ⟨y2.1, y2.2, y3⟩ ⟨hR1, by show 8 + (zx_ml q' + 11) + 40 * d ≤ R.locals; omega⟩, hts _ z1, hts _ z2⟩
    ⟨zx_blind P G D cl ad cA h H.size _, va_recv hK hP z3 (zx_w_at hbc), fun U hU hW => ⟨rfl, zx_preU hK hZ hA hP hD hS U hU hW⟩⟩ rfl (by rw [List.length_map]; exact hlen) hl.1
    (by show (As.reverse ++ .ref b :: rest).map (zx_v ad) = _
        rw [List.map_append, List.map_reverse]; rfl)
    (lv_room (by rw [zx_cat_sum]; exact hcat)) hd ⟨hR3, hR4⟩) hS (zx_sub hD hS hA) kk
def zo_room : Room := { frames := 20, cells := 1, slots := 6, locals := 900 }
def zo_at (D : va_G) (ad : Nat → Nat) (cA : Nat → ClassId) (A : Nat → Prop) (u : zx_H) (t : State) : Prop := va_P D zp_cl (zx_w ad cA u) t.heap ∧ va_D A (zx_w ad cA u)
theorem zo_zl : zl_mok zp_P zp_m147 := ⟨(zp_ok.2.1 147 _ rfl).2.2.2.1, (zp_ok.2.1 147 _ rfl).2.2.2.2.2.2.2⟩
theorem zo_d15 : decode (zx_mb zp_m147) 15 = .ok (.new 120, 3) := zo_zl.2 (15, (.new 120, 3)) (zx_at_mem rfl)
theorem zo_d18 : decode (zx_mb zp_m147) 18 = .ok (.dup, 1) := zo_zl.2 (18, (.dup, 1)) (zx_at_mem rfl)
theorem zo_d19 : decode (zx_mb zp_m147) 19 = .ok (.ldc 122, 2) := zo_zl.2 (19, (.ldc 122, 2)) (zx_at_mem rfl)
theorem zo_d21 : decode (zx_mb zp_m147) 21 = .ok (.invokespecial 124, 3) := zo_zl.2 (21, (.invokespecial 124, 3)) (zx_at_mem rfl)
theorem zo_d24 : decode (zx_mb zp_m147) 24 = .ok (.athrow, 1) := zo_zl.2 (24, (.athrow, 1)) (zx_at_mem rfl)
theorem zo_d33 : decode (zx_mb zp_m147) 33 = .ok (.ireturn, 1) := zo_zl.2 (33, (.ireturn, 1)) (zx_at_mem rfl)
set_option maxHeartbeats 4000000 in
set_option maxRecDepth 100000 in
theorem zo_met (l : Launch) (htr : l.stackTraces = false) (D : va_G) (ad : Nat → Nat) (cA : Nat → ClassId) (h : zx_H) (hI : zb_I zc_H h) (sz sa : Nat) (i : Int32) :
    vx_Met l (zx_my zp_m147) (Cond.code (zx_my zp_m147) (zx_mb zp_m147) 2 (some .int) :: zp_G) zo_room (va_Pc [.ref (ad 0), .int i] (zo_pre D ad cA h sz sa)) (va_Qi (fun (_ : Int32) (u : zx_H) => u = h) (zo_at D ad cA (va_A (zx_w ad cA h) sz)) (va_A (zx_w ad cA h) sz)) (vx_X (fun (u : zx_H) => u = h) (fun E u t => E = zo_X ∧ zo_at D ad cA (va_A (zx_w ad cA h) sz) u t) (va_A (zx_w ad cA h) sz)) 1 6 (va_A (zx_w ad cA h) sz) := by
  have mok := zp_ok.2.1 147 zp_m147 rfl
  refine vx_ofW (cc := zx_mb zp_m147) (maxL := 2) (ret := some .int) mok.1 rfl ?_
  intro p e s m args below meth c s₁ B hml htab hv
  obtain ⟨rfl, ⟨hsz, hP, hK, hD, hZ⟩, hU, hN, hstr, hBw⟩ := hv
  have hts0 := atoms_spec (ws := Cond.code (zx_my zp_m147) (zx_mb zp_m147) 2 (some .int) :: zp_G) B.pre
  have hts : ∀ w ∈ zp_G, w.before _ s = true := fun w hw => hts0 w (List.mem_cons_of_mem _ hw)
  subst hsz
  have hown := findClass_of_methodNamed B.named
  rw [lg_entry_eq]
  have hl9 := lv_entry ([.ref (ad 0), .int i]) (n := 2) (Nat.le_of_ble_eq_true rfl)
  generalize (lg_sl ([.ref (ad 0), .int i]) ++ List.replicate (2 - (lg_sl ([.ref (ad 0), .int i])).length) Slot.unset).toArray = lsA at hl9 ⊢
  have hl9 : lv_has lsA 2 (zx_lm ad [(0, .ref 0), (1, .int i)]) := hl9
  by_cases hc : i.toInt < 0 ∨ zv_f h 27 4 ≤ i.toInt
  · obtain ⟨n, ls', st', h', hx, rfl, rfl, rfl⟩ := zo_thr hI i hc
    refine zl_seg zp_ok zp_ok rfl zo_zl (R := zo_room) (cells := 0) (slots := 0) (ad := ad) (cA := cA) (A := va_A (zx_w ad cA h) s.heap.size) B.exec B.bytes hml hown hts hK hZ hZ (fun q hq => Or.inr hq) (by decide) (by decide) (by decide) (by decide) n 0 _ [] h _ _ _ hx s.heap [] lsA hP hD.self va_S.rf hl9 ?_
    intro H1 locs1 lsB a1 a2 a3 a4
    refine vx_throwS (names := zo_N) (cls := zo_X) (own := "ClassFrames") (text := "no such byte was packed") (sa := sa) (A := va_A (zx_w ad cA h) s.heap.size) B.exec B.bytes htr hown (by decide +kernel) (by decide +kernel) (hts _ zo_w1) (hts _ zo_w2) hstr (vx_hat (B := zo_B) (fun w hw => hts w (zo_gG w hw)) (fun w hw => hw) (zo_Bm (Vm.Alike.refl _) hBw)) (fun w hw => List.all_eq_true.mp zo_ot w hw) hU hN a3 (a4.1.trans hml.symm) zo_d15 zo_d18 zo_d19 zo_d21 zo_d24 (fun x hx => (htab x hx).elim) (by decide) (Nat.le_of_ble_eq_true rfl) (by decide) (by decide) B.notSynchronized ?_ a3.2.2 (by decide) (by decide)
    intro t hvm hz hk
    refine ⟨h, rfl, ⟨rfl, ?_, a2⟩, Nat.le_trans a3.1 hz, fun q h1 h2 => by rw [hk q (Nat.lt_of_lt_of_le h1 a3.1)]; exact a3.2.1 q h1 h2⟩
    exact zo_keep a1 hk
  · obtain ⟨n, ls', st', h', hx, rfl, rfl, rfl⟩ := zo_ret hI i hc
    refine zl_seg zp_ok zp_ok rfl zo_zl (R := zo_room) (cells := 0) (slots := 0) (ad := ad) (cA := cA) (A := va_A (zx_w ad cA h) s.heap.size) B.exec B.bytes hml hown hts hK hZ hZ (fun q hq => Or.inr hq) (by decide) (by decide) (by decide) (by decide) n 0 _ [] h _ _ _ hx s.heap [] lsA hP hD.self va_S.rf hl9 ?_
    intro H1 locs1 lsB a1 a2 a3 a4
    have hn := zn_r i
    have zb := zm_cByteAt hI (i := i.toInt) hn.1 hn.2
    simp only [zI, Int32.ofInt_toInt] at zb
    obtain ⟨n2, r2, h2, hx2, hh2, e2, hr2, -⟩ := zb.up (e := 4) (Nat.le_of_ble_eq_true rfl)
    subst hh2 hr2
    obtain ⟨fs, v, f1, f3, f4⟩ := zw_v hI (a := 27) (k := 0) (ci := 5) (t := .inr (.inr 1)) rfl
    refine zl_call zp_ok zp_ok rfl zo_zl (d := 4) (R := zo_room) (cells := 0) (slots := 0) (ad := ad) (cA := cA) (A := va_A (zx_w ad cA h) s.heap.size) B.exec B.bytes hml hown hts hK hZ (fun q hq => Or.inr hq) (by decide) (by decide) (by decide) (by decide) (pc := 30) (idx := 127) (b := 27) (ci := 5) (cj := 97) (q' := zp_m97) (As := [.int i]) (rest := []) rfl rfl rfl rfl f1 rfl (by decide) (Nat.le_of_ble_eq_true rfl) (Nat.le_of_ble_eq_true rfl) hx2 a1 a2 a3 a4 ?_
    intro H3 locs3 b1 b2 b3
    refine W.widen (k := 1) (n := 6) (by decide) (by decide) ?_
    refine vx_ret ?_
    exact W.iret B.exec B.bytes B.returns (fun t ht hW => ⟨⟨_, h, rfl, rfl, by rw [← ht] at b1; exact ⟨b1, b2⟩⟩, b3.F ht⟩) b3.2.2 zo_d33 B.notSynchronized
/-! the helper -/
def zo_th : List (Nat × Instr × Nat) := [(0, .aload_n 2, 1), (1, .iconst 0, 1), (2, .aload_n 0, 1), (3, .iload_n 1, 1), (4, .invokevirtual 7, 3), (7, .i2l, 1), (8, .lastore, 1), (9, .goto 6, 3), (12, .astore_n 3, 1), (13, .iconst 1, 1), (14, .ireturn, 1), (15, .iconst 0, 1), (16, .ireturn, 1)]
def zo_yh : MethodName := ⟨RL, "out", "(LClassFrames;I[J)I"⟩
def zo_qh : zx_M := (zo_yh, method_3_code, 4, some .int, none, 3, 15, zo_th)
theorem zo_hd : zp_db method_3_code zo_th = true := by decide +kernel
theorem zo_hok : zl_mok zp_P zo_qh := ⟨rfl, zp_db_ok zo_hd⟩
def zo_hh : List (Nat × Nat × Nat × Nat) := [(0, 9, 12, 13)]
def zo_cw : Cond := Cond.codeWith zo_yh method_3_code 4 (some .int) zo_hh
set_option maxRecDepth 100000 in
theorem zo_w4 : zo_cw ∈ zp_G := List.mem_filter.mpr (by decide +kernel)
set_option maxRecDepth 100000 in
theorem zo_w3 : Cond.methodLink RL 7 (zx_my zp_m147) ∈ zp_G := List.mem_filter.mpr (by decide +kernel)
set_option maxRecDepth 100000 in
theorem zo_w5 : Cond.classLink RL 13 zo_X ∈ zp_G := List.mem_filter.mpr (by decide +kernel)
set_option maxRecDepth 100000 in
theorem zo_w6 : Cond.castable zo_X zo_X ∈ zo_B := by decide +kernel
set_option maxRecDepth 100000 in
theorem zo_h1 {h : zx_H} (i : Int32) : zl_T zp_P zp_P 4 zo_qh 4 0 [(0, .ref 0), (1, .int i), (2, .ref 73)] [] h (fun ls' st' h' => ls' = [(0, .ref 0), (1, .int i), (2, .ref 73)] ∧ st' = [.int i, .ref 0, .int (Int32.ofInt 0), .ref 73] ∧ h = h') := by
  refine zl_T.l (i := .aload_n 2) (k := 1) (v := .ref 73) rfl rfl rfl (by decide) ?_
  refine zl_T.s (i := .iconst 0) (k := 1) (st' := [.int (Int32.ofInt 0), .ref 73]) rfl rfl (by decide) ?_
  refine zl_T.l (i := .aload_n 0) (k := 1) (v := .ref 0) rfl rfl rfl (by decide) ?_
  exact zl_T.en (pc := 3) (by unfold zx_o; simp only [show zx_at (zx_mi zo_qh) 3 = some (.iload_n 1, 1) from rfl, show zx_s (.iload_n 1) [Value.ref 0, Value.int (Int32.ofInt 0), Value.ref 73] = none from rfl, show zx_l (.iload_n 1) [(0, Value.ref 0), (1, Value.int i), (2, Value.ref 73)] = some (1, .int i) from rfl]; rfl) ⟨rfl, rfl, rfl⟩
set_option maxRecDepth 100000 in
theorem zo_h2 {h : zx_H} (hI : zb_I zc_H h) (i r : Int32) : zl_T zp_P zp_P 16 zo_qh 4 7 [(0, .ref 0), (1, .int i), (2, .ref 73)] [.int r, .int (Int32.ofInt 0), .ref 73] h (fun _ st' h' => st' = [.int (Int32.ofInt 0)] ∧ zb_I zc_H h' ∧ zb_W [(73, 0)] h h') := by
  obtain ⟨f, e1⟩ := hI.lng (a := 73) (n := 1) rfl
  obtain ⟨p1, p2⟩ := zb_arrw (x' := (1, 1, .inr (.inl (vp_updL f 0 r.toInt64)))) hI (a := 73) rfl e1 ⟨rfl, rfl, rfl⟩ (W := [(73, 0)]) (za_in_iff.mpr List.mem_cons_self)
  refine zl_T.s (i := .i2l) (k := 1) (st' := [.long r.toInt64, .int (Int32.ofInt 0), .ref 73]) rfl rfl (by decide) ?_
  refine zl_T.g (i := .lastore) (k := 1) (st' := []) (h' := h.set 73 (.inl (1, 1, .inr (.inl (vp_updL f 0 r.toInt64))))) rfl rfl rfl rfl rfl (by
    show (match h[73]? with
      | some (.inl (1, n, .inr (.inl f))) => if Int32.ofInt 0 < 0 ∨ n ≤ (Int32.ofInt 0).toNatClampNeg then none else some (1, [], h.set 73 (.inl (1, n, .inr (.inl (vp_updL f (Int32.ofInt 0).toNatClampNeg r.toInt64)))))
      | _ => none) = _
    rw [e1]
    rfl) (by decide) ?_
  refine zl_T.j (i := .goto 6) (k := 3) (pc' := 15) (st' := []) rfl rfl rfl rfl rfl (by decide) ?_
  exact zl_T.en (pc := 15) (by unfold zx_o; simp only [show zx_at (zx_mi zo_qh) 15 = some (.iconst 0, 1) from rfl, show zx_s (.iconst 0) [] = some (1, [Value.int (Int32.ofInt 0)]) from rfl]; rfl) ⟨rfl, p1, p2⟩
def zo_hroom : Room := { frames := 24, cells := 1, slots := 6, locals := 1100 }
theorem zo_hdc (pc : Nat) (i : Instr) (n : Nat) (h : zx_at zo_th pc = some (i, n)) : decode method_3_code pc = .ok (i, n) := zo_hok.2 (pc, (i, n)) (zx_at_mem h)
set_option maxHeartbeats 4000000 in
set_option maxRecDepth 100000 in
theorem zo_hmet (l : Launch) (htr : l.stackTraces = false) (D : va_G) (ad : Nat → Nat) (cA : Nat → ClassId) (h : zx_H) (hI : zb_I zc_H h) (sz sa : Nat) (i : Int32) :
    Met l zo_yh (zo_cw :: zp_G) zo_hroom (va_Pc [.ref (ad 0), .int i, .ref (ad 73)] (zo_pre D ad cA h sz sa)) (va_Qi (fun (_ : Int32) (u : zx_H) => zb_I zc_H u ∧ zb_W [(73, 0)] h u) (zo_at D ad cA (va_A (zx_w ad cA h) sz)) (va_A (zx_w ad cA h) sz)) 1 6 (va_A (zx_w ad cA h) sz) := by
  refine va_MetW (cc := method_3_code) (maxL := 4) (ret := some .int) (hh := zo_hh) (by decide) rfl ?_
  intro p e s m args below meth c s₁ B hml hv
  obtain ⟨rfl, ⟨hsz, hP, hK, hD, hZ⟩, hSS⟩ := hv
  have hts0 := atoms_spec (ws := zo_cw :: zp_G) B.pre
  have hts : ∀ w ∈ zp_G, w.before _ s = true := fun w hw => hts0 w (List.mem_cons_of_mem _ hw)
  have htab : c.exceptionTable.toList = tableOf zo_hh := vx_table (x := zo_yh) B (hts0 _ List.mem_cons_self)
  subst hsz
  have hown := findClass_of_methodNamed B.named
  rw [lg_entry_eq]
  have hl9 := lv_entry ([.ref (ad 0), .int i, .ref (ad 73)]) (n := 4) (Nat.le_of_ble_eq_true rfl)
  generalize (lg_sl ([.ref (ad 0), .int i, .ref (ad 73)]) ++ List.replicate (4 - (lg_sl ([.ref (ad 0), .int i, .ref (ad 73)])).length) Slot.unset).toArray = lsA at hl9 ⊢
  have hl9 : lv_has lsA 4 (zx_lm ad [(0, .ref 0), (1, .int i), (2, .ref 73)]) := hl9
  obtain ⟨n, ls1, st1, h1, hx, e1, e2, e3⟩ := zo_h1 (h := h) i
  subst e1 e2 e3
  refine zl_seg zp_ok zp_ok rfl zo_hok (R := zo_hroom) (cells := 0) (slots := 0) (ad := ad) (cA := cA) (A := va_A (zx_w ad cA h) s.heap.size) B.exec B.bytes hml hown hts hK hZ hZ (fun q hq => Or.inr hq) (by decide) (by decide) (by decide) (by decide) n 0 _ [] h _ _ _ hx s.heap [] lsA hP hD.self va_S.rf hl9 ?_
  intro H1 locs1 lsB a1 a2 a3 a4
  have hA : ∀ q : Nat, s.heap.size ≤ q → va_A (zx_w ad cA h) s.heap.size q := fun q hq => Or.inr hq
  obtain ⟨y1, y2, y3, y4, y5, y6, y7, y8⟩ := zp_ok.2.1 147 zp_m147 rfl
  have y7 : Cond.instanceMethod (zx_my zp_m147) ∈ zp_G ∧ Cond.selects (zx_my zp_m147).cls (zx_my zp_m147) (zx_my zp_m147) ∈ zp_G ∧ ∃ (T : u_T) (N : Nat), zp_cl[9]? = some ((zx_my zp_m147).cls, T, N) := y7
  obtain ⟨z1, z2, T9, N9, z3⟩ := y7
  obtain ⟨fs, v, f1, f3, f4⟩ := zw_v hI (a := 0) (k := 4) (ci := 9) (t := .inr (.inr 27)) rfl
  have hsub := zx_sub a2 a3 hA
  refine vx_calli (SX := zx_H) (S := zx_H) (vx_runV (b := ad 0) (C := (zx_my zp_m147).cls) (As := [.int i]) (rest := [.int (Int32.ofInt 0), .ref (ad 73)]) (nL := 4) (own := RL) (index := 7) (y := zx_my zp_m147) (bytes := zx_mb zp_m147) (maxL := 2) (ret := some .int) (ws := Cond.code (zx_my zp_m147) (zx_mb zp_m147) 2 (some .int) :: zp_G) (n := 1) ⟨B.exec, B.bytes, hml, hown, hts⟩ (zo_met l htr D ad cA h hI H1.size sa i)
    ⟨callB_of 1 hts (zx_good zp_ok y5) rfl rfl rfl (hts _ y6) (hts _ zo_w3) ⟨y2.1, y2.2, y3⟩ ⟨by decide, by decide⟩, hts _ z1, hts _ z2⟩
    ⟨zo_blind D ad cA h H1.size sa _, va_recv hK a1 z3 (zx_w_at f1), fun U hU hW => ⟨rfl, zx_preU hK hZ hA a1 a2 a3 U hU hW, by rw [hU]; exact (zo_S.kn hSS (fun a g1 g2 => a3.2.1 a g1 g2) hsub).mv hW⟩⟩ rfl rfl a4.1 rfl (lv_room (Nat.le_of_ble_eq_true rfl)) (zo_hdc 4 _ _ rfl) ⟨by decide, by decide⟩) a3 (fun q _ g => hsub q g) hsub (fun q _ g => hsub q g) ?_ ?_
  · rintro E ce q9 u t H2 locs2 ht hvm rfl ⟨rfl, b1, b2⟩ hz hk b3 hcell hcv hcl
    rw [ht] at b1
    refine zk_catch (own := RL) (name := zo_X) (x := { startPc := 0, endPc := 9, handlerPc := 12, catchType := 13 }) hown htab rfl (by decide) (hts _ zo_w5) (zo_cast (Vm.Alike.refl _) (hSS.2.2.2 _ zo_w6)) hcell hcv hcl ?_
    refine lv_astore_n (i := 3) (nL := 4) (lv' := [(3, .ref q9), (0, .ref (ad 0)), (1, .int i), (2, .ref (ad 73))]) B.exec B.bytes (zo_hdc 12 _ _ rfl) rfl a4 (by decide) rfl (fun lsC hlC => ?_)
    refine lv_iconst (v := 1) B.exec B.bytes (zo_hdc 13 _ _ rfl) (by decide) ?_
    exact W.iret B.exec B.bytes B.returns (fun t9 ht9 hW9 => ⟨⟨_, _, rfl, ⟨hI, zb_W.rf⟩, by rw [← ht9] at b1; exact ⟨b1, b2.weaken (fun _ _ _ z => hsub _ z)⟩⟩, b3.F ht9⟩) b3.2.2 (zo_hdc 14 _ _ rfl) B.notSynchronized
  · rintro r u t H2 locs2 ht hvm rfl ⟨b1, b2⟩ hz hk b3
    rw [ht] at b1
    obtain ⟨n2, ls2, st2, h2, hx2, e4, e5, e6⟩ := zo_h2 hI i r
    subst e4
    refine zl_seg zp_ok zp_ok rfl zo_hok (R := zo_hroom) (cells := 0 + 1) (slots := 0 + 6) (ad := ad) (cA := cA) (A := va_A (zx_w ad cA _) s.heap.size) B.exec B.bytes hml hown hts hK hZ hZ (fun q hq => Or.inr hq) (by decide) (by decide) (by decide) (by decide) n2 7 _ _ _ _ _ _ hx2 H2 locs2 lsB b1 (b2.weaken (fun _ _ _ z => hsub _ z)) b3 a4 ?_
    intro H3 locs3 lsC c1 c2 c3 c4
    exact W.iret B.exec B.bytes B.returns (fun t9 ht9 hW9 => ⟨⟨_, _, rfl, ⟨e5, e6⟩, by rw [← ht9] at c1; exact ⟨c1, c2⟩⟩, c3.F ht9⟩) c3.2.2 (zo_hdc 16 _ _ rfl) B.notSynchronized
