/-! ===== 74: the law's entry ===== -/
def zn_cb (o idx : Nat) (z : Nat × Option String × Nat) : Bool := match z.2.1 with
  | none => true
  | some hst => (match (zq_ms[z.1]? : Option zx_M) with
    | some q => decide (lw_tbl[z.2.2]? = some (.methodLinkNest (zp_po o) idx (zx_my q) hst))
    | none => false)
set_option maxRecDepth 100000 in
theorem zn_ct : zp_all zn_cb 0 zq_ct = true := by decide +kernel
theorem zn_N {args : Array Value} {s : State} (hts : ∀ w ∈ lw_tbl, w.before args s = true) : zy_N zp_P zq_X s := by
  intro o idx j hst q e1 e2
  have e1 : (zp_lk zq_ct o idx).map (fun q => (q.1, q.2.1)) = some (j, some hst) := e1
  obtain ⟨⟨z1, z2, z3⟩, hz, e⟩ := Option.map_eq_some_iff.mp e1
  have h1 := zp_all_ok _ 0 zn_ct _ _ _ hz
  rw [Nat.zero_add] at h1
  cases e
  have e2 : zq_ms[z1]? = some q := e2
  unfold zn_cb at h1
  simp only [e2, decide_eq_true_eq] at h1
  exact va_Nw.of rfl (hts _ (List.mem_of_getElem? h1))
set_option maxRecDepth 100000 in
theorem zn_i0 : Cond.instantiable RX0 11 ∈ zp_G := List.mem_filter.mpr (by decide +kernel)
set_option maxRecDepth 100000 in
theorem zn_i1 : Cond.instantiable RX2 4 ∈ zp_G := List.mem_filter.mpr (by decide +kernel)
set_option maxRecDepth 100000 in
theorem zn_i2 : Cond.instantiable RX3 5 ∈ zp_G := List.mem_filter.mpr (by decide +kernel)
set_option maxRecDepth 100000 in
theorem zn_i3 : Cond.instantiable RX5 15 ∈ zp_G := List.mem_filter.mpr (by decide +kernel)
set_option maxRecDepth 100000 in
theorem zn_i4 : Cond.instantiable RX6 8 ∈ zp_G := List.mem_filter.mpr (by decide +kernel)
set_option maxRecDepth 100000 in
theorem zn_i5 : Cond.instantiable RX7 11 ∈ zp_G := List.mem_filter.mpr (by decide +kernel)
set_option maxRecDepth 100000 in
theorem zn_i6 : Cond.instantiable RX8 3 ∈ zp_G := List.mem_filter.mpr (by decide +kernel)
set_option maxRecDepth 100000 in
theorem zn_i7 : Cond.instantiable RX9 2 ∈ zp_G := List.mem_filter.mpr (by decide +kernel)
set_option maxRecDepth 100000 in
theorem zn_i8 : Cond.instantiable RX10 2 ∈ zp_G := List.mem_filter.mpr (by decide +kernel)
set_option maxRecDepth 100000 in
theorem zn_i9 : Cond.instantiable RX11 7 ∈ zp_G := List.mem_filter.mpr (by decide +kernel)
set_option maxRecDepth 100000 in
theorem zn_i10 : Cond.instantiable RX12 51 ∈ zp_G := List.mem_filter.mpr (by decide +kernel)
set_option maxRecDepth 100000 in
theorem zn_i11 : Cond.instantiable RJ0 4 ∈ zp_G := List.mem_filter.mpr (by decide +kernel)
set_option maxRecDepth 100000 in
theorem zn_i12 : Cond.instantiable RJx00060 6 ∈ zp_G := List.mem_filter.mpr (by decide +kernel)
theorem zn_kn {args : Array Value} {s : State} (hts : ∀ w ∈ zp_G, w.before args s = true) : ∀ k : Nat, ∃ (cC : ClassId) (iS : Nat → Nat), ∀ q : vw_C, zp_cl[k]? = some q → u_Kn s q.1 q.2.1 q.2.2 cC iS := by
  intro k
  by_cases hk : k < 13
  · rcases (show (k = 0 ∨ k = 1 ∨ k = 2 ∨ k = 3 ∨ k = 4 ∨ k = 5 ∨ k = 6 ∨ k = 7 ∨ k = 8 ∨ k = 9 ∨ k = 10 ∨ k = 11 ∨ k = 12) by omega) with rfl | rfl | rfl | rfl | rfl | rfl | rfl | rfl | rfl | rfl | rfl | rfl | rfl
    · obtain ⟨cC, iS, h⟩ := u_known (C := RX0) (T := TX0) (N := 11) (n := 11) hts zp_uX0 (hts _ zn_i0)
      exact ⟨cC, iS, fun q hq => by cases hq; exact h⟩
    · obtain ⟨cC, iS, h⟩ := u_known (C := RX2) (T := TX2) (N := 4) (n := 4) hts zp_uX2 (hts _ zn_i1)
      exact ⟨cC, iS, fun q hq => by cases hq; exact h⟩
    · obtain ⟨cC, iS, h⟩ := u_known (C := RX3) (T := TX3) (N := 5) (n := 5) hts zp_uX3 (hts _ zn_i2)
      exact ⟨cC, iS, fun q hq => by cases hq; exact h⟩
    · obtain ⟨cC, iS, h⟩ := u_known (C := RX5) (T := TX5) (N := 15) (n := 15) hts zp_uX5 (hts _ zn_i3)
      exact ⟨cC, iS, fun q hq => by cases hq; exact h⟩
    · obtain ⟨cC, iS, h⟩ := u_known (C := RX6) (T := TX6) (N := 8) (n := 8) hts zp_uX6 (hts _ zn_i4)
      exact ⟨cC, iS, fun q hq => by cases hq; exact h⟩
    · obtain ⟨cC, iS, h⟩ := u_known (C := RX7) (T := TX7) (N := 11) (n := 11) hts zp_uX7 (hts _ zn_i5)
      exact ⟨cC, iS, fun q hq => by cases hq; exact h⟩
    · obtain ⟨cC, iS, h⟩ := u_known (C := RX8) (T := TX8) (N := 3) (n := 3) hts zp_uX8 (hts _ zn_i6)
      exact ⟨cC, iS, fun q hq => by cases hq; exact h⟩
    · obtain ⟨cC, iS, h⟩ := u_known (C := RX9) (T := TX9) (N := 2) (n := 2) hts zp_uX9 (hts _ zn_i7)
      exact ⟨cC, iS, fun q hq => by cases hq; exact h⟩
    · obtain ⟨cC, iS, h⟩ := u_known (C := RX10) (T := TX10) (N := 2) (n := 2) hts zp_uX10 (hts _ zn_i8)
      exact ⟨cC, iS, fun q hq => by cases hq; exact h⟩
    · obtain ⟨cC, iS, h⟩ := u_known (C := RX11) (T := TX11) (N := 7) (n := 7) hts zp_uX11 (hts _ zn_i9)
      exact ⟨cC, iS, fun q hq => by cases hq; exact h⟩
    · obtain ⟨cC, iS, h⟩ := u_known (C := RX12) (T := TX12) (N := 51) (n := 51) hts zp_uX12 (hts _ zn_i10)
      exact ⟨cC, iS, fun q hq => by cases hq; exact h⟩
    · obtain ⟨cC, iS, h⟩ := u_known (C := RJ0) (T := TJ0) (N := 2) (n := 4) hts zp_uJ0 (hts _ zn_i11)
      exact ⟨cC, iS, fun q hq => by cases hq; exact h⟩
    · obtain ⟨cC, iS, h⟩ := u_known (C := RJx00060) (T := TJx00060) (N := 6) (n := 6) hts zp_uJx00060 (hts _ zn_i12)
      exact ⟨cC, iS, fun q hq => by cases hq; exact h⟩
  · exact ⟨0, fun _ => 0, fun q hq => absurd (List.getElem?_eq_some_iff.mp hq).1 (by show ¬ k < 13; exact hk)⟩
theorem zn_K {args : Array Value} {s : State} (hts : ∀ w ∈ zp_G, w.before args s = true) : ∃ (D : va_G) (cA : Nat → ClassId), va_K D zp_cl (zx_ty cA) s := by
  obtain ⟨c0, k0, p0, g1, g2, g3⟩ := Cond.arrayClass_spec (hts _ zq_ok.2.2.2.2.2.1.1)
  obtain ⟨c1, k1, p1, g4, g5, g6⟩ := Cond.arrayClass_spec (hts _ zq_ok.2.2.2.2.2.1.2.1)
  obtain ⟨c2, k2, p2, g7, g8, g9⟩ := Cond.arrayClass_spec (hts _ zq_ok.2.2.2.2.2.1.2.2)
  have hex := zn_kn hts
  refine ⟨(fun k => Classical.choose (hex k), fun k => Classical.choose (Classical.choose_spec (hex k))), fun t => if t = 0 then c0 else if t = 1 then c1 else c2, fun k q hq => Classical.choose_spec (Classical.choose_spec (hex k)) q hq, ?_⟩
  intro k q hq
  match k, hq with
  | 0, hq => cases hq; exact ⟨fun n z => ⟨fun k h => (by cases h), k0, g2, p0, g3⟩, g1⟩
  | 1, hq => cases hq; exact ⟨fun n z => ⟨fun k h => (by cases h), k1, g5, p1, g6⟩, g4⟩
  | 2, hq => cases hq; exact ⟨fun n z => ⟨fun k h => (by cases h), k2, g8, p2, g9⟩, g7⟩
  | k + 3, hq => simp [zx_ty] at hq
set_option maxRecDepth 100000 in
theorem zn_ts : ([Cond.laysStatic Bundle.tN "UNASSIGNED_STACK" Bundle.steD, Cond.laysStatic Bundle.tN "SUPPRESSED_SENTINEL" Bundle.listD, Cond.initialized Bundle.tN, Cond.stringRef "ClassFrames" 122 "no such byte was packed"]).all (fun w => decide (w ∈ lw_tbl)) = true := by decide +kernel
set_option maxRecDepth 100000 in
theorem zn_tr : ([Cond.isRef (.static Bundle.tN "UNASSIGNED_STACK" Bundle.steD), Cond.isRef (.static Bundle.tN "SUPPRESSED_SENTINEL" Bundle.listD), Cond.exactly (.string "ClassFrames" 122) "java/lang/String"]).all (fun w => decide (w ∈ flatC zt_C)) = true := by decide +kernel
theorem zn_S {args : Array Value} {s : State} {A : Nat → Prop} (hts : ∀ w ∈ lw_tbl, w.before args s = true) (hg : zt_C.before args s = true) (hA : ∀ q : Nat, q < s.heap.size → ¬ A q) : ∃ sa, zo_S A sa s s.heap := by
  have h1 : ∀ w ∈ [Cond.laysStatic Bundle.tN "UNASSIGNED_STACK" Bundle.steD, Cond.laysStatic Bundle.tN "SUPPRESSED_SENTINEL" Bundle.listD, Cond.initialized Bundle.tN, Cond.stringRef "ClassFrames" 122 "no such byte was packed"], w.before args s = true := fun w hw => hts w (of_decide_eq_true (List.all_eq_true.mp zn_ts w hw))
  have h2 : ∀ w ∈ [Cond.isRef (.static Bundle.tN "UNASSIGNED_STACK" Bundle.steD), Cond.isRef (.static Bundle.tN "SUPPRESSED_SENTINEL" Bundle.listD), Cond.exactly (.string "ClassFrames" 122) "java/lang/String"], w.before args s = true := fun w hw => flat_of_before zt_C hg w (of_decide_eq_true (List.all_eq_true.mp zn_tr w hw))
  have hB : ∀ w ∈ zo_B, w.before args s = true := fun w hw => by
    have h3 := List.all_eq_true.mp zo_b w hw
    rw [Bool.and_eq_true, decide_eq_true_eq] at h3
    exact hts w h3.2
  obtain ⟨a, c, cell, k, e1, -⟩ := Cond.exactly_spec (h2 _ (List.mem_cons_of_mem _ (List.mem_cons_of_mem _ List.mem_cons_self)))
  refine ⟨a, vx_Zqof (h1 _ List.mem_cons_self) (h1 _ (List.mem_cons_of_mem _ (List.mem_cons_of_mem _ List.mem_cons_self))) (h2 _ List.mem_cons_self) hA, vx_Zqof (h1 _ (List.mem_cons_of_mem _ List.mem_cons_self)) (h1 _ (List.mem_cons_of_mem _ (List.mem_cons_of_mem _ List.mem_cons_self))) (h2 _ (List.mem_cons_of_mem _ List.mem_cons_self)) hA, vk_R.of (h1 _ (List.mem_cons_of_mem _ (List.mem_cons_of_mem _ (List.mem_cons_of_mem _ List.mem_cons_self)))) e1, zo_Bm (Vm.Alike.refl _) hB⟩
theorem zn_a0 (i : Int) : zv_a zq_h0 45 i = 0 ∧ zv_a zq_h0 51 i = 0 ∧ zv_a zq_h0 55 i = 0 := ⟨rfl, rfl, rfl⟩
theorem zn_0 : zn_L zq_h0 :=
  ⟨⟨zq_I, fun q _ _ h => by rw [(zn_a0 q).1] at h; omega, fun t _ _ h => by rw [(zn_a0 t).2.1] at h; omega, fun q _ _ h => by rw [(zn_a0 _).2.2] at h; omega, fun h => by rw [show zv_i zq_h0 13 = 0 from rfl] at h; omega, by rw [show zv_i zq_h0 41 = 0 from rfl]; omega⟩, rfl, rfl, rfl, fun j _ => rfl⟩
theorem zn_X0 : zn_X zq_h0 := by
  have z1 : zv_i zq_h0 1 = 0 := rfl
  have z5 : zv_i zq_h0 5 = 0 := rfl
  have z10 : zv_i zq_h0 10 = 0 := rfl
  have e0 : ∀ j, 0 ≤ j → zs_row (zr_Pg zq_h0) j = 0 := fun j j0 => by
    show (if j < zv_i zq_h0 10 then zv_a zq_h0 52 j else 0) = 0
    rw [if_neg (by omega)]
  refine ⟨zn_X_eq zn_0.2 (fun _ _ => rfl) (fun _ _ => rfl) (fun _ _ => rfl) (fun _ _ => rfl) (fun _ _ => rfl) (fun _ _ => rfl) (fun _ _ => rfl) (fun _ _ => rfl), ⟨fun p p0 p1 => ?_, fun t t0 t1 => ?_, fun j j0 j1 => ⟨fun z => by have := e0 j j0; omega, fun z => by have := e0 j j0; omega⟩, fun j j0 j1 => by have := e0 j j0; omega⟩, rfl, rfl, fun z => absurd z (by rw [show zv_i zq_h0 13 = 0 from rfl]; decide)⟩
  · have p9 : p < zv_i zq_h0 1 := p1
    omega
  · have t9 : t < zv_i zq_h0 5 := t1
    omega
theorem zn_00 : zn_U zq_h0 := ⟨⟨⟨zn_0, zn_X0⟩, fun z => absurd z (by rw [show zv_i zq_h0 13 = 0 from rfl]; decide)⟩, rfl, fun j j0 j1 => absurd j1 (by rw [show zv_i zq_h0 30 = 0 from rfl]; omega)⟩
set_option maxRecDepth 100000 in
theorem zn_wf : zq_h0.all (zy_wfc zq_h0.length) = true ∧ zq_h1.all (zy_wfc zq_h1.length) = true ∧ (zq_h1 ++ zq_h2).all (zy_wfc (zq_h1 ++ zq_h2).length) = true := ⟨by decide +kernel, by decide +kernel, by decide +kernel⟩
/-- the heaps behind the constructors, as names alone -/
theorem zn_hs : ∃ g1 g2 g0 : zx_H, zy_x zp_P zq_X 400 6 zq_m9 0 (lv_args 0 [.ref 0]) [] [.inr (9, zq_pd 9)] 0 0 = some (g1, 43, 8581) ∧ zy_x zp_P zq_X 400 6 zq_m10 0 (lv_args 0 [.ref 44]) [] (g1 ++ [.inr (10, zq_pd 10)]) 0 0 = some (g1 ++ g2, 28, 14726) ∧ g1.length = 44 ∧ (g1 ++ g2).length = 73 ∧ g0.length = 74 ∧ g1.all (zy_wfc g1.length) = true ∧ (g1 ++ g2).all (zy_wfc (g1 ++ g2).length) = true ∧ g0.all (zy_wfc g0.length) = true ∧ (g1 ++ g2) ++ [.inl (1, 1, .inr (.inl (fun _ => 0)))] = g0 ∧ zn_U g0 :=
  ⟨zq_h1, zq_h2, zq_h0, zq_run1, zq_run2, by decide +kernel, by decide +kernel, by decide +kernel, zn_wf.2.1, zn_wf.2.2, zn_wf.1, List.append_assoc _ _ _, zn_00⟩
set_option maxHeartbeats 20000000 in
set_option maxRecDepth 100000 in
theorem whole_start {p : Program} {e : Env} {s : State} {m : MethodId} {below : List Frame} {meth : Method} {c : Code} (l : Launch) (htr : l.stackTraces = false) {b L : Nat} {xs : Nat → Int32} (hL : L ≤ 2560) (C0 : lw_At p s m meth c b L xs) : W p l e room_1 s m #[Value.ref b] below meth c s.heap [] 0 0 (lw_Z below #[Value.ref b] s) (entryFrame m ([Value.ref b] : List Value).toArray 7) := by
  obtain ⟨hx, hb, hr, hml, hown, hts9, hX, hbl, hlocks, hgv⟩ := id C0
  have hts : ∀ w ∈ zp_G, w.before #[Value.ref b] s = true := fun w hw => hts9 w (List.mem_filter.mp hw).1
  have hA : ∀ q : Nat, s.heap.size ≤ q → (fun q : Nat => s.heap.size ≤ q) q := fun _ h => h
  have hnA : ∀ q : Nat, q < s.heap.size → ¬ (fun q : Nat => s.heap.size ≤ q) q := fun q h => Nat.not_le.mpr h
  obtain ⟨D, cA, hK⟩ := zn_K hts
  have hNn := zn_N hts9
  obtain ⟨t0, T0, Z0⟩ := zt_one zt_b0 hts9 hgv hnA
  obtain ⟨t1, T1, Z1⟩ := zt_one zt_b1 hts9 hgv hnA
  obtain ⟨sa, hSS⟩ := zn_S hts9 hgv hnA
  have hS : va_S (fun q : Nat => s.heap.size ≤ q) s.heap s.heap [] := va_S.rf
  have hP : va_P D zp_cl [] s.heap := fun k q h => by simp at h
  have hD : va_D (fun q : Nat => s.heap.size ≤ q) [] := ⟨fun i j p q h => by simp at h, fun k q h => by simp at h⟩
  have hl := lv_entry ([.ref b]) (n := 7) (Nat.le_of_ble_eq_true rfl)
  rw [lg_entry_eq]
  generalize (lg_sl ([.ref b]) ++ List.replicate (7 - (lg_sl ([.ref b])).length) Slot.unset).toArray = ls at hl ⊢
  have hl : lv_has ls 7 [(0, .ref b)] := hl
  obtain ⟨g1, g2, g00, run1, run2, ln1, ln2, ln0, wf1, wf2, wf0, hh0, hN0⟩ := zn_hs
  have ho15 : s.vm.findClass (zx_po zp_P 15) = some m.cls := hown
  -- new ClassFrames
  obtain ⟨C, T, N, ty0, f1, f2, f3, f4, f5, f6, f7, f8⟩ := zq_ok.2.2.1 15 8 9 rfl
  have f7 : 7 = N := f7
  subst f7
  refine va_new (ci := 9) (fs := zy_pd zq_X 9) (C := C) (T := T) (N := 7) hx hb hts f5 ty0 f6 ho15 (hts _ f2) (hts _ f3) (hts _ f4) hK hP hD hS hA f1 f8 (by decide) (by decide) (zn_dl 0 _ _ zl_a0) (fun q0 H hP hD hS => ?_)
  refine lv_dup hx hb (zn_dl 3 _ _ zl_a3) rfl ?_
  have w0 : zx_w (fun i => if i = 0 then q0 else 0) cA [.inr (9, zq_pd 9)] = [(q0, .inr (9, zq_pd 9))] := rfl
  have hP : va_P D zp_cl (zx_w (fun i => if i = 0 then q0 else 0) cA [.inr (9, zq_pd 9)]) H := by rw [w0]; exact hP
  have hD : va_D (fun q : Nat => s.heap.size ≤ q) (zx_w (fun i => if i = 0 then q0 else 0) cA [.inr (9, zq_pd 9)]) := by rw [w0]; exact hD
  generalize had : (fun i : Nat => if i = 0 then q0 else 0) = ad1 at hP hD
  have e10 : ad1 0 = q0 := by rw [← had]; rfl
  obtain ⟨y1, y2, y3, y4, y5, y6, y7, y8, y9⟩ := zq_ok.2.1 9 zq_m9 rfl
  rw [← e10]
  refine zy_call (va_runI (b := ad1 0) (As := []) (rest := [.ref (ad1 0)]) (nL := 7) ⟨hx, hb, hml, ho15, hts⟩ (zy_met_of (as := [.ref 0]) (zy_sim_all zq_ok 400) (zq_ok.2.1 9 zq_m9 rfl) (Nat.le_of_ble_eq_true rfl) run1 l D ad1 cA H.size) ⟨callB_of 0 hts (zx_good zp_ok y5) rfl rfl rfl (hts _ y6) (hts _ (zq_ok.2.2.2.1 15 15 9 zq_m9 rfl rfl)) ⟨y2.1, y2.2, y3⟩ ⟨by decide, by decide⟩, y8, hts _ y7⟩
    ⟨zy_blind zp_P zq_X D zp_cl ad1 cA [.inr (9, zq_pd 9)] H.size _, fun U hU hW => ⟨rfl, by rw [hU], by rw [hU]; exact hP, va_K.moved hW.alike hK, hD.weaken (fun _ _ _ _ => trivial), zy_N.warm hW hNn⟩⟩ rfl rfl hl.1 rfl (lv_room (Nat.le_of_ble_eq_true rfl)) (zn_dl 4 _ _ zl_a4) ⟨by decide, by decide⟩) hS (zx_sub hD hS hA) (fun ad2 H locs hx2 hP hD hS => ?_)
  refine lv_astore_n (i := 1) (nL := 7) (lv' := [(1, .ref (ad1 0)), (0, .ref b)]) hx hb (zn_dl 7 _ _ zl_a7) rfl hl (by decide) rfl (fun ls hl => ?_)
  -- new ClassFramesModel
  obtain ⟨C, T, N, ty0, f1, f2, f3, f4, f5, f6, f7, f8⟩ := zq_ok.2.2.1 15 16 10 rfl
  have f7 : 51 = N := f7
  subst f7
  refine va_new (ci := 10) (fs := zy_pd zq_X 10) (C := C) (T := T) (N := 51) hx hb hts f5 ty0 f6 ho15 (hts _ f2) (hts _ f3) (hts _ f4) hK hP hD hS hA f1 f8 (by decide) (by decide) (zn_dl 8 _ _ zl_a8) (fun q1 H hP hD hS => ?_)
  refine lv_dup hx hb (zn_dl 11 _ _ zl_a11) rfl ?_
  have w1 : zx_w (zy_up ad2 g1.length q1) cA (g1 ++ [.inr (10, zq_pd 10)]) = zx_w ad2 cA g1 ++ [(q1, .inr (10, zq_pd 10))] := by
    rw [zy_w_app wf1]
    rfl
  have hP : va_P D zp_cl (zx_w (zy_up ad2 g1.length q1) cA (g1 ++ [.inr (10, zq_pd 10)])) H := by rw [w1]; exact hP
  have hD : va_D (fun q : Nat => s.heap.size ≤ q) (zx_w (zy_up ad2 g1.length q1) cA (g1 ++ [.inr (10, zq_pd 10)])) := by rw [w1]; exact hD
  have e30 : zy_up ad2 g1.length q1 0 = ad1 0 := (zy_up_ex ad2 g1.length q1 0 (by rw [ln1]; decide)).trans (hx2 0 (by decide))
  have e344 : zy_up ad2 g1.length q1 44 = q1 := by unfold zy_up; exact if_pos ln1.symm
  generalize zy_up ad2 g1.length q1 = ad3 at hP hD e30 e344
  obtain ⟨y1, y2, y3, y4, y5, y6, y7, y8, y9⟩ := zq_ok.2.1 10 zq_m10 rfl
  rw [← e344]
  refine zy_call (va_runI (b := ad3 44) (As := []) (rest := [.ref (ad3 44)]) (nL := 7) ⟨hx, hb, hml, ho15, hts⟩ (zy_met_of (as := [.ref 44]) (zy_sim_all zq_ok 400) (zq_ok.2.1 10 zq_m10 rfl) (Nat.le_of_ble_eq_true rfl) run2 l D ad3 cA H.size) ⟨callB_of 0 hts (zx_good zp_ok y5) rfl rfl rfl (hts _ y6) (hts _ (zq_ok.2.2.2.1 15 18 10 zq_m10 rfl rfl)) ⟨y2.1, y2.2, y3⟩ ⟨by decide, by decide⟩, y8, hts _ y7⟩
    ⟨zy_blind zp_P zq_X D zp_cl ad3 cA (g1 ++ [.inr (10, zq_pd 10)]) H.size _, fun U hU hW => ⟨rfl, by rw [hU], by rw [hU]; exact hP, va_K.moved hW.alike hK, hD.weaken (fun _ _ _ _ => trivial), zy_N.warm hW hNn⟩⟩ rfl rfl hl.1 rfl (lv_room (Nat.le_of_ble_eq_true rfl)) (zn_dl 12 _ _ zl_a12) ⟨by decide, by decide⟩) hS (zx_sub hD hS hA) (fun ad4 H locs hx4 hP hD hS => ?_)
  refine lv_astore_n (i := 2) (nL := 7) (lv' := [(2, .ref (ad3 44)), (1, .ref (ad1 0)), (0, .ref b)]) hx hb (zn_dl 15 _ _ zl_a15) rfl hl (by decide) rfl (fun ls hl => ?_)
  refine lv_iconst (v := 1) hx hb (zn_dl 16 _ _ zl_a16) (by decide) ?_
  refine va_newa (atype := .long) hx hb (hts _ zq_ok.2.2.2.2.2.1.2.1) rfl hK hP hD hS hA (a0 := (1, .inr (.inl (fun _ => 0)))) (N' := 1) (fun _ => rfl) (by decide) (by decide) (by decide) (by decide) (by decide) (zn_dl 17 _ _ zl_a17) (fun q2 cB H k1 hP hD hS => ?_)
  have hcB := zy_cA 1 hK rfl (Or.inr (Or.inl rfl)) k1
  subst hcB
  refine lv_astore_n (i := 3) (nL := 7) (lv' := [(3, .ref q2), (2, .ref (ad3 44)), (1, .ref (ad1 0)), (0, .ref b)]) hx hb (zn_dl 19 _ _ zl_a19) rfl hl (by decide) rfl (fun ls hl => ?_)
  refine lv_iconst (v := 0) hx hb (zn_dl 20 _ _ zl_a20) (by decide) ?_
  refine lv_istore (lv' := [(4, .int 0), (3, .ref q2), (2, .ref (ad3 44)), (1, .ref (ad1 0)), (0, .ref b)]) hx hb (zn_dl 21 _ _ zl_a21) hl (by decide) rfl (fun ls hl => ?_)
  -- the map, with the static rows and the script
  have w2 : zx_w (zy_up ad4 (g1 ++ g2).length q2) cA ((g1 ++ g2) ++ [.inl (1, 1, .inr (.inl (fun _ => 0)))]) = zx_w ad4 cA (g1 ++ g2) ++ [(q2, .inl (cA 1, 1, .inr (.inl (fun _ => 0))))] := zy_w_app wf2
  rw [hh0] at w2
  have g0 : zy_up ad4 (g1 ++ g2).length q2 0 = ad1 0 := (zy_up_ex ad4 (g1 ++ g2).length q2 0 (by rw [ln2]; decide)).trans ((hx4 0 (by rw [List.length_append, ln1]; decide)).trans e30)
  have g44 : zy_up ad4 (g1 ++ g2).length q2 44 = ad3 44 := (zy_up_ex ad4 (g1 ++ g2).length q2 44 (by rw [ln2]; decide)).trans (hx4 44 (by rw [List.length_append, ln1]; decide))
  have g73 : zy_up ad4 (g1 ++ g2).length q2 73 = q2 := by unfold zy_up; exact if_pos ln2.symm
  generalize zy_up ad4 (g1 ++ g2).length q2 = ad5 at w2 g0 g44 g73
  have hP : va_P D zp_cl (zx_w ad5 cA g00) H := by rw [w2]; exact hP
  have hD : va_D (fun q : Nat => s.heap.size ≤ q) (zx_w ad5 cA g00) := by rw [w2]; exact hD
  have hex : zy_ex ad5 (fun i => if i < 74 then ad5 i else if i = 1000000 then t0 else if i = 1000001 then t1 else b) g00.length := fun i hi => if_pos (by rw [ln0] at hi; exact hi)
  have w3 := zy_w (cA := cA) hex wf0
  rw [← w3] at hP hD
  have g0' : (fun i => if i < 74 then ad5 i else if i = 1000000 then t0 else if i = 1000001 then t1 else b) 0 = ad1 0 := g0
  have g44' : (fun i => if i < 74 then ad5 i else if i = 1000000 then t0 else if i = 1000001 then t1 else b) 44 = ad3 44 := g44
  have g73' : (fun i => if i < 74 then ad5 i else if i = 1000000 then t0 else if i = 1000001 then t1 else b) 73 = q2 := g73
  have gt0 : (fun i => if i < 74 then ad5 i else if i = 1000000 then t0 else if i = 1000001 then t1 else b) 1000000 = t0 := rfl
  have gt1 : (fun i => if i < 74 then ad5 i else if i = 1000000 then t0 else if i = 1000001 then t1 else b) 1000001 = t1 := rfl
  have gb : (fun i => if i < 74 then ad5 i else if i = 1000000 then t0 else if i = 1000001 then t1 else b) 2000000 = b := rfl
  generalize (fun i : Nat => if i < 74 then ad5 i else if i = 1000000 then t0 else if i = 1000001 then t1 else b) = ad at hP hD g0' g44' g73' gt0 gt1 gb
  have hZ : zx_Z zp_P zp_G ad (fun q : Nat => s.heap.size ≤ q) s s.heap := zt_Zp (by rw [gt0]; exact T0) (by rw [gt1]; exact T1) (by rw [gt0]; exact Z0) (by rw [gt1]; exact Z1)
  have hZ2 : zx_Z (zl_P L xs) zp_G ad (fun q : Nat => s.heap.size ≤ q) s s.heap := zt_Zl hZ (by rw [gb]; exact zt_X hX (Nat.not_le.mpr hbl))
  have hl9 : lv_has ls 7 (zx_lm ad [(4, .int (nI (0))), (0, .ref 2000000), (1, .ref 0), (2, .ref 44), (3, .ref 73)]) := by
    show lv_has ls 7 [(4, .int (nI 0)), (0, .ref (ad 2000000)), (1, .ref (ad 0)), (2, .ref (ad 44)), (3, .ref (ad 73))]
    rw [gb, g0', g44', g73', nI_0]
    exact lv_sub hl [0, 4, 3, 2, 1] rfl
  exact zn_loop l htr hL C0 hK hZ hZ2 hSS (L + 1) 0 _ _ g00 H _ ls (by omega) (Nat.zero_le _) (by show 0 + 1 + 43 + 1 + 28 + 1 + (L - 0) ≤ 603072; omega) (by show 0 + 7 + 8581 + 51 + 14726 + 1 + 6 * (L - 0) ≤ 7211114; omega) hN0 hP hD hS hl9
