/-! ===== 05: a run of the interpreter is a contract of the machine ===== -/
def zx_room (d : Nat) : Room := { frames := d, cells := 0, slots := 0, locals := 40 * d }
def zx_Q (D : va_G) (cl : List vw_C) (ad : Nat → Nat) (cA : Nat → ClassId) (A : Nat → Prop) (r : Option Value) (h' : zx_H) : Array Value → State → Outcome → State → Prop := fun _ st oc t =>
  oc = .returned (r.map (zx_v ad)) ∧ va_P D cl (zx_w ad cA h') t.heap ∧ va_D A (zx_w ad cA h') ∧ va_F A st t
def zx_pre (P : zx_P) (G : List Cond) (D : va_G) (cl : List vw_C) (ad : Nat → Nat) (cA : Nat → ClassId) (h : zx_H) (sz : Nat) : State → Prop := fun U =>
  U.heap.size = sz ∧ va_P D cl (zx_w ad cA h) U.heap ∧ va_K D cl (zx_ty cA) U ∧ va_D (fun _ => True) (zx_w ad cA h) ∧ zx_Z P G ad (va_A (zx_w ad cA h) sz) U U.heap
def zx_sim (P : zx_P) (G : List Cond) (cl : List vw_C) (n : Nat) : Prop :=
  ∀ (d : Nat) (q : zx_M) (pc : Nat) (ls : zx_L) (st : List Value) (h : zx_H) (r : Option Value) (h' : zx_H), zx_mok P G cl q → zx_x P n d q pc ls st h = some (r, h') →
  ∀ (p : Program) (l : Launch) (e : Env) (s : State) (m : MethodId) (args : Array Value) (below : List Frame) (meth : Method) (c : Code) (H : Heap) (locs : List Loc) (D : va_G) (ad : Nat → Nat) (cA : Nat → ClassId) (A : Nat → Prop) (lsA : Array Slot),
  p.tables.exec = Jvm.exec → c.code = zx_mb q → c.maxLocals = zx_ml q → meth.sig.returnType = zx_mr q → meth.locks = false → s.vm.findClass (zx_my q).cls = some m.cls → (∀ w ∈ G, w.before args s = true) → va_K D cl (zx_ty cA) s → zx_Z P G ad A s s.heap → (∀ q : Nat, s.heap.size ≤ q → A q) →
  va_P D cl (zx_w ad cA h) H → va_D A (zx_w ad cA h) → va_S A s.heap H locs → lv_has lsA (zx_ml q) (zx_lm ad ls) →
  W p l e (zx_room d) s m args below meth c H locs 0 0 (MQ below (zx_Q D cl ad cA A r h') args s 0 0 A) (F0 m pc lsA (st.map (zx_v ad)))
theorem zx_blind (P : zx_P) (G : List Cond) (D : va_G) (cl : List vw_C) (ad : Nat → Nat) (cA : Nat → ClassId) (h : zx_H) (sz : Nat) (av : List Value) : FrameBlind (va_Pc av (zx_pre P G D cl ad cA h sz)) := by
  intro a U g mk q
  obtain ⟨q0, q1, qP, qK, qD, qZ⟩ := q
  exact ⟨q0, q1, qP, va_K.moved (u := U) (U := U.calling g mk a) (Vm.Alike.refl U.vm) qK, qD, zx_Z.moved (u := U) (U := U.calling g mk a) (Vm.Alike.refl U.vm) qZ⟩
theorem zx_met_of {P : zx_P} {G : List Cond} {cl : List vw_C} {n : Nat} (hn : zx_sim P G cl n) {d : Nat} {q : zx_M} {as : List Value} {h : zx_H} {r : Option Value} {h' : zx_H} (hq : zx_mok P G cl q) (hl : (lg_sl as).length ≤ zx_ml q) (hx : zx_x P n d q 0 (lv_args 0 as) [] h = some (r, h')) (l : Launch) (D : va_G) (ad : Nat → Nat) (cA : Nat → ClassId) (sz : Nat) :
    Met l (zx_my q) (Cond.code (zx_my q) (zx_mb q) (zx_ml q) (zx_mr q) :: G) (zx_room d) (va_Pc (as.map (zx_v ad)) (zx_pre P G D cl ad cA h sz)) (zx_Q D cl ad cA (va_A (zx_w ad cA h) sz) r h') 0 0 (va_A (zx_w ad cA h) sz) := by
  refine Met.ofW (cc := zx_mb q) (maxL := zx_ml q) (ret := zx_mr q) hq.1 rfl ?_
  intro p e s m args below meth c s₁ B hml hv
  obtain ⟨rfl, hsz, hP, hK, hD, hZ⟩ := hv
  have hts := atoms_spec (ws := Cond.code (zx_my q) (zx_mb q) (zx_ml q) (zx_mr q) :: G) B.pre
  subst hsz
  rw [lg_entry_eq]
  have hl9 := lv_entry (as.map (zx_v ad)) (n := zx_ml q) (by rw [zx_sl_len]; exact hl)
  rw [zx_lm_args] at hl9
  exact hn d q 0 _ [] h r h' hq hx p l e s m _ below meth c s.heap [] D ad cA _ _ B.exec B.bytes hml B.returns B.notSynchronized (findClass_of_methodNamed B.named) (fun w hw => hts w (List.mem_cons_of_mem _ hw)) hK hZ (fun q h => Or.inr h) hP hD.self va_S.rf hl9
section ZXC
variable {p : Program} {l : Launch} {e : Env} {R : Room} {s : State} {m : MethodId} {args : Array Value} {below : List Frame} {meth : Method} {c : Code} {H : Heap} {locs : List Loc} {cells slots : Nat} {Q : State → Prop}
variable {cc : ByteArray} {pc : Nat} {lsA : Array Slot} {ad : Nat → Nat} {cA : Nat → ClassId} {D : va_G} {cl : List vw_C} {A A1 : Nat → Prop} {P : zx_P} {G : List Cond}
theorem zx_call {r : Option Value} {h' : zx_H} {a : Array Value} {st0 rest : List Value} (hr : va_Run p l e R s m args below meth c H locs cells slots 0 0 (F0 m pc lsA st0) (rest.map (zx_v ad)) (zx_Q D cl ad cA A1 r h' a) A1) (hS : va_S A s.heap H locs) (hA : ∀ q, A1 q → A q)
    (kk : ∀ (H1 : Heap) (locs1 : List Loc), va_P D cl (zx_w ad cA h') H1 → va_D A (zx_w ad cA h') → va_S A s.heap H1 locs1 → W p l e R s m args below meth c H1 locs1 cells slots Q (F0 m (pc + 3) lsA ((r.toList ++ rest).map (zx_v ad)))) : W p l e R s m args below meth c H locs cells slots Q (F0 m pc lsA st0) := by
  intro T hT X
  obtain ⟨v, st₀, t, T', L, h0, X', hL, e1, e2, ⟨hv, hp, hdd, hz, hk⟩, st⟩ := hr T hT X
  have hv' : v = r.map (zx_v ad) := by cases hv; rfl
  subst hv'
  rw [h0] at hz hk
  have e3 : (r.map (zx_v ad)).toList ++ rest.map (zx_v ad) = (r.toList ++ rest).map (zx_v ad) := by cases r <;> simp
  rw [e3] at st
  obtain ⟨t2, a1, b1⟩ := kk T'.heap (locs ++ L) (by rw [e1]; exact hp) (hdd.weaken (fun _ _ _ z => hA _ z))
    ⟨Nat.le_trans hS.1 (by rw [e1]; exact hz), fun q h1 h2 => by rw [e1, hk q (Nat.lt_of_lt_of_le h1 hS.1) (fun z => h2 (hA q z))]; exact hS.2.1 q h1 h2, fun q hq => by
      rcases List.mem_append.mp hq with h | h
      · exact hS.2.2 q h
      · exact hA _ (hL q h)⟩ T' rfl X'
  exact ⟨t2, st t2 a1, b1⟩
theorem zx_sub {h : zx_H} (hD : va_D A (zx_w ad cA h)) (hS : va_S A s.heap H locs) (hA : ∀ q : Nat, s.heap.size ≤ q → A q) : ∀ q, va_A (zx_w ad cA h) H.size q → A q := by
  intro q hq
  rcases hq with ⟨k, e9, hk⟩ | hq
  · exact hD.2 k _ hk
  · exact hA q (Nat.le_trans hS.1 hq)
theorem zx_preU {h : zx_H} (hK : va_K D cl (zx_ty cA) s) (hZ : zx_Z P G ad A s s.heap) (hA : ∀ q : Nat, s.heap.size ≤ q → A q) (hP : va_P D cl (zx_w ad cA h) H) (hD : va_D A (zx_w ad cA h)) (hS : va_S A s.heap H locs) (U : State) (hU : U.heap = H) (hW : s.WarmedH U.vm) : zx_pre P G D cl ad cA h H.size U := by
  refine ⟨by rw [hU], by rw [hU]; exact hP, va_K.moved hW.alike hK, hD.weaken (fun _ _ _ _ => trivial), ?_⟩
  rw [hU]
  exact ((hZ.kept (fun a h1 h2 => hS.2.1 a h1 h2)).narrow (zx_sub hD hS hA)).moved hW.alike
theorem zx_good (ok : zx_ok P G cl) {w : Cond} (hw : w ∈ G) : GoodIn G (w :: G) := by
  intro z hz
  rcases List.mem_cons.mp hz with rfl | hz
  · exact ⟨hw, ok.1 _ hw⟩
  · exact ⟨hz, ok.1 _ hz⟩
end ZXC
set_option maxHeartbeats 4000000 in
theorem zx_sim_all {P : zx_P} {G : List Cond} {cl : List vw_C} (ok : zx_ok P G cl) : ∀ n : Nat, zx_sim P G cl n := by
  intro n
  induction n with
  | zero => intro d q pc ls st h r h' hq hx; simp [zx_x] at hx
  | succ n ih =>
    intro d q pc ls st h r h' hq hx p l e s m args below meth c H locs D ad cA A lsA xe xb xm xr xl xo hts hK hZ hA hP hD hS hl
    rw [zx_x] at hx
    have hown : s.vm.findClass (zx_po P (zx_mo q)) = some m.cls := by rw [hq.2.2.2.1]; exact xo
    split at hx
    · cases hx
    · next i len hat =>
      have hd : decode (zx_mb q) pc = .ok (i, len) := hq.2.2.2.2.2.2.2 (pc, (i, len)) (zx_at_mem hat)
      split at hx
      · next k st' hs =>
        split at hx
        · next hk => subst hk; exact zx_s_W xe xb hs hd (ih d q _ ls st' h r h' hq hx p l e s m args below meth c H locs D ad cA A lsA xe xb xm xr xl xo hts hK hZ hA hP hD hS hl)
        · cases hx
      · split at hx
        · next k v hs =>
          split at hx
          · next hk => subst hk; exact zx_l_W xe xb hs hd hl (ih d q _ ls (v :: st) h r h' hq hx p l e s m args below meth c H locs D ad cA A lsA xe xb xm xr xl xo hts hK hZ hA hP hD hS hl)
          · cases hx
        · split at hx
          · next k ls' st' hs =>
            split at hx
            · next hk => subst hk; exact zx_t_W xe xb hs hd hl (fun lsB hlB => ih d q _ ls' st' h r h' hq hx p l e s m args below meth c H locs D ad cA A lsB xe xb xm xr xl xo hts hK hZ hA hP hD hS hlB)
            · cases hx
          · split at hx
            · next pc' st' hs => exact zx_j_W xe xb hs hd (ih d q pc' ls st' h r h' hq hx p l e s m args below meth c H locs D ad cA A lsA xe xb xm xr xl xo hts hK hZ hA hP hD hS hl)
            · split at hx
              · next k st' h1 hs =>
                split at hx
                · next hk => subst hk; exact zx_g_W ok xe xb hts hown hK hZ hP hD hS hs hd (fun H1 locs1 a1 a2 a3 => ih d q _ ls st' h1 r h' hq hx p l e s m args below meth c H1 locs1 D ad cA A lsA xe xb xm xr xl xo hts hK hZ hA a1 a2 a3 hl)
                · cases hx
              · split at hx
                · next r9 hr9 =>
                  cases hx
                  generalize hret : zx_mr q = ret9 at hr9
                  unfold zx_r at hr9
                  split at hr9
                  · next v ty =>
                    split at hr9
                    · next hk =>
                      obtain ⟨hk, hn⟩ := hk
                      subst hk
                      cases hr9
                      exact W.zret xe xb (xr.trans hret) hn (fun t ht hW => ⟨rfl, by rw [ht]; exact hP, hD, hS.F ht⟩) hS.2.2 hd xl
                    · cases hr9
                  · next v =>
                    split at hr9
                    · next hk =>
                      subst hk
                      cases hr9
                      exact W.lret xe xb (xr.trans hret) (fun t ht hW => ⟨rfl, by rw [ht]; exact hP, hD, hS.F ht⟩) hS.2.2 hd xl
                    · cases hr9
                  · skip
                    split at hr9
                    · next hk =>
                      subst hk
                      cases hr9
                      exact W.vret xe xb (xr.trans hret) (fun t ht hW => ⟨rfl, by rw [ht]; exact hP, hD, hS.F ht⟩) hS.2.2 hd xl
                    · cases hr9
                  · cases hr9
                · split at hx
                  · next st9 hn9 =>
                    split at hx
                    · cases hx
                    · next d' =>
                      unfold zx_n at hn9
                      split at hn9
                      · next idx y x r9 =>
                        split at hn9
                        · next hc9 =>
                          obtain ⟨c1, c2, c3⟩ := hc9
                          subst c2
                          cases hn9
                          obtain ⟨z1, z2, z3, z4⟩ := ok.2.2.2.2.2 _ _ c1
                          exact va_mmin xe xb (xm.trans hl.1.symm) hown (hts _ z1) (hts _ z2) (hts _ z3) (hts _ z4) (Nat.le_add_left 1 d') (by rw [zx_cat_sum]; show _ ≤ 40 * (d' + 1); omega) (Nat.le_refl _) (Nat.le_refl _) hd (ih (d' + 1) q (pc + 3) ls _ h r h' hq hx p l e s m args below meth c H locs D ad cA A lsA xe xb xm xr xl xo hts hK hZ hA hP hD hS hl)
                        · cases hn9
                      · cases hn9
                  · split at hx
                    · next cj as rest hk9 =>
                      split at hx
                      · cases hx
                      · next d' =>
                        split at hx
                        · cases hx
                        · next q' hq' =>
                          split at hx
                          · cases hx
                          · next r1 h1 hx1 =>
                            have hm' : zx_mok P G cl q' := ok.2.1 _ _ hq'
                            have kk : ∀ (H1 : Heap) (locs1 : List Loc), va_P D cl (zx_w ad cA h1) H1 → va_D A (zx_w ad cA h1) → va_S A s.heap H1 locs1 → W p l e (zx_room (d' + 1)) s m args below meth c H1 locs1 0 0 (MQ below (zx_Q D cl ad cA A r h') args s 0 0 A) (F0 m (pc + 3) lsA ((r1.toList ++ rest).map (zx_v ad))) := fun H1 locs1 a1 a2 a3 =>
                              ih (d' + 1) q (pc + 3) ls (r1.toList ++ rest) h1 r h' hq hx p l e s m args below meth c H1 locs1 D ad cA A lsA xe xb xm xr xl xo hts hK hZ hA a1 a2 a3 hl
                            obtain ⟨y1, y2, y3, y4, y5, y6, y7, y8⟩ := hm'
                            unfold zx_k at hk9
                            split at hk9
                            · next idx =>
                              split at hk9
                              · next cj' hpc =>
                                split at hk9
                                · next q9 hq9 =>
                                  split at hk9
                                  · next b rest' hdrop =>
                                    split at hk9
                                    · next ci fs hbc =>
                                      split at hk9
                                      · next hc9 =>
                                        obtain ⟨c1, c2, c3, c4, c5, c6⟩ := hc9
                                        cases hk9
                                        cases hq9.symm.trans hq'
                                        subst c1
                                        obtain ⟨q8, hq8, hlk⟩ := ok.2.2.2.1 _ _ _ hpc
                                        cases hq8.symm.trans hq'
                                        rw [c2] at y7
                                        obtain ⟨z1, z2, T9, N9, z3⟩ := y7
                                        have hst : st = st.take (zx_mp q') ++ .ref b :: rest := by rw [← hdrop, List.take_append_drop]
                                        exact zx_call (va_runV (As := ((st.take (zx_mp q')).reverse).map (zx_v ad)) (b := ad b) (C := (zx_my q').cls) (nL := zx_ml q) ⟨xe, xb, xm, hown, hts⟩ (zx_met_of ih (ok.2.1 _ _ hq') c6 hx1 l D ad cA H.size)
                                          ⟨callB_of (zx_mp q') hts (zx_good ok y5) rfl rfl rfl (hts _ y6) (hts _ hlk) ⟨y2.1, y2.2, y3⟩ ⟨Nat.le_refl _, by show 8 + (zx_ml q' + 11) + 40 * d' ≤ 40 * (d' + 1); omega⟩, hts _ z1, hts _ z2⟩
                                          ⟨zx_blind P G D cl ad cA h H.size _, va_recv hK hP z3 (zx_w_at hbc), fun U hU hW => ⟨rfl, zx_preU hK hZ hA hP hD hS U hU hW⟩⟩ rfl (by rw [List.length_map, List.length_reverse]; exact c3) hl.1
                                          (by show st.map (zx_v ad) = _; conv => lhs; rw [hst]
                                              rw [List.map_append, List.map_reverse, List.reverse_reverse]; rfl)
                                          (lv_room (by rw [zx_cat_sum]; exact c4)) hd ⟨Nat.le_refl _, Nat.le_refl _⟩) hS (zx_sub hD hS hA) kk
                                      · cases hk9
                                    · cases hk9
                                  · cases hk9
                                · cases hk9
                              · cases hk9
                            · next idx =>
                              split at hk9
                              · next cj' hpc =>
                                split at hk9
                                · next q9 hq9 =>
                                  split at hk9
                                  · next hc9 =>
                                    obtain ⟨c1, c2, c3, c4, c5, c6⟩ := hc9
                                    cases hk9
                                    cases hq9.symm.trans hq'
                                    subst c1
                                    obtain ⟨q8, hq8, hlk⟩ := ok.2.2.2.1 _ _ _ hpc
                                    cases hq8.symm.trans hq'
                                    rw [c2] at y7
                                    exact zx_call (va_runS (As := ((st.take (zx_mp q')).reverse).map (zx_v ad)) (nL := zx_ml q) ⟨xe, xb, xm, hown, hts⟩ (zx_met_of ih (ok.2.1 _ _ hq') c6 hx1 l D ad cA H.size)
                                      ⟨callB_of (zx_mp q') hts (zx_good ok y5) rfl rfl rfl (hts _ y6) (hts _ hlk) ⟨y2.1, y2.2, y3⟩ ⟨Nat.le_refl _, by show 8 + (zx_ml q' + 11) + 40 * d' ≤ 40 * (d' + 1); omega⟩, hts _ y7⟩
                                      ⟨zx_blind P G D cl ad cA h H.size _, fun U hU hW => ⟨rfl, zx_preU hK hZ hA hP hD hS U hU hW⟩⟩ rfl (by rw [List.length_map, List.length_reverse]; exact c3) hl.1
                                      (by show st.map (zx_v ad) = _
                                          rw [List.map_reverse, List.reverse_reverse, ← List.map_append, List.take_append_drop])
                                      (lv_room (by rw [zx_cat_sum]; exact c4)) hd ⟨Nat.le_refl _, Nat.le_refl _⟩) hS (zx_sub hD hS hA) kk
                                  · cases hk9
                                · cases hk9
                              · cases hk9
                            · cases hk9
                    · cases hx
