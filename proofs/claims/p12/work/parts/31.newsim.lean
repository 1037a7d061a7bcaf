/-! ===== 31: a run of a constructor is a contract of the machine ===== -/
def zy_mok (P : zx_P) (G : List Cond) (q : zx_M) : Prop :=
  plainName (zx_my q).cls = true ∧ ((zx_my q).cls ≠ "java/lang/invoke/MethodHandle" ∧ (zx_my q).cls ≠ "java/lang/invoke/VarHandle") ∧ (parseMethodDescriptor (zx_my q).desc).map (fun d => d.parameters.length) = some (zx_mp q) ∧ zx_po P (zx_mo q) = (zx_my q).cls ∧
  Cond.code (zx_my q) (zx_mb q) (zx_ml q) none ∈ G ∧ Cond.initialized (zx_my q).cls ∈ G ∧ Cond.instanceMethod (zx_my q) ∈ G ∧ (zx_my q).name = "<init>" ∧ ∀ z ∈ zx_mi q, decode (zx_mb q) z.1 = .ok z.2
def zy_kok (P : zx_P) (X : zy_P) (G : List Cond) (cl : List vw_C) (o idx ci : Nat) : Prop :=
  ∃ (C : String) (T : u_T) (N : Nat) (ty0 : Nat → FieldType), cl[ci]? = some (C, T, N) ∧ Cond.classLink (zx_po P o) idx C ∈ G ∧ Cond.instantiable C N ∈ G ∧ Cond.initialized C ∈ G ∧ (∀ w ∈ u_ws C T N, w ∈ G) ∧ (∀ k, k < N → parseFieldDescriptor (T k).2.2.1 = some (ty0 k)) ∧ (zy_pd X ci).length = N ∧ ∀ j, j < N → defaultValue (ty0 j) = vp_V (zy_pd X ci) j
def zy_ok (P : zx_P) (X : zy_P) (G : List Cond) (cl : List vw_C) : Prop :=
  zx_ok P G cl ∧
  (∀ (j : Nat) (q : zx_M), (zy_pm X)[j]? = some q → zy_mok P G q) ∧
  (∀ (o idx ci : Nat), zy_pk X o idx = some ci → zy_kok P X G cl o idx ci) ∧
  (∀ (o idx j : Nat) (q : zx_M), zy_pc X o idx = some (j, none) → (zy_pm X)[j]? = some q → Cond.methodLink (zx_po P o) idx (zx_my q) ∈ G) ∧
  (∀ (o idx : Nat), zy_pi X o idx = true → Cond.methodLink (zx_po P o) idx Lib.objectInit ∈ G ∧ Cond.instanceMethod Lib.objectInit ∈ G ∧ Cond.code Lib.objectInit ⟨#[0xb1]⟩ 1 none ∈ G) ∧
  (Cond.arrayClass .int ∈ G ∧ Cond.arrayClass .long ∈ G ∧ Cond.arrayClass .boolean ∈ G) ∧
  (∀ (o idx ci k : Nat) (C : String) (T : u_T) (N : Nat), zy_pw X o idx = true → zx_pf P o idx = some (ci, k) → cl[ci]? = some (C, T, N) → (T k).1 = zx_po P o)
def zy_N (P : zx_P) (X : zy_P) (U : State) : Prop := ∀ (o idx j : Nat) (hst : String) (q : zx_M), zy_pc X o idx = some (j, some hst) → (zy_pm X)[j]? = some q → va_Nw (.methodLinkNest (zx_po P o) idx (zx_my q) hst) U
theorem zy_N.warm {P : zx_P} {X : zy_P} {s U : State} (hW : s.WarmedH U.vm) (h : zy_N P X s) : zy_N P X U := fun o idx j hst q e1 e2 => va_Nw.warmM hW (h o idx j hst q e1 e2)
theorem zy_N.same {P : zx_P} {X : zy_P} {u U : State} (e : u.vm = U.vm) (h : zy_N P X u) : zy_N P X U := fun o idx j hst q e1 e2 => va_Nw.same rfl e (h o idx j hst q e1 e2)
def zy_Q (D : va_G) (cl : List vw_C) (ad0 : Nat → Nat) (L0 : Nat) (cA : Nat → ClassId) (A : Nat → Prop) (h' : zx_H) : Array Value → State → Outcome → State → Prop := fun _ st oc t =>
  oc = .returned none ∧ (∃ ad', zy_ex ad0 ad' L0 ∧ va_P D cl (zx_w ad' cA h') t.heap ∧ va_D A (zx_w ad' cA h')) ∧ va_F A st t
def zy_pre (P : zx_P) (X : zy_P) (D : va_G) (cl : List vw_C) (ad : Nat → Nat) (cA : Nat → ClassId) (h : zx_H) (sz : Nat) : State → Prop := fun U =>
  U.heap.size = sz ∧ va_P D cl (zx_w ad cA h) U.heap ∧ va_K D cl (zx_ty cA) U ∧ va_D (fun _ => True) (zx_w ad cA h) ∧ zy_N P X U
def zy_room (d mc ms : Nat) : Room := { frames := d, cells := mc, slots := ms, locals := 40 * d }
def zy_sim (P : zx_P) (X : zy_P) (G : List Cond) (cl : List vw_C) (n : Nat) : Prop :=
  ∀ (d : Nat) (q : zx_M) (pc : Nat) (ls : zx_L) (st : List Value) (h : zx_H) (cc ss : Nat) (h' : zx_H) (c' s' : Nat), zy_mok P G q → zy_x P X n d q pc ls st h cc ss = some (h', c', s') →
  ∀ (p : Program) (l : Launch) (e : Env) (s : State) (m : MethodId) (args : Array Value) (below : List Frame) (meth : Method) (c : Code) (H : Heap) (locs : List Loc) (D : va_G) (ad : Nat → Nat) (cA : Nat → ClassId) (A : Nat → Prop) (lsA : Array Slot) (mc ms : Nat) (ad0 : Nat → Nat) (L0 : Nat),
  p.tables.exec = Jvm.exec → c.code = zx_mb q → c.maxLocals = zx_ml q → meth.sig.returnType = none → meth.locks = false → meth.name = "<init>" → s.vm.findClass (zx_my q).cls = some m.cls → (∀ w ∈ G, w.before args s = true) → va_K D cl (zx_ty cA) s → zy_N P X s → (∀ q : Nat, s.heap.size ≤ q → A q) →
  va_P D cl (zx_w ad cA h) H → va_D A (zx_w ad cA h) → va_S A s.heap H locs → lv_has lsA (zx_ml q) (zx_lm ad ls) → c' ≤ mc → s' ≤ ms → L0 ≤ h.length → zy_ex ad0 ad L0 →
  W p l e (zy_room d mc ms) s m args below meth c H locs cc ss (MQ below (zy_Q D cl ad0 L0 cA A h') args s c' s' A) (F0 m pc lsA (st.map (zx_v ad)))
theorem zy_blind (P : zx_P) (X : zy_P) (D : va_G) (cl : List vw_C) (ad : Nat → Nat) (cA : Nat → ClassId) (h : zx_H) (sz : Nat) (av : List Value) : FrameBlind (va_Pc av (zy_pre P X D cl ad cA h sz)) := by
  intro a U g mk q
  obtain ⟨q0, q1, qP, qK, qD, qZ⟩ := q
  exact ⟨q0, q1, qP, va_K.moved (u := U) (U := U.calling g mk a) (Vm.Alike.refl U.vm) qK, qD, zy_N.same (u := U) (U := U.calling g mk a) rfl qZ⟩
theorem zy_met_of {P : zx_P} {X : zy_P} {G : List Cond} {cl : List vw_C} {n : Nat} (hn : zy_sim P X G cl n) {d : Nat} {q : zx_M} {as : List Value} {h h' : zx_H} {c' s' : Nat} (hq : zy_mok P G q) (hl : (lg_sl as).length ≤ zx_ml q) (hx : zy_x P X n d q 0 (lv_args 0 as) [] h 0 0 = some (h', c', s')) (l : Launch) (D : va_G) (ad : Nat → Nat) (cA : Nat → ClassId) (sz : Nat) :
    Met l (zx_my q) (Cond.code (zx_my q) (zx_mb q) (zx_ml q) none :: G) (zy_room d c' s') (va_Pc (as.map (zx_v ad)) (zy_pre P X D cl ad cA h sz)) (zy_Q D cl ad h.length cA (va_A (zx_w ad cA h) sz) h') c' s' (va_A (zx_w ad cA h) sz) := by
  refine Met.ofW (cc := zx_mb q) (maxL := zx_ml q) (ret := none) hq.1 rfl ?_
  intro p e s m args below meth c s₁ B hml hv
  obtain ⟨rfl, hsz, hP, hK, hD, hZ⟩ := hv
  have hts := atoms_spec (ws := Cond.code (zx_my q) (zx_mb q) (zx_ml q) none :: G) B.pre
  subst hsz
  rw [lg_entry_eq]
  have hl9 := lv_entry (as.map (zx_v ad)) (n := zx_ml q) (by rw [zx_sl_len]; exact hl)
  rw [zx_lm_args] at hl9
  have hnm : meth.name = "<init>" := (name_of_methodNamed B.named B.method).1.trans hq.2.2.2.2.2.2.2.1
  exact hn d q 0 _ [] h 0 0 h' c' s' hq hx p l e s m _ below meth c s.heap [] D ad cA _ _ c' s' ad h.length B.exec B.bytes hml B.returns B.notSynchronized hnm (findClass_of_methodNamed B.named) (fun w hw => hts w (List.mem_cons_of_mem _ hw)) hK hZ (fun q h => Or.inr h) hP hD.self va_S.rf hl9 (Nat.le_refl _) (Nat.le_refl _) (Nat.le_refl _) (fun _ _ => rfl)
theorem zy_fit {ty : FieldType} {v : Value} {ad : Nat → Nat} (h1 : narrow ty v = v) (h2 : fits ty v = true) : narrow ty (zx_v ad v) = zx_v ad v ∧ fits ty (zx_v ad v) = true := by
  cases v <;> first | exact ⟨h1, h2⟩ | (cases ty <;> simp_all [fits, narrow, zx_v])
theorem zy_wfI {h : zx_H} {ls : zx_L} {st : List Value} (hw : zy_wf h ls st = true) : h.all (zy_wfc h.length) = true ∧ ls.all (fun q => zy_wfv h.length q.2) = true ∧ st.all (zy_wfv h.length) = true := by
  unfold zy_wf at hw
  obtain ⟨hw, c⟩ := zb_and hw
  obtain ⟨a, b⟩ := zb_and hw
  exact ⟨a, b, c⟩
theorem zy_nor {vs : List Value} {ad : Nat → Nat} (h : vs.all (fun v => match v with
    | .ref _ => false
    | _ => true) = true) : vs.map (zx_v ad) = vs := by
  have : vs.map (zx_v ad) = vs.map id := List.map_congr_left fun v hv => by
    have := List.all_eq_true.mp h v hv
    cases v <;> first | rfl | cases this
  rw [this, List.map_id]
section ZYC
variable {p : Program} {l : Launch} {e : Env} {R : Room} {s : State} {m : MethodId} {args : Array Value} {below : List Frame} {meth : Method} {c : Code} {H : Heap} {locs : List Loc} {cells slots mc ms : Nat} {Q : State → Prop}
variable {cc : ByteArray} {pc : Nat} {lsA : Array Slot} {ad : Nat → Nat} {cA : Nat → ClassId} {D : va_G} {cl : List vw_C} {A A1 : Nat → Prop}
theorem zy_call {L : Nat} {h' : zx_H} {a : Array Value} {st0 rest : List Value} (hr : va_Run p l e R s m args below meth c H locs cells slots mc ms (F0 m pc lsA st0) rest (zy_Q D cl ad L cA A1 h' a) A1) (hS : va_S A s.heap H locs) (hA : ∀ q, A1 q → A q)
    (kk : ∀ (ad' : Nat → Nat) (H1 : Heap) (locs1 : List Loc), zy_ex ad ad' L → va_P D cl (zx_w ad' cA h') H1 → va_D A (zx_w ad' cA h') → va_S A s.heap H1 locs1 → W p l e R s m args below meth c H1 locs1 (cells + mc) (slots + ms) Q (F0 m (pc + 3) lsA rest)) : W p l e R s m args below meth c H locs cells slots Q (F0 m pc lsA st0) := by
  intro T hT X
  obtain ⟨v, st₀, t, T', L9, h0, X', hL, e1, e2, ⟨hv, ⟨ad', hex, hp, hdd⟩, hz, hk⟩, st⟩ := hr T hT X
  have hv' : v = none := by cases hv; rfl
  subst hv'
  rw [h0] at hz hk
  obtain ⟨t2, a1, b1⟩ := kk ad' T'.heap (locs ++ L9) hex (by rw [e1]; exact hp) (hdd.weaken (fun _ _ _ z => hA _ z))
    ⟨Nat.le_trans hS.1 (by rw [e1]; exact hz), fun q h1 h2 => by rw [e1, hk q (Nat.lt_of_lt_of_le h1 hS.1) (fun z => h2 (hA q z))]; exact hS.2.1 q h1 h2, fun q hq => by
      rcases List.mem_append.mp hq with h | h
      · exact hS.2.2 q h
      · exact hA _ (hL q h)⟩ T' rfl X'
  exact ⟨t2, st t2 a1, b1⟩
end ZYC
theorem zy_cA {D : va_G} {cl : List vw_C} {cA : Nat → ClassId} {s : State} {cB : ClassId} {ty : FieldType} (t : Nat) (hK : va_K D cl (zx_ty cA) s) (ht : (zx_ty cA)[t]? = some (cA t, ty)) (hty : ty = .int ∨ ty = .long ∨ ty = .boolean) (hK' : va_K D cl (zx_ty cA ++ [(cB, ty)]) s) : cB = cA t := by
  have h1 := (hK.2 t _ ht).2
  have h2 := (hK'.2 3 (cB, ty) rfl).2
  rcases hty with rfl | rfl | rfl <;> exact Option.some.inj (h2.symm.trans h1)
