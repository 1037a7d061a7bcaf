/-! ===== 04: what the tables must say; fields, arrays, statics ===== -/
def zx_mok (P : zx_P) (G : List Cond) (cl : List vw_C) (q : zx_M) : Prop :=
  plainName (zx_my q).cls = true ∧ ((zx_my q).cls ≠ "java/lang/invoke/MethodHandle" ∧ (zx_my q).cls ≠ "java/lang/invoke/VarHandle") ∧ (parseMethodDescriptor (zx_my q).desc).map (fun d => d.parameters.length) = some (zx_mp q) ∧ zx_po P (zx_mo q) = (zx_my q).cls ∧
  Cond.code (zx_my q) (zx_mb q) (zx_ml q) (zx_mr q) ∈ G ∧ Cond.initialized (zx_my q).cls ∈ G ∧
  (match zx_mc q with
    | none => Cond.static (zx_my q) ∈ G
    | some ci => Cond.instanceMethod (zx_my q) ∈ G ∧ Cond.selects (zx_my q).cls (zx_my q) (zx_my q) ∈ G ∧ ∃ (T : u_T) (N : Nat), cl[ci]? = some ((zx_my q).cls, T, N)) ∧
  ∀ z ∈ zx_mi q, decode (zx_mb q) z.1 = .ok z.2
def zx_fok (P : zx_P) (G : List Cond) (cl : List vw_C) (o idx ci k : Nat) : Prop :=
  ∃ (C : String) (T : u_T) (N : Nat) (ty0 : Nat → FieldType), cl[ci]? = some (C, T, N) ∧ k < N ∧ Cond.fieldLink (zx_po P o) idx (T k).1 (T k).2.1 (T k).2.2.1 ∈ G ∧ (∀ w ∈ u_ws C T N, w ∈ G) ∧ (∀ k, k < N → parseFieldDescriptor (T k).2.2.1 = some (ty0 k)) ∧ (∀ a, a < N → ∀ b, b < N → a ≠ b → (T a).2.1 ≠ (T b).2.1) ∧ zx_pt P ci k = (ty0 k, (T k).2.2.2)
def zx_ok (P : zx_P) (G : List Cond) (cl : List vw_C) : Prop :=
  (∀ w ∈ G, (w.onTables && w.keeps) = true ∨ ∃ ty, w = .arrayClass ty) ∧
  (∀ (j : Nat) (q : zx_M), (zx_pm P)[j]? = some q → zx_mok P G cl q) ∧
  (∀ (o idx ci k : Nat), zx_pf P o idx = some (ci, k) → zx_fok P G cl o idx ci k) ∧
  (∀ (o idx cj : Nat), zx_pc P o idx = some cj → ∃ q, (zx_pm P)[cj]? = some q ∧ Cond.methodLink (zx_po P o) idx (zx_my q) ∈ G) ∧
  (∀ (o idx : Nat) (v : Int64), zx_pl P o idx = some v → Cond.constantLong (zx_po P o) idx v ∈ G) ∧
  (∀ (o idx : Nat), zx_pn P o idx = true → Cond.methodLink (zx_po P o) idx Lib.Math.min.name ∈ G ∧ Cond.static Lib.Math.min.name ∈ G ∧ Cond.initialized "java/lang/Math" ∈ G ∧ Cond.code Lib.Math.min.name Lib.Math.min.code 2 (some .int) ∈ G)
/-- the static rows, outside of what is written -/
def zx_Z (P : zx_P) (G : List Cond) (ad : Nat → Nat) (A : Nat → Prop) (U : State) (H : Heap) : Prop :=
  (∀ (k n : Nat) (f : Nat → Int32), zx_pa P k = some (n, f) → va_T .int (ad k) n (fun j => .int (f j)) A U H) ∧
  (∀ (o idx k : Nat), zx_ps P o idx = some k → ∃ C nm d, va_Z C nm d (.ref (ad k)) A U H ∧ Cond.fieldLink (zx_po P o) idx C nm d ∈ G)
theorem zx_Z.moved {P : zx_P} {G : List Cond} {ad : Nat → Nat} {A : Nat → Prop} {u U : State} {H : Heap} (hvm : u.vm.Alike U.vm) (h : zx_Z P G ad A u H) : zx_Z P G ad A U H :=
  ⟨fun k n f e => va_T.moved hvm (h.1 k n f e), fun o idx k e => by obtain ⟨C, nm, d, h1, h2⟩ := h.2 o idx k e; exact ⟨C, nm, d, va_Z.moved hvm h1, h2⟩⟩
theorem zx_Z.kept {P : zx_P} {G : List Cond} {ad : Nat → Nat} {A : Nat → Prop} {U : State} {H H1 : Heap} (h : zx_Z P G ad A U H) (hq : ∀ a : Nat, a < H.size → ¬ A a → H1[a]? = H[a]?) : zx_Z P G ad A U H1 :=
  ⟨fun k n f e => va_T.kept (h.1 k n f e) hq, fun o idx k e => by obtain ⟨C, nm, d, h1, h2⟩ := h.2 o idx k e; exact ⟨C, nm, d, va_Z.kept h1 hq, h2⟩⟩
theorem zx_Z.narrow {P : zx_P} {G : List Cond} {ad : Nat → Nat} {A B : Nat → Prop} {U : State} {H : Heap} (h : zx_Z P G ad A U H) (hAB : ∀ q, B q → A q) : zx_Z P G ad B U H :=
  ⟨fun k n f e => va_T.narrow (h.1 k n f e) hAB, fun o idx k e => by obtain ⟨C, nm, d, h1, h2⟩ := h.2 o idx k e; exact ⟨C, nm, d, va_Z.narrow h1 hAB, h2⟩⟩
theorem zx_w_put (ad : Nat → Nat) (cA : Nat → ClassId) (h : zx_H) (a ci k : Nat) (fs : List Value) (v : Value) : (zx_w ad cA h).set a (ad a, .inr (ci, (fs.map (zx_v ad)).set k (zx_v ad v))) = zx_w ad cA (h.set a (.inr (ci, fs.set k v))) := by
  rw [← zx_w_set, zx_e, List.map_set]
theorem zx_w_arr (ad : Nat → Nat) (cA : Nat → ClassId) (h : zx_H) (a t : Nat) (x : vp_A) : (zx_w ad cA h).set a (ad a, .inl (cA t, x)) = zx_w ad cA (h.set a (.inl (t, x))) := by
  rw [← zx_w_set, zx_e]
section ZXB
variable {p : Program} {l : Launch} {e : Env} {R : Room} {s : State} {m : MethodId} {args : Array Value} {below : List Frame} {meth : Method} {c : Code} {H : Heap} {locs : List Loc} {cells slots : Nat} {Q : State → Prop}
variable {cc : ByteArray} {pc : Nat} {lsA : Array Slot} {ad : Nat → Nat} {cA : Nat → ClassId} {D : va_G} {cl : List vw_C} {A : Nat → Prop} {P : zx_P} {G : List Cond} {o : Nat}
theorem zx_gf_W (ok : zx_ok P G cl) (hx : p.tables.exec = Jvm.exec) (hb : c.code = cc) (hts : ∀ w ∈ G, w.before args s = true) (hown : s.vm.findClass (zx_po P o) = some m.cls) (hK : va_K D cl (zx_ty cA) s) {h0 : zx_H} (hP : va_P D cl (zx_w ad cA h0) H) {idx a : Nat} {v : Value} {rest : List Value} (h : zx_gf P o idx a h0 = some v) (hd : decode cc pc = .ok (.getfield idx, 3))
    (kk : W p l e R s m args below meth c H locs cells slots Q (F0 m (pc + 3) lsA (zx_v ad v :: rest))) : W p l e R s m args below meth c H locs cells slots Q (F0 m pc lsA (.ref (ad a) :: rest)) := by
  unfold zx_gf at h
  split at h
  · next ci k hf =>
    split at h
    · next cj fs ha =>
      split at h
      · next hc =>
        subst hc
        obtain ⟨C, T, N, ty0, h1, h2, h3, h4, h5, h6, h7⟩ := ok.2.2.1 _ _ _ _ hf
        exact va_get (D := D) (ci := cj) (v := zx_v ad v) (C := C) (T := T) (N := N) hx hb hts h4 hown hK hP a (zx_w_at ha) h1 k h2 (hts _ h3) (fun _ h9 => h9) (by rw [List.getElem?_map, h]; rfl) hd kk
      · cases h
    · cases h
  · cases h
theorem zx_pu_W (ok : zx_ok P G cl) (hx : p.tables.exec = Jvm.exec) (hb : c.code = cc) (hts : ∀ w ∈ G, w.before args s = true) (hown : s.vm.findClass (zx_po P o) = some m.cls) (hK : va_K D cl (zx_ty cA) s) {h0 h1 : zx_H} (hP : va_P D cl (zx_w ad cA h0) H) (hD : va_D A (zx_w ad cA h0)) (hS : va_S A s.heap H locs) {idx a : Nat} {v : Value} {rest : List Value} (hv : zx_v ad v = v) (h : zx_pu P o idx a v h0 = some h1) (hd : decode cc pc = .ok (.putfield idx, 3))
    (kk : ∀ (H1 : Heap) (locs1 : List Loc), va_P D cl (zx_w ad cA h1) H1 → va_D A (zx_w ad cA h1) → va_S A s.heap H1 locs1 → W p l e R s m args below meth c H1 locs1 cells slots Q (F0 m (pc + 3) lsA rest)) : W p l e R s m args below meth c H locs cells slots Q (F0 m pc lsA (v :: .ref (ad a) :: rest)) := by
  unfold zx_pu at h
  split at h
  · next ci k hf =>
    split at h
    · next cj fs ha =>
      split at h
      · next hc =>
        obtain ⟨hc, hk, hfin, hn, hfit⟩ := hc
        subst hc
        cases h
        obtain ⟨C, T, N, ty0, h1, h2, h3, h4, h5, h6, h7⟩ := ok.2.2.1 _ _ _ _ hf
        rw [h7] at hfin hn hfit
        refine va_put (D := D) (ci := cj) (v := v) (ty := ty0 k) (C := C) (T := T) (N := N) hx hb hts h4 ty0 h5 h6 hown hK hP hD hS a (zx_w_at ha) h1 k h2 (hts _ h3) (fun _ h9 => h9) hfin (h5 k h2) hn hfit (by rw [List.length_map]; exact hk) hd (fun H1 locs1 a1 a2 a3 => ?_)
        have e := zx_w_put ad cA h0 a cj k fs v
        rw [hv] at e
        rw [e] at a1 a2
        exact kk H1 locs1 a1 a2 a3
      · cases h
    · cases h
  · cases h
set_option maxHeartbeats 4000000 in
theorem zx_g_W (ok : zx_ok P G cl) (hx : p.tables.exec = Jvm.exec) (hb : c.code = cc) (hts : ∀ w ∈ G, w.before args s = true) (hown : s.vm.findClass (zx_po P o) = some m.cls) (hK : va_K D cl (zx_ty cA) s) (hZ : zx_Z P G ad A s s.heap) {h0 h1 : zx_H} (hP : va_P D cl (zx_w ad cA h0) H) (hD : va_D A (zx_w ad cA h0)) (hS : va_S A s.heap H locs) {i : Instr} {k : Nat} {st st' : List Value} (h : zx_g P o i st h0 = some (k, st', h1)) (hd : decode cc pc = .ok (i, k))
    (kk : ∀ (H1 : Heap) (locs1 : List Loc), va_P D cl (zx_w ad cA h1) H1 → va_D A (zx_w ad cA h1) → va_S A s.heap H1 locs1 → W p l e R s m args below meth c H1 locs1 cells slots Q (F0 m (pc + k) lsA (st'.map (zx_v ad)))) : W p l e R s m args below meth c H locs cells slots Q (F0 m pc lsA (st.map (zx_v ad))) := by
  unfold zx_g at h
  split at h
  · obtain ⟨v, hv, e9⟩ := Option.map_eq_some_iff.mp h
    cases e9
    exact zx_gf_W ok hx hb hts hown hK hP hv hd (kk H locs hP hD hS)
  · obtain ⟨h2, hv, e9⟩ := Option.map_eq_some_iff.mp h
    cases e9
    exact zx_pu_W ok hx hb hts hown hK hP hD hS rfl hv hd kk
  · obtain ⟨h2, hv, e9⟩ := Option.map_eq_some_iff.mp h
    cases e9
    exact zx_pu_W ok hx hb hts hown hK hP hD hS rfl hv hd kk
  · split at h
    · next ha =>
      split at h
      · cases h
      · next hin => cases h; exact va_iald hx hb hK hP _ 0 (zx_w_at ha) rfl hin hd (kk H locs hP hD hS)
    · split at h
      · next hpa =>
        split at h
        · cases h
        · next hin => cases h; exact va_ti hx hb (hZ.1 _ _ _ hpa) hS hin rfl hd (kk H locs hP hD hS)
      · cases h
    · cases h
  · split at h
    · next ha =>
      split at h
      · cases h
      · next hin => cases h; exact va_lald hx hb hK hP _ 1 (zx_w_at ha) rfl hin hd (kk H locs hP hD hS)
    · cases h
  · split at h
    · next ha =>
      split at h
      · cases h
      · next hin => cases h; exact va_zald hx hb hK hP _ 2 (zx_w_at ha) rfl hin hd (kk H locs hP hD hS)
    · cases h
  · split at h
    · next ha =>
      split at h
      · cases h
      · next hin => cases h; exact va_iast hx hb hK hP hD hS _ 0 (zx_w_at ha) rfl hin hd (fun H1 locs1 a1 a2 a3 => kk H1 locs1 (by rw [← zx_w_arr]; exact a1) (by rw [← zx_w_arr]; exact a2) a3)
    · cases h
  · split at h
    · next ha =>
      split at h
      · cases h
      · next hin => cases h; exact va_last hx hb hK hP hD hS _ 1 (zx_w_at ha) rfl hin hd (fun H1 locs1 a1 a2 a3 => kk H1 locs1 (by rw [← zx_w_arr]; exact a1) (by rw [← zx_w_arr]; exact a2) a3)
    · cases h
  · split at h
    · next ha =>
      split at h
      · cases h
      · next hin => cases h; exact va_zast hx hb hK hP hD hS _ 2 (zx_w_at ha) rfl hin hd (fun H1 locs1 a1 a2 a3 => kk H1 locs1 (by rw [← zx_w_arr]; exact a1) (by rw [← zx_w_arr]; exact a2) a3)
    · cases h
  · split at h
    · next t n x ha =>
      split at h
      · next ht =>
        cases h
        rcases (show t = 0 ∨ t = 1 ∨ t = 2 by omega) with rfl | rfl | rfl
        · exact va_alen hx hb hK hP _ 0 (zx_w_at ha) rfl rfl hd (kk H locs hP hD hS)
        · exact va_alen hx hb hK hP _ 1 (zx_w_at ha) rfl rfl hd (kk H locs hP hD hS)
        · exact va_alen hx hb hK hP _ 2 (zx_w_at ha) rfl rfl hd (kk H locs hP hD hS)
      · cases h
    · split at h
      · next hpa => cases h; exact va_tlen hx hb (hZ.1 _ _ _ hpa) hS rfl hd (kk H locs hP hD hS)
      · cases h
    · cases h
  · obtain ⟨k2, hv, e9⟩ := Option.map_eq_some_iff.mp h
    cases e9
    obtain ⟨C, nm, d, z1, z2⟩ := hZ.2 _ _ _ hv
    exact va_gets hx hb z1 hS hown (hts _ z2) (fun _ h9 => h9) hd (kk H locs hP hD hS)
  · obtain ⟨v, hv, e9⟩ := Option.map_eq_some_iff.mp h
    cases e9
    exact lv_ldc2 hx hb hown (hts _ (ok.2.2.2.2.1 _ _ _ hv)) hd (kk H locs hP hD hS)
  · cases h
end ZXB
