/-! ===== 45: what ClassFrames.argument answers ===== -/
def zs_argP (f : Nat → Int64) (i : Int32) (v : Int64) (h : zx_H) (a : Nat) (r : Option Value) (h' : zx_H) : Prop :=
  (i < 0 ∨ ¬ i < 8 → r = some (.long (-2)) ∧ h' = h) ∧ (¬ i < 0 → i < 8 → r = some (.long (f i.toNatClampNeg)) ∧ h' = h.set a (.inl (1, 8, .inr (.inl (vp_updL f i.toNatClampNeg v)))))
theorem zs_idx {i : Int32} (h1 : ¬ i < 0) (h2 : i < 8) : ¬ (i < 0 ∨ 8 ≤ i.toNatClampNeg) := by
  have e8 : (8 : Int32).toInt = 8 := by decide +kernel
  rw [Int32.lt_iff_toInt_lt, Int32.toInt_zero] at h1
  rw [Int32.lt_iff_toInt_lt, e8] at h2
  exact zb_idx (m := 8) (by omega) (by omega)
set_option maxRecDepth 100000 in
theorem zs_change {h : zx_H} {fs : List Value} {f : Nat → Int64} (hm : h[34]? = some (.inr (3, fs))) (hf : fs[1]? = some (.ref 35)) (ha : h[35]? = some (.inl (1, 8, .inr (.inl f)))) (i : Int32) (v : Int64) (d : Nat) : zx_T zp_P d zp_m51 0 [(0, .ref 34), (1, .int i), (2, .long v)] [] h (zs_argP f i v h 35) := by
  have bad : ∀ (st : List Value), st = [] → (i < 0 ∨ ¬ i < 8) → zx_T zp_P d zp_m51 10 [(0, .ref 34), (1, .int i), (2, .long v)] st h (zs_argP f i v h 35) := by
    intro st hst hc
    subst hst
    refine zx_T.g (i := .ldc2_w 43) (k := 3) (st' := [.long (-2)]) (h' := h) rfl rfl rfl rfl rfl rfl ?_
    refine zx_T.r (i := .lreturn) (k := 1) (r := some (.long (-2))) rfl rfl rfl rfl rfl rfl rfl ⟨fun _ => ⟨rfl, rfl⟩, fun a b => ?_⟩
    exact (hc.elim (fun z => a z) (fun z => z b)).elim
  refine zx_T.l (i := .iload_n 1) (k := 1) (v := .int i) rfl rfl rfl ?_
  by_cases c1 : i < 0
  · refine zx_T.j (i := .ifCond .lt 9) (k := 3) (pc' := 10) (st' := []) rfl rfl rfl rfl ?_ (bad [] rfl (Or.inl c1))
    show (if (3 : Nat) = 3 then (match zx_tg 1 9 with
      | some t => some (if zx_cmp .lt i 0 then t else 1 + 3, [])
      | none => none) else none) = some (10, ([] : List Value))
    rw [if_pos rfl, show zx_tg 1 9 = some 10 from rfl]
    dsimp only
    rw [if_pos (by show decide (i < 0) = true; rw [decide_eq_true_eq]; exact c1)]
  · refine zx_T.j (i := .ifCond .lt 9) (k := 3) (pc' := 4) (st' := []) rfl rfl rfl rfl ?_ ?_
    · show (if (3 : Nat) = 3 then (match zx_tg 1 9 with
        | some t => some (if zx_cmp .lt i 0 then t else 1 + 3, [])
        | none => none) else none) = some (4, ([] : List Value))
      rw [if_pos rfl, show zx_tg 1 9 = some 10 from rfl]
      dsimp only
      rw [if_neg (by show ¬ decide (i < 0) = true; rw [decide_eq_true_eq]; exact c1)]
    · refine zx_T.l (i := .iload_n 1) (k := 1) (v := .int i) rfl rfl rfl ?_
      refine zx_T.s (i := .bipush 8) (k := 2) (st' := [.int 8, .int i]) rfl rfl ?_
      by_cases c2 : i < 8
      · refine zx_T.j (i := .if_icmp .lt 7) (k := 3) (pc' := 14) (st' := []) rfl rfl rfl rfl ?_ ?_
        · show (if (3 : Nat) = 3 then (match zx_tg 7 7 with
            | some t => some (if zx_cmp .lt i 8 then t else 7 + 3, [])
            | none => none) else none) = some (14, ([] : List Value))
          rw [if_pos rfl, show zx_tg 7 7 = some 14 from rfl]
          dsimp only
          rw [if_pos (by show decide (i < 8) = true; rw [decide_eq_true_eq]; exact c2)]
        · have hg : zx_gf zp_P 5 9 34 h = some (.ref 35) := by rw [zb_gfx (ci := 3) (k := 1) rfl hm]; exact hf
          have hi := zs_idx c1 c2
          refine zx_T.l (i := .aload_n 0) (k := 1) (v := .ref 34) rfl rfl rfl ?_
          refine zx_T.g (i := .getfield 9) (k := 3) (st' := [.ref 35]) (h' := h) rfl rfl rfl rfl rfl (by show (zx_gf zp_P 5 9 34 h).map _ = _; rw [hg]; rfl) ?_
          refine zx_T.l (i := .iload_n 1) (k := 1) (v := .int i) rfl rfl rfl ?_
          refine zx_T.g (i := .laload) (k := 1) (st' := [.long (f i.toNatClampNeg)]) (h' := h) rfl rfl rfl rfl rfl (by simp only [zx_g, ha]; rw [if_neg hi]) ?_
          refine zx_T.t (i := .lstore 4) (k := 2) (ls' := [(4, .long (f i.toNatClampNeg)), (0, .ref 34), (1, .int i), (2, .long v)]) (st' := []) rfl rfl rfl rfl ?_
          refine zx_T.l (i := .aload_n 0) (k := 1) (v := .ref 34) rfl rfl rfl ?_
          refine zx_T.g (i := .getfield 9) (k := 3) (st' := [.ref 35]) (h' := h) rfl rfl rfl rfl rfl (by show (zx_gf zp_P 5 9 34 h).map _ = _; rw [hg]; rfl) ?_
          refine zx_T.l (i := .iload_n 1) (k := 1) (v := .int i) rfl rfl rfl ?_
          refine zx_T.l (i := .lload_n 2) (k := 1) (v := .long v) rfl rfl rfl ?_
          refine zx_T.g (i := .lastore) (k := 1) (st' := []) (h' := h.set 35 (.inl (1, 8, .inr (.inl (vp_updL f i.toNatClampNeg v))))) rfl rfl rfl rfl rfl (by simp only [zx_g, ha]; rw [if_neg hi]) ?_
          refine zx_T.l (i := .lload 4) (k := 2) (v := .long (f i.toNatClampNeg)) rfl rfl rfl ?_
          refine zx_T.r (i := .lreturn) (k := 1) (r := some (.long (f i.toNatClampNeg))) rfl rfl rfl rfl rfl rfl rfl ⟨fun z => ?_, fun _ _ => ⟨rfl, rfl⟩⟩
          exact (z.elim (fun w => c1 w) (fun w => w c2)).elim
      · refine zx_T.j (i := .if_icmp .lt 7) (k := 3) (pc' := 10) (st' := []) rfl rfl rfl rfl ?_ (bad [] rfl (Or.inr c2))
        show (if (3 : Nat) = 3 then (match zx_tg 7 7 with
          | some t => some (if zx_cmp .lt i 8 then t else 7 + 3, [])
          | none => none) else none) = some (10, ([] : List Value))
        rw [if_pos rfl, show zx_tg 7 7 = some 14 from rfl]
        dsimp only
        rw [if_neg (by show ¬ decide (i < 8) = true; rw [decide_eq_true_eq]; exact c2)]
/-- a field that holds a known cell -/
theorem zs_ref {HT : List za_D} {h : zx_H} (hI : zb_I HT h) {a ci k b : Nat} {fd : List za_T} (e : HT[a]? = some (.inr (ci, fd))) (e2 : fd[k]? = some (.inr (.inr b))) : ∃ fs, h[a]? = some (.inr (ci, fs)) ∧ fs[k]? = some (.ref b) := by
  obtain ⟨fs, h1, h2⟩ := hI.obj e
  obtain ⟨v, h3, h4⟩ := h2.at1 k e2
  have h5 : v = .ref b := h4
  rw [h5] at h3
  exact ⟨fs, h1, h3⟩
set_option maxRecDepth 100000 in
theorem zs_argument {h : zx_H} (hI : zb_I zc_H h) {f : Nat → Int64} (ha : h[35]? = some (.inl (1, 8, .inr (.inl f)))) (i : Int32) (v : Int64) (d : Nat) : zx_T zp_P (d + 1) zp_m148 0 [(0, .ref 0), (1, .int i), (2, .long v)] [] h (zs_argP f i v h 35) := by
  obtain ⟨fs0, h01, h02⟩ := zs_ref (a := 0) (k := 5) hI rfl rfl
  obtain ⟨fs1, h11, h12⟩ := zs_ref (a := 34) (k := 1) hI rfl rfl
  have hg : zx_gf zp_P 11 53 0 h = some (.ref 34) := by rw [zb_gfx (ci := 9) (k := 5) rfl h01]; exact h02
  refine zx_T.l (i := .aload_n 0) (k := 1) (v := .ref 0) rfl rfl rfl ?_
  refine zx_T.g (i := .getfield 53) (k := 3) (st' := [.ref 34]) (h' := h) rfl rfl rfl rfl rfl (by show (zx_gf zp_P 11 53 0 h).map _ = _; rw [hg]; rfl) ?_
  refine zx_T.l (i := .iload_n 1) (k := 1) (v := .int i) rfl rfl rfl ?_
  refine zx_T.l (i := .lload_n 2) (k := 1) (v := .long v) rfl rfl rfl ?_
  refine zx_T.c (i := .invokevirtual 130) (k := 3) (cj := 51) (as := [.ref 34, .int i, .long v]) (rest := []) (q' := zp_m51) rfl rfl rfl rfl rfl rfl rfl rfl ?_ rfl (zs_change h11 h12 ha i v d) (fun r1 h1 hf => ?_)
  · unfold zx_k
    simp only [show zx_pc zp_P (zx_mo zp_m148) 130 = some 51 from rfl, show (zx_pm zp_P)[51]? = some zp_m51 from rfl, show List.drop (zx_mp zp_m51) [Value.long v, Value.int i, Value.ref 34] = [.ref 34] from rfl, h11]
    rw [if_pos ⟨trivial, rfl, rfl, by decide, by decide, Nat.le_of_ble_eq_true rfl⟩]
    rfl
  · by_cases c : i < 0 ∨ ¬ i < 8
    · obtain ⟨rfl, e2⟩ := hf.1 c
      exact zx_T.r (i := .lreturn) (k := 1) (r := some (.long (-2))) rfl rfl rfl rfl rfl rfl rfl ⟨fun _ => ⟨rfl, e2⟩, fun a b => (c.elim (fun z => a z) (fun z => z b)).elim⟩
    · have c1 : ¬ i < 0 := fun z => c (Or.inl z)
      have c2 : i < 8 := Classical.byContradiction fun z => c (Or.inr z)
      obtain ⟨rfl, e2⟩ := hf.2 c1 c2
      exact zx_T.r (i := .lreturn) (k := 1) (r := some (.long (f i.toNatClampNeg))) rfl rfl rfl rfl rfl rfl rfl ⟨fun z => (c z).elim, fun _ _ => ⟨rfl, e2⟩⟩
