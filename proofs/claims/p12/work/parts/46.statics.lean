/-! ===== 46: the static rows TAKES and GIVES, out of what the Statement gives of the start ===== -/
def zt_C : Cond := Jvm.Cond.and given_1 narrow_1
def zt_S (nm : String) : Term := Jvm.Term.static "ClassFrames$Effect" nm "[I"
def zt_b (nm : String) (a : List Int32) : Bool := decide (Cond.arrayOf (zt_S nm) .int ∈ flatC zt_C) && decide (Cond.eq (.length (zt_S nm)) (.int (Int32.ofNat 29)) ∈ flatC zt_C) && (List.range 29).all (fun j => decide (Cond.eq (.elem (zt_S nm) (.int (Int32.ofNat j))) (.int (a.getD j 0)) ∈ flatC zt_C)) && decide (Cond.laysStatic "ClassFrames$Effect" nm "[I" ∈ lw_tbl) && decide (Cond.initialized "ClassFrames$Effect" ∈ lw_tbl)
set_option maxRecDepth 100000 in
theorem zt_b0 : zt_b "TAKES" zp_a0 = true := by decide +kernel
set_option maxRecDepth 100000 in
theorem zt_b1 : zt_b "GIVES" zp_a1 = true := by decide +kernel
theorem zt_one {nm : String} {a : List Int32} (hb : zt_b nm a = true) {args : Array Value} {s : State} {A : Nat → Prop} (hts : ∀ w ∈ lw_tbl, w.before args s = true) (hg : zt_C.before args s = true) (hA : ∀ q : Nat, q < s.heap.size → ¬ A q) : ∃ t : Nat, va_T .int t 29 (fun j => .int (a.getD j 0)) A s s.heap ∧ va_Z "ClassFrames$Effect" nm "[I" (.ref t) A s s.heap := by
  unfold zt_b at hb
  simp only [Bool.and_eq_true, decide_eq_true_eq] at hb
  obtain ⟨⟨⟨⟨h1, h2⟩, h3⟩, h4⟩, h5⟩ := hb
  have hf := flat_of_before zt_C hg
  obtain ⟨t, e1, e2⟩ := va_Tof (args := args) (s := s) (tm := zt_S nm) (ty := .int) (N := 29) (f := fun j => .int (a.getD j 0)) (A := A) (by decide) (hf _ h1) (va_eqt (hf _ h2)) (fun j hj => va_eqt (hf _ (of_decide_eq_true (List.all_eq_true.mp h3 j (List.mem_range.mpr hj))))) hA
  exact ⟨t, e2, va_Zref (hts _ h4) (hts _ h5) e1 hA⟩
def zt_sb (o idx : Nat) (q : Nat × Nat) : Bool := (decide (q.1 = 1000000) && zp_in q.2 (Cond.fieldLink (zp_po o) idx "ClassFrames$Effect" "TAKES" "[I")) || (decide (q.1 = 1000001) && zp_in q.2 (Cond.fieldLink (zp_po o) idx "ClassFrames$Effect" "GIVES" "[I"))
set_option maxRecDepth 100000 in
theorem zt_st_ok : zp_all zt_sb 0 zp_st = true := by decide +kernel
theorem zt_Z2 {ad : Nat → Nat} {A : Nat → Prop} {s : State} (z0 : va_Z "ClassFrames$Effect" "TAKES" "[I" (.ref (ad 1000000)) A s s.heap) (z1 : va_Z "ClassFrames$Effect" "GIVES" "[I" (.ref (ad 1000001)) A s s.heap) : ∀ (o idx k : Nat), (zp_lk zp_st o idx).map (fun q => q.1) = some k → ∃ C nm d, va_Z C nm d (.ref (ad k)) A s s.heap ∧ Cond.fieldLink (zp_po o) idx C nm d ∈ zp_G := by
  intro o idx k h
  obtain ⟨q, hq, e⟩ := Option.map_eq_some_iff.mp h
  have h1 := zp_all_ok _ 0 zt_st_ok _ _ _ hq
  rw [Nat.zero_add] at h1
  unfold zt_sb at h1
  rw [Bool.or_eq_true, Bool.and_eq_true, Bool.and_eq_true, decide_eq_true_eq, decide_eq_true_eq] at h1
  rcases h1 with ⟨a, b⟩ | ⟨a, b⟩
  · have : k = 1000000 := e.symm.trans a
    rw [this]; exact ⟨_, _, _, z0, zp_in_ok b⟩
  · have : k = 1000001 := e.symm.trans a
    rw [this]; exact ⟨_, _, _, z1, zp_in_ok b⟩
theorem zt_Zp {ad : Nat → Nat} {A : Nat → Prop} {s : State} (t0 : va_T .int (ad 1000000) 29 (fun j => .int (zp_a0.getD j 0)) A s s.heap) (t1 : va_T .int (ad 1000001) 29 (fun j => .int (zp_a1.getD j 0)) A s s.heap) (z0 : va_Z "ClassFrames$Effect" "TAKES" "[I" (.ref (ad 1000000)) A s s.heap) (z1 : va_Z "ClassFrames$Effect" "GIVES" "[I" (.ref (ad 1000001)) A s s.heap) : zx_Z zp_P zp_G ad A s s.heap := by
  refine ⟨fun k n f h => ?_, zt_Z2 z0 z1⟩
  have h : zp_pa k = some (n, f) := h
  unfold zp_pa at h
  split at h
  · next e => subst e; cases h; exact t0
  · split at h
    · next e => subst e; cases h; exact t1
    · cases h
theorem zt_Zl {ad : Nat → Nat} {A : Nat → Prop} {s : State} {L : Nat} {xs : Nat → Int32} (hZ : zx_Z zp_P zp_G ad A s s.heap) (tb : va_T .int (ad 2000000) L (fun j => .int (xs j)) A s s.heap) : zx_Z (zl_P L xs) zp_G ad A s s.heap := by
  refine ⟨fun k n f h => ?_, hZ.2⟩
  have h : (if k = 2000000 then some (L, xs) else zp_pa k) = some (n, f) := h
  split at h
  · next e => subst e; cases h; exact tb
  · exact hZ.1 k n f h
/-- the script is such a row -/
theorem zt_X {b L : Nat} {xs : Nat → Int32} {A : Nat → Prop} {s : State} (hX : va_X b L xs s s.heap) (hA : ¬ A b) : va_T .int b L (fun j => .int (xs j)) A s s.heap := by
  obtain ⟨scr, h1, h2, h3, h4, h5⟩ := hX
  exact ⟨scr, h1, h2, h3, by omega, by rw [h4], h5, hA⟩
