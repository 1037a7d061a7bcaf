/-! ===== 46: the static rows TAKES and GIVES, out of what the Statement gives of the start ===== -/
def zt_C : Cond := Jvm.Cond.and given_1 narrow_1
def zt_S (nm : String) : Term := Jvm.Term.static "ClassFrames$Effect" nm "[I"
def zt_b (nm : String) (a : List Int32) : Bool := decide (Cond.arrayOf (zt_S nm) .int ∈ flatC zt_C) && decide (Cond.eq (.length (zt_S nm)) (.int (Int32.ofNat 29)) ∈ flatC zt_C) && (List.range 29).all (fun j => decide (Cond.eq (.elem (zt_S nm) (.int (Int32.ofNat j))) (.int (a.getD j 0)) ∈ flatC zt_C)) && decide (Cond.laysStatic "ClassFrames$Effect" nm "[I" ∈ lw_tbl) && decide (Cond.initialized "ClassFrames$Effect" ∈ lw_tbl)
set_option maxRecDepth 100000 in
theorem zt_b0 : zt_b "TAKES" zp_a0 = true := by decide +kernel
set_option maxRecDepth 100000 in
theorem zt_b1 : zt_b "GIVES" zp_a1 = true := by decide +kernel
theorem zt_one {nm : String} {a : List Int32} (hb : zt_b nm a = true) {args : Array Value} {s : State} {A : Nat → Prop} (hts : ∀ w ∈ lw_tbl, w.before args s = true) (hg : zt_C.before args s = true) (hA : ∀ q : Nat, q < s.heap.size → ¬ A q) : ∃ t : Nat, va_T .int t 29 (fun j => .int (a.getD j 0)) A s s.heap ∧ va_Z "ClassFrames$Effect" nm "[I" (.ref t) A s s.heap := by
  unfold zt_b at hb
  simp only [Bool.and_eq_true, decide_eq_true_eq] at hb
  obtain ⟨⟨⟨⟨h1, h2⟩, h3⟩, h4⟩, h5⟩ := hb
  have hf := flat_of_before zt_C hg
  obtain ⟨t, e1, e2⟩ := va_Tof (args := args) (s := s) (tm := zt_S nm) (ty := .int) (N := 29) (f := fun j => .int (a.getD j 0)) (A := A) (by decide) (hf _ h1) (va_eqt (hf _ h2)) (fun j hj => va_eqt (hf _ (of_decide_eq_true (List.all_eq_true.mp h3 j (List.mem_range.mpr hj))))) hA
  exact ⟨t, e2, va_Zref (hts _ h4) (hts _ h5) e1 hA⟩
