/-! ===== 07: the tables say so ===== -/
def zp_G : List Cond := lw_tbl.filter goodWord
/-- the words by their place, table by table -/
def zp_at (i : Nat) : Option Cond := bif Nat.blt i 92 then (k2_sels lw_privs)[i - 0]? else bif Nat.blt i 332 then (tables_1_1)[i - 92]? else bif Nat.blt i 572 then (tables_1_2)[i - 332]? else bif Nat.blt i 812 then (tables_1_3)[i - 572]? else bif Nat.blt i 1052 then (tables_1_4)[i - 812]? else bif Nat.blt i 1292 then (tables_1_5)[i - 1052]? else bif Nat.blt i 1532 then (tables_1_6)[i - 1292]? else bif Nat.blt i 1589 then (tables_1_7)[i - 1532]? else none
theorem zp_t1 {x : Cond} (h : x ∈ tables_1_1 ++ (tables_1_2 ++ (tables_1_3 ++ (tables_1_4 ++ (tables_1_5 ++ (tables_1_6 ++ (tables_1_7))))))) : x ∈ tables_1 := h
theorem zp_at_ok {i : Nat} {x : Cond} (h : zp_at i = some x) : x ∈ lw_tbl := by
  unfold zp_at at h
  unfold lw_tbl
  cases e0 : Nat.blt i 92 with
  | true => rw [e0, cond_true] at h; exact List.mem_append_left _ (List.mem_of_getElem? h)
  | false =>
  rw [e0, cond_false] at h
  cases e1 : Nat.blt i 332 with
  | true => rw [e1, cond_true] at h; exact List.mem_append_right _ (zp_t1 (List.mem_append_left _ (List.mem_of_getElem? h)))
  | false =>
  rw [e1, cond_false] at h
  cases e2 : Nat.blt i 572 with
  | true => rw [e2, cond_true] at h; exact List.mem_append_right _ (zp_t1 (List.mem_append_right _ (List.mem_append_left _ (List.mem_of_getElem? h))))
  | false =>
  rw [e2, cond_false] at h
  cases e3 : Nat.blt i 812 with
  | true => rw [e3, cond_true] at h; exact List.mem_append_right _ (zp_t1 (List.mem_append_right _ (List.mem_append_right _ (List.mem_append_left _ (List.mem_of_getElem? h)))))
  | false =>
  rw [e3, cond_false] at h
  cases e4 : Nat.blt i 1052 with
  | true => rw [e4, cond_true] at h; exact List.mem_append_right _ (zp_t1 (List.mem_append_right _ (List.mem_append_right _ (List.mem_append_right _ (List.mem_append_left _ (List.mem_of_getElem? h))))))
  | false =>
  rw [e4, cond_false] at h
  cases e5 : Nat.blt i 1292 with
  | true => rw [e5, cond_true] at h; exact List.mem_append_right _ (zp_t1 (List.mem_append_right _ (List.mem_append_right _ (List.mem_append_right _ (List.mem_append_right _ (List.mem_append_left _ (List.mem_of_getElem? h)))))))
  | false =>
  rw [e5, cond_false] at h
  cases e6 : Nat.blt i 1532 with
  | true => rw [e6, cond_true] at h; exact List.mem_append_right _ (zp_t1 (List.mem_append_right _ (List.mem_append_right _ (List.mem_append_right _ (List.mem_append_right _ (List.mem_append_right _ (List.mem_append_left _ (List.mem_of_getElem? h))))))))
  | false =>
  rw [e6, cond_false] at h
  cases e7 : Nat.blt i 1589 with
  | true => rw [e7, cond_true] at h; exact List.mem_append_right _ (zp_t1 (List.mem_append_right _ (List.mem_append_right _ (List.mem_append_right _ (List.mem_append_right _ (List.mem_append_right _ (List.mem_append_right _ (List.mem_of_getElem? h))))))))
  | false =>
  rw [e7, cond_false] at h
  cases h
def zp_in (i : Nat) (x : Cond) : Bool := decide (zp_at i = some x) && goodWord x
theorem zp_in_ok {i : Nat} {x : Cond} (h : zp_in i x = true) : x ∈ zp_G := by
  unfold zp_in at h
  rw [Bool.and_eq_true, decide_eq_true_eq] at h
  exact List.mem_filter.mpr ⟨zp_at_ok h.1, h.2⟩
theorem zp_cd_ok {i : Nat} {x : Cond} (h : zp_at i = some x) (hg : goodWord x = true) : x ∈ zp_G := List.mem_filter.mpr ⟨zp_at_ok h, hg⟩
theorem zp_as_mem {α : Type} {l : List (Nat × α)} {i : Nat} {v : α} (h : zp_as l i = some v) : (i, v) ∈ l := by
  induction l with
  | nil => simp [zp_as] at h
  | cons q r ih =>
    rw [zp_as] at h
    split at h
    · next e =>
      have e' : q.1 = i := Nat.eq_of_beq_eq_true e
      have : q = (i, v) := by rw [← e', ← Option.some.inj h]
      rw [this]; exact List.mem_cons_self
    · exact List.mem_cons_of_mem _ (ih h)
def zp_all {α : Type} (f : Nat → Nat → α → Bool) : Nat → List (List (Nat × α)) → Bool
  | _, [] => true
  | o, l :: r => l.all (fun q => f o q.1 q.2) && zp_all f (o + 1) r
theorem zp_all_ok {α : Type} {f : Nat → Nat → α → Bool} : ∀ (T : List (List (Nat × α))) (b : Nat), zp_all f b T = true → ∀ (o i : Nat) (v : α), zp_lk T o i = some v → f (b + o) i v = true := by
  intro T
  induction T with
  | nil => intro b h o i v h2; simp [zp_lk] at h2
  | cons l r ih =>
    intro b h o i v h2
    rw [zp_all, Bool.and_eq_true] at h
    cases o with
    | zero => exact List.all_eq_true.mp h.1 (i, v) (zp_as_mem h2)
    | succ o =>
      have := ih (b + 1) h.2 o i v h2
      rwa [show b + 1 + o = b + (o + 1) by omega] at this
def zp_mb (q : zx_M) (a b c d : Nat) : Bool := plainName (zx_my q).cls && decide ((zx_my q).cls ≠ "java/lang/invoke/MethodHandle") && decide ((zx_my q).cls ≠ "java/lang/invoke/VarHandle") && decide ((parseMethodDescriptor (zx_my q).desc).map (fun d => d.parameters.length) = some (zx_mp q)) && decide (zp_po (zx_mo q) = (zx_my q).cls) && zp_in a (Cond.code (zx_my q) (zx_mb q) (zx_ml q) (zx_mr q)) && zp_in b (Cond.initialized (zx_my q).cls) && (match zx_mc q with
    | none => zp_in c (Cond.static (zx_my q))
    | some ci => zp_in c (Cond.instanceMethod (zx_my q)) && zp_in d (Cond.selects (zx_my q).cls (zx_my q) (zx_my q)) && decide ((zp_cl[ci]?).map (fun r => r.1) = some (zx_my q).cls)) 
def zp_db (cc : ByteArray) (l : List (Nat × Instr × Nat)) : Bool := l.all (fun z => decide (decode cc z.1 = .ok z.2))
theorem zp_db_ok {cc : ByteArray} {l : List (Nat × Instr × Nat)} (h : zp_db cc l = true) : ∀ z ∈ l, decode cc z.1 = .ok z.2 := fun z hz => of_decide_eq_true (List.all_eq_true.mp h z hz)
theorem zp_db_app {cc : ByteArray} {l r : List (Nat × Instr × Nat)} (h : ∀ z ∈ l, decode cc z.1 = .ok z.2) (h2 : ∀ z ∈ r, decode cc z.1 = .ok z.2) : ∀ z ∈ l ++ r, decode cc z.1 = .ok z.2 := fun z hz => (List.mem_append.mp hz).elim (h z) (h2 z)
theorem zp_mb_ok {q : zx_M} {a b c d : Nat} (h : zp_mb q a b c d = true) (h9 : ∀ z ∈ zx_mi q, decode (zx_mb q) z.1 = .ok z.2) : zx_mok zp_P zp_G zp_cl q := by
  unfold zp_mb at h
  simp only [Bool.and_eq_true, decide_eq_true_eq] at h
  obtain ⟨⟨⟨⟨⟨⟨⟨h1, h2⟩, h3⟩, h4⟩, h5⟩, h6⟩, h7⟩, h8⟩ := h
  refine ⟨h1, ⟨h2, h3⟩, h4, h5, zp_in_ok h6, zp_in_ok h7, ?_, h9⟩
  · split at h8
    · next e => simp only [e]; exact zp_in_ok h8
    · next ci e =>
      simp only [Bool.and_eq_true, decide_eq_true_eq] at h8
      obtain ⟨⟨a1, a2⟩, a3⟩ := h8
      obtain ⟨r, hr, hr2⟩ := Option.map_eq_some_iff.mp a3
      simp only [e]
      exact ⟨zp_in_ok a1, zp_in_ok a2, r.2.1, r.2.2, by rw [hr, ← hr2]⟩
/-- the same, for long codes: that the code stands among the words is seen, not decided -/
def zp_mc (q : zx_M) (b c d : Nat) : Bool := plainName (zx_my q).cls && decide ((zx_my q).cls ≠ "java/lang/invoke/MethodHandle") && decide ((zx_my q).cls ≠ "java/lang/invoke/VarHandle") && decide ((parseMethodDescriptor (zx_my q).desc).map (fun d => d.parameters.length) = some (zx_mp q)) && decide (zp_po (zx_mo q) = (zx_my q).cls) && zp_in b (Cond.initialized (zx_my q).cls) && (match zx_mc q with
    | none => zp_in c (Cond.static (zx_my q))
    | some ci => zp_in c (Cond.instanceMethod (zx_my q)) && zp_in d (Cond.selects (zx_my q).cls (zx_my q) (zx_my q)) && decide ((zp_cl[ci]?).map (fun r => r.1) = some (zx_my q).cls)) 
theorem zp_mc_ok {q : zx_M} {a b c d : Nat} (hc : zp_at a = some (Cond.code (zx_my q) (zx_mb q) (zx_ml q) (zx_mr q))) (hg : goodWord (Cond.code (zx_my q) (zx_mb q) (zx_ml q) (zx_mr q)) = true) (h : zp_mc q b c d = true) (h9 : ∀ z ∈ zx_mi q, decode (zx_mb q) z.1 = .ok z.2) : zx_mok zp_P zp_G zp_cl q := by
  unfold zp_mc at h
  simp only [Bool.and_eq_true, decide_eq_true_eq] at h
  obtain ⟨⟨⟨⟨⟨⟨h1, h2⟩, h3⟩, h4⟩, h5⟩, h7⟩, h8⟩ := h
  refine ⟨h1, ⟨h2, h3⟩, h4, h5, List.mem_filter.mpr ⟨zp_at_ok hc, hg⟩, zp_in_ok h7, ?_, h9⟩
  · split at h8
    · next e => simp only [e]; exact zp_in_ok h8
    · next ci e =>
      simp only [Bool.and_eq_true, decide_eq_true_eq] at h8
      obtain ⟨⟨a1, a2⟩, a3⟩ := h8
      obtain ⟨r, hr, hr2⟩ := Option.map_eq_some_iff.mp a3
      simp only [e]
      exact ⟨zp_in_ok a1, zp_in_ok a2, r.2.1, r.2.2, by rw [hr, ← hr2]⟩
