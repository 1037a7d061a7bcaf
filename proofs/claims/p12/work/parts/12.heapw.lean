/-! ===== 12: fields and arrays ===== -/
def zx_fld (h : zx_H) (a k : Nat) : Option Value := match h[a]? with
  | some (.inr (_, fs)) => fs[k]?
  | _ => none
def zx_arr (h : zx_H) (a : Nat) : Option (Nat × vp_A) := match h[a]? with
  | some (.inl x) => some x
  | _ => none
def zb_c (c : zx_E) (d : za_D) : Prop := match d, c with
  | .inl (t, n, lo, hi), .inl (t', n', .inl f) => t' = t ∧ n' = n ∧ ¬ t = 1 ∧ ∀ j, lo ≤ (f j).toInt ∧ (f j).toInt ≤ hi
  | .inl (t, n, _, _), .inl (t', n', .inr (.inl _)) => t' = t ∧ n' = n ∧ t = 1
  | .inr (ci, fd), .inr (cj, fs) => cj = ci ∧ zb_A zb_T fs fd
  | _, _ => False
def zb_I (HT : List za_D) (h : zx_H) : Prop := zb_A zb_c h HT
def zb_F (u : Nat → Int) (n : Nat) (h : zx_H) (f : za_F) : Prop := ∀ q ∈ f, ∃ w, zx_fld h q.1.1 q.1.2 = some w ∧ zb_V u n w q.2
def zb_W (W : List (Nat × Nat)) (h h' : zx_H) : Prop := (∀ a k, za_in W a k = false → zx_fld h' a k = zx_fld h a k) ∧ ∀ a, za_in W a 0 = false → zx_arr h' a = zx_arr h a
theorem zb_W.rf {W : List (Nat × Nat)} {h : zx_H} : zb_W W h h := ⟨fun _ _ _ => rfl, fun _ _ => rfl⟩
theorem zb_W.tr {W : List (Nat × Nat)} {h h' h'' : zx_H} (a : zb_W W h h') (b : zb_W W h' h'') : zb_W W h h'' := ⟨fun x k e => (b.1 x k e).trans (a.1 x k e), fun x e => (b.2 x e).trans (a.2 x e)⟩
theorem zb_W.sub {W V : List (Nat × Nat)} {h h' : zx_H} (a : zb_W V h h') (hs : ∀ x k, za_in V x k = true → za_in W x k = true) : zb_W W h h' :=
  ⟨fun x k e => a.1 x k (by cases z : za_in V x k with
    | false => rfl
    | true => rw [hs x k z] at e; cases e), fun x e => a.2 x (by cases z : za_in V x 0 with
    | false => rfl
    | true => rw [hs x 0 z] at e; cases e)⟩
theorem zb_F.mo {u u' : Nat → Int} {n n' : Nat} {h : zx_H} {f : za_F} (hX : zb_X u u' n n') (hv : zb_F u n h f) : zb_F u' n' h f := fun q e => by
  obtain ⟨v, h1, h2⟩ := hv q e; exact ⟨v, h1, h2.mo hX⟩
theorem zb_A.at1 {α β : Type} {R : α → β → Prop} : ∀ {l : List α} {m : List β} (i : Nat) {b : β}, zb_A R l m → m[i]? = some b → ∃ a, l[i]? = some a ∧ R a b
  | [], [], i, b, _, e => by simp at e
  | a :: l, c :: m, 0, b, h, e => by rw [List.getElem?_cons_zero] at e; cases e; exact ⟨a, rfl, h.1⟩
  | a :: l, c :: m, i + 1, b, h, e => by rw [List.getElem?_cons_succ] at e ⊢; exact zb_A.at1 i h.2 e
  | [], _ :: _, _, _, h, _ => h.elim
  | _ :: _, [], _, _, h, _ => h.elim
theorem zb_A.set {α β : Type} {R : α → β → Prop} : ∀ {l : List α} {m : List β} (i : Nat) {b : β} {a : α}, zb_A R l m → m[i]? = some b → R a b → zb_A R (l.set i a) m
  | [], [], i, b, _, _, e, _ => by simp at e
  | a :: l, c :: m, 0, b, x, h, e, hx => by rw [List.getElem?_cons_zero] at e; cases e; exact ⟨hx, h.2⟩
  | a :: l, c :: m, i + 1, b, x, h, e, hx => by rw [List.getElem?_cons_succ] at e; exact ⟨h.1, zb_A.set i h.2 e hx⟩
  | [], _ :: _, _, _, _, h, _, _ => h.elim
  | _ :: _, [], _, _, _, h, _, _ => h.elim
theorem zb_I.obj {HT : List za_D} {h : zx_H} (hI : zb_I HT h) {a ci : Nat} {fd : List za_T} (e : HT[a]? = some (.inr (ci, fd))) : ∃ fs, h[a]? = some (.inr (ci, fs)) ∧ zb_A zb_T fs fd := by
  obtain ⟨c, h1, h2⟩ := hI.at1 a e
  cases c with
  | inl x => exact False.elim (by obtain ⟨_, _, x⟩ := x; cases x <;> exact h2)
  | inr x => obtain ⟨cj, fs⟩ := x; obtain ⟨rfl, h3⟩ := h2; exact ⟨fs, h1, h3⟩
theorem zb_I.arr {HT : List za_D} {h : zx_H} (hI : zb_I HT h) {a t n : Nat} {lo hi : Int} (e : HT[a]? = some (.inl (t, n, lo, hi))) (ht : ¬ t = 1) : ∃ f : Nat → Int32, h[a]? = some (.inl (t, n, .inl f)) ∧ ∀ j, lo ≤ (f j).toInt ∧ (f j).toInt ≤ hi := by
  obtain ⟨c, h1, h2⟩ := hI.at1 a e
  cases c with
  | inr x => exact h2.elim
  | inl x =>
    obtain ⟨t', n', x⟩ := x
    cases x with
    | inl f => obtain ⟨rfl, rfl, _, h3⟩ := h2; exact ⟨f, h1, h3⟩
    | inr x =>
      cases x with
      | inl f => obtain ⟨_, _, h3⟩ := h2; exact absurd h3 ht
      | inr x => exact h2.elim
theorem zb_I.lng {HT : List za_D} {h : zx_H} (hI : zb_I HT h) {a n : Nat} {lo hi : Int} (e : HT[a]? = some (.inl (1, n, lo, hi))) : ∃ f : Nat → Int64, h[a]? = some (.inl (1, n, .inr (.inl f))) := by
  obtain ⟨c, h1, h2⟩ := hI.at1 a e
  cases c with
  | inr x => exact h2.elim
  | inl x =>
    obtain ⟨t', n', x⟩ := x
    cases x with
    | inl f => obtain ⟨_, _, h3, _⟩ := h2; exact absurd rfl h3
    | inr x =>
      cases x with
      | inl f => obtain ⟨rfl, rfl, _⟩ := h2; exact ⟨f, h1⟩
      | inr x => exact h2.elim
theorem zb_I.len {HT : List za_D} {h : zx_H} (hI : zb_I HT h) {a : Nat} (e : HT[a]? = none) : h[a]? = none := by
  rw [List.getElem?_eq_none_iff] at e ⊢
  rw [zb_A.len hI]; exact e
theorem zb_fld_set {h : zx_H} {a cj k : Nat} {fs : List Value} {v : Value} (e : h[a]? = some (.inr (cj, fs))) (hk : k < fs.length) (a' k' : Nat) : zx_fld (h.set a (.inr (cj, fs.set k v))) a' k' = if a' = a ∧ k' = k then some v else zx_fld h a' k' := by
  have hl : a < h.length := (List.getElem?_eq_some_iff.mp e).1
  unfold zx_fld
  rw [List.getElem?_set]
  by_cases ha : a = a'
  · subst ha
    rw [if_pos rfl, if_pos hl, e]
    simp only [List.getElem?_set]
    by_cases hk' : k = k'
    · subst hk'; simp [hk]
    · rw [if_neg hk', if_neg (fun z => hk' z.2.symm)]
  · rw [if_neg ha, if_neg (fun z => ha z.1.symm)]
theorem zb_arr_obj {h : zx_H} {a cj : Nat} {fs fs' : List Value} (e : h[a]? = some (.inr (cj, fs))) (a' : Nat) : zx_arr (h.set a (.inr (cj, fs'))) a' = zx_arr h a' := by
  have hl : a < h.length := (List.getElem?_eq_some_iff.mp e).1
  unfold zx_arr
  rw [List.getElem?_set]
  by_cases ha : a = a'
  · subst ha; rw [if_pos rfl, if_pos hl, e]
  · rw [if_neg ha]
theorem zb_fld_arr {h : zx_H} {a : Nat} {x x' : Nat × vp_A} (e : h[a]? = some (.inl x)) (a' k : Nat) : zx_fld (h.set a (.inl x')) a' k = zx_fld h a' k := by
  have hl : a < h.length := (List.getElem?_eq_some_iff.mp e).1
  unfold zx_fld
  rw [List.getElem?_set]
  by_cases ha : a = a'
  · subst ha; rw [if_pos rfl, if_pos hl, e]
  · rw [if_neg ha]
theorem zb_arr_arr {h : zx_H} {a : Nat} {x' : Nat × vp_A} (a' : Nat) (ha : ¬ a' = a) : zx_arr (h.set a (.inl x')) a' = zx_arr h a' := by
  unfold zx_arr
  rw [List.getElem?_set, if_neg (fun z => ha z.symm)]
theorem za_in_iff {W : List (Nat × Nat)} {a k : Nat} : za_in W a k = true ↔ (a, k) ∈ W := by
  unfold za_in
  rw [List.any_eq_true]
  constructor
  · rintro ⟨q, h1, h2⟩
    obtain ⟨e1, e2⟩ := zb_and h2
    have : q = (a, k) := by rw [← Nat.eq_of_beq_eq_true e1, ← Nat.eq_of_beq_eq_true e2]
    rw [← this]; exact h1
  · intro h
    exact ⟨(a, k), h, by rw [zb_beq, zb_beq]; simp⟩
theorem za_fk_mem {f : za_F} {a k : Nat} {v : za_V} (h : za_fk f a k = some v) : ((a, k), v) ∈ f := by
  induction f with
  | nil => simp [za_fk] at h
  | cons q r ih =>
    rw [za_fk] at h
    split at h
    · next e =>
      obtain ⟨e1, e2⟩ := zb_and e
      have : q = ((a, k), v) := by rw [← Nat.eq_of_beq_eq_true e1, ← Nat.eq_of_beq_eq_true e2, ← Option.some.inj h]
      rw [this]; exact List.mem_cons_self
    · exact List.mem_cons_of_mem _ (ih h)
theorem zb_sub2 {q r : Int × Int} (h : za_sub2 q r = true) : r.1 ≤ q.1 ∧ q.2 ≤ r.2 := by
  unfold za_sub2 at h
  rw [Bool.and_eq_true, za_le_iff, za_le_iff] at h
  exact h
/-- facts behind writes -/
theorem zb_fdrop {u : Nat → Int} {n : Nat} {h h' : zx_H} {f : za_F} {V : List (Nat × Nat)} (hF : zb_F u n h f) (hW : zb_W V h h') : zb_F u n h' (za_fdrop f V) := by
  intro q hq
  obtain ⟨h1, h2⟩ := List.mem_filter.mp hq
  obtain ⟨w, h3, h4⟩ := hF q h1
  refine ⟨w, ?_, h4⟩
  rw [hW.1 _ _ (by simpa using h2)]
  exact h3
theorem zb_01 {x : Int32} (h1 : 0 ≤ x.toInt) (h2 : x.toInt ≤ 1) : x = 0 ∨ x = 1 := by
  rcases (show x.toInt = 0 ∨ x.toInt = 1 by omega) with e | e
  · left; exact Int32.toInt_inj.mp (e.trans Int32.toInt_zero.symm)
  · right; exact Int32.toInt_inj.mp (e.trans (by decide +kernel))
theorem zb_fty {ty : FieldType} {q : Int × Int} {x : Int32} (h : za_fty ty q = true) (h1 : q.1 ≤ x.toInt) (h2 : x.toInt ≤ q.2) : narrow ty (.int x) = .int x ∧ fits ty (.int x) = true := by
  unfold za_fty at h
  split at h
  · exact ⟨rfl, rfl⟩
  · obtain ⟨a, b⟩ := zb_sub2 h
    rcases zb_01 (x := x) (by omega) (by omega) with rfl | rfl
    · exact ⟨by decide +kernel, by decide +kernel⟩
    · exact ⟨by decide +kernel, by decide +kernel⟩
  · cases h
theorem zb_idx {x : Int32} {m : Nat} (h1 : 0 ≤ x.toInt) (h2 : x.toInt ≤ (m : Int) - 1) : ¬ (x < 0 ∨ m ≤ x.toNatClampNeg) := by
  have := (vp_in_iff (x := x) (n := m)).mpr ⟨h1, by omega⟩
  exact this
theorem zb_ftI {P : zx_P} {HT : List za_D} {o idx a k : Nat} {t : za_T} (h : za_ft P HT o idx a = some (k, t)) : ∃ ci fd, zx_pf P o idx = some (ci, k) ∧ HT[a]? = some (.inr (ci, fd)) ∧ fd[k]? = some t := by
  unfold za_ft at h
  split at h
  · next ci k' e =>
    split at h
    · next cj fd e2 =>
      split at h
      · next hc =>
        have hc := Nat.eq_of_beq_eq_true hc
        subst hc
        obtain ⟨t', ht, e9⟩ := Option.map_eq_some_iff.mp h
        cases e9
        exact ⟨_, fd, e, e2, ht⟩
      · cases h
    · cases h
  · cases h
theorem zb_gfx {P : zx_P} {h : zx_H} {o idx a k ci : Nat} {fs : List Value} (e : zx_pf P o idx = some (ci, k)) (e2 : h[a]? = some (.inr (ci, fs))) : zx_gf P o idx a h = fs[k]? := by
  unfold zx_gf
  simp only [e, e2, if_true]
