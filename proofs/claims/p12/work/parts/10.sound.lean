/-! ===== 10: what the abstract interpreter's words mean; stack, locals, jumps are right ===== -/
def zb_V (u : Nat → Int) (n : Nat) (v : Value) (a : za_V) : Prop := match a with
  | .inl (b, c) => b < n ∧ ∃ x : Int32, v = .int x ∧ x.toInt = u b + c
  | .inr (.inl k) => ∃ x : Int32, v = .int x ∧ x.toInt = k
  | .inr (.inr (.inl a)) => v = .ref a
  | .inr (.inr (.inr _)) => ∃ x : Int64, v = .long x
def zb_N (u : Nat → Int) (n : za_N) : Prop := ∀ (b : Nat) (q : Int × Int), n[b]? = some q → q.1 ≤ u b ∧ u b ≤ q.2
def zb_L (u : Nat → Int) (n : Nat) (ls : zx_L) (al : za_L) : Prop := ∀ q ∈ al, ∃ v, zx_lk ls q.1 = some v ∧ zb_V u n v q.2
def zb_T (v : Value) (t : za_T) : Prop := match t with
  | .inl q => ∃ x : Int32, v = .int x ∧ q.1 ≤ x.toInt ∧ x.toInt ≤ q.2
  | .inr (.inl _) => ∃ x : Int64, v = .long x
  | .inr (.inr a) => v = .ref a
/-- more bases -/
def zb_X (u u' : Nat → Int) (n n' : Nat) : Prop := n ≤ n' ∧ ∀ b, b < n → u' b = u b
theorem zb_X.rf {u : Nat → Int} {n : Nat} : zb_X u u n n := ⟨Nat.le_refl _, fun _ _ => rfl⟩
theorem zb_X.tr {u u' u'' : Nat → Int} {n n' n'' : Nat} (h : zb_X u u' n n') (h2 : zb_X u' u'' n' n'') : zb_X u u'' n n'' := ⟨Nat.le_trans h.1 h2.1, fun b hb => (h2.2 b (Nat.lt_of_lt_of_le hb h.1)).trans (h.2 b hb)⟩
theorem zb_V.mo {u u' : Nat → Int} {n n' : Nat} {v : Value} {a : za_V} (h : zb_X u u' n n') (hv : zb_V u n v a) : zb_V u' n' v a := by
  unfold zb_V at hv ⊢
  split
  · obtain ⟨h1, x, h2, h3⟩ := hv; exact ⟨Nat.lt_of_lt_of_le h1 h.1, x, h2, by rw [h.2 _ h1]; exact h3⟩
  · exact hv
  · exact hv
  · exact hv
def zb_A {α β : Type} (R : α → β → Prop) : List α → List β → Prop
  | [], [] => True
  | a :: as, b :: bs => R a b ∧ zb_A R as bs
  | _, _ => False
theorem zb_A.c {α β : Type} {R : α → β → Prop} {l : List α} {b : β} {bs : List β} (h : zb_A R l (b :: bs)) : ∃ a as, l = a :: as ∧ R a b ∧ zb_A R as bs := by
  cases l with
  | nil => exact h.elim
  | cons a as => exact ⟨a, as, rfl, h.1, h.2⟩
theorem zb_A.n {α β : Type} {R : α → β → Prop} {l : List α} (h : zb_A R l []) : l = [] := by
  cases l with
  | nil => rfl
  | cons a as => exact h.elim
theorem zb_A.im {α β : Type} {R S : α → β → Prop} (hi : ∀ a b, R a b → S a b) : ∀ {l : List α} {m : List β}, zb_A R l m → zb_A S l m
  | [], [], _ => trivial
  | _ :: _, _ :: _, h => ⟨hi _ _ h.1, zb_A.im hi h.2⟩
  | [], _ :: _, h => h.elim
  | _ :: _, [], h => h.elim
theorem zb_A.len {α β : Type} {R : α → β → Prop} : ∀ {l : List α} {m : List β}, zb_A R l m → l.length = m.length
  | [], [], _ => rfl
  | _ :: _, _ :: _, h => by rw [List.length_cons, List.length_cons, zb_A.len h.2]
  | [], _ :: _, h => h.elim
  | _ :: _, [], h => h.elim
theorem zb_A.app {α β : Type} {R : α → β → Prop} : ∀ {l l' : List α} {m m' : List β}, zb_A R l m → zb_A R l' m' → zb_A R (l ++ l') (m ++ m')
  | [], _, [], _, _, h => h
  | _ :: _, _, _ :: _, _, h, h' => ⟨h.1, zb_A.app h.2 h'⟩
  | [], _, _ :: _, _, h, _ => h.elim
  | _ :: _, _, [], _, h, _ => h.elim
theorem zb_A.rev {α β : Type} {R : α → β → Prop} : ∀ {l : List α} {m : List β}, zb_A R l m → zb_A R l.reverse m.reverse
  | [], [], _ => trivial
  | _ :: _, _ :: _, h => by rw [List.reverse_cons, List.reverse_cons]; exact zb_A.app (zb_A.rev h.2) ⟨h.1, trivial⟩
  | [], _ :: _, h => h.elim
  | _ :: _, [], h => h.elim
theorem zb_A.take {α β : Type} {R : α → β → Prop} : ∀ (k : Nat) {l : List α} {m : List β}, zb_A R l m → zb_A R (l.take k) (m.take k)
  | 0, _, _, _ => trivial
  | k + 1, [], [], _ => trivial
  | k + 1, _ :: _, _ :: _, h => ⟨h.1, zb_A.take k h.2⟩
  | k + 1, [], _ :: _, h => h.elim
  | k + 1, _ :: _, [], h => h.elim
theorem zb_A.drop {α β : Type} {R : α → β → Prop} : ∀ (k : Nat) {l : List α} {m : List β}, zb_A R l m → zb_A R (l.drop k) (m.drop k)
  | 0, _, _, h => h
  | k + 1, [], [], _ => trivial
  | k + 1, _ :: _, _ :: _, h => zb_A.drop k h.2
  | k + 1, [], _ :: _, h => h.elim
  | k + 1, _ :: _, [], h => h.elim
abbrev zb_S (u : Nat → Int) (n : Nat) : List Value → List za_V → Prop := zb_A (zb_V u n)
theorem zb_S.mo {u u' : Nat → Int} {n n' : Nat} {st : List Value} {al : List za_V} (h : zb_X u u' n n') (hv : zb_S u n st al) : zb_S u' n' st al := zb_A.im (fun _ _ z => z.mo h) hv
theorem zb_L.mo {u u' : Nat → Int} {n n' : Nat} {ls : zx_L} {al : za_L} (h : zb_X u u' n n') (hv : zb_L u n ls al) : zb_L u' n' ls al := fun q e => by
  obtain ⟨v, h1, h2⟩ := hv q e; exact ⟨v, h1, h2.mo h⟩
/-- a new base with a value of its own -/
def zb_up (u : Nat → Int) (n : Nat) (z : Int) : Nat → Int := fun b => if b = n then z else u b
theorem zb_up_X (u : Nat → Int) (n : Nat) (z : Int) : zb_X u (zb_up u n z) n (n + 1) := ⟨Nat.le_succ _, fun b hb => by unfold zb_up; rw [if_neg (by omega)]⟩
theorem zb_up_N {u : Nat → Int} {n : za_N} {z : Int} {q : Int × Int} (h : zb_N u n) (h1 : q.1 ≤ z) (h2 : z ≤ q.2) : zb_N (zb_up u n.length z) (n ++ [q]) := by
  intro b r hr
  unfold zb_up
  by_cases e : b = n.length
  · subst e
    rw [if_pos rfl]
    rw [List.getElem?_append_right (Nat.le_refl _), Nat.sub_self] at hr
    cases hr
    exact ⟨h1, h2⟩
  · rw [if_neg e]
    by_cases hb : b < n.length
    · rw [List.getElem?_append_left hb] at hr
      exact h b r hr
    · rw [List.getElem?_append_right (by omega)] at hr
      rw [List.getElem?_eq_none (by simp; omega)] at hr
      cases hr
theorem zb_up_V (u : Nat → Int) (n : Nat) (x : Int32) : zb_V (zb_up u n x.toInt) (n + 1) (.int x) (.inl (n, 0)) := ⟨Nat.lt_succ_self _, x, rfl, by unfold zb_up; rw [if_pos rfl, Int.add_zero]⟩
theorem zb_len {n : za_N} {q : Int × Int} : (n ++ [q]).length = n.length + 1 := by simp
/-- ints have a number in the interval -/
theorem zb_iv {u : Nat → Int} {n : za_N} {v : Value} {a : za_V} (hN : zb_N u n) (hv : zb_V u n.length v a) (hi : za_isI a = true) : ∃ x : Int32, v = .int x ∧ (za_iv n a).1 ≤ x.toInt ∧ x.toInt ≤ (za_iv n a).2 := by
  unfold zb_V at hv
  unfold za_iv
  split at hv
  · next b c =>
    obtain ⟨h1, x, h2, h3⟩ := hv
    obtain ⟨q, hq⟩ : ∃ q, n[b]? = some q := ⟨n[b], List.getElem?_eq_getElem h1⟩
    have := hN b q hq
    refine ⟨x, h2, ?_⟩
    simp only [hq]
    omega
  · next k => obtain ⟨x, h2, h3⟩ := hv; exact ⟨x, h2, by simp only; omega⟩
  · cases hi
  · cases hi
theorem zb_isL {u : Nat → Int} {n : Nat} {v : Value} {a : za_V} (hv : zb_V u n v a) (hi : za_isL a = true) : ∃ x : Int64, v = .long x := by
  unfold zb_V at hv
  split at hv
  · cases hi
  · cases hi
  · cases hi
  · exact hv
theorem zb_cat {u : Nat → Int} {n : Nat} {v : Value} {a : za_V} (hv : zb_V u n v a) : v.category = if za_isL a then 2 else 1 := by
  unfold zb_V at hv
  split at hv
  · obtain ⟨_, x, rfl, _⟩ := hv; rfl
  · obtain ⟨x, rfl, _⟩ := hv; rfl
  · rw [hv]; rfl
  · obtain ⟨x, rfl⟩ := hv; rfl
theorem za_min_le {a b x : Int} : x ≤ za_min a b ↔ x ≤ a ∧ x ≤ b := by
  unfold za_min
  split
  · next e => rw [za_le_iff] at e; omega
  · next e => have h9 : ¬ a ≤ b := fun h => Bool.noConfusion (e.symm.trans (za_le_iff.mpr h)); omega
theorem za_max_le {a b x : Int} : za_max a b ≤ x ↔ a ≤ x ∧ b ≤ x := by
  unfold za_max
  split
  · next e => rw [za_le_iff] at e; omega
  · next e => have h9 : ¬ a ≤ b := fun h => Bool.noConfusion (e.symm.trans (za_le_iff.mpr h)); omega
theorem zb_hi {u : Nat → Int} {n : za_N} {x : Int32} {a : za_V} {m : Int} (hN : zb_N u n) (hv : zb_V u n.length (.int x) a) (h : x.toInt ≤ m) : zb_N u (za_hi n a m) ∧ (za_hi n a m).length = n.length := by
  unfold za_hi
  split
  · next b c =>
    obtain ⟨h1, y, h2, h3⟩ := hv
    cases h2
    split
    · next q hq =>
      refine ⟨fun b' r hr => ?_, by simp⟩
      rw [List.getElem?_set] at hr
      split at hr
      · next e =>
        subst e
        cases hr
        have := hN _ q hq
        exact ⟨this.1, za_min_le.mpr ⟨this.2, by omega⟩⟩
      · exact hN _ _ hr
    · exact ⟨hN, rfl⟩
  · exact ⟨hN, rfl⟩
theorem zb_lo {u : Nat → Int} {n : za_N} {x : Int32} {a : za_V} {m : Int} (hN : zb_N u n) (hv : zb_V u n.length (.int x) a) (h : m ≤ x.toInt) : zb_N u (za_lo n a m) ∧ (za_lo n a m).length = n.length := by
  unfold za_lo
  split
  · next b c =>
    obtain ⟨h1, y, h2, h3⟩ := hv
    cases h2
    split
    · next q hq =>
      refine ⟨fun b' r hr => ?_, by simp⟩
      rw [List.getElem?_set] at hr
      split at hr
      · next e =>
        subst e
        cases hr
        have := hN _ q hq
        exact ⟨za_max_le.mpr ⟨this.1, by omega⟩, this.2⟩
      · exact hN _ _ hr
    · exact ⟨hN, rfl⟩
  · exact ⟨hN, rfl⟩
theorem zb_cl {u : Nat → Int} {n : za_N} {x y : Int32} {a b : za_V} {d : Int} (hN : zb_N u n) (ha : zb_V u n.length (.int x) a) (hb : zb_V u n.length (.int y) b) (ia : za_isI a = true) (ib : za_isI b = true) (h : x.toInt + d ≤ y.toInt) : ∃ n', za_cl n a b d = some n' ∧ zb_N u n' ∧ n'.length = n.length := by
  obtain ⟨x', e1, a1, a2⟩ := zb_iv hN ha ia
  obtain ⟨y', e2, b1, b2⟩ := zb_iv hN hb ib
  cases e1; cases e2
  unfold za_cl
  rw [show za_le ((za_iv n a).1 + d) (za_iv n b).2 = true from za_le_iff.mpr (by omega)]
  obtain ⟨h1, h2⟩ := zb_hi (m := (za_iv n b).2 - d) hN ha (by omega)
  obtain ⟨h3, h4⟩ := zb_lo (m := (za_iv n a).1 + d) h1 (by rw [h2]; exact hb) (by omega)
  exact ⟨_, rfl, h3, by rw [h4, h2]⟩
theorem zb_ceq {u : Nat → Int} {n : za_N} {x y : Int32} {a b : za_V} (hN : zb_N u n) (ha : zb_V u n.length (.int x) a) (hb : zb_V u n.length (.int y) b) (ia : za_isI a = true) (ib : za_isI b = true) (h : x = y) : ∃ n', za_ceq n a b = some n' ∧ zb_N u n' ∧ n'.length = n.length := by
  subst h
  obtain ⟨n1, e1, h1, l1⟩ := zb_cl (d := 0) hN ha hb ia ib (by omega)
  obtain ⟨n2, e2, h2, l2⟩ := zb_cl (d := 0) h1 (by rw [l1]; exact hb) (by rw [l1]; exact ha) ib ia (by omega)
  refine ⟨n2, ?_, h2, l2.trans l1⟩
  unfold za_ceq
  rw [e1]; exact e2
theorem zb_ne_lt {x y : Int32} (h : ¬ x = y) : ¬ x.toInt = y.toInt := fun e => h (Int32.toInt_inj.mp e)
theorem zb_cne {u : Nat → Int} {n : za_N} {x y : Int32} {a b : za_V} (hN : zb_N u n) (ha : zb_V u n.length (.int x) a) (hb : zb_V u n.length (.int y) b) (ia : za_isI a = true) (h : ¬ x = y) : ∃ n', za_cne n a b = some n' ∧ zb_N u n' ∧ n'.length = n.length := by
  obtain ⟨x', e1, a1, a2⟩ := zb_iv hN ha ia
  cases e1
  have hne := zb_ne_lt h
  unfold za_cne
  split
  · next k =>
    have hb' := hb
    obtain ⟨y', e2, hk⟩ := hb'
    cases e2
    split
    · next e => rw [decide_eq_true_eq] at e; exact zb_cl hN hb ha rfl ia (by omega)
    · split
      · next e => rw [decide_eq_true_eq] at e; exact zb_cl hN ha hb ia rfl (by omega)
      · exact ⟨n, rfl, hN, rfl⟩
  · exact ⟨n, rfl, hN, rfl⟩
theorem zb_br {u : Nat → Int} {n : za_N} {x y : Int32} {a b : za_V} {k : Jvm.ClassFile.Cond} (hN : zb_N u n) (ha : zb_V u n.length (.int x) a) (hb : zb_V u n.length (.int y) b) (ia : za_isI a = true) (ib : za_isI b = true) (h : zx_cmp k x y = true) : ∃ n', za_br k n a b = some n' ∧ zb_N u n' ∧ n'.length = n.length := by
  unfold zx_cmp at h
  cases k <;> simp only [decide_eq_true_eq] at h
  · exact zb_ceq hN ha hb ia ib h
  · exact zb_cne hN ha hb ia h
  · exact zb_cl hN ha hb ia ib (by rw [Int32.lt_iff_toInt_lt] at h; omega)
  · exact zb_cl hN hb ha ib ia (by rw [Int32.le_iff_toInt_le] at h; omega)
  · exact zb_cl hN hb ha ib ia (by rw [Int32.lt_iff_toInt_lt] at h; omega)
  · exact zb_cl hN ha hb ia ib (by rw [Int32.le_iff_toInt_le] at h; omega)
theorem zb_ng {k : Jvm.ClassFile.Cond} {x y : Int32} (h : ¬ zx_cmp k x y = true) : zx_cmp (za_ng k) x y = true := by
  unfold zx_cmp at h ⊢
  cases k <;> simp only [za_ng, decide_eq_true_eq, Int32.lt_iff_toInt_lt, Int32.le_iff_toInt_le] at h ⊢ <;> first | omega | exact h | (exact Classical.not_not.mp h)
theorem zb_bm {x : Int} (h1 : -2147483648 ≤ x) (h2 : x ≤ 2147483647) : x.bmod (2 ^ 32) = x := by
  unfold Int.bmod
  have e : ((2 ^ 32 : Nat) : Int) = 4294967296 := rfl
  rw [e]
  dsimp only
  split <;> omega
theorem zb_add {x y : Int32} (h1 : -2147483648 ≤ x.toInt + y.toInt) (h2 : x.toInt + y.toInt ≤ 2147483647) : (x + y).toInt = x.toInt + y.toInt := by
  rw [Int32.toInt_add]; exact zb_bm h1 h2
theorem zb_sub {x y : Int32} (h1 : -2147483648 ≤ x.toInt - y.toInt) (h2 : x.toInt - y.toInt ≤ 2147483647) : (x - y).toInt = x.toInt - y.toInt := by
  rw [Int32.toInt_sub]; exact zb_bm h1 h2
theorem zb_mul {x y : Int32} (h1 : -2147483648 ≤ x.toInt * y.toInt) (h2 : x.toInt * y.toInt ≤ 2147483647) : (x * y).toInt = x.toInt * y.toInt := by
  rw [Int32.toInt_mul]; exact zb_bm h1 h2
theorem zb_top (x : Int32) : za_top.1 ≤ x.toInt ∧ x.toInt ≤ za_top.2 := by
  have h1 := Int32.le_toInt x
  have h2 := Int32.toInt_lt x
  unfold za_top
  constructor <;> simp only <;> omega
theorem zb_inr {l h : Int} (e : za_inr l h = true) : -2147483648 ≤ l ∧ h ≤ 2147483647 := by
  unfold za_inr at e
  rw [Bool.and_eq_true, za_le_iff, za_le_iff] at e
  exact e
/-- the goal of a step on the stack -/
def zb_G (u : Nat → Int) (n n' : za_N) (st : List Value) (al : List za_V) : Prop := ∃ u', zb_X u u' n.length n'.length ∧ zb_N u' n' ∧ zb_S u' n'.length st al
theorem zb_G.id {u : Nat → Int} {n : za_N} {st : List Value} {al : List za_V} (hN : zb_N u n) (hs : zb_S u n.length st al) : zb_G u n n st al := ⟨u, zb_X.rf, hN, hs⟩
theorem zb_G.nw {u : Nat → Int} {n : za_N} {r : List Value} {ar : List za_V} (hN : zb_N u n) (hs : zb_S u n.length r ar) (x : Int32) (q : Int × Int) (h1 : q.1 ≤ x.toInt) (h2 : x.toInt ≤ q.2) : zb_G u n (n ++ [q]) (.int x :: r) (.inl (n.length, 0) :: ar) := by
  have hX : zb_X u (zb_up u n.length x.toInt) n.length (n ++ [q]).length := by rw [zb_len]; exact zb_up_X _ _ _
  exact ⟨_, hX, zb_up_N hN h1 h2, by rw [zb_len]; exact zb_up_V _ _ _, hs.mo hX⟩
theorem zb_addW {u : Nat → Int} {n : za_N} {x y : Int32} {a b : za_V} {r : List Value} {ar : List za_V} (hN : zb_N u n) (ha : zb_V u n.length (.int x) a) (hb : zb_V u n.length (.int y) b) (ia : za_isI a = true) (ib : za_isI b = true) (hs : zb_S u n.length r ar) {k : Nat} {n' : za_N} {al : List za_V} (h : za_add n a b ar = (k, n', al)) : k = 1 ∧ zb_G u n n' (.int (x + y) :: r) al := by
  obtain ⟨x', e1, a1, a2⟩ := zb_iv hN ha ia
  obtain ⟨y', e2, b1, b2⟩ := zb_iv hN hb ib
  cases e1; cases e2
  unfold za_add at h
  split at h
  · cases h; exact ⟨rfl, zb_G.nw hN hs _ _ (zb_top _).1 (zb_top _).2⟩
  · next e =>
    obtain ⟨c1, c2⟩ := zb_inr e
    have hadd : (x + y).toInt = x.toInt + y.toInt := zb_add (by omega) (by omega)
    split at h
    · cases h
      obtain ⟨h1, x1, h2, h3⟩ := ha
      obtain ⟨y1, h4, h5⟩ := hb
      cases h2; cases h4
      exact ⟨rfl, zb_G.id hN ⟨⟨h1, _, rfl, by omega⟩, hs⟩⟩
    · cases h
      obtain ⟨h1, x1, h2, h3⟩ := hb
      obtain ⟨y1, h4, h5⟩ := ha
      cases h2; cases h4
      exact ⟨rfl, zb_G.id hN ⟨⟨h1, _, rfl, by omega⟩, hs⟩⟩
    · cases h
      obtain ⟨x1, h2, h3⟩ := ha
      obtain ⟨y1, h4, h5⟩ := hb
      cases h2; cases h4
      exact ⟨rfl, zb_G.id hN ⟨⟨_, rfl, by omega⟩, hs⟩⟩
    · cases h
      exact ⟨rfl, zb_G.nw hN hs _ _ (by simp only; omega) (by simp only; omega)⟩
theorem zb_subW {u : Nat → Int} {n : za_N} {x y : Int32} {a b : za_V} {r : List Value} {ar : List za_V} (hN : zb_N u n) (ha : zb_V u n.length (.int x) a) (hb : zb_V u n.length (.int y) b) (ia : za_isI a = true) (ib : za_isI b = true) (hs : zb_S u n.length r ar) {k : Nat} {n' : za_N} {al : List za_V} (h : za_sub n a b ar = (k, n', al)) : k = 1 ∧ zb_G u n n' (.int (x - y) :: r) al := by
  obtain ⟨x', e1, a1, a2⟩ := zb_iv hN ha ia
  obtain ⟨y', e2, b1, b2⟩ := zb_iv hN hb ib
  cases e1; cases e2
  unfold za_sub at h
  split at h
  · cases h; exact ⟨rfl, zb_G.nw hN hs _ _ (zb_top _).1 (zb_top _).2⟩
  · next e =>
    obtain ⟨c1, c2⟩ := zb_inr e
    have hadd : (x - y).toInt = x.toInt - y.toInt := zb_sub (by omega) (by omega)
    split at h
    · cases h
      obtain ⟨h1, x1, h2, h3⟩ := ha
      obtain ⟨y1, h4, h5⟩ := hb
      cases h2; cases h4
      exact ⟨rfl, zb_G.id hN ⟨⟨h1, _, rfl, by omega⟩, hs⟩⟩
    · cases h
      obtain ⟨x1, h2, h3⟩ := ha
      obtain ⟨y1, h4, h5⟩ := hb
      cases h2; cases h4
      exact ⟨rfl, zb_G.id hN ⟨⟨_, rfl, by omega⟩, hs⟩⟩
    · cases h
      exact ⟨rfl, zb_G.nw hN hs _ _ (by simp only; omega) (by simp only; omega)⟩
theorem zb_mulW {u : Nat → Int} {n : za_N} {x y : Int32} {a b : za_V} {r : List Value} {ar : List za_V} (hN : zb_N u n) (ha : zb_V u n.length (.int x) a) (hb : zb_V u n.length (.int y) b) (ia : za_isI a = true) (ib : za_isI b = true) (hs : zb_S u n.length r ar) {k : Nat} {n' : za_N} {al : List za_V} (h : za_mul n a b ar = (k, n', al)) : k = 1 ∧ zb_G u n n' (.int (x * y) :: r) al := by
  obtain ⟨x', e1, a1, a2⟩ := zb_iv hN ha ia
  obtain ⟨y', e2, b1, b2⟩ := zb_iv hN hb ib
  cases e1; cases e2
  unfold za_mul at h
  split at h
  · cases h; exact ⟨rfl, zb_G.nw hN hs _ _ (zb_top _).1 (zb_top _).2⟩
  · next e =>
    rw [Bool.and_eq_true, Bool.and_eq_true, za_le_iff, za_le_iff, za_le_iff] at e
    obtain ⟨⟨c1, c2⟩, c3⟩ := e
    have h0 : 0 ≤ x.toInt * y.toInt := Int.mul_nonneg (by omega) (by omega)
    have h1 : x.toInt * y.toInt ≤ (za_iv n a).2 * (za_iv n b).2 := Int.mul_le_mul a2 b2 (by omega) (by omega)
    have hm : (x * y).toInt = x.toInt * y.toInt := zb_mul (by omega) (by omega)
    cases h
    exact ⟨rfl, zb_G.nw hN hs _ _ (by rw [hm]; exact h0) (by rw [hm]; exact h1)⟩
