/-! ===== 11: the abstract interpreter's steps on stack and locals are right ===== -/
theorem zb_and {a b : Bool} (h : (a && b) = true) : a = true ∧ b = true := by rwa [Bool.and_eq_true] at h
theorem zb_cmp (x y : Int64) : (-1 : Int) ≤ (lg_cmp x y).toInt ∧ (lg_cmp x y).toInt ≤ 1 := by
  unfold lg_cmp
  split
  · decide +kernel
  · split
    · decide +kernel
    · decide +kernel
set_option maxHeartbeats 4000000 in
theorem zb_s {u : Nat → Int} {n n' : za_N} {i : Instr} {st : List Value} {al al' : List za_V} {k : Nat} (hN : zb_N u n) (hs : zb_S u n.length st al) (h : za_s i n al = some (k, n', al')) : ∃ st', zx_s i st = some (k, st') ∧ zb_G u n n' st' al' := by
  unfold za_s at h
  split at h
  · cases h; exact ⟨_, rfl, zb_G.id hN ⟨⟨_, rfl, rfl⟩, hs⟩⟩
  · cases h; exact ⟨_, rfl, zb_G.id hN ⟨⟨_, rfl, rfl⟩, hs⟩⟩
  · cases h; exact ⟨_, rfl, zb_G.id hN ⟨⟨_, rfl, rfl⟩, hs⟩⟩
  · cases h; exact ⟨_, rfl, zb_G.id hN ⟨⟨_, rfl⟩, hs⟩⟩
  · obtain ⟨v, s1, rfl, h1, hs1⟩ := hs.c
    obtain ⟨w, s2, rfl, h2, hs2⟩ := hs1.c
    split at h
    · next hi =>
      obtain ⟨i1, i2⟩ := zb_and hi
      obtain ⟨y, rfl, _⟩ := zb_iv hN h1 i1
      obtain ⟨x, rfl, _⟩ := zb_iv hN h2 i2
      obtain ⟨rfl, hg⟩ := zb_addW hN h2 h1 i2 i1 hs2 (Option.some.inj h)
      exact ⟨_, rfl, hg⟩
    · cases h
  · obtain ⟨v, s1, rfl, h1, hs1⟩ := hs.c
    obtain ⟨w, s2, rfl, h2, hs2⟩ := hs1.c
    split at h
    · next hi =>
      obtain ⟨i1, i2⟩ := zb_and hi
      obtain ⟨y, rfl, _⟩ := zb_iv hN h1 i1
      obtain ⟨x, rfl, _⟩ := zb_iv hN h2 i2
      obtain ⟨rfl, hg⟩ := zb_subW hN h2 h1 i2 i1 hs2 (Option.some.inj h)
      exact ⟨_, rfl, hg⟩
    · cases h
  · obtain ⟨v, s1, rfl, h1, hs1⟩ := hs.c
    obtain ⟨w, s2, rfl, h2, hs2⟩ := hs1.c
    split at h
    · next hi =>
      obtain ⟨i1, i2⟩ := zb_and hi
      obtain ⟨y, rfl, _⟩ := zb_iv hN h1 i1
      obtain ⟨x, rfl, _⟩ := zb_iv hN h2 i2
      obtain ⟨rfl, hg⟩ := zb_mulW hN h2 h1 i2 i1 hs2 (Option.some.inj h)
      exact ⟨_, rfl, hg⟩
    · cases h
  · obtain ⟨v, s1, rfl, h1, hs1⟩ := hs.c
    obtain ⟨w, s2, rfl, h2, hs2⟩ := hs1.c
    split at h
    · next hi =>
      obtain ⟨i1, i2⟩ := zb_and hi
      obtain ⟨y, rfl, _⟩ := zb_iv hN h1 i1
      obtain ⟨x, rfl, _⟩ := zb_iv hN h2 i2
      cases h
      exact ⟨_, rfl, zb_G.nw hN hs2 _ _ (zb_top _).1 (zb_top _).2⟩
    · cases h
  · obtain ⟨v, s1, rfl, h1, hs1⟩ := hs.c
    obtain ⟨w, s2, rfl, h2, hs2⟩ := hs1.c
    split at h
    · next hi =>
      obtain ⟨hi, i3⟩ := zb_and hi
      obtain ⟨i1, i2⟩ := zb_and hi
      obtain ⟨y, rfl, y1, y2⟩ := zb_iv hN h1 i1
      obtain ⟨x, rfl, _⟩ := zb_iv hN h2 i2
      cases h
      rw [Bool.or_eq_true, za_le_iff, za_le_iff] at i3
      have hy : ¬ y = 0 := fun e => by
        rw [e, Int32.toInt_zero] at y1 y2; omega
      exact ⟨_, by rw [zx_s, if_neg hy], zb_G.nw hN hs2 _ _ (zb_top _).1 (zb_top _).2⟩
    · cases h
  · obtain ⟨v, s1, rfl, h1, hs1⟩ := hs.c
    obtain ⟨w, s2, rfl, h2, hs2⟩ := hs1.c
    split at h
    · next hi =>
      obtain ⟨i1, i2⟩ := zb_and hi
      obtain ⟨y, rfl, _⟩ := zb_iv hN h1 i1
      obtain ⟨x, rfl, _⟩ := zb_iv hN h2 i2
      cases h
      exact ⟨_, rfl, zb_G.nw hN hs2 _ _ (zb_top _).1 (zb_top _).2⟩
    · cases h
  · obtain ⟨v, s1, rfl, h1, hs1⟩ := hs.c
    obtain ⟨w, s2, rfl, h2, hs2⟩ := hs1.c
    split at h
    · next hi =>
      obtain ⟨i1, i2⟩ := zb_and hi
      obtain ⟨y, rfl⟩ := zb_isL h1 i1
      obtain ⟨x, rfl⟩ := zb_isL h2 i2
      cases h
      exact ⟨_, rfl, zb_G.id hN ⟨⟨_, rfl⟩, hs2⟩⟩
    · cases h
  · obtain ⟨v, s1, rfl, h1, hs1⟩ := hs.c
    obtain ⟨w, s2, rfl, h2, hs2⟩ := hs1.c
    split at h
    · next hi =>
      obtain ⟨i1, i2⟩ := zb_and hi
      obtain ⟨y, rfl⟩ := zb_isL h1 i1
      obtain ⟨x, rfl⟩ := zb_isL h2 i2
      cases h
      exact ⟨_, rfl, zb_G.id hN ⟨⟨_, rfl⟩, hs2⟩⟩
    · cases h
  · obtain ⟨v, s1, rfl, h1, hs1⟩ := hs.c
    obtain ⟨w, s2, rfl, h2, hs2⟩ := hs1.c
    split at h
    · next hi =>
      obtain ⟨i1, i2⟩ := zb_and hi
      obtain ⟨y, rfl⟩ := zb_isL h1 i1
      obtain ⟨x, rfl⟩ := zb_isL h2 i2
      cases h
      exact ⟨_, rfl, zb_G.id hN ⟨⟨_, rfl⟩, hs2⟩⟩
    · cases h
  · obtain ⟨v, s1, rfl, h1, hs1⟩ := hs.c
    obtain ⟨w, s2, rfl, h2, hs2⟩ := hs1.c
    split at h
    · next hi =>
      obtain ⟨i1, i2⟩ := zb_and hi
      obtain ⟨y, rfl, _⟩ := zb_iv hN h1 i1
      obtain ⟨x, rfl⟩ := zb_isL h2 i2
      cases h
      exact ⟨_, rfl, zb_G.id hN ⟨⟨_, rfl⟩, hs2⟩⟩
    · cases h
  · obtain ⟨v, s1, rfl, h1, hs1⟩ := hs.c
    split at h
    · next hi =>
      obtain ⟨y, rfl, _⟩ := zb_iv hN h1 hi
      cases h
      exact ⟨_, rfl, zb_G.id hN ⟨⟨_, rfl⟩, hs1⟩⟩
    · cases h
  · obtain ⟨v, s1, rfl, h1, hs1⟩ := hs.c
    split at h
    · next hi =>
      obtain ⟨y, rfl⟩ := zb_isL h1 hi
      cases h
      exact ⟨_, rfl, zb_G.nw hN hs1 _ _ (zb_top _).1 (zb_top _).2⟩
    · cases h
  · obtain ⟨v, s1, rfl, h1, hs1⟩ := hs.c
    obtain ⟨w, s2, rfl, h2, hs2⟩ := hs1.c
    split at h
    · next hi =>
      obtain ⟨i1, i2⟩ := zb_and hi
      obtain ⟨y, rfl⟩ := zb_isL h1 i1
      obtain ⟨x, rfl⟩ := zb_isL h2 i2
      cases h
      exact ⟨_, rfl, zb_G.nw hN hs2 _ _ (zb_cmp x y).1 (zb_cmp x y).2⟩
    · cases h
  · obtain ⟨v, s1, rfl, h1, hs1⟩ := hs.c
    split at h
    · cases h
    · next hi =>
      cases h
      exact ⟨v :: v :: s1, by rw [zx_s, if_pos (by rw [zb_cat h1, if_neg hi])], zb_G.id hN ⟨h1, h1, hs1⟩⟩
  · obtain ⟨v, s1, rfl, h1, hs1⟩ := hs.c
    split at h
    · cases h
    · next hi =>
      cases h
      exact ⟨_, by rw [zx_s, if_pos (by rw [zb_cat h1, if_neg hi])], zb_G.id hN hs1⟩
  · obtain ⟨v, s1, rfl, h1, hs1⟩ := hs.c
    split at h
    · next hi =>
      cases h
      exact ⟨_, by rw [zx_s, if_pos (by rw [zb_cat h1, if_pos hi])], zb_G.id hN hs1⟩
    · cases h
  · obtain ⟨v, s1, rfl, h1, hs1⟩ := hs.c
    obtain ⟨w, s2, rfl, h2, hs2⟩ := hs1.c
    split at h
    · cases h
    · next hi =>
      cases h
      rw [Bool.or_eq_true, not_or] at hi
      exact ⟨v :: w :: v :: s2, by rw [zx_s, if_pos ⟨by rw [zb_cat h1, if_neg hi.1], by rw [zb_cat h2, if_neg hi.2]⟩], zb_G.id hN ⟨h1, h2, h1, hs2⟩⟩
  · cases h
theorem za_lk_mem {ls : za_L} {i : Nat} {v : za_V} (h : za_lk ls i = some v) : (i, v) ∈ ls := by
  induction ls with
  | nil => simp [za_lk] at h
  | cons q r ih =>
    rw [za_lk] at h
    split at h
    · next e =>
      have e' : q.1 = i := Nat.eq_of_beq_eq_true e
      have : q = (i, v) := by rw [← e', ← Option.some.inj h]
      rw [this]; exact List.mem_cons_self
    · exact List.mem_cons_of_mem _ (ih h)
theorem zb_gi {u : Nat → Int} {n : za_N} {ls : zx_L} {al : za_L} {k m k' : Nat} {a : za_V} (hN : zb_N u n) (hl : zb_L u n.length ls al) (h : za_gi al k m = some (k', a)) : ∃ v, zx_gi ls k m = some (k', v) ∧ zb_V u n.length v a := by
  unfold za_gi at h
  split at h
  · next x e =>
    split at h
    · next hi =>
      cases h
      obtain ⟨v, h1, h2⟩ := hl _ (za_lk_mem e)
      obtain ⟨y, rfl, _⟩ := zb_iv hN h2 hi
      exact ⟨_, by rw [zx_gi, h1], h2⟩
    · cases h
  · cases h
theorem zb_gl {u : Nat → Int} {n : Nat} {ls : zx_L} {al : za_L} {k m k' : Nat} {a : za_V} (hl : zb_L u n ls al) (h : za_gl al k m = some (k', a)) : ∃ v, zx_gl ls k m = some (k', v) ∧ zb_V u n v a := by
  unfold za_gl at h
  split at h
  · next x e =>
    split at h
    · next hi =>
      cases h
      obtain ⟨v, h1, h2⟩ := hl _ (za_lk_mem e)
      obtain ⟨y, rfl⟩ := zb_isL h2 hi
      exact ⟨_, by rw [zx_gl, h1], h2⟩
    · cases h
  · cases h
theorem zb_gr {u : Nat → Int} {n : Nat} {ls : zx_L} {al : za_L} {k m k' : Nat} {a : za_V} (hl : zb_L u n ls al) (h : za_gr al k m = some (k', a)) : ∃ v, zx_gr ls k m = some (k', v) ∧ zb_V u n v a := by
  unfold za_gr at h
  split at h
  · next x e =>
    cases h
    obtain ⟨v, h1, h2⟩ := hl _ (za_lk_mem e)
    have h3 : v = .ref x := h2
    subst h3
    exact ⟨_, by rw [zx_gr, h1], h2⟩
  · cases h
theorem zb_l {u : Nat → Int} {n : za_N} {i : Instr} {ls : zx_L} {al : za_L} {k : Nat} {a : za_V} (st : List Value) (hN : zb_N u n) (hl : zb_L u n.length ls al) (h : za_l i al = some (k, a)) : zx_s i st = none ∧ ∃ v, zx_l i ls = some (k, v) ∧ zb_V u n.length v a := by
  unfold za_l at h
  split at h
  · exact ⟨rfl, zb_gi hN hl h⟩
  · exact ⟨rfl, zb_gi hN hl h⟩
  · exact ⟨rfl, zb_gl hl h⟩
  · exact ⟨rfl, zb_gl hl h⟩
  · exact ⟨rfl, zb_gr hl h⟩
  · exact ⟨rfl, zb_gr hl h⟩
  · cases h
theorem zx_lk_filter {p : Nat × Value → Bool} {al : zx_L} {i : Nat} {a : Value} (h : zx_lk al i = some a) (hp : p (i, a) = true) : zx_lk (al.filter p) i = some a := by
  induction al with
  | nil => simp [zx_lk] at h
  | cons q r ih =>
    rw [zx_lk] at h
    split at h
    · next e =>
      have e' : q.1 = i := Nat.eq_of_beq_eq_true e
      have hq : q = (i, a) := by rw [← e', ← Option.some.inj h]
      rw [List.filter_cons, if_pos (by rw [hq]; exact hp), zx_lk, e]
      exact h
    · next e =>
      rw [List.filter_cons]
      split
      · rw [zx_lk, e]; exact ih h
      · exact ih h
theorem zb_V_L {u : Nat → Int} {n : Nat} {v : Value} {a : za_V} (hv : zb_V u n v a) : (v.category == 2) = za_isL a := by
  rw [zb_cat hv]
  cases za_isL a <;> rfl
theorem zb_beq (a b : Nat) : Nat.beq a b = (a == b) := by
  cases h : Nat.beq a b with
  | true => rw [Nat.eq_of_beq_eq_true h]; simp
  | false => have := Nat.ne_of_beq_eq_false h; simp [this]
theorem zx_lk_tl {i j : Nat} {v : Value} {r : zx_L} (h : ¬ i = j) : zx_lk ((i, v) :: r) j = zx_lk r j := by
  rw [zx_lk]
  have : Nat.beq i j = false := by rw [zb_beq]; simp [h]
  simp only [this]
theorem zx_lk_hd {i : Nat} {v : Value} {r : zx_L} : zx_lk ((i, v) :: r) i = some v := by
  rw [zx_lk]
  have : Nat.beq i i = true := by rw [zb_beq]; simp
  simp only [this]
theorem zb_set1 {u : Nat → Int} {n i : Nat} {ls : zx_L} {al : za_L} {v : Value} {a : za_V} (hl : zb_L u n ls al) (hv : zb_V u n v a) : zb_L u n (zx_set1 ls i v) (za_set1 al i a) := by
  intro q hq
  rw [za_set1] at hq
  rw [zx_set1]
  rcases List.mem_cons.mp hq with rfl | hq
  · exact ⟨v, zx_lk_hd, hv⟩
  · obtain ⟨h1, h2⟩ := List.mem_filter.mp hq
    obtain ⟨w, h3, h4⟩ := hl q h1
    simp only [zb_beq] at h2
    have hne : ¬ i = q.1 := fun e => by rw [e] at h2; simp at h2
    refine ⟨w, ?_, h4⟩
    rw [zx_lk_tl hne]
    refine zx_lk_filter h3 ?_
    simp only [zb_V_L h4]
    exact h2
theorem zb_set2 {u : Nat → Int} {n i : Nat} {ls : zx_L} {al : za_L} {v : Value} {a : za_V} (hl : zb_L u n ls al) (hv : zb_V u n v a) : zb_L u n (zx_set2 ls i v) (za_set2 al i a) := by
  intro q hq
  rw [za_set2] at hq
  rw [zx_set2]
  rcases List.mem_cons.mp hq with rfl | hq
  · exact ⟨v, zx_lk_hd, hv⟩
  · obtain ⟨h1, h2⟩ := List.mem_filter.mp hq
    obtain ⟨w, h3, h4⟩ := hl q h1
    simp only [zb_beq] at h2
    have hne : ¬ i = q.1 := fun e => by rw [e] at h2; simp at h2
    refine ⟨w, ?_, h4⟩
    rw [zx_lk_tl hne]
    refine zx_lk_filter h3 ?_
    simp only [zb_V_L h4]
    exact h2
theorem zb_blt {a b : Nat} (h : Nat.blt a b = true) : a < b := by
  unfold Nat.blt at h
  exact Nat.le_of_ble_eq_true h
theorem zb_st1 {nL k len l : Nat} {al al' : za_L} {a : za_V} {r r' : List za_V} (h : za_st1 nL k len al a r = some (l, al', r')) : k < nL ∧ l = len ∧ al' = za_set1 al k a ∧ r' = r := by
  unfold za_st1 at h
  split at h
  · next e => cases h; exact ⟨zb_blt e, rfl, rfl, rfl⟩
  · cases h
theorem zb_st2 {nL k len l : Nat} {al al' : za_L} {a : za_V} {r r' : List za_V} (h : za_st2 nL k len al a r = some (l, al', r')) : k + 1 < nL ∧ l = len ∧ al' = za_set2 al k a ∧ r' = r := by
  unfold za_st2 at h
  split at h
  · next e => cases h; exact ⟨zb_blt e, rfl, rfl, rfl⟩
  · cases h
set_option maxHeartbeats 4000000 in
theorem zb_t {u : Nat → Int} {n : za_N} {i : Instr} {nL l : Nat} {ls : zx_L} {al al' : za_L} {st : List Value} {as as' : List za_V} (hN : zb_N u n) (hl : zb_L u n.length ls al) (hs : zb_S u n.length st as) (h : za_t i nL al as = some (l, al', as')) : zx_s i st = none ∧ zx_l i ls = none ∧ ∃ ls' st', zx_t i nL ls st = some (l, ls', st') ∧ zb_L u n.length ls' al' ∧ zb_S u n.length st' as' := by
  unfold za_t at h
  split at h
  · obtain ⟨v, s1, rfl, h1, hs1⟩ := hs.c
    split at h
    · next hi =>
      obtain ⟨y, rfl, _⟩ := zb_iv hN h1 hi
      obtain ⟨e1, rfl, rfl, rfl⟩ := zb_st1 h
      exact ⟨rfl, rfl, _, _, by rw [zx_t, if_pos e1], zb_set1 hl h1, hs1⟩
    · cases h
  · obtain ⟨v, s1, rfl, h1, hs1⟩ := hs.c
    split at h
    · next hi =>
      obtain ⟨y, rfl, _⟩ := zb_iv hN h1 hi
      obtain ⟨e1, rfl, rfl, rfl⟩ := zb_st1 h
      exact ⟨rfl, rfl, _, _, by rw [zx_t, if_pos e1], zb_set1 hl h1, hs1⟩
    · cases h
  · obtain ⟨v, s1, rfl, h1, hs1⟩ := hs.c
    split at h
    · next hi =>
      obtain ⟨y, rfl⟩ := zb_isL h1 hi
      obtain ⟨e1, rfl, rfl, rfl⟩ := zb_st2 h
      exact ⟨rfl, rfl, _, _, by rw [zx_t, if_pos e1], zb_set2 hl h1, hs1⟩
    · cases h
  · obtain ⟨v, s1, rfl, h1, hs1⟩ := hs.c
    split at h
    · next hi =>
      obtain ⟨y, rfl⟩ := zb_isL h1 hi
      obtain ⟨e1, rfl, rfl, rfl⟩ := zb_st2 h
      exact ⟨rfl, rfl, _, _, by rw [zx_t, if_pos e1], zb_set2 hl h1, hs1⟩
    · cases h
  · next a r =>
    obtain ⟨v, s1, rfl, h1, hs1⟩ := hs.c
    have h3 : v = .ref a := h1
    subst h3
    obtain ⟨e1, rfl, rfl, rfl⟩ := zb_st1 h
    exact ⟨rfl, rfl, _, _, by rw [zx_t, if_pos e1], zb_set1 hl h1, hs1⟩
  · next a r =>
    obtain ⟨v, s1, rfl, h1, hs1⟩ := hs.c
    have h3 : v = .ref a := h1
    subst h3
    obtain ⟨e1, rfl, rfl, rfl⟩ := zb_st1 h
    exact ⟨rfl, rfl, _, _, by rw [zx_t, if_pos e1], zb_set1 hl h1, hs1⟩
  · cases h
theorem zb_inc {u : Nat → Int} {n n' : za_N} {i : Instr} {nL : Nat} {ls : zx_L} {al al' : za_L} (st : List Value) (hN : zb_N u n) (hl : zb_L u n.length ls al) (h : za_inc i nL n al = some (n', al')) : zx_s i st = none ∧ zx_l i ls = none ∧ ∃ ls' u', zx_t i nL ls st = some (3, ls', st) ∧ zb_X u u' n.length n'.length ∧ zb_N u' n' ∧ zb_L u' n'.length ls' al' := by
  unfold za_inc at h
  split at h
  · next k c =>
    split at h
    · next x e =>
      split at h
      · next hi =>
        obtain ⟨i1, i2⟩ := zb_and hi
        obtain ⟨w, h3, h4⟩ := hl _ (za_lk_mem e)
        obtain ⟨y, rfl, _⟩ := zb_iv hN h4 i1
        have h3 : zx_lk ls k = some (.int y) := h3
        split at h
        · next l2 n2 v r e2 =>
          cases h
          obtain ⟨_, u', hX, hN', hs'⟩ := zb_addW (r := []) (ar := []) (y := Int32.ofInt c) (b := .inr (.inl (Int32.ofInt c).toInt)) hN h4 ⟨_, rfl, rfl⟩ i1 rfl trivial e2
          exact ⟨rfl, rfl, _, u', by simp only [zx_t, h3]; rw [if_pos (zb_blt i2)], hX, hN', zb_set1 (hl.mo hX) hs'.1⟩
        · cases h
      · cases h
    · cases h
  · cases h
theorem zb_of {k : Int} (h1 : -2147483648 ≤ k) (h2 : k ≤ 2147483647) : (Int32.ofInt k).toInt = k := by
  rw [Int32.toInt_ofInt]; exact zb_bm h1 h2
theorem zb_tgs {pc : Nat} : ∀ {os : List Int} {l : List Nat} {j : Nat} {o : Int}, za_tgs pc os = some l → os[j]? = some o → ∃ t, zx_tg pc o = some t ∧ l[j]? = some t
  | [], _, _, _, _, h => by simp at h
  | a :: os, l, j, o, h, h2 => by
    rw [za_tgs] at h
    split at h
    · next t l' e1 e2 =>
      cases h
      cases j with
      | zero => rw [List.getElem?_cons_zero] at h2; cases h2; exact ⟨t, e1, rfl⟩
      | succ j => rw [List.getElem?_cons_succ] at h2; rw [List.getElem?_cons_succ]; exact zb_tgs e2 h2
    · cases h
theorem zb_sw {n n' : za_N} {x : za_V} {r : List za_V} : ∀ {l : List Nat} {k : Int} {j t : Nat}, l[j]? = some t → za_ceq n x (.inr (.inl (k + j))) = some n' → (n', t, r) ∈ za_sw n x r k l
  | [], _, _, _, h, _ => by simp at h
  | a :: l, k, j, t, h, h2 => by
    rw [za_sw]
    cases j with
    | zero =>
      rw [List.getElem?_cons_zero] at h
      cases h
      rw [show k + ((0 : Nat) : Int) = k by simp] at h2
      rw [h2]
      exact List.mem_append_left _ List.mem_cons_self
    | succ j =>
      rw [List.getElem?_cons_succ] at h
      exact List.mem_append_right _ (zb_sw h (by rw [show k + 1 + (j : Int) = k + ((j + 1 : Nat) : Int) by omega]; exact h2))
theorem zb_ls {n n' : za_N} {x : za_V} {r : List za_V} : ∀ {ks : List Int} {l : List Nat} {j t : Nat} {k : Int}, ks[j]? = some k → l[j]? = some t → za_ceq n x (.inr (.inl k)) = some n' → (n', t, r) ∈ za_ls n x r ks l
  | [], _, _, _, _, h, _, _ => by simp at h
  | _ :: _, [], _, _, _, _, h, _ => by simp at h
  | a :: ks, b :: l, j, t, k, h1, h2, h3 => by
    rw [za_ls]
    cases j with
    | zero =>
      rw [List.getElem?_cons_zero] at h1 h2
      cases h1; cases h2
      rw [h3]
      exact List.mem_append_left _ List.mem_cons_self
    | succ j =>
      rw [List.getElem?_cons_succ] at h1 h2
      exact List.mem_append_right _ (zb_ls h1 h2 h3)
theorem zb_zs {u : Nat → Int} {n : za_N} {x : Int32} {a : za_V} {k : Jvm.ClassFile.Cond} {t : Nat} {r : List za_V} (hN : zb_N u n) (ha : zb_V u n.length (.int x) a) (ia : za_isI a = true) (h : zx_cmp k x 0 = true) : ∃ n', (n', t, r) ∈ za_zs k n a t r ∧ zb_N u n' ∧ n'.length = n.length := by
  have h0 : zb_V u n.length (.int 0) (.inr (.inl 0)) := ⟨0, rfl, Int32.toInt_zero⟩
  unfold za_zs
  split
  · have hne : ¬ x = 0 := by simpa [zx_cmp] using h
    have h1 := zb_ne_lt hne
    rw [Int32.toInt_zero] at h1
    by_cases c : x.toInt < 0
    · obtain ⟨n', e1, e2, e3⟩ := zb_cl (d := 1) hN ha h0 ia rfl (by rw [Int32.toInt_zero]; omega)
      exact ⟨n', List.mem_append_left _ (by rw [e1]; exact List.mem_cons_self), e2, e3⟩
    · obtain ⟨n', e1, e2, e3⟩ := zb_cl (d := 1) hN h0 ha rfl ia (by rw [Int32.toInt_zero]; omega)
      exact ⟨n', List.mem_append_right _ (by rw [e1]; exact List.mem_cons_self), e2, e3⟩
  · obtain ⟨n', e1, e2, e3⟩ := zb_br (b := .inr (.inl 0)) hN ha h0 ia rfl h
    exact ⟨n', by rw [e1]; exact List.mem_cons_self, e2, e3⟩
theorem zb_off {d k : Int} : ∀ (ps : List (Int × Int)), Op.lookupswitch.offset ps d k = d ∨ ∃ (j : Nat) (o : Int), (ps.map (fun q => q.1))[j]? = some k ∧ (ps.map (fun q => q.2))[j]? = some o ∧ Op.lookupswitch.offset ps d k = o
  | [] => Or.inl rfl
  | (a, o) :: r => by
    rw [Op.lookupswitch.offset_cons]
    split
    · next e => exact Or.inr ⟨0, o, by rw [List.map_cons, List.getElem?_cons_zero]; simp [e], rfl, rfl⟩
    · rcases zb_off r with h | ⟨j, o', h1, h2, h3⟩
      · exact Or.inl h
      · exact Or.inr ⟨j + 1, o', h1, h2, h3⟩
set_option maxHeartbeats 4000000 in
theorem zb_j {u : Nat → Int} {n : za_N} {i : Instr} {len pc nL : Nat} {st : List Value} {as : List za_V} {l : List (za_N × Nat × List za_V)} (ls : zx_L) (hN : zb_N u n) (hs : zb_S u n.length st as) (h : za_j i len pc n as = some l) : zx_s i st = none ∧ zx_l i ls = none ∧ zx_t i nL ls st = none ∧ ∃ pc' st' n' as', zx_j i len pc st = some (pc', st') ∧ (n', pc', as') ∈ l ∧ zb_N u n' ∧ n'.length = n.length ∧ zb_S u n.length st' as' := by
  unfold za_j at h
  split at h
  · split at h
    · next hn =>
      have hn := Nat.eq_of_beq_eq_true hn
      obtain ⟨t, ht, e9⟩ := Option.map_eq_some_iff.mp h
      cases e9
      exact ⟨rfl, rfl, rfl, t, st, n, _, by rw [zx_j, if_pos hn, ht]; rfl, List.mem_cons_self, hN, rfl, hs⟩
    · cases h
  · next k off x r =>
    obtain ⟨v, s1, rfl, h1, hs1⟩ := hs.c
    split at h
    · next hi =>
      obtain ⟨hn, i1⟩ := zb_and hi
      have hn := Nat.eq_of_beq_eq_true hn
      obtain ⟨y, rfl, _⟩ := zb_iv hN h1 i1
      obtain ⟨t, ht, e9⟩ := Option.map_eq_some_iff.mp h
      cases e9
      by_cases hc : zx_cmp k y 0 = true
      · obtain ⟨n', e1, e2, e3⟩ := zb_zs (t := t) (r := r) hN h1 i1 hc
        exact ⟨rfl, rfl, rfl, t, s1, n', r, by rw [zx_j, if_pos hn, ht]; simp only [hc, if_true], List.mem_append_left _ e1, e2, e3, hs1⟩
      · obtain ⟨n', e1, e2, e3⟩ := zb_zs (t := pc + 3) (r := r) hN h1 i1 (zb_ng hc)
        exact ⟨rfl, rfl, rfl, pc + 3, s1, n', r, by rw [zx_j, if_pos hn, ht]; simp only [hc]; rfl, List.mem_append_right _ e1, e2, e3, hs1⟩
    · cases h
  · next k off y x r =>
    obtain ⟨v, s1, rfl, h1, hs1⟩ := hs.c
    obtain ⟨w, s2, rfl, h2, hs2⟩ := hs1.c
    split at h
    · next hi =>
      obtain ⟨hn, hi⟩ := zb_and hi
      obtain ⟨i1, i2⟩ := zb_and hi
      have hn := Nat.eq_of_beq_eq_true hn
      obtain ⟨cy, rfl, _⟩ := zb_iv hN h1 i2
      obtain ⟨cx, rfl, _⟩ := zb_iv hN h2 i1
      obtain ⟨t, ht, e9⟩ := Option.map_eq_some_iff.mp h
      cases e9
      by_cases hc : zx_cmp k cx cy = true
      · obtain ⟨n', e1, e2, e3⟩ := zb_br hN h2 h1 i1 i2 hc
        exact ⟨rfl, rfl, rfl, t, s2, n', r, by rw [zx_j, if_pos hn, ht]; simp only [hc, if_true], List.mem_append_left _ (by rw [e1]; exact List.mem_cons_self), e2, e3, hs2⟩
      · obtain ⟨n', e1, e2, e3⟩ := zb_br hN h2 h1 i1 i2 (zb_ng hc)
        exact ⟨rfl, rfl, rfl, pc + 3, s2, n', r, by rw [zx_j, if_pos hn, ht]; simp only [hc]; rfl, List.mem_append_right _ (by rw [e1]; exact List.mem_cons_self), e2, e3, hs2⟩
    · cases h
  · next dflt lo hi offs x r =>
    obtain ⟨v, s1, rfl, h1, hs1⟩ := hs.c
    split at h
    · next hi9 =>
      obtain ⟨hi9, i4⟩ := zb_and hi9
      obtain ⟨hi9, i3⟩ := zb_and hi9
      obtain ⟨i1, i2⟩ := zb_and hi9
      rw [decide_eq_true_eq] at i2
      rw [za_le_iff] at i4
      obtain ⟨i5, i6⟩ := zb_inr i3
      obtain ⟨y, rfl, _⟩ := zb_iv hN h1 i1
      split at h
      · next d l9 hd hl9 =>
        cases h
        have vlo : zb_V u n.length (.int (Int32.ofInt lo)) (.inr (.inl lo)) := ⟨_, rfl, zb_of i5 (by omega)⟩
        have vhi : zb_V u n.length (.int (Int32.ofInt hi)) (.inr (.inl hi)) := ⟨_, rfl, zb_of (by omega) i6⟩
        by_cases c1 : y.toInt < lo
        · obtain ⟨n', e1, e2, e3⟩ := zb_cl (d := 1) hN h1 vlo i1 rfl (by rw [zb_of i5 (by omega)]; omega)
          exact ⟨rfl, rfl, rfl, d, s1, n', r, by rw [zx_j, if_pos (Or.inl c1), hd]; rfl, List.mem_append_left _ (by rw [e1]; exact List.mem_cons_self), e2, e3, hs1⟩
        · by_cases c2 : hi < y.toInt
          · obtain ⟨n', e1, e2, e3⟩ := zb_cl (d := 1) hN vhi h1 rfl i1 (by rw [zb_of (by omega) i6]; omega)
            exact ⟨rfl, rfl, rfl, d, s1, n', r, by rw [zx_j, if_pos (Or.inr c2), hd]; rfl, List.mem_append_right _ (List.mem_append_left _ (by rw [e1]; exact List.mem_cons_self)), e2, e3, hs1⟩
          · have hj : (y.toInt - lo).toNat < offs.toList.length := by omega
            obtain ⟨o, ho⟩ : ∃ o, offs.toList[(y.toInt - lo).toNat]? = some o := ⟨_, List.getElem?_eq_getElem hj⟩
            obtain ⟨t, ht, hlt⟩ := zb_tgs hl9 ho
            have ho2 : offs[(y.toInt - lo).toNat]? = some o := by rw [← Array.getElem?_toList]; exact ho
            have hk : lo + (((y.toInt - lo).toNat : Nat) : Int) = y.toInt := by omega
            obtain ⟨n', e1, e2, e3⟩ := zb_ceq (b := .inr (.inl (lo + (((y.toInt - lo).toNat : Nat) : Int)))) hN h1 (y := y) ⟨y, rfl, hk.symm⟩ i1 rfl rfl
            exact ⟨rfl, rfl, rfl, t, s1, n', r, by rw [zx_j, if_neg (fun z => z.elim c1 c2), ho2]; simp only [ht]; rfl, List.mem_append_right _ (List.mem_append_right _ (zb_sw hlt e1)), e2, e3, hs1⟩
      · cases h
    · cases h
  · next dflt ps x r =>
    obtain ⟨v, s1, rfl, h1, hs1⟩ := hs.c
    split at h
    · next hi9 =>
      obtain ⟨i1, i2⟩ := zb_and hi9
      obtain ⟨y, rfl, _⟩ := zb_iv hN h1 i1
      split at h
      · next d l9 hd hl9 =>
        cases h
        rcases zb_off (d := dflt) (k := y.toInt) ps.toList with e | ⟨j, o, e1, e2, e3⟩
        · exact ⟨rfl, rfl, rfl, d, s1, n, r, by rw [zx_j, if_pos i2, e, hd]; rfl, List.mem_cons_self, hN, rfl, hs1⟩
        · obtain ⟨t, ht, hlt⟩ := zb_tgs hl9 e2
          obtain ⟨n', f1, f2, f3⟩ := zb_ceq (b := .inr (.inl y.toInt)) hN h1 (y := y) ⟨y, rfl, rfl⟩ i1 rfl rfl
          exact ⟨rfl, rfl, rfl, t, s1, n', r, by rw [zx_j, if_pos i2, e3, ht]; rfl, List.mem_cons_of_mem _ (zb_ls e1 hlt f1), f2, f3, hs1⟩
      · cases h
    · cases h
  · cases h
