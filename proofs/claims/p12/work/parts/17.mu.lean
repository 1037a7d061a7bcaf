/-! ===== 17: measures; places ===== -/
def zb_ev (u : Nat → Int) : List (Nat × Int) → Int
  | [] => 0
  | q :: r => q.2 * u q.1 + zb_ev u r
def zb_sm (t : List (Nat × Int)) (u : Nat → Int) : Nat → za_N → Int
  | _, [] => 0
  | b, _ :: r => za_co t b * u b + zb_sm t u (b + 1) r
theorem zb_sm_nil (u : Nat → Int) : ∀ (n : za_N) (b : Nat), zb_sm [] u b n = 0
  | [], _ => rfl
  | _ :: r, b => by rw [zb_sm, zb_sm_nil u r, za_co]; simp
theorem zb_sm_cons (q : Nat × Int) (t : List (Nat × Int)) (u : Nat → Int) : ∀ (n : za_N) (b : Nat), zb_sm (q :: t) u b n = zb_sm t u b n + (if b ≤ q.1 ∧ q.1 < b + n.length then q.2 * u q.1 else 0)
  | [], b => by rw [zb_sm, zb_sm, if_neg (by rw [List.length_nil]; omega)]; rfl
  | z :: r, b => by
    rw [zb_sm, zb_sm, zb_sm_cons q t u r (b + 1), za_co, List.length_cons]
    split
    · next e =>
      have e := Nat.eq_of_beq_eq_true e
      subst e
      rw [if_neg (by omega), if_pos (by omega), Int.add_mul]
      omega
    · next e =>
      have e := Nat.ne_of_beq_eq_false e
      by_cases c : q.1 = b
      · exact absurd c e
      · by_cases c2 : b + 1 ≤ q.1 ∧ q.1 < b + 1 + r.length
        · rw [if_pos c2, if_pos (by omega)]; omega
        · rw [if_neg c2, if_neg (by omega)]; omega
theorem zb_ev_sm (u : Nat → Int) (n : za_N) : ∀ (t : List (Nat × Int)), (∀ q ∈ t, q.1 < n.length) → zb_ev u t = zb_sm t u 0 n
  | [], _ => (zb_sm_nil u n 0).symm
  | q :: t, h => by
    have h1 := h q List.mem_cons_self
    rw [zb_sm_cons, zb_ev, zb_ev_sm u n t (fun z hz => h z (List.mem_cons_of_mem _ hz)), if_pos ⟨Nat.zero_le _, by omega⟩]
    omega
theorem zb_sm_ub (t : List (Nat × Int)) (u : Nat → Int) : ∀ (n : za_N) (b : Nat), (∀ (j : Nat) (q : Int × Int), n[j]? = some q → q.1 ≤ u (b + j) ∧ u (b + j) ≤ q.2) → zb_sm t u b n ≤ za_ub t b n
  | [], b, _ => by rw [zb_sm, za_ub]; exact Int.le_refl _
  | z :: r, b, h => by
    have h1 := h 0 z rfl
    rw [Nat.add_zero] at h1
    have h2 := zb_sm_ub t u r (b + 1) (fun j q e => by rw [show b + 1 + j = b + (j + 1) by omega]; exact h (j + 1) q e)
    rw [zb_sm, za_ub]
    split
    · next e =>
      have e := za_le_iff.mp e
      have := Int.mul_le_mul_of_nonneg_left h1.2 e
      omega
    · next e =>
      have e : ¬ 0 ≤ za_co t b := fun z => Bool.noConfusion (e.symm.trans (za_le_iff.mpr z))
      have := Int.mul_le_mul_of_nonpos_left (a := za_co t b) (by omega) h1.1
      omega
def zb_dot : List Int → List Int → Int
  | w :: ws, x :: xs => w * x + zb_dot ws xs
  | _, _ => 0
theorem zb_lin {u : Nat → Int} {n : Nat} : ∀ {ws xs : List Int} {vs : List za_V}, zb_A (zb_VI u n) xs vs → zb_dot ws xs = (za_lin ws vs).1 + zb_ev u (za_lin ws vs).2 ∧ ∀ q ∈ (za_lin ws vs).2, q.1 < n
  | [], [], [], _ => ⟨rfl, fun q h => absurd h List.not_mem_nil⟩
  | [], _ :: _, [], h => h.elim
  | [], [], _ :: _, h => h.elim
  | [], _ :: _, v :: _, _ => ⟨rfl, fun q h => absurd h List.not_mem_nil⟩
  | w :: ws, [], [], _ => ⟨rfl, fun q h => absurd h List.not_mem_nil⟩
  | w :: ws, [], _ :: _, h => h.elim
  | w :: ws, _ :: _, [], h => h.elim
  | w :: ws, x :: xs, .inl (b, c) :: vs, h => by
    obtain ⟨⟨h1, h2⟩, h3⟩ := h
    obtain ⟨a1, a2⟩ := zb_lin (ws := ws) h3
    rw [zb_dot, za_lin]
    dsimp only
    rw [zb_ev, a1, h2, Int.mul_add]
    dsimp only
    refine ⟨by omega, fun q hq => ?_⟩
    rcases List.mem_cons.mp hq with rfl | hq
    · exact h1
    · exact a2 q hq
  | w :: ws, x :: xs, .inr (.inl k) :: vs, h => by
    obtain ⟨h1, h3⟩ := h
    have h1 : x = k := h1
    obtain ⟨a1, a2⟩ := zb_lin (ws := ws) h3
    rw [zb_dot, za_lin]
    dsimp only
    rw [a1, h1]
    exact ⟨by omega, a2⟩
  | w :: ws, x :: xs, .inr (.inr _) :: vs, h => h.1.elim
theorem zb_neg_lt : ∀ (ws : List Int) (b : Nat), ∀ q ∈ za_neg b ws, q.1 < b + ws.length
  | [], b, q, h => absurd h List.not_mem_nil
  | w :: ws, b, q, h => by
    rw [za_neg] at h
    rcases List.mem_cons.mp h with rfl | h
    · simp
    · have := zb_neg_lt ws (b + 1) q h; simp; omega
theorem zb_neg_ev (u : Nat → Int) : ∀ (ws xs : List Int) (b : Nat), ws.length ≤ xs.length → (∀ (j : Nat) (x : Int), xs[j]? = some x → x = u (b + j)) → zb_ev u (za_neg b ws) = - zb_dot ws xs
  | [], xs, b, _, _ => by cases xs <;> rfl
  | w :: ws, [], b, h, _ => by simp at h
  | w :: ws, x :: xs, b, h, hx => by
    rw [za_neg, zb_ev, zb_dot, zb_neg_ev u ws xs (b + 1) (by simpa using h) (fun j y e => by rw [show b + 1 + j = b + (j + 1) by omega]; exact hx (j + 1) y e), hx 0 x rfl, Nat.add_zero]
    dsimp only
    rw [Int.neg_mul]
    omega
theorem zb_ev_app (u : Nat → Int) : ∀ (s t : List (Nat × Int)), zb_ev u (s ++ t) = zb_ev u s + zb_ev u t
  | [], t => by rw [List.nil_append, zb_ev]; omega
  | q :: s, t => by rw [List.cons_append, zb_ev, zb_ev, zb_ev_app u s t]; omega
theorem zb_ev_eq {u u' : Nat → Int} : ∀ {t : List (Nat × Int)}, (∀ q ∈ t, u q.1 = u' q.1) → zb_ev u t = zb_ev u' t
  | [], _ => rfl
  | q :: t, h => by rw [zb_ev, zb_ev, h q List.mem_cons_self, zb_ev_eq (fun z hz => h z (List.mem_cons_of_mem _ hz))]
/-- the ints of a list of values -/
def zb_toI (v : Option Value) : Int := match v with
  | some (.int x) => x.toInt
  | _ => 0
def zb_xs : List za_T → List Value → List Int
  | .inl _ :: ts, v :: vs => zb_toI (some v) :: zb_xs ts vs
  | .inr _ :: ts, _ :: vs => zb_xs ts vs
  | _, _ => []
/-- new bases for values of kinds -/
theorem zb_ini : ∀ {ts : List za_T} {xs : List Value} {n : za_N} {u : Nat → Int}, zb_A zb_T xs ts → zb_N u n → ∃ u', zb_X u u' n.length (za_ini ts n).1.length ∧ zb_N u' (za_ini ts n).1 ∧ zb_S u' (za_ini ts n).1.length xs (za_ini ts n).2 ∧ (za_ini ts n).1.length = n.length + (zb_xs ts xs).length ∧ ∀ (j : Nat) (x : Int), (zb_xs ts xs)[j]? = some x → x = u' (n.length + j)
  | [], [], n, u, _, hN => ⟨u, zb_X.rf, hN, trivial, rfl, fun j x h => by simp [zb_xs] at h⟩
  | [], _ :: _, _, _, h, _ => h.elim
  | _ :: _, [], _, _, h, _ => h.elim
  | .inl q :: ts, v :: vs, n, u, h, hN => by
    obtain ⟨⟨x, rfl, x1, x2⟩, h2⟩ := h
    have hX : zb_X u (zb_up u n.length x.toInt) n.length (n ++ [q]).length := by rw [zb_len]; exact zb_up_X _ _ _
    obtain ⟨u', hX', hN', hs', hl, hj⟩ := zb_ini (ts := ts) h2 (zb_up_N (z := x.toInt) hN x1 x2)
    have hb : u' n.length = x.toInt := by
      rw [hX'.2 n.length (by rw [zb_len]; omega)]; unfold zb_up; rw [if_pos rfl]
    rw [za_ini, zb_xs]
    dsimp only
    rw [zb_len] at hl hj
    refine ⟨u', hX.tr hX', hN', ⟨⟨by rw [hl]; omega, x, rfl, by rw [hb]; omega⟩, hs'⟩, by rw [hl, List.length_cons]; omega, fun j y e => ?_⟩
    cases j with
    | zero => rw [List.getElem?_cons_zero] at e; rw [Nat.add_zero, hb, ← Option.some.inj e]; rfl
    | succ j => rw [List.getElem?_cons_succ] at e; rw [hj j y e]; congr 1; omega
  | .inr (.inl _) :: ts, v :: vs, n, u, h, hN => by
    obtain ⟨u', hX', hN', hs', hl, hj⟩ := zb_ini (ts := ts) h.2 hN
    rw [za_ini, zb_xs]
    exact ⟨u', hX', hN', ⟨h.1, hs'⟩, hl, hj⟩
  | .inr (.inr a) :: ts, v :: vs, n, u, h, hN => by
    obtain ⟨u', hX', hN', hs', hl, hj⟩ := zb_ini (ts := ts) h.2 hN
    rw [za_ini, zb_xs]
    exact ⟨u', hX', hN', ⟨h.1, hs'⟩, hl, hj⟩
/-- a place's words, of locals, stack and heap -/
def zb_P (c : za_Q) (ls : zx_L) (st : List Value) (h : zx_H) : Prop :=
  (∀ z ∈ c.1, ∃ v, zx_lk ls z.1 = some v ∧ zb_T v z.2) ∧ zb_A zb_T st c.2.1 ∧ ∀ z ∈ c.2.2.1, ∃ v, zx_fld h z.1.1 z.1.2 = some v ∧ zb_T v (.inl z.2)
/-- a place's values, its measure -/
def zb_vl (c : za_Q) (ls : zx_L) (st : List Value) (h : zx_H) : List Value := c.1.map (fun z => (zx_lk ls z.1).getD .null) ++ (st ++ c.2.2.1.map (fun z => (zx_fld h z.1.1 z.1.2).getD .null))
def zb_tl (c : za_Q) : List za_T := c.1.map (fun z => z.2) ++ (c.2.1 ++ c.2.2.1.map (fun z => .inl z.2))
def zb_mu (c : za_Q) (ls : zx_L) (st : List Value) (h : zx_H) : Int := c.2.2.2.1 + zb_dot c.2.2.2.2 (zb_xs (zb_tl c) (zb_vl c ls st h))
theorem zb_A.mapL {γ : Type} {α β : Type} {R : α → β → Prop} {f : γ → α} {g : γ → β} : ∀ {l : List γ}, (∀ z ∈ l, R (f z) (g z)) → zb_A R (l.map f) (l.map g)
  | [], _ => trivial
  | z :: l, h => ⟨h z List.mem_cons_self, zb_A.mapL (fun y hy => h y (List.mem_cons_of_mem _ hy))⟩
theorem zb_P.tl {c : za_Q} {ls : zx_L} {st : List Value} {h : zx_H} (hp : zb_P c ls st h) : zb_A zb_T (zb_vl c ls st h) (zb_tl c) := by
  refine zb_A.app (zb_A.mapL fun z hz => ?_) (zb_A.app hp.2.1 (zb_A.mapL fun z hz => ?_))
  · obtain ⟨v, h1, h2⟩ := hp.1 z hz; rw [h1]; exact h2
  · obtain ⟨v, h1, h2⟩ := hp.2.2 z hz; rw [h1]; exact h2
theorem zb_A.splitL {α β : Type} {R : α → β → Prop} : ∀ {l l' : List α} {m : List β}, zb_A R (l ++ l') m → zb_A R l (m.take l.length) ∧ zb_A R l' (m.drop l.length)
  | [], l', m, h => ⟨by rw [List.length_nil, List.take_zero]; trivial, h⟩
  | a :: l, l', [], h => h.elim
  | a :: l, l', b :: m, h => by
    obtain ⟨h1, h2⟩ := zb_A.splitL (l := l) (l' := l') (m := m) h.2
    exact ⟨⟨h.1, h1⟩, h2⟩
theorem zb_zipL {u : Nat → Int} {n : Nat} {ls : zx_L} : ∀ {l : List (Nat × za_T)} {vs : List za_V}, (∀ z ∈ l, ∃ v, zx_lk ls z.1 = some v ∧ zb_T v z.2) → zb_S u n (l.map (fun z => (zx_lk ls z.1).getD .null)) vs → zb_L u n ls ((l.map (fun z => z.1)).zip vs)
  | [], _, _, _ => fun q hq => by simp at hq
  | z :: l, [], _, h => h.elim
  | z :: l, v :: vs, hz, h => by
    intro q hq
    rw [List.map_cons, List.zip_cons_cons] at hq
    rcases List.mem_cons.mp hq with rfl | hq
    · obtain ⟨w, h1, _⟩ := hz z List.mem_cons_self
      have := h.1
      dsimp only at this
      rw [h1] at this
      exact ⟨w, h1, this⟩
    · exact zb_zipL (fun y hy => hz y (List.mem_cons_of_mem _ hy)) h.2 q hq
theorem zb_zipF {u : Nat → Int} {n : Nat} {hp : zx_H} : ∀ {l : List ((Nat × Nat) × (Int × Int))} {vs : List za_V}, (∀ z ∈ l, ∃ v, zx_fld hp z.1.1 z.1.2 = some v ∧ zb_T v (.inl z.2)) → zb_S u n (l.map (fun z => (zx_fld hp z.1.1 z.1.2).getD .null)) vs → zb_F u n hp ((l.map (fun z => z.1)).zip vs)
  | [], _, _, _ => fun q hq => by simp at hq
  | z :: l, [], _, h => h.elim
  | z :: l, v :: vs, hz, h => by
    intro q hq
    rw [List.map_cons, List.zip_cons_cons] at hq
    rcases List.mem_cons.mp hq with rfl | hq
    · obtain ⟨w, h1, _⟩ := hz z List.mem_cons_self
      have := h.1
      dsimp only at this
      rw [h1] at this
      exact ⟨w, h1, this⟩
    · exact zb_zipF (fun y hy => hz y (List.mem_cons_of_mem _ hy)) h.2 q hq
theorem zb_start (P : zx_P) (d : Nat) {c : za_Q} {ls : zx_L} {st : List Value} {h : zx_H} (hp : zb_P c ls st h) : ∃ u, zb_Q P d u (za_start c) ls st h ∧ (za_start c).1.length = (zb_xs (zb_tl c) (zb_vl c ls st h)).length ∧ ∀ (j : Nat) (x : Int), (zb_xs (zb_tl c) (zb_vl c ls st h))[j]? = some x → x = u j := by
  obtain ⟨u, hX, hN, hs, hl, hj⟩ := zb_ini (n := []) (u := fun _ => 0) hp.tl (fun b q e => by simp at e)
  have e0 : za_start c = ((za_ini (zb_tl c) []).1, (c.1.map (fun z => z.1)).zip ((za_ini (zb_tl c) []).2.take c.1.length), ((za_ini (zb_tl c) []).2.drop c.1.length).take c.2.1.length, (c.2.2.1.map (fun z => z.1)).zip ((za_ini (zb_tl c) []).2.drop (c.1.length + c.2.1.length)), []) := rfl
  have hs0 : zb_S u (za_ini (zb_tl c) []).1.length (zb_vl c ls st h) (za_ini (zb_tl c) []).2 := hs
  obtain ⟨s1, s2⟩ := zb_A.splitL hs0
  rw [List.length_map] at s1 s2
  obtain ⟨s3, s4⟩ := zb_A.splitL s2
  rw [zb_A.len hp.2.1, List.drop_drop] at s4
  rw [zb_A.len hp.2.1] at s3
  refine ⟨u, ?_, ?_, fun j x e => by have := hj j x e; rw [this]; congr 1; simp⟩
  · rw [e0]
    exact ⟨hN, zb_zipL hp.1 s1, s3, zb_zipF hp.2.2 s4, fun z hz => absurd hz List.not_mem_nil⟩
  · rw [e0]; dsimp only; rw [hl]; simp
