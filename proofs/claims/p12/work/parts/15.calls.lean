/-! ===== 15: calls ===== -/
def zb_R (r : Option Value) (t : Option za_T) : Prop := match r, t with
  | none, none => True
  | some v, some t => zb_T v t
  | _, _ => False
def zb_ca : List Value → List za_T → List (Int × Int) → Prop
  | v :: vs, .inl _ :: ts, c :: cs => (∃ x : Int32, v = .int x ∧ c.1 ≤ x.toInt ∧ x.toInt ≤ c.2) ∧ zb_ca vs ts cs
  | _ :: vs, .inr _ :: ts, cs => zb_ca vs ts cs
  | _, _, _ => True
/-- what a contract means -/
def zb_K (P : zx_P) (HT : List za_D) (k : za_K) : Prop := ∀ q, (zx_pm P)[k.1]? = some q → ∀ (vs : List Value) (h : zx_H), zb_A zb_T vs k.2.2.1 → zb_I HT h →
  zx_T P k.2.1 q 0 (lv_args 0 vs) [] h (fun r h' => zb_I HT h' ∧ zb_W k.2.2.2.2 h h' ∧ (k.2.2.2.2 = [] → h' = h) ∧ ∃ c ∈ k.2.2.2.1, zb_R r c.1 ∧ zb_ca vs k.2.2.1 c.2)
def zb_C (P : zx_P) (d : Nat) (u : Nat → Int) (n : Nat) (h : zx_H) (cf : za_C) : Prop := ∀ z ∈ cf, za_exact z.2.1 = true ∧ ∃ q vs m v, (zx_pm P)[z.1]? = some q ∧ zb_S u n vs z.2.1 ∧ zx_x P m d q 0 (lv_args 0 vs) [] h = some (some v, h) ∧ zb_V u n v z.2.2
theorem zb_C.mo {P : zx_P} {d : Nat} {u u' : Nat → Int} {n n' : Nat} {h : zx_H} {cf : za_C} (hX : zb_X u u' n n') (hv : zb_C P d u n h cf) : zb_C P d u' n' h cf := fun z hz => by
  obtain ⟨h1, q, vs, m, v, h2, h3, h4, h5⟩ := hv z hz
  exact ⟨h1, q, vs, m, v, h2, zb_S.mo hX h3, h4, h5.mo hX⟩
theorem zb_ex {u u' : Nat → Int} {n n' : Nat} : ∀ {as : List za_V} {vs vs' : List Value}, za_exact as = true → zb_S u n vs as → zb_S u' n' vs' as → vs = vs'
  | [], [], [], _, _, _ => rfl
  | [], _ :: _, _, _, h, _ => h.elim
  | [], [], _ :: _, _, _, h => h.elim
  | .inr (.inl k) :: as, v :: vs, v' :: vs', e, h, h' => by
    obtain ⟨x, rfl, h1⟩ := h.1
    obtain ⟨y, rfl, h2⟩ := h'.1
    rw [Int32.toInt_inj.mp (h1.trans h2.symm), zb_ex (as := as) e h.2 h'.2]
  | .inr (.inr (.inl a)) :: as, v :: vs, v' :: vs', e, h, h' => by
    have h1 : v = .ref a := h.1
    have h2 : v' = .ref a := h'.1
    rw [h1, h2, zb_ex (as := as) e h.2 h'.2]
  | .inr (.inr (.inr _)) :: _, _, _, e, _, _ => by simp [za_exact] at e
  | .inl _ :: _, _, _, e, _, _ => by simp [za_exact] at e
  | _ :: _, [], _, _, h, _ => h.elim
  | _ :: _, _ :: _, [], _, _, h => h.elim
theorem za_cf_mem {cf : za_C} {cj : Nat} {as : List za_V} {v : za_V} (h : za_cf cf cj as = some v) : (cj, as, v) ∈ cf := by
  induction cf with
  | nil => simp [za_cf] at h
  | cons q r ih =>
    rw [za_cf] at h
    split at h
    · next e =>
      obtain ⟨e1, e2⟩ := zb_and e
      rw [decide_eq_true_eq] at e2
      have : q = (cj, as, v) := by rw [← Nat.eq_of_beq_eq_true e1, ← e2, ← Option.some.inj h]
      rw [this]; exact List.mem_cons_self
    · exact List.mem_cons_of_mem _ (ih h)
theorem zb_mt {u : Nat → Int} {n : za_N} {v : Value} {a : za_V} {t : za_T} (hN : zb_N u n) (hv : zb_V u n.length v a) (h : za_mt n t a = true) : zb_T v t := by
  unfold za_mt at h
  split at h
  · obtain ⟨i1, i2⟩ := zb_and h
    obtain ⟨x, rfl, x1, x2⟩ := zb_iv hN hv i1
    have := zb_sub2 i2
    exact ⟨x, rfl, by omega, by omega⟩
  · exact zb_isL hv h
  · split at h
    · next a b =>
      have h1 : v = .ref b := hv
      rw [Nat.eq_of_beq_eq_true h]; exact h1
    · cases h
theorem zb_mts {u : Nat → Int} {n : za_N} (hN : zb_N u n) : ∀ {vs : List Value} {as : List za_V} {ts : List za_T}, zb_S u n.length vs as → za_mts n ts as = true → zb_A zb_T vs ts
  | [], [], [], _, _ => trivial
  | v :: vs, a :: as, t :: ts, h, e => by
    rw [za_mts] at e
    obtain ⟨e1, e2⟩ := zb_and e
    exact ⟨zb_mt hN h.1 e1, zb_mts hN h.2 e2⟩
  | [], _ :: _, _, h, _ => h.elim
  | _ :: _, [], _, h, _ => h.elim
  | [], [], _ :: _, _, e => by simp [za_mts] at e
  | _ :: _, _ :: _, [], _, e => by simp [za_mts] at e
/-- an int's number -/
def zb_VI (u : Nat → Int) (n : Nat) (x : Int) (a : za_V) : Prop := match a with
  | .inl (b, c) => b < n ∧ x = u b + c
  | .inr (.inl k) => x = k
  | _ => False
theorem zb_VI.of {u : Nat → Int} {n : Nat} {x : Int32} {a : za_V} (h : zb_V u n (.int x) a) : zb_VI u n x.toInt a := by
  unfold zb_V at h
  unfold zb_VI
  split at h
  · obtain ⟨h1, y, h2, h3⟩ := h; cases h2; exact ⟨h1, h3⟩
  · obtain ⟨y, h2, h3⟩ := h; cases h2; exact h3
  · cases h
  · obtain ⟨y, h2⟩ := h; cases h2
theorem zb_ivI {u : Nat → Int} {n : za_N} {x : Int} {a : za_V} (hN : zb_N u n) (hv : zb_VI u n.length x a) : (za_iv n a).1 ≤ x ∧ x ≤ (za_iv n a).2 := by
  unfold zb_VI at hv
  unfold za_iv
  split at hv
  · next b c =>
    obtain ⟨h1, h3⟩ := hv
    obtain ⟨q, hq⟩ : ∃ q, n[b]? = some q := ⟨n[b], List.getElem?_eq_getElem h1⟩
    have := hN b q hq
    simp only [hq]
    omega
  · simp only; omega
  · exact hv.elim
theorem zb_hiI {u : Nat → Int} {n : za_N} {x : Int} {a : za_V} {m : Int} (hN : zb_N u n) (hv : zb_VI u n.length x a) (h : x ≤ m) : zb_N u (za_hi n a m) ∧ (za_hi n a m).length = n.length := by
  unfold za_hi
  split
  · next b c =>
    obtain ⟨h1, h3⟩ := hv
    split
    · next q hq =>
      refine ⟨fun b' r hr => ?_, by simp⟩
      rw [List.getElem?_set] at hr
      split at hr
      · next e =>
        subst e
        cases hr
        have := hN _ q hq
        exact ⟨this.1, za_min_le.mpr ⟨this.2, by omega⟩⟩
      · exact hN _ _ hr
    · exact ⟨hN, rfl⟩
  · exact ⟨hN, rfl⟩
theorem zb_loI {u : Nat → Int} {n : za_N} {x : Int} {a : za_V} {m : Int} (hN : zb_N u n) (hv : zb_VI u n.length x a) (h : m ≤ x) : zb_N u (za_lo n a m) ∧ (za_lo n a m).length = n.length := by
  unfold za_lo
  split
  · next b c =>
    obtain ⟨h1, h3⟩ := hv
    split
    · next q hq =>
      refine ⟨fun b' r hr => ?_, by simp⟩
      rw [List.getElem?_set] at hr
      split at hr
      · next e =>
        subst e
        cases hr
        have := hN _ q hq
        exact ⟨za_max_le.mpr ⟨this.1, by omega⟩, this.2⟩
      · exact hN _ _ hr
    · exact ⟨hN, rfl⟩
  · exact ⟨hN, rfl⟩
theorem zb_clI {u : Nat → Int} {n : za_N} {x y : Int} {a b : za_V} {d : Int} (hN : zb_N u n) (ha : zb_VI u n.length x a) (hb : zb_VI u n.length y b) (h : x + d ≤ y) : ∃ n', za_cl n a b d = some n' ∧ zb_N u n' ∧ n'.length = n.length := by
  obtain ⟨a1, a2⟩ := zb_ivI hN ha
  obtain ⟨b1, b2⟩ := zb_ivI hN hb
  unfold za_cl
  rw [show za_le ((za_iv n a).1 + d) (za_iv n b).2 = true from za_le_iff.mpr (by omega)]
  obtain ⟨h1, h2⟩ := zb_hiI (m := (za_iv n b).2 - d) hN ha (by omega)
  obtain ⟨h3, h4⟩ := zb_loI (m := (za_iv n a).1 + d) h1 (by rw [h2]; exact hb) (by omega)
  exact ⟨_, rfl, h3, by rw [h4, h2]⟩
theorem zb_ref {u : Nat → Int} : ∀ {ts : List za_T} {as : List za_V} {vs : List Value} {cs : List (Int × Int)} {n : za_N}, zb_N u n → zb_S u n.length vs as → zb_ca vs ts cs → ∃ n', za_ref n ts as cs = some n' ∧ zb_N u n' ∧ n'.length = n.length
  | [], as, vs, cs, n, hN, _, _ => ⟨n, by cases as <;> rfl, hN, rfl⟩
  | t :: _, [], vs, cs, n, hN, _, _ => ⟨n, by cases t <;> rfl, hN, rfl⟩
  | _ :: _, _ :: _, [], cs, n, _, h, _ => h.elim
  | .inr _ :: ts, a :: as, v :: vs, cs, n, hN, h, hc => by
    rw [za_ref]; exact zb_ref (ts := ts) hN h.2 hc
  | .inl _ :: ts, a :: as, v :: vs, [], n, hN, h, hc => ⟨n, rfl, hN, rfl⟩
  | .inl _ :: ts, a :: as, v :: vs, c :: cs, n, hN, h, hc => by
    obtain ⟨⟨x, rfl, x1, x2⟩, hc⟩ := hc
    have h1 := zb_VI.of h.1
    obtain ⟨n1, e1, N1, l1⟩ := zb_clI (d := 0) (y := c.2) (b := .inr (.inl c.2)) hN h1 rfl (by omega)
    obtain ⟨n2, e2, N2, l2⟩ := zb_clI (d := 0) (x := c.1) (a := .inr (.inl c.1)) N1 rfl (by rw [l1]; exact h1) (by omega)
    obtain ⟨n3, e3, N3, l3⟩ := zb_ref (ts := ts) (cs := cs) N2 (by rw [l2, l1]; exact h.2) hc
    refine ⟨n3, ?_, N3, by rw [l3, l2, l1]⟩
    rw [za_ref]
    simp only [e1, e2]
    exact e3
theorem zb_psh {u : Nat → Int} {n : za_N} {r : Option Value} {t : Option za_T} {rest : List Value} {ar : List za_V} (hN : zb_N u n) (hr : zb_R r t) (hs : zb_S u n.length rest ar) : zb_G u n (za_psh n t ar).1 (r.toList ++ rest) (za_psh n t ar).2 := by
  unfold za_psh
  cases t with
  | none =>
    cases r with
    | none => exact zb_G.id hN hs
    | some v => exact hr.elim
  | some t =>
    cases r with
    | none => exact hr.elim
    | some v =>
      cases t with
      | inl q =>
        obtain ⟨x, rfl, x1, x2⟩ := hr
        dsimp only
        split
        · next e => rw [decide_eq_true_eq] at e; exact zb_G.id hN ⟨⟨x, rfl, by omega⟩, hs⟩
        · exact zb_G.nw hN hs x q x1 x2
      | inr t =>
        cases t with
        | inl t => exact zb_G.id hN ⟨hr, hs⟩
        | inr a => exact zb_G.id hN ⟨hr, hs⟩
theorem zb_cs {k : za_K} {cj : Nat} {as rest : List za_V} {ls : za_L} {f : za_F} {cf : za_C} {n n1 : za_N} : ∀ {cs : List (Option za_T × List (Int × Int))} {c : Option za_T × List (Int × Int)}, c ∈ cs → za_ref n k.2.2.1 as c.2 = some n1 → ((za_psh n1 c.1 rest).1, ls, (za_psh n1 c.1 rest).2, za_fdrop f k.2.2.2.2, za_cfx k cj as c.1 (za_psh n1 c.1 rest).2 cf) ∈ za_cs k cj as rest ls f cf n cs
  | [], c, h, _ => absurd h List.not_mem_nil
  | c0 :: cs, c, h, e => by
    rw [za_cs]
    rcases List.mem_cons.mp h with rfl | h
    · rw [e]; exact List.mem_cons_self
    · split
      · exact zb_cs h e
      · exact List.mem_cons_of_mem _ (zb_cs h e)
theorem zb_con {n : za_N} {d cj : Nat} {as : List za_V} {k : za_K} : ∀ {KT : List za_K}, za_con n d cj as KT = some k → k ∈ KT ∧ k.1 = cj ∧ k.2.1 < d ∧ za_mts n k.2.2.1 as = true
  | [], h => by simp [za_con] at h
  | k0 :: KT, h => by
    rw [za_con] at h
    split at h
    · next e =>
      cases h
      obtain ⟨e, e3⟩ := zb_and e
      obtain ⟨e1, e2⟩ := zb_and e
      exact ⟨List.mem_cons_self, Nat.eq_of_beq_eq_true e1, zb_blt e2, e3⟩
    · obtain ⟨a, b⟩ := zb_con h
      exact ⟨List.mem_cons_of_mem _ a, b⟩
theorem zb_cats {u : Nat → Int} {n : Nat} : ∀ {vs : List Value} {as : List za_V}, zb_S u n vs as → (vs.map fun v => v.category).sum = za_cats as
  | [], [], _ => rfl
  | v :: vs, a :: as, h => by
    rw [List.map_cons, List.sum_cons, za_cats, zb_cats h.2, zb_cat h.1]; rfl
  | [], _ :: _, h => h.elim
  | _ :: _, [], h => h.elim
theorem zb_sl (vs : List Value) : (lg_sl vs).length = (vs.map fun v => v.category).sum := by
  induction vs with
  | nil => rfl
  | cons v vs ih =>
    have h1 : (lg_sl (v :: vs)).length = (lg_sl [v]).length + (lg_sl vs).length := by simp [lg_sl]
    rw [h1, ih, List.map_cons, List.sum_cons]
    congr 1
    cases v <;> rfl
/-- the state of a run -/
def zb_Q (P : zx_P) (d : Nat) (u : Nat → Int) (s : za_S) (ls : zx_L) (st : List Value) (h : zx_H) : Prop :=
  zb_N u s.1 ∧ zb_L u s.1.length ls s.2.1 ∧ zb_S u s.1.length st s.2.2.1 ∧ zb_F u s.1.length h s.2.2.2.1 ∧ zb_C P d u s.1.length h s.2.2.2.2
/-- behind a call by contract -/
theorem zb_by {P : zx_P} {HT : List za_D} {KT : List za_K} {W : List (Nat × Nat)} (hK : ∀ k ∈ KT, zb_K P HT k) {d cj : Nat} {q : zx_M} (hq : (zx_pm P)[cj]? = some q) {u : Nat → Int} {n : za_N} {al : za_L} {f : za_F} {cf : za_C} {ls : zx_L} {vs rest : List Value} {as ar : List za_V} {h : zx_H} (hN : zb_N u n) (hL : zb_L u n.length ls al) (hs : zb_S u n.length vs as) (hr : zb_S u n.length rest ar) (hF : zb_F u n.length h f) (hC : zb_C P d u n.length h cf) (hI : zb_I HT h) {l : List za_S}
    (hc : (match za_cf cf cj as with
      | some v => some [(n, al, v :: ar, f, cf)]
      | none => (match za_con n (d + 1) cj as KT with
        | some k => if k.2.2.2.2.all (fun z => za_in W z.1 z.2) then some (za_cs k cj as ar al f cf n k.2.2.2.1) else none
        | none => none)) = some l) :
    ∃ n1 r1 h1, zx_x P n1 d q 0 (lv_args 0 vs) [] h = some (r1, h1) ∧ zb_I HT h1 ∧ zb_W W h h1 ∧ (W = [] → h1 = h) ∧ ∃ s' ∈ l, ∃ u', zb_X u u' n.length s'.1.length ∧ zb_Q P d u' s' ls (r1.toList ++ rest) h1 := by
  split at hc
  · next v e =>
    cases hc
    obtain ⟨ex, q', vs', m, w, h2, h3, h4, h5⟩ := hC _ (za_cf_mem e)
    cases h2.symm.trans hq
    have := zb_ex ex h3 hs
    subst this
    exact ⟨m, some w, h, h4, hI, zb_W.rf, fun _ => rfl, _, List.mem_cons_self, u, zb_X.rf, hN, hL, ⟨h5, hr⟩, hF, hC⟩
  · split at hc
    · next k e =>
      obtain ⟨k1, k2, k3, k4⟩ := zb_con e
      split at hc
      · next hw =>
        cases hc
        obtain ⟨m, r1, h1, t1, t2, t3, t4, c, t5, t6, t7⟩ := hK k k1 q (by rw [k2]; exact hq) vs h (zb_mts hN hs k4) hI
        have hsub : ∀ x y, za_in k.2.2.2.2 x y = true → za_in W x y = true := fun x y hx => List.all_eq_true.mp hw (x, y) (za_in_iff.mp hx)
        obtain ⟨n1, e1, N1, l1⟩ := zb_ref hN hs t7
        obtain ⟨u', hX, N2, S2⟩ := zb_psh (rest := rest) (ar := ar) N1 t6 (by rw [l1]; exact hr)
        rw [l1] at hX
        have hW0 : W = [] → k.2.2.2.2 = [] := by
          intro hw0
          cases hk : k.2.2.2.2 with
          | nil => rfl
          | cons z zs =>
            have := hsub z.1 z.2 (za_in_iff.mpr (by rw [hk]; exact List.mem_cons_self))
            rw [hw0] at this
            simp [za_in] at this
        have hrun : zx_x P m d q 0 (lv_args 0 vs) [] h = some (r1, h1) := zx_mono m m _ d _ _ _ _ _ _ (Nat.le_refl _) (by omega) t1
        refine ⟨m, r1, h1, hrun, t2, t3.sub hsub, fun z => t4 (hW0 z), _, zb_cs t5 e1, u', hX, N2, hL.mo hX, S2, (zb_fdrop hF t3).mo hX, ?_⟩
        show zb_C P d u' _ h1 (za_cfx k cj as c.1 _ cf)
        unfold za_cfx
        split
        · intro z hz; exact absurd hz List.not_mem_nil
        · next hk =>
          have hh := t4 hk
          subst hh
          split
          · next t v st9 ex e7 e8 =>
            intro z hz
            rcases List.mem_cons.mp hz with rfl | hz
            · rw [e7] at t6
              cases r1 with
              | none => exact t6.elim
              | some w =>
                rw [e8] at S2
                exact ⟨ex, q, vs, m, w, hq, hs.mo hX, hrun, S2.1⟩
            · exact (hC.mo hX) z hz
          · exact hC.mo hX
      · cases hc
    · cases hc
