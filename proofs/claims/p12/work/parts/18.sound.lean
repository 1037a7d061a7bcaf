/-! ===== 18: a contract that the abstract interpreter finds kept is kept ===== -/
theorem zb_need {HT : List za_D} {h : zx_H} (hI : zb_I HT h) : ∀ {l : List ((Nat × Nat) × (Int × Int))} {n n' : za_N} {f f' : za_F} {u : Nat → Int}, za_need HT l n f = some (n', f') → zb_N u n → zb_F u n.length h f → ∃ u', zb_X u u' n.length n'.length ∧ zb_N u' n' ∧ zb_F u' n'.length h f'
  | [], n, n', f, f', u, e, hN, hF => by rw [za_need] at e; cases e; exact ⟨u, zb_X.rf, hN, hF⟩
  | z :: l, n, n', f, f', u, e, hN, hF => by
    rw [za_need] at e
    split at e
    · exact zb_need hI e hN hF
    · split at e
      · next ci fd hd =>
        split at e
        · next q hq =>
          obtain ⟨fs, e4, e5⟩ := hI.obj hd
          obtain ⟨v, e6, x, rfl, x1, x2⟩ := e5.at1 _ hq
          have hX : zb_X u (zb_up u n.length x.toInt) n.length (n ++ [q]).length := by rw [zb_len]; exact zb_up_X _ _ _
          obtain ⟨u', hX', a, b⟩ := zb_need hI e (zb_up_N (z := x.toInt) hN x1 x2) (fun y hy => by
            rcases List.mem_cons.mp hy with rfl | hy
            · exact ⟨.int x, by unfold zx_fld; rw [e4]; exact e6, by rw [zb_len]; exact zb_up_V _ _ _⟩
            · exact (hF.mo hX) y hy)
          exact ⟨u', hX.tr hX', a, b⟩
        · cases e
      · cases e
theorem zb_xs_app : ∀ {ts : List za_T} {vs : List Value} {ts' : List za_T} {vs' : List Value}, ts.length = vs.length → zb_xs (ts ++ ts') (vs ++ vs') = zb_xs ts vs ++ zb_xs ts' vs'
  | [], [], _, _, _ => rfl
  | .inl _ :: ts, v :: vs, ts', vs', h => by
    rw [List.cons_append, List.cons_append, zb_xs, zb_xs, zb_xs_app (by simpa using h), List.cons_append]
  | .inr _ :: ts, v :: vs, ts', vs', h => by
    rw [List.cons_append, List.cons_append, zb_xs, zb_xs, zb_xs_app (by simpa using h)]
  | [], _ :: _, _, _, h => by simp at h
  | _ :: _, [], _, _, h => by simp at h
theorem zb_mtI {u : Nat → Int} {n : za_N} {v : Value} {a : za_V} {q : Int × Int} (hN : zb_N u n) (hv : zb_V u n.length v a) (h : za_isI a = true) : zb_VI u n.length (zb_toI (some v)) a := by
  obtain ⟨x, rfl, _⟩ := zb_iv hN hv h
  exact zb_VI.of hv
theorem zb_xl {u : Nat → Int} {n : za_N} {ls : zx_L} {al : za_L} (hN : zb_N u n) (hL : zb_L u n.length ls al) : ∀ {l : List (Nat × za_T)}, za_lok n al l = true → (∀ z ∈ l, ∃ v, zx_lk ls z.1 = some v ∧ zb_T v z.2) ∧ zb_A (zb_VI u n.length) (zb_xs (l.map (fun z => z.2)) (l.map (fun z => (zx_lk ls z.1).getD .null))) (za_xl al l)
  | [], _ => ⟨fun z hz => absurd hz List.not_mem_nil, trivial⟩
  | (i, t) :: l, h => by
    unfold za_lok at h
    rw [List.all_cons] at h
    obtain ⟨h1, h2⟩ := zb_and h
    obtain ⟨a1, a2⟩ := zb_xl hN hL (l := l) h2
    dsimp only at h1
    split at h1
    · next v e =>
      obtain ⟨w, e1, e2⟩ := hL _ (za_lk_mem e)
      have e1 : zx_lk ls i = some w := e1
      have ht := zb_mt hN e2 h1
      refine ⟨fun z hz => ?_, ?_⟩
      · rcases List.mem_cons.mp hz with rfl | hz
        · exact ⟨w, e1, ht⟩
        · exact a1 z hz
      · rw [List.map_cons, List.map_cons]
        dsimp only
        rw [e1]
        cases t with
        | inl q =>
          rw [zb_xs, za_xl, e]
          exact ⟨zb_mtI (q := q) hN e2 (zb_and h1).1, a2⟩
        | inr t =>
          rw [zb_xs, za_xl]
          · exact a2
          · exact nofun
    · cases h1
theorem zb_xst {u : Nat → Int} {n : za_N} (hN : zb_N u n) : ∀ {ts : List za_T} {st : List Value} {as : List za_V}, zb_S u n.length st as → za_mts n ts as = true → zb_A (zb_VI u n.length) (zb_xs ts st) (za_xs ts as)
  | [], [], [], _, _ => trivial
  | [], [], _ :: _, h, _ => h.elim
  | [], _ :: _, [], h, _ => h.elim
  | [], _ :: _, _ :: _, _, e => by simp [za_mts] at e
  | .inl q :: ts, v :: st, a :: as, h, e => by
    rw [za_mts] at e
    obtain ⟨e1, e2⟩ := zb_and e
    exact ⟨zb_mtI (q := q) hN h.1 (zb_and e1).1, zb_xst hN h.2 e2⟩
  | .inr t :: ts, v :: st, a :: as, h, e => by
    rw [za_mts] at e
    obtain ⟨e1, e2⟩ := zb_and e
    rw [zb_xs, za_xs]
    · exact zb_xst hN h.2 e2
    · exact nofun
  | _ :: _, [], [], _, e => by simp [za_mts] at e
  | _ :: _, [], _ :: _, h, _ => h.elim
  | _ :: _, _ :: _, [], h, _ => h.elim
theorem zb_xf {u : Nat → Int} {n : za_N} {hp : zx_H} {f : za_F} (hN : zb_N u n) (hF : zb_F u n.length hp f) : ∀ {l : List ((Nat × Nat) × (Int × Int))}, za_fok n f l = true → (∀ z ∈ l, ∃ v, zx_fld hp z.1.1 z.1.2 = some v ∧ zb_T v (.inl z.2)) ∧ zb_A (zb_VI u n.length) (zb_xs (l.map (fun z => .inl z.2)) (l.map (fun z => (zx_fld hp z.1.1 z.1.2).getD .null))) (za_xf f l)
  | [], _ => ⟨fun z hz => absurd hz List.not_mem_nil, trivial⟩
  | z0 :: l, h => by
    unfold za_fok at h
    rw [List.all_cons] at h
    obtain ⟨h1, h2⟩ := zb_and h
    obtain ⟨a1, a2⟩ := zb_xf hN hF (l := l) h2
    split at h1
    · next v e =>
      obtain ⟨w, e1, e2⟩ := hF _ (za_fk_mem e)
      obtain ⟨c1, c2⟩ := zb_and h1
      obtain ⟨x, hx, x1, x2⟩ := zb_iv hN e2 c1
      have c3 := zb_sub2 c2
      have x1 : (za_iv n v).1 ≤ x.toInt := x1
      have x2 : x.toInt ≤ (za_iv n v).2 := x2
      refine ⟨fun z hz => ?_, ?_⟩
      · rcases List.mem_cons.mp hz with rfl | hz
        · exact ⟨w, e1, x, hx, by omega, by omega⟩
        · exact a1 z hz
      · rw [List.map_cons, List.map_cons]
        have e1' : zx_fld hp z0.1.1 z0.1.2 = some w := e1
        rw [e1', zb_xs, za_xf, e]
        exact ⟨zb_mtI (q := z0.2) hN e2 c1, a2⟩
    · cases h1
theorem zb_arr {P : zx_P} {d : Nat} {HT : List za_D} {ent : Bool} {mu : Int × List Int} {s : za_S} {c : za_Q} {u u0 : Nat → Int} {n0 : Nat} {ls : zx_L} {st : List Value} {h : zx_H} (ha : za_arr HT ent mu s c = true) (hQ : zb_Q P d u s ls st h) (hI : zb_I HT h) (hX0 : zb_X u0 u n0 s.1.length) (hmu : mu.2.length ≤ n0) : zb_P c ls st h ∧ (ent = false → zb_mu c ls st h < mu.1 - zb_ev u0 (za_neg 0 mu.2)) := by
  obtain ⟨n, al, as, f, cf⟩ := s
  obtain ⟨hN, hL, hs, hF, hC⟩ := hQ
  dsimp only at hN hL hs hF hC hX0
  unfold za_arr at ha
  dsimp only at ha
  split at ha
  · cases ha
  · next n' f' e =>
    obtain ⟨u', hX, hN', hF'⟩ := zb_need hI e hN hF
    obtain ⟨ha, h4⟩ := zb_and ha
    obtain ⟨ha, h3⟩ := zb_and ha
    obtain ⟨h1, h2⟩ := zb_and ha
    obtain ⟨p1, q1⟩ := zb_xl hN' (hL.mo hX) h1
    obtain ⟨p3, q3⟩ := zb_xf hN' hF' h3
    have hs' := hs.mo hX
    have p2 := zb_mts hN' hs' h2
    have q2 := zb_xst hN' hs' h2
    refine ⟨⟨p1, p2, p3⟩, fun he => ?_⟩
    subst he
    dsimp only at h4
    have hxs : zb_A (zb_VI u' n'.length) (zb_xs (zb_tl c) (zb_vl c ls st h)) (za_xl al c.1 ++ (za_xs c.2.1 as ++ za_xf f' c.2.2.1)) := by
      unfold zb_tl zb_vl
      rw [zb_xs_app (by rw [List.length_map, List.length_map]), zb_xs_app (zb_A.len p2).symm]
      exact zb_A.app q1 (zb_A.app q2 q3)
    obtain ⟨l1, l2⟩ := zb_lin (ws := c.2.2.2.2) hxs
    have hneg : ∀ q ∈ za_neg 0 mu.2, q.1 < n'.length := fun q hq => by
      have h5 := zb_neg_lt mu.2 0 q hq
      have h6 := hX0.1
      have h7 := hX.1
      omega
    have hev : zb_ev u' (za_neg 0 mu.2) = zb_ev u0 (za_neg 0 mu.2) := zb_ev_eq fun q hq => by
      have h5 := zb_neg_lt mu.2 0 q hq
      have h6 := hX0.1
      rw [hX.2 q.1 (by omega), hX0.2 q.1 (by omega)]
    have hub := zb_ev_sm u' n' ((za_lin c.2.2.2.2 (za_xl al c.1 ++ (za_xs c.2.1 as ++ za_xf f' c.2.2.1))).2 ++ za_neg 0 mu.2) (fun q hq => by
      rcases List.mem_append.mp hq with hq | hq
      · exact l2 q hq
      · exact hneg q hq)
    have hub2 := zb_sm_ub ((za_lin c.2.2.2.2 (za_xl al c.1 ++ (za_xs c.2.1 as ++ za_xf f' c.2.2.1))).2 ++ za_neg 0 mu.2) u' n' 0 (fun j q hq => by rw [Nat.zero_add]; exact hN' j q hq)
    rw [zb_ev_app, hev] at hub
    rw [za_le_iff] at h4
    unfold zb_mu
    omega
section ZBC
variable {P : zx_P} {HT : List za_D} {KT : List za_K} {q : zx_M} {k : za_K} {CT : List (Nat × za_Q)} {ent : Bool} {mu : Int × List Int}
theorem zb_ck (hK : ∀ k ∈ KT, zb_K P HT k) {u0 : Nat → Int} {n0 : Nat} (hmu : mu.2.length ≤ n0) {h0 : zx_H} {F : Option Value → zx_H → Prop}
    (hcert : ∀ (pc : Nat) (c : za_Q), za_ct CT pc = some c → ∀ (ls : zx_L) (st : List Value) (h : zx_H), zb_P c ls st h → zb_I HT h → zb_W k.2.2.2.2 h0 h → (k.2.2.2.2 = [] → h = h0) → (ent = false → zb_mu c ls st h < mu.1 - zb_ev u0 (za_neg 0 mu.2)) → zx_T P k.2.1 q pc ls st h F)
    (hret : ∀ (r : Option Value) (v : Option za_V) (n : za_N) (u : Nat → Int) (h : zx_H), za_ret ent k n v = true → zb_N u n → zb_X u0 u n0 n.length → zb_Rv u n.length r v → zb_I HT h → zb_W k.2.2.2.2 h0 h → (k.2.2.2.2 = [] → h = h0) → F r h) :
    ∀ (g : Nat) (b : Bool) (s : za_S) (pc : Nat) (u : Nat → Int) (ls : zx_L) (st : List Value) (h : zx_H), za_ck P HT KT q k CT ent mu g b s pc = true → zb_Q P (k.2.1 - 1) u s ls st h → zb_X u0 u n0 s.1.length → zb_I HT h → zb_W k.2.2.2.2 h0 h → (k.2.2.2.2 = [] → h = h0) → zx_T P k.2.1 q pc ls st h F := by
  intro g
  induction g with
  | zero => intro b s pc u ls st h hc; simp [za_ck] at hc
  | succ g ih =>
    intro b s pc u ls st h hc hQ hX hI hW hw
    unfold za_ck at hc
    split at hc
    · next c e =>
      cases b with
      | false => cases e
      | true =>
        obtain ⟨p1, p2⟩ := zb_arr hc hQ hI hX hmu
        exact hcert pc c e ls st h p1 hI hW hw p2
    · split at hc
      · cases hc
      · next l hl =>
        have hall := List.all_eq_true.mp hc
        refine zb_one hK hl hQ hI (fun r v h1 h2 => hret r v s.1 u h h1 hQ.1 hX h2 hI hW hw) (fun s' pc' u' ls' st' h' hm hX' hQ' hI' hW' hw' => ?_)
        exact ih true s' pc' u' ls' st' h' (hall _ hm) hQ' (hX.tr hX') hI' (hW.tr hW') (fun z => (hw' z).trans (hw z))
end ZBC
theorem zb_args {u : Nat → Int} {n : Nat} : ∀ {vs : List Value} {as : List za_V} (i : Nat), zb_S u n vs as → ∀ q ∈ za_args i as, i ≤ q.1 ∧ ∃ v, zx_lk (lv_args i vs) q.1 = some v ∧ zb_V u n v q.2
  | [], [], i, _ => fun q hq => absurd hq List.not_mem_nil
  | [], _ :: _, _, h => h.elim
  | _ :: _, [], _, h => h.elim
  | v :: vs, a :: as, i, h => by
    intro q hq
    rw [za_args] at hq
    rw [lv_args]
    rcases List.mem_cons.mp hq with rfl | hq
    · exact ⟨Nat.le_refl _, v, zx_lk_hd, h.1⟩
    · have e : (if v.category = 2 then i + 2 else i + 1) = if za_isL a then i + 2 else i + 1 := by
        rw [zb_cat h.1]
        cases za_isL a <;> rfl
      obtain ⟨h1, w, h2, h3⟩ := zb_args (if za_isL a then i + 2 else i + 1) h.2 q hq
      have h4 : i + 1 ≤ q.1 := by
        split at h1 <;> omega
      exact ⟨by omega, w, by rw [zx_lk_tl (by omega), e]; exact h2, h3⟩
theorem zb_caF : ∀ {ts : List za_T} {vs : List Value} {cs : List (Int × Int)} {n : za_N} {b : Nat}, zb_A zb_T vs ts → za_ca false n b ts cs = true → zb_ca vs ts cs
  | [], [], _, _, _, _, _ => trivial
  | [], _ :: _, _, _, _, h, _ => h.elim
  | _ :: _, [], _, _, _, h, _ => h.elim
  | .inl q :: ts, v :: vs, [], _, _, _, e => by simp [za_ca] at e
  | .inl q :: ts, v :: vs, c :: cs, n, b, h, e => by
    rw [za_ca] at e
    obtain ⟨e1, e2⟩ := zb_and e
    obtain ⟨x, rfl, x1, x2⟩ := h.1
    have := zb_sub2 e1
    exact ⟨⟨x, rfl, by omega, by omega⟩, zb_caF h.2 e2⟩
  | .inr _ :: ts, v :: vs, cs, n, b, h, e => by
    rw [za_ca] at e
    · rw [zb_ca]; exact zb_caF (b := b) h.2 e
    · exact nofun
    · exact nofun
theorem zb_caT {u : Nat → Int} {n : za_N} (hN : zb_N u n) : ∀ {ts : List za_T} {vs : List Value} {cs : List (Int × Int)} {b : Nat}, zb_A zb_T vs ts → (∀ (j : Nat) (x : Int), (zb_xs ts vs)[j]? = some x → x = u (b + j)) → za_ca true n b ts cs = true → zb_ca vs ts cs
  | [], [], _, _, _, _, _ => trivial
  | [], _ :: _, _, _, h, _, _ => h.elim
  | _ :: _, [], _, _, h, _, _ => h.elim
  | .inl q :: ts, v :: vs, [], _, _, _, e => by simp [za_ca] at e
  | .inl q :: ts, v :: vs, c :: cs, b, h, hj, e => by
    rw [za_ca] at e
    obtain ⟨e1, e2⟩ := zb_and e
    obtain ⟨x, rfl, x1, x2⟩ := h.1
    have hx : x.toInt = u b := hj 0 x.toInt rfl
    have := zb_sub2 e1
    refine ⟨⟨x, rfl, ?_⟩, zb_caT hN (b := b + 1) h.2 (fun j y z => by rw [show b + 1 + j = b + (j + 1) by omega]; exact hj (j + 1) y z) e2⟩
    split at this
    · next z hz => have := hN b z hz; omega
    · omega
  | .inr _ :: ts, v :: vs, cs, b, h, hj, e => by
    rw [za_ca] at e
    · rw [zb_ca]; exact zb_caT hN (b := b) h.2 hj e
    · exact nofun
    · exact nofun
theorem zb_rm {u : Nat → Int} {n : za_N} {r : Option Value} {v : Option za_V} {t : Option za_T} (hN : zb_N u n) (h : zb_Rv u n.length r v) (e : za_rm n t v = true) : zb_R r t := by
  unfold za_rm at e
  split at e
  · cases r with
    | none => trivial
    | some w => exact h.elim
  · cases r with
    | none => exact h.elim
    | some w => exact zb_mt hN h e
  · cases e
theorem zb_mlo : ∀ {ws : List Int} {n : za_N} {u : Nat → Int} {xs : List Int} {b : Nat}, (∀ (j : Nat) (q : Int × Int), n[j]? = some q → q.1 ≤ u (b + j) ∧ u (b + j) ≤ q.2) → n.length = xs.length → (∀ (j : Nat) (x : Int), xs[j]? = some x → x = u (b + j)) → za_mlo ws n ≤ zb_dot ws xs
  | [], [], _, _, _, _, _, _ => by simp [za_mlo, zb_dot]
  | [], _ :: _, _, _, _, _, _, _ => by simp [za_mlo, zb_dot]
  | w :: ws, [], _, xs, _, _, h, _ => by
    cases xs with
    | nil => simp [za_mlo, zb_dot]
    | cons _ _ => simp at h
  | w :: ws, q :: n, u, [], _, _, h, _ => by simp at h
  | w :: ws, q :: n, u, x :: xs, b, h, hl, hx => by
    have h1 := h 0 q rfl
    have h2 := hx 0 x rfl
    rw [Nat.add_zero] at h1 h2
    have h3 := zb_mlo (ws := ws) (n := n) (xs := xs) (u := u) (b := b + 1) (fun j q e => by rw [show b + 1 + j = b + (j + 1) by omega]; exact h (j + 1) q e) (by simpa using hl) (fun j y e => by rw [show b + 1 + j = b + (j + 1) by omega]; exact hx (j + 1) y e)
    rw [za_mlo, zb_dot, h2]
    split
    · next e =>
      have e := za_le_iff.mp e
      have := Int.mul_le_mul_of_nonneg_left h1.1 e
      omega
    · next e =>
      have e : ¬ 0 ≤ w := fun z => Bool.noConfusion (e.symm.trans (za_le_iff.mpr z))
      have := Int.mul_le_mul_of_nonpos_left (a := w) (by omega) h1.2
      omega
theorem za_ct_mem {CT : List (Nat × za_Q)} {pc : Nat} {c : za_Q} (h : za_ct CT pc = some c) : (pc, c) ∈ CT := by
  induction CT with
  | nil => simp [za_ct] at h
  | cons z r ih =>
    rw [za_ct] at h
    split at h
    · next e =>
      have : z = (pc, c) := by rw [← Nat.eq_of_beq_eq_true e, ← Option.some.inj h]
      rw [this]; exact List.mem_cons_self
    · exact List.mem_cons_of_mem _ (ih h)
set_option maxHeartbeats 2000000 in
theorem zb_okK {P : zx_P} {HT : List za_D} {KT : List za_K} {k : za_K} {CT : List (Nat × za_Q)} {g : Nat} (hK : ∀ k ∈ KT, zb_K P HT k) (hk : za_okK P HT KT k CT g = true) : zb_K P HT k := by
  intro q hq vs h0 hv hI0
  unfold za_okK at hk
  rw [hq] at hk
  dsimp only at hk
  obtain ⟨hk1, hk2⟩ := zb_and hk
  have hk2 := List.all_eq_true.mp hk2
  -- places, by their measures
  have hcert : ∀ (m : Nat) (pc : Nat) (c : za_Q), za_ct CT pc = some c → ∀ (ls : zx_L) (st : List Value) (h : zx_H), zb_P c ls st h → zb_I HT h → zb_W k.2.2.2.2 h0 h → (k.2.2.2.2 = [] → h = h0) → zb_mu c ls st h ≤ m → zx_T P k.2.1 q pc ls st h (fun r h' => zb_I HT h' ∧ zb_W k.2.2.2.2 h0 h' ∧ (k.2.2.2.2 = [] → h' = h0) ∧ ∃ c ∈ k.2.2.2.1, zb_R r c.1 ∧ zb_ca vs k.2.2.1 c.2) := by
    intro m
    induction m with
    | zero =>
      intro pc c hc ls st h hp hI hW hw hm
      have h9 := hk2 _ (za_ct_mem hc)
      obtain ⟨h9, h8⟩ := zb_and h9
      obtain ⟨h9, h7⟩ := zb_and h9
      obtain ⟨u, hQ, hl, hj⟩ := zb_start P (k.2.1 - 1) hp
      have h7 := Nat.le_of_ble_eq_true h7
      have hmu : zb_mu c ls st h = c.2.2.2.1 - zb_ev u (za_neg 0 c.2.2.2.2) := by
        rw [zb_neg_ev u c.2.2.2.2 (zb_xs (zb_tl c) (zb_vl c ls st h)) 0 (by rw [← hl]; exact h7) (fun j x e => by rw [Nat.zero_add]; exact hj j x e)]
        unfold zb_mu; omega
      refine zb_ck (ent := false) hK (u0 := u) (n0 := (za_start c).1.length) h7 (fun pc' c' hc' ls' st' h' hp' hI' hW' hw' hm' => ?_) (fun r v n9 u9 h9 hr hN9 hX9 hv9 hI9 hW9 hw9 => ?_) g false (za_start c) pc u ls st h h9 hQ zb_X.rf hI hW hw
      · exfalso
        have h6 := hk2 _ (za_ct_mem hc')
        obtain ⟨_, h5⟩ := zb_and h6
        rw [za_le_iff] at h5
        obtain ⟨u2, hQ2, hl2, hj2⟩ := zb_start P (k.2.1 - 1) hp'
        have h4 := zb_mlo (ws := c'.2.2.2.2) (b := 0) (u := u2) (fun j q e => by rw [Nat.zero_add]; exact hQ2.1 j q e) hl2 (fun j x e => by rw [Nat.zero_add]; exact hj2 j x e)
        have h3 := hm' rfl
        unfold zb_mu at h3 hm hmu
        dsimp only at h5 h3
        omega
      · obtain ⟨c9, hc9, e9⟩ := List.any_eq_true.mp hr
        obtain ⟨e1, e2⟩ := zb_and e9
        exact ⟨hI9, hW9, hw9, c9, hc9, zb_rm hN9 hv9 e1, zb_caF hv e2⟩
    | succ m ih =>
      intro pc c hc ls st h hp hI hW hw hm
      have h9 := hk2 _ (za_ct_mem hc)
      obtain ⟨h9, h8⟩ := zb_and h9
      obtain ⟨h9, h7⟩ := zb_and h9
      obtain ⟨u, hQ, hl, hj⟩ := zb_start P (k.2.1 - 1) hp
      have h7 := Nat.le_of_ble_eq_true h7
      have hmu : zb_mu c ls st h = c.2.2.2.1 - zb_ev u (za_neg 0 c.2.2.2.2) := by
        rw [zb_neg_ev u c.2.2.2.2 (zb_xs (zb_tl c) (zb_vl c ls st h)) 0 (by rw [← hl]; exact h7) (fun j x e => by rw [Nat.zero_add]; exact hj j x e)]
        unfold zb_mu; omega
      refine zb_ck (ent := false) hK (u0 := u) (n0 := (za_start c).1.length) h7 (fun pc' c' hc' ls' st' h' hp' hI' hW' hw' hm' => ?_) (fun r v n9 u9 h9 hr hN9 hX9 hv9 hI9 hW9 hw9 => ?_) g false (za_start c) pc u ls st h h9 hQ zb_X.rf hI hW hw
      · refine ih pc' c' hc' ls' st' h' hp' hI' hW' hw' ?_
        have h3 := hm' rfl
        dsimp only at h3
        omega
      · obtain ⟨c9, hc9, e9⟩ := List.any_eq_true.mp hr
        obtain ⟨e1, e2⟩ := zb_and e9
        exact ⟨hI9, hW9, hw9, c9, hc9, zb_rm hN9 hv9 e1, zb_caF hv e2⟩
  -- from the start
  obtain ⟨u, hX, hN, hs, hl, hj⟩ := zb_ini (n := []) (u := fun _ => 0) hv (fun b q e => by simp at e)
  refine zb_ck (ent := true) (mu := (0, [])) hK (u0 := u) (n0 := (za_ini k.2.2.1 []).1.length) (Nat.zero_le _) (fun pc' c' hc' ls' st' h' hp' hI' hW' hw' hm' => ?_) (fun r v n9 u9 h9 hr hN9 hX9 hv9 hI9 hW9 hw9 => ?_) g true _ 0 u _ [] h0 hk1 ⟨hN, fun z hz => (zb_args 0 hs z hz).2, trivial, fun z hz => absurd hz List.not_mem_nil, fun z hz => absurd hz List.not_mem_nil⟩ zb_X.rf hI0 zb_W.rf (fun _ => rfl)
  · exact hcert (zb_mu c' ls' st' h').toNat pc' c' hc' ls' st' h' hp' hI' hW' hw' (by omega)
  · obtain ⟨c9, hc9, e9⟩ := List.any_eq_true.mp hr
    obtain ⟨e1, e2⟩ := zb_and e9
    refine ⟨hI9, hW9, hw9, c9, hc9, zb_rm hN9 hv9 e1, zb_caT hN9 (b := 0) hv (fun j x e => ?_) e2⟩
    have h1 := hj j x e
    have h2 : j < (zb_xs k.2.2.1 vs).length := (List.getElem?_eq_some_iff.mp e).1
    rw [h1]
    have : ([] : za_N).length + j = 0 + j := by simp
    rw [this]
    exact (hX9.2 _ (by rw [hl]; simp; exact h2)).symm
