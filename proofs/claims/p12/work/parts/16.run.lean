/-! ===== 16: one abstract step is right ===== -/
def zb_Rv (u : Nat → Int) (n : Nat) (r : Option Value) (v : Option za_V) : Prop := match r, v with
  | none, none => True
  | some w, some a => zb_V u n w a
  | _, _ => False
theorem zb_r {P : zx_P} {o : Nat} {u : Nat → Int} {n : za_N} {i : Instr} {len pc nL : Nat} {ret : Option FieldType} {st : List Value} {as : List za_V} {v : Option za_V} (ls : zx_L) (h0 : zx_H) (hN : zb_N u n) (hs : zb_S u n.length st as) (h : za_r i len ret n as = some v) : zx_s i st = none ∧ zx_l i ls = none ∧ zx_t i nL ls st = none ∧ zx_j i len pc st = none ∧ zx_g P o i st h0 = none ∧ ∃ r, zx_r i len ret st = some r ∧ zb_Rv u n.length r v := by
  unfold za_r at h
  split at h
  · next x ty =>
    obtain ⟨v1, s1, rfl, h1, hs1⟩ := hs.c
    have := hs1.n
    subst this
    split at h
    · next hc =>
      obtain ⟨hc, c3⟩ := zb_and hc
      obtain ⟨c1, c2⟩ := zb_and hc
      obtain ⟨y, rfl, y1, y2⟩ := zb_iv hN h1 c2
      cases h
      exact ⟨rfl, rfl, rfl, rfl, rfl, some (.int y), by rw [zx_r, if_pos ⟨Nat.eq_of_beq_eq_true c1, (zb_fty c3 y1 y2).1⟩], h1⟩
    · cases h
  · next x =>
    obtain ⟨v1, s1, rfl, h1, hs1⟩ := hs.c
    have := hs1.n
    subst this
    split at h
    · next hc =>
      obtain ⟨c1, c2⟩ := zb_and hc
      obtain ⟨y, rfl⟩ := zb_isL h1 c2
      cases h
      exact ⟨rfl, rfl, rfl, rfl, rfl, some (.long y), by rw [zx_r, if_pos (Nat.eq_of_beq_eq_true c1)], h1⟩
    · cases h
  · have := hs.n
    subst this
    split at h
    · next hc =>
      cases h
      exact ⟨rfl, rfl, rfl, rfl, rfl, none, by rw [zx_r, if_pos (Nat.eq_of_beq_eq_true hc)], trivial⟩
    · cases h
  · cases h
theorem za_min_bd {a b : Int} : za_min a b ≤ a ∧ za_min a b ≤ b := za_min_le.mp (Int.le_refl _)
theorem zb_n {P : zx_P} {o : Nat} {u : Nat → Int} {n n' : za_N} {i : Instr} {len pc nL : Nat} {ret : Option FieldType} {st : List Value} {as as' : List za_V} (ls : zx_L) (h0 : zx_H) (hN : zb_N u n) (hs : zb_S u n.length st as) (h : za_n P o i len n as = some (n', as')) : zx_s i st = none ∧ zx_l i ls = none ∧ zx_t i nL ls st = none ∧ zx_j i len pc st = none ∧ zx_g P o i st h0 = none ∧ zx_r i len ret st = none ∧ ∃ st', zx_n P o i len st = some st' ∧ zb_G u n n' st' as' := by
  unfold za_n at h
  split at h
  · next idx y x r =>
    obtain ⟨v1, s1, rfl, h1, hs1⟩ := hs.c
    obtain ⟨v2, s2, rfl, h2, hs2⟩ := hs1.c
    split at h
    · next hc =>
      obtain ⟨hc, c4⟩ := zb_and hc
      obtain ⟨hc, c3⟩ := zb_and hc
      obtain ⟨c1, c2⟩ := zb_and hc
      obtain ⟨i1, i2⟩ := zb_and c4
      obtain ⟨cy, rfl, y1, y2⟩ := zb_iv hN h1 i2
      obtain ⟨cx, rfl, x1, x2⟩ := zb_iv hN h2 i1
      cases h
      refine ⟨rfl, rfl, rfl, rfl, rfl, rfl, _, by rw [zx_n, if_pos ⟨c1, Nat.eq_of_beq_eq_true c2, by rw [zb_cats hs2]; exact Nat.le_of_ble_eq_true c3⟩], zb_G.nw hN hs2 _ _ ?_ ?_⟩
      · have hm := za_min_bd (a := (za_iv n x).1) (b := (za_iv n y).1)
        simp only
        split
        · omega
        · omega
      · refine za_min_le.mpr ?_
        split
        · next e => rw [Int32.lt_iff_toInt_lt] at e; omega
        · next e => rw [Int32.lt_iff_toInt_lt] at e; omega
    · cases h
  · cases h
theorem zx_n_no {P : zx_P} {o idx len : Nat} {st : List Value} (h : zx_pn P o idx = false) : zx_n P o (.invokestatic idx) len st = none := by
  unfold zx_n
  split
  · rename_i e
    injection e with e
    subst e
    rw [if_neg]
    rintro ⟨z, _⟩
    rw [z] at h; cases h
  · rfl
set_option maxHeartbeats 4000000 in
theorem zb_call {P : zx_P} {HT : List za_D} {KT : List za_K} {W : List (Nat × Nat)} (hK : ∀ k ∈ KT, zb_K P HT k) {D o : Nat} {i : Instr} {len pc nL : Nat} {ret : Option FieldType} {s : za_S} {l : List za_S} {u : Nat → Int} {ls : zx_L} {st : List Value} {h : zx_H} (hQ : zb_Q P (D - 1) u s ls st h) (hI : zb_I HT h) (hl : za_call P HT KT W D o i len s = some l) :
    zx_s i st = none ∧ zx_l i ls = none ∧ zx_t i nL ls st = none ∧ zx_j i len pc st = none ∧ zx_g P o i st h = none ∧ zx_r i len ret st = none ∧ zx_n P o i len st = none ∧ 1 ≤ D ∧ ∃ cj vs rest q' n1 r1 h1, zx_k P o i len st h = some (cj, vs, rest) ∧ (zx_pm P)[cj]? = some q' ∧ zx_x P n1 (D - 1) q' 0 (lv_args 0 vs) [] h = some (r1, h1) ∧ zb_I HT h1 ∧ zb_W W h h1 ∧ (W = [] → h1 = h) ∧ ∃ s' ∈ l, ∃ u', zb_X u u' s.1.length s'.1.length ∧ zb_Q P (D - 1) u' s' ls (r1.toList ++ rest) h1 := by
  obtain ⟨n, al, as, f, cf⟩ := s
  obtain ⟨hN, hL, hs, hF, hC⟩ := hQ
  dsimp only at hN hL hs hF hC
  unfold za_call at hl
  dsimp only at hl
  split at hl
  · next idx =>
    split at hl
    · next cj hpc =>
      split at hl
      · next q hq =>
        split at hl
        · next ci a ar hmc hdr =>
          split at hl
          · next hc =>
            obtain ⟨hc, c5⟩ := zb_and hc
            obtain ⟨hc, c4⟩ := zb_and hc
            obtain ⟨hc, c3⟩ := zb_and hc
            obtain ⟨hc, c2⟩ := zb_and hc
            obtain ⟨hc, c1⟩ := zb_and hc
            obtain ⟨c6, c0⟩ := zb_and hc
            have c0 := Nat.le_of_ble_eq_true c0
            have htk := zb_A.take (zx_mp q) hs
            have hdp := zb_A.drop (zx_mp q) hs
            rw [hdr] at hdp
            obtain ⟨w, rest, hdr2, hb, hrest⟩ := hdp.c
            have hargs : zb_S u n.length (w :: (st.take (zx_mp q)).reverse) (.inr (.inr (.inl a)) :: (as.take (zx_mp q)).reverse) := ⟨hb, htk.rev⟩
            obtain ⟨D', rfl⟩ : ∃ k, D = k + 1 := ⟨D - 1, by omega⟩
            have hw : w = .ref a := hb
            subst hw
            obtain ⟨fs, hfs⟩ : ∃ fs, h[a]? = some (.inr (ci, fs)) := by
              unfold za_oc at c6
              split at c6
              · next cj9 fd9 e9 =>
                obtain ⟨fs, e8, _⟩ := hI.obj e9
                rw [← Nat.eq_of_beq_eq_true c6]
                exact ⟨fs, e8⟩
              · cases c6
            obtain ⟨n1, r1, h1, t1, t2, t3, t4, s', t5, t6⟩ := zb_by hK hq hN hL hargs hrest hF hC hI hl
            refine ⟨rfl, rfl, rfl, rfl, rfl, rfl, rfl, by omega, cj, _, rest, q, n1, r1, h1, ?_, hq, t1, t2, t3, t4, s', t5, t6⟩
            unfold zx_k
            simp only [hpc, hq, hdr2, hfs]
            rw [if_pos]
            exact ⟨Nat.eq_of_beq_eq_true c1, hmc, by rw [zb_A.len htk]; exact Nat.eq_of_beq_eq_true c2, by rw [zb_cats hrest]; exact Nat.le_of_ble_eq_true c3, Nat.le_of_ble_eq_true c4, by rw [zb_sl, zb_cats hargs]; exact Nat.le_of_ble_eq_true c5⟩
          · cases hl
        · cases hl
      · cases hl
    · cases hl
  · next idx =>
    split at hl
    · next cj hpc =>
      split at hl
      · next q hq =>
        split at hl
        · next hmc =>
          split at hl
          · next hc =>
            obtain ⟨hc, c5⟩ := zb_and hc
            obtain ⟨hc, c4⟩ := zb_and hc
            obtain ⟨hc, c3⟩ := zb_and hc
            obtain ⟨hc, c2⟩ := zb_and hc
            obtain ⟨hc, c1⟩ := zb_and hc
            obtain ⟨c7, c0⟩ := zb_and hc
            have c0 := Nat.le_of_ble_eq_true c0
            have htk := zb_A.take (zx_mp q) hs
            have hdp := zb_A.drop (zx_mp q) hs
            obtain ⟨D', rfl⟩ : ∃ k, D = k + 1 := ⟨D - 1, by omega⟩
            obtain ⟨n1, r1, h1, t1, t2, t3, t4, s', t5, t6⟩ := zb_by hK hq hN hL htk.rev hdp hF hC hI hl
            refine ⟨rfl, rfl, rfl, rfl, rfl, rfl, ?_, by omega, cj, _, _, q, n1, r1, h1, ?_, hq, t1, t2, t3, t4, s', t5, t6⟩
            · exact zx_n_no (by simpa using c7)
            · unfold zx_k
              simp only [hpc, hq]
              rw [if_pos]
              exact ⟨Nat.eq_of_beq_eq_true c1, hmc, by rw [zb_A.len htk]; exact Nat.eq_of_beq_eq_true c2, by rw [zb_cats hdp]; exact Nat.le_of_ble_eq_true c3, Nat.le_of_ble_eq_true c4, by rw [zb_sl, zb_cats htk.rev]; exact Nat.le_of_ble_eq_true c5⟩
          · cases hl
        · cases hl
      · cases hl
    · cases hl
  · cases hl
/-- nothing written: the same heap -/
theorem zb_same {HT : List za_D} {h h' : zx_H} (hI : zb_I HT h) (hI' : zb_I HT h') (hW : zb_W [] h h') : h' = h := by
  refine List.ext_getElem? fun a => ?_
  cases hd : HT[a]? with
  | none => rw [hI.len hd, hI'.len hd]
  | some d =>
    obtain ⟨c, h1, h2⟩ := hI.at1 a hd
    obtain ⟨c', h1', h2'⟩ := hI'.at1 a hd
    rw [h1, h1']
    have f1 := hW.1 a
    have f2 := hW.2 a rfl
    unfold zx_arr at f2
    rw [h1, h1'] at f2
    cases d with
    | inl d =>
      cases c with
      | inr c => exact h2.elim
      | inl c =>
        cases c' with
        | inr c' => exact h2'.elim
        | inl c' => dsimp only at f2; rw [Option.some.inj f2]
    | inr d =>
      cases c with
      | inl c => exact False.elim (by obtain ⟨_, _, x⟩ := c; cases x <;> exact h2)
      | inr c =>
        cases c' with
        | inl c' => exact False.elim (by obtain ⟨_, _, x⟩ := c'; cases x <;> exact h2')
        | inr c' =>
          obtain ⟨ci, fs⟩ := c
          obtain ⟨cj, fs'⟩ := c'
          obtain ⟨e1, _⟩ := h2
          obtain ⟨e2, _⟩ := h2'
          have : fs' = fs := List.ext_getElem? fun k => by
            have := f1 k rfl
            unfold zx_fld at this
            rw [h1, h1'] at this
            exact this
          rw [this, e1, e2]
set_option maxHeartbeats 4000000 in
theorem zb_one {P : zx_P} {HT : List za_D} {KT : List za_K} {q : zx_M} {k : za_K} {ent : Bool} (hK : ∀ k ∈ KT, zb_K P HT k) {s : za_S} {pc : Nat} {l : List (za_S × Nat)} (hl : za_one P HT KT q k ent s pc = some l) {u : Nat → Int} {ls : zx_L} {st : List Value} {h : zx_H} (hQ : zb_Q P (k.2.1 - 1) u s ls st h) (hI : zb_I HT h) {F : Option Value → zx_H → Prop}
    (hret : ∀ r v, za_ret ent k s.1 v = true → zb_Rv u s.1.length r v → F r h)
    (hgo : ∀ (s' : za_S) (pc' : Nat) (u' : Nat → Int) (ls' : zx_L) (st' : List Value) (h' : zx_H), (s', pc') ∈ l → zb_X u u' s.1.length s'.1.length → zb_Q P (k.2.1 - 1) u' s' ls' st' h' → zb_I HT h' → zb_W k.2.2.2.2 h h' → (k.2.2.2.2 = [] → h' = h) → zx_T P k.2.1 q pc' ls' st' h' F) : zx_T P k.2.1 q pc ls st h F := by
  have hQ0 := hQ
  obtain ⟨n, al, as, f, cf⟩ := s
  obtain ⟨hN, hL, hs, hF, hC⟩ := hQ
  dsimp only at hN hL hs hF hC hret
  unfold za_one at hl
  dsimp only at hl
  split at hl
  · cases hl
  · next i len hat =>
    split at hl
    · next k9 n' as' e =>
      split at hl
      · next hk =>
        cases hl
        obtain ⟨st', e1, u', hX, hN', hs'⟩ := zb_s hN hs e
        refine zx_T.go (pc' := pc + k9) (ls' := ls) (st' := st') (h' := h) ?_ (hgo _ _ u' ls st' h List.mem_cons_self hX ⟨hN', hL.mo hX, hs', hF.mo hX, hC.mo hX⟩ hI zb_W.rf (fun _ => rfl))
        unfold zx_o
        simp only [hat, e1]
        rw [if_pos (Nat.eq_of_beq_eq_true hk)]
      · cases hl
    · split at hl
      · next k9 v e =>
        split at hl
        · next hk =>
          cases hl
          obtain ⟨e1, w, e2, e3⟩ := zb_l st hN hL e
          refine zx_T.go (pc' := pc + k9) (ls' := ls) (st' := w :: st) (h' := h) ?_ (hgo _ _ u ls (w :: st) h List.mem_cons_self zb_X.rf ⟨hN, hL, ⟨e3, hs⟩, hF, hC⟩ hI zb_W.rf (fun _ => rfl))
          unfold zx_o
          simp only [hat, e1, e2]
          rw [if_pos (Nat.eq_of_beq_eq_true hk)]
        · cases hl
      · split at hl
        · next k9 al' as' e =>
          split at hl
          · next hk =>
            cases hl
            obtain ⟨e1, e2, ls', st', e3, e4, e5⟩ := zb_t hN hL hs e
            refine zx_T.go (pc' := pc + k9) (ls' := ls') (st' := st') (h' := h) ?_ (hgo _ _ u ls' st' h List.mem_cons_self zb_X.rf ⟨hN, e4, e5, hF, hC⟩ hI zb_W.rf (fun _ => rfl))
            unfold zx_o
            simp only [hat, e1, e2, e3]
            rw [if_pos (Nat.eq_of_beq_eq_true hk)]
          · cases hl
        · split at hl
          · next n' al' e =>
            split at hl
            · next hk =>
              cases hl
              obtain ⟨e1, e2, ls', u', e3, hX, hN', e4⟩ := zb_inc st hN hL e
              refine zx_T.go (pc' := pc + 3) (ls' := ls') (st' := st) (h' := h) ?_ (hgo _ _ u' ls' st h List.mem_cons_self hX ⟨hN', e4, hs.mo hX, hF.mo hX, hC.mo hX⟩ hI zb_W.rf (fun _ => rfl))
              unfold zx_o
              simp only [hat, e1, e2, e3]
              rw [if_pos (Nat.eq_of_beq_eq_true hk)]
            · cases hl
          · split at hl
            · next l9 e =>
              cases hl
              obtain ⟨e1, e2, e3, pc', st', n', as', e4, e5, hN', hn, hs'⟩ := zb_j (nL := zx_ml q) ls hN hs e
              refine zx_T.go (pc' := pc') (ls' := ls) (st' := st') (h' := h) ?_ (hgo (n', al, as', f, cf) pc' u ls st' h (List.mem_map.mpr ⟨_, e5, rfl⟩) (by show zb_X u u n.length n'.length; rw [hn]; exact zb_X.rf) (by
                refine ⟨hN', ?_, ?_, ?_, ?_⟩
                · show zb_L u n'.length ls al; rw [hn]; exact hL
                · show zb_S u n'.length st' as'; rw [hn]; exact hs'
                · show zb_F u n'.length h f; rw [hn]; exact hF
                · show zb_C P _ u n'.length h cf; rw [hn]; exact hC) hI zb_W.rf (fun _ => rfl))
              unfold zx_o
              simp only [hat, e1, e2, e3, e4]
            · split at hl
              · next k9 n' as' f' w e =>
                split at hl
                · next hk =>
                  cases hl
                  obtain ⟨e1, e2, e3, e4, st', h', e5, u', hX, hN', hs', hI', hF', hW, hw⟩ := zb_g (len := len) (pc := pc) (nL := zx_ml q) ls hN hs hI hF e
                  refine zx_T.go (pc' := pc + k9) (ls' := ls) (st' := st') (h' := h') ?_ (hgo _ _ u' ls st' h' List.mem_cons_self hX ⟨hN', hL.mo hX, hs', hF', ?_⟩ hI' hW ?_)
                  · unfold zx_o
                    simp only [hat, e1, e2, e3, e4, e5]
                    rw [if_pos (Nat.eq_of_beq_eq_true hk)]
                  · cases w with
                    | true => intro z hz; exact absurd hz List.not_mem_nil
                    | false => rw [hw rfl]; exact hC.mo hX
                  · intro hk0
                    rw [hk0] at hW
                    exact zb_same hI hI' hW
                · cases hl
              · split at hl
                · next v e =>
                  split at hl
                  · next hr =>
                    obtain ⟨e1, e2, e3, e4, e5, r, e6, e7⟩ := zb_r (P := P) (o := zx_mo q) (pc := pc) (nL := zx_ml q) ls h hN hs e
                    refine zx_T.rt (r := r) ?_ (hret r v hr e7)
                    unfold zx_o
                    simp only [hat, e1, e2, e3, e4, e5, e6]
                  · cases hl
                · split at hl
                  · next n' as' e =>
                    split at hl
                    · next hk =>
                      cases hl
                      obtain ⟨e1, e2, e3, e4, e5, e6, st', e7, u', hX, hN', hs'⟩ := zb_n (pc := pc) (nL := zx_ml q) (ret := zx_mr q) ls h hN hs e
                      have hg := hgo _ _ u' ls st' h List.mem_cons_self hX ⟨hN', hL.mo hX, hs', hF.mo hX, hC.mo hX⟩ hI zb_W.rf (fun _ => rfl)
                      have hk := Nat.le_of_ble_eq_true hk
                      obtain ⟨D, hD⟩ : ∃ D, k.2.1 = D + 1 := ⟨k.2.1 - 1, by omega⟩
                      rw [hD] at hg ⊢
                      refine zx_T.mn (st' := st') ?_ hg
                      unfold zx_o
                      simp only [hat, e1, e2, e3, e4, e5, e6, e7]
                    · cases hl
                  · obtain ⟨l9, e, e9⟩ := Option.map_eq_some_iff.mp hl
                    cases e9
                    obtain ⟨e1, e2, e3, e4, e5, e6, e7, hD1, cj, vs, rest, q', n1, r1, h1, e8, t1, t2, t3, t4, t5, s', t6, u', hX, t7⟩ := zb_call (pc := pc) (nL := zx_ml q) (ret := zx_mr q) hK hQ0 hI e
                    have hg := hgo s' (pc + 3) u' ls (r1.toList ++ rest) h1 (List.mem_map.mpr ⟨_, t6, rfl⟩) hX t7 t3 t4 t5
                    obtain ⟨D, hD⟩ : ∃ D, k.2.1 = D + 1 := ⟨k.2.1 - 1, by omega⟩
                    rw [hD] at hg t2 ⊢
                    refine zx_T.cl (cj := cj) (as := vs) (rest := rest) (q' := q') ?_ t1 t2 hg
                    unfold zx_o
                    simp only [hat, e1, e2, e3, e4, e5, e6, e7, e8]
