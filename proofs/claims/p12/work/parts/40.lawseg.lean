/-! ===== 40: stretches of the law's own body: the interpreter up to a place; calls by runs of the interpreter ===== -/
/-- P2 is the program with the script as a row; calls run in P -/
def zl_x (P P2 : zx_P) (stop : Nat) (q : zx_M) (d : Nat) : Nat → Nat → zx_L → List Value → zx_H → Option (zx_L × List Value × zx_H)
  | 0, _, _, _, _ => none
  | n + 1, pc, ls, st, h =>
    match zx_o P2 q pc ls st h with
    | some (.inl (pc', ls', st', h')) => if pc' = stop then some (ls', st', h') else zl_x P P2 stop q d n pc' ls' st' h'
    | some (.inr (.inr (.inr (cj, as, rest)))) => (match (zx_pm P)[cj]? with
      | none => none
      | some q' => (match zx_x P n d q' 0 (lv_args 0 as) [] h with
        | none => none
        | some (r, h') => zl_x P P2 stop q d n (pc + 3) ls (r.toList ++ rest) h'))
    | _ => none
def zl_mok (P : zx_P) (q : zx_M) : Prop := zx_po P (zx_mo q) = (zx_my q).cls ∧ ∀ z ∈ zx_mi q, decode (zx_mb q) z.1 = .ok z.2
/-- which of its ways a step of the interpreter takes -/
theorem zx_oI {P : zx_P} {q : zx_M} {pc : Nat} {ls : zx_L} {st : List Value} {h : zx_H} {o : zx_R} (ho : zx_o P q pc ls st h = some o) : ∃ i len, zx_at (zx_mi q) pc = some (i, len) ∧
    ((∃ st', zx_s i st = some (len, st') ∧ o = .inl (pc + len, ls, st', h)) ∨ (∃ v, zx_l i ls = some (len, v) ∧ o = .inl (pc + len, ls, v :: st, h)) ∨ (∃ ls' st', zx_t i (zx_ml q) ls st = some (len, ls', st') ∧ o = .inl (pc + len, ls', st', h)) ∨ (∃ pc' st', zx_j i len pc st = some (pc', st') ∧ o = .inl (pc', ls, st', h)) ∨ (∃ st' h', zx_g P (zx_mo q) i st h = some (len, st', h') ∧ o = .inl (pc + len, ls, st', h')) ∨ (∃ r, zx_r i len (zx_mr q) st = some r ∧ o = .inr (.inl r)) ∨ (∃ st', zx_n P (zx_mo q) i len st = some st' ∧ o = .inr (.inr (.inl st'))) ∨ ∃ z, zx_k P (zx_mo q) i len st h = some z ∧ o = .inr (.inr (.inr z))) := by
  unfold zx_o at ho
  split at ho
  · cases ho
  · next i len hat =>
    refine ⟨i, len, hat, ?_⟩
    split at ho
    · next k st' e =>
      split at ho
      · next hk => subst hk; cases ho; exact Or.inl ⟨st', e, rfl⟩
      · cases ho
    · split at ho
      · next k v e =>
        split at ho
        · next hk => subst hk; cases ho; exact Or.inr (Or.inl ⟨v, e, rfl⟩)
        · cases ho
      · split at ho
        · next k ls' st' e =>
          split at ho
          · next hk => subst hk; cases ho; exact Or.inr (Or.inr (Or.inl ⟨ls', st', e, rfl⟩))
          · cases ho
        · split at ho
          · next pc' st' e => cases ho; exact Or.inr (Or.inr (Or.inr (Or.inl ⟨pc', st', e, rfl⟩)))
          · split at ho
            · next k st' h' e =>
              split at ho
              · next hk => subst hk; cases ho; exact Or.inr (Or.inr (Or.inr (Or.inr (Or.inl ⟨st', h', e, rfl⟩))))
              · cases ho
            · split at ho
              · next r e => cases ho; exact Or.inr (Or.inr (Or.inr (Or.inr (Or.inr (Or.inl ⟨r, e, rfl⟩)))))
              · split at ho
                · next st' e => cases ho; exact Or.inr (Or.inr (Or.inr (Or.inr (Or.inr (Or.inr (Or.inl ⟨st', e, rfl⟩))))))
                · split at ho
                  · next z e => cases ho; exact Or.inr (Or.inr (Or.inr (Or.inr (Or.inr (Or.inr (Or.inr ⟨z, e, rfl⟩))))))
                  · cases ho
set_option maxHeartbeats 4000000 in
theorem zl_seg {P P2 : zx_P} {G : List Cond} {cl : List vw_C} (ok : zx_ok P G cl) (ok2 : zx_ok P2 G cl) (hpm : zx_pm P2 = zx_pm P) {stop d : Nat} {q : zx_M} (hq : zl_mok P2 q) {p : Program} {l : Launch} {e : Env} {R : Room} {s : State} {m : MethodId} {args : Array Value} {below : List Frame} {meth : Method} {c : Code} {cells slots : Nat} {Q : State → Prop} {D : va_G} {ad : Nat → Nat} {cA : Nat → ClassId} {A : Nat → Prop}
    (xe : p.tables.exec = Jvm.exec) (xb : c.code = zx_mb q) (xm : c.maxLocals = zx_ml q) (xo : s.vm.findClass (zx_my q).cls = some m.cls) (hts : ∀ w ∈ G, w.before args s = true) (hK : va_K D cl (zx_ty cA) s) (hZ : zx_Z P G ad A s s.heap) (hZ2 : zx_Z P2 G ad A s s.heap) (hA : ∀ q : Nat, s.heap.size ≤ q → A q) (hR1 : d + 1 ≤ R.frames) (hR2 : 40 * (d + 1) ≤ R.locals) (hR3 : cells ≤ R.cells) (hR4 : slots ≤ R.slots) :
    ∀ (n pc : Nat) (ls : zx_L) (st : List Value) (h : zx_H) (ls' : zx_L) (st' : List Value) (h' : zx_H), zl_x P P2 stop q d n pc ls st h = some (ls', st', h') → ∀ (H : Heap) (locs : List Loc) (lsA : Array Slot), va_P D cl (zx_w ad cA h) H → va_D A (zx_w ad cA h) → va_S A s.heap H locs → lv_has lsA (zx_ml q) (zx_lm ad ls) →
    (∀ (H1 : Heap) (locs1 : List Loc) (lsB : Array Slot), va_P D cl (zx_w ad cA h') H1 → va_D A (zx_w ad cA h') → va_S A s.heap H1 locs1 → lv_has lsB (zx_ml q) (zx_lm ad ls') → W p l e R s m args below meth c H1 locs1 cells slots Q (F0 m stop lsB (st'.map (zx_v ad)))) →
    W p l e R s m args below meth c H locs cells slots Q (F0 m pc lsA (st.map (zx_v ad))) := by
  intro n
  have hown : s.vm.findClass (zx_po P2 (zx_mo q)) = some m.cls := by rw [hq.1]; exact xo
  induction n with
  | zero => intro pc ls st h ls' st' h' hx; simp [zl_x] at hx
  | succ n ih =>
    intro pc ls st h ls' st' h' hx H locs lsA hP hD hS hl kk
    rw [zl_x] at hx
    split at hx
    · next pc1 ls1 st1 h1 ho =>
      obtain ⟨i, len, hat, hor⟩ := zx_oI ho
      have hd : decode (zx_mb q) pc = .ok (i, len) := hq.2 (pc, (i, len)) (zx_at_mem hat)
      have go : ∀ (H1 : Heap) (locs1 : List Loc) (lsB : Array Slot), va_P D cl (zx_w ad cA h1) H1 → va_D A (zx_w ad cA h1) → va_S A s.heap H1 locs1 → lv_has lsB (zx_ml q) (zx_lm ad ls1) → W p l e R s m args below meth c H1 locs1 cells slots Q (F0 m pc1 lsB (st1.map (zx_v ad))) := by
        intro H1 locs1 lsB a1 a2 a3 a4
        split at hx
        · next hs => subst hs; cases hx; exact kk H1 locs1 lsB a1 a2 a3 a4
        · exact ih _ _ _ _ _ _ _ hx H1 locs1 lsB a1 a2 a3 a4 kk
      rcases hor with ⟨st2, e1, e2⟩ | ⟨v, e1, e2⟩ | ⟨ls2, st2, e1, e2⟩ | ⟨pc2, st2, e1, e2⟩ | ⟨st2, h2, e1, e2⟩ | ⟨r, e1, e2⟩ | ⟨st2, e1, e2⟩ | ⟨z, e1, e2⟩
      · cases e2; exact zx_s_W xe xb e1 hd (go H locs lsA hP hD hS hl)
      · cases e2; exact zx_l_W xe xb e1 hd hl (go H locs lsA hP hD hS hl)
      · cases e2; exact zx_t_W xe xb e1 hd hl (fun lsB hlB => go H locs lsB hP hD hS hlB)
      · cases e2; exact zx_j_W xe xb e1 hd (go H locs lsA hP hD hS hl)
      · cases e2; exact zx_g_W ok2 xe xb hts hown hK hZ2 hP hD hS e1 hd (fun H1 locs1 a1 a2 a3 => go H1 locs1 lsA a1 a2 a3 hl)
      · cases e2
      · cases e2
      · cases e2
    · next cj as rest ho =>
      obtain ⟨i, len, hat, hor⟩ := zx_oI ho
      have hd : decode (zx_mb q) pc = .ok (i, len) := hq.2 (pc, (i, len)) (zx_at_mem hat)
      rcases hor with ⟨st2, e1, e2⟩ | ⟨v, e1, e2⟩ | ⟨ls2, st2, e1, e2⟩ | ⟨pc2, st2, e1, e2⟩ | ⟨st2, h2, e1, e2⟩ | ⟨r, e1, e2⟩ | ⟨st2, e1, e2⟩ | ⟨z, hk9, e2⟩
      · cases e2
      · cases e2
      · cases e2
      · cases e2
      · cases e2
      · cases e2
      · cases e2
      · cases e2
        split at hx
        · cases hx
        · next q' hq' =>
          split at hx
          · cases hx
          · next r1 h1 hx1 =>
            have go : ∀ (H1 : Heap) (locs1 : List Loc), va_P D cl (zx_w ad cA h1) H1 → va_D A (zx_w ad cA h1) → va_S A s.heap H1 locs1 → W p l e R s m args below meth c H1 locs1 cells slots Q (F0 m (pc + 3) lsA ((r1.toList ++ rest).map (zx_v ad))) := fun H1 locs1 a1 a2 a3 => ih _ _ _ _ _ _ _ hx H1 locs1 lsA a1 a2 a3 hl kk
            have hm' := ok.2.1 _ _ hq'
            obtain ⟨y1, y2, y3, y4, y5, y6, y7, y8⟩ := hm'
            unfold zx_k at hk9
            split at hk9
            · next idx =>
              split at hk9
              · next cj' hpc =>
                split at hk9
                · next q9 hq9 =>
                  split at hk9
                  · next b rest' hdrop =>
                    split at hk9
                    · next ci fs hbc =>
                      split at hk9
                      · next hc9 =>
                        obtain ⟨c1, c2, c3, c4, c5, c6⟩ := hc9
                        cases hk9
                        rw [hpm] at hq9
                        cases hq9.symm.trans hq'
                        subst c1
                        obtain ⟨q8, hq8, hlk⟩ := ok2.2.2.2.1 _ _ _ hpc
                        rw [hpm] at hq8
                        cases hq8.symm.trans hq'
                        rw [c2] at y7
                        obtain ⟨z1, z2, T9, N9, z3⟩ := y7
                        have hst : st = st.take (zx_mp q') ++ .ref b :: rest := by rw [← hdrop, List.take_append_drop]
                        exact zx_call (va_runV (As := ((st.take (zx_mp q')).reverse).map (zx_v ad)) (b := ad b) (C := (zx_my q').cls) (nL := zx_ml q) ⟨xe, xb, xm, hown, hts⟩ (zx_met_of (zx_sim_all ok n) (ok.2.1 _ _ hq') c6 hx1 l D ad cA H.size)
                          ⟨callB_of (zx_mp q') hts (zx_good ok y5) rfl rfl rfl (hts _ y6) (hts _ hlk) ⟨y2.1, y2.2, y3⟩ ⟨hR1, by show 8 + (zx_ml q' + 11) + 40 * d ≤ R.locals; omega⟩, hts _ z1, hts _ z2⟩
                          ⟨zx_blind P G D cl ad cA h H.size _, va_recv hK hP z3 (zx_w_at hbc), fun U hU hW => ⟨rfl, zx_preU hK hZ hA hP hD hS U hU hW⟩⟩ rfl (by rw [List.length_map, List.length_reverse]; exact c3) hl.1
                          (by show st.map (zx_v ad) = _; conv => lhs; rw [hst]
                              rw [List.map_append, List.map_reverse, List.reverse_reverse]; rfl)
                          (lv_room (by rw [zx_cat_sum]; exact c4)) hd ⟨hR3, hR4⟩) hS (zx_sub hD hS hA) go
                      · cases hk9
                    · cases hk9
                  · cases hk9
                · cases hk9
              · cases hk9
            · next idx =>
              split at hk9
              · next cj' hpc =>
                split at hk9
                · next q9 hq9 =>
                  split at hk9
                  · next hc9 =>
                    obtain ⟨c1, c2, c3, c4, c5, c6⟩ := hc9
                    cases hk9
                    rw [hpm] at hq9
                    cases hq9.symm.trans hq'
                    subst c1
                    obtain ⟨q8, hq8, hlk⟩ := ok2.2.2.2.1 _ _ _ hpc
                    rw [hpm] at hq8
                    cases hq8.symm.trans hq'
                    rw [c2] at y7
                    exact zx_call (va_runS (As := ((st.take (zx_mp q')).reverse).map (zx_v ad)) (nL := zx_ml q) ⟨xe, xb, xm, hown, hts⟩ (zx_met_of (zx_sim_all ok n) (ok.2.1 _ _ hq') c6 hx1 l D ad cA H.size)
                      ⟨callB_of (zx_mp q') hts (zx_good ok y5) rfl rfl rfl (hts _ y6) (hts _ hlk) ⟨y2.1, y2.2, y3⟩ ⟨hR1, by show 8 + (zx_ml q' + 11) + 40 * d ≤ R.locals; omega⟩, hts _ y7⟩
                      ⟨zx_blind P G D cl ad cA h H.size _, fun U hU hW => ⟨rfl, zx_preU hK hZ hA hP hD hS U hU hW⟩⟩ rfl (by rw [List.length_map, List.length_reverse]; exact c3) hl.1
                      (by show st.map (zx_v ad) = _
                          rw [List.map_reverse, List.reverse_reverse, ← List.map_append, List.take_append_drop])
                      (lv_room (by rw [zx_cat_sum]; exact c4)) hd ⟨hR3, hR4⟩) hS (zx_sub hD hS hA) go
                  · cases hk9
                · cases hk9
              · cases hk9
            · cases hk9
    · cases hx
