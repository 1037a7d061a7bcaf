/-! ===== 32: .. for every run ===== -/
set_option maxHeartbeats 8000000 in
theorem zy_sim_all {P : zx_P} {X : zy_P} {G : List Cond} {cl : List vw_C} (ok : zy_ok P X G cl) : ∀ n : Nat, zy_sim P X G cl n := by
  intro n
  induction n with
  | zero => intro d q pc ls st h cc ss h' c' s' hq hx; simp [zy_x] at hx
  | succ n ih =>
    intro d q pc ls st h cc ss h' c' s' hq hx p l e s m args below meth c H locs D ad cA A lsA mc ms ad0 L0 xe xb xm xr xl xn xo hts hK hZ hA hP hD hS hl hmc hms hL0 hex
    rw [zy_x] at hx
    have hown : s.vm.findClass (zx_po P (zx_mo q)) = some m.cls := by rw [hq.2.2.2.1]; exact xo
    split at hx
    · cases hx
    · next i len hat =>
      have hd : decode (zx_mb q) pc = .ok (i, len) := hq.2.2.2.2.2.2.2.2 (pc, (i, len)) (zx_at_mem hat)
      split at hx
      · next k st' hs =>
        split at hx
        · next hk => subst hk; exact zx_s_W xe xb hs hd (ih d q _ ls st' h cc ss h' c' s' hq hx p l e s m args below meth c H locs D ad cA A lsA mc ms ad0 L0 xe xb xm xr xl xn xo hts hK hZ hA hP hD hS hl hmc hms hL0 hex)
        · cases hx
      · split at hx
        · next k v hs =>
          split at hx
          · next hk => subst hk; exact zx_l_W xe xb hs hd hl (ih d q _ ls (v :: st) h cc ss h' c' s' hq hx p l e s m args below meth c H locs D ad cA A lsA mc ms ad0 L0 xe xb xm xr xl xn xo hts hK hZ hA hP hD hS hl hmc hms hL0 hex)
          · cases hx
        · split at hx
          · next idx a r _ _ =>
            split at hx
            · next v hv =>
              split at hx
              · next hk => subst hk; exact zx_gf_W ok.1 xe xb hts hown hK hP hv hd (ih d q _ ls (v :: r) h cc ss h' c' s' hq hx p l e s m args below meth c H locs D ad cA A lsA mc ms ad0 L0 xe xb xm xr xl xn xo hts hK hZ hA hP hD hS hl hmc hms hL0 hex)
              · cases hx
            · cases hx
          · next idx v a r _ _ =>
            split at hx
            · next h1 hv =>
              split at hx
              · next hk =>
                subst hk
                unfold zy_pu at hv
                split at hv
                · next ci k hf =>
                  split at hv
                  · next cj fs ha =>
                    split at hv
                    · next hc =>
                      obtain ⟨hc, hk, hw, hn, hfit⟩ := hc
                      subst hc
                      cases hv
                      obtain ⟨C, T, N, ty0, f1, f2, f3, f4, f5, f6, f7⟩ := ok.1.2.2.1 _ _ _ _ hf
                      rw [f7] at hn hfit
                      obtain ⟨hn, hfit⟩ := zy_fit (ad := ad) hn hfit
                      have hdecl : (T k).1 = zx_po P (zx_mo q) := ok.2.2.2.2.2.2 _ _ _ _ _ _ _ hw hf f1
                      have kk : ∀ (H1 : Heap) (locs1 : List Loc), va_P D cl ((zx_w ad cA h).set a (ad a, .inr (cj, (fs.map (zx_v ad)).set k (zx_v ad v)))) H1 → va_D A ((zx_w ad cA h).set a (ad a, .inr (cj, (fs.map (zx_v ad)).set k (zx_v ad v)))) → va_S A s.heap H1 locs1 → W p l e (zy_room d mc ms) s m args below meth c H1 locs1 cc ss (MQ below (zy_Q D cl ad0 L0 cA A h') args s c' s' A) (F0 m (pc + 3) lsA (r.map (zx_v ad))) := fun H1 locs1 a1 a2 a3 => by
                        rw [zx_w_put] at a1 a2
                        exact ih d q _ ls r _ cc ss h' c' s' hq hx p l e s m args below meth c H1 locs1 D ad cA A lsA mc ms ad0 L0 xe xb xm xr xl xn xo hts hK hZ hA a1 a2 a3 hl hmc hms (by rw [List.length_set]; exact hL0) hex
                      cases hfin : (T k).2.2.2 with
                      | false => exact va_put (D := D) (ci := cj) (v := zx_v ad v) (ty := ty0 k) (C := C) (T := T) (N := N) xe xb hts f4 ty0 f5 f6 hown hK hP hD hS a (zx_w_at ha) f1 k f2 (hts _ f3) (fun _ h9 => h9) hfin (f5 k f2) hn hfit (by rw [List.length_map]; exact hk) hd kk
                      | true => exact va_putF (D := D) (ci := cj) (v := zx_v ad v) (ty := ty0 k) (C := C) (T := T) (N := N) xe xb hts f4 ty0 f5 f6 hown hK hP hD hS a (zx_w_at ha) f1 k f2 (hts _ f3) (fun _ h9 => h9) hfin xn hdecl (f5 k f2) hn hfit (by rw [List.length_map]; exact hk) hd kk
                    · cases hv
                  · cases hv
                · cases hv
              · cases hx
            · cases hx
          · next t m9 r _ _ =>
            split at hx
            · next z hz =>
              split at hx
              · next hc =>
                obtain ⟨c1, c2, c3, c4⟩ := hc
                subst c1
                obtain ⟨w1, w2, w3⟩ := zy_wfI c4
                obtain ⟨g1, g2⟩ := zy_le _ _ _ _ _ _ _ _ _ _ _ _ hx
                have kk : ∀ (tt : Nat) (x : vp_A) (q9 : Nat) (H1 : Heap), z = (tt, x) → va_P D cl (zx_w ad cA h ++ [(q9, .inl (cA tt, x))]) H1 → va_D A (zx_w ad cA h ++ [(q9, .inl (cA tt, x))]) → va_S A s.heap H1 locs → W p l e (zy_room d mc ms) s m args below meth c H1 locs (cc + 1) (ss + m9.toNatClampNeg) (MQ below (zy_Q D cl ad0 L0 cA A h') args s c' s' A) (F0 m (pc + 2) lsA (.ref q9 :: r.map (zx_v ad))) := by
                  intro tt x q9 H1 hz9 a1 a2 a3
                  subst hz9
                  have e1 : zx_w (zy_up ad h.length q9) cA (h ++ [.inl (tt, x)]) = zx_w ad cA h ++ [(q9, .inl (cA tt, x))] := zy_w_app w1
                  rw [← e1] at a1 a2
                  have e2 : (.ref q9 :: r.map (zx_v ad) : List Value) = (.ref h.length :: r).map (zx_v (zy_up ad h.length q9)) := by
                    rw [List.map_cons, zy_vs (zy_up_ex ad h.length q9) w3]
                    congr 1
                    show Value.ref q9 = Value.ref (zy_up ad h.length q9 h.length)
                    unfold zy_up; rw [if_pos rfl]
                  rw [e2]
                  exact ih d q _ ls _ _ _ _ h' c' s' hq hx p l e s m args below meth c H1 locs D (zy_up ad h.length q9) cA A lsA mc ms ad0 L0 xe xb xm xr xl xn xo hts hK hZ hA a1 a2 a3 (by rw [zy_lm (zy_up_ex ad h.length q9) w2]; exact hl) hmc hms (by rw [List.length_append]; omega) (fun i hi => (zy_up_ex ad h.length q9 i (by omega)).trans (hex i hi))
                unfold zy_ar at hz
                split at hz
                · cases hz
                  exact va_newa (atype := .int) xe xb (hts _ ok.2.2.2.2.2.1.1) rfl hK hP hD hS hA (a0 := (m9.toNatClampNeg, .inl (fun _ => 0))) (fun _ => rfl) c2 rfl (by show _ * 4 ≤ _; omega) (by show cc + 1 ≤ mc; omega) (by show ss + _ ≤ ms; omega) hd (fun q9 cB H1 b1 b2 b3 b4 => by
                    have := zy_cA 0 hK rfl (Or.inl rfl) b1
                    subst this
                    exact kk 0 _ q9 H1 rfl b2 b3 b4)
                · cases hz
                  exact va_newa (atype := .long) xe xb (hts _ ok.2.2.2.2.2.1.2.1) rfl hK hP hD hS hA (a0 := (m9.toNatClampNeg, .inr (.inl (fun _ => 0)))) (fun _ => rfl) c2 rfl (by show _ * 8 ≤ _; omega) (by show cc + 1 ≤ mc; omega) (by show ss + _ ≤ ms; omega) hd (fun q9 cB H1 b1 b2 b3 b4 => by
                    have := zy_cA 1 hK rfl (Or.inr (Or.inl rfl)) b1
                    subst this
                    exact kk 1 _ q9 H1 rfl b2 b3 b4)
                · cases hz
                  exact va_newa (atype := .boolean) xe xb (hts _ ok.2.2.2.2.2.1.2.2) rfl hK hP hD hS hA (a0 := (m9.toNatClampNeg, .inl (fun _ => 0))) (fun _ => rfl) c2 rfl (by show _ * 1 ≤ _; omega) (by show cc + 1 ≤ mc; omega) (by show ss + _ ≤ ms; omega) hd (fun q9 cB H1 b1 b2 b3 b4 => by
                    have := zy_cA 2 hK rfl (Or.inr (Or.inr rfl)) b1
                    subst this
                    exact kk 2 _ q9 H1 rfl b2 b3 b4)
                · cases hz
              · cases hx
            · cases hx
          · next idx _ _ =>
            split at hx
            · next ci hpk =>
              split at hx
              · next hc =>
                obtain ⟨c1, c4, c5⟩ := hc
                subst c1
                obtain ⟨w1, w2, w3⟩ := zy_wfI c4
                obtain ⟨g1, g2⟩ := zy_le _ _ _ _ _ _ _ _ _ _ _ _ hx
                obtain ⟨C, T, N, ty0, f1, f2, f3, f4, f5, f6, f7, f8⟩ := ok.2.2.1 _ _ _ hpk
                rw [f7] at hx g2
                refine va_new (ci := ci) (fs := zy_pd X ci) (C := C) (T := T) (N := N) xe xb hts f5 ty0 f6 hown (hts _ f2) (hts _ f3) (hts _ f4) hK hP hD hS hA f1 f8 (by show cc + 1 ≤ mc; omega) (by show ss + N ≤ ms; omega) hd (fun q9 H1 a1 a2 a3 => ?_)
                have e1 : zx_w (zy_up ad h.length q9) cA (h ++ [.inr (ci, zy_pd X ci)]) = zx_w ad cA h ++ [(q9, .inr (ci, zy_pd X ci))] := by
                  rw [zy_w_app w1]
                  show _ ++ [(q9, Sum.inr (ci, (zy_pd X ci).map (zx_v (zy_up ad h.length q9))))] = _
                  rw [zy_nor c5]
                rw [← e1] at a1 a2
                have e2 : (.ref q9 :: st.map (zx_v ad) : List Value) = (.ref h.length :: st).map (zx_v (zy_up ad h.length q9)) := by
                  rw [List.map_cons, zy_vs (zy_up_ex ad h.length q9) w3]
                  congr 1
                  show Value.ref q9 = Value.ref (zy_up ad h.length q9 h.length)
                  unfold zy_up; rw [if_pos rfl]
                rw [e2]
                exact ih d q _ ls _ _ _ _ h' c' s' hq hx p l e s m args below meth c H1 locs D (zy_up ad h.length q9) cA A lsA mc ms ad0 L0 xe xb xm xr xl xn xo hts hK hZ hA a1 a2 a3 (by rw [zy_lm (zy_up_ex ad h.length q9) w2]; exact hl) hmc hms (by rw [List.length_append]; omega) (fun i hi => (zy_up_ex ad h.length q9 i (by omega)).trans (hex i hi))
              · cases hx
            · cases hx
          · next idx _ _ =>
            split at hx
            · next hpi =>
              split at hx
              · next a r d' _ =>
                split at hx
                · next hc =>
                  obtain ⟨c1, c2⟩ := hc
                  subst c1
                  obtain ⟨z1, z2, z3⟩ := ok.2.2.2.2.1 _ _ hpi
                  have hroom := lv_room (m := m) (pc := pc) (ls := lsA) (rest := ((.ref a :: r).map (zx_v ad))) (st := r.map (zx_v ad)) (by rw [zx_cat_sum]; exact c2)
                  exact W.objInit xe xb hown (hts _ z1) (hts _ z2) (hts _ z3) rfl (by rw [xm]; exact hl.1) rfl hd (Nat.le_add_left 1 _) (by show _ ≤ 40 * (d' + 1); omega) (ih (d' + 1) q _ ls r h cc ss h' c' s' hq hx p l e s m args below meth c H locs D ad cA A lsA mc ms ad0 L0 xe xb xm xr xl xn xo hts hK hZ hA hP hD hS hl hmc hms hL0 hex)
                · cases hx
              · cases hx
            · split at hx
              · next j hst d' hpc =>
                split at hx
                · next q' hq' =>
                  split at hx
                  · next b rest hdrop =>
                    split at hx
                    · next hc =>
                      obtain ⟨c1, c2, c3, c4, c5, c6⟩ := hc
                      subst c1
                      obtain ⟨w1, w2, w3⟩ := zy_wfI c6
                      split at hx
                      · next h1 c1 s1 hx1 =>
                        split at hx
                        · next hlen =>
                          obtain ⟨g1, g2⟩ := zy_le _ _ _ _ _ _ _ _ _ _ _ _ hx
                          obtain ⟨y1, y2, y3, y4, y5, y6, y7, y8, y9⟩ := ok.2.1 _ _ hq'
                          have hst9 : st = st.take (zx_mp q') ++ .ref b :: rest := by rw [← hdrop, List.take_append_drop]
                          have kk : ∀ (ad' : Nat → Nat) (H1 : Heap) (locs1 : List Loc), zy_ex ad ad' h.length → va_P D cl (zx_w ad' cA h1) H1 → va_D A (zx_w ad' cA h1) → va_S A s.heap H1 locs1 → W p l e (zy_room (d' + 1) mc ms) s m args below meth c H1 locs1 (cc + c1) (ss + s1) (MQ below (zy_Q D cl ad0 L0 cA A h') args s c' s' A) (F0 m (pc + 3) lsA (rest.map (zx_v ad))) := by
                            intro ad' H1 locs1 hx9 a1 a2 a3
                            rw [← zy_vs hx9 w3]
                            exact ih (d' + 1) q _ ls rest h1 _ _ h' c' s' hq hx p l e s m args below meth c H1 locs1 D ad' cA A lsA mc ms ad0 L0 xe xb xm xr xl xn xo hts hK hZ hA a1 a2 a3 (by rw [zy_lm hx9 w2]; exact hl) hmc hms (by omega) (fun i hi => (hx9 i (by omega)).trans (hex i hi))
                          have hM := zy_met_of ih (ok.2.1 _ _ hq') c5 hx1 l D ad cA H.size
                          have hpre : PreS s H (va_Pc ((.ref b :: (st.take (zx_mp q')).reverse).map (zx_v ad)) (zy_pre P X D cl ad cA h H.size)) (.ref (ad b) :: ((st.take (zx_mp q')).reverse).map (zx_v ad)) := ⟨zy_blind P X D cl ad cA h H.size _, fun U hU hW => ⟨rfl, by rw [hU], by rw [hU]; exact hP, va_K.moved hW.alike hK, hD.weaken (fun _ _ _ _ => trivial), zy_N.warm hW hZ⟩⟩
                          have hroom : 8 + (zx_ml q' + 11) + 40 * d' ≤ 40 * (d' + 1) := by omega
                          have hstk : st.map (zx_v ad) = (((st.take (zx_mp q')).reverse).map (zx_v ad)).reverse ++ .ref (ad b) :: rest.map (zx_v ad) := by
                            conv => lhs; rw [hst9]
                            rw [List.map_append, List.map_reverse, List.reverse_reverse]; rfl
                          cases hst with
                          | none =>
                            have hlk := ok.2.2.2.1 _ _ _ _ hpc hq'
                            exact zy_call (va_runI (b := ad b) (As := ((st.take (zx_mp q')).reverse).map (zx_v ad)) (nL := zx_ml q) ⟨xe, xb, xm, hown, hts⟩ hM ⟨callB_of (zx_mp q') hts (zx_good ok.1 y5) rfl rfl rfl (hts _ y6) (hts _ hlk) ⟨y2.1, y2.2, y3⟩ ⟨Nat.le_refl _, hroom⟩, y8, hts _ y7⟩ hpre rfl (by rw [List.length_map, List.length_reverse]; exact c2) hl.1 hstk (lv_room (by rw [zx_cat_sum]; exact c3)) hd ⟨by show cc + c1 ≤ mc; omega, by show ss + s1 ≤ ms; omega⟩) hS (zx_sub hD hS hA) kk
                          | some hst =>
                            exact zy_call (va_runIN (host := hst) (b := ad b) (As := ((st.take (zx_mp q')).reverse).map (zx_v ad)) (nL := zx_ml q) ⟨xe, xb, xm, hown, hts⟩ hM ⟨va_cnB (zx_mp q') hts (zx_good ok.1 y5) rfl rfl rfl (hZ _ _ _ _ _ hpc hq') (hts _ y6) ⟨y2.1, y2.2, y3⟩ ⟨Nat.le_refl _, hroom⟩, y8, hts _ y7⟩ hpre rfl (by rw [List.length_map, List.length_reverse]; exact c2) hl.1 hstk (lv_room (by rw [zx_cat_sum]; exact c3)) hd ⟨by show cc + c1 ≤ mc; omega, by show ss + s1 ≤ ms; omega⟩) hS (zx_sub hD hS hA) kk
                        · cases hx
                      · cases hx
                    · cases hx
                  · cases hx
                · cases hx
              · cases hx
          · split at hx
            · next hk =>
              subst hk
              cases hx
              exact W.vret xe xb xr (fun t ht hW => ⟨rfl, ⟨ad, hex, by rw [ht]; exact hP, hD⟩, hS.F ht⟩) hS.2.2 hd xl
            · cases hx
          · cases hx
