/-! ===== 43: the law's calls by contract; its script ===== -/
theorem zx_T.up {P : zx_P} {d e : Nat} {q : zx_M} {pc : Nat} {ls : zx_L} {st : List Value} {h : zx_H} {F : Option Value → zx_H → Prop} (hd : d ≤ e) (ht : zx_T P d q pc ls st h F) : zx_T P e q pc ls st h F := by
  obtain ⟨n, r, h', hx, hf⟩ := ht
  exact ⟨n, r, h', zx_mono n n d e _ _ _ _ _ _ (Nat.le_refl _) hd hx, hf⟩
section ZLR
variable {HT : List za_D} {P P2 : zx_P} {stop d pc : Nat} {q : zx_M} {ls : zx_L} {st : List Value} {h : zx_H} {F : zx_L → List Value → zx_H → Prop}
theorem zl_inv {k : za_K} (hK : zb_K P HT k) {idx b ci : Nat} {q' : zx_M} {As rest : List Value} (ha : zx_at (zx_mi q) pc = some (.invokevirtual idx, 3)) (hpc : zx_pc P2 (zx_mo q) idx = some k.1) (hpm : (zx_pm P2)[k.1]? = some q') (hq : (zx_pm P)[k.1]? = some q') (hmc : zx_mc q' = some ci) (hoc : za_oc HT b ci = true) (hst : st = As.reverse ++ .ref b :: rest) (hlen : As.length = zx_mp q') (hcat : (rest.map fun v => v.category).sum ≤ 8) (hml : zx_ml q' ≤ 21) (hsl : (lg_sl (.ref b :: As)).length ≤ zx_ml q') (hargs : zb_A zb_T (.ref b :: As) k.2.2.1) (hd : k.2.1 ≤ d) (hI : zb_I HT h)
    (ht : ∀ r1 h1, zb_I HT h1 → zb_W k.2.2.2.2 h h1 → (∃ c ∈ k.2.2.2.1, zb_R r1 c.1 ∧ zb_ca (.ref b :: As) k.2.2.1 c.2) → zl_T P P2 stop q d (pc + 3) ls (r1.toList ++ rest) h1 F) : zl_T P P2 stop q d pc ls st h F := by
  have hdrop : st.drop (zx_mp q') = .ref b :: rest := by rw [hst, ← hlen, ← List.length_reverse, List.drop_left]
  have htake : st.take (zx_mp q') = As.reverse := by rw [hst, ← hlen, ← List.length_reverse, List.take_left]
  obtain ⟨fs, hfs⟩ : ∃ fs, h[b]? = some (.inr (ci, fs)) := by
    unfold za_oc at hoc
    split at hoc
    · next cj9 fd9 e9 =>
      obtain ⟨fs, e8, _⟩ := hI.obj e9
      rw [← Nat.eq_of_beq_eq_true hoc]
      exact ⟨fs, e8⟩
    · cases hoc
  refine zl_T.c (cj := k.1) (as := .ref b :: As) (rest := rest) (q' := q') ha rfl rfl rfl rfl rfl rfl rfl ?_ hq ((hK q' hq (.ref b :: As) h hargs hI).up hd) (fun r1 h1 hf => ht r1 h1 hf.1 hf.2.1 hf.2.2.2)
  unfold zx_k
  simp only [hpc, hpm, hdrop, hfs, htake, List.reverse_reverse]
  rw [if_pos ⟨trivial, hmc, by rw [List.length_reverse]; exact hlen, hcat, hml, hsl⟩]
end ZLR
section ZLS
variable {P : zx_P} {L : Nat} {xs : Nat → Int32} {HT : List za_D} {stop d pc : Nat} {q : zx_M} {ls : zx_L} {st : List Value} {h : zx_H} {F : zx_L → List Value → zx_H → Prop}
theorem zl_none (hI : zb_I HT h) (hH : HT.length ≤ 2000000) : h[2000000]? = none := by
  rw [List.getElem?_eq_none_iff, zb_A.len hI]; exact hH
/-- a word of the script -/
theorem zl_sld {i : Nat} {r : List Value} (ha : zx_at (zx_mi q) pc = some (.iaload, 1)) (hI : zb_I HT h) (hH : HT.length ≤ 2000000) (hi : i < L) (hL : L ≤ 2560) (hs : ¬ pc + 1 = stop) (ht : zl_T P (zl_P L xs) stop q d (pc + 1) ls (.int (xs i) :: r) h F) : zl_T P (zl_P L xs) stop q d pc ls (.int (nI i) :: .ref 2000000 :: r) h F := by
  refine zl_T.g ha rfl rfl rfl rfl ?_ hs ht
  unfold zx_g
  have hc : (nI i).toNatClampNeg = i := nI_clamp (by omega)
  have h0 : ¬ (nI i < 0 ∨ L ≤ (nI i).toNatClampNeg) := by
    rw [hc]
    rintro (z | z)
    · exact nI_pos (by omega) z
    · omega
  simp only [zl_none hI hH]
  show (match (if (2000000 : Nat) = 2000000 then some (L, xs) else zp_pa 2000000) with
    | some (n, f) => if nI i < 0 ∨ n ≤ (nI i).toNatClampNeg then none else some (1, Value.int (f (nI i).toNatClampNeg) :: r, h)
    | none => none) = _
  rw [if_pos rfl]
  dsimp only
  rw [if_neg h0, hc]
theorem zl_slen {r : List Value} (ha : zx_at (zx_mi q) pc = some (.arraylength, 1)) (hI : zb_I HT h) (hH : HT.length ≤ 2000000) (hs : ¬ pc + 1 = stop) (ht : zl_T P (zl_P L xs) stop q d (pc + 1) ls (.int (nI L) :: r) h F) : zl_T P (zl_P L xs) stop q d pc ls (.ref 2000000 :: r) h F := by
  refine zl_T.g ha rfl rfl rfl rfl ?_ hs ht
  unfold zx_g
  simp only [zl_none hI hH]
  show (match (if (2000000 : Nat) = 2000000 then some (L, xs) else zp_pa 2000000) with
    | some (n, _) => some (1, Value.int (Int32.ofNat n) :: r, h)
    | none => none) = _
  rw [if_pos rfl]
  rfl
/-- script[i + c], five instructions -/
theorem zl_arg {i c : Nat} {r : List Value} (h1 : zx_at (zx_mi q) pc = some (.aload_n 0, 1)) (h2 : zx_at (zx_mi q) (pc + 1) = some (.iload 4, 2)) (h3 : zx_at (zx_mi q) (pc + 3) = some (.iconst (c : Int), 1)) (h4 : zx_at (zx_mi q) (pc + 4) = some (.iadd, 1)) (h5 : zx_at (zx_mi q) (pc + 5) = some (.iaload, 1)) (l0 : zx_lk ls 0 = some (.ref 2000000)) (l4 : zx_lk ls 4 = some (.int (nI i))) (hI : zb_I HT h) (hH : HT.length ≤ 2000000) (hc : c ≤ 4) (hi : i + 5 ≤ L) (hL : L ≤ 2560) (hs : stop < pc) (ht : zl_T P (zl_P L xs) stop q d (pc + 6) ls (.int (xs (i + c)) :: r) h F) : zl_T P (zl_P L xs) stop q d pc ls r h F := by
  refine zl_T.l (v := .ref 2000000) h1 rfl (by show zx_gr ls 0 1 = _; unfold zx_gr; rw [l0]) (by omega) ?_
  refine zl_T.l (v := .int (nI i)) h2 rfl (by show zx_gi ls 4 2 = _; unfold zx_gi; rw [l4]) (by omega) ?_
  refine zl_T.s (st' := .int (nI c) :: .int (nI i) :: .ref 2000000 :: r) h3 rfl (by omega) ?_
  refine zl_T.s (st' := .int (nI (i + c)) :: .ref 2000000 :: r) h4 (by show some (1, Value.int (nI i + nI c) :: .ref 2000000 :: r) = _; rw [nI_add]) (by omega) ?_
  exact zl_sld h5 hI hH (by omega) hL (by omega) ht
end ZLS
