/-! ===== 03: one step of the interpreter is a step of the machine: stack, locals, jumps ===== -/
section ZXA
variable {p : Program} {l : Launch} {e : Env} {R : Room} {s : State} {m : MethodId} {args : Array Value} {below : List Frame} {meth : Method} {c : Code} {H : Heap} {locs : List Loc} {cells slots : Nat} {Q : State → Prop}
variable {cc : ByteArray} {pc : Nat} {lsA : Array Slot} {ad : Nat → Nat}
set_option maxHeartbeats 4000000 in
theorem zx_s_W (hx : p.tables.exec = Jvm.exec) (hb : c.code = cc) {i : Instr} {k : Nat} {st st' : List Value} (h : zx_s i st = some (k, st')) (hd : decode cc pc = .ok (i, k))
    (kk : W p l e R s m args below meth c H locs cells slots Q (F0 m (pc + k) lsA (st'.map (zx_v ad)))) : W p l e R s m args below meth c H locs cells slots Q (F0 m pc lsA (st.map (zx_v ad))) := by
  unfold zx_s at h
  split at h
  · cases h; exact lv_iconst hx hb hd rfl kk
  · cases h; exact lv_bipush hx hb hd rfl kk
  · cases h; exact lv_sipush hx hb hd rfl kk
  · cases h; exact lv_lconst hx hb hd rfl kk
  · cases h; exact lv_iadd hx hb hd kk
  · cases h; exact lv_isub hx hb hd kk
  · cases h; exact lv_imul hx hb hd kk
  · cases h; exact lv_iand hx hb hd kk
  · split at h
    · cases h
    · next hne => cases h; exact lv_idiv hx hb hd hne kk
  · cases h; exact lv_iushr hx hb hd rfl kk
  · cases h; exact lv_ladd hx hb hd kk
  · cases h; exact lv_land hx hb hd kk
  · cases h; exact lv_lor hx hb hd kk
  · split at h
    · cases h
    · next hne => cases h; exact lv_ldiv hx hb hd hne kk
  · cases h; exact lv_lshl hx hb hd rfl kk
  · cases h; exact lv_i2l hx hb hd rfl kk
  · cases h; exact lv_l2i hx hb hd rfl kk
  · cases h; exact W.lcmp hx hb hd kk
  · split at h
    · next hc => cases h; exact lv_dup hx hb hd (by rw [zx_v_cat]; exact hc) kk
    · cases h
  · split at h
    · next hc => cases h; exact lv_pop hx hb hd (by rw [zx_v_cat]; exact hc) kk
    · cases h
  · split at h
    · next hc => cases h; exact lv_pop2_2 hx hb hd (by rw [zx_v_cat]; exact hc) kk
    · cases h
  · split at h
    · next hc => cases h; exact lv_dup_x1 hx hb hd (by rw [zx_v_cat]; exact hc.1) (by rw [zx_v_cat]; exact hc.2) kk
    · cases h
  · cases h
theorem zx_gi_ok {ls : zx_L} {k n n' : Nat} {v : Value} (h : zx_gi ls k n = some (n', v)) : n' = n ∧ ∃ x, v = .int x ∧ zx_lk ls k = some (.int x) := by
  unfold zx_gi at h
  split at h
  · next x e => cases h; exact ⟨rfl, x, rfl, e⟩
  · cases h
theorem zx_gl_ok {ls : zx_L} {k n n' : Nat} {v : Value} (h : zx_gl ls k n = some (n', v)) : n' = n ∧ ∃ x, v = .long x ∧ zx_lk ls k = some (.long x) := by
  unfold zx_gl at h
  split at h
  · next x e => cases h; exact ⟨rfl, x, rfl, e⟩
  · cases h
theorem zx_gr_ok {ls : zx_L} {k n n' : Nat} {v : Value} (h : zx_gr ls k n = some (n', v)) : n' = n ∧ ∃ x, v = .ref x ∧ zx_lk ls k = some (.ref x) := by
  unfold zx_gr at h
  split at h
  · next x e => cases h; exact ⟨rfl, x, rfl, e⟩
  · cases h
set_option maxHeartbeats 4000000 in
theorem zx_l_W (hx : p.tables.exec = Jvm.exec) (hb : c.code = cc) {i : Instr} {k nL : Nat} {ls : zx_L} {v : Value} {st : List Value} (h : zx_l i ls = some (k, v)) (hd : decode cc pc = .ok (i, k)) (hl : lv_has lsA nL (zx_lm ad ls))
    (kk : W p l e R s m args below meth c H locs cells slots Q (F0 m (pc + k) lsA ((v :: st).map (zx_v ad)))) : W p l e R s m args below meth c H locs cells slots Q (F0 m pc lsA (st.map (zx_v ad))) := by
  unfold zx_l at h
  split at h
  · obtain ⟨rfl, x, rfl, e⟩ := zx_gi_ok h; exact lv_iload_n hx hb hd rfl (zx_lm_at hl e) kk
  · obtain ⟨rfl, x, rfl, e⟩ := zx_gi_ok h; exact lv_iload hx hb hd (zx_lm_at hl e) kk
  · obtain ⟨rfl, x, rfl, e⟩ := zx_gl_ok h; exact lv_lload_n hx hb hd rfl (zx_lm_at hl e) kk
  · obtain ⟨rfl, x, rfl, e⟩ := zx_gl_ok h; exact lv_lload hx hb hd (zx_lm_at hl e) kk
  · obtain ⟨rfl, x, rfl, e⟩ := zx_gr_ok h; exact lv_aload_n hx hb hd rfl (zx_lm_at hl e) kk
  · obtain ⟨rfl, x, rfl, e⟩ := zx_gr_ok h; exact lv_aload hx hb hd (zx_lm_at hl e) kk
  · cases h
set_option maxHeartbeats 4000000 in
theorem zx_t_W (hx : p.tables.exec = Jvm.exec) (hb : c.code = cc) {i : Instr} {k nL : Nat} {ls ls' : zx_L} {st st' : List Value} (h : zx_t i nL ls st = some (k, ls', st')) (hd : decode cc pc = .ok (i, k)) (hl : lv_has lsA nL (zx_lm ad ls))
    (kk : ∀ lsB : Array Slot, lv_has lsB nL (zx_lm ad ls') → W p l e R s m args below meth c H locs cells slots Q (F0 m (pc + k) lsB (st'.map (zx_v ad)))) : W p l e R s m args below meth c H locs cells slots Q (F0 m pc lsA (st.map (zx_v ad))) := by
  unfold zx_t at h
  split at h
  · split at h
    · next hn => cases h; exact lv_istore_n hx hb hd rfl hl hn (zx_lm_set1 ad ls _ (.int _)) kk
    · cases h
  · split at h
    · next hn => cases h; exact lv_istore hx hb hd hl hn (zx_lm_set1 ad ls _ (.int _)) kk
    · cases h
  · split at h
    · next hn => cases h; exact lv_lstore_n hx hb hd rfl hl hn (zx_lm_set2 ad ls _ (.long _)) kk
    · cases h
  · split at h
    · next hn => cases h; exact lv_lstore hx hb hd hl hn (zx_lm_set2 ad ls _ (.long _)) kk
    · cases h
  · split at h
    · next hn => cases h; exact lv_astore_n hx hb hd rfl hl hn (zx_lm_set1 ad ls _ (.ref _)) kk
    · cases h
  · split at h
    · next hn => cases h; exact lv_astore hx hb hd hl hn (zx_lm_set1 ad ls _ (.ref _)) kk
    · cases h
  · split at h
    · next x e =>
      split at h
      · next hn =>
        cases h
        obtain ⟨k9, hk9⟩ := zx_lm_ix (ad := ad) e
        exact lv_iinc hx hb hd hl hk9 rfl hn (zx_lm_set1 ad ls _ (.int _)) kk
      · cases h
    · cases h
  · cases h
theorem zx_br {pr : Prop} (b : Bool) (hb : b = true ↔ pr) {t f : Nat} {X : Nat → Prop} (kk : X (if b = true then t else f)) : (pr → X t) ∧ (¬ pr → X f) := by
  refine ⟨fun h => ?_, fun h => ?_⟩
  · rw [if_pos (hb.mpr h)] at kk; exact kk
  · rw [if_neg (fun z => h (hb.mp z))] at kk; exact kk
set_option maxHeartbeats 4000000 in
theorem zx_j_W (hx : p.tables.exec = Jvm.exec) (hb : c.code = cc) {i : Instr} {n pc' : Nat} {st st' : List Value} (h : zx_j i n pc st = some (pc', st')) (hd : decode cc pc = .ok (i, n))
    (kk : W p l e R s m args below meth c H locs cells slots Q (F0 m pc' lsA (st'.map (zx_v ad)))) : W p l e R s m args below meth c H locs cells slots Q (F0 m pc lsA (st.map (zx_v ad))) := by
  unfold zx_j at h
  split at h
  · split at h
    · next hn =>
      subst hn
      obtain ⟨t, ht, e9⟩ := Option.map_eq_some_iff.mp h
      cases e9
      exact lv_goto hx hb hd (zx_tg_ok ht) kk
    · cases h
  · next k off x r =>
    split at h
    · next hn =>
      subst hn
      split at h
      · next t ht =>
        cases h
        cases k
        · obtain ⟨k1, k2⟩ := zx_br (X := fun pc' => W p l e R s m args below meth c H locs cells slots Q (F0 m pc' lsA (st'.map (zx_v ad)))) _ decide_eq_true_iff kk
          exact lv_if_eq hx hb hd (zx_tg_ok ht) k1 k2
        · obtain ⟨k1, k2⟩ := zx_br (X := fun pc' => W p l e R s m args below meth c H locs cells slots Q (F0 m pc' lsA (st'.map (zx_v ad)))) _ decide_eq_true_iff kk
          exact lv_if_ne hx hb hd (zx_tg_ok ht) k1 (fun z => k2 (fun w => w z))
        · obtain ⟨k1, k2⟩ := zx_br (X := fun pc' => W p l e R s m args below meth c H locs cells slots Q (F0 m pc' lsA (st'.map (zx_v ad)))) _ decide_eq_true_iff kk
          exact lv_if_lt hx hb hd (zx_tg_ok ht) k1 k2
        · obtain ⟨k1, k2⟩ := zx_br (X := fun pc' => W p l e R s m args below meth c H locs cells slots Q (F0 m pc' lsA (st'.map (zx_v ad)))) _ decide_eq_true_iff kk
          exact lv_if_ge hx hb hd (zx_tg_ok ht) k1 k2
        · obtain ⟨k1, k2⟩ := zx_br (X := fun pc' => W p l e R s m args below meth c H locs cells slots Q (F0 m pc' lsA (st'.map (zx_v ad)))) _ decide_eq_true_iff kk
          exact lv_if_gt hx hb hd (zx_tg_ok ht) k1 k2
        · obtain ⟨k1, k2⟩ := zx_br (X := fun pc' => W p l e R s m args below meth c H locs cells slots Q (F0 m pc' lsA (st'.map (zx_v ad)))) _ decide_eq_true_iff kk
          exact lv_if_le hx hb hd (zx_tg_ok ht) k1 k2
      · cases h
    · cases h
  · next k off y x r =>
    split at h
    · next hn =>
      subst hn
      split at h
      · next t ht =>
        cases h
        cases k
        · obtain ⟨k1, k2⟩ := zx_br (X := fun pc' => W p l e R s m args below meth c H locs cells slots Q (F0 m pc' lsA (st'.map (zx_v ad)))) _ decide_eq_true_iff kk
          exact lv_icmp_eq hx hb hd (zx_tg_ok ht) k1 k2
        · obtain ⟨k1, k2⟩ := zx_br (X := fun pc' => W p l e R s m args below meth c H locs cells slots Q (F0 m pc' lsA (st'.map (zx_v ad)))) _ decide_eq_true_iff kk
          exact lv_icmp_ne hx hb hd (zx_tg_ok ht) k1 (fun z => k2 (fun w => w z))
        · obtain ⟨k1, k2⟩ := zx_br (X := fun pc' => W p l e R s m args below meth c H locs cells slots Q (F0 m pc' lsA (st'.map (zx_v ad)))) _ decide_eq_true_iff kk
          exact lv_icmp_lt hx hb hd (zx_tg_ok ht) k1 k2
        · obtain ⟨k1, k2⟩ := zx_br (X := fun pc' => W p l e R s m args below meth c H locs cells slots Q (F0 m pc' lsA (st'.map (zx_v ad)))) _ decide_eq_true_iff kk
          exact lv_icmp_ge hx hb hd (zx_tg_ok ht) k1 k2
        · obtain ⟨k1, k2⟩ := zx_br (X := fun pc' => W p l e R s m args below meth c H locs cells slots Q (F0 m pc' lsA (st'.map (zx_v ad)))) _ decide_eq_true_iff kk
          exact lv_icmp_gt hx hb hd (zx_tg_ok ht) k1 k2
        · obtain ⟨k1, k2⟩ := zx_br (X := fun pc' => W p l e R s m args below meth c H locs cells slots Q (F0 m pc' lsA (st'.map (zx_v ad)))) _ decide_eq_true_iff kk
          exact lv_icmp_le hx hb hd (zx_tg_ok ht) k1 k2
      · cases h
    · cases h
  · next dflt lo hi offs x r =>
    split at h
    · next ho =>
      obtain ⟨t, ht, e9⟩ := Option.map_eq_some_iff.mp h
      cases e9
      exact lv_tableOut hx hb hd ho (zx_tg_ok ht) kk
    · next ho =>
      split at h
      · next off hoff =>
        obtain ⟨t, ht, e9⟩ := Option.map_eq_some_iff.mp h
        cases e9
        exact lv_tableIn hx hb hd (fun z => ho (Or.inl z)) (fun z => ho (Or.inr z)) hoff (zx_tg_ok ht) kk
      · cases h
  · next dflt ps x r =>
    split at h
    · next hp =>
      obtain ⟨t, ht, e9⟩ := Option.map_eq_some_iff.mp h
      cases e9
      exact lv_lookup hx hb hd hp rfl (zx_tg_ok ht) kk
    · cases h
  · cases h
end ZXA
