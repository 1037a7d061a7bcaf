/-! ===== 02: from the interpreter's heap to the machine's world ===== -/
def zx_v (ad : Nat → Nat) : Value → Value
  | .ref i => .ref (ad i)
  | v => v
def zx_e (ad : Nat → Nat) (cA : Nat → ClassId) : zx_E → va_E
  | .inl (t, a) => .inl (cA t, a)
  | .inr (ci, fs) => .inr (ci, fs.map (zx_v ad))
def zx_w (ad : Nat → Nat) (cA : Nat → ClassId) (h : zx_H) : va_W := h.mapIdx (fun i c => (ad i, zx_e ad cA c))
def zx_lm (ad : Nat → Nat) (ls : zx_L) : List (Nat × Value) := ls.map (fun q => (q.1, zx_v ad q.2))
def zx_ty (cA : Nat → ClassId) : List (ClassId × FieldType) := [(cA 0, .int), (cA 1, .long), (cA 2, .boolean)]
theorem zx_v_cat (ad : Nat → Nat) (v : Value) : (zx_v ad v).category = v.category := by cases v <;> rfl
theorem zx_w_get (ad : Nat → Nat) (cA : Nat → ClassId) (h : zx_H) (i : Nat) : (zx_w ad cA h)[i]? = (h[i]?).map (fun c => (ad i, zx_e ad cA c)) := by
  simp [zx_w]
theorem zx_w_at {ad : Nat → Nat} {cA : Nat → ClassId} {h : zx_H} {i : Nat} {c : zx_E} (hc : h[i]? = some c) : (zx_w ad cA h)[i]? = some (ad i, zx_e ad cA c) := by
  rw [zx_w_get, hc]; rfl
theorem zx_w_set (ad : Nat → Nat) (cA : Nat → ClassId) (h : zx_H) (i : Nat) (c : zx_E) : (zx_w ad cA h).set i (ad i, zx_e ad cA c) = zx_w ad cA (h.set i c) := by
  refine List.ext_getElem? fun j => ?_
  rw [zx_w_get, List.getElem?_set, List.getElem?_set, zx_w_get]
  by_cases e : i = j
  · subst e
    have : (zx_w ad cA h).length = h.length := by simp [zx_w]
    rw [if_pos rfl, if_pos rfl, this]
    by_cases hl : i < h.length
    · simp [hl]
    · simp [hl]
  · rw [if_neg e, if_neg e]
theorem zx_lk_mem {ls : zx_L} {i : Nat} {v : Value} (h : zx_lk ls i = some v) : (i, v) ∈ ls := by
  induction ls with
  | nil => simp [zx_lk] at h
  | cons q r ih =>
    rw [zx_lk] at h
    split at h
    · next e =>
      have e' : q.1 = i := Nat.eq_of_beq_eq_true e
      have : q = (i, v) := by rw [← e', ← Option.some.inj h]
      rw [this]; exact List.mem_cons_self
    · exact List.mem_cons_of_mem _ (ih h)
theorem zx_at_mem {tab : List (Nat × Instr × Nat)} {pc : Nat} {i : Instr × Nat} (h : zx_at tab pc = some i) : (pc, i) ∈ tab := by
  induction tab with
  | nil => simp [zx_at] at h
  | cons q r ih =>
    rw [zx_at] at h
    split at h
    · next e =>
      have e' : q.1 = pc := Nat.eq_of_beq_eq_true e
      have : q = (pc, i) := by rw [← e', ← Option.some.inj h]
      rw [this]; exact List.mem_cons_self
    · exact List.mem_cons_of_mem _ (ih h)
theorem zx_lm_at {ad : Nat → Nat} {ls : zx_L} {i : Nat} {v : Value} {lsA : Array Slot} {nL : Nat} (hl : lv_has lsA nL (zx_lm ad ls)) (h : zx_lk ls i = some v) : lsA[i]? = some (.val (zx_v ad v)) :=
  hl.2.2 (i, zx_v ad v) (List.mem_map.mpr ⟨(i, v), zx_lk_mem h, rfl⟩)
theorem zx_lm_ix {ad : Nat → Nat} {ls : zx_L} {i : Nat} {v : Value} (h : zx_lk ls i = some v) : ∃ k : Nat, (zx_lm ad ls)[k]? = some (i, zx_v ad v) :=
  List.mem_iff_getElem?.mp (List.mem_map.mpr ⟨(i, v), zx_lk_mem h, rfl⟩)
theorem zx_lm_set1 (ad : Nat → Nat) (ls : zx_L) (i : Nat) (v : Value) : (i, zx_v ad v) :: (zx_lm ad ls).filter (fun q => !(q.1 == i) && !(q.1 + 1 == i && q.2.category == 2)) = zx_lm ad (zx_set1 ls i v) := by
  rw [zx_set1, zx_lm, zx_lm, List.map_cons, List.filter_map]
  congr 2
  refine List.filter_congr fun q _ => ?_
  simp only [Function.comp, zx_v_cat]
theorem zx_lm_set2 (ad : Nat → Nat) (ls : zx_L) (i : Nat) (v : Value) : (i, zx_v ad v) :: (zx_lm ad ls).filter (fun q => !(q.1 == i) && (!(q.1 == i + 1) && !(q.1 + 1 == i && q.2.category == 2))) = zx_lm ad (zx_set2 ls i v) := by
  rw [zx_set2, zx_lm, zx_lm, List.map_cons, List.filter_map]
  congr 2
  refine List.filter_congr fun q _ => ?_
  simp only [Function.comp, zx_v_cat]
theorem zx_lm_args (ad : Nat → Nat) (as : List Value) : ∀ i : Nat, lv_args i (as.map (zx_v ad)) = zx_lm ad (lv_args i as) := by
  induction as with
  | nil => intro i; rfl
  | cons v vs ih =>
    intro i
    rw [List.map_cons, lv_args, zx_v_cat, ih, lv_args]
    rfl
theorem zx_sl_len (ad : Nat → Nat) (as : List Value) : (lg_sl (as.map (zx_v ad))).length = (lg_sl as).length := by
  induction as with
  | nil => rfl
  | cons v vs ih =>
    have h1 : ∀ w : Value, ∀ ws : List Value, (lg_sl (w :: ws)).length = (lg_sl [w]).length + (lg_sl ws).length := by
      intro w ws; simp [lg_sl]
    rw [List.map_cons, h1, h1 v vs, ih]
    congr 1
    cases v <;> rfl
theorem zx_cat_sum (ad : Nat → Nat) (st : List Value) : ((st.map (zx_v ad)).map fun v => v.category) = st.map fun v => v.category := by
  rw [List.map_map]
  exact List.map_congr_left fun v _ => zx_v_cat ad v
theorem zx_tg_ok {pc t : Nat} {off : Int} (h : zx_tg pc off = some t) : (pc : Int) + off = (t : Int) := by
  unfold zx_tg at h
  split at h
  · next e => rw [← Option.some.inj h]; omega
  · cases h
