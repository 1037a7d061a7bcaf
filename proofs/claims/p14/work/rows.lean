section
/-! ===== 01: an interpreter of the instructions that the class and the reference use, over a heap of cells that are known by their numbers (a reference is .ref of a cell's number); no cell is made. Program tables are a parameter. ===== -/
/-- a cell: an array (kind 0 int, 1 long, 2 boolean; its contents), or an object (number of its class; its fields) -/
abbrev zx_E : Type := (Nat × vp_A) ⊕ (Nat × List Value)
abbrev zx_H : Type := List zx_E
abbrev zx_L : Type := List (Nat × Value)
/-- a method: name, bytes, locals, return type, class of its receiver (none: static), parameters, number of its own class, instructions -/
abbrev zx_M : Type := MethodName × ByteArray × Nat × Option FieldType × Option Nat × Nat × Nat × List (Nat × Instr × Nat)
abbrev zx_my (q : zx_M) : MethodName := q.1
abbrev zx_mb (q : zx_M) : ByteArray := q.2.1
abbrev zx_ml (q : zx_M) : Nat := q.2.2.1
abbrev zx_mr (q : zx_M) : Option FieldType := q.2.2.2.1
abbrev zx_mc (q : zx_M) : Option Nat := q.2.2.2.2.1
abbrev zx_mp (q : zx_M) : Nat := q.2.2.2.2.2.1
abbrev zx_mo (q : zx_M) : Nat := q.2.2.2.2.2.2.1
abbrev zx_mi (q : zx_M) : List (Nat × Instr × Nat) := q.2.2.2.2.2.2.2
/-- the program: methods; names of own classes; (own class, entry) to (class, field); .. to method; .. to the number of a static row; rows; .. to a long; a field's type and whether it is final -/
abbrev zx_P : Type := List zx_M × (Nat → String) × (Nat → Nat → Option (Nat × Nat)) × (Nat → Nat → Option Nat) × (Nat → Nat → Option Nat) × (Nat → Option (Nat × (Nat → Int32))) × (Nat → Nat → Option Int64) × (Nat → Nat → FieldType × Bool)
abbrev zx_pm (P : zx_P) : List zx_M := P.1
abbrev zx_po (P : zx_P) : Nat → String := P.2.1
abbrev zx_pf (P : zx_P) : Nat → Nat → Option (Nat × Nat) := P.2.2.1
abbrev zx_pc (P : zx_P) : Nat → Nat → Option Nat := P.2.2.2.1
abbrev zx_ps (P : zx_P) : Nat → Nat → Option Nat := P.2.2.2.2.1
abbrev zx_pa (P : zx_P) : Nat → Option (Nat × (Nat → Int32)) := P.2.2.2.2.2.1
abbrev zx_pl (P : zx_P) : Nat → Nat → Option Int64 := P.2.2.2.2.2.2.1
abbrev zx_pt (P : zx_P) : Nat → Nat → FieldType × Bool := P.2.2.2.2.2.2.2
def zx_at : List (Nat × Instr × Nat) → Nat → Option (Instr × Nat)
  | [], _ => none
  | q :: r, pc => match Nat.beq q.1 pc with
    | true => some q.2
    | false => zx_at r pc
def zx_lk : zx_L → Nat → Option Value
  | [], _ => none
  | q :: r, i => match Nat.beq q.1 i with
    | true => some q.2
    | false => zx_lk r i
def zx_set1 (ls : zx_L) (i : Nat) (v : Value) : zx_L := (i, v) :: ls.filter (fun q => !(q.1 == i) && !(q.1 + 1 == i && q.2.category == 2))
def zx_set2 (ls : zx_L) (i : Nat) (v : Value) : zx_L := (i, v) :: ls.filter (fun q => !(q.1 == i) && (!(q.1 == i + 1) && !(q.1 + 1 == i && q.2.category == 2)))
/-- what works on the stack alone: the instruction's length, the stack behind it -/
def zx_s (i : Instr) (st : List Value) : Option (Nat × List Value) :=
  match i, st with
  | .iconst n, st => some (1, .int (Int32.ofInt n) :: st)
  | .bipush n, st => some (2, .int (Int8.ofInt n).toInt32 :: st)
  | .sipush n, st => some (3, .int (Int16.ofInt n).toInt32 :: st)
  | .lconst n, st => some (1, .long (Int64.ofNat n.val) :: st)
  | .iadd, .int y :: .int x :: r => some (1, .int (x + y) :: r)
  | .isub, .int y :: .int x :: r => some (1, .int (x - y) :: r)
  | .imul, .int y :: .int x :: r => some (1, .int (x * y) :: r)
  | .iand, .int y :: .int x :: r => some (1, .int (x &&& y) :: r)
  | .idiv, .int y :: .int x :: r => if y = 0 then none else some (1, .int (x / y) :: r)
  | .iushr, .int y :: .int x :: r => some (1, .int ((x.toUInt32 >>> (y.toUInt32 &&& Int32.toUInt32 31)).toInt32) :: r)
  | .ladd, .long y :: .long x :: r => some (1, .long (x + y) :: r)
  | .land, .long y :: .long x :: r => some (1, .long (x &&& y) :: r)
  | .lor, .long y :: .long x :: r => some (1, .long (x ||| y) :: r)
  | .ldiv, .long y :: .long x :: r => if y = 0 then none else some (1, .long (x / y) :: r)
  | .lshl, .int y :: .long x :: r => some (1, .long (x <<< (y.toInt64 &&& 63)) :: r)
  | .i2l, .int x :: r => some (1, .long x.toInt64 :: r)
  | .l2i, .long x :: r => some (1, .int x.toInt32 :: r)
  | .lcmp, .long y :: .long x :: r => some (1, .int (lg_cmp x y) :: r)
  | .dup, v :: r => if v.category = 1 then some (1, v :: v :: r) else none
  | .pop, v :: r => if v.category = 1 then some (1, r) else none
  | .pop2, v :: r => if v.category = 2 then some (1, r) else none
  | .dup_x1, v :: w :: r => if v.category = 1 ∧ w.category = 1 then some (1, v :: w :: v :: r) else none
  | _, _ => none
def zx_gi (ls : zx_L) (k n : Nat) : Option (Nat × Value) := match zx_lk ls k with
  | some (.int x) => some (n, .int x)
  | _ => none
def zx_gl (ls : zx_L) (k n : Nat) : Option (Nat × Value) := match zx_lk ls k with
  | some (.long x) => some (n, .long x)
  | _ => none
def zx_gr (ls : zx_L) (k n : Nat) : Option (Nat × Value) := match zx_lk ls k with
  | some (.ref x) => some (n, .ref x)
  | _ => none
/-- loads -/
def zx_l (i : Instr) (ls : zx_L) : Option (Nat × Value) :=
  match i with
  | .iload_n k => zx_gi ls k.val 1
  | .iload k => zx_gi ls k 2
  | .lload_n k => zx_gl ls k.val 1
  | .lload k => zx_gl ls k 2
  | .aload_n k => zx_gr ls k.val 1
  | .aload k => zx_gr ls k 2
  | _ => none
/-- stores, iinc -/
def zx_t (i : Instr) (nL : Nat) (ls : zx_L) (st : List Value) : Option (Nat × zx_L × List Value) :=
  match i, st with
  | .istore_n k, .int x :: r => if k.val < nL then some (1, zx_set1 ls k.val (.int x), r) else none
  | .istore k, .int x :: r => if k < nL then some (2, zx_set1 ls k (.int x), r) else none
  | .lstore_n k, .long x :: r => if k.val + 1 < nL then some (1, zx_set2 ls k.val (.long x), r) else none
  | .lstore k, .long x :: r => if k + 1 < nL then some (2, zx_set2 ls k (.long x), r) else none
  | .astore_n k, .ref x :: r => if k.val < nL then some (1, zx_set1 ls k.val (.ref x), r) else none
  | .astore k, .ref x :: r => if k < nL then some (2, zx_set1 ls k (.ref x), r) else none
  | .iinc k n, st => match zx_lk ls k with
    | some (.int x) => if k < nL then some (3, zx_set1 ls k (.int (x + Int32.ofInt n)), st) else none
    | _ => none
  | _, _ => none
def zx_tg (pc : Nat) (off : Int) : Option Nat := if 0 ≤ (pc : Int) + off then some ((pc : Int) + off).toNat else none
def zx_cmp (k : Jvm.ClassFile.Cond) (x y : Int32) : Bool := match k with
  | .eq => decide (x = y)
  | .ne => decide (¬ x = y)
  | .lt => decide (x < y)
  | .ge => decide (y ≤ x)
  | .gt => decide (y < x)
  | .le => decide (x ≤ y)
/-- jumps: where it goes on, the stack there -/
def zx_j (i : Instr) (n pc : Nat) (st : List Value) : Option (Nat × List Value) :=
  match i, st with
  | .goto off, st => if n = 3 then (zx_tg pc off).map (fun t => (t, st)) else none
  | .ifCond k off, .int x :: r => if n = 3 then (match zx_tg pc off with
    | some t => some (if zx_cmp k x 0 then t else pc + 3, r)
    | none => none) else none
  | .if_icmp k off, .int y :: .int x :: r => if n = 3 then (match zx_tg pc off with
    | some t => some (if zx_cmp k x y then t else pc + 3, r)
    | none => none) else none
  | .tableswitch dflt lo hi offs, .int x :: r => if x.toInt < lo ∨ hi < x.toInt then (zx_tg pc dflt).map (fun t => (t, r)) else (match offs[(x.toInt - lo).toNat]? with
    | some off => (zx_tg pc off).map (fun t => (t, r))
    | none => none)
  | .lookupswitch dflt ps, .int x :: r => if (ps.toList.zip (ps.toList.drop 1)).all (fun q => q.1.1 < q.2.1) = true then (zx_tg pc (Op.lookupswitch.offset ps.toList dflt x.toInt)).map (fun t => (t, r)) else none
  | _, _ => none
/-- fields, arrays, constants: length, stack, heap -/
def zx_gf (P : zx_P) (o idx a : Nat) (h : zx_H) : Option Value := match zx_pf P o idx with
  | some (ci, k) => (match h[a]? with
    | some (.inr (cj, fs)) => if cj = ci then fs[k]? else none
    | _ => none)
  | none => none
def zx_pu (P : zx_P) (o idx a : Nat) (v : Value) (h : zx_H) : Option zx_H := match zx_pf P o idx with
  | some (ci, k) => (match h[a]? with
    | some (.inr (cj, fs)) => if cj = ci ∧ k < fs.length ∧ (zx_pt P ci k).2 = false ∧ narrow (zx_pt P ci k).1 v = v ∧ fits (zx_pt P ci k).1 v = true then some (h.set a (.inr (cj, fs.set k v))) else none
    | _ => none)
  | none => none
def zx_g (P : zx_P) (o : Nat) (i : Instr) (st : List Value) (h : zx_H) : Option (Nat × List Value × zx_H) :=
  match i, st with
  | .getfield idx, .ref a :: r => (zx_gf P o idx a h).map (fun v => (3, v :: r, h))
  | .putfield idx, .int x :: .ref a :: r => (zx_pu P o idx a (.int x) h).map (fun h' => (3, r, h'))
  | .putfield idx, .long x :: .ref a :: r => (zx_pu P o idx a (.long x) h).map (fun h' => (3, r, h'))
  | .iaload, .int i :: .ref a :: r => (match h[a]? with
    | some (.inl (0, n, .inl f)) => if i < 0 ∨ n ≤ i.toNatClampNeg then none else some (1, .int (f i.toNatClampNeg) :: r, h)
    | none => (match zx_pa P a with
      | some (n, f) => if i < 0 ∨ n ≤ i.toNatClampNeg then none else some (1, .int (f i.toNatClampNeg) :: r, h)
      | none => none)
    | _ => none)
  | .laload, .int i :: .ref a :: r => (match h[a]? with
    | some (.inl (1, n, .inr (.inl f))) => if i < 0 ∨ n ≤ i.toNatClampNeg then none else some (1, .long (f i.toNatClampNeg) :: r, h)
    | _ => none)
  | .baload, .int i :: .ref a :: r => (match h[a]? with
    | some (.inl (2, n, .inl f)) => if i < 0 ∨ n ≤ i.toNatClampNeg then none else some (1, .int (f i.toNatClampNeg) :: r, h)
    | _ => none)
  | .iastore, .int x :: .int i :: .ref a :: r => (match h[a]? with
    | some (.inl (0, n, .inl f)) => if i < 0 ∨ n ≤ i.toNatClampNeg then none else some (1, r, h.set a (.inl (0, n, .inl (upd f i.toNatClampNeg x))))
    | _ => none)
  | .lastore, .long x :: .int i :: .ref a :: r => (match h[a]? with
    | some (.inl (1, n, .inr (.inl f))) => if i < 0 ∨ n ≤ i.toNatClampNeg then none else some (1, r, h.set a (.inl (1, n, .inr (.inl (vp_updL f i.toNatClampNeg x)))))
    | _ => none)
  | .bastore, .int x :: .int i :: .ref a :: r => (match h[a]? with
    | some (.inl (2, n, .inl f)) => if i < 0 ∨ n ≤ i.toNatClampNeg then none else some (1, r, h.set a (.inl (2, n, .inl (upd f i.toNatClampNeg (vp_nar .boolean x)))))
    | _ => none)
  | .arraylength, .ref a :: r => (match h[a]? with
    | some (.inl (t, n, _)) => if t < 3 then some (1, .int (Int32.ofNat n) :: r, h) else none
    | none => (match zx_pa P a with
      | some (n, _) => some (1, .int (Int32.ofNat n) :: r, h)
      | none => none)
    | _ => none)
  | .getstatic idx, st => (zx_ps P o idx).map (fun k => (3, .ref k :: st, h))
  | .ldc2_w idx, st => (zx_pl P o idx).map (fun v => (3, .long v :: st, h))
  | _, _ => none
/-- calls: the method's number, its arguments, the rest of the stack -/
def zx_k (P : zx_P) (o : Nat) (i : Instr) (n : Nat) (st : List Value) (h : zx_H) : Option (Nat × List Value × List Value) :=
  match i with
  | .invokevirtual idx => (match zx_pc P o idx with
    | some cj => (match (zx_pm P)[cj]? with
      | some q => (match st.drop (zx_mp q) with
        | .ref b :: rest => (match h[b]? with
          | some (.inr (ci, _)) => if n = 3 ∧ zx_mc q = some ci ∧ (st.take (zx_mp q)).length = zx_mp q ∧ (rest.map fun v => v.category).sum ≤ 8 ∧ zx_ml q ≤ 21 ∧ (lg_sl (.ref b :: (st.take (zx_mp q)).reverse)).length ≤ zx_ml q then some (cj, .ref b :: (st.take (zx_mp q)).reverse, rest) else none
          | _ => none)
        | _ => none)
      | none => none)
    | none => none)
  | .invokestatic idx => (match zx_pc P o idx with
    | some cj => (match (zx_pm P)[cj]? with
      | some q => if n = 3 ∧ zx_mc q = none ∧ (st.take (zx_mp q)).length = zx_mp q ∧ ((st.drop (zx_mp q)).map fun v => v.category).sum ≤ 8 ∧ zx_ml q ≤ 21 ∧ (lg_sl (st.take (zx_mp q)).reverse).length ≤ zx_ml q then some (cj, (st.take (zx_mp q)).reverse, st.drop (zx_mp q)) else none
      | none => none)
    | none => none)
  | _ => none
/-- returns -/
def zx_r (i : Instr) (n : Nat) (ret : Option FieldType) (st : List Value) : Option (Option Value) :=
  match i, st, ret with
  | .ireturn, [.int v], some ty => if n = 1 ∧ narrow ty (.int v) = .int v then some (some (.int v)) else none
  | .lreturn, [.long v], some .long => if n = 1 then some (some (.long v)) else none
  | .return_, [], none => if n = 1 then some none else none
  | _, _, _ => none
/-- the interpreter: fuel, depth left, method, pc, locals, stack, heap -/
def zx_x (P : zx_P) : Nat → Nat → zx_M → Nat → zx_L → List Value → zx_H → Option (Option Value × zx_H)
  | 0, _, _, _, _, _, _ => none
  | n + 1, d, q, pc, ls, st, h =>
    match zx_at (zx_mi q) pc with
    | none => none
    | some (i, len) =>
      match zx_s i st with
      | some (k, st') => if len = k then zx_x P n d q (pc + k) ls st' h else none
      | none =>
      match zx_l i ls with
      | some (k, v) => if len = k then zx_x P n d q (pc + k) ls (v :: st) h else none
      | none =>
      match zx_t i (zx_ml q) ls st with
      | some (k, ls', st') => if len = k then zx_x P n d q (pc + k) ls' st' h else none
      | none =>
      match zx_j i len pc st with
      | some (pc', st') => zx_x P n d q pc' ls st' h
      | none =>
      match zx_g P (zx_mo q) i st h with
      | some (k, st', h') => if len = k then zx_x P n d q (pc + k) ls st' h' else none
      | none =>
      match zx_r i len (zx_mr q) st with
      | some r => some (r, h)
      | none =>
      match zx_k P (zx_mo q) i len st h with
      | some (cj, as, rest) =>
        (match d with
        | 0 => none
        | d' + 1 =>
          (match (zx_pm P)[cj]? with
          | none => none
          | some q' =>
            (match zx_x P n d' q' 0 (lv_args 0 as) [] h with
            | none => none
            | some (r, h') => zx_x P n (d' + 1) q (pc + 3) ls (r.toList ++ rest) h')))
      | none => none
end
section
/-! ===== 02: from the interpreter's heap to the machine's world ===== -/
def zx_v (ad : Nat → Nat) : Value → Value
  | .ref i => .ref (ad i)
  | v => v
def zx_e (ad : Nat → Nat) (cA : Nat → ClassId) : zx_E → va_E
  | .inl (t, a) => .inl (cA t, a)
  | .inr (ci, fs) => .inr (ci, fs.map (zx_v ad))
def zx_w (ad : Nat → Nat) (cA : Nat → ClassId) (h : zx_H) : va_W := h.mapIdx (fun i c => (ad i, zx_e ad cA c))
def zx_lm (ad : Nat → Nat) (ls : zx_L) : List (Nat × Value) := ls.map (fun q => (q.1, zx_v ad q.2))
def zx_ty (cA : Nat → ClassId) : List (ClassId × FieldType) := [(cA 0, .int), (cA 1, .long), (cA 2, .boolean)]
theorem zx_v_cat (ad : Nat → Nat) (v : Value) : (zx_v ad v).category = v.category := by cases v <;> rfl
theorem zx_w_get (ad : Nat → Nat) (cA : Nat → ClassId) (h : zx_H) (i : Nat) : (zx_w ad cA h)[i]? = (h[i]?).map (fun c => (ad i, zx_e ad cA c)) := by
  simp [zx_w]
theorem zx_w_at {ad : Nat → Nat} {cA : Nat → ClassId} {h : zx_H} {i : Nat} {c : zx_E} (hc : h[i]? = some c) : (zx_w ad cA h)[i]? = some (ad i, zx_e ad cA c) := by
  rw [zx_w_get, hc]; rfl
theorem zx_w_set (ad : Nat → Nat) (cA : Nat → ClassId) (h : zx_H) (i : Nat) (c : zx_E) : (zx_w ad cA h).set i (ad i, zx_e ad cA c) = zx_w ad cA (h.set i c) := by
  refine List.ext_getElem? fun j => ?_
  rw [zx_w_get, List.getElem?_set, List.getElem?_set, zx_w_get]
  by_cases e : i = j
  · subst e
    have : (zx_w ad cA h).length = h.length := by simp [zx_w]
    rw [if_pos rfl, if_pos rfl, this]
    by_cases hl : i < h.length
    · simp [hl]
    · simp [hl]
  · rw [if_neg e, if_neg e]
theorem zx_lk_mem {ls : zx_L} {i : Nat} {v : Value} (h : zx_lk ls i = some v) : (i, v) ∈ ls := by
  induction ls with
  | nil => simp [zx_lk] at h
  | cons q r ih =>
    rw [zx_lk] at h
    split at h
    · next e =>
      have e' : q.1 = i := Nat.eq_of_beq_eq_true e
      have : q = (i, v) := by rw [← e', ← Option.some.inj h]
      rw [this]; exact List.mem_cons_self
    · exact List.mem_cons_of_mem _ (ih h)
theorem zx_at_mem {tab : List (Nat × Instr × Nat)} {pc : Nat} {i : Instr × Nat} (h : zx_at tab pc = some i) : (pc, i) ∈ tab := by
  induction tab with
  | nil => simp [zx_at] at h
  | cons q r ih =>
    rw [zx_at] at h
    split at h
    · next e =>
      have e' : q.1 = pc := Nat.eq_of_beq_eq_true e
      have : q = (pc, i) := by rw [← e', ← Option.some.inj h]
      rw [this]; exact List.mem_cons_self
    · exact List.mem_cons_of_mem _ (ih h)
theorem zx_lm_at {ad : Nat → Nat} {ls : zx_L} {i : Nat} {v : Value} {lsA : Array Slot} {nL : Nat} (hl : lv_has lsA nL (zx_lm ad ls)) (h : zx_lk ls i = some v) : lsA[i]? = some (.val (zx_v ad v)) :=
  hl.2.2 (i, zx_v ad v) (List.mem_map.mpr ⟨(i, v), zx_lk_mem h, rfl⟩)
theorem zx_lm_ix {ad : Nat → Nat} {ls : zx_L} {i : Nat} {v : Value} (h : zx_lk ls i = some v) : ∃ k : Nat, (zx_lm ad ls)[k]? = some (i, zx_v ad v) :=
  List.mem_iff_getElem?.mp (List.mem_map.mpr ⟨(i, v), zx_lk_mem h, rfl⟩)
theorem zx_lm_set1 (ad : Nat → Nat) (ls : zx_L) (i : Nat) (v : Value) : (i, zx_v ad v) :: (zx_lm ad ls).filter (fun q => !(q.1 == i) && !(q.1 + 1 == i && q.2.category == 2)) = zx_lm ad (zx_set1 ls i v) := by
  rw [zx_set1, zx_lm, zx_lm, List.map_cons, List.filter_map]
  congr 2
  refine List.filter_congr fun q _ => ?_
  simp only [Function.comp, zx_v_cat]
theorem zx_lm_set2 (ad : Nat → Nat) (ls : zx_L) (i : Nat) (v : Value) : (i, zx_v ad v) :: (zx_lm ad ls).filter (fun q => !(q.1 == i) && (!(q.1 == i + 1) && !(q.1 + 1 == i && q.2.category == 2))) = zx_lm ad (zx_set2 ls i v) := by
  rw [zx_set2, zx_lm, zx_lm, List.map_cons, List.filter_map]
  congr 2
  refine List.filter_congr fun q _ => ?_
  simp only [Function.comp, zx_v_cat]
theorem zx_lm_args (ad : Nat → Nat) (as : List Value) : ∀ i : Nat, lv_args i (as.map (zx_v ad)) = zx_lm ad (lv_args i as) := by
  induction as with
  | nil => intro i; rfl
  | cons v vs ih =>
    intro i
    rw [List.map_cons, lv_args, zx_v_cat, ih, lv_args]
    rfl
theorem zx_sl_len (ad : Nat → Nat) (as : List Value) : (lg_sl (as.map (zx_v ad))).length = (lg_sl as).length := by
  induction as with
  | nil => rfl
  | cons v vs ih =>
    have h1 : ∀ w : Value, ∀ ws : List Value, (lg_sl (w :: ws)).length = (lg_sl [w]).length + (lg_sl ws).length := by
      intro w ws; simp [lg_sl]
    rw [List.map_cons, h1, h1 v vs, ih]
    congr 1
    cases v <;> rfl
theorem zx_cat_sum (ad : Nat → Nat) (st : List Value) : ((st.map (zx_v ad)).map fun v => v.category) = st.map fun v => v.category := by
  rw [List.map_map]
  exact List.map_congr_left fun v _ => zx_v_cat ad v
theorem zx_tg_ok {pc t : Nat} {off : Int} (h : zx_tg pc off = some t) : (pc : Int) + off = (t : Int) := by
  unfold zx_tg at h
  split at h
  · next e => rw [← Option.some.inj h]; omega
  · cases h
end
section
/-! ===== 03: one step of the interpreter is a step of the machine: stack, locals, jumps ===== -/
section ZXA
variable {p : Program} {l : Launch} {e : Env} {R : Room} {s : State} {m : MethodId} {args : Array Value} {below : List Frame} {meth : Method} {c : Code} {H : Heap} {locs : List Loc} {cells slots : Nat} {Q : State → Prop}
variable {cc : ByteArray} {pc : Nat} {lsA : Array Slot} {ad : Nat → Nat}
set_option maxHeartbeats 4000000 in
theorem zx_s_W (hx : p.tables.exec = Jvm.exec) (hb : c.code = cc) {i : Instr} {k : Nat} {st st' : List Value} (h : zx_s i st = some (k, st')) (hd : decode cc pc = .ok (i, k))
    (kk : W p l e R s m args below meth c H locs cells slots Q (F0 m (pc + k) lsA (st'.map (zx_v ad)))) : W p l e R s m args below meth c H locs cells slots Q (F0 m pc lsA (st.map (zx_v ad))) := by
  unfold zx_s at h
  split at h
  · cases h; exact lv_iconst hx hb hd rfl kk
  · cases h; exact lv_bipush hx hb hd rfl kk
  · cases h; exact lv_sipush hx hb hd rfl kk
  · cases h; exact lv_lconst hx hb hd rfl kk
  · cases h; exact lv_iadd hx hb hd kk
  · cases h; exact lv_isub hx hb hd kk
  · cases h; exact lv_imul hx hb hd kk
  · cases h; exact lv_iand hx hb hd kk
  · split at h
    · cases h
    · next hne => cases h; exact lv_idiv hx hb hd hne kk
  · cases h; exact lv_iushr hx hb hd rfl kk
  · cases h; exact lv_ladd hx hb hd kk
  · cases h; exact lv_land hx hb hd kk
  · cases h; exact lv_lor hx hb hd kk
  · split at h
    · cases h
    · next hne => cases h; exact lv_ldiv hx hb hd hne kk
  · cases h; exact lv_lshl hx hb hd rfl kk
  · cases h; exact lv_i2l hx hb hd rfl kk
  · cases h; exact lv_l2i hx hb hd rfl kk
  · cases h; exact W.lcmp hx hb hd kk
  · split at h
    · next hc => cases h; exact lv_dup hx hb hd (by rw [zx_v_cat]; exact hc) kk
    · cases h
  · split at h
    · next hc => cases h; exact lv_pop hx hb hd (by rw [zx_v_cat]; exact hc) kk
    · cases h
  · split at h
    · next hc => cases h; exact lv_pop2_2 hx hb hd (by rw [zx_v_cat]; exact hc) kk
    · cases h
  · split at h
    · next hc => cases h; exact lv_dup_x1 hx hb hd (by rw [zx_v_cat]; exact hc.1) (by rw [zx_v_cat]; exact hc.2) kk
    · cases h
  · cases h
theorem zx_gi_ok {ls : zx_L} {k n n' : Nat} {v : Value} (h : zx_gi ls k n = some (n', v)) : n' = n ∧ ∃ x, v = .int x ∧ zx_lk ls k = some (.int x) := by
  unfold zx_gi at h
  split at h
  · next x e => cases h; exact ⟨rfl, x, rfl, e⟩
  · cases h
theorem zx_gl_ok {ls : zx_L} {k n n' : Nat} {v : Value} (h : zx_gl ls k n = some (n', v)) : n' = n ∧ ∃ x, v = .long x ∧ zx_lk ls k = some (.long x) := by
  unfold zx_gl at h
  split at h
  · next x e => cases h; exact ⟨rfl, x, rfl, e⟩
  · cases h
theorem zx_gr_ok {ls : zx_L} {k n n' : Nat} {v : Value} (h : zx_gr ls k n = some (n', v)) : n' = n ∧ ∃ x, v = .ref x ∧ zx_lk ls k = some (.ref x) := by
  unfold zx_gr at h
  split at h
  · next x e => cases h; exact ⟨rfl, x, rfl, e⟩
  · cases h
set_option maxHeartbeats 4000000 in
theorem zx_l_W (hx : p.tables.exec = Jvm.exec) (hb : c.code = cc) {i : Instr} {k nL : Nat} {ls : zx_L} {v : Value} {st : List Value} (h : zx_l i ls = some (k, v)) (hd : decode cc pc = .ok (i, k)) (hl : lv_has lsA nL (zx_lm ad ls))
    (kk : W p l e R s m args below meth c H locs cells slots Q (F0 m (pc + k) lsA ((v :: st).map (zx_v ad)))) : W p l e R s m args below meth c H locs cells slots Q (F0 m pc lsA (st.map (zx_v ad))) := by
  unfold zx_l at h
  split at h
  · obtain ⟨rfl, x, rfl, e⟩ := zx_gi_ok h; exact lv_iload_n hx hb hd rfl (zx_lm_at hl e) kk
  · obtain ⟨rfl, x, rfl, e⟩ := zx_gi_ok h; exact lv_iload hx hb hd (zx_lm_at hl e) kk
  · obtain ⟨rfl, x, rfl, e⟩ := zx_gl_ok h; exact lv_lload_n hx hb hd rfl (zx_lm_at hl e) kk
  · obtain ⟨rfl, x, rfl, e⟩ := zx_gl_ok h; exact lv_lload hx hb hd (zx_lm_at hl e) kk
  · obtain ⟨rfl, x, rfl, e⟩ := zx_gr_ok h; exact lv_aload_n hx hb hd rfl (zx_lm_at hl e) kk
  · obtain ⟨rfl, x, rfl, e⟩ := zx_gr_ok h; exact lv_aload hx hb hd (zx_lm_at hl e) kk
  · cases h
set_option maxHeartbeats 4000000 in
theorem zx_t_W (hx : p.tables.exec = Jvm.exec) (hb : c.code = cc) {i : Instr} {k nL : Nat} {ls ls' : zx_L} {st st' : List Value} (h : zx_t i nL ls st = some (k, ls', st')) (hd : decode cc pc = .ok (i, k)) (hl : lv_has lsA nL (zx_lm ad ls))
    (kk : ∀ lsB : Array Slot, lv_has lsB nL (zx_lm ad ls') → W p l e R s m args below meth c H locs cells slots Q (F0 m (pc + k) lsB (st'.map (zx_v ad)))) : W p l e R s m args below meth c H locs cells slots Q (F0 m pc lsA (st.map (zx_v ad))) := by
  unfold zx_t at h
  split at h
  · split at h
    · next hn => cases h; exact lv_istore_n hx hb hd rfl hl hn (zx_lm_set1 ad ls _ (.int _)) kk
    · cases h
  · split at h
    · next hn => cases h; exact lv_istore hx hb hd hl hn (zx_lm_set1 ad ls _ (.int _)) kk
    · cases h
  · split at h
    · next hn => cases h; exact lv_lstore_n hx hb hd rfl hl hn (zx_lm_set2 ad ls _ (.long _)) kk
    · cases h
  · split at h
    · next hn => cases h; exact lv_lstore hx hb hd hl hn (zx_lm_set2 ad ls _ (.long _)) kk
    · cases h
  · split at h
    · next hn => cases h; exact lv_astore_n hx hb hd rfl hl hn (zx_lm_set1 ad ls _ (.ref _)) kk
    · cases h
  · split at h
    · next hn => cases h; exact lv_astore hx hb hd hl hn (zx_lm_set1 ad ls _ (.ref _)) kk
    · cases h
  · split at h
    · next x e =>
      split at h
      · next hn =>
        cases h
        obtain ⟨k9, hk9⟩ := zx_lm_ix (ad := ad) e
        exact lv_iinc hx hb hd hl hk9 rfl hn (zx_lm_set1 ad ls _ (.int _)) kk
      · cases h
    · cases h
  · cases h
theorem zx_br {pr : Prop} (b : Bool) (hb : b = true ↔ pr) {t f : Nat} {X : Nat → Prop} (kk : X (if b = true then t else f)) : (pr → X t) ∧ (¬ pr → X f) := by
  refine ⟨fun h => ?_, fun h => ?_⟩
  · rw [if_pos (hb.mpr h)] at kk; exact kk
  · rw [if_neg (fun z => h (hb.mp z))] at kk; exact kk
set_option maxHeartbeats 4000000 in
theorem zx_j_W (hx : p.tables.exec = Jvm.exec) (hb : c.code = cc) {i : Instr} {n pc' : Nat} {st st' : List Value} (h : zx_j i n pc st = some (pc', st')) (hd : decode cc pc = .ok (i, n))
    (kk : W p l e R s m args below meth c H locs cells slots Q (F0 m pc' lsA (st'.map (zx_v ad)))) : W p l e R s m args below meth c H locs cells slots Q (F0 m pc lsA (st.map (zx_v ad))) := by
  unfold zx_j at h
  split at h
  · split at h
    · next hn =>
      subst hn
      obtain ⟨t, ht, e9⟩ := Option.map_eq_some_iff.mp h
      cases e9
      exact lv_goto hx hb hd (zx_tg_ok ht) kk
    · cases h
  · next k off x r =>
    split at h
    · next hn =>
      subst hn
      split at h
      · next t ht =>
        cases h
        cases k
        · obtain ⟨k1, k2⟩ := zx_br (X := fun pc' => W p l e R s m args below meth c H locs cells slots Q (F0 m pc' lsA (st'.map (zx_v ad)))) _ decide_eq_true_iff kk
          exact lv_if_eq hx hb hd (zx_tg_ok ht) k1 k2
        · obtain ⟨k1, k2⟩ := zx_br (X := fun pc' => W p l e R s m args below meth c H locs cells slots Q (F0 m pc' lsA (st'.map (zx_v ad)))) _ decide_eq_true_iff kk
          exact lv_if_ne hx hb hd (zx_tg_ok ht) k1 (fun z => k2 (fun w => w z))
        · obtain ⟨k1, k2⟩ := zx_br (X := fun pc' => W p l e R s m args below meth c H locs cells slots Q (F0 m pc' lsA (st'.map (zx_v ad)))) _ decide_eq_true_iff kk
          exact lv_if_lt hx hb hd (zx_tg_ok ht) k1 k2
        · obtain ⟨k1, k2⟩ := zx_br (X := fun pc' => W p l e R s m args below meth c H locs cells slots Q (F0 m pc' lsA (st'.map (zx_v ad)))) _ decide_eq_true_iff kk
          exact lv_if_ge hx hb hd (zx_tg_ok ht) k1 k2
        · obtain ⟨k1, k2⟩ := zx_br (X := fun pc' => W p l e R s m args below meth c H locs cells slots Q (F0 m pc' lsA (st'.map (zx_v ad)))) _ decide_eq_true_iff kk
          exact lv_if_gt hx hb hd (zx_tg_ok ht) k1 k2
        · obtain ⟨k1, k2⟩ := zx_br (X := fun pc' => W p l e R s m args below meth c H locs cells slots Q (F0 m pc' lsA (st'.map (zx_v ad)))) _ decide_eq_true_iff kk
          exact lv_if_le hx hb hd (zx_tg_ok ht) k1 k2
      · cases h
    · cases h
  · next k off y x r =>
    split at h
    · next hn =>
      subst hn
      split at h
      · next t ht =>
        cases h
        cases k
        · obtain ⟨k1, k2⟩ := zx_br (X := fun pc' => W p l e R s m args below meth c H locs cells slots Q (F0 m pc' lsA (st'.map (zx_v ad)))) _ decide_eq_true_iff kk
          exact lv_icmp_eq hx hb hd (zx_tg_ok ht) k1 k2
        · obtain ⟨k1, k2⟩ := zx_br (X := fun pc' => W p l e R s m args below meth c H locs cells slots Q (F0 m pc' lsA (st'.map (zx_v ad)))) _ decide_eq_true_iff kk
          exact lv_icmp_ne hx hb hd (zx_tg_ok ht) k1 (fun z => k2 (fun w => w z))
        · obtain ⟨k1, k2⟩ := zx_br (X := fun pc' => W p l e R s m args below meth c H locs cells slots Q (F0 m pc' lsA (st'.map (zx_v ad)))) _ decide_eq_true_iff kk
          exact lv_icmp_lt hx hb hd (zx_tg_ok ht) k1 k2
        · obtain ⟨k1, k2⟩ := zx_br (X := fun pc' => W p l e R s m args below meth c H locs cells slots Q (F0 m pc' lsA (st'.map (zx_v ad)))) _ decide_eq_true_iff kk
          exact lv_icmp_ge hx hb hd (zx_tg_ok ht) k1 k2
        · obtain ⟨k1, k2⟩ := zx_br (X := fun pc' => W p l e R s m args below meth c H locs cells slots Q (F0 m pc' lsA (st'.map (zx_v ad)))) _ decide_eq_true_iff kk
          exact lv_icmp_gt hx hb hd (zx_tg_ok ht) k1 k2
        · obtain ⟨k1, k2⟩ := zx_br (X := fun pc' => W p l e R s m args below meth c H locs cells slots Q (F0 m pc' lsA (st'.map (zx_v ad)))) _ decide_eq_true_iff kk
          exact lv_icmp_le hx hb hd (zx_tg_ok ht) k1 k2
      · cases h
    · cases h
  · next dflt lo hi offs x r =>
    split at h
    · next ho =>
      obtain ⟨t, ht, e9⟩ := Option.map_eq_some_iff.mp h
      cases e9
      exact lv_tableOut hx hb hd ho (zx_tg_ok ht) kk
    · next ho =>
      split at h
      · next off hoff =>
        obtain ⟨t, ht, e9⟩ := Option.map_eq_some_iff.mp h
        cases e9
        exact lv_tableIn hx hb hd (fun z => ho (Or.inl z)) (fun z => ho (Or.inr z)) hoff (zx_tg_ok ht) kk
      · cases h
  · next dflt ps x r =>
    split at h
    · next hp =>
      obtain ⟨t, ht, e9⟩ := Option.map_eq_some_iff.mp h
      cases e9
      exact lv_lookup hx hb hd hp rfl (zx_tg_ok ht) kk
    · cases h
  · cases h
end ZXA
end
section
/-! ===== 04: what the tables must say; fields, arrays, statics ===== -/
def zx_mok (P : zx_P) (G : List Cond) (cl : List vw_C) (q : zx_M) : Prop :=
  plainName (zx_my q).cls = true ∧ ((zx_my q).cls ≠ "java/lang/invoke/MethodHandle" ∧ (zx_my q).cls ≠ "java/lang/invoke/VarHandle") ∧ (parseMethodDescriptor (zx_my q).desc).map (fun d => d.parameters.length) = some (zx_mp q) ∧ zx_po P (zx_mo q) = (zx_my q).cls ∧
  Cond.code (zx_my q) (zx_mb q) (zx_ml q) (zx_mr q) ∈ G ∧ Cond.initialized (zx_my q).cls ∈ G ∧
  (match zx_mc q with
    | none => Cond.static (zx_my q) ∈ G
    | some ci => Cond.instanceMethod (zx_my q) ∈ G ∧ Cond.selects (zx_my q).cls (zx_my q) (zx_my q) ∈ G ∧ ∃ (T : u_T) (N : Nat), cl[ci]? = some ((zx_my q).cls, T, N)) ∧
  ∀ z ∈ zx_mi q, decode (zx_mb q) z.1 = .ok z.2
def zx_fok (P : zx_P) (G : List Cond) (cl : List vw_C) (o idx ci k : Nat) : Prop :=
  ∃ (C : String) (T : u_T) (N : Nat) (ty0 : Nat → FieldType), cl[ci]? = some (C, T, N) ∧ k < N ∧ Cond.fieldLink (zx_po P o) idx (T k).1 (T k).2.1 (T k).2.2.1 ∈ G ∧ (∀ w ∈ u_ws C T N, w ∈ G) ∧ (∀ k, k < N → parseFieldDescriptor (T k).2.2.1 = some (ty0 k)) ∧ (∀ a, a < N → ∀ b, b < N → a ≠ b → (T a).2.1 ≠ (T b).2.1) ∧ zx_pt P ci k = (ty0 k, (T k).2.2.2)
def zx_ok (P : zx_P) (G : List Cond) (cl : List vw_C) : Prop :=
  (∀ w ∈ G, (w.onTables && w.keeps) = true ∨ ∃ ty, w = .arrayClass ty) ∧
  (∀ (j : Nat) (q : zx_M), (zx_pm P)[j]? = some q → zx_mok P G cl q) ∧
  (∀ (o idx ci k : Nat), zx_pf P o idx = some (ci, k) → zx_fok P G cl o idx ci k) ∧
  (∀ (o idx cj : Nat), zx_pc P o idx = some cj → ∃ q, (zx_pm P)[cj]? = some q ∧ Cond.methodLink (zx_po P o) idx (zx_my q) ∈ G) ∧
  (∀ (o idx : Nat) (v : Int64), zx_pl P o idx = some v → Cond.constantLong (zx_po P o) idx v ∈ G)
/-- the static rows, outside of what is written -/
def zx_Z (P : zx_P) (G : List Cond) (ad : Nat → Nat) (A : Nat → Prop) (U : State) (H : Heap) : Prop :=
  (∀ (k n : Nat) (f : Nat → Int32), zx_pa P k = some (n, f) → va_T .int (ad k) n (fun j => .int (f j)) A U H) ∧
  (∀ (o idx k : Nat), zx_ps P o idx = some k → ∃ C nm d, va_Z C nm d (.ref (ad k)) A U H ∧ Cond.fieldLink (zx_po P o) idx C nm d ∈ G)
theorem zx_Z.moved {P : zx_P} {G : List Cond} {ad : Nat → Nat} {A : Nat → Prop} {u U : State} {H : Heap} (hvm : u.vm.Alike U.vm) (h : zx_Z P G ad A u H) : zx_Z P G ad A U H :=
  ⟨fun k n f e => va_T.moved hvm (h.1 k n f e), fun o idx k e => by obtain ⟨C, nm, d, h1, h2⟩ := h.2 o idx k e; exact ⟨C, nm, d, va_Z.moved hvm h1, h2⟩⟩
theorem zx_Z.kept {P : zx_P} {G : List Cond} {ad : Nat → Nat} {A : Nat → Prop} {U : State} {H H1 : Heap} (h : zx_Z P G ad A U H) (hq : ∀ a : Nat, a < H.size → ¬ A a → H1[a]? = H[a]?) : zx_Z P G ad A U H1 :=
  ⟨fun k n f e => va_T.kept (h.1 k n f e) hq, fun o idx k e => by obtain ⟨C, nm, d, h1, h2⟩ := h.2 o idx k e; exact ⟨C, nm, d, va_Z.kept h1 hq, h2⟩⟩
theorem zx_Z.narrow {P : zx_P} {G : List Cond} {ad : Nat → Nat} {A B : Nat → Prop} {U : State} {H : Heap} (h : zx_Z P G ad A U H) (hAB : ∀ q, B q → A q) : zx_Z P G ad B U H :=
  ⟨fun k n f e => va_T.narrow (h.1 k n f e) hAB, fun o idx k e => by obtain ⟨C, nm, d, h1, h2⟩ := h.2 o idx k e; exact ⟨C, nm, d, va_Z.narrow h1 hAB, h2⟩⟩
theorem zx_w_put (ad : Nat → Nat) (cA : Nat → ClassId) (h : zx_H) (a ci k : Nat) (fs : List Value) (v : Value) : (zx_w ad cA h).set a (ad a, .inr (ci, (fs.map (zx_v ad)).set k (zx_v ad v))) = zx_w ad cA (h.set a (.inr (ci, fs.set k v))) := by
  rw [← zx_w_set, zx_e, List.map_set]
theorem zx_w_arr (ad : Nat → Nat) (cA : Nat → ClassId) (h : zx_H) (a t : Nat) (x : vp_A) : (zx_w ad cA h).set a (ad a, .inl (cA t, x)) = zx_w ad cA (h.set a (.inl (t, x))) := by
  rw [← zx_w_set, zx_e]
section ZXB
variable {p : Program} {l : Launch} {e : Env} {R : Room} {s : State} {m : MethodId} {args : Array Value} {below : List Frame} {meth : Method} {c : Code} {H : Heap} {locs : List Loc} {cells slots : Nat} {Q : State → Prop}
variable {cc : ByteArray} {pc : Nat} {lsA : Array Slot} {ad : Nat → Nat} {cA : Nat → ClassId} {D : va_G} {cl : List vw_C} {A : Nat → Prop} {P : zx_P} {G : List Cond} {o : Nat}
theorem zx_gf_W (ok : zx_ok P G cl) (hx : p.tables.exec = Jvm.exec) (hb : c.code = cc) (hts : ∀ w ∈ G, w.before args s = true) (hown : s.vm.findClass (zx_po P o) = some m.cls) (hK : va_K D cl (zx_ty cA) s) {h0 : zx_H} (hP : va_P D cl (zx_w ad cA h0) H) {idx a : Nat} {v : Value} {rest : List Value} (h : zx_gf P o idx a h0 = some v) (hd : decode cc pc = .ok (.getfield idx, 3))
    (kk : W p l e R s m args below meth c H locs cells slots Q (F0 m (pc + 3) lsA (zx_v ad v :: rest))) : W p l e R s m args below meth c H locs cells slots Q (F0 m pc lsA (.ref (ad a) :: rest)) := by
  unfold zx_gf at h
  split at h
  · next ci k hf =>
    split at h
    · next cj fs ha =>
      split at h
      · next hc =>
        subst hc
        obtain ⟨C, T, N, ty0, h1, h2, h3, h4, h5, h6, h7⟩ := ok.2.2.1 _ _ _ _ hf
        exact va_get (D := D) (ci := cj) (v := zx_v ad v) (C := C) (T := T) (N := N) hx hb hts h4 hown hK hP a (zx_w_at ha) h1 k h2 (hts _ h3) (fun _ h9 => h9) (by rw [List.getElem?_map, h]; rfl) hd kk
      · cases h
    · cases h
  · cases h
theorem zx_pu_W (ok : zx_ok P G cl) (hx : p.tables.exec = Jvm.exec) (hb : c.code = cc) (hts : ∀ w ∈ G, w.before args s = true) (hown : s.vm.findClass (zx_po P o) = some m.cls) (hK : va_K D cl (zx_ty cA) s) {h0 h1 : zx_H} (hP : va_P D cl (zx_w ad cA h0) H) (hD : va_D A (zx_w ad cA h0)) (hS : va_S A s.heap H locs) {idx a : Nat} {v : Value} {rest : List Value} (hv : zx_v ad v = v) (h : zx_pu P o idx a v h0 = some h1) (hd : decode cc pc = .ok (.putfield idx, 3))
    (kk : ∀ (H1 : Heap) (locs1 : List Loc), va_P D cl (zx_w ad cA h1) H1 → va_D A (zx_w ad cA h1) → va_S A s.heap H1 locs1 → W p l e R s m args below meth c H1 locs1 cells slots Q (F0 m (pc + 3) lsA rest)) : W p l e R s m args below meth c H locs cells slots Q (F0 m pc lsA (v :: .ref (ad a) :: rest)) := by
  unfold zx_pu at h
  split at h
  · next ci k hf =>
    split at h
    · next cj fs ha =>
      split at h
      · next hc =>
        obtain ⟨hc, hk, hfin, hn, hfit⟩ := hc
        subst hc
        cases h
        obtain ⟨C, T, N, ty0, h1, h2, h3, h4, h5, h6, h7⟩ := ok.2.2.1 _ _ _ _ hf
        rw [h7] at hfin hn hfit
        refine va_put (D := D) (ci := cj) (v := v) (ty := ty0 k) (C := C) (T := T) (N := N) hx hb hts h4 ty0 h5 h6 hown hK hP hD hS a (zx_w_at ha) h1 k h2 (hts _ h3) (fun _ h9 => h9) hfin (h5 k h2) hn hfit (by rw [List.length_map]; exact hk) hd (fun H1 locs1 a1 a2 a3 => ?_)
        have e := zx_w_put ad cA h0 a cj k fs v
        rw [hv] at e
        rw [e] at a1 a2
        exact kk H1 locs1 a1 a2 a3
      · cases h
    · cases h
  · cases h
set_option maxHeartbeats 4000000 in
theorem zx_g_W (ok : zx_ok P G cl) (hx : p.tables.exec = Jvm.exec) (hb : c.code = cc) (hts : ∀ w ∈ G, w.before args s = true) (hown : s.vm.findClass (zx_po P o) = some m.cls) (hK : va_K D cl (zx_ty cA) s) (hZ : zx_Z P G ad A s s.heap) {h0 h1 : zx_H} (hP : va_P D cl (zx_w ad cA h0) H) (hD : va_D A (zx_w ad cA h0)) (hS : va_S A s.heap H locs) {i : Instr} {k : Nat} {st st' : List Value} (h : zx_g P o i st h0 = some (k, st', h1)) (hd : decode cc pc = .ok (i, k))
    (kk : ∀ (H1 : Heap) (locs1 : List Loc), va_P D cl (zx_w ad cA h1) H1 → va_D A (zx_w ad cA h1) → va_S A s.heap H1 locs1 → W p l e R s m args below meth c H1 locs1 cells slots Q (F0 m (pc + k) lsA (st'.map (zx_v ad)))) : W p l e R s m args below meth c H locs cells slots Q (F0 m pc lsA (st.map (zx_v ad))) := by
  unfold zx_g at h
  split at h
  · obtain ⟨v, hv, e9⟩ := Option.map_eq_some_iff.mp h
    cases e9
    exact zx_gf_W ok hx hb hts hown hK hP hv hd (kk H locs hP hD hS)
  · obtain ⟨h2, hv, e9⟩ := Option.map_eq_some_iff.mp h
    cases e9
    exact zx_pu_W ok hx hb hts hown hK hP hD hS rfl hv hd kk
  · obtain ⟨h2, hv, e9⟩ := Option.map_eq_some_iff.mp h
    cases e9
    exact zx_pu_W ok hx hb hts hown hK hP hD hS rfl hv hd kk
  · split at h
    · next ha =>
      split at h
      · cases h
      · next hin => cases h; exact va_iald hx hb hK hP _ 0 (zx_w_at ha) rfl hin hd (kk H locs hP hD hS)
    · split at h
      · next hpa =>
        split at h
        · cases h
        · next hin => cases h; exact va_ti hx hb (hZ.1 _ _ _ hpa) hS hin rfl hd (kk H locs hP hD hS)
      · cases h
    · cases h
  · split at h
    · next ha =>
      split at h
      · cases h
      · next hin => cases h; exact va_lald hx hb hK hP _ 1 (zx_w_at ha) rfl hin hd (kk H locs hP hD hS)
    · cases h
  · split at h
    · next ha =>
      split at h
      · cases h
      · next hin => cases h; exact va_zald hx hb hK hP _ 2 (zx_w_at ha) rfl hin hd (kk H locs hP hD hS)
    · cases h
  · split at h
    · next ha =>
      split at h
      · cases h
      · next hin => cases h; exact va_iast hx hb hK hP hD hS _ 0 (zx_w_at ha) rfl hin hd (fun H1 locs1 a1 a2 a3 => kk H1 locs1 (by rw [← zx_w_arr]; exact a1) (by rw [← zx_w_arr]; exact a2) a3)
    · cases h
  · split at h
    · next ha =>
      split at h
      · cases h
      · next hin => cases h; exact va_last hx hb hK hP hD hS _ 1 (zx_w_at ha) rfl hin hd (fun H1 locs1 a1 a2 a3 => kk H1 locs1 (by rw [← zx_w_arr]; exact a1) (by rw [← zx_w_arr]; exact a2) a3)
    · cases h
  · split at h
    · next ha =>
      split at h
      · cases h
      · next hin => cases h; exact va_zast hx hb hK hP hD hS _ 2 (zx_w_at ha) rfl hin hd (fun H1 locs1 a1 a2 a3 => kk H1 locs1 (by rw [← zx_w_arr]; exact a1) (by rw [← zx_w_arr]; exact a2) a3)
    · cases h
  · split at h
    · next t n x ha =>
      split at h
      · next ht =>
        cases h
        rcases (show t = 0 ∨ t = 1 ∨ t = 2 by omega) with rfl | rfl | rfl
        · exact va_alen hx hb hK hP _ 0 (zx_w_at ha) rfl rfl hd (kk H locs hP hD hS)
        · exact va_alen hx hb hK hP _ 1 (zx_w_at ha) rfl rfl hd (kk H locs hP hD hS)
        · exact va_alen hx hb hK hP _ 2 (zx_w_at ha) rfl rfl hd (kk H locs hP hD hS)
      · cases h
    · split at h
      · next hpa => cases h; exact va_tlen hx hb (hZ.1 _ _ _ hpa) hS rfl hd (kk H locs hP hD hS)
      · cases h
    · cases h
  · obtain ⟨k2, hv, e9⟩ := Option.map_eq_some_iff.mp h
    cases e9
    obtain ⟨C, nm, d, z1, z2⟩ := hZ.2 _ _ _ hv
    exact va_gets hx hb z1 hS hown (hts _ z2) (fun _ h9 => h9) hd (kk H locs hP hD hS)
  · obtain ⟨v, hv, e9⟩ := Option.map_eq_some_iff.mp h
    cases e9
    exact lv_ldc2 hx hb hown (hts _ (ok.2.2.2.2 _ _ _ hv)) hd (kk H locs hP hD hS)
  · cases h
end ZXB
end
section
/-! ===== 05: a run of the interpreter is a contract of the machine ===== -/
def zx_room (d : Nat) : Room := { frames := d, cells := 0, slots := 0, locals := 40 * d }
def zx_Q (D : va_G) (cl : List vw_C) (ad : Nat → Nat) (cA : Nat → ClassId) (A : Nat → Prop) (r : Option Value) (h' : zx_H) : Array Value → State → Outcome → State → Prop := fun _ st oc t =>
  oc = .returned (r.map (zx_v ad)) ∧ va_P D cl (zx_w ad cA h') t.heap ∧ va_D A (zx_w ad cA h') ∧ va_F A st t
def zx_pre (P : zx_P) (G : List Cond) (D : va_G) (cl : List vw_C) (ad : Nat → Nat) (cA : Nat → ClassId) (h : zx_H) (sz : Nat) : State → Prop := fun U =>
  U.heap.size = sz ∧ va_P D cl (zx_w ad cA h) U.heap ∧ va_K D cl (zx_ty cA) U ∧ va_D (fun _ => True) (zx_w ad cA h) ∧ zx_Z P G ad (va_A (zx_w ad cA h) sz) U U.heap
def zx_sim (P : zx_P) (G : List Cond) (cl : List vw_C) (n : Nat) : Prop :=
  ∀ (d : Nat) (q : zx_M) (pc : Nat) (ls : zx_L) (st : List Value) (h : zx_H) (r : Option Value) (h' : zx_H), zx_mok P G cl q → zx_x P n d q pc ls st h = some (r, h') →
  ∀ (p : Program) (l : Launch) (e : Env) (s : State) (m : MethodId) (args : Array Value) (below : List Frame) (meth : Method) (c : Code) (H : Heap) (locs : List Loc) (D : va_G) (ad : Nat → Nat) (cA : Nat → ClassId) (A : Nat → Prop) (lsA : Array Slot),
  p.tables.exec = Jvm.exec → c.code = zx_mb q → c.maxLocals = zx_ml q → meth.sig.returnType = zx_mr q → meth.locks = false → s.vm.findClass (zx_my q).cls = some m.cls → (∀ w ∈ G, w.before args s = true) → va_K D cl (zx_ty cA) s → zx_Z P G ad A s s.heap → (∀ q : Nat, s.heap.size ≤ q → A q) →
  va_P D cl (zx_w ad cA h) H → va_D A (zx_w ad cA h) → va_S A s.heap H locs → lv_has lsA (zx_ml q) (zx_lm ad ls) →
  W p l e (zx_room d) s m args below meth c H locs 0 0 (MQ below (zx_Q D cl ad cA A r h') args s 0 0 A) (F0 m pc lsA (st.map (zx_v ad)))
theorem zx_blind (P : zx_P) (G : List Cond) (D : va_G) (cl : List vw_C) (ad : Nat → Nat) (cA : Nat → ClassId) (h : zx_H) (sz : Nat) (av : List Value) : FrameBlind (va_Pc av (zx_pre P G D cl ad cA h sz)) := by
  intro a U g mk q
  obtain ⟨q0, q1, qP, qK, qD, qZ⟩ := q
  exact ⟨q0, q1, qP, va_K.moved (u := U) (U := U.calling g mk a) (Vm.Alike.refl U.vm) qK, qD, zx_Z.moved (u := U) (U := U.calling g mk a) (Vm.Alike.refl U.vm) qZ⟩
theorem zx_met_of {P : zx_P} {G : List Cond} {cl : List vw_C} {n : Nat} (hn : zx_sim P G cl n) {d : Nat} {q : zx_M} {as : List Value} {h : zx_H} {r : Option Value} {h' : zx_H} (hq : zx_mok P G cl q) (hl : (lg_sl as).length ≤ zx_ml q) (hx : zx_x P n d q 0 (lv_args 0 as) [] h = some (r, h')) (l : Launch) (D : va_G) (ad : Nat → Nat) (cA : Nat → ClassId) (sz : Nat) :
    Met l (zx_my q) (Cond.code (zx_my q) (zx_mb q) (zx_ml q) (zx_mr q) :: G) (zx_room d) (va_Pc (as.map (zx_v ad)) (zx_pre P G D cl ad cA h sz)) (zx_Q D cl ad cA (va_A (zx_w ad cA h) sz) r h') 0 0 (va_A (zx_w ad cA h) sz) := by
  refine Met.ofW (cc := zx_mb q) (maxL := zx_ml q) (ret := zx_mr q) hq.1 rfl ?_
  intro p e s m args below meth c s₁ B hml hv
  obtain ⟨rfl, hsz, hP, hK, hD, hZ⟩ := hv
  have hts := atoms_spec (ws := Cond.code (zx_my q) (zx_mb q) (zx_ml q) (zx_mr q) :: G) B.pre
  subst hsz
  rw [lg_entry_eq]
  have hl9 := lv_entry (as.map (zx_v ad)) (n := zx_ml q) (by rw [zx_sl_len]; exact hl)
  rw [zx_lm_args] at hl9
  exact hn d q 0 _ [] h r h' hq hx p l e s m _ below meth c s.heap [] D ad cA _ _ B.exec B.bytes hml B.returns B.notSynchronized (findClass_of_methodNamed B.named) (fun w hw => hts w (List.mem_cons_of_mem _ hw)) hK hZ (fun q h => Or.inr h) hP hD.self va_S.rf hl9
section ZXC
variable {p : Program} {l : Launch} {e : Env} {R : Room} {s : State} {m : MethodId} {args : Array Value} {below : List Frame} {meth : Method} {c : Code} {H : Heap} {locs : List Loc} {cells slots : Nat} {Q : State → Prop}
variable {cc : ByteArray} {pc : Nat} {lsA : Array Slot} {ad : Nat → Nat} {cA : Nat → ClassId} {D : va_G} {cl : List vw_C} {A A1 : Nat → Prop} {P : zx_P} {G : List Cond}
theorem zx_call {r : Option Value} {h' : zx_H} {a : Array Value} {st0 rest : List Value} (hr : va_Run p l e R s m args below meth c H locs cells slots 0 0 (F0 m pc lsA st0) (rest.map (zx_v ad)) (zx_Q D cl ad cA A1 r h' a) A1) (hS : va_S A s.heap H locs) (hA : ∀ q, A1 q → A q)
    (kk : ∀ (H1 : Heap) (locs1 : List Loc), va_P D cl (zx_w ad cA h') H1 → va_D A (zx_w ad cA h') → va_S A s.heap H1 locs1 → W p l e R s m args below meth c H1 locs1 cells slots Q (F0 m (pc + 3) lsA ((r.toList ++ rest).map (zx_v ad)))) : W p l e R s m args below meth c H locs cells slots Q (F0 m pc lsA st0) := by
  intro T hT X
  obtain ⟨v, st₀, t, T', L, h0, X', hL, e1, e2, ⟨hv, hp, hdd, hz, hk⟩, st⟩ := hr T hT X
  have hv' : v = r.map (zx_v ad) := by cases hv; rfl
  subst hv'
  rw [h0] at hz hk
  have e3 : (r.map (zx_v ad)).toList ++ rest.map (zx_v ad) = (r.toList ++ rest).map (zx_v ad) := by cases r <;> simp
  rw [e3] at st
  obtain ⟨t2, a1, b1⟩ := kk T'.heap (locs ++ L) (by rw [e1]; exact hp) (hdd.weaken (fun _ _ _ z => hA _ z))
    ⟨Nat.le_trans hS.1 (by rw [e1]; exact hz), fun q h1 h2 => by rw [e1, hk q (Nat.lt_of_lt_of_le h1 hS.1) (fun z => h2 (hA q z))]; exact hS.2.1 q h1 h2, fun q hq => by
      rcases List.mem_append.mp hq with h | h
      · exact hS.2.2 q h
      · exact hA _ (hL q h)⟩ T' rfl X'
  exact ⟨t2, st t2 a1, b1⟩
theorem zx_sub {h : zx_H} (hD : va_D A (zx_w ad cA h)) (hS : va_S A s.heap H locs) (hA : ∀ q : Nat, s.heap.size ≤ q → A q) : ∀ q, va_A (zx_w ad cA h) H.size q → A q := by
  intro q hq
  rcases hq with ⟨k, e9, hk⟩ | hq
  · exact hD.2 k _ hk
  · exact hA q (Nat.le_trans hS.1 hq)
theorem zx_preU {h : zx_H} (hK : va_K D cl (zx_ty cA) s) (hZ : zx_Z P G ad A s s.heap) (hA : ∀ q : Nat, s.heap.size ≤ q → A q) (hP : va_P D cl (zx_w ad cA h) H) (hD : va_D A (zx_w ad cA h)) (hS : va_S A s.heap H locs) (U : State) (hU : U.heap = H) (hW : s.WarmedH U.vm) : zx_pre P G D cl ad cA h H.size U := by
  refine ⟨by rw [hU], by rw [hU]; exact hP, va_K.moved hW.alike hK, hD.weaken (fun _ _ _ _ => trivial), ?_⟩
  rw [hU]
  exact ((hZ.kept (fun a h1 h2 => hS.2.1 a h1 h2)).narrow (zx_sub hD hS hA)).moved hW.alike
theorem zx_good (ok : zx_ok P G cl) {w : Cond} (hw : w ∈ G) : GoodIn G (w :: G) := by
  intro z hz
  rcases List.mem_cons.mp hz with rfl | hz
  · exact ⟨hw, ok.1 _ hw⟩
  · exact ⟨hz, ok.1 _ hz⟩
end ZXC
set_option maxHeartbeats 4000000 in
theorem zx_sim_all {P : zx_P} {G : List Cond} {cl : List vw_C} (ok : zx_ok P G cl) : ∀ n : Nat, zx_sim P G cl n := by
  intro n
  induction n with
  | zero => intro d q pc ls st h r h' hq hx; simp [zx_x] at hx
  | succ n ih =>
    intro d q pc ls st h r h' hq hx p l e s m args below meth c H locs D ad cA A lsA xe xb xm xr xl xo hts hK hZ hA hP hD hS hl
    rw [zx_x] at hx
    have hown : s.vm.findClass (zx_po P (zx_mo q)) = some m.cls := by rw [hq.2.2.2.1]; exact xo
    split at hx
    · cases hx
    · next i len hat =>
      have hd : decode (zx_mb q) pc = .ok (i, len) := hq.2.2.2.2.2.2.2 (pc, (i, len)) (zx_at_mem hat)
      split at hx
      · next k st' hs =>
        split at hx
        · next hk => subst hk; exact zx_s_W xe xb hs hd (ih d q _ ls st' h r h' hq hx p l e s m args below meth c H locs D ad cA A lsA xe xb xm xr xl xo hts hK hZ hA hP hD hS hl)
        · cases hx
      · split at hx
        · next k v hs =>
          split at hx
          · next hk => subst hk; exact zx_l_W xe xb hs hd hl (ih d q _ ls (v :: st) h r h' hq hx p l e s m args below meth c H locs D ad cA A lsA xe xb xm xr xl xo hts hK hZ hA hP hD hS hl)
          · cases hx
        · split at hx
          · next k ls' st' hs =>
            split at hx
            · next hk => subst hk; exact zx_t_W xe xb hs hd hl (fun lsB hlB => ih d q _ ls' st' h r h' hq hx p l e s m args below meth c H locs D ad cA A lsB xe xb xm xr xl xo hts hK hZ hA hP hD hS hlB)
            · cases hx
          · split at hx
            · next pc' st' hs => exact zx_j_W xe xb hs hd (ih d q pc' ls st' h r h' hq hx p l e s m args below meth c H locs D ad cA A lsA xe xb xm xr xl xo hts hK hZ hA hP hD hS hl)
            · split at hx
              · next k st' h1 hs =>
                split at hx
                · next hk => subst hk; exact zx_g_W ok xe xb hts hown hK hZ hP hD hS hs hd (fun H1 locs1 a1 a2 a3 => ih d q _ ls st' h1 r h' hq hx p l e s m args below meth c H1 locs1 D ad cA A lsA xe xb xm xr xl xo hts hK hZ hA a1 a2 a3 hl)
                · cases hx
              · split at hx
                · next r9 hr9 =>
                  cases hx
                  generalize hret : zx_mr q = ret9 at hr9
                  unfold zx_r at hr9
                  split at hr9
                  · next v ty =>
                    split at hr9
                    · next hk =>
                      obtain ⟨hk, hn⟩ := hk
                      subst hk
                      cases hr9
                      exact W.zret xe xb (xr.trans hret) hn (fun t ht hW => ⟨rfl, by rw [ht]; exact hP, hD, hS.F ht⟩) hS.2.2 hd xl
                    · cases hr9
                  · next v =>
                    split at hr9
                    · next hk =>
                      subst hk
                      cases hr9
                      exact W.lret xe xb (xr.trans hret) (fun t ht hW => ⟨rfl, by rw [ht]; exact hP, hD, hS.F ht⟩) hS.2.2 hd xl
                    · cases hr9
                  · skip
                    split at hr9
                    · next hk =>
                      subst hk
                      cases hr9
                      exact W.vret xe xb (xr.trans hret) (fun t ht hW => ⟨rfl, by rw [ht]; exact hP, hD, hS.F ht⟩) hS.2.2 hd xl
                    · cases hr9
                  · cases hr9
                · split at hx
                  · next cj as rest hk9 =>
                    split at hx
                    · cases hx
                    · next d' =>
                      split at hx
                      · cases hx
                      · next q' hq' =>
                        split at hx
                        · cases hx
                        · next r1 h1 hx1 =>
                          have hm' : zx_mok P G cl q' := ok.2.1 _ _ hq'
                          have kk : ∀ (H1 : Heap) (locs1 : List Loc), va_P D cl (zx_w ad cA h1) H1 → va_D A (zx_w ad cA h1) → va_S A s.heap H1 locs1 → W p l e (zx_room (d' + 1)) s m args below meth c H1 locs1 0 0 (MQ below (zx_Q D cl ad cA A r h') args s 0 0 A) (F0 m (pc + 3) lsA ((r1.toList ++ rest).map (zx_v ad))) := fun H1 locs1 a1 a2 a3 =>
                            ih (d' + 1) q (pc + 3) ls (r1.toList ++ rest) h1 r h' hq hx p l e s m args below meth c H1 locs1 D ad cA A lsA xe xb xm xr xl xo hts hK hZ hA a1 a2 a3 hl
                          obtain ⟨y1, y2, y3, y4, y5, y6, y7, y8⟩ := hm'
                          unfold zx_k at hk9
                          split at hk9
                          · next idx =>
                            split at hk9
                            · next cj' hpc =>
                              split at hk9
                              · next q9 hq9 =>
                                split at hk9
                                · next b rest' hdrop =>
                                  split at hk9
                                  · next ci fs hbc =>
                                    split at hk9
                                    · next hc9 =>
                                      obtain ⟨c1, c2, c3, c4, c5, c6⟩ := hc9
                                      cases hk9
                                      cases hq9.symm.trans hq'
                                      subst c1
                                      obtain ⟨q8, hq8, hlk⟩ := ok.2.2.2.1 _ _ _ hpc
                                      cases hq8.symm.trans hq'
                                      rw [c2] at y7
                                      obtain ⟨z1, z2, T9, N9, z3⟩ := y7
                                      have hst : st = st.take (zx_mp q') ++ .ref b :: rest := by rw [← hdrop, List.take_append_drop]
                                      exact zx_call (va_runV (As := ((st.take (zx_mp q')).reverse).map (zx_v ad)) (b := ad b) (C := (zx_my q').cls) (nL := zx_ml q) ⟨xe, xb, xm, hown, hts⟩ (zx_met_of ih (ok.2.1 _ _ hq') c6 hx1 l D ad cA H.size)
                                        ⟨callB_of (zx_mp q') hts (zx_good ok y5) rfl rfl rfl (hts _ y6) (hts _ hlk) ⟨y2.1, y2.2, y3⟩ ⟨Nat.le_refl _, by show 8 + (zx_ml q' + 11) + 40 * d' ≤ 40 * (d' + 1); omega⟩, hts _ z1, hts _ z2⟩
                                        ⟨zx_blind P G D cl ad cA h H.size _, va_recv hK hP z3 (zx_w_at hbc), fun U hU hW => ⟨rfl, zx_preU hK hZ hA hP hD hS U hU hW⟩⟩ rfl (by rw [List.length_map, List.length_reverse]; exact c3) hl.1
                                        (by show st.map (zx_v ad) = _; conv => lhs; rw [hst]
                                            rw [List.map_append, List.map_reverse, List.reverse_reverse]; rfl)
                                        (lv_room (by rw [zx_cat_sum]; exact c4)) hd ⟨Nat.le_refl _, Nat.le_refl _⟩) hS (zx_sub hD hS hA) kk
                                    · cases hk9
                                  · cases hk9
                                · cases hk9
                              · cases hk9
                            · cases hk9
                          · next idx =>
                            split at hk9
                            · next cj' hpc =>
                              split at hk9
                              · next q9 hq9 =>
                                split at hk9
                                · next hc9 =>
                                  obtain ⟨c1, c2, c3, c4, c5, c6⟩ := hc9
                                  cases hk9
                                  cases hq9.symm.trans hq'
                                  subst c1
                                  obtain ⟨q8, hq8, hlk⟩ := ok.2.2.2.1 _ _ _ hpc
                                  cases hq8.symm.trans hq'
                                  rw [c2] at y7
                                  exact zx_call (va_runS (As := ((st.take (zx_mp q')).reverse).map (zx_v ad)) (nL := zx_ml q) ⟨xe, xb, xm, hown, hts⟩ (zx_met_of ih (ok.2.1 _ _ hq') c6 hx1 l D ad cA H.size)
                                    ⟨callB_of (zx_mp q') hts (zx_good ok y5) rfl rfl rfl (hts _ y6) (hts _ hlk) ⟨y2.1, y2.2, y3⟩ ⟨Nat.le_refl _, by show 8 + (zx_ml q' + 11) + 40 * d' ≤ 40 * (d' + 1); omega⟩, hts _ y7⟩
                                    ⟨zx_blind P G D cl ad cA h H.size _, fun U hU hW => ⟨rfl, zx_preU hK hZ hA hP hD hS U hU hW⟩⟩ rfl (by rw [List.length_map, List.length_reverse]; exact c3) hl.1
                                    (by show st.map (zx_v ad) = _
                                        rw [List.map_reverse, List.reverse_reverse, ← List.map_append, List.take_append_drop])
                                    (lv_room (by rw [zx_cat_sum]; exact c4)) hd ⟨Nat.le_refl _, Nat.le_refl _⟩) hS (zx_sub hD hS hA) kk
                                · cases hk9
                              · cases hk9
                            · cases hk9
                          · cases hk9
                  · cases hx
theorem i_vc : Claimed_1_1 ∧ Claimed_1_2 := sorry
end
