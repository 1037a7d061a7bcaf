/-! ===== 01: an interpreter of the instructions that the class and the reference use, over a heap of cells that are known by their numbers (a reference is .ref of a cell's number); no cell is made. Program tables are a parameter. ===== -/
/-- a cell: an array (kind 0 int, 1 long, 2 boolean; its contents), or an object (number of its class; its fields) -/
abbrev zx_E : Type := (Nat × vp_A) ⊕ (Nat × List Value)
abbrev zx_H : Type := List zx_E
abbrev zx_L : Type := List (Nat × Value)
/-- a method: name, bytes, locals, return type, class of its receiver (none: static), parameters, number of its own class, instructions -/
abbrev zx_M : Type := MethodName × ByteArray × Nat × Option FieldType × Option Nat × Nat × Nat × List (Nat × Instr × Nat)
abbrev zx_my (q : zx_M) : MethodName := q.1
abbrev zx_mb (q : zx_M) : ByteArray := q.2.1
abbrev zx_ml (q : zx_M) : Nat := q.2.2.1
abbrev zx_mr (q : zx_M) : Option FieldType := q.2.2.2.1
abbrev zx_mc (q : zx_M) : Option Nat := q.2.2.2.2.1
abbrev zx_mp (q : zx_M) : Nat := q.2.2.2.2.2.1
abbrev zx_mo (q : zx_M) : Nat := q.2.2.2.2.2.2.1
abbrev zx_mi (q : zx_M) : List (Nat × Instr × Nat) := q.2.2.2.2.2.2.2
/-- the program: methods; names of own classes; (own class, entry) to (class, field); .. to method; .. to the number of a static row; rows; .. to a long; a field's type and whether it is final; .. to whether it is Math.min -/
abbrev zx_P : Type := List zx_M × (Nat → String) × (Nat → Nat → Option (Nat × Nat)) × (Nat → Nat → Option Nat) × (Nat → Nat → Option Nat) × (Nat → Option (Nat × (Nat → Int32))) × (Nat → Nat → Option Int64) × (Nat → Nat → FieldType × Bool) × (Nat → Nat → Bool)
abbrev zx_pm (P : zx_P) : List zx_M := P.1
abbrev zx_po (P : zx_P) : Nat → String := P.2.1
abbrev zx_pf (P : zx_P) : Nat → Nat → Option (Nat × Nat) := P.2.2.1
abbrev zx_pc (P : zx_P) : Nat → Nat → Option Nat := P.2.2.2.1
abbrev zx_ps (P : zx_P) : Nat → Nat → Option Nat := P.2.2.2.2.1
abbrev zx_pa (P : zx_P) : Nat → Option (Nat × (Nat → Int32)) := P.2.2.2.2.2.1
abbrev zx_pl (P : zx_P) : Nat → Nat → Option Int64 := P.2.2.2.2.2.2.1
abbrev zx_pt (P : zx_P) : Nat → Nat → FieldType × Bool := P.2.2.2.2.2.2.2.1
abbrev zx_pn (P : zx_P) : Nat → Nat → Bool := P.2.2.2.2.2.2.2.2
def zx_at : List (Nat × Instr × Nat) → Nat → Option (Instr × Nat)
  | [], _ => none
  | q :: r, pc => match Nat.beq q.1 pc with
    | true => some q.2
    | false => zx_at r pc
def zx_lk : zx_L → Nat → Option Value
  | [], _ => none
  | q :: r, i => match Nat.beq q.1 i with
    | true => some q.2
    | false => zx_lk r i
def zx_set1 (ls : zx_L) (i : Nat) (v : Value) : zx_L := (i, v) :: ls.filter (fun q => !(q.1 == i) && !(q.1 + 1 == i && q.2.category == 2))
def zx_set2 (ls : zx_L) (i : Nat) (v : Value) : zx_L := (i, v) :: ls.filter (fun q => !(q.1 == i) && (!(q.1 == i + 1) && !(q.1 + 1 == i && q.2.category == 2)))
/-- what works on the stack alone: the instruction's length, the stack behind it -/
def zx_s (i : Instr) (st : List Value) : Option (Nat × List Value) :=
  match i, st with
  | .iconst n, st => some (1, .int (Int32.ofInt n) :: st)
  | .bipush n, st => some (2, .int (Int8.ofInt n).toInt32 :: st)
  | .sipush n, st => some (3, .int (Int16.ofInt n).toInt32 :: st)
  | .lconst n, st => some (1, .long (Int64.ofNat n.val) :: st)
  | .iadd, .int y :: .int x :: r => some (1, .int (x + y) :: r)
  | .isub, .int y :: .int x :: r => some (1, .int (x - y) :: r)
  | .imul, .int y :: .int x :: r => some (1, .int (x * y) :: r)
  | .iand, .int y :: .int x :: r => some (1, .int (x &&& y) :: r)
  | .idiv, .int y :: .int x :: r => if y = 0 then none else some (1, .int (x / y) :: r)
  | .iushr, .int y :: .int x :: r => some (1, .int ((x.toUInt32 >>> (y.toUInt32 &&& Int32.toUInt32 31)).toInt32) :: r)
  | .ladd, .long y :: .long x :: r => some (1, .long (x + y) :: r)
  | .land, .long y :: .long x :: r => some (1, .long (x &&& y) :: r)
  | .lor, .long y :: .long x :: r => some (1, .long (x ||| y) :: r)
  | .ldiv, .long y :: .long x :: r => if y = 0 then none else some (1, .long (x / y) :: r)
  | .lshl, .int y :: .long x :: r => some (1, .long (x <<< (y.toInt64 &&& 63)) :: r)
  | .i2l, .int x :: r => some (1, .long x.toInt64 :: r)
  | .l2i, .long x :: r => some (1, .int x.toInt32 :: r)
  | .lcmp, .long y :: .long x :: r => some (1, .int (lg_cmp x y) :: r)
  | .dup, v :: r => if v.category = 1 then some (1, v :: v :: r) else none
  | .pop, v :: r => if v.category = 1 then some (1, r) else none
  | .pop2, v :: r => if v.category = 2 then some (1, r) else none
  | .dup_x1, v :: w :: r => if v.category = 1 ∧ w.category = 1 then some (1, v :: w :: v :: r) else none
  | _, _ => none
def zx_gi (ls : zx_L) (k n : Nat) : Option (Nat × Value) := match zx_lk ls k with
  | some (.int x) => some (n, .int x)
  | _ => none
def zx_gl (ls : zx_L) (k n : Nat) : Option (Nat × Value) := match zx_lk ls k with
  | some (.long x) => some (n, .long x)
  | _ => none
def zx_gr (ls : zx_L) (k n : Nat) : Option (Nat × Value) := match zx_lk ls k with
  | some (.ref x) => some (n, .ref x)
  | _ => none
/-- loads -/
def zx_l (i : Instr) (ls : zx_L) : Option (Nat × Value) :=
  match i with
  | .iload_n k => zx_gi ls k.val 1
  | .iload k => zx_gi ls k 2
  | .lload_n k => zx_gl ls k.val 1
  | .lload k => zx_gl ls k 2
  | .aload_n k => zx_gr ls k.val 1
  | .aload k => zx_gr ls k 2
  | _ => none
/-- stores, iinc -/
def zx_t (i : Instr) (nL : Nat) (ls : zx_L) (st : List Value) : Option (Nat × zx_L × List Value) :=
  match i, st with
  | .istore_n k, .int x :: r => if k.val < nL then some (1, zx_set1 ls k.val (.int x), r) else none
  | .istore k, .int x :: r => if k < nL then some (2, zx_set1 ls k (.int x), r) else none
  | .lstore_n k, .long x :: r => if k.val + 1 < nL then some (1, zx_set2 ls k.val (.long x), r) else none
  | .lstore k, .long x :: r => if k + 1 < nL then some (2, zx_set2 ls k (.long x), r) else none
  | .astore_n k, .ref x :: r => if k.val < nL then some (1, zx_set1 ls k.val (.ref x), r) else none
  | .astore k, .ref x :: r => if k < nL then some (2, zx_set1 ls k (.ref x), r) else none
  | .iinc k n, st => match zx_lk ls k with
    | some (.int x) => if k < nL then some (3, zx_set1 ls k (.int (x + Int32.ofInt n)), st) else none
    | _ => none
  | _, _ => none
def zx_tg (pc : Nat) (off : Int) : Option Nat := if 0 ≤ (pc : Int) + off then some ((pc : Int) + off).toNat else none
def zx_cmp (k : Jvm.ClassFile.Cond) (x y : Int32) : Bool := match k with
  | .eq => decide (x = y)
  | .ne => decide (¬ x = y)
  | .lt => decide (x < y)
  | .ge => decide (y ≤ x)
  | .gt => decide (y < x)
  | .le => decide (x ≤ y)
/-- jumps: where it goes on, the stack there -/
def zx_j (i : Instr) (n pc : Nat) (st : List Value) : Option (Nat × List Value) :=
  match i, st with
  | .goto off, st => if n = 3 then (zx_tg pc off).map (fun t => (t, st)) else none
  | .ifCond k off, .int x :: r => if n = 3 then (match zx_tg pc off with
    | some t => some (if zx_cmp k x 0 then t else pc + 3, r)
    | none => none) else none
  | .if_icmp k off, .int y :: .int x :: r => if n = 3 then (match zx_tg pc off with
    | some t => some (if zx_cmp k x y then t else pc + 3, r)
    | none => none) else none
  | .tableswitch dflt lo hi offs, .int x :: r => if x.toInt < lo ∨ hi < x.toInt then (zx_tg pc dflt).map (fun t => (t, r)) else (match offs[(x.toInt - lo).toNat]? with
    | some off => (zx_tg pc off).map (fun t => (t, r))
    | none => none)
  | .lookupswitch dflt ps, .int x :: r => if (ps.toList.zip (ps.toList.drop 1)).all (fun q => q.1.1 < q.2.1) = true then (zx_tg pc (Op.lookupswitch.offset ps.toList dflt x.toInt)).map (fun t => (t, r)) else none
  | _, _ => none
/-- fields, arrays, constants: length, stack, heap -/
def zx_gf (P : zx_P) (o idx a : Nat) (h : zx_H) : Option Value := match zx_pf P o idx with
  | some (ci, k) => (match h[a]? with
    | some (.inr (cj, fs)) => if cj = ci then fs[k]? else none
    | _ => none)
  | none => none
def zx_pu (P : zx_P) (o idx a : Nat) (v : Value) (h : zx_H) : Option zx_H := match zx_pf P o idx with
  | some (ci, k) => (match h[a]? with
    | some (.inr (cj, fs)) => if cj = ci ∧ k < fs.length ∧ (zx_pt P ci k).2 = false ∧ narrow (zx_pt P ci k).1 v = v ∧ fits (zx_pt P ci k).1 v = true then some (h.set a (.inr (cj, fs.set k v))) else none
    | _ => none)
  | none => none
def zx_g (P : zx_P) (o : Nat) (i : Instr) (st : List Value) (h : zx_H) : Option (Nat × List Value × zx_H) :=
  match i, st with
  | .getfield idx, .ref a :: r => (zx_gf P o idx a h).map (fun v => (3, v :: r, h))
  | .putfield idx, .int x :: .ref a :: r => (zx_pu P o idx a (.int x) h).map (fun h' => (3, r, h'))
  | .putfield idx, .long x :: .ref a :: r => (zx_pu P o idx a (.long x) h).map (fun h' => (3, r, h'))
  | .iaload, .int i :: .ref a :: r => (match h[a]? with
    | some (.inl (0, n, .inl f)) => if i < 0 ∨ n ≤ i.toNatClampNeg then none else some (1, .int (f i.toNatClampNeg) :: r, h)
    | none => (match zx_pa P a with
      | some (n, f) => if i < 0 ∨ n ≤ i.toNatClampNeg then none else some (1, .int (f i.toNatClampNeg) :: r, h)
      | none => none)
    | _ => none)
  | .laload, .int i :: .ref a :: r => (match h[a]? with
    | some (.inl (1, n, .inr (.inl f))) => if i < 0 ∨ n ≤ i.toNatClampNeg then none else some (1, .long (f i.toNatClampNeg) :: r, h)
    | _ => none)
  | .baload, .int i :: .ref a :: r => (match h[a]? with
    | some (.inl (2, n, .inl f)) => if i < 0 ∨ n ≤ i.toNatClampNeg then none else some (1, .int (f i.toNatClampNeg) :: r, h)
    | _ => none)
  | .iastore, .int x :: .int i :: .ref a :: r => (match h[a]? with
    | some (.inl (0, n, .inl f)) => if i < 0 ∨ n ≤ i.toNatClampNeg then none else some (1, r, h.set a (.inl (0, n, .inl (upd f i.toNatClampNeg x))))
    | _ => none)
  | .lastore, .long x :: .int i :: .ref a :: r => (match h[a]? with
    | some (.inl (1, n, .inr (.inl f))) => if i < 0 ∨ n ≤ i.toNatClampNeg then none else some (1, r, h.set a (.inl (1, n, .inr (.inl (vp_updL f i.toNatClampNeg x)))))
    | _ => none)
  | .bastore, .int x :: .int i :: .ref a :: r => (match h[a]? with
    | some (.inl (2, n, .inl f)) => if i < 0 ∨ n ≤ i.toNatClampNeg then none else some (1, r, h.set a (.inl (2, n, .inl (upd f i.toNatClampNeg (vp_nar .boolean x)))))
    | _ => none)
  | .arraylength, .ref a :: r => (match h[a]? with
    | some (.inl (t, n, _)) => if t < 3 then some (1, .int (Int32.ofNat n) :: r, h) else none
    | none => (match zx_pa P a with
      | some (n, _) => some (1, .int (Int32.ofNat n) :: r, h)
      | none => none)
    | _ => none)
  | .getstatic idx, st => (zx_ps P o idx).map (fun k => (3, .ref k :: st, h))
  | .ldc2_w idx, st => (zx_pl P o idx).map (fun v => (3, .long v :: st, h))
  | _, _ => none
/-- calls: the method's number, its arguments, the rest of the stack -/
def zx_k (P : zx_P) (o : Nat) (i : Instr) (n : Nat) (st : List Value) (h : zx_H) : Option (Nat × List Value × List Value) :=
  match i with
  | .invokevirtual idx => (match zx_pc P o idx with
    | some cj => (match (zx_pm P)[cj]? with
      | some q => (match st.drop (zx_mp q) with
        | .ref b :: rest => (match h[b]? with
          | some (.inr (ci, _)) => if n = 3 ∧ zx_mc q = some ci ∧ (st.take (zx_mp q)).length = zx_mp q ∧ (rest.map fun v => v.category).sum ≤ 8 ∧ zx_ml q ≤ 21 ∧ (lg_sl (.ref b :: (st.take (zx_mp q)).reverse)).length ≤ zx_ml q then some (cj, .ref b :: (st.take (zx_mp q)).reverse, rest) else none
          | _ => none)
        | _ => none)
      | none => none)
    | none => none)
  | .invokestatic idx => (match zx_pc P o idx with
    | some cj => (match (zx_pm P)[cj]? with
      | some q => if n = 3 ∧ zx_mc q = none ∧ (st.take (zx_mp q)).length = zx_mp q ∧ ((st.drop (zx_mp q)).map fun v => v.category).sum ≤ 8 ∧ zx_ml q ≤ 21 ∧ (lg_sl (st.take (zx_mp q)).reverse).length ≤ zx_ml q then some (cj, (st.take (zx_mp q)).reverse, st.drop (zx_mp q)) else none
      | none => none)
    | none => none)
  | _ => none
/-- Math.min, which the machine has by itself -/
def zx_n (P : zx_P) (o : Nat) (i : Instr) (n : Nat) (st : List Value) : Option (List Value) :=
  match i, st with
  | .invokestatic idx, .int y :: .int x :: r => if zx_pn P o idx = true ∧ n = 3 ∧ (r.map fun v => v.category).sum ≤ 8 then some (.int (if y < x then y else x) :: r) else none
  | _, _ => none
/-- returns -/
def zx_r (i : Instr) (n : Nat) (ret : Option FieldType) (st : List Value) : Option (Option Value) :=
  match i, st, ret with
  | .ireturn, [.int v], some ty => if n = 1 ∧ narrow ty (.int v) = .int v then some (some (.int v)) else none
  | .lreturn, [.long v], some .long => if n = 1 then some (some (.long v)) else none
  | .return_, [], none => if n = 1 then some none else none
  | _, _, _ => none
/-- the interpreter: fuel, depth left, method, pc, locals, stack, heap -/
def zx_x (P : zx_P) : Nat → Nat → zx_M → Nat → zx_L → List Value → zx_H → Option (Option Value × zx_H)
  | 0, _, _, _, _, _, _ => none
  | n + 1, d, q, pc, ls, st, h =>
    match zx_at (zx_mi q) pc with
    | none => none
    | some (i, len) =>
      match zx_s i st with
      | some (k, st') => if len = k then zx_x P n d q (pc + k) ls st' h else none
      | none =>
      match zx_l i ls with
      | some (k, v) => if len = k then zx_x P n d q (pc + k) ls (v :: st) h else none
      | none =>
      match zx_t i (zx_ml q) ls st with
      | some (k, ls', st') => if len = k then zx_x P n d q (pc + k) ls' st' h else none
      | none =>
      match zx_j i len pc st with
      | some (pc', st') => zx_x P n d q pc' ls st' h
      | none =>
      match zx_g P (zx_mo q) i st h with
      | some (k, st', h') => if len = k then zx_x P n d q (pc + k) ls st' h' else none
      | none =>
      match zx_r i len (zx_mr q) st with
      | some r => some (r, h)
      | none =>
      match zx_n P (zx_mo q) i len st with
      | some st' =>
        (match d with
        | 0 => none
        | d' + 1 => zx_x P n (d' + 1) q (pc + 3) ls st' h)
      | none =>
      match zx_k P (zx_mo q) i len st h with
      | some (cj, as, rest) =>
        (match d with
        | 0 => none
        | d' + 1 =>
          (match (zx_pm P)[cj]? with
          | none => none
          | some q' =>
            (match zx_x P n d' q' 0 (lv_args 0 as) [] h with
            | none => none
            | some (r, h') => zx_x P n (d' + 1) q (pc + 3) ls (r.toList ++ rest) h')))
      | none => none
