/-! ===== 09: an abstract interpreter: ints lie in intervals (a value is a base and an offset, or known), references are known cells; what a heap keeps is told by descriptors of its cells; methods by contracts ===== -/
/-- base and offset; a known int; a cell; a long -/
abbrev za_V : Type := (Nat × Int) ⊕ (Int ⊕ (Nat ⊕ Unit))
abbrev za_N : Type := List (Int × Int)
/-- what a place may hold: an int of an interval; a long; the cell -/
abbrev za_T : Type := (Int × Int) ⊕ (Unit ⊕ Nat)
/-- a cell: array (kind, length, elements' interval), object (class, fields) -/
abbrev za_D : Type := (Nat × Nat × Int × Int) ⊕ (Nat × List za_T)
abbrev za_L : Type := List (Nat × za_V)
abbrev za_F : Type := List ((Nat × Nat) × za_V)
abbrev za_C : Type := List (Nat × List za_V × za_V)
/-- bases' intervals, locals, stack, what fields hold now, what pure calls have answered -/
abbrev za_S : Type := za_N × za_L × List za_V × za_F × za_C
def za_top : Int × Int := (-2147483648, 2147483647)
def za_le (a b : Int) : Bool := match b - a with
  | .ofNat _ => true
  | .negSucc _ => false
theorem za_le_iff {a b : Int} : za_le a b = true ↔ a ≤ b := by
  unfold za_le
  split
  · next k e => have h9 := Int.natCast_nonneg k; simp only [Int.ofNat_eq_natCast] at e; simp; omega
  · next k e => have h9 := Int.negSucc_lt_zero k; simp; omega
def za_min (a b : Int) : Int := match za_le a b with
  | true => a
  | false => b
def za_max (a b : Int) : Int := match za_le a b with
  | true => b
  | false => a
def za_iv (n : za_N) (a : za_V) : Int × Int := match a with
  | .inl (b, c) => (match n[b]? with
    | some q => (q.1 + c, q.2 + c)
    | none => za_top)
  | .inr (.inl k) => (k, k)
  | _ => za_top
def za_hi (n : za_N) (a : za_V) (m : Int) : za_N := match a with
  | .inl (b, c) => (match n[b]? with
    | some q => n.set b (q.1, za_min q.2 (m - c))
    | none => n)
  | _ => n
def za_lo (n : za_N) (a : za_V) (m : Int) : za_N := match a with
  | .inl (b, c) => (match n[b]? with
    | some q => n.set b (za_max q.1 (m - c), q.2)
    | none => n)
  | _ => n
def za_isI : za_V → Bool
  | .inl _ => true
  | .inr (.inl _) => true
  | _ => false
def za_isL : za_V → Bool
  | .inr (.inr (.inr _)) => true
  | _ => false
/-- bases under x + d ≤ y, none: that can't be -/
def za_cl (n : za_N) (x y : za_V) (d : Int) : Option za_N :=
  match za_le ((za_iv n x).1 + d) (za_iv n y).2 with
  | true => some (za_lo (za_hi n x ((za_iv n y).2 - d)) y ((za_iv n x).1 + d))
  | false => none
def za_ceq (n : za_N) (x y : za_V) : Option za_N := match za_cl n x y 0 with
  | some n1 => za_cl n1 y x 0
  | none => none
def za_cne (n : za_N) (x y : za_V) : Option za_N :=
  match y with
  | .inr (.inl k) => (match decide ((za_iv n x).1 = k) with
    | true => za_cl n (.inr (.inl k)) x 1
    | false => (match decide ((za_iv n x).2 = k) with
      | true => za_cl n x (.inr (.inl k)) 1
      | false => some n))
  | _ => some n
def za_br (k : Jvm.ClassFile.Cond) (n : za_N) (x y : za_V) : Option za_N := match k with
  | .eq => za_ceq n x y
  | .ne => za_cne n x y
  | .lt => za_cl n x y 1
  | .ge => za_cl n y x 0
  | .gt => za_cl n y x 1
  | .le => za_cl n x y 0
def za_ng (k : Jvm.ClassFile.Cond) : Jvm.ClassFile.Cond := match k with
  | .eq => .ne
  | .ne => .eq
  | .lt => .ge
  | .ge => .lt
  | .gt => .le
  | .le => .gt
/-- a new base -/
def za_new (n : za_N) (q : Int × Int) (r : List za_V) : Nat × za_N × List za_V := (1, n ++ [q], .inl (n.length, 0) :: r)
def za_inr (l h : Int) : Bool := za_le (-2147483648) l && za_le h 2147483647
def za_add (n : za_N) (x y : za_V) (r : List za_V) : Nat × za_N × List za_V :=
  match za_inr ((za_iv n x).1 + (za_iv n y).1) ((za_iv n x).2 + (za_iv n y).2) with
  | false => za_new n za_top r
  | true => (match x, y with
    | .inl (b, c), .inr (.inl k) => (1, n, .inl (b, c + k) :: r)
    | .inr (.inl k), .inl (b, c) => (1, n, .inl (b, c + k) :: r)
    | .inr (.inl k), .inr (.inl j) => (1, n, .inr (.inl (k + j)) :: r)
    | _, _ => za_new n ((za_iv n x).1 + (za_iv n y).1, (za_iv n x).2 + (za_iv n y).2) r)
def za_sub (n : za_N) (x y : za_V) (r : List za_V) : Nat × za_N × List za_V :=
  match za_inr ((za_iv n x).1 - (za_iv n y).2) ((za_iv n x).2 - (za_iv n y).1) with
  | false => za_new n za_top r
  | true => (match x, y with
    | .inl (b, c), .inr (.inl k) => (1, n, .inl (b, c - k) :: r)
    | .inr (.inl k), .inr (.inl j) => (1, n, .inr (.inl (k - j)) :: r)
    | _, _ => za_new n ((za_iv n x).1 - (za_iv n y).2, (za_iv n x).2 - (za_iv n y).1) r)
def za_mul (n : za_N) (x y : za_V) (r : List za_V) : Nat × za_N × List za_V :=
  match za_le 0 (za_iv n x).1 && za_le 0 (za_iv n y).1 && za_le ((za_iv n x).2 * (za_iv n y).2) 2147483647 with
  | false => za_new n za_top r
  | true => za_new n (0, (za_iv n x).2 * (za_iv n y).2) r
/-- stack alone -/
def za_s (i : Instr) (n : za_N) (st : List za_V) : Option (Nat × za_N × List za_V) :=
  match i, st with
  | .iconst k, st => some (1, n, .inr (.inl (Int32.ofInt k).toInt) :: st)
  | .bipush k, st => some (2, n, .inr (.inl (Int8.ofInt k).toInt32.toInt) :: st)
  | .sipush k, st => some (3, n, .inr (.inl (Int16.ofInt k).toInt32.toInt) :: st)
  | .lconst _, st => some (1, n, .inr (.inr (.inr ())) :: st)
  | .iadd, y :: x :: r => if za_isI y && za_isI x then some (za_add n x y r) else none
  | .isub, y :: x :: r => if za_isI y && za_isI x then some (za_sub n x y r) else none
  | .imul, y :: x :: r => if za_isI y && za_isI x then some (za_mul n x y r) else none
  | .iand, y :: x :: r => if za_isI y && za_isI x then some (za_new n za_top r) else none
  | .idiv, y :: x :: r => if za_isI y && za_isI x && (za_le 1 (za_iv n y).1 || za_le (za_iv n y).2 (-1)) then some (za_new n za_top r) else none
  | .iushr, y :: x :: r => if za_isI y && za_isI x then some (za_new n za_top r) else none
  | .ladd, y :: x :: r => if za_isL y && za_isL x then some (1, n, .inr (.inr (.inr ())) :: r) else none
  | .land, y :: x :: r => if za_isL y && za_isL x then some (1, n, .inr (.inr (.inr ())) :: r) else none
  | .lor, y :: x :: r => if za_isL y && za_isL x then some (1, n, .inr (.inr (.inr ())) :: r) else none
  | .lshl, y :: x :: r => if za_isI y && za_isL x then some (1, n, .inr (.inr (.inr ())) :: r) else none
  | .i2l, x :: r => if za_isI x then some (1, n, .inr (.inr (.inr ())) :: r) else none
  | .l2i, x :: r => if za_isL x then some (za_new n za_top r) else none
  | .lcmp, y :: x :: r => if za_isL y && za_isL x then some (za_new n (-1, 1) r) else none
  | .dup, x :: r => if za_isL x then none else some (1, n, x :: x :: r)
  | .pop, x :: r => if za_isL x then none else some (1, n, r)
  | .pop2, x :: r => if za_isL x then some (1, n, r) else none
  | .dup_x1, x :: y :: r => if za_isL x || za_isL y then none else some (1, n, x :: y :: x :: r)
  | _, _ => none
def za_lk : za_L → Nat → Option za_V
  | [], _ => none
  | q :: r, i => match Nat.beq q.1 i with
    | true => some q.2
    | false => za_lk r i
def za_gi (ls : za_L) (k n : Nat) : Option (Nat × za_V) := match za_lk ls k with
  | some x => if za_isI x then some (n, x) else none
  | _ => none
def za_gl (ls : za_L) (k n : Nat) : Option (Nat × za_V) := match za_lk ls k with
  | some x => if za_isL x then some (n, x) else none
  | _ => none
def za_gr (ls : za_L) (k n : Nat) : Option (Nat × za_V) := match za_lk ls k with
  | some (.inr (.inr (.inl a))) => some (n, .inr (.inr (.inl a)))
  | _ => none
def za_l (i : Instr) (ls : za_L) : Option (Nat × za_V) :=
  match i with
  | .iload_n k => za_gi ls k.val 1
  | .iload k => za_gi ls k 2
  | .lload_n k => za_gl ls k.val 1
  | .lload k => za_gl ls k 2
  | .aload_n k => za_gr ls k.val 1
  | .aload k => za_gr ls k 2
  | _ => none
def za_set1 (ls : za_L) (i : Nat) (v : za_V) : za_L := (i, v) :: ls.filter (fun q => !(Nat.beq q.1 i) && !(Nat.beq (q.1 + 1) i && za_isL q.2))
def za_set2 (ls : za_L) (i : Nat) (v : za_V) : za_L := (i, v) :: ls.filter (fun q => !(Nat.beq q.1 i) && (!(Nat.beq q.1 (i + 1)) && !(Nat.beq (q.1 + 1) i && za_isL q.2)))
def za_st1 (nL k len : Nat) (ls : za_L) (v : za_V) (r : List za_V) : Option (Nat × za_L × List za_V) := if Nat.blt k nL then some (len, za_set1 ls k v, r) else none
def za_st2 (nL k len : Nat) (ls : za_L) (v : za_V) (r : List za_V) : Option (Nat × za_L × List za_V) := if Nat.blt (k + 1) nL then some (len, za_set2 ls k v, r) else none
def za_t (i : Instr) (nL : Nat) (ls : za_L) (st : List za_V) : Option (Nat × za_L × List za_V) :=
  match i, st with
  | .istore_n k, x :: r => if za_isI x then za_st1 nL k.val 1 ls x r else none
  | .istore k, x :: r => if za_isI x then za_st1 nL k 2 ls x r else none
  | .lstore_n k, x :: r => if za_isL x then za_st2 nL k.val 1 ls x r else none
  | .lstore k, x :: r => if za_isL x then za_st2 nL k 2 ls x r else none
  | .astore_n k, .inr (.inr (.inl a)) :: r => za_st1 nL k.val 1 ls (.inr (.inr (.inl a))) r
  | .astore k, .inr (.inr (.inl a)) :: r => za_st1 nL k 2 ls (.inr (.inr (.inl a))) r
  | _, _ => none
/-- iinc, which may want a new base -/
def za_inc (i : Instr) (nL : Nat) (n : za_N) (ls : za_L) : Option (za_N × za_L) :=
  match i with
  | .iinc k c => (match za_lk ls k with
    | some x => if za_isI x && Nat.blt k nL then (match za_add n x (.inr (.inl (Int32.ofInt c).toInt)) [] with
      | (_, n', v :: _) => some (n', za_set1 ls k v)
      | _ => none) else none
    | none => none)
  | _ => none
/-- jumps: where each goes on, with which bases and stack -/
def za_2 (o : Option za_N) (pc : Nat) (r : List za_V) : List (za_N × Nat × List za_V) := match o with
  | some n => [(n, pc, r)]
  | none => []
/-- against 0: what isn't 0 is below or above -/
def za_zs (k : Jvm.ClassFile.Cond) (n : za_N) (x : za_V) (t : Nat) (r : List za_V) : List (za_N × Nat × List za_V) := match k with
  | .ne => za_2 (za_cl n x (.inr (.inl 0)) 1) t r ++ za_2 (za_cl n (.inr (.inl 0)) x 1) t r
  | k => za_2 (za_br k n x (.inr (.inl 0))) t r
def za_tgs (pc : Nat) : List Int → Option (List Nat)
  | [] => some []
  | o :: r => match zx_tg pc o, za_tgs pc r with
    | some t, some l => some (t :: l)
    | _, _ => none
def za_sw (n : za_N) (x : za_V) (r : List za_V) : Int → List Nat → List (za_N × Nat × List za_V)
  | _, [] => []
  | k, t :: l => za_2 (za_ceq n x (.inr (.inl k))) t r ++ za_sw n x r (k + 1) l
def za_ls (n : za_N) (x : za_V) (r : List za_V) : List Int → List Nat → List (za_N × Nat × List za_V)
  | k :: ks, t :: ts => za_2 (za_ceq n x (.inr (.inl k))) t r ++ za_ls n x r ks ts
  | _, _ => []
def za_j (i : Instr) (len pc : Nat) (n : za_N) (st : List za_V) : Option (List (za_N × Nat × List za_V)) :=
  match i, st with
  | .goto off, st => if Nat.beq len 3 then (zx_tg pc off).map (fun t => [(n, t, st)]) else none
  | .ifCond k off, x :: r => if Nat.beq len 3 && za_isI x then (zx_tg pc off).map (fun t => za_zs k n x t r ++ za_zs (za_ng k) n x (pc + 3) r) else none
  | .if_icmp k off, y :: x :: r => if Nat.beq len 3 && (za_isI x && za_isI y) then (zx_tg pc off).map (fun t => za_2 (za_br k n x y) t r ++ za_2 (za_br (za_ng k) n x y) (pc + 3) r) else none
  | .tableswitch dflt lo hi offs, x :: r => if za_isI x && decide (lo + offs.toList.length = hi + 1) && za_inr lo hi && za_le lo hi then (match zx_tg pc dflt, za_tgs pc offs.toList with
    | some d, some l => some (za_2 (za_cl n x (.inr (.inl lo)) 1) d r ++ (za_2 (za_cl n (.inr (.inl hi)) x 1) d r ++ za_sw n x r lo l))
    | _, _ => none) else none
  | .lookupswitch dflt ps, x :: r => if za_isI x && (ps.toList.zip (ps.toList.drop 1)).all (fun q => q.1.1 < q.2.1) then (match zx_tg pc dflt, za_tgs pc (ps.toList.map (fun q => q.2)) with
    | some d, some l => some ((n, d, r) :: za_ls n x r (ps.toList.map (fun q => q.1)) l)
    | _, _ => none) else none
  | _, _ => none
/-- method, depth, arguments, cases (answer; the int arguments' intervals), what it writes -/
abbrev za_K : Type := Nat × Nat × List za_T × List (Option za_T × List (Int × Int)) × List (Nat × Nat)
/-- at a place: locals, stack, fields, measure (number, weights of the bases) -/
abbrev za_Q : Type := List (Nat × za_T) × List za_T × List ((Nat × Nat) × (Int × Int)) × (Int × List Int)
def za_in (w : List (Nat × Nat)) (a k : Nat) : Bool := w.any (fun q => Nat.beq q.1 a && Nat.beq q.2 k)
def za_fk : za_F → Nat → Nat → Option za_V
  | [], _, _ => none
  | q :: r, a, k => match Nat.beq q.1.1 a && Nat.beq q.1.2 k with
    | true => some q.2
    | false => za_fk r a k
def za_fdrop (f : za_F) (w : List (Nat × Nat)) : za_F := f.filter (fun q => !(za_in w q.1.1 q.1.2))
def za_sub2 (q r : Int × Int) : Bool := za_le r.1 q.1 && za_le q.2 r.2
/-- a value is of a kind -/
def za_mt (n : za_N) (t : za_T) (v : za_V) : Bool := match t with
  | .inl q => za_isI v && za_sub2 (za_iv n v) q
  | .inr (.inl _) => za_isL v
  | .inr (.inr a) => (match v with
    | .inr (.inr (.inl b)) => Nat.beq a b
    | _ => false)
section ZAA
variable (P : zx_P) (HT : List za_D)
/-- a field's kind -/
def za_ft (o idx a : Nat) : Option (Nat × za_T) := match zx_pf P o idx with
  | some (ci, k) => (match HT[a]? with
    | some (.inr (cj, fd)) => if Nat.beq cj ci then (fd[k]?).map (fun t => (k, t)) else none
    | _ => none)
  | none => none
def za_fty (t : FieldType) (q : Int × Int) : Bool := match t with
  | .int => true
  | .boolean => za_sub2 q (0, 1)
  | _ => false
def za_pty (o idx : Nat) : Option FieldType := match zx_pf P o idx with
  | some (ci, k) => if (zx_pt P ci k).2 then none else some (zx_pt P ci k).1
  | none => none
/-- fields and arrays: length, bases, stack, facts, whether something was written -/
def za_g (W : List (Nat × Nat)) (o : Nat) (i : Instr) (n : za_N) (st : List za_V) (f : za_F) : Option (Nat × za_N × List za_V × za_F × Bool) :=
  match i, st with
  | .getfield idx, .inr (.inr (.inl a)) :: r => (match za_ft P HT o idx a with
    | some (k, .inl q) => (match za_fk f a k with
      | some v => some (3, n, v :: r, f, false)
      | none => some (3, n ++ [q], .inl (n.length, 0) :: r, ((a, k), .inl (n.length, 0)) :: f, false))
    | some (_, .inr (.inl _)) => some (3, n, .inr (.inr (.inr ())) :: r, f, false)
    | some (_, .inr (.inr b)) => some (3, n, .inr (.inr (.inl b)) :: r, f, false)
    | none => none)
  | .putfield idx, v :: .inr (.inr (.inl a)) :: r => (match za_ft P HT o idx a, za_pty P o idx with
    | some (k, .inl q), some ty => if za_isI v && za_sub2 (za_iv n v) q && za_in W a k && za_fty ty (za_iv n v) then some (3, n, r, ((a, k), v) :: za_fdrop f [(a, k)], true) else none
    | some (k, .inr (.inl _)), some .long => if za_isL v && za_in W a k then some (3, n, r, za_fdrop f [(a, k)], true) else none
    | _, _ => none)
  | .iaload, x :: .inr (.inr (.inl a)) :: r => (match HT[a]? with
    | some (.inl (0, m, lo, hi)) => if za_isI x && za_sub2 (za_iv n x) (0, (m : Int) - 1) then some (1, n ++ [(lo, hi)], .inl (n.length, 0) :: r, f, false) else none
    | none => (match zx_pa P a with
      | some (m, _) => if za_isI x && za_sub2 (za_iv n x) (0, (m : Int) - 1) then some (1, n ++ [za_top], .inl (n.length, 0) :: r, f, false) else none
      | none => none)
    | _ => none)
  | .laload, x :: .inr (.inr (.inl a)) :: r => (match HT[a]? with
    | some (.inl (1, m, _, _)) => if za_isI x && za_sub2 (za_iv n x) (0, (m : Int) - 1) then some (1, n, .inr (.inr (.inr ())) :: r, f, false) else none
    | _ => none)
  | .baload, x :: .inr (.inr (.inl a)) :: r => (match HT[a]? with
    | some (.inl (2, m, lo, hi)) => if za_isI x && za_sub2 (za_iv n x) (0, (m : Int) - 1) then some (1, n ++ [(lo, hi)], .inl (n.length, 0) :: r, f, false) else none
    | _ => none)
  | .iastore, v :: x :: .inr (.inr (.inl a)) :: r => (match HT[a]? with
    | some (.inl (0, m, lo, hi)) => if za_isI x && za_sub2 (za_iv n x) (0, (m : Int) - 1) && za_isI v && za_sub2 (za_iv n v) (lo, hi) && za_in W a 0 then some (1, n, r, f, true) else none
    | _ => none)
  | .lastore, v :: x :: .inr (.inr (.inl a)) :: r => (match HT[a]? with
    | some (.inl (1, m, _, _)) => if za_isI x && za_sub2 (za_iv n x) (0, (m : Int) - 1) && za_isL v && za_in W a 0 then some (1, n, r, f, true) else none
    | _ => none)
  | .bastore, v :: x :: .inr (.inr (.inl a)) :: r => (match HT[a]? with
    | some (.inl (2, m, lo, hi)) => if za_isI x && za_sub2 (za_iv n x) (0, (m : Int) - 1) && za_isI v && za_sub2 (za_iv n v) (0, 1) && za_sub2 (0, 1) (lo, hi) && za_in W a 0 then some (1, n, r, f, true) else none
    | _ => none)
  | .arraylength, .inr (.inr (.inl a)) :: r => (match HT[a]? with
    | some (.inl (t, m, _, _)) => if Nat.blt t 3 then some (1, n, .inr (.inl (Int32.ofNat m).toInt) :: r, f, false) else none
    | none => (match zx_pa P a with
      | some (m, _) => some (1, n, .inr (.inl (Int32.ofNat m).toInt) :: r, f, false)
      | none => none)
    | _ => none)
  | .getstatic idx, st => (zx_ps P o idx).map (fun k => (3, n, .inr (.inr (.inl k)) :: st, f, false))
  | .ldc2_w idx, st => (zx_pl P o idx).map (fun _ => (3, n, .inr (.inr (.inr ())) :: st, f, false))
  | _, _ => none
end ZAA
/-- answers -/
def za_rm (n : za_N) (t : Option za_T) (v : Option za_V) : Bool := match t, v with
  | none, none => true
  | some t, some v => za_mt n t v
  | _, _ => false
/-- the arguments' intervals: by the bases (at a run from the method's start), or as they were told -/
def za_ca (ent : Bool) (n : za_N) : Nat → List za_T → List (Int × Int) → Bool
  | _, [], _ => true
  | b, .inl q :: r, c :: cs => za_sub2 (match ent with
      | true => (match n[b]? with
        | some z => z
        | none => q)
      | false => q) c && za_ca ent n (b + 1) r cs
  | _, .inl _ :: _, [] => false
  | b, _ :: r, cs => za_ca ent n b r cs
def za_ret (ent : Bool) (k : za_K) (n : za_N) (v : Option za_V) : Bool := k.2.2.2.1.any (fun c => za_rm n c.1 v && za_ca ent n 0 k.2.2.1 c.2)
def za_r (i : Instr) (len : Nat) (ret : Option FieldType) (n : za_N) (st : List za_V) : Option (Option za_V) :=
  match i, st, ret with
  | .ireturn, [x], some ty => if Nat.beq len 1 && za_isI x && za_fty ty (za_iv n x) then some (some x) else none
  | .lreturn, [x], some .long => if Nat.beq len 1 && za_isL x then some (some x) else none
  | .return_, [], none => if Nat.beq len 1 then some none else none
  | _, _, _ => none
def za_cat (v : za_V) : Nat := if za_isL v then 2 else 1
def za_cats : List za_V → Nat
  | [] => 0
  | v :: r => za_cat v + za_cats r
def za_mts (n : za_N) : List za_T → List za_V → Bool
  | [], [] => true
  | t :: ts, v :: vs => za_mt n t v && za_mts n ts vs
  | _, _ => false
def za_con (n : za_N) (d cj : Nat) (as : List za_V) : List za_K → Option za_K
  | [] => none
  | k :: r => match Nat.beq k.1 cj && Nat.blt k.2.1 d && za_mts n k.2.2.1 as with
    | true => some k
    | false => za_con n d cj as r
/-- bases under a case's intervals of the arguments; none: that can't be -/
def za_ref (n : za_N) : List za_T → List za_V → List (Int × Int) → Option za_N
  | .inl _ :: ts, v :: vs, c :: cs => (match za_cl n v (.inr (.inl c.2)) 0 with
    | some n1 => (match za_cl n1 (.inr (.inl c.1)) v 0 with
      | some n2 => za_ref n2 ts vs cs
      | none => none)
    | none => none)
  | .inr _ :: ts, _ :: vs, cs => za_ref n ts vs cs
  | _, _, _ => some n
def za_psh (n : za_N) (t : Option za_T) (r : List za_V) : za_N × List za_V := match t with
  | none => (n, r)
  | some (.inl q) => (match decide (q.1 = q.2) with
    | true => (n, .inr (.inl q.1) :: r)
    | false => (n ++ [q], .inl (n.length, 0) :: r))
  | some (.inr (.inl _)) => (n, .inr (.inr (.inr ())) :: r)
  | some (.inr (.inr a)) => (n, .inr (.inr (.inl a)) :: r)
def za_exact : List za_V → Bool
  | [] => true
  | .inr (.inl _) :: r => za_exact r
  | .inr (.inr (.inl _)) :: r => za_exact r
  | _ => false
def za_cf : za_C → Nat → List za_V → Option za_V
  | [], _, _ => none
  | q :: r, cj, as => match Nat.beq q.1 cj && decide (q.2.1 = as) with
    | true => some q.2.2
    | false => za_cf r cj as
/-- what is known of calls behind one -/
def za_cfx (k : za_K) (cj : Nat) (as : List za_V) (t : Option za_T) (st : List za_V) (cf : za_C) : za_C := match k.2.2.2.2 with
  | _ :: _ => []
  | [] => (match za_exact as, t, st with
    | true, some _, v :: _ => (cj, as, v) :: cf
    | _, _, _ => cf)
/-- what stands behind a call, case by case -/
def za_cs (k : za_K) (cj : Nat) (as rest : List za_V) (ls : za_L) (f : za_F) (cf : za_C) (n : za_N) : List (Option za_T × List (Int × Int)) → List za_S
  | [] => []
  | c :: r => (match za_ref n k.2.2.1 as c.2 with
    | none => za_cs k cj as rest ls f cf n r
    | some n1 => ((za_psh n1 c.1 rest).1, ls, (za_psh n1 c.1 rest).2, za_fdrop f k.2.2.2.2, za_cfx k cj as c.1 (za_psh n1 c.1 rest).2 cf) :: za_cs k cj as rest ls f cf n r)
def za_oc (HT : List za_D) (a ci : Nat) : Bool := match HT[a]? with
  | some (.inr (cj, _)) => Nat.beq cj ci
  | _ => false
def za_call (P : zx_P) (HT : List za_D) (KT : List za_K) (W : List (Nat × Nat)) (d o : Nat) (i : Instr) (len : Nat) (s : za_S) : Option (List za_S) :=
  match s with
  | (n, ls, st, f, cf) =>
  (match i with
  | .invokevirtual idx => (match zx_pc P o idx with
    | some cj => (match (zx_pm P)[cj]? with
      | some q => (match zx_mc q, st.drop (zx_mp q) with
        | some ci, .inr (.inr (.inl a)) :: rest =>
          if za_oc HT a ci && Nat.ble 1 d && Nat.beq len 3 && Nat.beq (st.take (zx_mp q)).length (zx_mp q) && Nat.ble (za_cats rest) 8 && Nat.ble (zx_ml q) 21 && Nat.ble (za_cats (.inr (.inr (.inl a)) :: (st.take (zx_mp q)).reverse)) (zx_ml q) then
            (match za_cf cf cj (.inr (.inr (.inl a)) :: (st.take (zx_mp q)).reverse) with
            | some v => some [(n, ls, v :: rest, f, cf)]
            | none => (match za_con n d cj (.inr (.inr (.inl a)) :: (st.take (zx_mp q)).reverse) KT with
              | some k => if k.2.2.2.2.all (fun z => za_in W z.1 z.2) then some (za_cs k cj (.inr (.inr (.inl a)) :: (st.take (zx_mp q)).reverse) rest ls f cf n k.2.2.2.1) else none
              | none => none))
          else none
        | _, _ => none)
      | none => none)
    | none => none)
  | .invokestatic idx => (match zx_pc P o idx with
    | some cj => (match (zx_pm P)[cj]? with
      | some q => (match zx_mc q with
        | none =>
          if !(zx_pn P o idx) && Nat.ble 1 d && Nat.beq len 3 && Nat.beq (st.take (zx_mp q)).length (zx_mp q) && Nat.ble (za_cats (st.drop (zx_mp q))) 8 && Nat.ble (zx_ml q) 21 && Nat.ble (za_cats (st.take (zx_mp q)).reverse) (zx_ml q) then
            (match za_cf cf cj (st.take (zx_mp q)).reverse with
            | some v => some [(n, ls, v :: st.drop (zx_mp q), f, cf)]
            | none => (match za_con n d cj (st.take (zx_mp q)).reverse KT with
              | some k => if k.2.2.2.2.all (fun z => za_in W z.1 z.2) then some (za_cs k cj (st.take (zx_mp q)).reverse (st.drop (zx_mp q)) ls f cf n k.2.2.2.1) else none
              | none => none))
          else none
        | some _ => none)
      | none => none)
    | none => none)
  | _ => none)
/-- Math.min -/
def za_n (P : zx_P) (o : Nat) (i : Instr) (len : Nat) (n : za_N) (st : List za_V) : Option (za_N × List za_V) :=
  match i, st with
  | .invokestatic idx, y :: x :: r => if zx_pn P o idx && Nat.beq len 3 && Nat.ble (za_cats r) 8 && (za_isI x && za_isI y) then some (n ++ [(za_min (za_iv n x).1 (za_iv n y).1, za_min (za_iv n x).2 (za_iv n y).2)], .inl (n.length, 0) :: r) else none
  | _, _ => none
/-- one instruction: where it may go on -/
def za_one (P : zx_P) (HT : List za_D) (KT : List za_K) (q : zx_M) (k : za_K) (ent : Bool) (s : za_S) (pc : Nat) : Option (List (za_S × Nat)) :=
  match s with
  | (n, ls, st, f, cf) =>
  (match zx_at (zx_mi q) pc with
  | none => none
  | some (i, len) =>
    match za_s i n st with
    | some (l, n', st') => if Nat.beq len l then some [((n', ls, st', f, cf), pc + l)] else none
    | none =>
    match za_l i ls with
    | some (l, v) => if Nat.beq len l then some [((n, ls, v :: st, f, cf), pc + l)] else none
    | none =>
    match za_t i (zx_ml q) ls st with
    | some (l, ls', st') => if Nat.beq len l then some [((n, ls', st', f, cf), pc + l)] else none
    | none =>
    match za_inc i (zx_ml q) n ls with
    | some (n', ls') => if Nat.beq len 3 then some [((n', ls', st, f, cf), pc + 3)] else none
    | none =>
    match za_j i len pc n st with
    | some l => some (l.map (fun z => ((z.1, ls, z.2.2, f, cf), z.2.1)))
    | none =>
    match za_g P HT k.2.2.2.2 (zx_mo q) i n st f with
    | some (l, n', st', f', w) => if Nat.beq len l then some [((n', ls, st', f', (match w with
      | true => []
      | false => cf)), pc + l)] else none
    | none =>
    match za_r i len (zx_mr q) n st with
    | some v => if za_ret ent k n v then some [] else none
    | none =>
    match za_n P (zx_mo q) i len n st with
    | some (n', st') => if Nat.ble 1 k.2.1 then some [((n', ls, st', f, cf), pc + 3)] else none
    | none => (za_call P HT KT k.2.2.2.2 k.2.1 (zx_mo q) i len s).map (fun l => l.map (fun z => (z, pc + 3))))
def za_ct : List (Nat × za_Q) → Nat → Option za_Q
  | [], _ => none
  | q :: r, pc => match Nat.beq q.1 pc with
    | true => some q.2
    | false => za_ct r pc
/-- facts that a place wants: where one is not known, the field's own interval -/
def za_need (HT : List za_D) : List ((Nat × Nat) × (Int × Int)) → za_N → za_F → Option (za_N × za_F)
  | [], n, f => some (n, f)
  | z :: r, n, f => match za_fk f z.1.1 z.1.2 with
    | some _ => za_need HT r n f
    | none => (match HT[z.1.1]? with
      | some (.inr (_, fd)) => (match fd[z.1.2]? with
        | some (.inl q) => za_need HT r (n ++ [q]) ((z.1, .inl (n.length, 0)) :: f)
        | _ => none)
      | _ => none)
/-- the ints of a place, in order -/
def za_xl (ls : za_L) : List (Nat × za_T) → List za_V
  | [] => []
  | (i, .inl _) :: r => (match za_lk ls i with
    | some v => v :: za_xl ls r
    | none => .inr (.inl 0) :: za_xl ls r)
  | _ :: r => za_xl ls r
def za_xs : List za_T → List za_V → List za_V
  | .inl _ :: ts, v :: vs => v :: za_xs ts vs
  | _ :: ts, _ :: vs => za_xs ts vs
  | _, _ => []
def za_xf (f : za_F) : List ((Nat × Nat) × (Int × Int)) → List za_V
  | [] => []
  | z :: r => (match za_fk f z.1.1 z.1.2 with
    | some v => v :: za_xf f r
    | none => .inr (.inl 0) :: za_xf f r)
/-- weights of values as a number and terms of bases -/
def za_lin : List Int → List za_V → Int × List (Nat × Int)
  | w :: ws, .inl (b, c) :: vs => (w * c + (za_lin ws vs).1, (b, w) :: (za_lin ws vs).2)
  | w :: ws, .inr (.inl k) :: vs => (w * k + (za_lin ws vs).1, (za_lin ws vs).2)
  | _ :: ws, _ :: vs => za_lin ws vs
  | _, _ => (0, [])
def za_neg : Nat → List Int → List (Nat × Int)
  | _, [] => []
  | b, w :: r => (b, -w) :: za_neg (b + 1) r
def za_co (t : List (Nat × Int)) (b : Nat) : Int := match t with
  | [] => 0
  | q :: r => (match Nat.beq q.1 b with
    | true => q.2 + za_co r b
    | false => za_co r b)
def za_ub (t : List (Nat × Int)) : Nat → za_N → Int
  | _, [] => 0
  | b, q :: r => (match za_le 0 (za_co t b) with
    | true => za_co t b * q.2
    | false => za_co t b * q.1) + za_ub t (b + 1) r
def za_lok (n : za_N) (ls : za_L) (l : List (Nat × za_T)) : Bool := l.all (fun z => match za_lk ls z.1 with
  | some v => za_mt n z.2 v
  | none => false)
def za_fok (n : za_N) (f : za_F) (l : List ((Nat × Nat) × (Int × Int))) : Bool := l.all (fun z => match za_fk f z.1.1 z.1.2 with
  | some v => za_isI v && za_sub2 (za_iv n v) z.2
  | none => false)
/-- a run comes to a place: kinds, measure -/
def za_arr (HT : List za_D) (ent : Bool) (mu : Int × List Int) (s : za_S) (c : za_Q) : Bool :=
  match s with
  | (n0, ls, st, f0, _) => (match za_need HT c.2.2.1 n0 f0 with
    | none => false
    | some (n, f) => za_lok n ls c.1 && za_mts n c.2.1 st && za_fok n f c.2.2.1 && (match ent with
      | true => true
      | false => za_le (c.2.2.2.1 + (za_lin c.2.2.2.2 (za_xl ls c.1 ++ (za_xs c.2.1 st ++ za_xf f c.2.2.1))).1 - mu.1 + za_ub ((za_lin c.2.2.2.2 (za_xl ls c.1 ++ (za_xs c.2.1 st ++ za_xf f c.2.2.1))).2 ++ za_neg 0 mu.2) 0 n) (-1)))
def za_ck (P : zx_P) (HT : List za_D) (KT : List za_K) (q : zx_M) (k : za_K) (CT : List (Nat × za_Q)) (ent : Bool) (mu : Int × List Int) : Nat → Bool → za_S → Nat → Bool
  | 0, _, _, _ => false
  | g + 1, b, s, pc => match (match b with
      | true => za_ct CT pc
      | false => none) with
    | some c => za_arr HT ent mu s c
    | none => (match za_one P HT KT q k ent s pc with
      | none => false
      | some l => l.all (fun z => za_ck P HT KT q k CT ent mu g true z.1 z.2))
/-- bases and values of kinds -/
def za_ini : List za_T → za_N → za_N × List za_V
  | [], n => (n, [])
  | .inl q :: r, n => ((za_ini r (n ++ [q])).1, .inl (n.length, 0) :: (za_ini r (n ++ [q])).2)
  | .inr (.inl _) :: r, n => ((za_ini r n).1, .inr (.inr (.inr ())) :: (za_ini r n).2)
  | .inr (.inr a) :: r, n => ((za_ini r n).1, .inr (.inr (.inl a)) :: (za_ini r n).2)
/-- numbers of the locals that hold arguments -/
def za_args : Nat → List za_V → za_L
  | _, [] => []
  | i, v :: vs => (i, v) :: za_args (if za_isL v then i + 2 else i + 1) vs
def za_start (c : za_Q) : za_S :=
  match za_ini (c.1.map (fun z => z.2) ++ (c.2.1 ++ c.2.2.1.map (fun z => .inl z.2))) [] with
  | (n, vs) => (n, (c.1.map (fun z => z.1)).zip (vs.take c.1.length), (vs.drop c.1.length).take c.2.1.length, (c.2.2.1.map (fun z => z.1)).zip (vs.drop (c.1.length + c.2.1.length)), [])
/-- the least that a measure can be -/
def za_mlo : List Int → za_N → Int
  | w :: ws, q :: n => (match za_le 0 w with
    | true => w * q.1
    | false => w * q.2) + za_mlo ws n
  | _, _ => 0
/-- a contract is kept: from the start, and from each place -/
def za_okK (P : zx_P) (HT : List za_D) (KT : List za_K) (k : za_K) (CT : List (Nat × za_Q)) (g : Nat) : Bool :=
  match (zx_pm P)[k.1]? with
  | none => false
  | some q => (match za_ini k.2.2.1 [] with
    | (n, vs) => za_ck P HT KT q k CT true (0, []) g true (n, za_args 0 vs, [], [], []) 0) &&
    CT.all (fun c => za_ck P HT KT q k CT false c.2.2.2.2 g false (za_start c.2) c.1 && Nat.ble c.2.2.2.2.2.length (za_start c.2).1.length && za_le 0 (c.2.2.2.2.1 + za_mlo c.2.2.2.2.2 (za_start c.2).1))
