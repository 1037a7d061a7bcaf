/-! ===== 09: an abstract interpreter: ints lie in intervals (a value is a base and an offset, or known), references are known cells; what a heap keeps is told by descriptors of its cells; methods by contracts ===== -/
/-- base and offset; a known int; a cell; a long -/
abbrev za_V : Type := (Nat × Int) ⊕ (Int ⊕ (Nat ⊕ Unit))
abbrev za_N : Type := List (Int × Int)
/-- what a place may hold: an int of an interval; a long; the cell -/
abbrev za_T : Type := (Int × Int) ⊕ (Unit ⊕ Nat)
/-- a cell: array (kind, length, elements' interval), object (class, fields) -/
abbrev za_D : Type := (Nat × Nat × Int × Int) ⊕ (Nat × List za_T)
abbrev za_L : Type := List (Nat × za_V)
abbrev za_F : Type := List ((Nat × Nat) × za_V)
abbrev za_C : Type := List (Nat × List za_V × za_V)
/-- bases' intervals, locals, stack, what fields hold now, what pure calls have answered -/
abbrev za_S : Type := za_N × za_L × List za_V × za_F × za_C
def za_top : Int × Int := (-2147483648, 2147483647)
def za_le (a b : Int) : Bool := match b - a with
  | .ofNat _ => true
  | .negSucc _ => false
theorem za_le_iff {a b : Int} : za_le a b = true ↔ a ≤ b := by
  unfold za_le
  split
  · next k e => simp; omega
  · next k e => simp; omega
def za_min (a b : Int) : Int := match za_le a b with
  | true => a
  | false => b
def za_max (a b : Int) : Int := match za_le a b with
  | true => b
  | false => a
def za_iv (n : za_N) (a : za_V) : Int × Int := match a with
  | .inl (b, c) => (match n[b]? with
    | some q => (q.1 + c, q.2 + c)
    | none => za_top)
  | .inr (.inl k) => (k, k)
  | _ => za_top
def za_hi (n : za_N) (a : za_V) (m : Int) : za_N := match a with
  | .inl (b, c) => (match n[b]? with
    | some q => n.set b (q.1, za_min q.2 (m - c))
    | none => n)
  | _ => n
def za_lo (n : za_N) (a : za_V) (m : Int) : za_N := match a with
  | .inl (b, c) => (match n[b]? with
    | some q => n.set b (za_max q.1 (m - c), q.2)
    | none => n)
  | _ => n
def za_isI : za_V → Bool
  | .inl _ => true
  | .inr (.inl _) => true
  | _ => false
def za_isL : za_V → Bool
  | .inr (.inr (.inr _)) => true
  | _ => false
/-- bases under x + d ≤ y, none: that can't be -/
def za_cl (n : za_N) (x y : za_V) (d : Int) : Option za_N :=
  match za_le ((za_iv n x).1 + d) (za_iv n y).2 with
  | true => some (za_lo (za_hi n x ((za_iv n y).2 - d)) y ((za_iv n x).1 + d))
  | false => none
def za_ceq (n : za_N) (x y : za_V) : Option za_N := match za_cl n x y 0 with
  | some n1 => za_cl n1 y x 0
  | none => none
def za_cne (n : za_N) (x y : za_V) : Option za_N :=
  match y with
  | .inr (.inl k) => (match decide ((za_iv n x).1 = k) with
    | true => za_cl n (.inr (.inl k)) x 1
    | false => (match decide ((za_iv n x).2 = k) with
      | true => za_cl n x (.inr (.inl k)) 1
      | false => some n))
  | _ => some n
def za_br (k : Jvm.ClassFile.Cond) (n : za_N) (x y : za_V) : Option za_N := match k with
  | .eq => za_ceq n x y
  | .ne => za_cne n x y
  | .lt => za_cl n x y 1
  | .ge => za_cl n y x 0
  | .gt => za_cl n y x 1
  | .le => za_cl n x y 0
def za_ng (k : Jvm.ClassFile.Cond) : Jvm.ClassFile.Cond := match k with
  | .eq => .ne
  | .ne => .eq
  | .lt => .ge
  | .ge => .lt
  | .gt => .le
  | .le => .gt
/-- a new base -/
def za_new (n : za_N) (q : Int × Int) (r : List za_V) : Nat × za_N × List za_V := (1, n ++ [q], .inl (n.length, 0) :: r)
def za_inr (l h : Int) : Bool := za_le (-2147483648) l && za_le h 2147483647
def za_add (n : za_N) (x y : za_V) (r : List za_V) : Nat × za_N × List za_V :=
  match za_inr ((za_iv n x).1 + (za_iv n y).1) ((za_iv n x).2 + (za_iv n y).2) with
  | false => za_new n za_top r
  | true => (match x, y with
    | .inl (b, c), .inr (.inl k) => (1, n, .inl (b, c + k) :: r)
    | .inr (.inl k), .inl (b, c) => (1, n, .inl (b, c + k) :: r)
    | .inr (.inl k), .inr (.inl j) => (1, n, .inr (.inl (k + j)) :: r)
    | _, _ => za_new n ((za_iv n x).1 + (za_iv n y).1, (za_iv n x).2 + (za_iv n y).2) r)
def za_sub (n : za_N) (x y : za_V) (r : List za_V) : Nat × za_N × List za_V :=
  match za_inr ((za_iv n x).1 - (za_iv n y).2) ((za_iv n x).2 - (za_iv n y).1) with
  | false => za_new n za_top r
  | true => (match x, y with
    | .inl (b, c), .inr (.inl k) => (1, n, .inl (b, c - k) :: r)
    | .inr (.inl k), .inr (.inl j) => (1, n, .inr (.inl (k - j)) :: r)
    | _, _ => za_new n ((za_iv n x).1 - (za_iv n y).2, (za_iv n x).2 - (za_iv n y).1) r)
def za_mul (n : za_N) (x y : za_V) (r : List za_V) : Nat × za_N × List za_V :=
  match za_le 0 (za_iv n x).1 && za_le 0 (za_iv n y).1 && za_le ((za_iv n x).2 * (za_iv n y).2) 2147483647 with
  | false => za_new n za_top r
  | true => za_new n (0, (za_iv n x).2 * (za_iv n y).2) r
/-- stack alone -/
def za_s (i : Instr) (n : za_N) (st : List za_V) : Option (Nat × za_N × List za_V) :=
  match i, st with
  | .iconst k, st => some (1, n, .inr (.inl (Int32.ofInt k).toInt) :: st)
  | .bipush k, st => some (2, n, .inr (.inl (Int8.ofInt k).toInt32.toInt) :: st)
  | .sipush k, st => some (3, n, .inr (.inl (Int16.ofInt k).toInt32.toInt) :: st)
  | .lconst _, st => some (1, n, .inr (.inr (.inr ())) :: st)
  | .iadd, y :: x :: r => if za_isI y && za_isI x then some (za_add n x y r) else none
  | .isub, y :: x :: r => if za_isI y && za_isI x then some (za_sub n x y r) else none
  | .imul, y :: x :: r => if za_isI y && za_isI x then some (za_mul n x y r) else none
  | .iand, y :: x :: r => if za_isI y && za_isI x then some (za_new n za_top r) else none
  | .idiv, y :: x :: r => if za_isI y && za_isI x && (za_le 1 (za_iv n y).1 || za_le (za_iv n y).2 (-1)) then some (za_new n za_top r) else none
  | .iushr, y :: x :: r => if za_isI y && za_isI x then some (za_new n za_top r) else none
  | .ladd, y :: x :: r => if za_isL y && za_isL x then some (1, n, .inr (.inr (.inr ())) :: r) else none
  | .land, y :: x :: r => if za_isL y && za_isL x then some (1, n, .inr (.inr (.inr ())) :: r) else none
  | .lor, y :: x :: r => if za_isL y && za_isL x then some (1, n, .inr (.inr (.inr ())) :: r) else none
  | .lshl, y :: x :: r => if za_isI y && za_isL x then some (1, n, .inr (.inr (.inr ())) :: r) else none
  | .i2l, x :: r => if za_isI x then some (1, n, .inr (.inr (.inr ())) :: r) else none
  | .l2i, x :: r => if za_isL x then some (za_new n za_top r) else none
  | .lcmp, y :: x :: r => if za_isL y && za_isL x then some (za_new n (-1, 1) r) else none
  | .dup, x :: r => if za_isL x then none else some (1, n, x :: x :: r)
  | .pop, x :: r => if za_isL x then none else some (1, n, r)
  | .pop2, x :: r => if za_isL x then some (1, n, r) else none
  | .dup_x1, x :: y :: r => if za_isL x || za_isL y then none else some (1, n, x :: y :: x :: r)
  | _, _ => none
def za_lk : za_L → Nat → Option za_V
  | [], _ => none
  | q :: r, i => match Nat.beq q.1 i with
    | true => some q.2
    | false => za_lk r i
def za_gi (ls : za_L) (k n : Nat) : Option (Nat × za_V) := match za_lk ls k with
  | some x => if za_isI x then some (n, x) else none
  | _ => none
def za_gl (ls : za_L) (k n : Nat) : Option (Nat × za_V) := match za_lk ls k with
  | some x => if za_isL x then some (n, x) else none
  | _ => none
def za_gr (ls : za_L) (k n : Nat) : Option (Nat × za_V) := match za_lk ls k with
  | some (.inr (.inr (.inl a))) => some (n, .inr (.inr (.inl a)))
  | _ => none
def za_l (i : Instr) (ls : za_L) : Option (Nat × za_V) :=
  match i with
  | .iload_n k => za_gi ls k.val 1
  | .iload k => za_gi ls k 2
  | .lload_n k => za_gl ls k.val 1
  | .lload k => za_gl ls k 2
  | .aload_n k => za_gr ls k.val 1
  | .aload k => za_gr ls k 2
  | _ => none
def za_set1 (ls : za_L) (i : Nat) (v : za_V) : za_L := (i, v) :: ls.filter (fun q => !(Nat.beq q.1 i) && !(Nat.beq (q.1 + 1) i && za_isL q.2))
def za_set2 (ls : za_L) (i : Nat) (v : za_V) : za_L := (i, v) :: ls.filter (fun q => !(Nat.beq q.1 i) && (!(Nat.beq q.1 (i + 1)) && !(Nat.beq (q.1 + 1) i && za_isL q.2)))
def za_st1 (nL k len : Nat) (ls : za_L) (v : za_V) (r : List za_V) : Option (Nat × za_L × List za_V) := if Nat.blt k nL then some (len, za_set1 ls k v, r) else none
def za_st2 (nL k len : Nat) (ls : za_L) (v : za_V) (r : List za_V) : Option (Nat × za_L × List za_V) := if Nat.blt (k + 1) nL then some (len, za_set2 ls k v, r) else none
def za_t (i : Instr) (nL : Nat) (ls : za_L) (st : List za_V) : Option (Nat × za_L × List za_V) :=
  match i, st with
  | .istore_n k, x :: r => if za_isI x then za_st1 nL k.val 1 ls x r else none
  | .istore k, x :: r => if za_isI x then za_st1 nL k 2 ls x r else none
  | .lstore_n k, x :: r => if za_isL x then za_st2 nL k.val 1 ls x r else none
  | .lstore k, x :: r => if za_isL x then za_st2 nL k 2 ls x r else none
  | .astore_n k, .inr (.inr (.inl a)) :: r => za_st1 nL k.val 1 ls (.inr (.inr (.inl a))) r
  | .astore k, .inr (.inr (.inl a)) :: r => za_st1 nL k 2 ls (.inr (.inr (.inl a))) r
  | _, _ => none
/-- iinc, which may want a new base -/
def za_inc (i : Instr) (nL : Nat) (n : za_N) (ls : za_L) : Option (za_N × za_L) :=
  match i with
  | .iinc k c => (match za_lk ls k with
    | some x => if za_isI x && Nat.blt k nL then (match za_add n x (.inr (.inl (Int32.ofInt c).toInt)) [] with
      | (_, n', v :: _) => some (n', za_set1 ls k v)
      | _ => none) else none
    | none => none)
  | _ => none
/-- jumps: where each goes on, with which bases and stack -/
def za_2 (o : Option za_N) (pc : Nat) (r : List za_V) : List (za_N × Nat × List za_V) := match o with
  | some n => [(n, pc, r)]
  | none => []
def za_tgs (pc : Nat) : List Int → Option (List Nat)
  | [] => some []
  | o :: r => match zx_tg pc o, za_tgs pc r with
    | some t, some l => some (t :: l)
    | _, _ => none
def za_sw (n : za_N) (x : za_V) (r : List za_V) : Int → List Nat → List (za_N × Nat × List za_V)
  | _, [] => []
  | k, t :: l => za_2 (za_ceq n x (.inr (.inl k))) t r ++ za_sw n x r (k + 1) l
def za_j (i : Instr) (len pc : Nat) (n : za_N) (st : List za_V) : Option (List (za_N × Nat × List za_V)) :=
  match i, st with
  | .goto off, st => if Nat.beq len 3 then (zx_tg pc off).map (fun t => [(n, t, st)]) else none
  | .ifCond k off, x :: r => if Nat.beq len 3 && za_isI x then (zx_tg pc off).map (fun t => za_2 (za_br k n x (.inr (.inl 0))) t r ++ za_2 (za_br (za_ng k) n x (.inr (.inl 0))) (pc + 3) r) else none
  | .if_icmp k off, y :: x :: r => if Nat.beq len 3 && (za_isI x && za_isI y) then (zx_tg pc off).map (fun t => za_2 (za_br k n x y) t r ++ za_2 (za_br (za_ng k) n x y) (pc + 3) r) else none
  | .tableswitch dflt lo hi offs, x :: r => if za_isI x && decide (lo + offs.toList.length = hi + 1) then (match zx_tg pc dflt, za_tgs pc offs.toList with
    | some d, some l => some (za_2 (za_cl n x (.inr (.inl lo)) 1) d r ++ (za_2 (za_cl n (.inr (.inl hi)) x 1) d r ++ za_sw n x r lo l))
    | _, _ => none) else none
  | _, _ => none
