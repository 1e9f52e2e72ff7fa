/-! AN INTERPRETER of the instructions that these classes use, over a heap of places: what a method does, as a function. Its soundness over the machine is the next part. -/
abbrev Ob : Type := (Nat × (Nat → Int32)) ⊕ (Nat × List Value)
abbrev Hp : Type := List Ob
abbrev Ls : Type := List (Option Value)
abbrev Lq : Type := List (Nat × Int64)
abbrev Cf : Type := Nat × Nat × Ls × Lq × List Value × Hp × Nat × Nat
abbrev Ot : Type := Option Value × Hp
abbrev Ef : Type := Option (Cf ⊕ (Cf × Cf))
def nxt (c : Cf) : Ef := some (.inl c)
def hg (h : Hp) (a : Nat) : Option Ob := if SCR ≤ a then none else h[a]?
def ldI (ls : Ls) (n : Nat) (f : Int32 → Ef) : Ef := match ls[n]? with
  | some (some (.int x)) => f x
  | _ => none
def ldR (ls : Ls) (n : Nat) (f : Nat → Ef) : Ef := match ls[n]? with
  | some (some (.ref x)) => f x
  | _ => none
def ldL (lq : Lq) (n : Nat) (f : Int64 → Ef) : Ef := match lq.find? (fun q => q.1 == n) with
  | some q => f q.2
  | none => none
def popI (st : List Value) (f : Int32 → List Value → Ef) : Ef := match st with
  | .int x :: r => f x r
  | _ => none
def popII (st : List Value) (f : Int32 → Int32 → List Value → Ef) : Ef := match st with
  | .int y :: .int x :: r => f x y r
  | _ => none
def popL (st : List Value) (f : Int64 → List Value → Ef) : Ef := match st with
  | .long x :: r => f x r
  | _ => none
def popLL (st : List Value) (f : Int64 → Int64 → List Value → Ef) : Ef := match st with
  | .long y :: .long x :: r => f x y r
  | _ => none
def popR (st : List Value) (f : Nat → List Value → Ef) : Ef := match st with
  | .ref x :: r => f x r
  | _ => none
def popV (st : List Value) (f : Value → List Value → Ef) : Ef := match st with
  | .int x :: r => f (.int x) r
  | .ref x :: r => f (.ref x) r
  | _ => none
def popP (st : List Value) (f : Value → List Value → Ef) : Ef := match st with
  | .int x :: r => f (.int x) r
  | .ref x :: r => f (.ref x) r
  | .long x :: r => f (.long x) r
  | _ => none
def stor (ls : Ls) (lq : Lq) (n : Nat) (v : Value) (f : Ls → Lq → Ef) : Ef :=
  if n < ls.length then f (ls.set n (some v)) (lq.filter (fun q => !(q.1 == n) && !(q.1 + 1 == n))) else none
def storL (ls : Ls) (lq : Lq) (n : Nat) (x : Int64) (f : Ls → Lq → Ef) : Ef :=
  if n + 1 < ls.length then f ((ls.set n none).set (n + 1) none) ((n, x) :: lq.filter (fun q => !(q.1 == n) && (!(q.1 == n + 1) && !(q.1 + 1 == n)))) else none
def jmp (pc : Nat) (o : Option Int) (f : Nat → Ef) : Ef := match o with
  | some off => if 0 ≤ (pc : Int) + off then f ((pc : Int) + off).toNat else none
  | none => none
def isN (f g : Ef) (c : ClassFile.Cond) (x y : Int32) : Ef := match c with
  | .eq => if x = y then f else g
  | .ne => if x = y then g else f
  | .lt => if x < y then f else g
  | .ge => if y ≤ x then f else g
  | .gt => if y < x then f else g
  | .le => if x ≤ y then f else g
def fldOk (ty : FieldType) (v : Value) : Bool := match ty, v with
  | .int, .int _ => true
  | .boolean, .int x => x == 0 || x == 1
  | .long, .long _ => true
  | .object _, .ref _ => true
  | .array _, .ref _ => true
  | _, _ => false
def retOk (t : Option FieldType) (x : Int32) : Bool := match t with
  | some .int => true
  | some .boolean => x == 0 || x == 1
  | some .byte => x == 0
  | _ => false
def csum (st : List Value) : Nat := (st.map fun v => v.category).sum
def mkLs (vs : List Value) : Ls := vs.flatMap fun v => if v.category = 2 then [none, none] else [some v]
def mkLq : Nat → List Value → Lq
  | _, [] => []
  | i, v :: vs => (match v with
    | .long x => [(i, x)]
    | _ => []) ++ mkLq (if v.category = 2 then i + 2 else i + 1) vs
def padL (l : Ls) (n : Nat) : Ls := l ++ List.replicate (n - l.length) none
def rcv (h : Hp) (ci : Nat) (st : List Value) : Bool := match st with
  | .ref p :: _ => if p = STRR then ci == 11 else (match hg h p with
    | some (.inr (c, _)) => c == ci
    | _ => false)
  | _ => false
def start (h : Hp) (b : Nat) (vs : List Value) : Cf := (b, 0, padL (mkLs vs) (NL b), mkLq 0 vs, [], h, MC b, MS b)
def call (recv : Bool) (k pc : Nat) (ls : Ls) (lq : Lq) (st : List Value) (h : Hp) (cb sb b n : Nat) : Ef :=
  let m := if recv then n + 1 else n
  if m ≤ st.length ∧ csum (st.drop m) ≤ 8 ∧ csum (st.take m) ≤ NL b ∧ MC b ≤ cb ∧ MS b ≤ sb ∧ (recv = true → rcv h (CK b) (st.drop n) = true) then
    some (.inr (start h b (st.take m).reverse, (k, pc + 3, ls, lq, st.drop m, h, cb - MC b, sb - MS b)))
  else none
def resume (c : Cf) (o : Ot) : Cf := match c with
  | (k, pc, ls, lq, st, _, cb, sb) => (k, pc, ls, lq, o.1.toList ++ st, o.2, cb, sb)
def effN (sc : Nat × (Nat → Int32)) (c : Cf) : Ef := match c with
  | (k, pc, ls, lq, st, h, cb, sb) => match fetch k pc with
    | none => none
    | some (_, i, _, a, b, _, z) => match i with
      | .iconst n => nxt (k, pc + 1, ls, lq, .int (Int32.ofInt n) :: st, h, cb, sb)
      | .bipush n => nxt (k, pc + 2, ls, lq, .int (Int8.ofInt n).toInt32 :: st, h, cb, sb)
      | .sipush n => nxt (k, pc + 3, ls, lq, .int (Int16.ofInt n).toInt32 :: st, h, cb, sb)
      | .lconst n => nxt (k, pc + 1, ls, lq, .long (Int64.ofNat (n : Nat)) :: st, h, cb, sb)
      | .ldc _ => if a = 7 then nxt (k, pc + 2, ls, lq, .ref STRR :: st, h, cb, sb) else nxt (k, pc + 2, ls, lq, .int (Int32.ofInt z) :: st, h, cb, sb)
      | .getstatic _ => nxt (k, pc + 3, ls, lq, .int 1 :: st, h, cb, sb)
      | .baload => popI st (fun j s1 => popR s1 (fun p r => if p = BYTR ∧ ¬ (j < 0 ∨ 7 ≤ j.toNatClampNeg) then nxt (k, pc + 1, ls, lq, .int (BYTES.getD j.toNatClampNeg 0) :: r, h, cb, sb) else none))
      | .i2b => popI st (fun x r => nxt (k, pc + 1, ls, lq, .int x.toInt8.toInt32 :: r, h, cb, sb))
      | .i2c => popI st (fun x r => nxt (k, pc + 1, ls, lq, .int (x.toUInt32 % 65536).toInt32 :: r, h, cb, sb))
      | .ldc_w _ => nxt (k, pc + 3, ls, lq, .int (Int32.ofInt z) :: st, h, cb, sb)
      | .ldc2_w _ => nxt (k, pc + 3, ls, lq, .long (Int64.ofInt z) :: st, h, cb, sb)
      | .iload n => ldI ls n (fun x => nxt (k, pc + 2, ls, lq, .int x :: st, h, cb, sb))
      | .iload_n n => ldI ls (n : Nat) (fun x => nxt (k, pc + 1, ls, lq, .int x :: st, h, cb, sb))
      | .aload n => ldR ls n (fun x => nxt (k, pc + 2, ls, lq, .ref x :: st, h, cb, sb))
      | .aload_n n => ldR ls (n : Nat) (fun x => nxt (k, pc + 1, ls, lq, .ref x :: st, h, cb, sb))
      | .lload n => ldL lq n (fun x => nxt (k, pc + 2, ls, lq, .long x :: st, h, cb, sb))
      | .lload_n n => ldL lq (n : Nat) (fun x => nxt (k, pc + 1, ls, lq, .long x :: st, h, cb, sb))
      | .istore n => popI st (fun x r => stor ls lq n (.int x) (fun ls' lq' => nxt (k, pc + 2, ls', lq', r, h, cb, sb)))
      | .istore_n n => popI st (fun x r => stor ls lq (n : Nat) (.int x) (fun ls' lq' => nxt (k, pc + 1, ls', lq', r, h, cb, sb)))
      | .astore n => popR st (fun x r => stor ls lq n (.ref x) (fun ls' lq' => nxt (k, pc + 2, ls', lq', r, h, cb, sb)))
      | .astore_n n => popR st (fun x r => stor ls lq (n : Nat) (.ref x) (fun ls' lq' => nxt (k, pc + 1, ls', lq', r, h, cb, sb)))
      | .lstore n => popL st (fun x r => storL ls lq n x (fun ls' lq' => nxt (k, pc + 2, ls', lq', r, h, cb, sb)))
      | .lstore_n n => popL st (fun x r => storL ls lq (n : Nat) x (fun ls' lq' => nxt (k, pc + 1, ls', lq', r, h, cb, sb)))
      | .iinc n d => ldI ls n (fun x => stor ls lq n (.int (x + Int32.ofInt d)) (fun ls' lq' => nxt (k, pc + 3, ls', lq', st, h, cb, sb)))
      | .iadd => popII st (fun x y r => nxt (k, pc + 1, ls, lq, .int (x + y) :: r, h, cb, sb))
      | .isub => popII st (fun x y r => nxt (k, pc + 1, ls, lq, .int (x - y) :: r, h, cb, sb))
      | .imul => popII st (fun x y r => nxt (k, pc + 1, ls, lq, .int (x * y) :: r, h, cb, sb))
      | .iand => popII st (fun x y r => nxt (k, pc + 1, ls, lq, .int (x &&& y) :: r, h, cb, sb))
      | .ior => popII st (fun x y r => nxt (k, pc + 1, ls, lq, .int (x ||| y) :: r, h, cb, sb))
      | .ixor => popII st (fun x y r => nxt (k, pc + 1, ls, lq, .int (x ^^^ y) :: r, h, cb, sb))
      | .idiv => popII st (fun x y r => if y = 0 then none else nxt (k, pc + 1, ls, lq, .int (x / y) :: r, h, cb, sb))
      | .irem => popII st (fun x y r => if y = 0 then none else nxt (k, pc + 1, ls, lq, .int (x - x / y * y) :: r, h, cb, sb))
      | .ishl => popII st (fun x y r => nxt (k, pc + 1, ls, lq, .int (x <<< (y &&& 31)) :: r, h, cb, sb))
      | .ishr => popII st (fun x y r => nxt (k, pc + 1, ls, lq, .int (x >>> (y &&& 31)) :: r, h, cb, sb))
      | .iushr => popII st (fun x y r => nxt (k, pc + 1, ls, lq, .int (x.toUInt32 >>> (y.toUInt32 &&& Int32.toUInt32 31)).toInt32 :: r, h, cb, sb))
      | .i2l => popI st (fun x r => nxt (k, pc + 1, ls, lq, .long x.toInt64 :: r, h, cb, sb))
      | .l2i => popL st (fun x r => nxt (k, pc + 1, ls, lq, .int x.toInt32 :: r, h, cb, sb))
      | .ladd => popLL st (fun x y r => nxt (k, pc + 1, ls, lq, .long (x + y) :: r, h, cb, sb))
      | .lmul => popLL st (fun x y r => nxt (k, pc + 1, ls, lq, .long (x * y) :: r, h, cb, sb))
      | .land => popLL st (fun x y r => nxt (k, pc + 1, ls, lq, .long (x &&& y) :: r, h, cb, sb))
      | .lcmp => popLL st (fun x y r => nxt (k, pc + 1, ls, lq, .int (lg_cmp x y) :: r, h, cb, sb))
      | .dup => popV st (fun v r => nxt (k, pc + 1, ls, lq, v :: v :: r, h, cb, sb))
      | .dup2 => popV st (fun v r => popV r (fun w r' => nxt (k, pc + 1, ls, lq, v :: w :: v :: w :: r', h, cb, sb)))
      | .ifCond cn _ => popI st (fun x r => isN (nxt (k, a, ls, lq, r, h, cb, sb)) (nxt (k, pc + 3, ls, lq, r, h, cb, sb)) cn x 0)
      | .if_icmp cn _ => popII st (fun x y r => isN (nxt (k, a, ls, lq, r, h, cb, sb)) (nxt (k, pc + 3, ls, lq, r, h, cb, sb)) cn x y)
      | .goto _ => nxt (k, a, ls, lq, st, h, cb, sb)
      | .tableswitch d lo hi offs => popI st (fun x r => jmp pc (if x.toInt < lo ∨ hi < x.toInt then some d else offs[(x.toInt - lo).toNat]?) (fun t => nxt (k, t, ls, lq, r, h, cb, sb)))
      | .lookupswitch d ps => popI st (fun x r => jmp pc (some (Op.lookupswitch.offset ps.toList d x.toInt)) (fun t => nxt (k, t, ls, lq, r, h, cb, sb)))
      | .getfield _ => popR st (fun p r => if a = 20 then (if p = STRR then nxt (k, pc + 3, ls, lq, (if b = 0 then .int 0 else .ref BYTR) :: r, h, cb, sb) else none) else match hg h p with
        | some (.inr (ci, fs)) => if ci = a then (match fs[b]? with
          | some v => nxt (k, pc + 3, ls, lq, v :: r, h, cb, sb)
          | none => none) else none
        | _ => none)
      | .putfield _ => popP st (fun v s1 => popR s1 (fun p r => match hg h p with
        | some (.inr (ci, fs)) => if ci = a ∧ b < fs.length ∧ fldOk (TYF a b) v = true then nxt (k, pc + 3, ls, lq, r, h.set p (.inr (ci, fs.set b v)), cb, sb) else none
        | _ => none))
      | .iaload => popI st (fun j s1 => popR s1 (fun p r => if p = SCR then (if k = LAWM ∧ ¬ (j < 0 ∨ sc.1 ≤ j.toNatClampNeg) then nxt (k, pc + 1, ls, lq, .int (sc.2 j.toNatClampNeg) :: r, h, cb, sb) else none) else match hg h p with
        | some (.inl (n, f)) => if ¬ (j < 0 ∨ n ≤ j.toNatClampNeg) then nxt (k, pc + 1, ls, lq, .int (f j.toNatClampNeg) :: r, h, cb, sb) else none
        | _ => none))
      | .iastore => popII st (fun j x s1 => popR s1 (fun p r => match hg h p with
        | some (.inl (n, f)) => if ¬ (j < 0 ∨ n ≤ j.toNatClampNeg) then nxt (k, pc + 1, ls, lq, r, h.set p (.inl (n, upd f j.toNatClampNeg x)), cb, sb) else none
        | _ => none))
      | .arraylength => popR st (fun p r => if p = BYTR then nxt (k, pc + 1, ls, lq, .int 7 :: r, h, cb, sb) else if p = SCR then (if k = LAWM then nxt (k, pc + 1, ls, lq, .int (Int32.ofNat sc.1) :: r, h, cb, sb) else none) else match hg h p with
        | some (.inl (n, _)) => nxt (k, pc + 1, ls, lq, .int (Int32.ofNat n) :: r, h, cb, sb)
        | _ => none)
      | .new _ => if 1 ≤ cb ∧ NF a ≤ sb ∧ h.length < SCR then nxt (k, pc + 3, ls, lq, .ref h.length :: st, h ++ [.inr (a, (List.range (NF a)).map (fun j => defaultValue (TYF a j)))], cb - 1, sb - NF a) else none
      | .newarray _ => popI st (fun n r => if ¬ n < 0 ∧ n.toNatClampNeg ≤ 100 ∧ 1 ≤ cb ∧ n.toNatClampNeg ≤ sb ∧ h.length < SCR then nxt (k, pc + 2, ls, lq, .ref h.length :: r, h ++ [.inl (n.toNatClampNeg, fun _ => 0)], cb - 1, sb - n.toNatClampNeg) else none)
      | .invokevirtual _ => call true k pc ls lq st h cb sb b z.toNat
      | .invokestatic _ => if a = 99 then none else if a = 7 then popII st (fun x y r => if csum r ≤ 8 then nxt (k, pc + 3, ls, lq, .int (if y < x then y else x) :: r, h, cb, sb) else none) else if a = 6 then popII st (fun x y r => if csum r ≤ 8 then nxt (k, pc + 3, ls, lq, .int (if x < y then y else x) :: r, h, cb, sb) else none) else call false k pc ls lq st h cb sb b z.toNat
      | .invokespecial _ => if a = 5 then popR st (fun _ r => if csum r ≤ 8 then nxt (k, pc + 3, ls, lq, r, h, cb, sb) else none) else call true k pc ls lq st h cb sb b z.toNat
      | _ => none
def retE (c : Cf) : Option Ot := match c with
  | (k, pc, _, _, st, h, _, _) => match fetch k pc with
    | none => none
    | some (_, i, _, _, _, _, _) => match i with
      | .ireturn => (match st with
        | [.int x] => if retOk (RT k) x = true then some (some (.int x), h) else none
        | _ => none)
      | .lreturn => (match st with
        | [.long x] => if RT k = some .long then some (some (.long x), h) else none
        | _ => none)
      | .return_ => (match st with
        | [] => if RT k = none then some (none, h) else none
        | _ => none)
      | _ => none
def eff (sc : Nat × (Nat → Int32)) (c : Cf) : Option (Ot ⊕ (Cf ⊕ (Cf × Cf))) := match retE c with
  | some o => some (.inl o)
  | none => (effN sc c).map Sum.inr
def run (sc : Nat × (Nat → Int32)) : Nat → Cf → Option Ot
  | 0, _ => none
  | n + 1, c => match eff sc c with
    | none => none
    | some (.inl o) => some o
    | some (.inr (.inl c')) => run sc n c'
    | some (.inr (.inr (a, b))) => match run sc n a with
      | none => none
      | some o => run sc n (resume b o)
