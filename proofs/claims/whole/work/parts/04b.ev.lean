/-! THE INTERPRETER: the program's methods over a plain memory. An object is a number; its kind stands in a list (class c < 50 and its fields' number; 50 int, 51 byte, 52 boolean, 53 long rows, 54.. rows of references); ints, longs and references lie in three functions of object and place. References from 1000000 on are constants. -/
abbrev Mm : Type := List (Nat × Nat) × (Nat → Nat → Int32) × (Nat → Nat → Int64) × (Nat → Nat → Option Nat)
abbrev Lv : Type := List (Option Value)
abbrev Ll : Type := List (Option Int64)
abbrev Cg : Type := Nat × Lv × Ll × List Value × Mm
abbrev Ct : Type := Nat → Option (Nat × Nat × (Nat → Int32))
def up1 {α : Type} (f : Nat → α) (i : Nat) (x : α) : Nat → α := fun a => if a = i then x else f a
def up2 {α : Type} (f : Nat → Nat → α) (i k : Nat) (x : α) : Nat → Nat → α := fun a b => if a = i then (if b = k then x else f a b) else f a b
def lk {α : Type} (L : List (List (Nat × α))) (o ix : Nat) : Option α := (L.getD o []).lookup ix
def fk (c k : Nat) : Option Nat := (FKL.getD c [])[k]?
def szf (c : Nat) : Nat := (FKL.getD c []).length
def jmp (pc : Nat) (off : Int) : Option Nat := if (pc : Int) + off < 0 then none else some ((pc : Int) + off).toNat
/-- getfield -/
def gf (o ix r : Nat) (M : Mm) : Option Value :=
  if o = 14 then (if 1000000 ≤ r ∧ r < 1000022 then (if ix = 9 then some (.ref (r + 100)) else if ix = 15 then some (.int 0) else none) else none)
  else match lk FRL o ix with
    | none => none
    | some (c, k, _) => match M.1[r]? with
      | none => none
      | some (kd, _) => if kd = c then
          match fk c k with
          | some 0 => some (.int (M.2.1 r k))
          | some 1 => some (.int (M.2.1 r k))
          | some 2 => some (.long (M.2.2.1 r k))
          | some 3 => some (va_rf (M.2.2.2 r k))
          | _ => none
        else none
/-- putfield -/
def pf (o ix r : Nat) (v : Value) (M : Mm) : Option Mm :=
  match lk FRL o ix with
  | none => none
  | some (c, k, _) => match M.1[r]? with
    | none => none
    | some (kd, _) => if kd = c then
        match fk c k, v with
        | some 0, .int x => some (M.1, up2 M.2.1 r k x, M.2.2.1, M.2.2.2)
        | some 1, .int x => if x = 0 ∨ x = 1 then some (M.1, up2 M.2.1 r k x, M.2.2.1, M.2.2.2) else none
        | some 2, .long x => some (M.1, M.2.1, up2 M.2.2.1 r k x, M.2.2.2)
        | some 3, .ref a => if a < 1000000 then some (M.1, M.2.1, M.2.2.1, up2 M.2.2.2 r k (some a)) else none
        | some 3, .null => some (M.1, M.2.1, M.2.2.1, up2 M.2.2.2 r k none)
        | _, _ => none
      else none
/-- an array of ints, bytes, booleans: its kind, length, contents -/
def ar (C : Ct) (M : Mm) (r : Nat) : Option (Nat × Nat × (Nat → Int32)) := match M.1[r]? with
  | some (kd, n) => some (kd, n, M.2.1 r)
  | none => C r
/-- a new cell -/
def nw (M : Mm) (kd n : Nat) : Option (Nat × Mm) :=
  if M.1.length < 999999 ∧ n ≤ 100000 then some (M.1.length, M.1 ++ [(kd, n)], up1 M.2.1 M.1.length (fun _ => 0), up1 M.2.2.1 M.1.length (fun _ => 0), up1 M.2.2.2 M.1.length (fun _ => none)) else none
def kdA (t : ArrayType) : Option Nat := match t with
  | .int => some 50
  | .byte => some 51
  | .boolean => some 52
  | .long => some 53
  | _ => none
/-- the class of a row's references, and back -/
def cmp (kd : Nat) : Option Nat := match kd with
  | 54 => some 4
  | 55 => some 6
  | 56 => some 2
  | 57 => some 7
  | 58 => some 8
  | _ => none
def kdR (c : Nat) : Option Nat := match c with
  | 4 => some 54
  | 6 => some 55
  | 2 => some 56
  | 7 => some 57
  | 8 => some 58
  | _ => none
def ldI (lv : Lv) (k : Nat) : Option Value := match lv[k]? with
  | some (some (.int x)) => some (.int x)
  | _ => none
def ldA (lv : Lv) (k : Nat) : Option Value := match lv[k]? with
  | some (some (.ref x)) => some (.ref x)
  | some (some .null) => some .null
  | _ => none
def ldL (ll : Ll) (k : Nat) : Option Value := match ll[k]? with
  | some (some x) => some (.long x)
  | _ => none
/-- the longs behind a store of one word at k -/
def cl1 (ll : Ll) (k : Nat) : Ll := (ll.set k none).set (k - 1) none
def br (c : Prop) [Decidable c] (pc : Nat) (off : Int) (lv : Lv) (ll : Ll) (st : List Value) (M : Mm) : Option Cg :=
  match jmp pc off with
  | none => none
  | some t => if c then some (t, lv, ll, st, M) else some (pc + 3, lv, ll, st, M)
def push (q : Nat) (v : Option Value) (lv : Lv) (ll : Ll) (st : List Value) (M : Mm) : Option Cg := match v with
  | some v => some (q, lv, ll, v :: st, M)
  | none => none
/-- one step that is no call and no return -/
def stp (C : Ct) (o : Nat) (ins : Instr) (len pc : Nat) (lv : Lv) (ll : Ll) (st : List Value) (M : Mm) : Option Cg :=
  match ins with
  | .aconst_null => push (pc + 1) (some .null) lv ll st M
  | .iconst n => push (pc + 1) (some (.int (Int32.ofInt n))) lv ll st M
  | .bipush n => push (pc + 2) (some (.int (Int8.ofInt n).toInt32)) lv ll st M
  | .sipush n => push (pc + 3) (some (.int (Int16.ofInt n).toInt32)) lv ll st M
  | .lconst n => push (pc + 1) (some (.long (Int64.ofNat n))) lv ll st M
  | .ldc i => push (pc + 2) (lk KRL o i) lv ll st M
  | .ldc_w i => match lk KRL o i with
    | some (.int x) => push (pc + 3) (some (.int x)) lv ll st M
    | _ => none
  | .ldc2_w i => push (pc + 3) ((lk KLL o i).map .long) lv ll st M
  | .iload k => push (pc + 2) (ldI lv k) lv ll st M
  | .iload_n k => push (pc + 1) (ldI lv k.val) lv ll st M
  | .aload k => push (pc + 2) (ldA lv k) lv ll st M
  | .aload_n k => push (pc + 1) (ldA lv k.val) lv ll st M
  | .lload k => push (pc + 2) (ldL ll k) lv ll st M
  | .lload_n k => push (pc + 1) (ldL ll k.val) lv ll st M
  | .istore k => match st with
    | .int x :: r => if k < lv.length then some (pc + 2, lv.set k (some (.int x)), cl1 ll k, r, M) else none
    | _ => none
  | .istore_n k => match st with
    | .int x :: r => if k.val < lv.length then some (pc + 1, lv.set k.val (some (.int x)), cl1 ll k.val, r, M) else none
    | _ => none
  | .astore k => match st with
    | .ref x :: r => if k < lv.length then some (pc + 2, lv.set k (some (.ref x)), cl1 ll k, r, M) else none
    | .null :: r => if k < lv.length then some (pc + 2, lv.set k (some .null), cl1 ll k, r, M) else none
    | _ => none
  | .astore_n k => match st with
    | .ref x :: r => if k.val < lv.length then some (pc + 1, lv.set k.val (some (.ref x)), cl1 ll k.val, r, M) else none
    | .null :: r => if k.val < lv.length then some (pc + 1, lv.set k.val (some .null), cl1 ll k.val, r, M) else none
    | _ => none
  | .lstore k => match st with
    | .long x :: r => if k + 1 < ll.length ∧ k + 1 < lv.length then some (pc + 2, (lv.set k none).set (k + 1) none, (((ll.set (k - 1) none).set (k + 1) none).set k (some x)), r, M) else none
    | _ => none
  | .lstore_n k => match st with
    | .long x :: r => if k.val + 1 < ll.length ∧ k.val + 1 < lv.length then some (pc + 1, (lv.set k.val none).set (k.val + 1) none, (((ll.set (k.val - 1) none).set (k.val + 1) none).set k.val (some x)), r, M) else none
    | _ => none
  | .iinc k n => match lv[k]? with
    | some (some (.int x)) => some (pc + 3, lv.set k (some (.int (x + Int32.ofInt n))), cl1 ll k, st, M)
    | _ => none
  | .iadd => match st with
    | .int y :: .int x :: r => some (pc + 1, lv, ll, .int (x + y) :: r, M)
    | _ => none
  | .isub => match st with
    | .int y :: .int x :: r => some (pc + 1, lv, ll, .int (x - y) :: r, M)
    | _ => none
  | .imul => match st with
    | .int y :: .int x :: r => some (pc + 1, lv, ll, .int (x * y) :: r, M)
    | _ => none
  | .idiv => match st with
    | .int y :: .int x :: r => if y = 0 then none else some (pc + 1, lv, ll, .int (x / y) :: r, M)
    | _ => none
  | .irem => match st with
    | .int y :: .int x :: r => if y = 0 then none else some (pc + 1, lv, ll, .int (x - x / y * y) :: r, M)
    | _ => none
  | .ineg => match st with
    | .int x :: r => some (pc + 1, lv, ll, .int (-x) :: r, M)
    | _ => none
  | .iand => match st with
    | .int y :: .int x :: r => some (pc + 1, lv, ll, .int (x &&& y) :: r, M)
    | _ => none
  | .ior => match st with
    | .int y :: .int x :: r => some (pc + 1, lv, ll, .int (x ||| y) :: r, M)
    | _ => none
  | .ixor => match st with
    | .int y :: .int x :: r => some (pc + 1, lv, ll, .int (x ^^^ y) :: r, M)
    | _ => none
  | .ishl => match st with
    | .int y :: .int x :: r => some (pc + 1, lv, ll, .int (x <<< (y &&& 31)) :: r, M)
    | _ => none
  | .ishr => match st with
    | .int y :: .int x :: r => some (pc + 1, lv, ll, .int (x >>> (y &&& 31)) :: r, M)
    | _ => none
  | .iushr => match st with
    | .int y :: .int x :: r => some (pc + 1, lv, ll, .int (x.toUInt32 >>> (y.toUInt32 &&& Int32.toUInt32 31)).toInt32 :: r, M)
    | _ => none
  | .i2b => match st with
    | .int x :: r => some (pc + 1, lv, ll, .int x.toInt8.toInt32 :: r, M)
    | _ => none
  | .i2c => match st with
    | .int x :: r => some (pc + 1, lv, ll, .int (x.toUInt32 % 65536).toInt32 :: r, M)
    | _ => none
  | .i2l => match st with
    | .int x :: r => some (pc + 1, lv, ll, .long x.toInt64 :: r, M)
    | _ => none
  | .ladd => match st with
    | .long y :: .long x :: r => some (pc + 1, lv, ll, .long (x + y) :: r, M)
    | _ => none
  | .lmul => match st with
    | .long y :: .long x :: r => some (pc + 1, lv, ll, .long (x * y) :: r, M)
    | _ => none
  | .lor => match st with
    | .long y :: .long x :: r => some (pc + 1, lv, ll, .long (x ||| y) :: r, M)
    | _ => none
  | .lshl => match st with
    | .int y :: .long x :: r => some (pc + 1, lv, ll, .long (x <<< (y.toInt64 &&& 63)) :: r, M)
    | _ => none
  | .lcmp => match st with
    | .long y :: .long x :: r => some (pc + 1, lv, ll, .int (lg_cmp x y) :: r, M)
    | _ => none
  | .pop => match st with
    | v :: r => if v.category = 1 then some (pc + 1, lv, ll, r, M) else none
    | _ => none
  | .dup => match st with
    | v :: r => if v.category = 1 then some (pc + 1, lv, ll, v :: v :: r, M) else none
    | _ => none
  | .dup2 => match st with
    | v :: w :: r => if v.category = 1 ∧ w.category = 1 then some (pc + 1, lv, ll, v :: w :: v :: w :: r, M) else none
    | _ => none
  | .goto off => match jmp pc off with
    | some t => some (t, lv, ll, st, M)
    | none => none
  | .ifCond c off => match st with
    | .int x :: r => match c with
      | .eq => br (x = 0) pc off lv ll r M
      | .ne => br (¬ x = 0) pc off lv ll r M
      | .lt => br (x < 0) pc off lv ll r M
      | .ge => br (0 ≤ x) pc off lv ll r M
      | .gt => br (0 < x) pc off lv ll r M
      | .le => br (x ≤ 0) pc off lv ll r M
    | _ => none
  | .if_icmp c off => match st with
    | .int y :: .int x :: r => match c with
      | .eq => br (x = y) pc off lv ll r M
      | .ne => br (¬ x = y) pc off lv ll r M
      | .lt => br (x < y) pc off lv ll r M
      | .ge => br (y ≤ x) pc off lv ll r M
      | .gt => br (y < x) pc off lv ll r M
      | .le => br (x ≤ y) pc off lv ll r M
    | _ => none
  | .ifnull off => match st with
    | .ref a :: r => if a < 1000000 then some (pc + 3, lv, ll, r, M) else none
    | .null :: r => br True pc off lv ll r M
    | _ => none
  | .ifnonnull off => match st with
    | .ref a :: r => if a < 1000000 then br True pc off lv ll r M else none
    | .null :: r => some (pc + 3, lv, ll, r, M)
    | _ => none
  | .tableswitch dflt lo hi offs => match st with
    | .int x :: r => if x.toInt < lo ∨ hi < x.toInt then (match jmp pc dflt with
        | some t => some (t, lv, ll, r, M)
        | none => none)
      else match offs[(x.toInt - lo).toNat]? with
        | some off => (match jmp pc off with
          | some t => some (t, lv, ll, r, M)
          | none => none)
        | none => none
    | _ => none
  | .lookupswitch dflt ps => match st with
    | .int x :: r => if (ps.toList.zip (ps.toList.drop 1)).all (fun (a, next) => a.1 < next.1) = true then (match jmp pc (Op.lookupswitch.offset ps.toList dflt x.toInt) with
        | some t => some (t, lv, ll, r, M)
        | none => none) else none
    | _ => none
  | .getstatic ix => push (pc + 3) (lk SRL o ix) lv ll st M
  | .getfield ix => match st with
    | .ref r :: rest => push (pc + 3) (gf o ix r M) lv ll rest M
    | _ => none
  | .putfield ix => match st with
    | v :: .ref r :: rest => match pf o ix r v M with
      | some M' => some (pc + 3, lv, ll, rest, M')
      | none => none
    | _ => none
  | .iaload => match st with
    | .int j :: .ref r :: rest => match ar C M r with
      | some (kd, n, f) => if kd = 50 ∧ ¬ (j < 0 ∨ n ≤ j.toNatClampNeg) then some (pc + 1, lv, ll, .int (f j.toNatClampNeg) :: rest, M) else none
      | none => none
    | _ => none
  | .baload => match st with
    | .int j :: .ref r :: rest => match ar C M r with
      | some (kd, n, f) => if (kd = 51 ∨ kd = 52) ∧ ¬ (j < 0 ∨ n ≤ j.toNatClampNeg) then some (pc + 1, lv, ll, .int (f j.toNatClampNeg) :: rest, M) else none
      | none => none
    | _ => none
  | .laload => match st with
    | .int j :: .ref r :: rest => match M.1[r]? with
      | some (kd, n) => if kd = 53 ∧ ¬ (j < 0 ∨ n ≤ j.toNatClampNeg) then some (pc + 1, lv, ll, .long (M.2.2.1 r j.toNatClampNeg) :: rest, M) else none
      | none => none
    | _ => none
  | .aaload => match st with
    | .int j :: .ref r :: rest => match M.1[r]? with
      | some (kd, n) => if (54 ≤ kd ∧ kd ≤ 58) ∧ ¬ (j < 0 ∨ n ≤ j.toNatClampNeg) then some (pc + 1, lv, ll, va_rf (M.2.2.2 r j.toNatClampNeg) :: rest, M) else none
      | none => none
    | _ => none
  | .iastore => match st with
    | .int x :: .int j :: .ref r :: rest => match M.1[r]? with
      | some (kd, n) => if kd = 50 ∧ ¬ (j < 0 ∨ n ≤ j.toNatClampNeg) then some (pc + 1, lv, ll, rest, M.1, up2 M.2.1 r j.toNatClampNeg x, M.2.2.1, M.2.2.2) else none
      | none => none
    | _ => none
  | .bastore => match st with
    | .int x :: .int j :: .ref r :: rest => match M.1[r]? with
      | some (kd, n) => if (kd = 51 ∨ kd = 52) ∧ ¬ (j < 0 ∨ n ≤ j.toNatClampNeg) then some (pc + 1, lv, ll, rest, M.1, up2 M.2.1 r j.toNatClampNeg (if kd = 51 then x.toInt8.toInt32 else x &&& 1), M.2.2.1, M.2.2.2) else none
      | none => none
    | _ => none
  | .lastore => match st with
    | .long x :: .int j :: .ref r :: rest => match M.1[r]? with
      | some (kd, n) => if kd = 53 ∧ ¬ (j < 0 ∨ n ≤ j.toNatClampNeg) then some (pc + 1, lv, ll, rest, M.1, M.2.1, up2 M.2.2.1 r j.toNatClampNeg x, M.2.2.2) else none
      | none => none
    | _ => none
  | .aastore => match st with
    | .ref a :: .int j :: .ref r :: rest => match M.1[r]?, M.1[a]? with
      | some (kd, n), some (kc, _) => if (kc < 50 ∧ cmp kd = some kc) ∧ ¬ (j < 0 ∨ n ≤ j.toNatClampNeg) then some (pc + 1, lv, ll, rest, M.1, M.2.1, M.2.2.1, up2 M.2.2.2 r j.toNatClampNeg (some a)) else none
      | _, _ => none
    | _ => none
  | .arraylength => match st with
    | .ref r :: rest => match ar C M r with
      | some (kd, n, _) => if 50 ≤ kd ∧ kd ≤ 58 then some (pc + 1, lv, ll, .int (Int32.ofNat n) :: rest, M) else none
      | none => none
    | _ => none
  | .newarray t => match st with
    | .int n :: rest => if n < 0 then none else match kdA t with
      | some kd => (match nw M kd n.toNatClampNeg with
        | some (r, M') => some (pc + 2, lv, ll, .ref r :: rest, M')
        | none => none)
      | none => none
    | _ => none
  | .anewarray ix => match st with
    | .int n :: rest => if n < 0 then none else match (lk NRL o ix).bind kdR with
      | some kd => (match nw M kd n.toNatClampNeg with
        | some (r, M') => some (pc + 3, lv, ll, .ref r :: rest, M')
        | none => none)
      | none => none
    | _ => none
  | .new ix => match lk NRL o ix with
    | some c => if c < 13 then (match nw M c (szf c) with
      | some (r, M') => some (pc + 3, lv, ll, .ref r :: st, M')
      | none => none) else none
    | none => none
  | .invokestatic ix => match lk CRL o ix with
    | none => none
    | some (k, _, _, _) =>
      if k = 6 then (match st with
        | [.int n, .int dp, .ref d, .int sp, .ref s] => match M.1[s]?, M.1[d]? with
          | some (k0, n0), some (k1, n1) => if (k0 = k1 ∧ (k0 = 50 ∨ k0 = 51)) ∧ (¬ sp < 0 ∧ ¬ dp < 0 ∧ ¬ n < 0) ∧ sp.toNatClampNeg + n.toNatClampNeg ≤ n0 ∧ dp.toNatClampNeg + n.toNatClampNeg ≤ n1
            then some (pc + 3, lv, ll, [], M.1, up1 M.2.1 d (va_cpy (M.2.1 s) (M.2.1 d) sp.toNatClampNeg dp.toNatClampNeg n.toNatClampNeg), M.2.2.1, M.2.2.2) else none
          | _, _ => none
        | _ => none)
      else if k = 7 then (match st with
        | .int y :: .int x :: r => if (r.map fun v => v.category).sum ≤ 8 then some (pc + 3, lv, ll, .int (if x < y then y else x) :: r, M) else none
        | _ => none)
      else if k = 8 then (match st with
        | .int y :: .int x :: r => if (r.map fun v => v.category).sum ≤ 8 then some (pc + 3, lv, ll, .int (if y < x then y else x) :: r, M) else none
        | _ => none)
      else if k = 9 then (match st with
        | .int x :: r => if (r.map fun v => v.category).sum ≤ 8 then some (pc + 3, lv, ll, .int (if 0 ≤ x then x else 0 - x) :: r, M) else none
        | _ => none)
      else none
  | .invokespecial ix => match lk CRL o ix with
    | none => none
    | some (k, _, _, _) => if k = 10 then (match st with
        | .ref a :: r => if (r.map fun v => v.category).sum ≤ 8 ∧ a < 1000000 then some (pc + 3, lv, ll, r, M) else none
        | _ => none) else none
  | _ => none
def isRet (ins : Instr) : Bool := match ins with
  | .ireturn => true
  | .lreturn => true
  | .areturn => true
  | .return_ => true
  | _ => false
/-- a return: the answer -/
def rtn (ret : Option FieldType) (ins : Instr) (st : List Value) : Option (Option Value) :=
  match ins, st, ret with
  | .ireturn, [.int v], some t => if narrow t (.int v) = .int v then some (some (.int v)) else none
  | .lreturn, [.long v], some .long => some (some (.long v))
  | .areturn, [.ref r], some (.object _) => some (some (.ref r))
  | .areturn, [.null], some (.object _) => some (some .null)
  | .return_, [], none => some none
  | _, _, _ => none
/-- a call: its kind (0 virtual, 1 a nest mate's private, 2 static, 3 a nest mate's static, 4 a constructor, 5 a nest mate's), the callee, the parameters -/
def callOf (o : Nat) (ins : Instr) : Option (Nat × Nat × Nat) := match ins with
  | .invokevirtual ix => match lk CRL o ix with
    | some (k, y, n, _) => if k < 2 then some (k, y, n) else none
    | none => none
  | .invokestatic ix => match lk CRL o ix with
    | some (k, y, n, _) => if 2 ≤ k ∧ k < 4 then some (k, y, n) else none
    | none => none
  | .invokespecial ix => match lk CRL o ix with
    | some (k, y, n, _) => if 4 ≤ k ∧ k < 6 then some (k, y, n) else none
    | none => none
  | _ => none
/-- how many values a call takes off the stack -/
def npop (kd n : Nat) : Nat := if 2 ≤ kd ∧ kd < 4 then n else n + 1
/-- the receiver is of the callee's class -/
def rcv (kd oc : Nat) (as : List Value) (M : Mm) : Bool := if 2 ≤ kd ∧ kd < 4 then true else match as with
  | .ref r :: _ => if 4 ≤ kd then decide (r < 1000000) else match M.1[r]? with
    | some (c, _) => decide (c = oc ∧ c < 50)
    | none => decide (oc = 14 ∧ 1000000 ≤ r ∧ r < 1000022)
  | _ => false
def enV : List Value → Lv
  | [] => []
  | .long _ :: l => none :: none :: enV l
  | .double _ :: l => none :: none :: enV l
  | v :: l => some v :: enV l
def enL : List Value → Ll
  | [] => []
  | .long x :: l => some x :: none :: enL l
  | .double _ :: l => none :: none :: enL l
  | _ :: l => none :: enL l
def entV (as : List Value) (n : Nat) : Lv := enV as ++ List.replicate (n - (enV as).length) none
def entL (as : List Value) (n : Nat) (hl : Bool) : Ll := if hl = true then enL as ++ List.replicate (n - (enL as).length) none else []
/-- the body of the interpreter, over what it calls itself by -/
def evB (C : Ct) (rec : Nat → Cg → Option (Option Value × Mm)) (y : Nat) (g : Cg) : Option (Option Value × Mm) :=
  match PGL[y]? with
  | none => none
  | some (_, _, _, ret, o, dep, _, _, tb) => match tb.lookup g.1 with
    | none => none
    | some (ins, len) =>
      if isRet ins = true then (match rtn ret ins g.2.2.2.1 with
        | some v => some (v, g.2.2.2.2)
        | none => none)
      else match callOf o ins with
        | some (kd, y', np) => (match PGL[y']? with
          | none => none
          | some (_, _, mL, _, oc, dep', hl, _, _) =>
            if (dep' < dep ∧ npop kd np ≤ g.2.2.2.1.length) ∧ rcv kd oc (g.2.2.2.1.take (npop kd np)).reverse g.2.2.2.2 = true ∧ (((g.2.2.2.1.drop (npop kd np)).map fun v => v.category).sum ≤ 8 ∧ (enV (g.2.2.2.1.take (npop kd np)).reverse).length ≤ mL) then
              (match rec y' (0, entV (g.2.2.2.1.take (npop kd np)).reverse mL, entL (g.2.2.2.1.take (npop kd np)).reverse mL hl, [], g.2.2.2.2) with
              | none => none
              | some (v, M') => rec y (g.1 + 3, g.2.1, g.2.2.1, v.toList ++ g.2.2.2.1.drop (npop kd np), M'))
            else none)
        | none => (match stp C o ins len g.1 g.2.1 g.2.2.1 g.2.2.2.1 g.2.2.2.2 with
          | none => none
          | some g' => rec y g')
def ev (C : Ct) : Nat → Nat → Cg → Option (Option Value × Mm)
  | 0 => fun _ _ => none
  | n + 1 => evB C (ev C n)
theorem evB_mono {C : Ct} {f h : Nat → Cg → Option (Option Value × Mm)} (hm : ∀ y g x, f y g = some x → h y g = some x) {y : Nat} {g : Cg} {x : Option Value × Mm} : evB C f y g = some x → evB C h y g = some x := by
  unfold evB
  split
  · exact id
  · split
    · exact id
    · split
      · exact id
      · split
        · split
          · exact id
          · split
            · intro e
              split at e
              · cases e
              · rename_i hq
                rw [hm _ _ _ hq]
                exact hm _ _ _ e
            · exact id
        · split
          · exact id
          · exact hm _ _ _
theorem ev_succ {C : Ct} {n y : Nat} {g : Cg} {x : Option Value × Mm} : ev C n y g = some x → ev C (n + 1) y g = some x := by
  induction n generalizing y g x with
  | zero => intro e; cases e
  | succ n ih => intro e; exact evB_mono (fun _ _ _ h => ih h) e
theorem ev_le {C : Ct} {n k y : Nat} {g : Cg} {x : Option Value × Mm} (h : n ≤ k) (e : ev C n y g = some x) : ev C k y g = some x := by
  induction h with
  | refl => exact e
  | step _ ih => exact ev_succ ih
