/-! 07: an interpreter of the class's bytes over an abstract heap (objects are numbered in the order of their making); its soundness over the machine follows in 09 ff. -/
abbrev e_Hp : Type := (Nat × Nat × Nat) × (Nat → Nat × Nat) × (Nat → Nat → Value)
abbrev e_LL : Type := List (Option Value)
def e_xb : Nat := 4294967296
def e_n (h : e_Hp) : Nat := h.1.1
def e_c (h : e_Hp) : Nat := h.1.2.1
def e_s (h : e_Hp) : Nat := h.1.2.2
def e_kd (h : e_Hp) (k : Nat) : Nat := (h.2.1 k).1
def e_ln (h : e_Hp) (k : Nat) : Nat := (h.2.1 k).2
def e_v (h : e_Hp) (k i : Nat) : Value := h.2.2 k i
def e_toI : Value → Int32 := fun v => match v with
  | .int x => x
  | _ => 0
def e_toJ : Value → Int64 := fun v => match v with
  | .long x => x
  | _ => 0
def e_toF : Value → UInt32 := fun v => match v with
  | .float x => x
  | _ => 0
def e_toD : Value → UInt64 := fun v => match v with
  | .double x => x
  | _ => 0
def e_toO : Value → Option Nat := fun v => match v with
  | .ref k => some k
  | _ => none
/-- a new object or array -/
def e_new (h : e_Hp) (kd ln sl : Nat) : e_Hp := ((h.1.1 + 1, h.1.2.1 + 1, h.1.2.2 + sl), (fun k => if k = h.1.1 then (kd, ln) else h.2.1 k), (fun k => if k = h.1.1 then (fun _ => .null) else h.2.2 k))
def e_set (h : e_Hp) (k i : Nat) (v : Value) : e_Hp := (h.1, h.2.1, fun k' => if k' = k then (fun i' => if i' = i then v else h.2.2 k' i') else h.2.2 k')
/-- room that is taken by an exception -/
def e_add (h : e_Hp) (c s : Nat) : e_Hp := ((h.1.1, h.1.2.1 + c, h.1.2.2 + s), h.2.1, h.2.2)
def e_rd (ty : FieldType) (v : Value) : Value := match ty with
  | .long => .long (e_toJ v)
  | .float => .float (e_toF v)
  | .double => .double (e_toD v)
  | .object _ => va_rf (e_toO v)
  | .array _ => va_rf (e_toO v)
  | _ => .int (e_toI v)
def e_ck (ty : FieldType) (v : Value) : Bool := match ty, v with
  | .int, .int _ => true
  | .boolean, .int x => decide (x = 0 ∨ x = 1)
  | .char, .int x => decide (vp_nar .char x = x)
  | .long, .long _ => true
  | .double, .double _ => true
  | .object _, .ref _ => true
  | .object _, .null => true
  | .array _, .ref _ => true
  | .array _, .null => true
  | _, _ => false
/-- locals -/
def e_ld (ll : e_LL) (i : Nat) : Option Value := (ll[i]?).join
def e_cl (i : Nat) (ll : e_LL) : e_LL := match i with
  | 0 => ll
  | j + 1 => match e_ld ll j with
    | some w => if w.category = 2 then ll.set j none else ll
    | none => ll
def e_st1 (i : Nat) (v : Value) (ll : e_LL) : e_LL := (e_cl i ll).set i (some v)
def e_st2 (i : Nat) (v : Value) (ll : e_LL) : e_LL := ((e_cl i ll).set i (some v)).set (i + 1) none
def e_go (pc : Nat) (off : Int) : Option Nat := match (pc : Int) + off with
  | .ofNat t => some t
  | _ => none
def e_n64 (r : UInt64) : Bool := @decide (vf_n64 r) (by unfold vf_n64; infer_instance)
def e_n32 (r : UInt32) : Bool := @decide (vf_n32 r) (by unfold vf_n32; infer_instance)
abbrev e_R : Type := Option (Nat × e_LL × List Value)
def e_jmp (b : Bool) (pc : Nat) (off : Int) (nx : Nat) (ll : e_LL) (st : List Value) : e_R := match e_go pc off with
  | some t => some (if b then t else nx, ll, st)
  | none => none
/-- constants, loads, stores -/
def e_opA (i : Instr) (len pc : Nat) (ll : e_LL) (st : List Value) : e_R := match i, len, st with
  | .iconst n, 1, st => some (pc + 1, ll, .int (Int32.ofInt n) :: st)
  | .bipush n, 2, st => some (pc + 2, ll, .int (Int8.ofInt n).toInt32 :: st)
  | .sipush n, 3, st => some (pc + 3, ll, .int (Int16.ofInt n).toInt32 :: st)
  | .lconst n, 1, st => some (pc + 1, ll, .long (Int64.ofNat (n : Nat)) :: st)
  | .aconst_null, 1, st => some (pc + 1, ll, .null :: st)
  | _, _, _ => none
def e_opB (i : Instr) (len pc : Nat) (ll : e_LL) (st : List Value) : e_R := match i, len with
  | .iload_n k, 1 => match e_ld ll k with
    | some (.int x) => some (pc + 1, ll, .int x :: st)
    | _ => none
  | .iload k, 2 => match e_ld ll k with
    | some (.int x) => some (pc + 2, ll, .int x :: st)
    | _ => none
  | .lload_n k, 1 => match e_ld ll k with
    | some (.long x) => some (pc + 1, ll, .long x :: st)
    | _ => none
  | .lload k, 2 => match e_ld ll k with
    | some (.long x) => some (pc + 2, ll, .long x :: st)
    | _ => none
  | .fload k, 2 => match e_ld ll k with
    | some (.float x) => some (pc + 2, ll, .float x :: st)
    | _ => none
  | .dload k, 2 => match e_ld ll k with
    | some (.double x) => some (pc + 2, ll, .double x :: st)
    | _ => none
  | .aload_n k, 1 => match e_ld ll k with
    | some (.ref x) => some (pc + 1, ll, .ref x :: st)
    | some .null => some (pc + 1, ll, .null :: st)
    | _ => none
  | .aload k, 2 => match e_ld ll k with
    | some (.ref x) => some (pc + 2, ll, .ref x :: st)
    | some .null => some (pc + 2, ll, .null :: st)
    | _ => none
  | _, _ => none
def e_opC (nL : Nat) (i : Instr) (len pc : Nat) (ll : e_LL) (st : List Value) : e_R := match i, len, st with
  | .istore_n k, 1, .int x :: st => if (k : Nat) < nL then some (pc + 1, e_st1 k (.int x) ll, st) else none
  | .istore k, 2, .int x :: st => if k < nL then some (pc + 2, e_st1 k (.int x) ll, st) else none
  | .astore_n k, 1, .ref x :: st => if (k : Nat) < nL then some (pc + 1, e_st1 k (.ref x) ll, st) else none
  | .astore k, 2, .ref x :: st => if k < nL then some (pc + 2, e_st1 k (.ref x) ll, st) else none
  | .astore_n k, 1, .null :: st => if (k : Nat) < nL then some (pc + 1, e_st1 k .null ll, st) else none
  | .astore k, 2, .null :: st => if k < nL then some (pc + 2, e_st1 k .null ll, st) else none
  | .fstore k, 2, .float x :: st => if k < nL then some (pc + 2, e_st1 k (.float x) ll, st) else none
  | .lstore_n k, 1, .long x :: st => if (k : Nat) + 1 < nL then some (pc + 1, e_st2 k (.long x) ll, st) else none
  | .lstore k, 2, .long x :: st => if k + 1 < nL then some (pc + 2, e_st2 k (.long x) ll, st) else none
  | .dstore k, 2, .double x :: st => if k + 1 < nL then some (pc + 2, e_st2 k (.double x) ll, st) else none
  | .iinc k n, 3, st => if k < nL then (match e_ld ll k with
    | some (.int x) => some (pc + 3, e_st1 k (.int (x + Int32.ofInt n)) ll, st)
    | _ => none) else none
  | _, _, _ => none
/-- arithmetic -/
def e_opD (i : Instr) (len pc : Nat) (ll : e_LL) (st : List Value) : e_R := match i, len, st with
  | .iadd, 1, .int y :: .int x :: st => some (pc + 1, ll, .int (x + y) :: st)
  | .isub, 1, .int y :: .int x :: st => some (pc + 1, ll, .int (x - y) :: st)
  | .imul, 1, .int y :: .int x :: st => some (pc + 1, ll, .int (x * y) :: st)
  | .idiv, 1, .int y :: .int x :: st => if y = 0 then none else some (pc + 1, ll, .int (x / y) :: st)
  | .irem, 1, .int y :: .int x :: st => if y = 0 then none else some (pc + 1, ll, .int (x - x / y * y) :: st)
  | .ineg, 1, .int x :: st => some (pc + 1, ll, .int (-x) :: st)
  | .iand, 1, .int y :: .int x :: st => some (pc + 1, ll, .int (x &&& y) :: st)
  | .ior, 1, .int y :: .int x :: st => some (pc + 1, ll, .int (x ||| y) :: st)
  | .ishl, 1, .int y :: .int x :: st => some (pc + 1, ll, .int (x <<< (y &&& 31)) :: st)
  | .ishr, 1, .int y :: .int x :: st => some (pc + 1, ll, .int (x >>> (y &&& 31)) :: st)
  | .iushr, 1, .int y :: .int x :: st => some (pc + 1, ll, .int (x.toUInt32 >>> (y.toUInt32 &&& Int32.toUInt32 31)).toInt32 :: st)
  | _, _, _ => none
def e_opE (i : Instr) (len pc : Nat) (ll : e_LL) (st : List Value) : e_R := match i, len, st with
  | .ladd, 1, .long y :: .long x :: st => some (pc + 1, ll, .long (x + y) :: st)
  | .lsub, 1, .long y :: .long x :: st => some (pc + 1, ll, .long (x - y) :: st)
  | .land, 1, .long y :: .long x :: st => some (pc + 1, ll, .long (x &&& y) :: st)
  | .lor, 1, .long y :: .long x :: st => some (pc + 1, ll, .long (x ||| y) :: st)
  | .lshl, 1, .int y :: .long x :: st => some (pc + 1, ll, .long (x <<< (y.toInt64 &&& 63)) :: st)
  | .lshr, 1, .int y :: .long x :: st => some (pc + 1, ll, .long (x >>> (y.toInt64 &&& 63)) :: st)
  | .lushr, 1, .int y :: .long x :: st => some (pc + 1, ll, .long (x.toUInt64 >>> (y.toInt64.toUInt64 &&& Int64.toUInt64 63)).toInt64 :: st)
  | .lcmp, 1, .long y :: .long x :: st => some (pc + 1, ll, .int (lg_cmp x y) :: st)
  | .i2l, 1, .int x :: st => some (pc + 1, ll, .long x.toInt64 :: st)
  | .l2i, 1, .long x :: st => some (pc + 1, ll, .int x.toInt32 :: st)
  | .i2c, 1, .int x :: st => some (pc + 1, ll, .int (x.toUInt32 % 65536).toInt32 :: st)
  | .i2b, 1, .int x :: st => some (pc + 1, ll, .int x.toInt8.toInt32 :: st)
  | _, _, _ => none
def e_opF (i : Instr) (len pc : Nat) (ll : e_LL) (st : List Value) : e_R := match i, len, st with
  | .fconst 0, 1, st => some (pc + 1, ll, .float FP.fconst0 :: st)
  | .dconst 0, 1, st => some (pc + 1, ll, .double FP.dconst0 :: st)
  | .i2f, 1, .int x :: st => some (pc + 1, ll, .float (FP.i2f x) :: st)
  | .i2d, 1, .int x :: st => some (pc + 1, ll, .double (FP.i2d x) :: st)
  | .l2d, 1, .long x :: st => some (pc + 1, ll, .double (FP.l2d x) :: st)
  | .f2d, 1, .float x :: st => if e_n64 (FP.f2d x) then some (pc + 1, ll, .double (FP.f2d x) :: st) else none
  | .fdiv, 1, .float y :: .float x :: st => if e_n32 (FP.fdiv x y) then some (pc + 1, ll, .float (FP.fdiv x y) :: st) else none
  | .ddiv, 1, .double y :: .double x :: st => if e_n64 (FP.ddiv x y) then some (pc + 1, ll, .double (FP.ddiv x y) :: st) else none
  | .fcmp op, 1, .float y :: .float x :: st => some (pc + 1, ll, .int (Op.cmpValue (FP.fcmp x y) op) :: st)
  | .dcmp op, 1, .double y :: .double x :: st => some (pc + 1, ll, .int (Op.cmpValue (FP.dcmp x y) op) :: st)
  | _, _, _ => none
/-- the stack, branches -/
def e_opG (i : Instr) (len pc : Nat) (ll : e_LL) (st : List Value) : e_R := match i, len, st with
  | .dup, 1, v :: st => if v.category = 1 then some (pc + 1, ll, v :: v :: st) else none
  | .pop, 1, v :: st => if v.category = 1 then some (pc + 1, ll, st) else none
  | .dup_x1, 1, v :: w :: st => if v.category = 1 ∧ w.category = 1 then some (pc + 1, ll, v :: w :: v :: st) else none
  | .dup2, 1, v :: w :: st => if v.category = 1 ∧ w.category = 1 then some (pc + 1, ll, v :: w :: v :: w :: st) else none
  | .goto off, 3, st => e_jmp true pc off 0 ll st
  | .ifCond .eq off, 3, .int x :: st => e_jmp (decide (x = 0)) pc off (pc + 3) ll st
  | .ifCond .ne off, 3, .int x :: st => e_jmp (decide (¬ x = 0)) pc off (pc + 3) ll st
  | .ifCond .lt off, 3, .int x :: st => e_jmp (decide (x < 0)) pc off (pc + 3) ll st
  | .ifCond .ge off, 3, .int x :: st => e_jmp (decide (0 ≤ x)) pc off (pc + 3) ll st
  | .ifCond .gt off, 3, .int x :: st => e_jmp (decide (0 < x)) pc off (pc + 3) ll st
  | .ifCond .le off, 3, .int x :: st => e_jmp (decide (x ≤ 0)) pc off (pc + 3) ll st
  | _, _, _ => none
def e_opH (i : Instr) (len pc : Nat) (ll : e_LL) (st : List Value) : e_R := match i, len, st with
  | .if_icmp .eq off, 3, .int y :: .int x :: st => e_jmp (decide (x = y)) pc off (pc + 3) ll st
  | .if_icmp .ne off, 3, .int y :: .int x :: st => e_jmp (decide (¬ x = y)) pc off (pc + 3) ll st
  | .if_icmp .lt off, 3, .int y :: .int x :: st => e_jmp (decide (x < y)) pc off (pc + 3) ll st
  | .if_icmp .ge off, 3, .int y :: .int x :: st => e_jmp (decide (y ≤ x)) pc off (pc + 3) ll st
  | .if_icmp .gt off, 3, .int y :: .int x :: st => e_jmp (decide (y < x)) pc off (pc + 3) ll st
  | .if_icmp .le off, 3, .int y :: .int x :: st => e_jmp (decide (x ≤ y)) pc off (pc + 3) ll st
  | .ifnull off, 3, .ref _ :: st => some (pc + 3, ll, st)
  | .ifnull off, 3, .null :: st => e_jmp true pc off 0 ll st
  | .ifnonnull off, 3, .null :: st => some (pc + 3, ll, st)
  | .ifnonnull off, 3, .ref _ :: st => e_jmp true pc off 0 ll st
  | .tableswitch dflt lo hi offs, _, .int x :: st => if x.toInt < lo ∨ hi < x.toInt then e_jmp true pc dflt 0 ll st else (match offs[(x.toInt - lo).toNat]? with
    | some off => e_jmp true pc off 0 ll st
    | none => none)
  | .lookupswitch dflt ps, _, .int x :: st => if (ps.toList.zip (ps.toList.drop 1)).all (fun (a, next) => a.1 < next.1) = true then e_jmp true pc (Op.lookupswitch.offset ps.toList dflt x.toInt) 0 ll st else none
  | _, _, _ => none
def e_op (nL : Nat) (i : Instr) (len pc : Nat) (ll : e_LL) (st : List Value) : e_R := match e_opA i len pc ll st with
  | some r => some r
  | none => match e_opB i len pc ll st with
    | some r => some r
    | none => match e_opC nL i len pc ll st with
      | some r => some r
      | none => match e_opD i len pc ll st with
        | some r => some r
        | none => match e_opE i len pc ll st with
          | some r => some r
          | none => match e_opF i len pc ll st with
            | some r => some r
            | none => match e_opG i len pc ll st with
              | some r => some r
              | none => e_opH i len pc ll st
