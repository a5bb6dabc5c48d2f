/-! THE ABSTRACT MACHINE: the same bytecode over a heap of named cells (a function of addresses); what the machine does besides (tables, frames, room) is told once, in part 05 -/
abbrev AC : Type := (Nat × List Value) ⊕ (Nat × Nat × (Nat → Value))
abbrev AH : Type := Nat → Option AC
abbrev AL : Type := List (Option Value)
/-- pc, locals, stack, heap, its size, cells and slots made -/
abbrev AX : Type := Nat → AL → List Value → AH → Nat → Nat → Nat → Prop
abbrev AO : Type := Option Value ⊕ Nat
abbrev AP : Type := AO → AH → Nat → Prop
/-- method, arguments, heap, its size, cells and slots that it may make, what holds behind it -/
abbrev ASp : Type := Nat → List Value → AH → Nat → Nat → Nat → AP → Prop
/-- an object: its class among acl, its fields -/
def ob (c : Nat) (fs : List Value) : AC := .inl (c, fs)
/-- an array: kind (0 int, 1 long, 2 boolean, 3 double, 4 boolean[][], 5 the script), length, contents -/
def ra (k n : Nat) (g : Nat → Value) : AC := .inr (k, n, g)
def hup (h : AH) (a : Nat) (c : AC) : AH := fun q => if q = a then some c else h q
def updI (f : Nat → Int32) (i : Nat) (x : Int32) : Nat → Int32 := fun j => if j = i then x else f j
def updV' (f : Nat → Value) (i : Nat) (x : Value) : Nat → Value := fun j => if j = i then x else f j
def AT (k : Nat) : FieldType := match k with
  | 0 => .int
  | 1 => .long
  | 2 => .boolean
  | 3 => .double
  | 4 => .array .boolean
  | _ => .int
def kil (a : Option Value) : Option Value := match a with
  | some (.long _) => none
  | some (.double _) => none
  | a => a
def st1 : AL → Nat → Value → AL
  | [], _, _ => []
  | _ :: l, 0, v => some v :: l
  | a :: b :: l, 1, v => kil a :: some v :: l
  | a :: l, n + 2, v => a :: st1 l (n + 1) v
  | [a], 1, _ => [kil a]
def st2 : AL → Nat → Value → AL
  | _ :: _ :: l, 0, v => some v :: none :: l
  | a :: _ :: _ :: l, 1, v => kil a :: some v :: none :: l
  | a :: l, n + 2, v => a :: st2 l (n + 1) v
  | l, _, _ => l
def ldi (al : AL) (i : Nat) (f : Int32 → Prop) : Prop := match al[i]? with
  | some (some (.int x)) => f x
  | _ => False
def ldl (al : AL) (i : Nat) (f : Int64 → Prop) : Prop := match al[i]? with
  | some (some (.long x)) => f x
  | _ => False
def ldd (al : AL) (i : Nat) (f : UInt64 → Prop) : Prop := match al[i]? with
  | some (some (.double x)) => f x
  | _ => False
def lda (al : AL) (i : Nat) (f : Nat → Prop) : Prop := match al[i]? with
  | some (some (.ref x)) => f x
  | _ => False
def br (c A B : Prop) : Prop := (c → A) ∧ (¬ c → B)
def icn (c : ClassFile.Cond) (x y : Int32) : Prop := match c with
  | .eq => x = y
  | .ne => ¬ x = y
  | .lt => x < y
  | .ge => y ≤ x
  | .gt => y < x
  | .le => x ≤ y
/-- a field's read -/
def gf (h : AH) (a c k : Nat) (f : Value → Prop) : Prop := ∃ (fs : List Value) (v : Value), h a = some (ob c fs) ∧ fs[k]? = some v ∧ f v
def afin (c k : Nat) : Bool := match acl[c]? with
  | some r => (r.2.1 k).2.2.2
  | none => false
def afo (c k : Nat) : String := match acl[c]? with
  | some r => (r.2.1 k).1
  | none => ""
def aN (c : Nat) : Nat := match acl[c]? with
  | some r => r.2.2
  | none => 0
/-- may be kept in a place of that type as it is -/
def okv (ty : FieldType) (v : Value) : Prop := narrow ty v = v ∧ fits ty v = true
def pf (h : AH) (a c k : Nat) (v : Value) (f : AH → Prop) : Prop := ∃ fs : List Value, h a = some (ob c fs) ∧ k < fs.length ∧ okv (aty c k) v ∧ f (hup h a (ob c (fs.set k v)))
def kok (k0 k : Nat) : Bool := k == k0 || (k0 == 0 && k == 5)
/-- an array's read, its length, its write -/
def ald (h : AH) (a k0 : Nat) (i : Int32) (f : Value → Prop) : Prop := ∃ (k n : Nat) (g : Nat → Value), h a = some (ra k n g) ∧ kok k0 k = true ∧ vp_in i n ∧ f (g i.toNatClampNeg)
def aln (h : AH) (a : Nat) (f : Int32 → Prop) : Prop := ∃ (k n : Nat) (g : Nat → Value), h a = some (ra k n g) ∧ f (Int32.ofNat n)
def ast (h : AH) (a k : Nat) (i : Int32) (v : Value) (f : AH → Prop) : Prop := ∃ (n : Nat) (g : Nat → Value), h a = some (ra k n g) ∧ vp_in i n ∧ f (hup h a (ra k n (updV' g i.toNatClampNeg v)))
def dfl (c : Nat) : List Value := (List.range (aN c)).map (fun k => defaultValue (aty c k))
/-- the handler that takes an exception thrown at a call -/
def hdl (m E pc : Nat) : Option Nat := ((mhh m).find? (fun x => decide (x.1 ≤ pc) && decide (pc < x.2.1) && (cat (mo m) x.2.2.2 == some (1, E)))).map (fun x => x.2.2.1)
/-- new X(text); athrow: as written -/
def thr (m E pc : Nat) : Bool :=
  (match decode (mcode m) (pc + 3) with | .ok (.dup, 1) => true | _ => false) &&
  ((match decode (mcode m) (pc + 4) with
    | .ok (.ldc is, 2) => strL.any (fun e => e.1 == is) && (match decode (mcode m) (pc + 6) with
      | .ok (.invokespecial ic, 3) => excL.contains (E, ic) && (match decode (mcode m) (pc + 9) with | .ok (.athrow, 1) => true | _ => false)
      | _ => false)
    | .ok (.ldc_w is, 3) => decide (E ≠ 3) && strL.any (fun e => e.1 == is) && (match decode (mcode m) (pc + 7) with
      | .ok (.invokespecial ic, 3) => excL.contains (E, ic) && (match decode (mcode m) (pc + 10) with | .ok (.athrow, 1) => true | _ => false)
      | _ => false)
    | _ => false))
/-- an instruction's length -/
def ilok (pc : Nat) (i : Instr) (len : Nat) : Bool := match i with
  | .tableswitch dflt _ _ offs => decide (0 ≤ (pc : Int) + dflt) && offs.toList.all (fun o => decide (0 ≤ (pc : Int) + o))
  | .ifCond _ off | .if_icmp _ off | .goto off => len == 3 && decide (0 ≤ (pc : Int) + off)
  | .aload _ | .iload _ | .lload _ | .dload _ | .astore _ | .istore _ | .lstore _ | .dstore _ | .bipush _ | .ldc _ | .newarray _ => len == 2
  | .sipush _ | .ldc2_w _ | .ldc_w _ | .iinc _ _ | .getfield _ | .putfield _ | .new _ | .invokevirtual _ | .invokestatic _ | .invokespecial _ => len == 3
  | .multianewarray _ _ => len == 4
  | _ => len == 1
section ASem
variable (C : ASp) (m mc ms : Nat) (P : AP) (X : AX)
def aRet (pc : Nat) (al : AL) (rest : List Value) (k n : Nat) (o : AO) (h : AH) (z : Nat) : Prop := match o with
  | .inl none => X (pc + 3) al rest h z k n
  | .inl (some v) => X (pc + 3) al (v :: rest) h z k n
  | .inr E => match hdl m E pc with
    | some hp => ∀ q : Nat, X hp al [.ref q] h z k n
    | none => mhh m = [] ∧ k ≤ mc ∧ n ≤ ms ∧ P (.inr E) h z
def aCall (pc : Nat) (al : AL) (rest : List Value) (h : AH) (z k n mi : Nat) (As : List Value) : Prop :=
  (rest.map fun v => v.category).sum ≤ 8 ∧ ∃ (mc' ms' : Nat) (P' : AP), C mi As h z mc' ms' P' ∧ k + mc' ≤ mc ∧ n + ms' ≤ ms ∧ ∀ (o : AO) (h' : AH) (z' : Nat), P' o h' z' → aRet m mc ms P X pc al rest (k + mc') (n + ms') o h' z'
def tgt (pc : Nat) (off : Int) : Nat := ((pc : Int) + off).toNat
def aJ (pc : Nat) (off : Int) (al : AL) (st : List Value) (h : AH) (z k n : Nat) : Prop := X (tgt pc off) al st h z k n
def aOut (v : Option Value) (h : AH) (z k n : Nat) : Prop := k ≤ mc ∧ n ≤ ms ∧ P (.inl v) h z
def aSem (pc : Nat) (al : AL) (st : List Value) (h : AH) (z k n : Nat) (i : Instr) (len : Nat) : Prop := match i with
  | .aload j => lda al j fun a => X (pc + 2) al (.ref a :: st) h z k n
  | .aload_n j => lda al j fun a => X (pc + 1) al (.ref a :: st) h z k n
  | .iload j => ldi al j fun a => X (pc + 2) al (.int a :: st) h z k n
  | .iload_n j => ldi al j fun a => X (pc + 1) al (.int a :: st) h z k n
  | .lload j => ldl al j fun a => X (pc + 2) al (.long a :: st) h z k n
  | .lload_n j => ldl al j fun a => X (pc + 1) al (.long a :: st) h z k n
  | .dload j => ldd al j fun a => X (pc + 2) al (.double a :: st) h z k n
  | .dload_n j => ldd al j fun a => X (pc + 1) al (.double a :: st) h z k n
  | .astore j => match st with
    | .ref a :: r => j < al.length ∧ X (pc + 2) (st1 al j (.ref a)) r h z k n
    | _ => False
  | .astore_n j => match st with
    | .ref a :: r => j.val < al.length ∧ X (pc + 1) (st1 al j (.ref a)) r h z k n
    | _ => False
  | .istore j => match st with
    | .int a :: r => j < al.length ∧ X (pc + 2) (st1 al j (.int a)) r h z k n
    | _ => False
  | .istore_n j => match st with
    | .int a :: r => j.val < al.length ∧ X (pc + 1) (st1 al j (.int a)) r h z k n
    | _ => False
  | .lstore j => match st with
    | .long a :: r => j + 1 < al.length ∧ X (pc + 2) (st2 al j (.long a)) r h z k n
    | _ => False
  | .lstore_n j => match st with
    | .long a :: r => j.val + 1 < al.length ∧ X (pc + 1) (st2 al j (.long a)) r h z k n
    | _ => False
  | .dstore j => match st with
    | .double a :: r => j + 1 < al.length ∧ X (pc + 2) (st2 al j (.double a)) r h z k n
    | _ => False
  | .dstore_n j => match st with
    | .double a :: r => j.val + 1 < al.length ∧ X (pc + 1) (st2 al j (.double a)) r h z k n
    | _ => False
  | .iconst i => X (pc + 1) al (.int (Int32.ofInt i) :: st) h z k n
  | .lconst i => X (pc + 1) al (.long (Int64.ofNat i) :: st) h z k n
  | .dconst i => i = 0 ∧ X (pc + 1) al (.double FP.dconst0 :: st) h z k n
  | .bipush i => X (pc + 2) al (.int (Int8.ofInt i).toInt32 :: st) h z k n
  | .sipush i => X (pc + 3) al (.int (Int16.ofInt i).toInt32 :: st) h z k n
  | .ldc i => match kres (mo m) i with
    | some v => X (pc + 2) al (.int v :: st) h z k n
    | none => False
  | .ldc_w i => match kres (mo m) i with
    | some v => X (pc + 3) al (.int v :: st) h z k n
    | none => False
  | .ldc2_w i => match lres (mo m) i with
    | some v => X (pc + 3) al (.long v :: st) h z k n
    | none => False
  | .dup => match st with
    | v :: r => v.category = 1 ∧ X (pc + 1) al (v :: v :: r) h z k n
    | _ => False
  | .pop => match st with
    | v :: r => v.category = 1 ∧ X (pc + 1) al r h z k n
    | _ => False
  | .dup2 => match st with
    | v :: w :: r => v.category = 1 ∧ w.category = 1 ∧ X (pc + 1) al (v :: w :: v :: w :: r) h z k n
    | _ => False
  | .iadd => match st with
    | .int y :: .int x :: r => X (pc + 1) al (.int (x + y) :: r) h z k n
    | _ => False
  | .isub => match st with
    | .int y :: .int x :: r => X (pc + 1) al (.int (x - y) :: r) h z k n
    | _ => False
  | .imul => match st with
    | .int y :: .int x :: r => X (pc + 1) al (.int (x * y) :: r) h z k n
    | _ => False
  | .idiv => match st with
    | .int y :: .int x :: r => y ≠ 0 ∧ X (pc + 1) al (.int (x / y) :: r) h z k n
    | _ => False
  | .irem => match st with
    | .int y :: .int x :: r => y ≠ 0 ∧ X (pc + 1) al (.int (x - x / y * y) :: r) h z k n
    | _ => False
  | .ineg => match st with
    | .int x :: r => X (pc + 1) al (.int (-x) :: r) h z k n
    | _ => False
  | .iand => match st with
    | .int y :: .int x :: r => X (pc + 1) al (.int (x &&& y) :: r) h z k n
    | _ => False
  | .ior => match st with
    | .int y :: .int x :: r => X (pc + 1) al (.int (x ||| y) :: r) h z k n
    | _ => False
  | .ixor => match st with
    | .int y :: .int x :: r => X (pc + 1) al (.int (x ^^^ y) :: r) h z k n
    | _ => False
  | .ishl => match st with
    | .int y :: .int x :: r => X (pc + 1) al (.int (x <<< (y &&& 31)) :: r) h z k n
    | _ => False
  | .ishr => match st with
    | .int y :: .int x :: r => X (pc + 1) al (.int (x >>> (y &&& 31)) :: r) h z k n
    | _ => False
  | .iushr => match st with
    | .int y :: .int x :: r => X (pc + 1) al (.int (x.toUInt32 >>> (y.toUInt32 &&& Int32.toUInt32 31)).toInt32 :: r) h z k n
    | _ => False
  | .ladd => match st with
    | .long y :: .long x :: r => X (pc + 1) al (.long (x + y) :: r) h z k n
    | _ => False
  | .lsub => match st with
    | .long y :: .long x :: r => X (pc + 1) al (.long (x - y) :: r) h z k n
    | _ => False
  | .lmul => match st with
    | .long y :: .long x :: r => X (pc + 1) al (.long (x * y) :: r) h z k n
    | _ => False
  | .ldiv => match st with
    | .long y :: .long x :: r => y ≠ 0 ∧ X (pc + 1) al (.long (x / y) :: r) h z k n
    | _ => False
  | .lrem => match st with
    | .long y :: .long x :: r => y ≠ 0 ∧ X (pc + 1) al (.long (x - x / y * y) :: r) h z k n
    | _ => False
  | .lneg => match st with
    | .long x :: r => X (pc + 1) al (.long (-x) :: r) h z k n
    | _ => False
  | .land => match st with
    | .long y :: .long x :: r => X (pc + 1) al (.long (x &&& y) :: r) h z k n
    | _ => False
  | .lor => match st with
    | .long y :: .long x :: r => X (pc + 1) al (.long (x ||| y) :: r) h z k n
    | _ => False
  | .lxor => match st with
    | .long y :: .long x :: r => X (pc + 1) al (.long (x ^^^ y) :: r) h z k n
    | _ => False
  | .lshl => match st with
    | .int y :: .long x :: r => X (pc + 1) al (.long (x <<< (y.toInt64 &&& 63)) :: r) h z k n
    | _ => False
  | .lshr => match st with
    | .int y :: .long x :: r => X (pc + 1) al (.long (x >>> (y.toInt64 &&& 63)) :: r) h z k n
    | _ => False
  | .lushr => match st with
    | .int y :: .long x :: r => X (pc + 1) al (.long (x.toUInt64 >>> (y.toInt64.toUInt64 &&& Int64.toUInt64 63)).toInt64 :: r) h z k n
    | _ => False
  | .i2l => match st with
    | .int x :: r => X (pc + 1) al (.long x.toInt64 :: r) h z k n
    | _ => False
  | .l2i => match st with
    | .long x :: r => X (pc + 1) al (.int x.toInt32 :: r) h z k n
    | _ => False
  | .i2d => match st with
    | .int x :: r => X (pc + 1) al (.double (FP.i2d x) :: r) h z k n
    | _ => False
  | .ddiv => match st with
    | .double y :: .double x :: r => vf_n64 (FP.ddiv x y) ∧ X (pc + 1) al (.double (FP.ddiv x y) :: r) h z k n
    | _ => False
  | .dcmp op => match st with
    | .double y :: .double x :: r => X (pc + 1) al (.int (Op.cmpValue (FP.dcmp x y) op) :: r) h z k n
    | _ => False
  | .lcmp => match st with
    | .long y :: .long x :: r => X (pc + 1) al (.int (lg_cmp x y) :: r) h z k n
    | _ => False
  | .iinc j c => ldi al j fun x => X (pc + 3) (st1 al j (.int (x + Int32.ofInt c))) st h z k n
  | .ifCond c off => match st with
    | .int x :: r => br (icn c x 0) (aJ X pc off al r h z k n) (X (pc + 3) al r h z k n)
    | _ => False
  | .if_icmp c off => match st with
    | .int y :: .int x :: r => br (icn c x y) (aJ X pc off al r h z k n) (X (pc + 3) al r h z k n)
    | _ => False
  | .goto off => aJ X pc off al st h z k n
  | .tableswitch dflt lo hi offs => match st with
    | .int x :: r => br (x.toInt < lo ∨ hi < x.toInt) (aJ X pc dflt al r h z k n) (∃ off, offs[(x.toInt - lo).toNat]? = some off ∧ aJ X pc off al r h z k n)
    | _ => False
  | .ireturn => match st with
    | [.int v] => (match mret m with | some ty => narrow ty (.int v) = .int v | none => False) ∧ aOut mc ms P (some (.int v)) h z k n
    | _ => False
  | .lreturn => match st with
    | [.long v] => mret m = some .long ∧ aOut mc ms P (some (.long v)) h z k n
    | _ => False
  | .dreturn => match st with
    | [.double v] => mret m = some .double ∧ aOut mc ms P (some (.double v)) h z k n
    | _ => False
  | .return_ => match st with
    | [] => mret m = none ∧ aOut mc ms P none h z k n
    | _ => False
  | .getfield i => match st, fres (mo m) i with
    | .ref a :: r, some (c, f) => gf h a c f fun v => X (pc + 3) al (v :: r) h z k n
    | _, _ => False
  | .putfield i => match st, fres (mo m) i with
    | v :: .ref a :: r, some (c, f) => (afin c f = true → (my m).name = "<init>" ∧ afo c f = ocn (mo m)) ∧ pf h a c f v fun h' => X (pc + 3) al r h' z k n
    | _, _ => False
  | .arraylength => match st with
    | .ref a :: r => aln h a fun v => X (pc + 1) al (.int v :: r) h z k n
    | _ => False
  | .iaload => match st with
    | .int i :: .ref a :: r => ald h a 0 i fun v => X (pc + 1) al (v :: r) h z k n
    | _ => False
  | .laload => match st with
    | .int i :: .ref a :: r => ald h a 1 i fun v => X (pc + 1) al (v :: r) h z k n
    | _ => False
  | .baload => match st with
    | .int i :: .ref a :: r => ald h a 2 i fun v => X (pc + 1) al (v :: r) h z k n
    | _ => False
  | .daload => match st with
    | .int i :: .ref a :: r => ald h a 3 i fun v => X (pc + 1) al (v :: r) h z k n
    | _ => False
  | .aaload => match st with
    | .int i :: .ref a :: r => ald h a 4 i fun v => X (pc + 1) al (v :: r) h z k n
    | _ => False
  | .iastore => match st with
    | .int v :: .int i :: .ref a :: r => ast h a 0 i (.int v) fun h' => X (pc + 1) al r h' z k n
    | _ => False
  | .lastore => match st with
    | .long v :: .int i :: .ref a :: r => ast h a 1 i (.long v) fun h' => X (pc + 1) al r h' z k n
    | _ => False
  | .bastore => match st with
    | .int v :: .int i :: .ref a :: r => ast h a 2 i (narrow .boolean (.int v)) fun h' => X (pc + 1) al r h' z k n
    | _ => False
  | .dastore => match st with
    | .double v :: .int i :: .ref a :: r => ast h a 3 i (.double v) fun h' => X (pc + 1) al r h' z k n
    | _ => False
  | .newarray t => match st with
    | .int l :: r => ∃ kd : Nat, newarray.typeOf t = AT kd ∧ kd < 4 ∧ ¬ l < 0 ∧ l.toNatClampNeg ≤ 1000 ∧ k + 1 ≤ mc ∧ n + l.toNatClampNeg ≤ ms ∧ X (pc + 2) al (.ref z :: r) (hup h z (ra kd l.toNatClampNeg fun _ => defaultValue (AT kd))) (z + 1) (k + 1) (n + l.toNatClampNeg)
    | _ => False
  | .multianewarray i d => match st with
    | .int l2 :: .int l1 :: r => mo m = 6 ∧ i = 9 ∧ d = 2 ∧ l1 = 9 ∧ l2 = 9 ∧ k + 10 ≤ mc ∧ n + 90 ≤ ms ∧ X (pc + 4) al (.ref z :: r) (fun q => if q = z then some (ra 4 9 fun j => .ref (z + 1 + j)) else if z < q ∧ q ≤ z + 9 then some (ra 2 9 fun _ => .int 0) else h q) (z + 10) (k + 10) (n + 90)
    | _ => False
  | .new i => match cres (mo m) i with
    | some (0, c) => k + 1 ≤ mc ∧ n + aN c ≤ ms ∧ X (pc + 3) al (.ref z :: st) (hup h z (ob c (dfl c))) (z + 1) (k + 1) (n + aN c)
    | some (1, E) => thr m E pc = true ∧ mhh m = [] ∧ (st.map fun v => v.category).sum ≤ 8 ∧ k + 1 ≤ mc ∧ n + 6 ≤ ms ∧ ∀ z' : Nat, z ≤ z' → P (.inr E) h z'
    | _ => False
  | .invokevirtual i => match mres (mo m) i with
    | some (0, mi) => ∃ (As : List Value) (a : Nat) (r : List Value) (c : Nat) (fs : List Value), st = As.reverse ++ .ref a :: r ∧ As.length = mna mi ∧ h a = some (ob c fs) ∧ (acl[c]?).map (fun q => q.1) = some (my mi).cls ∧ aCall C m mc ms P X pc al r h z k n mi (.ref a :: As)
    | _ => False
  | .invokestatic i => match mres (mo m) i with
    | some (1, mi) => ∃ (As r : List Value), st = As.reverse ++ r ∧ As.length = mna mi ∧ aCall C m mc ms P X pc al r h z k n mi As
    | _ => False
  | .invokespecial i => match mres (mo m) i with
    | some (2, mi) => ∃ (As : List Value) (a : Nat) (r : List Value), st = As.reverse ++ .ref a :: r ∧ As.length = mna mi ∧ aCall C m mc ms P X pc al r h z k n mi (.ref a :: As)
    | some (4, mi) => ∃ (As : List Value) (a : Nat) (r : List Value), st = As.reverse ++ .ref a :: r ∧ As.length = mna mi ∧ aCall C m mc ms P X pc al r h z k n mi (.ref a :: As)
    | some (3, _) => match st with
      | .ref _ :: r => (r.map fun v => v.category).sum ≤ 8 ∧ X (pc + 3) al r h z k n
      | _ => False
    | _ => False
  | _ => False
def aStep (pc : Nat) (al : AL) (st : List Value) (h : AH) (z k n : Nat) : Prop := match decode (mcode m) pc with
  | .ok (i, len) => ilok pc i len = true ∧ aSem C m mc ms P X pc al st h z k n i len
  | .error _ => False
end ASem
/-- the machine comes to an end where P holds: the least fixed point of a step -/
def aW (C : ASp) (m mc ms : Nat) (P : AP) : AX := fun pc al st h z k n =>
  ∀ X : AX, (∀ pc al st h z k n, aStep C m mc ms P X pc al st h z k n → X pc al st h z k n) → X pc al st h z k n
def aEnt : List Value → AL
  | [] => []
  | v :: vs => if v.category = 2 then some v :: none :: aEnt vs else some v :: aEnt vs
def aEntry (m : Nat) (as : List Value) : AL := aEnt as ++ List.replicate (mmax m - (aEnt as).length) none
/-- a method's contract, at a depth of calls -/
def Sp : Nat → ASp
  | 0 => fun _ _ _ _ _ _ _ => False
  | d + 1 => fun m as h z mc ms P => m < 216 ∧ (aEnt as).length ≤ mmax m ∧ aW (Sp d) m mc ms P 0 (aEntry m as) [] h z 0 0
