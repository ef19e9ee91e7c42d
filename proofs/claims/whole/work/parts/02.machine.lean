/-! THE ABSTRACT MACHINE: a heap of numbers, and what each instruction does to it; mEv is the least thing that is closed under the instructions (so: it ends). -/
/-- the next free address; of each address its kind and length; its whole numbers, its longs, its references -/
abbrev mH : Type := Nat × (Nat → Nat × Nat) × (Nat → Nat → Int32) × (Nat → Nat → Int64) × (Nat → Nat → Option Nat)
def mE (h : mH) : Nat := h.1
def mS (h : mH) (a : Nat) : Nat × Nat := h.2.1 a
def mI (h : mH) (a k : Nat) : Int32 := h.2.2.1 a k
def mJ (h : mH) (a k : Nat) : Int64 := h.2.2.2.1 a k
def mR (h : mH) (a k : Nat) : Option Nat := h.2.2.2.2 a k
def wI (h : mH) (a k : Nat) (x : Int32) : mH := (h.1, h.2.1, fun b => if b = a then upd (h.2.2.1 b) k x else h.2.2.1 b, h.2.2.2.1, h.2.2.2.2)
def wJ (h : mH) (a k : Nat) (x : Int64) : mH := (h.1, h.2.1, h.2.2.1, fun b => if b = a then vp_updL (h.2.2.2.1 b) k x else h.2.2.2.1 b, h.2.2.2.2)
def wR (h : mH) (a k : Nat) (x : Option Nat) : mH := (h.1, h.2.1, h.2.2.1, h.2.2.2.1, fun b => if b = a then va_up (h.2.2.2.2 b) k x else h.2.2.2.2 b)
def wA (h : mH) (a : Nat) (f : Nat → Int32) : mH := (h.1, h.2.1, fun b => if b = a then f else h.2.2.1 b, h.2.2.2.1, h.2.2.2.2)
def wN (h : mH) (kd n : Nat) : mH := (h.1 + 1, va_up h.2.1 h.1 (kd, n), va_up h.2.2.1 h.1 (fun _ => 0), va_up h.2.2.2.1 h.1 (fun _ => 0), va_up h.2.2.2.2 h.1 (fun _ => none))
/-- the classes whose objects the worlds hold -/
abbrev classes : List vw_C := [(RX0, TX0, 6), (RX1, TX1, 4), (RX2, TX2, 6), (RX3, TX3, 8), (RX4, TX4, 5), (RX5, TX5, 11), (RX6, TX6, 14), (RX7, TX7, 10), (RX8, TX8, 8), (RX9, TX9, 7), (RX10, TX10, 4), (RX11, TX11, 8), (RX12, TX12, 61)]
def mty (c : Nat) : Nat → FieldType := match c with
  | 0 => tyX0
  | 1 => tyX1
  | 2 => tyX2
  | 3 => tyX3
  | 4 => tyX4
  | 5 => tyX5
  | 6 => tyX6
  | 7 => tyX7
  | 8 => tyX8
  | 9 => tyX9
  | 10 => tyX10
  | 11 => tyX11
  | _ => tyX12
def mnf (c : Nat) : Nat := match c with
  | 0 => 6
  | 1 => 4
  | 2 => 6
  | 3 => 8
  | 4 => 5
  | 5 => 11
  | 6 => 14
  | 7 => 10
  | 8 => 8
  | 9 => 7
  | 10 => 4
  | 11 => 8
  | _ => 61
def mTT (c : Nat) : u_T := match c with
  | 0 => TX0
  | 1 => TX1
  | 2 => TX2
  | 3 => TX3
  | 4 => TX4
  | 5 => TX5
  | 6 => TX6
  | 7 => TX7
  | 8 => TX8
  | 9 => TX9
  | 10 => TX10
  | 11 => TX11
  | _ => TX12
/-- the names of the classes whose code runs; 13: the law's, 14 on: the JDK's -/
def mCn (c : Nat) : String := match c with
  | 0 => RX0
  | 1 => RX1
  | 2 => RX2
  | 3 => RX3
  | 4 => RX4
  | 5 => RX5
  | 6 => RX6
  | 7 => RX7
  | 8 => RX8
  | 9 => RX9
  | 10 => RX10
  | 11 => RX11
  | 12 => RX12
  | 13 => RL
  | 14 => RJ7
  | 15 => RJ9
  | 16 => RJ6
  | 17 => RJ13
  | 18 => RJ0
  | _ => RJ1
/-- the value of field k of an object of class c at a -/
def mfv (h : mH) (a c k : Nat) : Value := match mty c k with
  | .long => .long (mJ h a k)
  | .object _ => va_rf (mR h a k)
  | .array _ => va_rf (mR h a k)
  | _ => .int (mI h a k)
/-- kinds of arrays: 13 byte, 14 int, 15 long, 16 boolean, 17 on of references -/
def mat (k : Nat) : FieldType := match k with
  | 13 => .byte
  | 14 => .int
  | 15 => .long
  | 16 => .boolean
  | 17 => .object RX1
  | 18 => .object RX2
  | 19 => .object RX8
  | _ => .object RX10
def mce (cA : Nat → ClassId) (h : mH) (a : Nat) : va_E :=
  if (mS h a).1 < 13 then .inr ((mS h a).1, (List.range (mnf (mS h a).1)).map (mfv h a (mS h a).1))
  else if (mS h a).1 = 15 then .inl (cA 15, (mS h a).2, .inr (.inl (mJ h a)))
  else if 17 ≤ (mS h a).1 then .inl (cA (mS h a).1, (mS h a).2, .inr (.inr (.inr (.inr (mR h a)))))
  else .inl (cA (mS h a).1, (mS h a).2, .inl (mI h a))
def mwl (cA : Nat → ClassId) (B : Nat) (h : mH) : va_W := (List.range (mE h - B)).map (fun i => (B + i, mce cA h (B + i)))
def mtys (cA : Nat → ClassId) : List (ClassId × FieldType) := (List.range 8).map (fun i => (cA (13 + i), mat (13 + i)))
/-- locals -/
abbrev mL : Type := List (Option Value)
def mKill (L : mL) (i : Nat) : mL := match i with
  | 0 => L
  | j + 1 => match L[j]? with
    | some (some w) => if w.category = 2 then L.set j none else L
    | _ => L
def mSet1 (L : mL) (i : Nat) (v : Value) : mL := (mKill L i).set i (some v)
def mSet2 (L : mL) (i : Nat) (v : Value) : mL := ((mKill L i).set i (some v)).set (i + 1) none
/-- the locals with which a method begins -/
def mIn : List Value → mL
  | [] => []
  | v :: vs => if v.category = 2 then some v :: none :: mIn vs else some v :: mIn vs
def mIns (n : Nat) (vs : List Value) : mL := mIn vs ++ List.replicate (n - (mIn vs).length) none
/-- a method: the number of its class, its name, code, locals, what it returns, how many numbers it takes -/
abbrev mM : Type := Nat × MethodName × ByteArray × Nat × Option FieldType × Nat
def mMo (M : mM) : Nat := M.1
def mMn (M : mM) : MethodName := M.2.1
def mMc (M : mM) : ByteArray := M.2.2.1
def mMl (M : mM) : Nat := M.2.2.2.1
def mMr (M : mM) : Option FieldType := M.2.2.2.2.1
def mMp (M : mM) : Nat := M.2.2.2.2.2
abbrev mX : Type := Nat → mL → List Value → mH → Nat × Nat → Prop
abbrev mQ : Type := Option Value → mH → Prop
abbrev mZ : Type := Option Value → mH → Nat × Nat → Prop
abbrev mC : Type := mM → List Value → mH → Nat → Nat → mQ → Prop
def mCmp (c : Jvm.ClassFile.Cond) (x y : Int32) : Prop := match c with
  | .eq => x = y
  | .ne => ¬ x = y
  | .lt => x < y
  | .ge => y ≤ x
  | .gt => y < x
  | .le => x ≤ y
def mTab (d lo hi : Int) (offs : Array Int) (x : Int) : Int := if x < lo ∨ hi < x then d else (offs[(x - lo).toNat]?).getD d
def mPut (h : mH) (a k : Nat) (v : Value) : mH := match v with
  | .int x => wI h a k x
  | .long x => wJ h a k x
  | .ref b => wR h a k (some b)
  | _ => wR h a k none
/-- the tables of the class files: fields (class, number), constants, classes, kinds of arrays, methods by how they are called -/
abbrev mTb : Type := (Nat → Nat → Option (Nat × Nat)) × (Nat → Nat → Option (Int32 ⊕ Nat)) × (Nat → Nat → Option Int64) × (Nat → Nat → Option Nat) × (Nat → Nat → Option Nat) × (Nat → Nat → Option Nat) × (Nat → Nat → Option (Nat × mM))
def tFld (T : mTb) (o i : Nat) : Option (Nat × Nat) := T.1 o i
def tLdc (T : mTb) (o i : Nat) : Option (Int32 ⊕ Nat) := T.2.1 o i
def tLdl (T : mTb) (o i : Nat) : Option Int64 := T.2.2.1 o i
def tCls (T : mTb) (o i : Nat) : Option Nat := T.2.2.2.1 o i
def tAnw (T : mTb) (o i : Nat) : Option Nat := T.2.2.2.2.1 o i
def tSta (T : mTb) (o i : Nat) : Option Nat := T.2.2.2.2.2.1 o i
def tMet (T : mTb) (o i : Nat) : Option (Nat × mM) := T.2.2.2.2.2.2 o i
def mArk (t : ArrayType) : Option Nat := match t with
  | .byte => some 13
  | .int => some 14
  | .long => some 15
  | .boolean => some 16
  | _ => none
/-- what a method's end returns -/
def mRt (M : mM) (ins : Instr) (st : List Value) (v : Option Value) : Prop := match ins with
  | .ireturn => ∃ x ty, st = [.int x] ∧ mMr M = some ty ∧ narrow ty (.int x) = .int x ∧ v = some (.int x)
  | .lreturn => ∃ x, st = [.long x] ∧ mMr M = some .long ∧ v = some (.long x)
  | .areturn => ∃ x n, st = [va_rf x] ∧ mMr M = some (.object n) ∧ v = some (va_rf x)
  | .return_ => st = [] ∧ mMr M = none ∧ v = none
  | _ => False
/-- what was there before and is only read: addresses, lengths, contents; 0 to 4 the static arrays, 5 to 19 the texts, 20 the script -/
abbrev mA : Type := (Nat → Nat) × (Nat → Nat) × (Nat → Nat → Int32)
def mOj (j : Nat) : Prop := j < 5 ∨ j = 20
/-- one instruction: what is asked, so that X holds behind it (or the method's end Q) -/
def mW1 (T : mTb) (ad : mA) (M : mM) (dp : Nat) (lim : Nat × Nat) (cal : mC) (Q : mZ) (X : mX) (ins : Instr) (pc : Nat) (L : mL) (st : List Value) (h : mH) (z : Nat × Nat) : Prop :=
  match ins with
  | .aconst_null => X (pc + 1) L (.null :: st) h z
  | .iconst i => X (pc + 1) L (.int (Int32.ofInt i) :: st) h z
  | .bipush b => X (pc + 2) L (.int (Int8.ofInt b).toInt32 :: st) h z
  | .sipush n => X (pc + 3) L (.int (Int16.ofInt n).toInt32 :: st) h z
  | .lconst n => X (pc + 1) L (.long (Int64.ofNat (n : Nat)) :: st) h z
  | .ldc i => (∃ x, tLdc T (mMo M) i = some (.inl x) ∧ X (pc + 2) L (.int x :: st) h z) ∨ (∃ j, tLdc T (mMo M) i = some (.inr j) ∧ X (pc + 2) L (.ref (ad.1 j) :: st) h z)
  | .ldc_w i => ∃ x, tLdc T (mMo M) i = some (.inl x) ∧ X (pc + 3) L (.int x :: st) h z
  | .ldc2_w i => ∃ x, tLdl T (mMo M) i = some x ∧ X (pc + 3) L (.long x :: st) h z
  | .iload i => ∃ x, L[i]? = some (some (.int x)) ∧ X (pc + 2) L (.int x :: st) h z
  | .iload_n k => ∃ x, L[(k : Nat)]? = some (some (.int x)) ∧ X (pc + 1) L (.int x :: st) h z
  | .lload i => ∃ x, L[i]? = some (some (.long x)) ∧ X (pc + 2) L (.long x :: st) h z
  | .lload_n k => ∃ x, L[(k : Nat)]? = some (some (.long x)) ∧ X (pc + 1) L (.long x :: st) h z
  | .aload i => ∃ r, L[i]? = some (some (va_rf r)) ∧ X (pc + 2) L (va_rf r :: st) h z
  | .aload_n k => ∃ r, L[(k : Nat)]? = some (some (va_rf r)) ∧ X (pc + 1) L (va_rf r :: st) h z
  | .istore i => ∃ x r, st = .int x :: r ∧ i < L.length ∧ X (pc + 2) (mSet1 L i (.int x)) r h z
  | .istore_n k => ∃ x r, st = .int x :: r ∧ (k : Nat) < L.length ∧ X (pc + 1) (mSet1 L k (.int x)) r h z
  | .lstore i => ∃ x r, st = .long x :: r ∧ i + 1 < L.length ∧ X (pc + 2) (mSet2 L i (.long x)) r h z
  | .lstore_n k => ∃ x r, st = .long x :: r ∧ (k : Nat) + 1 < L.length ∧ X (pc + 1) (mSet2 L k (.long x)) r h z
  | .astore i => ∃ x r, st = va_rf x :: r ∧ i < L.length ∧ X (pc + 2) (mSet1 L i (va_rf x)) r h z
  | .astore_n k => ∃ x r, st = va_rf x :: r ∧ (k : Nat) < L.length ∧ X (pc + 1) (mSet1 L k (va_rf x)) r h z
  | .iinc i n => ∃ x, L[i]? = some (some (.int x)) ∧ X (pc + 3) (mSet1 L i (.int (x + Int32.ofInt n))) st h z
  | .dup => ∃ v r, st = v :: r ∧ v.category = 1 ∧ X (pc + 1) L (v :: v :: r) h z
  | .dup2 => ∃ v w r, st = v :: w :: r ∧ v.category = 1 ∧ w.category = 1 ∧ X (pc + 1) L (v :: w :: v :: w :: r) h z
  | .pop => ∃ v r, st = v :: r ∧ v.category = 1 ∧ X (pc + 1) L r h z
  | .iadd => ∃ x y r, st = .int y :: .int x :: r ∧ X (pc + 1) L (.int (x + y) :: r) h z
  | .isub => ∃ x y r, st = .int y :: .int x :: r ∧ X (pc + 1) L (.int (x - y) :: r) h z
  | .imul => ∃ x y r, st = .int y :: .int x :: r ∧ X (pc + 1) L (.int (x * y) :: r) h z
  | .iand => ∃ x y r, st = .int y :: .int x :: r ∧ X (pc + 1) L (.int (x &&& y) :: r) h z
  | .ior => ∃ x y r, st = .int y :: .int x :: r ∧ X (pc + 1) L (.int (x ||| y) :: r) h z
  | .ixor => ∃ x y r, st = .int y :: .int x :: r ∧ X (pc + 1) L (.int (x ^^^ y) :: r) h z
  | .idiv => ∃ x y r, st = .int y :: .int x :: r ∧ ¬ y = 0 ∧ X (pc + 1) L (.int (x / y) :: r) h z
  | .irem => ∃ x y r, st = .int y :: .int x :: r ∧ ¬ y = 0 ∧ X (pc + 1) L (.int (x - x / y * y) :: r) h z
  | .ineg => ∃ x r, st = .int x :: r ∧ X (pc + 1) L (.int (-x) :: r) h z
  | .ishl => ∃ x y r, st = .int y :: .int x :: r ∧ X (pc + 1) L (.int (x <<< (y &&& 31)) :: r) h z
  | .ishr => ∃ x y r, st = .int y :: .int x :: r ∧ X (pc + 1) L (.int (x >>> (y &&& 31)) :: r) h z
  | .iushr => ∃ x y r, st = .int y :: .int x :: r ∧ X (pc + 1) L (.int (x.toUInt32 >>> (y.toUInt32 &&& Int32.toUInt32 31)).toInt32 :: r) h z
  | .ladd => ∃ x y r, st = .long y :: .long x :: r ∧ X (pc + 1) L (.long (x + y) :: r) h z
  | .lsub => ∃ x y r, st = .long y :: .long x :: r ∧ X (pc + 1) L (.long (x - y) :: r) h z
  | .lmul => ∃ x y r, st = .long y :: .long x :: r ∧ X (pc + 1) L (.long (x * y) :: r) h z
  | .land => ∃ x y r, st = .long y :: .long x :: r ∧ X (pc + 1) L (.long (x &&& y) :: r) h z
  | .lor => ∃ x y r, st = .long y :: .long x :: r ∧ X (pc + 1) L (.long (x ||| y) :: r) h z
  | .ldiv => ∃ x y r, st = .long y :: .long x :: r ∧ ¬ y = 0 ∧ X (pc + 1) L (.long (x / y) :: r) h z
  | .lrem => ∃ x y r, st = .long y :: .long x :: r ∧ ¬ y = 0 ∧ X (pc + 1) L (.long (x - x / y * y) :: r) h z
  | .lneg => ∃ x r, st = .long x :: r ∧ X (pc + 1) L (.long (-x) :: r) h z
  | .lshl => ∃ x y r, st = .int y :: .long x :: r ∧ X (pc + 1) L (.long (x <<< (y.toInt64 &&& 63)) :: r) h z
  | .lshr => ∃ x y r, st = .int y :: .long x :: r ∧ X (pc + 1) L (.long (x >>> (y.toInt64 &&& 63)) :: r) h z
  | .lushr => ∃ x y r, st = .int y :: .long x :: r ∧ X (pc + 1) L (.long (x.toUInt64 >>> (y.toInt64.toUInt64 &&& Int64.toUInt64 63)).toInt64 :: r) h z
  | .i2l => ∃ x r, st = .int x :: r ∧ X (pc + 1) L (.long x.toInt64 :: r) h z
  | .l2i => ∃ x r, st = .long x :: r ∧ X (pc + 1) L (.int x.toInt32 :: r) h z
  | .i2b => ∃ x r, st = .int x :: r ∧ X (pc + 1) L (.int x.toInt8.toInt32 :: r) h z
  | .i2c => ∃ x r, st = .int x :: r ∧ X (pc + 1) L (.int (x.toUInt32 % 65536).toInt32 :: r) h z
  | .lcmp => ∃ x y r, st = .long y :: .long x :: r ∧ X (pc + 1) L (.int (lg_cmp x y) :: r) h z
  | .ifCond c off => ∃ (x : Int32) (r : List Value) (t : Nat), st = .int x :: r ∧ (pc : Int) + off = (t : Int) ∧ (mCmp c x 0 → X t L r h z) ∧ (¬ mCmp c x 0 → X (pc + 3) L r h z)
  | .if_icmp c off => ∃ (x y : Int32) (r : List Value) (t : Nat), st = .int y :: .int x :: r ∧ (pc : Int) + off = (t : Int) ∧ (mCmp c x y → X t L r h z) ∧ (¬ mCmp c x y → X (pc + 3) L r h z)
  | .ifnull off => ∃ (x : Option Nat) (r : List Value) (t : Nat), st = va_rf x :: r ∧ (pc : Int) + off = (t : Int) ∧ (x = none → X t L r h z) ∧ (¬ x = none → X (pc + 3) L r h z)
  | .ifnonnull off => ∃ (x : Option Nat) (r : List Value) (t : Nat), st = va_rf x :: r ∧ (pc : Int) + off = (t : Int) ∧ (x = none → X (pc + 3) L r h z) ∧ (¬ x = none → X t L r h z)
  | .goto off => ∃ t : Nat, (pc : Int) + off = (t : Int) ∧ X t L st h z
  | .tableswitch d lo hi offs => ∃ (x : Int32) (r : List Value) (t : Nat), st = .int x :: r ∧ (¬ (x.toInt < lo ∨ hi < x.toInt) → (x.toInt - lo).toNat < offs.size) ∧ (pc : Int) + mTab d lo hi offs x.toInt = (t : Int) ∧ X t L r h z
  | .lookupswitch d ps => ∃ (x : Int32) (r : List Value) (t : Nat), st = .int x :: r ∧ (ps.toList.zip (ps.toList.drop 1)).all (fun (a, next) => a.1 < next.1) = true ∧ (pc : Int) + Op.lookupswitch.offset ps.toList d x.toInt = (t : Int) ∧ X t L r h z
  | .getfield i => ∃ a r c k, st = .ref a :: r ∧ tFld T (mMo M) i = some (c, k) ∧ (mS h a).1 = c ∧ X (pc + 3) L (mfv h a c k :: r) h z
  | .putfield i => ∃ v a r c k, st = v :: .ref a :: r ∧ tFld T (mMo M) i = some (c, k) ∧ (mS h a).1 = c ∧ narrow (mty c k) v = v ∧ fits (mty c k) v = true ∧ mfv (mPut h a k v) a c k = v ∧ ((mTT c k).2.2.2 = false ∨ ((mMn M).name = "<init>" ∧ c = mMo M)) ∧ X (pc + 3) L r (mPut h a k v) z
  | .getstatic i => ∃ j, tSta T (mMo M) i = some j ∧ X (pc + 3) L (.ref (ad.1 j) :: st) h z
  | .new i => ∃ c, tCls T (mMo M) i = some c ∧ z.1 + 1 ≤ lim.1 ∧ z.2 + mnf c ≤ lim.2 ∧ X (pc + 3) L (.ref (mE h) :: st) (wN h c 0) (z.1 + 1, z.2 + mnf c)
  | .newarray t => ∃ n r kd, st = .int n :: r ∧ mArk t = some kd ∧ ¬ n < 0 ∧ n.toNatClampNeg ≤ 4096 ∧ z.1 + 1 ≤ lim.1 ∧ z.2 + n.toNatClampNeg ≤ lim.2 ∧ X (pc + 2) L (.ref (mE h) :: r) (wN h kd n.toNatClampNeg) (z.1 + 1, z.2 + n.toNatClampNeg)
  | .anewarray i => ∃ n r kd, st = .int n :: r ∧ tAnw T (mMo M) i = some kd ∧ ¬ n < 0 ∧ n.toNatClampNeg ≤ 4096 ∧ z.1 + 1 ≤ lim.1 ∧ z.2 + n.toNatClampNeg ≤ lim.2 ∧ X (pc + 3) L (.ref (mE h) :: r) (wN h kd n.toNatClampNeg) (z.1 + 1, z.2 + n.toNatClampNeg)
  | .arraylength => (∃ a r, st = .ref a :: r ∧ (13 ≤ (mS h a).1 ∧ (mS h a).1 < 21) ∧ X (pc + 1) L (.int (Int32.ofNat (mS h a).2) :: r) h z) ∨ (∃ j r, st = .ref (ad.1 j) :: r ∧ mOj j ∧ X (pc + 1) L (.int (Int32.ofNat (ad.2.1 j)) :: r) h z)
  | .iaload => (∃ i a r, st = .int i :: .ref a :: r ∧ (mS h a).1 = 14 ∧ vp_in i (mS h a).2 ∧ X (pc + 1) L (.int (mI h a i.toNatClampNeg) :: r) h z) ∨ (∃ i j r, st = .int i :: .ref (ad.1 j) :: r ∧ mOj j ∧ vp_in i (ad.2.1 j) ∧ X (pc + 1) L (.int (ad.2.2 j i.toNatClampNeg) :: r) h z)
  | .baload => ∃ i a r, st = .int i :: .ref a :: r ∧ ((mS h a).1 = 13 ∨ (mS h a).1 = 16) ∧ vp_in i (mS h a).2 ∧ X (pc + 1) L (.int (mI h a i.toNatClampNeg) :: r) h z
  | .laload => ∃ i a r, st = .int i :: .ref a :: r ∧ (mS h a).1 = 15 ∧ vp_in i (mS h a).2 ∧ X (pc + 1) L (.long (mJ h a i.toNatClampNeg) :: r) h z
  | .aaload => ∃ i a r, st = .int i :: .ref a :: r ∧ 17 ≤ (mS h a).1 ∧ (mS h a).1 < 21 ∧ vp_in i (mS h a).2 ∧ X (pc + 1) L (va_rf (mR h a i.toNatClampNeg) :: r) h z
  | .iastore => ∃ x i a r, st = .int x :: .int i :: .ref a :: r ∧ (mS h a).1 = 14 ∧ vp_in i (mS h a).2 ∧ X (pc + 1) L r (wI h a i.toNatClampNeg x) z
  | .bastore => ∃ x i a r, st = .int x :: .int i :: .ref a :: r ∧ ((mS h a).1 = 13 ∨ (mS h a).1 = 16) ∧ vp_in i (mS h a).2 ∧ X (pc + 1) L r (wI h a i.toNatClampNeg (vp_nar (mat (mS h a).1) x)) z
  | .lastore => ∃ x i a r, st = .long x :: .int i :: .ref a :: r ∧ (mS h a).1 = 15 ∧ vp_in i (mS h a).2 ∧ X (pc + 1) L r (wJ h a i.toNatClampNeg x) z
  | .aastore => ∃ v i a r, st = .ref v :: .int i :: .ref a :: r ∧ 17 ≤ (mS h a).1 ∧ (mS h a).1 < 21 ∧ (mS h v).1 < 13 ∧ mat (mS h a).1 = .object (mCn (mS h v).1) ∧ vp_in i (mS h a).2 ∧ X (pc + 1) L r (wR h a i.toNatClampNeg (some v)) z
  | .invokevirtual i => (∃ N A a r mc ms, tMet T (mMo M) i = some (0, N) ∧ st = A.reverse ++ .ref a :: r ∧ A.length = mMp N ∧ (r.map fun v => v.category).sum ≤ 8 ∧ (mS h a).1 = mMo N ∧ mMo N < 13 ∧ z.1 + mc ≤ lim.1 ∧ z.2 + ms ≤ lim.2 ∧ cal N (.ref a :: A) h mc ms (fun v h' => X (pc + 3) L (v.toList ++ r) h' (z.1 + mc, z.2 + ms)))
    ∨ (∃ N j r, tMet T (mMo M) i = some (6, N) ∧ st = .ref (ad.1 j) :: r ∧ (r.map fun v => v.category).sum ≤ 8 ∧ (5 ≤ j ∧ j < 20) ∧ 6 ≤ dp ∧ X (pc + 3) L (.int (Int32.ofNat (ad.2.1 j)) :: r) h z)
    ∨ (∃ (N : mM) (j : Nat) (x : Int32) (r : List Value), tMet T (mMo M) i = some (7, N) ∧ st = .int x :: .ref (ad.1 j) :: r ∧ (r.map fun v => v.category).sum ≤ 8 ∧ (5 ≤ j ∧ j < 20) ∧ vp_in x (ad.2.1 j) ∧ 6 ≤ dp ∧ X (pc + 3) L (.int (ad.2.2 j x.toNatClampNeg &&& 255) :: r) h z)
  | .invokestatic i => (∃ N A r mc ms, tMet T (mMo M) i = some (1, N) ∧ st = A.reverse ++ r ∧ A.length = mMp N ∧ (r.map fun v => v.category).sum ≤ 8 ∧ z.1 + mc ≤ lim.1 ∧ z.2 + ms ≤ lim.2 ∧ cal N A h mc ms (fun v h' => X (pc + 3) L (v.toList ++ r) h' (z.1 + mc, z.2 + ms)))
    ∨ (∃ (N : mM) (n dp sp : Int32) (a a0 : Nat) (r : List Value), tMet T (mMo M) i = some (5, N) ∧ st = .int n :: .int dp :: .ref a :: .int sp :: .ref a0 :: r ∧ (r.map fun v => v.category).sum ≤ 8 ∧ ((mS h a).1 = 13 ∨ (mS h a).1 = 14) ∧ (mS h a0).1 = (mS h a).1 ∧ ¬ sp < 0 ∧ ¬ dp < 0 ∧ ¬ n < 0 ∧ sp.toNatClampNeg + n.toNatClampNeg ≤ (mS h a0).2 ∧ dp.toNatClampNeg + n.toNatClampNeg ≤ (mS h a).2 ∧ (∀ i, i < n.toNatClampNeg → fits (mat (mS h a).1) (.int (mI h a0 (sp.toNatClampNeg + i))) = true) ∧ X (pc + 3) L r (wA h a (va_cpy (mI h a0) (mI h a) sp.toNatClampNeg dp.toNatClampNeg n.toNatClampNeg)) z)
    ∨ (∃ (N : mM) (x y : Int32) (r : List Value), tMet T (mMo M) i = some (10, N) ∧ st = .int y :: .int x :: r ∧ (r.map fun v => v.category).sum ≤ 8 ∧ X (pc + 3) L (.int (if x < y then y else x) :: r) h z)
    ∨ (∃ (N : mM) (x y : Int32) (r : List Value), tMet T (mMo M) i = some (11, N) ∧ st = .int y :: .int x :: r ∧ (r.map fun v => v.category).sum ≤ 8 ∧ X (pc + 3) L (.int (if y < x then y else x) :: r) h z)
    ∨ (∃ (N : mM) (x : Int32) (r : List Value), tMet T (mMo M) i = some (12, N) ∧ st = .int x :: r ∧ (r.map fun v => v.category).sum ≤ 8 ∧ X (pc + 3) L (.int (if 0 ≤ x then x else 0 - x) :: r) h z)
    ∨ (∃ (N : mM) (x : Int64) (r : List Value), tMet T (mMo M) i = some (13, N) ∧ st = .long x :: r ∧ (r.map fun v => v.category).sum ≤ 8 ∧ X (pc + 3) L (.long (if 0 < x then x else -x) :: r) h z)
    ∨ (∃ (N : mM) (x y : Int64) (r : List Value), tMet T (mMo M) i = some (14, N) ∧ st = .long y :: .long x :: r ∧ (r.map fun v => v.category).sum ≤ 8 ∧ X (pc + 3) L (.long (if y < x then x else y) :: r) h z)
  | .invokespecial i => (∃ N A a r mc ms, (tMet T (mMo M) i = some (2, N) ∨ tMet T (mMo M) i = some (3, N)) ∧ st = A.reverse ++ .ref a :: r ∧ A.length = mMp N ∧ (r.map fun v => v.category).sum ≤ 8 ∧ z.1 + mc ≤ lim.1 ∧ z.2 + ms ≤ lim.2 ∧ cal N (.ref a :: A) h mc ms (fun v h' => X (pc + 3) L (v.toList ++ r) h' (z.1 + mc, z.2 + ms)))
    ∨ (∃ N a r, tMet T (mMo M) i = some (4, N) ∧ st = .ref a :: r ∧ (r.map fun v => v.category).sum ≤ 8 ∧ X (pc + 3) L r h z)
  | .ireturn => ∃ v, mRt M .ireturn st v ∧ Q v h z
  | .lreturn => ∃ v, mRt M .lreturn st v ∧ Q v h z
  | .areturn => ∃ v, mRt M .areturn st v ∧ Q v h z
  | .return_ => ∃ v, mRt M .return_ st v ∧ Q v h z
  | _ => False
/-- how long an instruction is -/
def mLen (ins : Instr) (n : Nat) : Prop := match ins with
  | .bipush _ => n = 2
  | .sipush _ => n = 3
  | .ldc _ => n = 2
  | .ldc_w _ => n = 3
  | .ldc2_w _ => n = 3
  | .iload _ => n = 2
  | .lload _ => n = 2
  | .aload _ => n = 2
  | .istore _ => n = 2
  | .lstore _ => n = 2
  | .astore _ => n = 2
  | .iinc _ _ => n = 3
  | .ifCond _ _ => n = 3
  | .if_icmp _ _ => n = 3
  | .ifnull _ => n = 3
  | .ifnonnull _ => n = 3
  | .goto _ => n = 3
  | .tableswitch _ _ _ _ => True
  | .lookupswitch _ _ => True
  | .getfield _ => n = 3
  | .putfield _ => n = 3
  | .getstatic _ => n = 3
  | .new _ => n = 3
  | .newarray _ => n = 2
  | .anewarray _ => n = 3
  | .invokevirtual _ => n = 3
  | .invokestatic _ => n = 3
  | .invokespecial _ => n = 3
  | _ => n = 1
/-- X is closed under the instructions of M -/
def mClo (T : mTb) (ad : mA) (M : mM) (dp : Nat) (lim : Nat × Nat) (cal : mC) (Q : mZ) (X : mX) : Prop :=
  ∀ (pc : Nat) (L : mL) (st : List Value) (h : mH) (z : Nat × Nat), (∃ ins len, decode (mMc M) pc = .ok (ins, len) ∧ mLen ins len ∧ mW1 T ad M dp lim cal Q X ins pc L st h z) → X pc L st h z
/-- from here the method comes to its end, and Q holds there -/
def mEv (T : mTb) (ad : mA) (M : mM) (dp : Nat) (lim : Nat × Nat) (cal : mC) (Q : mZ) : mX := fun pc L st h z => ∀ X : mX, mClo T ad M dp lim cal Q X → X pc L st h z
/-- a call, at most d deep -/
def mCal (T : mTb) (ad : mA) : Nat → mC
  | 0 => fun _ _ _ _ _ _ => False
  | d + 1 => fun M A h mc ms Q => (mIn A).length ≤ mMl M ∧ mEv T ad M (d + 1) (mc, ms) (mCal T ad d) (fun v h' z => z.1 = mc ∧ Q v h') 0 (mIns (mMl M) A) [] h (0, 0)
