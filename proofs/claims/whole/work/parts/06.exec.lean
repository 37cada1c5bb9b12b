/-! THE SMALL MACHINE: the bytecode over numbers of cells (a reference k + 3 is cell k of the heap; 0, 1, 2 are the script and the two static arrays), no answer where the machine would throw -/
abbrev xE : Type := (Nat × List Value) ⊕ ((Nat × (Nat → Int32)) ⊕ (Nat × Nat × (Nat → Option Nat)))
abbrev xH : Type := List xE
abbrev xRO : Type := Nat → Nat × (Nat → Int32)
abbrev xL : Type := List (Option Value)
abbrev xN : Type := Nat × xL × List Value × xH × Nat × Nat
abbrev xR : Type := Nat × Option Value × xH × Nat × Nat
def xget (h : xH) (a : Nat) : Option xE := match a with
  | k + 3 => h[k]?
  | _ => none
def xobj (h : xH) (a : Nat) : Option (Nat × List Value) := match xget h a with
  | some (.inl o) => some o
  | _ => none
def xarr (ro : xRO) (h : xH) (a : Nat) : Option (Nat × (Nat → Int32)) := match a with
  | k + 3 => match h[k]? with
    | some (.inr (.inl x)) => some x
    | _ => none
  | k => some (ro k)
def xrar (h : xH) (a : Nat) : Option (Nat × Nat × (Nat → Option Nat)) := match xget h a with
  | some (.inr (.inr x)) => some x
  | _ => none
def xT (pc : Nat) (off : Int) : Option Nat := if 0 ≤ (pc : Int) + off then some ((pc : Int) + off).toNat else none
def xTy (ci k : Nat) : FieldType := match classes[ci]? with
  | some (_, T, _) => (parseFieldDescriptor (T k).2.2.1).getD .int
  | none => .int
def xFinal (ci k : Nat) : Bool := match classes[ci]? with
  | some (_, T, _) => (T k).2.2.2
  | none => true
def xNf (ci : Nat) : Nat := match classes[ci]? with
  | some (_, _, N) => N
  | none => 0
def xDef (ci : Nat) : List Value := (List.range (xNf ci)).map fun k => defaultValue (xTy ci k)
def xFit (ty : FieldType) (v : Value) : Bool := match ty, v with
  | .int, .int _ => true
  | .boolean, .int x => x == 0 || x == 1
  | .object _, .ref _ => true
  | .array _, .ref _ => true
  | _, _ => false
def xPush (v : Value) (n pc : Nat) (L : xL) (st : List Value) (h : xH) : Option xN := some (pc + n, L, v :: st, h, 0, 0)
def xLdI (i n pc : Nat) (L : xL) (st : List Value) (h : xH) : Option xN := match L[i]? with
  | some (some (.int x)) => some (pc + n, L, .int x :: st, h, 0, 0)
  | _ => none
def xLdL (i n pc : Nat) (L : xL) (st : List Value) (h : xH) : Option xN := match L[i]? with
  | some (some (.long x)) => some (pc + n, L, .long x :: st, h, 0, 0)
  | _ => none
def xLdA (i n pc : Nat) (L : xL) (st : List Value) (h : xH) : Option xN := match L[i]? with
  | some (some (.ref x)) => some (pc + n, L, .ref x :: st, h, 0, 0)
  | some (some .null) => some (pc + n, L, .null :: st, h, 0, 0)
  | _ => none
/-- no long stands just below -/
def xSafe (i : Nat) (L : xL) : Bool := match i with
  | 0 => true
  | j + 1 => match L[j]? with
    | some (some (.long _)) => false
    | some (some (.double _)) => false
    | _ => true
def xStI (i n pc : Nat) (L : xL) (st : List Value) (h : xH) : Option xN := match st with
  | .int x :: r => bif xSafe i L && Nat.blt i L.length then some (pc + n, L.set i (some (.int x)), r, h, 0, 0) else none
  | _ => none
def xStA (i n pc : Nat) (L : xL) (st : List Value) (h : xH) : Option xN := match st with
  | .ref x :: r => bif xSafe i L && Nat.blt i L.length then some (pc + n, L.set i (some (.ref x)), r, h, 0, 0) else none
  | .null :: r => bif xSafe i L && Nat.blt i L.length then some (pc + n, L.set i (some .null), r, h, 0, 0) else none
  | _ => none
def xInc (i : Nat) (k : Int) (pc : Nat) (L : xL) (st : List Value) (h : xH) : Option xN := match L[i]? with
  | some (some (.int x)) => bif xSafe i L then some (pc + 3, L.set i (some (.int (x + Int32.ofInt k))), st, h, 0, 0) else none
  | _ => none
def xBin (f : Int32 → Int32 → Int32) (pc : Nat) (L : xL) (st : List Value) (h : xH) : Option xN := match st with
  | .int y :: .int x :: r => some (pc + 1, L, .int (f x y) :: r, h, 0, 0)
  | _ => none
def xBinD (f : Int32 → Int32 → Int32) (pc : Nat) (L : xL) (st : List Value) (h : xH) : Option xN := match st with
  | .int y :: .int x :: r => if y = 0 then none else some (pc + 1, L, .int (f x y) :: r, h, 0, 0)
  | _ => none
def xBinL (f : Int64 → Int64 → Int64) (pc : Nat) (L : xL) (st : List Value) (h : xH) : Option xN := match st with
  | .long y :: .long x :: r => some (pc + 1, L, .long (f x y) :: r, h, 0, 0)
  | _ => none
def xShL (f : Int64 → Int32 → Int64) (pc : Nat) (L : xL) (st : List Value) (h : xH) : Option xN := match st with
  | .int y :: .long x :: r => some (pc + 1, L, .long (f x y) :: r, h, 0, 0)
  | _ => none
def xUn (f : Int32 → Int32) (pc : Nat) (L : xL) (st : List Value) (h : xH) : Option xN := match st with
  | .int x :: r => some (pc + 1, L, .int (f x) :: r, h, 0, 0)
  | _ => none
def xI2l (pc : Nat) (L : xL) (st : List Value) (h : xH) : Option xN := match st with
  | .int x :: r => some (pc + 1, L, .long x.toInt64 :: r, h, 0, 0)
  | _ => none
def xL2i (pc : Nat) (L : xL) (st : List Value) (h : xH) : Option xN := match st with
  | .long x :: r => some (pc + 1, L, .int x.toInt32 :: r, h, 0, 0)
  | _ => none
def xC1 (c : ClassFile.Cond) (x : Int32) : Bool := match c with
  | .eq => decide (x = 0)
  | .ne => decide (¬ x = 0)
  | .lt => decide (x < 0)
  | .ge => decide (0 ≤ x)
  | .gt => decide (0 < x)
  | .le => decide (x ≤ 0)
def xC2 (c : ClassFile.Cond) (x y : Int32) : Bool := match c with
  | .eq => decide (x = y)
  | .ne => decide (¬ x = y)
  | .lt => decide (x < y)
  | .ge => decide (y ≤ x)
  | .gt => decide (y < x)
  | .le => decide (x ≤ y)
def xGo (off : Int) (pc : Nat) (L : xL) (st : List Value) (h : xH) : Option xN := match xT pc off with
  | some t => some (t, L, st, h, 0, 0)
  | none => none
def xIf1 (c : ClassFile.Cond) (off : Int) (pc : Nat) (L : xL) (st : List Value) (h : xH) : Option xN := match st, xT pc off with
  | .int x :: r, some t => some (bif xC1 c x then t else pc + 3, L, r, h, 0, 0)
  | _, _ => none
def xIf2 (c : ClassFile.Cond) (off : Int) (pc : Nat) (L : xL) (st : List Value) (h : xH) : Option xN := match st, xT pc off with
  | .int y :: .int x :: r, some t => some (bif xC2 c x y then t else pc + 3, L, r, h, 0, 0)
  | _, _ => none
def xIfN (nul : Bool) (off : Int) (pc : Nat) (L : xL) (st : List Value) (h : xH) : Option xN := match st, xT pc off with
  | .ref _ :: r, some t => some (bif nul then pc + 3 else t, L, r, h, 0, 0)
  | .null :: r, some t => some (bif nul then t else pc + 3, L, r, h, 0, 0)
  | _, _ => none
def xCat1 (v : Value) : Bool := match v with
  | .int _ => true
  | .ref _ => true
  | .null => true
  | _ => false
def xDup (pc : Nat) (L : xL) (st : List Value) (h : xH) : Option xN := match st with
  | v :: r => bif xCat1 v then some (pc + 1, L, v :: v :: r, h, 0, 0) else none
  | _ => none
def xDup2 (pc : Nat) (L : xL) (st : List Value) (h : xH) : Option xN := match st with
  | v :: w :: r => bif xCat1 v && xCat1 w then some (pc + 1, L, v :: w :: v :: w :: r, h, 0, 0) else none
  | _ => none
def xPop (pc : Nat) (L : xL) (st : List Value) (h : xH) : Option xN := match st with
  | v :: r => bif xCat1 v then some (pc + 1, L, r, h, 0, 0) else none
  | _ => none
def xGet (ci idx pc : Nat) (L : xL) (st : List Value) (h : xH) : Option xN := match st, flk ci idx with
  | .ref a :: r, some (fc, k) => match xobj h a with
    | some (oc, fs) => match fs[k]? with
      | some v => bif Nat.beq oc fc then some (pc + 3, L, v :: r, h, 0, 0) else none
      | none => none
    | none => none
  | _, _ => none
def xPut (md : MD) (idx pc : Nat) (L : xL) (st : List Value) (h : xH) : Option xN := match st, flk (mdK md) idx with
  | v :: .ref (a + 3) :: r, some (fc, k) => match xobj h (a + 3) with
    | some (oc, fs) => bif Nat.beq oc fc && (Nat.blt k fs.length && (xFit (xTy fc k) v && (!(xFinal fc k) || (decide (md.1.name = "<init>") && Nat.beq fc (mdK md))))) then some (pc + 3, L, r, h.set a (.inl (fc, fs.set k v)), 0, 0) else none
    | none => none
  | _, _ => none
def xGets (ci idx pc : Nat) (L : xL) (st : List Value) (h : xH) : Option xN := match glk ci idx with
  | some a => some (pc + 3, L, .ref a :: st, h, 0, 0)
  | none => none
def xIald (ro : xRO) (pc : Nat) (L : xL) (st : List Value) (h : xH) : Option xN := match st with
  | .int i :: .ref a :: r => match xarr ro h a with
    | some (n, f) => if i < 0 ∨ n ≤ i.toNatClampNeg then none else some (pc + 1, L, .int (f i.toNatClampNeg) :: r, h, 0, 0)
    | none => none
  | _ => none
def xIast (pc : Nat) (L : xL) (st : List Value) (h : xH) : Option xN := match st with
  | .int x :: .int i :: .ref (a + 3) :: r => match h[a]? with
    | some (.inr (.inl (n, f))) => if i < 0 ∨ n ≤ i.toNatClampNeg then none else some (pc + 1, L, r, h.set a (.inr (.inl (n, upd f i.toNatClampNeg x))), 0, 0)
    | _ => none
  | _ => none
def xAald (pc : Nat) (L : xL) (st : List Value) (h : xH) : Option xN := match st with
  | .int i :: .ref a :: r => match xrar h a with
    | some (_, n, f) => if i < 0 ∨ n ≤ i.toNatClampNeg then none else some (pc + 1, L, va_rf (f i.toNatClampNeg) :: r, h, 0, 0)
    | none => none
  | _ => none
def xAast (pc : Nat) (L : xL) (st : List Value) (h : xH) : Option xN := match st with
  | .ref v :: .int i :: .ref (a + 3) :: r => match h[a]?, xobj h v with
    | some (.inr (.inr (ci, n, f))), some (oc, _) => if i < 0 ∨ n ≤ i.toNatClampNeg then none else bif Nat.beq oc ci && (Nat.beq ci 1 || Nat.beq ci 4) then some (pc + 1, L, r, h.set a (.inr (.inr (ci, n, va_up f i.toNatClampNeg (some v)))), 0, 0) else none
    | _, _ => none
  | _ => none
def xAlen (ro : xRO) (pc : Nat) (L : xL) (st : List Value) (h : xH) : Option xN := match st with
  | .ref a :: r => match xarr ro h a with
    | some (n, _) => some (pc + 1, L, .int (Int32.ofNat n) :: r, h, 0, 0)
    | none => match xrar h a with
      | some (_, n, _) => some (pc + 1, L, .int (Int32.ofNat n) :: r, h, 0, 0)
      | none => none
  | _ => none
def xNew (ci idx pc : Nat) (L : xL) (st : List Value) (h : xH) : Option xN := match clk ci idx with
  | some c => bif Nat.blt c 9 then some (pc + 3, L, .ref (h.length + 3) :: st, h ++ [.inl (c, xDef c)], 1, xNf c) else none
  | none => none
def xNewa (pc : Nat) (L : xL) (st : List Value) (h : xH) : Option xN := match st with
  | .int n :: r => if n < 0 ∨ 1000 < n.toNatClampNeg then none else some (pc + 2, L, .ref (h.length + 3) :: r, h ++ [.inr (.inl (n.toNatClampNeg, fun _ => 0))], 1, n.toNatClampNeg)
  | _ => none
def xNewq (ci idx pc : Nat) (L : xL) (st : List Value) (h : xH) : Option xN := match st, clk ci idx with
  | .int n :: r, some c => if n < 0 ∨ 1000 < n.toNatClampNeg then none else bif Nat.beq c 1 || Nat.beq c 4 then some (pc + 3, L, .ref (h.length + 3) :: r, h ++ [.inr (.inr (c, n.toNatClampNeg, fun _ => none))], 1, n.toNatClampNeg) else none
  | _, _ => none
def xTsw (dflt lo hi : Int) (offs : Array Int) (pc : Nat) (L : xL) (st : List Value) (h : xH) : Option xN := match st with
  | .int x :: r => if x.toInt < lo ∨ hi < x.toInt then xGo dflt pc L r h else match offs[(x.toInt - lo).toNat]? with
    | some o => xGo o pc L r h
    | none => none
  | _ => none
def xLsw (dflt : Int) (ps : Array (Int × Int)) (pc : Nat) (L : xL) (st : List Value) (h : xH) : Option xN := match st with
  | .int x :: r => bif (ps.toList.zip (ps.toList.drop 1)).all (fun (a, next) => a.1 < next.1) then xGo (Op.lookupswitch.offset ps.toList dflt x.toInt) pc L r h else none
  | _ => none
/-- Math.max, Math.min, System.arraycopy of int arrays -/
def xNat (md : MD) (idx pc : Nat) (L : xL) (st : List Value) (h : xH) : Option xN := match mlk (mdK md) idx with
  | some (5, _) => match st with
    | .int y :: .int x :: r => bif Nat.ble r.length 4 then some (pc + 3, L, .int (if x < y then y else x) :: r, h, 0, 0) else none
    | _ => none
  | some (6, _) => match st with
    | .int y :: .int x :: r => bif Nat.ble r.length 4 then some (pc + 3, L, .int (if y < x then y else x) :: r, h, 0, 0) else none
    | _ => none
  | some (7, _) => match st with
    | .int n :: .int dp :: .ref (b + 3) :: .int sp :: .ref (a + 3) :: r => match h[a]?, h[b]? with
      | some (.inr (.inl (n0, f))), some (.inr (.inl (n1, g))) => if sp < 0 ∨ dp < 0 ∨ n < 0 ∨ n0 < sp.toNatClampNeg + n.toNatClampNeg ∨ n1 < dp.toNatClampNeg + n.toNatClampNeg then none else bif Nat.ble r.length 4 then some (pc + 3, L, r, h.set b (.inr (.inl (n1, va_cpy f g sp.toNatClampNeg dp.toNatClampNeg n.toNatClampNeg))), 0, 0) else none
      | _, _ => none
    | _ => none
  | _ => none
def xObI (md : MD) (idx pc : Nat) (L : xL) (st : List Value) (h : xH) : Option xN := match mlk (mdK md) idx, st with
  | some (8, _), .ref _ :: r => bif Nat.ble r.length 4 then some (pc + 3, L, r, h, 0, 0) else none
  | _, _ => none
def stp (ro : xRO) (md : MD) (i : Instr) (pc : Nat) (L : xL) (st : List Value) (h : xH) : Option xN := match i with
  | .iconst n => xPush (.int (Int32.ofInt n)) 1 pc L st h
  | .bipush n => xPush (.int (Int8.ofInt n).toInt32) 2 pc L st h
  | .sipush n => xPush (.int (Int16.ofInt n).toInt32) 3 pc L st h
  | .ldc k => match cst (mdK md) k with
    | some v => xPush (.int v) 2 pc L st h
    | none => none
  | .ldc_w k => match cst (mdK md) k with
    | some v => xPush (.int v) 3 pc L st h
    | none => none
  | .ldc2_w k => match csl (mdK md) k with
    | some v => xPush (.long v) 3 pc L st h
    | none => none
  | .aconst_null => xPush .null 1 pc L st h
  | .iload_n k => xLdI k.val 1 pc L st h
  | .iload k => xLdI k 2 pc L st h
  | .lload_n k => xLdL k.val 1 pc L st h
  | .aload_n k => xLdA k.val 1 pc L st h
  | .aload k => xLdA k 2 pc L st h
  | .istore_n k => xStI k.val 1 pc L st h
  | .istore k => xStI k 2 pc L st h
  | .astore_n k => xStA k.val 1 pc L st h
  | .astore k => xStA k 2 pc L st h
  | .iinc k c => xInc k c pc L st h
  | .iadd => xBin (fun x y => x + y) pc L st h
  | .isub => xBin (fun x y => x - y) pc L st h
  | .imul => xBin (fun x y => x * y) pc L st h
  | .iand => xBin (fun x y => x &&& y) pc L st h
  | .ior => xBin (fun x y => x ||| y) pc L st h
  | .ixor => xBin (fun x y => x ^^^ y) pc L st h
  | .ishl => xBin (fun x y => x <<< (y &&& 31)) pc L st h
  | .ishr => xBin (fun x y => x >>> (y &&& 31)) pc L st h
  | .iushr => xBin (fun x y => (x.toUInt32 >>> (y.toUInt32 &&& Int32.toUInt32 31)).toInt32) pc L st h
  | .idiv => xBinD (fun x y => x / y) pc L st h
  | .irem => xBinD (fun x y => x - x / y * y) pc L st h
  | .ineg => xUn (fun x => -x) pc L st h
  | .i2b => xUn (fun x => x.toInt8.toInt32) pc L st h
  | .i2s => xUn (fun x => x.toInt16.toInt32) pc L st h
  | .i2l => xI2l pc L st h
  | .l2i => xL2i pc L st h
  | .land => xBinL (fun x y => x &&& y) pc L st h
  | .lor => xBinL (fun x y => x ||| y) pc L st h
  | .lshl => xShL (fun x y => x <<< (y.toInt64 &&& 63)) pc L st h
  | .lshr => xShL (fun x y => x >>> (y.toInt64 &&& 63)) pc L st h
  | .lushr => xShL (fun x y => (x.toUInt64 >>> (y.toInt64.toUInt64 &&& Int64.toUInt64 63)).toInt64) pc L st h
  | .goto o => xGo o pc L st h
  | .ifCond c o => xIf1 c o pc L st h
  | .if_icmp c o => xIf2 c o pc L st h
  | .ifnull o => xIfN true o pc L st h
  | .ifnonnull o => xIfN false o pc L st h
  | .dup => xDup pc L st h
  | .dup2 => xDup2 pc L st h
  | .pop => xPop pc L st h
  | .getfield k => xGet (mdK md) k pc L st h
  | .putfield k => xPut md k pc L st h
  | .getstatic k => xGets (mdK md) k pc L st h
  | .iaload => xIald ro pc L st h
  | .iastore => xIast pc L st h
  | .aaload => xAald pc L st h
  | .aastore => xAast pc L st h
  | .arraylength => xAlen ro pc L st h
  | .new k => xNew (mdK md) k pc L st h
  | .newarray t => match t with
    | .int => xNewa pc L st h
    | _ => none
  | .anewarray k => xNewq (mdK md) k pc L st h
  | .tableswitch a b c d => xTsw a b c d pc L st h
  | .lookupswitch a b => xLsw a b pc L st h
  | .invokestatic k => xNat md k pc L st h
  | .invokespecial k => xObI md k pc L st h
  | _ => none
def xRet (md : MD) (i : Instr) (st : List Value) : Option (Option Value) := match i with
  | .ireturn => match st, mdR md with
    | [.int v], some .int => some (some (.int v))
    | [.int v], some .boolean => bif v == 0 || v == 1 then some (some (.int v)) else none
    | _, _ => none
  | .areturn => match st, mdR md with
    | [.ref a], some (.object _) => some (some (.ref a))
    | [.null], some (.object _) => some (some .null)
    | _, _ => none
  | .return_ => match st, mdR md with
    | [], none => some none
    | _, _ => none
  | _ => none
/-- a call of a method that is walked: its kind, the method -/
def xCal (md : MD) (i : Instr) : Option (Nat × MD) := match i with
  | .invokevirtual k => match mlk (mdK md) k with
    | some (0, y) => some (0, y)
    | _ => none
  | .invokestatic k => match mlk (mdK md) k with
    | some (1, y) => some (1, y)
    | some (3, y) => some (3, y)
    | _ => none
  | .invokespecial k => match mlk (mdK md) k with
    | some (2, y) => some (2, y)
    | some (4, y) => some (4, y)
    | _ => none
  | _ => none
/-- words of what lies on a stack -/
def xCat : List Value → Nat
  | [] => 0
  | .long _ :: r => 2 + xCat r
  | .double _ :: r => 2 + xCat r
  | _ :: r => 1 + xCat r
/-- its arguments, and the stack below -/
def xPre (kd : Nat) (y : MD) (st : List Value) (h : xH) : Option (List Value × List Value) :=
  bif Nat.beq kd 1 || Nat.beq kd 3 then
    (bif Nat.ble (mdP y) st.length && Nat.ble (xCat (st.drop (mdP y))) 8 then some ((st.take (mdP y)).reverse, st.drop (mdP y)) else none)
  else match st.drop (mdP y) with
    | .ref a :: r => match xobj h a with
      | some (oc, _) => bif Nat.beq oc (mdK y) && Nat.ble (xCat r) 8 then some (.ref a :: (st.take (mdP y)).reverse, r) else none
      | none => none
    | _ => none
def xSl : List Value → xL
  | [] => []
  | .long x :: vs => some (.long x) :: none :: xSl vs
  | .int x :: vs => some (.int x) :: xSl vs
  | .ref x :: vs => some (.ref x) :: xSl vs
  | .null :: vs => some .null :: xSl vs
  | _ :: vs => xSl vs
def xOkA : List Value → Bool
  | [] => true
  | .long _ :: vs => xOkA vs
  | .int _ :: vs => xOkA vs
  | .ref _ :: vs => xOkA vs
  | .null :: vs => xOkA vs
  | _ :: _ => false
def xEnt (y : MD) (vs : List Value) : Option xL := bif xOkA vs && Nat.ble (xSl vs).length (mdN y) then some (xSl vs ++ List.replicate (mdN y - (xSl vs).length) none) else none
/-- the lengths that the small machine knows -/
def xLen (i : Instr) (n : Nat) : Bool := match i with
  | .bipush _ => Nat.beq n 2
  | .ldc _ => Nat.beq n 2
  | .iload _ => Nat.beq n 2
  | .aload _ => Nat.beq n 2
  | .istore _ => Nat.beq n 2
  | .astore _ => Nat.beq n 2
  | .newarray _ => Nat.beq n 2
  | .sipush _ => Nat.beq n 3
  | .ldc_w _ => Nat.beq n 3
  | .ldc2_w _ => Nat.beq n 3
  | .iinc _ _ => Nat.beq n 3
  | .goto _ => Nat.beq n 3
  | .ifCond _ _ => Nat.beq n 3
  | .if_icmp _ _ => Nat.beq n 3
  | .ifnull _ => Nat.beq n 3
  | .ifnonnull _ => Nat.beq n 3
  | .getfield _ => Nat.beq n 3
  | .putfield _ => Nat.beq n 3
  | .getstatic _ => Nat.beq n 3
  | .new _ => Nat.beq n 3
  | .anewarray _ => Nat.beq n 3
  | .invokevirtual _ => Nat.beq n 3
  | .invokestatic _ => Nat.beq n 3
  | .invokespecial _ => Nat.beq n 3
  | .tableswitch _ _ _ _ => true
  | .lookupswitch _ _ => true
  | _ => Nat.beq n 1
def exec (ro : xRO) : Nat → Nat → MD → Nat → xL → List Value → xH → Nat → Nat → Option xR
  | 0, _, _, _, _, _, _, _, _ => none
  | n + 1, d, md, pc, L, st, h, c, s => match mdI md pc with
    | none => none
    | some i => bif xLen i.1 i.2 then match xRet md i.1 st with
      | some v => some (pc, v, h, c, s)
      | none => match xCal md i.1 with
        | some (kd, y) => match d with
          | 0 => none
          | d + 1 => match xPre kd y st h with
            | none => none
            | some (as, r) => match xEnt y as with
              | none => none
              | some L0 => match exec ro n d y 0 L0 [] h 0 0 with
                | none => none
                | some (_, v, h1, c1, s1) => exec ro n (d + 1) md (pc + 3) L (v.toList ++ r) h1 (c + c1) (s + s1)
        | none => match stp ro md i.1 pc L st h with
          | none => none
          | some (pc1, L1, st1, h1, c1, s1) => exec ro n d md pc1 L1 st1 h1 (c + c1) (s + s1)
      else none
