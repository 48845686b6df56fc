/-! An abstract machine: ints and longs as Int, the heap as functions of a cell's number and a place. -/
def zw3 (x : Int) : Int := (x + 2147483648) % 4294967296 - 2147483648
def zw6 (x : Int) : Int := (x + 9223372036854775808) % 18446744073709551616 - 9223372036854775808
def zi3 (x : Int) : Prop := -2147483648 ≤ x ∧ x < 2147483648
def zi6 (x : Int) : Prop := -9223372036854775808 ≤ x ∧ x < 9223372036854775808
/-- values: an int, a long, a reference to a cell of ours or null, a reference to something outside (0: nothing is known) -/
abbrev ZV : Type := Int ⊕ (Int ⊕ (Option Nat ⊕ Nat))
abbrev zi (x : Int) : ZV := Sum.inl x
abbrev zl (x : Int) : ZV := Sum.inr (Sum.inl x)
abbrev zr (x : Option Nat) : ZV := Sum.inr (Sum.inr (Sum.inl x))
abbrev zx (k : Nat) : ZV := Sum.inr (Sum.inr (Sum.inr k))
/-- the state: cells made, slots made, ints, longs, references -/
abbrev ZS : Type := Nat × Nat × (Nat → Nat → Int) × (Nat → Nat → Int) × (Nat → Nat → Option Nat)
/-- a method's body: its code, its class's number, what it returns (0 nothing, 1 int, 2 boolean, 3 char, 4 byte, 5 long, 6 a reference, 9 nothing: a constructor) -/
abbrev ZM : Type := ByteArray × Nat × Nat
def zu {α : Type} (f : Nat → Nat → α) (a k : Nat) (v : α) : Nat → Nat → α := fun b j => if b = a ∧ j = k then v else f b j
def zinv : ZV → ZV
  | .inr (.inl _) => zx 0
  | w => w
def zg : List ZV → Nat → ZV
  | [], _ => zx 0
  | w :: _, 0 => w
  | _ :: l, j + 1 => zg l j
def zst1 : List ZV → Nat → ZV → List ZV
  | [], _, _ => []
  | _ :: l, 0, v => v :: l
  | w :: l, 1, v => zinv w :: zst1 l 0 v
  | w :: l, j + 2, v => w :: zst1 l (j + 1) v
def zst0 : List ZV → Nat → List ZV
  | [], _ => []
  | _ :: l, 0 => zx 0 :: l
  | w :: l, j + 1 => w :: zst0 l j
def zst2 (l : List ZV) (j : Nat) (v : ZV) : List ZV := zst0 (zst1 l j v) (j + 1)
def zok (k : Nat) (x : Int) : Bool := if k = 2 then decide (x = 0 ∨ x = 1) else if k = 3 then decide (0 ≤ x ∧ x < 65536) else if k = 4 then decide (-128 ≤ x ∧ x < 128) else true
def zcmp (c : ClassFile.Cond) (x y : Int) : Bool := match c with
  | .eq => decide (x = y)
  | .ne => decide (x ≠ y)
  | .lt => decide (x < y)
  | .ge => decide (y ≤ x)
  | .gt => decide (y < x)
  | .le => decide (x ≤ y)
def zcat1 : ZV → Bool
  | .inr (.inl _) => false
  | _ => true
/-- the bits of an int or long -/
def zand3 (x y : Int) : Int := (Int32.ofInt x &&& Int32.ofInt y).toInt
def zor3 (x y : Int) : Int := (Int32.ofInt x ||| Int32.ofInt y).toInt
def zshl3 (x y : Int) : Int := (Int32.ofInt x <<< (Int32.ofInt y &&& 31)).toInt
def zshr3 (x y : Int) : Int := (Int32.ofInt x >>> (Int32.ofInt y &&& 31)).toInt
def zushr3 (x y : Int) : Int := ((Int32.ofInt x).toUInt32 >>> ((Int32.ofInt y).toUInt32 &&& Int32.toUInt32 31)).toInt32.toInt
def zdiv3 (x y : Int) : Int := (Int32.ofInt x / Int32.ofInt y).toInt
def zrem3 (x y : Int) : Int := (Int32.ofInt x - Int32.ofInt x / Int32.ofInt y * Int32.ofInt y).toInt
def zand6 (x y : Int) : Int := (Int64.ofInt x &&& Int64.ofInt y).toInt
def zor6 (x y : Int) : Int := (Int64.ofInt x ||| Int64.ofInt y).toInt
def zshl6 (x y : Int) : Int := (Int64.ofInt x <<< ((Int32.ofInt y).toInt64 &&& 63)).toInt
def zshr6 (x y : Int) : Int := (Int64.ofInt x >>> ((Int32.ofInt y).toInt64 &&& 63)).toInt
def zushr6 (x y : Int) : Int := ((Int64.ofInt x).toUInt64 >>> ((Int32.ofInt y).toInt64.toUInt64 &&& Int64.toUInt64 63)).toInt64.toInt
def zdiv6 (x y : Int) : Int := (Int64.ofInt x / Int64.ofInt y).toInt
def zrem6 (x y : Int) : Int := (Int64.ofInt x - Int64.ofInt x / Int64.ofInt y * Int64.ofInt y).toInt
def zi2b (x : Int) : Int := (Int32.ofInt x).toInt8.toInt32.toInt
def zi2c (x : Int) : Int := ((Int32.ofInt x).toUInt32 % 65536).toInt32.toInt
def zcmpl (x y : Int) : Int := if x < y then -1 else if x = y then 0 else 1
/-- what an instruction without the heap does: place, locals, stack behind it -/
def zop2 (k pc : Nat) (ls st : List ZV) (f : Int → Int → Int) : Option (Nat × List ZV × List ZV) := match st with
  | .inl y :: .inl x :: r => if k = 1 then some (pc + 1, ls, zi (f x y) :: r) else none
  | _ => none
def zop2L (k pc : Nat) (ls st : List ZV) (f : Int → Int → Int) : Option (Nat × List ZV × List ZV) := match st with
  | .inr (.inl y) :: .inr (.inl x) :: r => if k = 1 then some (pc + 1, ls, zl (f x y) :: r) else none
  | _ => none
def zop2S (k pc : Nat) (ls st : List ZV) (f : Int → Int → Int) : Option (Nat × List ZV × List ZV) := match st with
  | .inl y :: .inr (.inl x) :: r => if k = 1 then some (pc + 1, ls, zl (f x y) :: r) else none
  | _ => none
def zopd (k pc : Nat) (ls st : List ZV) (f : Int → Int → Int) : Option (Nat × List ZV × List ZV) := match st with
  | .inl y :: .inl x :: r => if k = 1 ∧ ¬ y = 0 then some (pc + 1, ls, zi (f x y) :: r) else none
  | _ => none
def zopdL (k pc : Nat) (ls st : List ZV) (f : Int → Int → Int) : Option (Nat × List ZV × List ZV) := match st with
  | .inr (.inl y) :: .inr (.inl x) :: r => if k = 1 ∧ ¬ y = 0 then some (pc + 1, ls, zl (f x y) :: r) else none
  | _ => none
def zjmp (b : Bool) (k pc : Nat) (off : Int) : Nat := if b then ((pc : Int) + off).toNat else pc + k
def zldi (w k pc j : Nat) (ls st : List ZV) : Option (Nat × List ZV × List ZV) := if k = w then (match zg ls j with
  | .inl x => some (pc + w, ls, zi x :: st)
  | _ => none) else none
def zldl (w k pc j : Nat) (ls st : List ZV) : Option (Nat × List ZV × List ZV) := if k = w then (match zg ls j with
  | .inr (.inl x) => some (pc + w, ls, zl x :: st)
  | _ => none) else none
def zlda (w k pc j : Nat) (ls st : List ZV) : Option (Nat × List ZV × List ZV) := if k = w then (match zg ls j with
  | .inr (.inr (.inl x)) => some (pc + w, ls, zr x :: st)
  | .inr (.inr (.inr (x + 1))) => some (pc + w, ls, zx (x + 1) :: st)
  | _ => none) else none
def zsti (w k pc j : Nat) (ls st : List ZV) : Option (Nat × List ZV × List ZV) := match st with
  | .inl x :: r => if k = w ∧ j < ls.length then some (pc + w, zst1 ls j (zi x), r) else none
  | _ => none
def zstl (w k pc j : Nat) (ls st : List ZV) : Option (Nat × List ZV × List ZV) := match st with
  | .inr (.inl x) :: r => if k = w ∧ j + 1 < ls.length then some (pc + w, zst2 ls j (zl x), r) else none
  | _ => none
def zsta (w k pc j : Nat) (ls st : List ZV) : Option (Nat × List ZV × List ZV) := match st with
  | .inr (.inr (.inl x)) :: r => if k = w ∧ j < ls.length then some (pc + w, zst1 ls j (zr x), r) else none
  | .inr (.inr (.inr (x + 1))) :: r => if k = w ∧ j < ls.length then some (pc + w, zst1 ls j (zx (x + 1)), r) else none
  | _ => none
def zsP (i : Instr) (k pc : Nat) (ls st : List ZV) : Option (Nat × List ZV × List ZV) := match i with
  | .iconst n => if k = 1 ∧ -1 ≤ n ∧ n < 6 then some (pc + 1, ls, zi n :: st) else none
  | .bipush n => if k = 2 ∧ -128 ≤ n ∧ n < 128 then some (pc + 2, ls, zi n :: st) else none
  | .sipush n => if k = 3 ∧ -32768 ≤ n ∧ n < 32768 then some (pc + 3, ls, zi n :: st) else none
  | .lconst n => if k = 1 then some (pc + 1, ls, zl ((n : Nat) : Int) :: st) else none
  | .iload_n j => zldi 1 k pc j ls st
  | .iload j => zldi 2 k pc j ls st
  | .lload_n j => zldl 1 k pc j ls st
  | .lload j => zldl 2 k pc j ls st
  | .aload_n j => zlda 1 k pc j ls st
  | .aload j => zlda 2 k pc j ls st
  | .istore_n j => zsti 1 k pc j ls st
  | .istore j => zsti 2 k pc j ls st
  | .lstore_n j => zstl 1 k pc j ls st
  | .lstore j => zstl 2 k pc j ls st
  | .astore_n j => zsta 1 k pc j ls st
  | .astore j => zsta 2 k pc j ls st
  | .iinc j n => match zg ls j with
    | .inl x => if k = 3 ∧ j < ls.length then some (pc + 3, zst1 ls j (zi (zw3 (x + n))), st) else none
    | _ => none
  | .iadd => zop2 k pc ls st (fun x y => zw3 (x + y))
  | .isub => zop2 k pc ls st (fun x y => zw3 (x - y))
  | .imul => zop2 k pc ls st (fun x y => zw3 (x * y))
  | .iand => zop2 k pc ls st zand3
  | .ior => zop2 k pc ls st zor3
  | .ishl => zop2 k pc ls st zshl3
  | .ishr => zop2 k pc ls st zshr3
  | .iushr => zop2 k pc ls st zushr3
  | .idiv => zopd k pc ls st zdiv3
  | .irem => zopd k pc ls st zrem3
  | .ladd => zop2L k pc ls st (fun x y => zw6 (x + y))
  | .lmul => zop2L k pc ls st (fun x y => zw6 (x * y))
  | .land => zop2L k pc ls st zand6
  | .lor => zop2L k pc ls st zor6
  | .lshl => zop2S k pc ls st zshl6
  | .lshr => zop2S k pc ls st zshr6
  | .lushr => zop2S k pc ls st zushr6
  | .ldiv => zopdL k pc ls st zdiv6
  | .lrem => zopdL k pc ls st zrem6
  | .lcmp => match st with
    | .inr (.inl y) :: .inr (.inl x) :: r => if k = 1 then some (pc + 1, ls, zi (zcmpl x y) :: r) else none
    | _ => none
  | .i2l => match st with
    | .inl x :: r => if k = 1 then some (pc + 1, ls, zl x :: r) else none
    | _ => none
  | .l2i => match st with
    | .inr (.inl x) :: r => if k = 1 then some (pc + 1, ls, zi (zw3 x) :: r) else none
    | _ => none
  | .i2b => match st with
    | .inl x :: r => if k = 1 then some (pc + 1, ls, zi (zi2b x) :: r) else none
    | _ => none
  | .i2c => match st with
    | .inl x :: r => if k = 1 then some (pc + 1, ls, zi (zi2c x) :: r) else none
    | _ => none
  | .dup => match st with
    | v :: r => if k = 1 ∧ zcat1 v = true then some (pc + 1, ls, v :: v :: r) else none
    | _ => none
  | .dup2 => match st with
    | v :: w :: r => if k = 1 ∧ zcat1 v = true ∧ zcat1 w = true then some (pc + 1, ls, v :: w :: v :: w :: r) else none
    | _ => none
  | .pop => match st with
    | v :: r => if k = 1 ∧ zcat1 v = true then some (pc + 1, ls, r) else none
    | _ => none
  | .goto off => if k = 3 ∧ 0 ≤ (pc : Int) + off then some (zjmp true 3 pc off, ls, st) else none
  | .ifCond c off => match st with
    | .inl x :: r => if k = 3 ∧ 0 ≤ (pc : Int) + off then some (zjmp (zcmp c x 0) 3 pc off, ls, r) else none
    | _ => none
  | .if_icmp c off => match st with
    | .inl y :: .inl x :: r => if k = 3 ∧ 0 ≤ (pc : Int) + off then some (zjmp (zcmp c x y) 3 pc off, ls, r) else none
    | _ => none
  | .tableswitch d lo hi offs => match st with
    | .inl x :: r => if x < lo ∨ hi < x then (if 0 ≤ (pc : Int) + d then some (((pc : Int) + d).toNat, ls, r) else none) else (match offs[(x - lo).toNat]? with
      | some o => if 0 ≤ (pc : Int) + o then some (((pc : Int) + o).toNat, ls, r) else none
      | none => none)
    | _ => none
  | .lookupswitch d ps => match st with
    | .inl x :: r => if (ps.toList.zip (ps.toList.drop 1)).all (fun (a, next) => a.1 < next.1) = true ∧ 0 ≤ (pc : Int) + Op.lookupswitch.offset ps.toList d x then some (((pc : Int) + Op.lookupswitch.offset ps.toList d x).toNat, ls, r) else none
    | _ => none
  | _ => none
