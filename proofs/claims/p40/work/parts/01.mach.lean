/-! A SMALL MACHINE: the claim's methods over one memory of ints (object or array number, place), all cells made before; calls by number -/
abbrev mz_M : Type := Nat → Nat → Int32
def mz_up (m : mz_M) (i k : Nat) (v : Int32) : mz_M := fun a b => cond (a == i && b == k) v (m a b)
def mz_cp (m : mz_M) (i j sp dp n : Nat) : mz_M := fun a b => cond (a == i && (decide (dp ≤ b) && decide (b < dp + n))) (m j (sp + (b - dp))) (m a b)
/-- a word of an instruction: kind, two numbers, its place among the tables' words -/
abbrev mz_I : Type := Nat × Nat × Nat × Nat
/-- place, instruction, length, word -/
abbrev mz_E : Type := Nat × Instr × Nat × mz_I
abbrev mz_K : Type := List mz_E
/-- place, locals, stack, memory -/
abbrev mz_C : Type := Nat × List (Option Value) × List Value × mz_M
/-- on; or the end with an answer; or a call -/
abbrev mz_O : Type := mz_C ⊕ (Option Value ⊕ Nat)
def mz_fetch : mz_K → Nat → Option mz_E
  | [], _ => none
  | e :: r, pc => cond (e.1 == pc) (some e) (mz_fetch r pc)
/-- the cells: an int array of a length, or an object of a class with fields: 0 int, 1 boolean, 2 text, r + 3 the cell r -/
abbrev mz_Sh : Type := List (Nat ⊕ (Nat × List Nat))
/-- cells beyond the shapes: the tables of ints (1000 ..), the four texts (2000 ..), their bytes (2100 ..), the script (3000; its length at 3001) -/
def mz_by : List (List Int32) := [[], [114, 115, 110], [118, 114, 110], [99, 108, 120, 121, 101]]
def mz_ro (T : List (List Int32)) (i : Nat) : List Int32 := T.getD (i - 1000) []
def mz_isT (i : Nat) : Bool := decide (2000 ≤ i) && decide (i < 2004)
def mz_isB (i : Nat) : Bool := decide (2100 ≤ i) && decide (i < 2104)
def mz_isR (i : Nat) : Bool := decide (2000 ≤ i) && decide (i < 3000)
section mzdefs
variable (S0 : mz_Sh) (T0 : List (List Int32))
def mz_len (m : mz_M) (i : Nat) : Option Nat := cond (decide (i < 1000)) (match S0[i]? with
  | some (.inl n) => some n
  | _ => none) (cond (decide (i < 1000 + T0.length)) (some (mz_ro T0 i).length) (cond (mz_isB i) (some (mz_by.getD (i - 2100) []).length) (cond (i == 3000) (some (m 3001 0).toNatClampNeg) none)))
def mz_val (m : mz_M) (i k : Nat) : Int32 := cond (decide (i < 1000)) (m i k) (cond (decide (i < 1000 + T0.length)) ((mz_ro T0 i).getD k 0) (m 3000 k))
def mz_in (j : Int32) (n : Nat) : Bool := !(decide (j < 0) || decide (n ≤ j.toNatClampNeg))
def mz_get (m : mz_M) (ci k i : Nat) : Option Value := match S0[i]? with
  | some (.inr (c, fs)) => cond (c == ci) (match fs[k]? with
    | some 0 => some (.int (m i k))
    | some 1 => some (.int (m i k))
    | some 2 => some (.ref (m i k).toNatClampNeg)
    | some (r + 3) => some (.ref r)
    | none => none) none
  | _ => none
def mz_put (m : mz_M) (ci k i : Nat) (v : Value) : Option mz_M := match S0[i]? with
  | some (.inr (c, fs)) => cond (c == ci) (match fs[k]?, v with
    | some 0, .int x => some (mz_up m i k x)
    | some 1, .int x => cond (x == 0 || x == 1) (some (mz_up m i k x)) none
    | some 2, .ref r => cond (mz_isT r) (some (mz_up m i k (Int32.ofNat r))) none
    | _, _ => none) none
  | _ => none
def mz_long : Option (Option Value) → Bool
  | some (some v) => v.category == 2
  | _ => false
def mz_st (L : List (Option Value)) (i : Nat) (v : Value) : List (Option Value) := match i with
  | 0 => L.set 0 (some v)
  | j + 1 => (cond (mz_long L[j]?) (L.set j none) L).set (j + 1) (some v)
def mz_cv (f : mz_I) : Option Value := match f.1 with
  | 20 => some (.int (Int32.ofNat f.2.1))
  | 21 => some (.int (-(Int32.ofNat f.2.1)))
  | 22 => some (.ref (2000 + f.2.1))
  | _ => none
def mz_tg (pc : Nat) (off : Int) : Nat := ((pc : Int) + off).toNat
def mz_ok (pc : Nat) (off : Int) : Bool := decide (0 ≤ (pc : Int) + off)
def mz_cat (S : List Value) : Nat := (S.map fun v => v.category).sum
def mz_next (pc : Nat) (L : List (Option Value)) (S : List Value) (m : mz_M) : Option mz_O := some (.inl (pc, L, S, m))
def mz_jump (ok : Bool) (t f : Nat) (c : Prop) [Decidable c] (L : List (Option Value)) (S : List Value) (m : mz_M) : Option mz_O := cond ok (some (.inl (if c then t else f, L, S, m))) none
def mz_ld (L : List (Option Value)) (i : Nat) : Option Value := match L[i]? with
  | some (some v) => some v
  | _ => none
def mz_ln : Instr → Nat
  | .iload _ => 2
  | .aload _ => 2
  | .istore _ => 2
  | .astore _ => 2
  | .bipush _ => 2
  | .ldc _ => 2
  | .sipush _ => 3
  | .ldc_w _ => 3
  | .ldc2_w _ => 3
  | .iinc _ _ => 3
  | .getfield _ => 3
  | .putfield _ => 3
  | .getstatic _ => 3
  | .invokevirtual _ => 3
  | .invokestatic _ => 3
  | .ifCond _ _ => 3
  | .if_icmp _ _ => 3
  | .goto _ => 3
  | .new _ => 3
  | .invokespecial _ => 3
  | .checkcast _ => 3
  | .newarray _ => 2
  | .tableswitch _ _ _ _ => 0
  | .lookupswitch _ _ => 0
  | _ => 1
def mz_step (ins : Instr) (f : mz_I) (pc : Nat) (L : List (Option Value)) (S : List Value) (m : mz_M) : Option mz_O := match ins with
  | .iconst _ => match mz_cv f with
    | some v => mz_next (pc + 1) L (v :: S) m
    | none => none
  | .bipush _ => match mz_cv f with
    | some v => mz_next (pc + 2) L (v :: S) m
    | none => none
  | .sipush _ => match mz_cv f with
    | some v => mz_next (pc + 3) L (v :: S) m
    | none => none
  | .ldc _ => match mz_cv f with
    | some v => mz_next (pc + 2) L (v :: S) m
    | none => none
  | .ldc_w _ => match mz_cv f with
    | some v => mz_next (pc + 3) L (v :: S) m
    | none => none
  | .ldc2_w _ => mz_next (pc + 3) L (.long (Int64.ofNat f.2.1) :: S) m
  | .iload_n k => match mz_ld L k.val with
    | some (.int x) => mz_next (pc + 1) L (.int x :: S) m
    | _ => none
  | .iload k => match mz_ld L k with
    | some (.int x) => mz_next (pc + 2) L (.int x :: S) m
    | _ => none
  | .aload_n k => match mz_ld L k.val with
    | some (.ref x) => mz_next (pc + 1) L (.ref x :: S) m
    | _ => none
  | .aload k => match mz_ld L k with
    | some (.ref x) => mz_next (pc + 2) L (.ref x :: S) m
    | _ => none
  | .lload_n k => match mz_ld L k.val with
    | some (.long x) => mz_next (pc + 1) L (.long x :: S) m
    | _ => none
  | .istore_n k => match S with
    | .int x :: S => cond (decide (k.val < L.length)) (mz_next (pc + 1) (mz_st L k.val (.int x)) S m) none
    | _ => none
  | .istore k => match S with
    | .int x :: S => cond (decide (k < L.length)) (mz_next (pc + 2) (mz_st L k (.int x)) S m) none
    | _ => none
  | .astore_n k => match S with
    | .ref x :: S => cond (decide (k.val < L.length)) (mz_next (pc + 1) (mz_st L k.val (.ref x)) S m) none
    | _ => none
  | .astore k => match S with
    | .ref x :: S => cond (decide (k < L.length)) (mz_next (pc + 2) (mz_st L k (.ref x)) S m) none
    | _ => none
  | .iinc k _ => match mz_ld L k, mz_cv f with
    | some (.int x), some (.int y) => mz_next (pc + 3) (mz_st L k (.int (x + y))) S m
    | _, _ => none
  | .iadd => match S with
    | .int y :: .int x :: S => mz_next (pc + 1) L (.int (x + y) :: S) m
    | _ => none
  | .isub => match S with
    | .int y :: .int x :: S => mz_next (pc + 1) L (.int (x - y) :: S) m
    | _ => none
  | .imul => match S with
    | .int y :: .int x :: S => mz_next (pc + 1) L (.int (x * y) :: S) m
    | _ => none
  | .idiv => match S with
    | .int y :: .int x :: S => cond (y == 0) none (mz_next (pc + 1) L (.int (x / y) :: S) m)
    | _ => none
  | .irem => match S with
    | .int y :: .int x :: S => cond (y == 0) none (mz_next (pc + 1) L (.int (x - x / y * y) :: S) m)
    | _ => none
  | .ineg => match S with
    | .int x :: S => mz_next (pc + 1) L (.int (-x) :: S) m
    | _ => none
  | .iand => match S with
    | .int y :: .int x :: S => mz_next (pc + 1) L (.int (x &&& y) :: S) m
    | _ => none
  | .ior => match S with
    | .int y :: .int x :: S => mz_next (pc + 1) L (.int (x ||| y) :: S) m
    | _ => none
  | .ixor => match S with
    | .int y :: .int x :: S => mz_next (pc + 1) L (.int (x ^^^ y) :: S) m
    | _ => none
  | .ishl => match S with
    | .int y :: .int x :: S => mz_next (pc + 1) L (.int (x <<< (y &&& 31)) :: S) m
    | _ => none
  | .ishr => match S with
    | .int y :: .int x :: S => mz_next (pc + 1) L (.int (x >>> (y &&& 31)) :: S) m
    | _ => none
  | .iushr => match S with
    | .int y :: .int x :: S => mz_next (pc + 1) L (.int (x.toUInt32 >>> (y.toUInt32 &&& Int32.toUInt32 31)).toInt32 :: S) m
    | _ => none
  | .land => match S with
    | .long y :: .long x :: S => mz_next (pc + 1) L (.long (x &&& y) :: S) m
    | _ => none
  | .lor => match S with
    | .long y :: .long x :: S => mz_next (pc + 1) L (.long (x ||| y) :: S) m
    | _ => none
  | .lshl => match S with
    | .int y :: .long x :: S => mz_next (pc + 1) L (.long (x <<< (y.toInt64 &&& 63)) :: S) m
    | _ => none
  | .lshr => match S with
    | .int y :: .long x :: S => mz_next (pc + 1) L (.long (x >>> (y.toInt64 &&& 63)) :: S) m
    | _ => none
  | .lushr => match S with
    | .int y :: .long x :: S => mz_next (pc + 1) L (.long (x.toUInt64 >>> (y.toInt64.toUInt64 &&& Int64.toUInt64 63)).toInt64 :: S) m
    | _ => none
  | .i2l => match S with
    | .int x :: S => mz_next (pc + 1) L (.long x.toInt64 :: S) m
    | _ => none
  | .l2i => match S with
    | .long x :: S => mz_next (pc + 1) L (.int x.toInt32 :: S) m
    | _ => none
  | .i2b => match S with
    | .int x :: S => mz_next (pc + 1) L (.int x.toInt8.toInt32 :: S) m
    | _ => none
  | .i2s => match S with
    | .int x :: S => mz_next (pc + 1) L (.int x.toInt16.toInt32 :: S) m
    | _ => none
  | .i2c => match S with
    | .int x :: S => mz_next (pc + 1) L (.int (x.toUInt32 % 65536).toInt32 :: S) m
    | _ => none
  | .dup => match S with
    | v :: S => cond (v.category == 1) (mz_next (pc + 1) L (v :: v :: S) m) none
    | _ => none
  | .dup_x1 => match S with
    | v :: w :: S => cond (v.category == 1 && w.category == 1) (mz_next (pc + 1) L (v :: w :: v :: S) m) none
    | _ => none
  | .dup2 => match S with
    | v :: w :: S => cond (v.category == 1 && w.category == 1) (mz_next (pc + 1) L (v :: w :: v :: w :: S) m) none
    | _ => none
  | .pop => match S with
    | v :: S => cond (v.category == 1) (mz_next (pc + 1) L S m) none
    | _ => none
  | .ifCond .eq o => match S with
    | .int x :: S => mz_jump (mz_ok pc o) (mz_tg pc o) (pc + 3) (x = 0) L S m
    | _ => none
  | .ifCond .ne o => match S with
    | .int x :: S => mz_jump (mz_ok pc o) (pc + 3) (mz_tg pc o) (x = 0) L S m
    | _ => none
  | .ifCond .lt o => match S with
    | .int x :: S => mz_jump (mz_ok pc o) (mz_tg pc o) (pc + 3) (x < 0) L S m
    | _ => none
  | .ifCond .ge o => match S with
    | .int x :: S => mz_jump (mz_ok pc o) (mz_tg pc o) (pc + 3) (0 ≤ x) L S m
    | _ => none
  | .ifCond .gt o => match S with
    | .int x :: S => mz_jump (mz_ok pc o) (mz_tg pc o) (pc + 3) (0 < x) L S m
    | _ => none
  | .ifCond .le o => match S with
    | .int x :: S => mz_jump (mz_ok pc o) (mz_tg pc o) (pc + 3) (x ≤ 0) L S m
    | _ => none
  | .if_icmp .eq o => match S with
    | .int y :: .int x :: S => mz_jump (mz_ok pc o) (mz_tg pc o) (pc + 3) (x = y) L S m
    | _ => none
  | .if_icmp .ne o => match S with
    | .int y :: .int x :: S => mz_jump (mz_ok pc o) (pc + 3) (mz_tg pc o) (x = y) L S m
    | _ => none
  | .if_icmp .lt o => match S with
    | .int y :: .int x :: S => mz_jump (mz_ok pc o) (mz_tg pc o) (pc + 3) (x < y) L S m
    | _ => none
  | .if_icmp .ge o => match S with
    | .int y :: .int x :: S => mz_jump (mz_ok pc o) (mz_tg pc o) (pc + 3) (y ≤ x) L S m
    | _ => none
  | .if_icmp .gt o => match S with
    | .int y :: .int x :: S => mz_jump (mz_ok pc o) (mz_tg pc o) (pc + 3) (y < x) L S m
    | _ => none
  | .if_icmp .le o => match S with
    | .int y :: .int x :: S => mz_jump (mz_ok pc o) (mz_tg pc o) (pc + 3) (x ≤ y) L S m
    | _ => none
  | .goto o => cond (mz_ok pc o) (mz_next (mz_tg pc o) L S m) none
  | .tableswitch d lo hi offs => match S with
    | .int x :: S => cond (decide (x.toInt < lo) || decide (hi < x.toInt)) (cond (mz_ok pc d) (mz_next (mz_tg pc d) L S m) none) (match offs[(x.toInt - lo).toNat]? with
      | some o => cond (mz_ok pc o) (mz_next (mz_tg pc o) L S m) none
      | none => none)
    | _ => none
  | .lookupswitch d ps => match S with
    | .int x :: S => cond ((ps.toList.zip (ps.toList.drop 1)).all (fun (a, next) => a.1 < next.1) && mz_ok pc (Op.lookupswitch.offset ps.toList d x.toInt)) (mz_next (mz_tg pc (Op.lookupswitch.offset ps.toList d x.toInt)) L S m) none
    | _ => none
  | .getfield _ => match S with
    | .ref i :: S => cond (f.1 == 5) (cond (mz_isT i) (mz_next (pc + 3) L ((cond (f.2.1 == 0) (.ref (i + 100)) (.int 0)) :: S) m) none) (match mz_get S0 m f.2.1 f.2.2.1 i with
      | some v => mz_next (pc + 3) L (v :: S) m
      | none => none)
    | _ => none
  | .putfield _ => match S with
    | v :: .ref i :: S => match mz_put S0 m f.2.1 f.2.2.1 i v with
      | some m' => mz_next (pc + 3) L S m'
      | none => none
    | _ => none
  | .getstatic _ => mz_next (pc + 3) L ((cond (f.1 == 6) (.int 1) (.ref (1000 + f.2.1))) :: S) m
  | .arraylength => match S with
    | .ref i :: S => match mz_len S0 T0 m i with
      | some n => mz_next (pc + 1) L (.int (Int32.ofNat n) :: S) m
      | none => none
    | _ => none
  | .iaload => match S with
    | .int j :: .ref i :: S => match cond (mz_isR i) none (mz_len S0 T0 m i) with
      | some n => cond (mz_in j n) (mz_next (pc + 1) L (.int (mz_val T0 m i j.toNatClampNeg) :: S) m) none
      | none => none
    | _ => none
  | .baload => match S with
    | .int j :: .ref i :: S => cond (mz_isB i && mz_in j (mz_by.getD (i - 2100) []).length) (mz_next (pc + 1) L (.int ((mz_by.getD (i - 2100) []).getD j.toNatClampNeg 0) :: S) m) none
    | _ => none
  | .iastore => match S with
    | .int x :: .int j :: .ref i :: S => match S0[i]? with
      | some (.inl n) => cond (mz_in j n) (mz_next (pc + 1) L S (mz_up m i j.toNatClampNeg x)) none
      | _ => none
    | _ => none
  | .ireturn => match S with
    | [.int x] => some (.inr (.inl (some (.int x))))
    | _ => none
  | .areturn => match S with
    | [.ref x] => some (.inr (.inl (some (.ref x))))
    | _ => none
  | .return_ => match S with
    | [] => some (.inr (.inl none))
    | _ => none
  | .invokevirtual _ => cond (f.1 == 3) (some (.inr (.inr f.2.1))) none
  | .invokestatic _ => match f.1 with
    | 2 => some (.inr (.inr f.2.1))
    | 4 => some (.inr (.inr f.2.1))
    | 8 => match S with
      | .int x :: S => cond (decide (mz_cat S ≤ 8)) (mz_next (pc + 3) L (.int (if 0 ≤ x then x else 0 - x) :: S) m) none
      | _ => none
    | 9 => match S with
      | .int y :: .int x :: S => cond (decide (mz_cat S ≤ 8)) (mz_next (pc + 3) L (.int (if x < y then y else x) :: S) m) none
      | _ => none
    | 10 => match S with
      | .int y :: .int x :: S => cond (decide (mz_cat S ≤ 8)) (mz_next (pc + 3) L (.int (if y < x then y else x) :: S) m) none
      | _ => none
    | 11 => match S with
      | .int n :: .int dp :: .ref i :: .int sp :: .ref j :: S => match S0[i]?, S0[j]? with
        | some (.inl ni), some (.inl nj) => cond (!decide (sp < 0) && !decide (dp < 0) && !decide (n < 0) && decide (sp.toNatClampNeg + n.toNatClampNeg ≤ nj) && decide (dp.toNatClampNeg + n.toNatClampNeg ≤ ni) && decide (mz_cat S ≤ 8)) (mz_next (pc + 3) L S (mz_cp m i j sp.toNatClampNeg dp.toNatClampNeg n.toNatClampNeg)) none
        | _, _ => none
      | _ => none
    | _ => none
  | _ => none
end mzdefs
/-- a method: its class's number, name, bytes, locals, answer; whether static; how many values it takes; its instructions -/
abbrev mz_R : Type := Nat × MethodName × ByteArray × Nat × Option FieldType × Bool × Nat × mz_K
def mz_ent (as : List Value) (n : Nat) : List (Option Value) :=
  let l := as.flatMap fun v => cond (v.category == 2) [some v, none] [some v]
  l ++ List.replicate (n - l.length) none
def mz_rcv (S0 : mz_Sh) (R : mz_R) (as : List Value) : Bool := cond R.2.2.2.2.2.1 true (match as with
  | .ref i :: _ => cond (R.1 == 12) (mz_isT i) (match S0[i]? with
    | some (.inr (c, _)) => c == R.1
    | _ => false)
  | _ => false)
/-- an answer fits the method's type -/
def mz_fit (t : Option FieldType) (r : Option Value) : Bool := match t, r with
  | none, none => true
  | some .int, some (.int _) => true
  | some .boolean, some (.int x) => x == 0 || x == 1
  | some .byte, some (.int x) => x == 0
  | some (.object _), some (.ref _) => true
  | _, _ => false
/-- a call can be made: enough values, few left, the receiver's class, the locals' room -/
def mz_cal (S0 : mz_Sh) (R : mz_R) (S : List Value) : Bool := decide (R.2.2.2.2.2.2.1 ≤ S.length) && decide (mz_cat (S.drop R.2.2.2.2.2.2.1) ≤ 8) && mz_rcv S0 R (S.take R.2.2.2.2.2.2.1).reverse && ((mz_ent (S.take R.2.2.2.2.2.2.1).reverse R.2.2.2.1).length == R.2.2.2.1)
section mzrun
variable (S0 : mz_Sh) (T0 : List (List Int32)) (T : List mz_R)
/-- fuel, depth -/
def mz_x : Nat → Nat → mz_K → mz_C → Option (Option Value × mz_M)
  | 0, _, _, _ => none
  | n + 1, d, K, (pc, L, S, m) => match mz_fetch K pc with
    | none => none
    | some e => match mz_step S0 T0 e.2.1 e.2.2.2 pc L S m with
      | none => none
      | some (.inl c) => mz_x n d K c
      | some (.inr (.inl r)) => some (r, m)
      | some (.inr (.inr a)) => match T[a]?, d with
        | some R, d + 1 => cond (mz_cal S0 R S) (match mz_x n d R.2.2.2.2.2.2.2 (0, mz_ent (S.take R.2.2.2.2.2.2.1).reverse R.2.2.2.1, [], m) with
          | some (r, m') => cond (mz_fit R.2.2.2.2.1 r) (mz_x n (d + 1) K (pc + 3, L, r.toList ++ S.drop R.2.2.2.2.2.2.1, m')) none
          | none => none) none
        | _, _ => none
end mzrun
