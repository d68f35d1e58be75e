section
/-! A SMALL MACHINE: the claim's methods over one memory of ints (object or array number, place), all cells made before; calls by number -/
abbrev mz_M : Type := Nat → Nat → Int32
def mz_up (m : mz_M) (i k : Nat) (v : Int32) : mz_M := fun a b => cond (a == i && b == k) v (m a b)
def mz_cp (m : mz_M) (i j sp dp n : Nat) : mz_M := fun a b => cond (a == i && (decide (dp ≤ b) && decide (b < dp + n))) (m j (sp + (b - dp))) (m a b)
/-- a word of an instruction: kind, two numbers, its place among the tables' words -/
abbrev mz_I : Type := Nat × Nat × Nat × Nat
/-- place, instruction, length, word -/
abbrev mz_E : Type := Nat × Instr × Nat × mz_I
abbrev mz_K : Type := List mz_E
/-- place, locals, stack, memory -/
abbrev mz_C : Type := Nat × List (Option Value) × List Value × mz_M
/-- on; or the end with an answer; or a call -/
abbrev mz_O : Type := mz_C ⊕ (Option Value ⊕ Nat)
def mz_fetch : mz_K → Nat → Option mz_E
  | [], _ => none
  | e :: r, pc => cond (e.1 == pc) (some e) (mz_fetch r pc)
/-- the cells: an int array of a length, or an object of a class with fields: 0 int, 1 boolean, 2 text, r + 3 the cell r -/
abbrev mz_Sh : Type := List (Nat ⊕ (Nat × List Nat))
/-- cells beyond the shapes: the tables of ints (1000 ..), the four texts (2000 ..), their bytes (2100 ..), the script (3000; its length at 3001) -/
def mz_by : List (List Int32) := [[], [114, 115, 110], [118, 114, 110], [99, 108, 120, 121, 101]]
def mz_ro (T : List (List Int32)) (i : Nat) : List Int32 := T.getD (i - 1000) []
def mz_isT (i : Nat) : Bool := decide (2000 ≤ i) && decide (i < 2004)
def mz_isB (i : Nat) : Bool := decide (2100 ≤ i) && decide (i < 2104)
def mz_isR (i : Nat) : Bool := decide (2000 ≤ i) && decide (i < 3000)
section mzdefs
variable (S0 : mz_Sh) (T0 : List (List Int32))
def mz_len (m : mz_M) (i : Nat) : Option Nat := cond (decide (i < 1000)) (match S0[i]? with
  | some (.inl n) => some n
  | _ => none) (cond (decide (i < 1000 + T0.length)) (some (mz_ro T0 i).length) (cond (mz_isB i) (some (mz_by.getD (i - 2100) []).length) (cond (i == 3000) (some (m 3001 0).toNatClampNeg) none)))
def mz_val (m : mz_M) (i k : Nat) : Int32 := cond (decide (i < 1000)) (m i k) (cond (decide (i < 1000 + T0.length)) ((mz_ro T0 i).getD k 0) (m 3000 k))
def mz_in (j : Int32) (n : Nat) : Bool := !(decide (j < 0) || decide (n ≤ j.toNatClampNeg))
def mz_get (m : mz_M) (ci k i : Nat) : Option Value := match S0[i]? with
  | some (.inr (c, fs)) => cond (c == ci) (match fs[k]? with
    | some 0 => some (.int (m i k))
    | some 1 => some (.int (m i k))
    | some 2 => some (.ref (m i k).toNatClampNeg)
    | some (r + 3) => some (.ref r)
    | none => none) none
  | _ => none
def mz_put (m : mz_M) (ci k i : Nat) (v : Value) : Option mz_M := match S0[i]? with
  | some (.inr (c, fs)) => cond (c == ci) (match fs[k]?, v with
    | some 0, .int x => some (mz_up m i k x)
    | some 1, .int x => cond (x == 0 || x == 1) (some (mz_up m i k x)) none
    | some 2, .ref r => cond (mz_isT r) (some (mz_up m i k (Int32.ofNat r))) none
    | _, _ => none) none
  | _ => none
def mz_long : Option (Option Value) → Bool
  | some (some v) => v.category == 2
  | _ => false
def mz_st (L : List (Option Value)) (i : Nat) (v : Value) : List (Option Value) := match i with
  | 0 => L.set 0 (some v)
  | j + 1 => (cond (mz_long L[j]?) (L.set j none) L).set (j + 1) (some v)
def mz_cv (f : mz_I) : Option Value := match f.1 with
  | 20 => some (.int (Int32.ofNat f.2.1))
  | 21 => some (.int (-(Int32.ofNat f.2.1)))
  | 22 => some (.ref (2000 + f.2.1))
  | _ => none
def mz_tg (pc : Nat) (off : Int) : Nat := ((pc : Int) + off).toNat
def mz_ok (pc : Nat) (off : Int) : Bool := decide (0 ≤ (pc : Int) + off)
def mz_cat (S : List Value) : Nat := (S.map fun v => v.category).sum
def mz_next (pc : Nat) (L : List (Option Value)) (S : List Value) (m : mz_M) : Option mz_O := some (.inl (pc, L, S, m))
def mz_jump (ok : Bool) (t f : Nat) (c : Prop) [Decidable c] (L : List (Option Value)) (S : List Value) (m : mz_M) : Option mz_O := cond ok (some (.inl (if c then t else f, L, S, m))) none
def mz_ld (L : List (Option Value)) (i : Nat) : Option Value := match L[i]? with
  | some (some v) => some v
  | _ => none
def mz_ln : Instr → Nat
  | .iload _ => 2
  | .aload _ => 2
  | .istore _ => 2
  | .astore _ => 2
  | .bipush _ => 2
  | .ldc _ => 2
  | .sipush _ => 3
  | .ldc_w _ => 3
  | .ldc2_w _ => 3
  | .iinc _ _ => 3
  | .getfield _ => 3
  | .putfield _ => 3
  | .getstatic _ => 3
  | .invokevirtual _ => 3
  | .invokestatic _ => 3
  | .ifCond _ _ => 3
  | .if_icmp _ _ => 3
  | .goto _ => 3
  | .new _ => 3
  | .invokespecial _ => 3
  | .checkcast _ => 3
  | .newarray _ => 2
  | .tableswitch _ _ _ _ => 0
  | .lookupswitch _ _ => 0
  | _ => 1
def mz_step (ins : Instr) (f : mz_I) (pc : Nat) (L : List (Option Value)) (S : List Value) (m : mz_M) : Option mz_O := match ins with
  | .iconst _ => match mz_cv f with
    | some v => mz_next (pc + 1) L (v :: S) m
    | none => none
  | .bipush _ => match mz_cv f with
    | some v => mz_next (pc + 2) L (v :: S) m
    | none => none
  | .sipush _ => match mz_cv f with
    | some v => mz_next (pc + 3) L (v :: S) m
    | none => none
  | .ldc _ => match mz_cv f with
    | some v => mz_next (pc + 2) L (v :: S) m
    | none => none
  | .ldc_w _ => match mz_cv f with
    | some v => mz_next (pc + 3) L (v :: S) m
    | none => none
  | .ldc2_w _ => mz_next (pc + 3) L (.long (Int64.ofNat f.2.1) :: S) m
  | .iload_n k => match mz_ld L k.val with
    | some (.int x) => mz_next (pc + 1) L (.int x :: S) m
    | _ => none
  | .iload k => match mz_ld L k with
    | some (.int x) => mz_next (pc + 2) L (.int x :: S) m
    | _ => none
  | .aload_n k => match mz_ld L k.val with
    | some (.ref x) => mz_next (pc + 1) L (.ref x :: S) m
    | _ => none
  | .aload k => match mz_ld L k with
    | some (.ref x) => mz_next (pc + 2) L (.ref x :: S) m
    | _ => none
  | .lload_n k => match mz_ld L k.val with
    | some (.long x) => mz_next (pc + 1) L (.long x :: S) m
    | _ => none
  | .istore_n k => match S with
    | .int x :: S => cond (decide (k.val < L.length)) (mz_next (pc + 1) (mz_st L k.val (.int x)) S m) none
    | _ => none
  | .istore k => match S with
    | .int x :: S => cond (decide (k < L.length)) (mz_next (pc + 2) (mz_st L k (.int x)) S m) none
    | _ => none
  | .astore_n k => match S with
    | .ref x :: S => cond (decide (k.val < L.length)) (mz_next (pc + 1) (mz_st L k.val (.ref x)) S m) none
    | _ => none
  | .astore k => match S with
    | .ref x :: S => cond (decide (k < L.length)) (mz_next (pc + 2) (mz_st L k (.ref x)) S m) none
    | _ => none
  | .iinc k _ => match mz_ld L k, mz_cv f with
    | some (.int x), some (.int y) => mz_next (pc + 3) (mz_st L k (.int (x + y))) S m
    | _, _ => none
  | .iadd => match S with
    | .int y :: .int x :: S => mz_next (pc + 1) L (.int (x + y) :: S) m
    | _ => none
  | .isub => match S with
    | .int y :: .int x :: S => mz_next (pc + 1) L (.int (x - y) :: S) m
    | _ => none
  | .imul => match S with
    | .int y :: .int x :: S => mz_next (pc + 1) L (.int (x * y) :: S) m
    | _ => none
  | .idiv => match S with
    | .int y :: .int x :: S => cond (y == 0) none (mz_next (pc + 1) L (.int (x / y) :: S) m)
    | _ => none
  | .irem => match S with
    | .int y :: .int x :: S => cond (y == 0) none (mz_next (pc + 1) L (.int (x - x / y * y) :: S) m)
    | _ => none
  | .ineg => match S with
    | .int x :: S => mz_next (pc + 1) L (.int (-x) :: S) m
    | _ => none
  | .iand => match S with
    | .int y :: .int x :: S => mz_next (pc + 1) L (.int (x &&& y) :: S) m
    | _ => none
  | .ior => match S with
    | .int y :: .int x :: S => mz_next (pc + 1) L (.int (x ||| y) :: S) m
    | _ => none
  | .ixor => match S with
    | .int y :: .int x :: S => mz_next (pc + 1) L (.int (x ^^^ y) :: S) m
    | _ => none
  | .ishl => match S with
    | .int y :: .int x :: S => mz_next (pc + 1) L (.int (x <<< (y &&& 31)) :: S) m
    | _ => none
  | .ishr => match S with
    | .int y :: .int x :: S => mz_next (pc + 1) L (.int (x >>> (y &&& 31)) :: S) m
    | _ => none
  | .iushr => match S with
    | .int y :: .int x :: S => mz_next (pc + 1) L (.int (x.toUInt32 >>> (y.toUInt32 &&& Int32.toUInt32 31)).toInt32 :: S) m
    | _ => none
  | .land => match S with
    | .long y :: .long x :: S => mz_next (pc + 1) L (.long (x &&& y) :: S) m
    | _ => none
  | .lor => match S with
    | .long y :: .long x :: S => mz_next (pc + 1) L (.long (x ||| y) :: S) m
    | _ => none
  | .lshl => match S with
    | .int y :: .long x :: S => mz_next (pc + 1) L (.long (x <<< (y.toInt64 &&& 63)) :: S) m
    | _ => none
  | .lshr => match S with
    | .int y :: .long x :: S => mz_next (pc + 1) L (.long (x >>> (y.toInt64 &&& 63)) :: S) m
    | _ => none
  | .lushr => match S with
    | .int y :: .long x :: S => mz_next (pc + 1) L (.long (x.toUInt64 >>> (y.toInt64.toUInt64 &&& Int64.toUInt64 63)).toInt64 :: S) m
    | _ => none
  | .i2l => match S with
    | .int x :: S => mz_next (pc + 1) L (.long x.toInt64 :: S) m
    | _ => none
  | .l2i => match S with
    | .long x :: S => mz_next (pc + 1) L (.int x.toInt32 :: S) m
    | _ => none
  | .i2b => match S with
    | .int x :: S => mz_next (pc + 1) L (.int x.toInt8.toInt32 :: S) m
    | _ => none
  | .i2s => match S with
    | .int x :: S => mz_next (pc + 1) L (.int x.toInt16.toInt32 :: S) m
    | _ => none
  | .i2c => match S with
    | .int x :: S => mz_next (pc + 1) L (.int (x.toUInt32 % 65536).toInt32 :: S) m
    | _ => none
  | .dup => match S with
    | v :: S => cond (v.category == 1) (mz_next (pc + 1) L (v :: v :: S) m) none
    | _ => none
  | .dup_x1 => match S with
    | v :: w :: S => cond (v.category == 1 && w.category == 1) (mz_next (pc + 1) L (v :: w :: v :: S) m) none
    | _ => none
  | .dup2 => match S with
    | v :: w :: S => cond (v.category == 1 && w.category == 1) (mz_next (pc + 1) L (v :: w :: v :: w :: S) m) none
    | _ => none
  | .pop => match S with
    | v :: S => cond (v.category == 1) (mz_next (pc + 1) L S m) none
    | _ => none
  | .ifCond .eq o => match S with
    | .int x :: S => mz_jump (mz_ok pc o) (mz_tg pc o) (pc + 3) (x = 0) L S m
    | _ => none
  | .ifCond .ne o => match S with
    | .int x :: S => mz_jump (mz_ok pc o) (pc + 3) (mz_tg pc o) (x = 0) L S m
    | _ => none
  | .ifCond .lt o => match S with
    | .int x :: S => mz_jump (mz_ok pc o) (mz_tg pc o) (pc + 3) (x < 0) L S m
    | _ => none
  | .ifCond .ge o => match S with
    | .int x :: S => mz_jump (mz_ok pc o) (mz_tg pc o) (pc + 3) (0 ≤ x) L S m
    | _ => none
  | .ifCond .gt o => match S with
    | .int x :: S => mz_jump (mz_ok pc o) (mz_tg pc o) (pc + 3) (0 < x) L S m
    | _ => none
  | .ifCond .le o => match S with
    | .int x :: S => mz_jump (mz_ok pc o) (mz_tg pc o) (pc + 3) (x ≤ 0) L S m
    | _ => none
  | .if_icmp .eq o => match S with
    | .int y :: .int x :: S => mz_jump (mz_ok pc o) (mz_tg pc o) (pc + 3) (x = y) L S m
    | _ => none
  | .if_icmp .ne o => match S with
    | .int y :: .int x :: S => mz_jump (mz_ok pc o) (pc + 3) (mz_tg pc o) (x = y) L S m
    | _ => none
  | .if_icmp .lt o => match S with
    | .int y :: .int x :: S => mz_jump (mz_ok pc o) (mz_tg pc o) (pc + 3) (x < y) L S m
    | _ => none
  | .if_icmp .ge o => match S with
    | .int y :: .int x :: S => mz_jump (mz_ok pc o) (mz_tg pc o) (pc + 3) (y ≤ x) L S m
    | _ => none
  | .if_icmp .gt o => match S with
    | .int y :: .int x :: S => mz_jump (mz_ok pc o) (mz_tg pc o) (pc + 3) (y < x) L S m
    | _ => none
  | .if_icmp .le o => match S with
    | .int y :: .int x :: S => mz_jump (mz_ok pc o) (mz_tg pc o) (pc + 3) (x ≤ y) L S m
    | _ => none
  | .goto o => cond (mz_ok pc o) (mz_next (mz_tg pc o) L S m) none
  | .tableswitch d lo hi offs => match S with
    | .int x :: S => cond (decide (x.toInt < lo) || decide (hi < x.toInt)) (cond (mz_ok pc d) (mz_next (mz_tg pc d) L S m) none) (match offs[(x.toInt - lo).toNat]? with
      | some o => cond (mz_ok pc o) (mz_next (mz_tg pc o) L S m) none
      | none => none)
    | _ => none
  | .lookupswitch d ps => match S with
    | .int x :: S => cond ((ps.toList.zip (ps.toList.drop 1)).all (fun (a, next) => a.1 < next.1) && mz_ok pc (Op.lookupswitch.offset ps.toList d x.toInt)) (mz_next (mz_tg pc (Op.lookupswitch.offset ps.toList d x.toInt)) L S m) none
    | _ => none
  | .getfield _ => match S with
    | .ref i :: S => cond (f.1 == 5) (cond (mz_isT i) (mz_next (pc + 3) L ((cond (f.2.1 == 0) (.ref (i + 100)) (.int 0)) :: S) m) none) (match mz_get S0 m f.2.1 f.2.2.1 i with
      | some v => mz_next (pc + 3) L (v :: S) m
      | none => none)
    | _ => none
  | .putfield _ => match S with
    | v :: .ref i :: S => match mz_put S0 m f.2.1 f.2.2.1 i v with
      | some m' => mz_next (pc + 3) L S m'
      | none => none
    | _ => none
  | .getstatic _ => mz_next (pc + 3) L ((cond (f.1 == 6) (.int 1) (.ref (1000 + f.2.1))) :: S) m
  | .arraylength => match S with
    | .ref i :: S => match mz_len S0 T0 m i with
      | some n => mz_next (pc + 1) L (.int (Int32.ofNat n) :: S) m
      | none => none
    | _ => none
  | .iaload => match S with
    | .int j :: .ref i :: S => match cond (mz_isR i) none (mz_len S0 T0 m i) with
      | some n => cond (mz_in j n) (mz_next (pc + 1) L (.int (mz_val T0 m i j.toNatClampNeg) :: S) m) none
      | none => none
    | _ => none
  | .baload => match S with
    | .int j :: .ref i :: S => cond (mz_isB i && mz_in j (mz_by.getD (i - 2100) []).length) (mz_next (pc + 1) L (.int ((mz_by.getD (i - 2100) []).getD j.toNatClampNeg 0) :: S) m) none
    | _ => none
  | .iastore => match S with
    | .int x :: .int j :: .ref i :: S => match S0[i]? with
      | some (.inl n) => cond (mz_in j n) (mz_next (pc + 1) L S (mz_up m i j.toNatClampNeg x)) none
      | _ => none
    | _ => none
  | .ireturn => match S with
    | [.int x] => some (.inr (.inl (some (.int x))))
    | _ => none
  | .areturn => match S with
    | [.ref x] => some (.inr (.inl (some (.ref x))))
    | _ => none
  | .return_ => match S with
    | [] => some (.inr (.inl none))
    | _ => none
  | .invokevirtual _ => cond (f.1 == 3) (some (.inr (.inr f.2.1))) none
  | .invokestatic _ => match f.1 with
    | 2 => some (.inr (.inr f.2.1))
    | 4 => some (.inr (.inr f.2.1))
    | 8 => match S with
      | .int x :: S => cond (decide (mz_cat S ≤ 8)) (mz_next (pc + 3) L (.int (if 0 ≤ x then x else 0 - x) :: S) m) none
      | _ => none
    | 9 => match S with
      | .int y :: .int x :: S => cond (decide (mz_cat S ≤ 8)) (mz_next (pc + 3) L (.int (if x < y then y else x) :: S) m) none
      | _ => none
    | 10 => match S with
      | .int y :: .int x :: S => cond (decide (mz_cat S ≤ 8)) (mz_next (pc + 3) L (.int (if y < x then y else x) :: S) m) none
      | _ => none
    | 11 => match S with
      | .int n :: .int dp :: .ref i :: .int sp :: .ref j :: S => match S0[i]?, S0[j]? with
        | some (.inl ni), some (.inl nj) => cond (!decide (sp < 0) && !decide (dp < 0) && !decide (n < 0) && decide (sp.toNatClampNeg + n.toNatClampNeg ≤ nj) && decide (dp.toNatClampNeg + n.toNatClampNeg ≤ ni) && decide (mz_cat S ≤ 8)) (mz_next (pc + 3) L S (mz_cp m i j sp.toNatClampNeg dp.toNatClampNeg n.toNatClampNeg)) none
        | _, _ => none
      | _ => none
    | _ => none
  | _ => none
end mzdefs
/-- a method: its class's number, name, bytes, locals, answer; whether static; how many values it takes; its instructions -/
abbrev mz_R : Type := Nat × MethodName × ByteArray × Nat × Option FieldType × Bool × Nat × mz_K
def mz_ent (as : List Value) (n : Nat) : List (Option Value) :=
  let l := as.flatMap fun v => cond (v.category == 2) [some v, none] [some v]
  l ++ List.replicate (n - l.length) none
def mz_rcv (S0 : mz_Sh) (R : mz_R) (as : List Value) : Bool := cond R.2.2.2.2.2.1 true (match as with
  | .ref i :: _ => cond (R.1 == 12) (mz_isT i) (match S0[i]? with
    | some (.inr (c, _)) => c == R.1
    | _ => false)
  | _ => false)
/-- an answer fits the method's type -/
def mz_fit (t : Option FieldType) (r : Option Value) : Bool := match t, r with
  | none, none => true
  | some .int, some (.int _) => true
  | some .boolean, some (.int x) => x == 0 || x == 1
  | some .byte, some (.int x) => x == 0
  | some (.object _), some (.ref _) => true
  | _, _ => false
/-- a call can be made: enough values, few left, the receiver's class, the locals' room -/
def mz_cal (S0 : mz_Sh) (R : mz_R) (S : List Value) : Bool := decide (R.2.2.2.2.2.2.1 ≤ S.length) && decide (mz_cat (S.drop R.2.2.2.2.2.2.1) ≤ 8) && mz_rcv S0 R (S.take R.2.2.2.2.2.2.1).reverse && ((mz_ent (S.take R.2.2.2.2.2.2.1).reverse R.2.2.2.1).length == R.2.2.2.1)
section mzrun
variable (S0 : mz_Sh) (T0 : List (List Int32)) (T : List mz_R)
/-- fuel, depth -/
def mz_x : Nat → Nat → mz_K → mz_C → Option (Option Value × mz_M)
  | 0, _, _, _ => none
  | n + 1, d, K, (pc, L, S, m) => match mz_fetch K pc with
    | none => none
    | some e => match mz_step S0 T0 e.2.1 e.2.2.2 pc L S m with
      | none => none
      | some (.inl c) => mz_x n d K c
      | some (.inr (.inl r)) => some (r, m)
      | some (.inr (.inr a)) => match T[a]?, d with
        | some R, d + 1 => cond (mz_cal S0 R S) (match mz_x n d R.2.2.2.2.2.2.2 (0, mz_ent (S.take R.2.2.2.2.2.2.1).reverse R.2.2.2.1, [], m) with
          | some (r, m') => cond (mz_fit R.2.2.2.2.1 r) (mz_x n (d + 1) K (pc + 3, L, r.toList ++ S.drop R.2.2.2.2.2.2.1, m')) none
          | none => none) none
        | _, _ => none
end mzrun
end
section

/-! THE MACHINE'S STEPS HOLD OF THE JVM'S: a step of the small machine is a step of the real one, where its memory is laid out in the heap -/
def mz_cvv (ad : Nat → Nat) (v : Value) : Value := match v with
  | .ref i => .ref (ad i)
  | v => v
theorem mz_cvv_cat (ad : Nat → Nat) (v : Value) : (mz_cvv ad v).category = v.category := by cases v <;> rfl
def mz_fv (ad : Nat → Nat) (m : mz_M) (i k f : Nat) : Value := match f with
  | 0 => .int (m i k)
  | 1 => .int (m i k)
  | 2 => .ref (ad (m i k).toNatClampNeg)
  | r + 3 => .ref (ad r)
def mz_cell (S0 : mz_Sh) (cI : ClassId) (ad : Nat → Nat) (m : mz_M) (i : Nat) : va_E := match S0[i]? with
  | some (.inl n) => .inl (cI, n, .inl (m i))
  | some (.inr (c, fs)) => .inr (c, fs.mapIdx (mz_fv ad m i))
  | none => .inr (0, [])
def mz_w (S0 : mz_Sh) (cI : ClassId) (ad : Nat → Nat) (m : mz_M) : va_W := (List.range S0.length).map fun i => (ad i, mz_cell S0 cI ad m i)
theorem mz_w_len (S0 : mz_Sh) (cI : ClassId) (ad : Nat → Nat) (m : mz_M) : (mz_w S0 cI ad m).length = S0.length := by simp [mz_w]
theorem mz_w_at {S0 : mz_Sh} {cI : ClassId} {ad : Nat → Nat} {m : mz_M} {i : Nat} (h : i < S0.length) : (mz_w S0 cI ad m)[i]? = some (ad i, mz_cell S0 cI ad m i) := by
  simp [mz_w, h]
theorem mz_lt {S0 : mz_Sh} {i : Nat} {q : Nat ⊕ (Nat × List Nat)} (h : S0[i]? = some q) : i < S0.length := (List.getElem?_eq_some_iff.mp h).1
theorem mz_w_in {S0 : mz_Sh} {cI : ClassId} {ad : Nat → Nat} {m : mz_M} {k : Nat} {q : Nat × va_E} (h : (mz_w S0 cI ad m)[k]? = some q) : k < S0.length ∧ q = (ad k, mz_cell S0 cI ad m k) := by
  have hk : k < S0.length := by
    have := (List.getElem?_eq_some_iff.mp h).1
    rwa [mz_w_len] at this
  rw [mz_w_at hk] at h
  exact ⟨hk, (Option.some.inj h).symm⟩
theorem mz_w_set {S0 : mz_Sh} {cI : ClassId} {ad : Nat → Nat} {m m' : mz_M} {i : Nat} (h : i < S0.length) (e : va_E) (he : mz_cell S0 cI ad m' i = e) (ho : ∀ j, j ≠ i → mz_cell S0 cI ad m' j = mz_cell S0 cI ad m j) : (mz_w S0 cI ad m).set i (ad i, e) = mz_w S0 cI ad m' := by
  apply List.ext_getElem?
  intro j
  by_cases hj : j < S0.length
  · rw [mz_w_at hj]
    by_cases hij : i = j
    · subst hij
      rw [List.getElem?_set_self (by rw [mz_w_len]; exact h), he]
    · rw [List.getElem?_set_ne hij, mz_w_at hj, ho j (fun q => hij q.symm)]
  · rw [List.getElem?_eq_none (by rw [List.length_set, mz_w_len]; omega), List.getElem?_eq_none (by rw [mz_w_len]; omega)]
theorem mz_up_ne {m : mz_M} {i k j : Nat} {v : Int32} (h : j ≠ i) : mz_up m i k v j = m j := by
  funext b
  have h1 : (j == i) = false := by simpa using h
  simp only [mz_up, h1, Bool.false_and, cond_false]
theorem mz_up_eq {m : mz_M} {i k b : Nat} {v : Int32} : mz_up m i k v i b = if b = k then v else m i b := by
  simp only [mz_up, beq_self_eq_true, Bool.true_and]
  by_cases h : b = k
  · simp [h]
  · have h1 : (b == k) = false := by simpa using h
    rw [h1, if_neg h]
    rfl
theorem mz_cp_ne {m : mz_M} {i j sp dp n a : Nat} (h : a ≠ i) : mz_cp m i j sp dp n a = m a := by
  funext b
  have h1 : (a == i) = false := by simpa using h
  simp only [mz_cp, h1, Bool.false_and, cond_false]
theorem mz_cell_ne {S0 : mz_Sh} {cI : ClassId} {ad : Nat → Nat} {m m' : mz_M} {j : Nat} (h : m' j = m j) : mz_cell S0 cI ad m' j = mz_cell S0 cI ad m j := by
  have hf : mz_fv ad m' j = mz_fv ad m j := by
    funext k f
    unfold mz_fv
    rw [h]
  unfold mz_cell
  rw [h, hf]
/-- the addresses alone -/
theorem mz_D {S0 : mz_Sh} {cI : ClassId} {ad : Nat → Nat} {A : Nat → Prop} {m m' : mz_M} (h : va_D A (mz_w S0 cI ad m)) : va_D A (mz_w S0 cI ad m') := by
  refine ⟨fun i j p q hi hj he => ?_, fun k q hk => ?_⟩
  · obtain ⟨a1, rfl⟩ := mz_w_in hi
    obtain ⟨a2, rfl⟩ := mz_w_in hj
    exact h.1 i j _ _ (mz_w_at a1) (mz_w_at a2) he
  · obtain ⟨a1, rfl⟩ := mz_w_in hk
    exact h.2 k (ad k, mz_cell S0 cI ad m k) (mz_w_at a1)
/-- what stands outside: the tables of ints, the texts, words of nest mates, the script -/
def mz_isN : Jvm.Cond → Bool
  | .methodLinkNest _ _ _ _ => true
  | .fieldLinkNest _ _ _ _ _ _ => true
  | .castable _ _ => true
  | _ => false
def mz_rok (T0 : List (List Int32)) (NM : List String) (ST : List (String × Nat × String)) (G0 : List Jvm.Cond) (ad : Nat → Nat) (Ln : Nat) (xs : Nat → Int32) (A : Nat → Prop) (U : State) (H : Heap) : Prop :=
  (∀ (j : Nat) (n : String), NM[j]? = some n → va_Z "ThreeMagnets" n "[I" (.ref (ad (1000 + j))) A U H) ∧
  (∀ (j : Nat) (t : List Int32), T0[j]? = some t → va_T .int (ad (1000 + j)) t.length (fun k => .int (t.getD k 0)) A U H) ∧
  (∀ (j : Nat) (q : String × Nat × String), ST[j]? = some q → vk_R q.1 q.2.1 q.2.2 (ad (2000 + j)) U) ∧
  vk_S 4 (mz_by.map List.length) mz_by (fun i => ad (2000 + i)) (fun i => ad (2100 + i)) A U H ∧
  va_Z "java/lang/String" "COMPACT_STRINGS" "Z" (.int 1) A U H ∧
  (∀ w ∈ G0, mz_isN w = true → va_Nw w U) ∧
  (va_X (ad 3000) Ln xs U H ∧ ad 3000 < H.size ∧ ¬ A (ad 3000))
theorem mz_rok.same {T0 : List (List Int32)} {NM : List String} {ST : List (String × Nat × String)} {G0 : List Jvm.Cond} {ad : Nat → Nat} {Ln : Nat} {xs : Nat → Int32} {A : Nat → Prop} {u U : State} {H : Heap} (hv : u.vm = U.vm) (h : mz_rok T0 NM ST G0 ad Ln xs A u H) : mz_rok T0 NM ST G0 ad Ln xs A U H := by
  have ha : u.vm.Alike U.vm := hv ▸ Vm.Alike.refl u.vm
  obtain ⟨h1, h2, h3, h4, h5, h6, h7, h8⟩ := h
  refine ⟨fun j n hj => (h1 j n hj).moved ha, fun j t hj => (h2 j t hj).moved ha, fun j q hj => vk_R.same hv.symm (h3 j q hj), h4.moved ha, h5.moved ha, fun w hw hn => ?_, h7.moved ha, h8⟩
  have h9 := h6 w hw hn
  cases w <;> first | exact (Bool.false_ne_true hn).elim | exact va_Nw.same rfl hv h9
theorem mz_rok.warm {T0 : List (List Int32)} {NM : List String} {ST : List (String × Nat × String)} {G0 : List Jvm.Cond} {ad : Nat → Nat} {Ln : Nat} {xs : Nat → Int32} {A : Nat → Prop} {s U : State} {H : Heap} (hW : s.WarmedH U.vm) (h : mz_rok T0 NM ST G0 ad Ln xs A s H) : mz_rok T0 NM ST G0 ad Ln xs A U H := by
  have ha : s.vm.Alike U.vm := hW.alike
  obtain ⟨h1, h2, h3, h4, h5, h6, h7, h8⟩ := h
  refine ⟨fun j n hj => (h1 j n hj).moved ha, fun j t hj => (h2 j t hj).moved ha, fun j q hj => vk_R.warm hW (h3 j q hj), h4.moved ha, h5.moved ha, fun w hw hn => ?_, h7.moved ha, h8⟩
  have h9 := h6 w hw hn
  cases w <;> first | exact (Bool.false_ne_true hn).elim | exact va_Nw.warmM hW h9 | exact va_Nw.warmF hW h9 | exact va_Nw.warmC hW h9
theorem mz_rok.kept {T0 : List (List Int32)} {NM : List String} {ST : List (String × Nat × String)} {G0 : List Jvm.Cond} {ad : Nat → Nat} {Ln : Nat} {xs : Nat → Int32} {A B : Nat → Prop} {U : State} {H H1 : Heap} (h : mz_rok T0 NM ST G0 ad Ln xs A U H) (hz : H.size ≤ H1.size) (hq : ∀ a : Nat, a < H.size → ¬ A a → H1[a]? = H[a]?) (hAB : ∀ q, B q → A q) : mz_rok T0 NM ST G0 ad Ln xs B U H1 := by
  obtain ⟨h1, h2, h3, h4, h5, h6, h7, h8, h9⟩ := h
  exact ⟨fun j n hj => ((h1 j n hj).kept hq).narrow hAB, fun j t hj => ((h2 j t hj).kept hq).narrow hAB, h3, (h4.kept hq).narrow hAB, (h5.kept hq).narrow hAB, h6, h7.kept (hq _ h8 h9), Nat.lt_of_lt_of_le h8 hz, fun q => h9 (hAB _ q)⟩
def mz_scr (xs : Nat → Int32) (Ln : Nat) (m : mz_M) : Prop := (∀ j, m 3000 j = xs j) ∧ m 3001 0 = nI Ln ∧ Ln < 2 ^ 31
/-- the tables' words that a method may use -/
def mz_G (G0 : List Jvm.Cond) : List Jvm.Cond := G0.filter goodWord
theorem mz_G_good {G0 : List Jvm.Cond} {w : Jvm.Cond} (h : w ∈ mz_G G0) : (w.onTables && w.keeps) = true ∨ ∃ ty, w = .arrayClass ty := good_of_word (List.mem_filter.mp h).2
theorem mz_G_in {G0 : List Jvm.Cond} {w : Jvm.Cond} (h : w ∈ G0) (hg : goodWord w = true) : w ∈ mz_G G0 := List.mem_filter.mpr ⟨h, hg⟩
/-- a class's tables are in order -/
def mz_cok (G0 : List Jvm.Cond) (q : vw_C) : Prop := (∀ w ∈ u_ws q.1 q.2.1 q.2.2, w ∈ mz_G G0) ∧ (∀ a, a < q.2.2 → ∀ b, b < q.2.2 → a ≠ b → (q.2.1 a).2.1 ≠ (q.2.1 b).2.1) ∧ ∃ ty : Nat → FieldType, ∀ k, k < q.2.2 → parseFieldDescriptor (q.2.1 k).2.2.1 = some (ty k)
/-- a shape is its class's -/
def mz_sok (S0 : mz_Sh) (cl : List vw_C) : Prop := ∀ (i c : Nat) (fs : List Nat), S0[i]? = some (.inr (c, fs)) → ∃ q, cl[c]? = some q ∧ fs.length = q.2.2 ∧ ∀ (k f : Nat), fs[k]? = some f → (f = 0 → (q.2.1 k).2.2.2 = false ∧ parseFieldDescriptor (q.2.1 k).2.2.1 = some .int) ∧ (f = 1 → (q.2.1 k).2.2.2 = false ∧ parseFieldDescriptor (q.2.1 k).2.2.1 = some .boolean) ∧ (f = 2 → (q.2.1 k).2.2.2 = false ∧ parseFieldDescriptor (q.2.1 k).2.2.1 = some (.object "java/lang/String"))
/-- the words of an instruction stand in the tables -/
def mz_lk (T : List mz_R) (cl : List vw_C) (NM : List String) (ST : List (String × Nat × String)) (gt : Nat → Option Jvm.Cond) (own : String) (ins : Instr) (f : mz_I) : Bool := match ins with
  | .iconst n => decide (mz_cv f = some (.int (Int32.ofInt n)))
  | .bipush n => decide (mz_cv f = some (.int (Int8.ofInt n).toInt32))
  | .sipush n => decide (mz_cv f = some (.int (Int16.ofInt n).toInt32))
  | .iinc _ n => decide (mz_cv f = some (.int (Int32.ofInt n)))
  | .ldc x => match mz_cv f with
    | some (.int v) => decide (gt f.2.2.2 = some (.constant own x v))
    | some (.ref _) => match ST[f.2.1]? with
      | some q => q.1 == own && q.2.1 == x && f.1 == 22
      | none => false
    | _ => false
  | .ldc_w x => match mz_cv f with
    | some (.int v) => decide (gt f.2.2.2 = some (.constant own x v))
    | some (.ref _) => match ST[f.2.1]? with
      | some q => q.1 == own && q.2.1 == x && f.1 == 22
      | none => false
    | _ => false
  | .ldc2_w x => decide (gt f.2.2.2 = some (.constantLong own x (Int64.ofNat f.2.1)))
  | .getfield x => cond (f.1 == 5) (cond (f.2.1 == 0) (decide (gt f.2.2.2 = some (.fieldLink own x "java/lang/String" "value" "[B"))) (decide (gt f.2.2.2 = some (.fieldLink own x "java/lang/String" "coder" "B")))) (match cl[f.2.1]? with
    | some q => decide (f.2.2.1 < q.2.2) && decide (gt f.2.2.2 = some (.fieldLink own x (q.2.1 f.2.2.1).1 (q.2.1 f.2.2.1).2.1 (q.2.1 f.2.2.1).2.2.1))
    | none => false)
  | .putfield x => match cl[f.2.1]? with
    | some q => decide (f.2.2.1 < q.2.2) && decide (gt f.2.2.2 = some (.fieldLink own x (q.2.1 f.2.2.1).1 (q.2.1 f.2.2.1).2.1 (q.2.1 f.2.2.1).2.2.1))
    | none => false
  | .getstatic x => cond (f.1 == 6) (decide (gt f.2.2.2 = some (.fieldLink own x "java/lang/String" "COMPACT_STRINGS" "Z"))) (match NM[f.2.1]? with
    | some n => cond (f.2.2.1 == 0) (decide (gt f.2.2.2 = some (.fieldLink own x "ThreeMagnets" n "[I"))) (decide (gt f.2.2.2 = some (.fieldLinkNest own x "ThreeMagnets" n "[I" "ThreeMagnets")))
    | none => false)
  | .invokevirtual x => match T[f.2.1]? with
    | some R => R.2.2.2.2.2.1 == false && decide (gt f.2.2.2 = some (.methodLink own x R.2.1))
    | none => false
  | .invokestatic x => match f.1 with
    | 2 => match T[f.2.1]? with
      | some R => R.2.2.2.2.2.1 == true && decide (gt f.2.2.2 = some (.methodLink own x R.2.1))
      | none => false
    | 4 => match T[f.2.1]? with
      | some R => R.2.2.2.2.2.1 == true && decide (gt f.2.2.2 = some (.methodLinkNest own x R.2.1 "ThreeMagnets"))
      | none => false
    | 8 => decide (gt f.2.2.2 = some (.methodLink own x Lib.Math.abs.name))
    | 9 => decide (gt f.2.2.2 = some (.methodLink own x Lib.Math.max.name))
    | 10 => decide (gt f.2.2.2 = some (.methodLink own x Lib.Math.min.name))
    | 11 => decide (gt f.2.2.2 = some (.methodLink own x arraycopyName))
    | _ => true
  | _ => true
def mz_sw : Instr → Bool
  | .tableswitch _ _ _ _ => true
  | .lookupswitch _ _ => true
  | _ => false
def mz_eok (T : List mz_R) (cl : List vw_C) (NM : List String) (ST : List (String × Nat × String)) (gt : Nat → Option Jvm.Cond) (own : String) (b : ByteArray) (q : mz_E) : Bool := decide (decode b q.1 = .ok (q.2.1, q.2.2.1)) && (q.2.2.1 == mz_ln q.2.1 || mz_sw q.2.1) && mz_lk T cl NM ST gt own q.2.1 q.2.2.2
/-- the library's own words: abs, max, min, arraycopy -/
def mz_pw : List Jvm.Cond := [.static Lib.Math.abs.name, .static Lib.Math.max.name, .static Lib.Math.min.name, .initialized "java/lang/Math", .code Lib.Math.abs.name Lib.Math.abs.code 1 (some .int), .code Lib.Math.max.name Lib.Math.max.code 2 (some .int), .code Lib.Math.min.name Lib.Math.min.code 2 (some .int), .native arraycopyName, .static arraycopyName, .initialized "java/lang/System"]
/-- what a frame stands on -/
def mz_Fix (p : Program) (R : Room) (s : State) (m : MethodId) (args : Array Value) (c : Code) (cells slots : Nat) (S0 : mz_Sh) (T0 : List (List Int32)) (T : List mz_R) (cl : List vw_C) (NM : List String) (ST : List (String × Nat × String)) (G0 : List Jvm.Cond) (gt : Nat → Option Jvm.Cond) (D : va_G) (cI : ClassId) (ad : Nat → Nat) (A : Nat → Prop) (nL Ln : Nat) (xs : Nat → Int32) (own : String) (cc : ByteArray) : Prop :=
  (p.tables.exec = Jvm.exec ∧ c.code = cc ∧ c.maxLocals = nL ∧ s.vm.findClass own = some m.cls ∧ (∀ w ∈ mz_G G0, w.before args s = true)) ∧
  (va_K D cl [(cI, .int)] s ∧ (∀ mm, va_D A (mz_w S0 cI ad mm)) ∧ (∀ q, s.heap.size ≤ q → A q) ∧ mz_rok T0 NM ST G0 ad Ln xs A s s.heap) ∧
  (1 ≤ R.frames ∧ 64 ≤ R.locals ∧ cells ≤ R.cells ∧ slots ≤ R.slots) ∧
  ((∀ (k : Nat) (q : vw_C), cl[k]? = some q → mz_cok G0 q) ∧ mz_sok S0 cl ∧ (∀ w ∈ mz_pw, w ∈ mz_G G0) ∧ S0.length ≤ 1000 ∧ NM.length = T0.length ∧ T0.length ≤ 1000 ∧ ∀ (i : Nat) (w : Jvm.Cond), gt i = some w → w ∈ G0)
theorem mz_Gi {p : Program} {R : Room} {s : State} {m : MethodId} {args : Array Value} {c : Code} {cells slots : Nat} {S0 : mz_Sh} {T0 : List (List Int32)} {T : List mz_R} {cl : List vw_C} {NM : List String} {ST : List (String × Nat × String)} {G0 : List Jvm.Cond} {gt : Nat → Option Jvm.Cond} {D : va_G} {cI : ClassId} {ad : Nat → Nat} {A : Nat → Prop} {nL Ln : Nat} {xs : Nat → Int32} {own : String} {cc : ByteArray} (F : mz_Fix p R s m args c cells slots S0 T0 T cl NM ST G0 gt D cI ad A nL Ln xs own cc) {w : Jvm.Cond} {i : Nat} (h : gt i = some w) (hg : goodWord w = true) : w ∈ mz_G G0 := mz_G_in (F.2.2.2.2.2.2.2.2.2 i w h) hg
/-- the locals -/
def mz_ls (ad : Nat → Nat) (L : List (Option Value)) (ls : Array Slot) (nL : Nat) : Prop := ls.size = nL ∧ lv_wf ls ∧ L.length = nL ∧ ∀ (i : Nat) (v : Value), L[i]? = some (some v) → ls[i]? = some (.val (mz_cvv ad v))
def mz_Z (p : Program) (l : Launch) (e : Env) (R : Room) (s : State) (m : MethodId) (args : Array Value) (below : List Frame) (meth : Method) (c : Code) (cells slots : Nat) (Q : State → Prop) (S0 : mz_Sh) (cl : List vw_C) (D : va_G) (cI : ClassId) (ad : Nat → Nat) (A : Nat → Prop) (nL Ln : Nat) (xs : Nat → Int32) (pc : Nat) (L : List (Option Value)) (S : List Value) (mem : mz_M) : Prop :=
  ∀ (ls : Array Slot) (H : Heap) (locs : List Loc), mz_ls ad L ls nL → va_P D cl (mz_w S0 cI ad mem) H → va_S A s.heap H locs → mz_scr xs Ln mem → W p l e R s m args below meth c H locs cells slots Q (F0 m pc ls (S.map (mz_cvv ad)))
theorem mz_ld_at {L : List (Option Value)} {i : Nat} {v : Value} (h : mz_ld L i = some v) : L[i]? = some (some v) := by
  unfold mz_ld at h
  split at h
  · rename_i w hw
    cases h
    exact hw
  · cases h
def mz_lv (ad : Nat → Nat) (L : List (Option Value)) : List (Nat × Value) := (L.zipIdx).filterMap fun q => q.1.map fun v => (q.2, mz_cvv ad v)
theorem mz_lv_mem {ad : Nat → Nat} {L : List (Option Value)} {i : Nat} {v : Value} : (i, v) ∈ mz_lv ad L ↔ ∃ w, L[i]? = some (some w) ∧ v = mz_cvv ad w := by
  unfold mz_lv
  rw [List.mem_filterMap]
  constructor
  · rintro ⟨⟨o, k⟩, hm, hq⟩
    rw [List.mem_zipIdx_iff_getElem?] at hm
    cases o with
    | none => simp at hq
    | some w =>
      simp at hq
      obtain ⟨rfl, rfl⟩ := hq
      exact ⟨w, hm, rfl⟩
  · rintro ⟨w, hw, rfl⟩
    exact ⟨(some w, i), List.mem_zipIdx_iff_getElem?.mpr hw, by simp⟩
theorem mz_ls_has {ad : Nat → Nat} {L : List (Option Value)} {ls : Array Slot} {nL : Nat} (h : mz_ls ad L ls nL) : lv_has ls nL (mz_lv ad L) := by
  refine ⟨h.1, h.2.1, fun q hq => ?_⟩
  obtain ⟨i, v⟩ := q
  obtain ⟨w, hw, rfl⟩ := mz_lv_mem.mp hq
  exact h.2.2.2 i w hw
theorem mz_ls_st {ad : Nat → Nat} {L : List (Option Value)} {ls ls' : Array Slot} {nL i : Nat} {v : Value} (h : mz_ls ad L ls nL) (hi : i < L.length) (h' : lv_has ls' nL ((i, mz_cvv ad v) :: (mz_lv ad L).filter (fun q => !(q.1 == i) && !(q.1 + 1 == i && q.2.category == 2)))) : mz_ls ad (mz_st L i v) ls' nL := by
  have hlen : (mz_st L i v).length = L.length := by
    unfold mz_st
    cases i with
    | zero => simp
    | succ j =>
      show ((cond (mz_long L[j]?) (L.set j none) L).set (j + 1) (some v)).length = L.length
      rw [List.length_set]
      cases mz_long L[j]?
      · rfl
      · exact List.length_set
  refine ⟨h'.1, h'.2.1, hlen.trans h.2.2.1, fun k w hk => ?_⟩
  by_cases hki : k = i
  · subst hki
    have hv : w = v := by
      unfold mz_st at hk
      cases k with
      | zero =>
        rw [List.getElem?_set_self hi] at hk
        exact (Option.some.inj (Option.some.inj hk)).symm
      | succ j =>
        rw [List.getElem?_set_self (by cases mz_long L[j]? <;> simpa using hi)] at hk
        exact (Option.some.inj (Option.some.inj hk)).symm
    subst hv
    exact h'.2.2 (k, mz_cvv ad w) List.mem_cons_self
  · have hL : L[k]? = some (some w) ∧ ¬ (k + 1 = i ∧ w.category = 2) := by
      unfold mz_st at hk
      cases i with
      | zero =>
        rw [List.getElem?_set_ne (fun q => hki q.symm)] at hk
        exact ⟨hk, fun q => by omega⟩
      | succ j =>
        rw [List.getElem?_set_ne (fun q => hki q.symm)] at hk
        cases hlg : mz_long L[j]? with
        | false =>
          rw [hlg] at hk
          refine ⟨hk, fun q => ?_⟩
          have hkj : k = j := by omega
          subst hkj
          rw [show L[k]? = some (some w) from hk] at hlg
          exact absurd q.2 (by simpa [mz_long] using hlg)
        | true =>
          rw [hlg] at hk
          simp only [cond_true] at hk
          by_cases hkj : k = j
          · subst hkj
            have hlt : k < L.length := by omega
            rw [List.getElem?_set_self hlt] at hk
            cases hk
          · rw [List.getElem?_set_ne (fun q => hkj q.symm)] at hk
            exact ⟨hk, fun q => hkj (by omega)⟩
    refine h'.2.2 (k, mz_cvv ad w) (List.mem_cons_of_mem _ (List.mem_filter.mpr ⟨mz_lv_mem.mpr ⟨w, hL.1, rfl⟩, ?_⟩))
    have h1 : (k == i) = false := by simpa using hki
    simp only [h1, Bool.not_false, Bool.true_and, mz_cvv_cat]
    by_cases h2 : k + 1 = i
    · have h3 : ¬ w.category = 2 := fun q => hL.2 ⟨h2, q⟩
      simp [h3]
    · simp [h2]

theorem mz_cond {α : Type} {b : Bool} {x : Option α} {y : α} (h : cond b x none = some y) : b = true ∧ x = some y := by
  cases b
  · cases h
  · exact ⟨rfl, h⟩
theorem mz_condn {α : Type} {b : Bool} {x : Option α} {y : α} (h : cond b none x = some y) : b = false ∧ x = some y := by
  cases b
  · exact ⟨rfl, h⟩
  · cases h
theorem mz_isT_spec {i : Nat} (h : mz_isT i = true) : 2000 ≤ i ∧ i < 2004 := by simpa [mz_isT] using h
theorem mz_isT_k {i : Nat} (h : mz_isT i = true) : ∃ j, j < 4 ∧ i = 2000 + j := ⟨i - 2000, by have := mz_isT_spec h; omega, by have := mz_isT_spec h; omega⟩
theorem mz_isB_k {i : Nat} (h : mz_isB i = true) : ∃ j, j < 4 ∧ i = 2100 + j := by
  have h1 : 2100 ≤ i ∧ i < 2104 := by simpa [mz_isB] using h
  exact ⟨i - 2100, by omega, by omega⟩
theorem mz_isR_no {j : Nat} (hj : j < 4) : mz_isR (2100 + j) = true := by
  simp [mz_isR]
  omega
theorem mz_tg_ok {pc : Nat} {off : Int} (h : mz_ok pc off = true) : (pc : Int) + off = ((mz_tg pc off : Nat) : Int) := by
  unfold mz_ok at h
  unfold mz_tg
  rw [Int.toNat_of_nonneg (of_decide_eq_true h)]
theorem mz_in_of {j : Int32} {n : Nat} (h : mz_in j n = true) : vp_in j n := by
  unfold mz_in at h
  unfold vp_in
  simpa using h
theorem mz_cat_map (ad : Nat → Nat) (S : List Value) : ((S.map (mz_cvv ad)).map fun v => v.category).sum = mz_cat S := by
  unfold mz_cat
  rw [List.map_map]
  congr 1
  apply List.map_congr_left
  intro v _
  exact mz_cvv_cat ad v
theorem mz_scr_up {xs : Nat → Int32} {Ln : Nat} {m : mz_M} {i k : Nat} {v : Int32} (hi : i < 1000) (h : mz_scr xs Ln m) : mz_scr xs Ln (mz_up m i k v) := by
  refine ⟨fun j => ?_, ?_, h.2.2⟩
  · rw [mz_up_ne (by omega)]; exact h.1 j
  · rw [mz_up_ne (by omega)]; exact h.2.1
theorem mz_scr_cp {xs : Nat → Int32} {Ln : Nat} {m : mz_M} {i j sp dp n : Nat} (hi : i < 1000) (h : mz_scr xs Ln m) : mz_scr xs Ln (mz_cp m i j sp dp n) := by
  refine ⟨fun j => ?_, ?_, h.2.2⟩
  · rw [mz_cp_ne (by omega)]; exact h.1 j
  · rw [mz_cp_ne (by omega)]; exact h.2.1
theorem mz_w_arr {S0 : mz_Sh} {cI : ClassId} {ad : Nat → Nat} {m : mz_M} {i n : Nat} (h : S0[i]? = some (.inl n)) : (mz_w S0 cI ad m)[i]? = some (ad i, .inl (cI, n, .inl (m i))) := by
  rw [mz_w_at (mz_lt h), mz_cell, h]
theorem mz_w_obj {S0 : mz_Sh} {cI : ClassId} {ad : Nat → Nat} {m : mz_M} {i c : Nat} {fs : List Nat} (h : S0[i]? = some (.inr (c, fs))) : (mz_w S0 cI ad m)[i]? = some (ad i, .inr (c, fs.mapIdx (mz_fv ad m i))) := by
  rw [mz_w_at (mz_lt h), mz_cell, h]
theorem mz_get_spec {S0 : mz_Sh} {ad : Nat → Nat} {m : mz_M} {ci k i : Nat} {v : Value} (h : mz_get S0 m ci k i = some v) : ∃ fs, S0[i]? = some (.inr (ci, fs)) ∧ (fs.mapIdx (mz_fv ad m i))[k]? = some (mz_cvv ad v) := by
  unfold mz_get at h
  split at h
  · rename_i c fs hq
    obtain ⟨hb, h2⟩ := mz_cond h
    clear h
    have hc : c = ci := by simpa using hb
    subst hc
    refine ⟨fs, hq, ?_⟩
    rw [List.getElem?_mapIdx]
    split at h2
    · rename_i hk; rw [hk]; cases h2; rfl
    · rename_i hk; rw [hk]; cases h2; rfl
    · rename_i hk; rw [hk]; cases h2; rfl
    · rename_i hk; rw [hk]; cases h2; rfl
    · cases h2
  · cases h
theorem mz_put_spec {S0 : mz_Sh} {m m' : mz_M} {ci k i : Nat} {v : Value} (h : mz_put S0 m ci k i v = some m') : ∃ fs f x, S0[i]? = some (.inr (ci, fs)) ∧ fs[k]? = some f ∧ m' = mz_up m i k x ∧ ((f = 0 ∧ v = .int x) ∨ (f = 1 ∧ v = .int x ∧ (x = 0 ∨ x = 1)) ∨ (f = 2 ∧ ∃ r : Nat, v = .ref r ∧ r < 2004 ∧ x = nI r)) := by
  unfold mz_put at h
  split at h
  · rename_i c fs hq
    obtain ⟨hb, h2⟩ := mz_cond h
    clear h
    have hc : c = ci := by simpa using hb
    subst hc
    split at h2
    · rename_i x hk
      cases h2
      exact ⟨fs, 0, x, hq, hk, rfl, Or.inl ⟨rfl, rfl⟩⟩
    · rename_i x hk
      obtain ⟨hb2, h3⟩ := mz_cond h2
      clear h2
      cases h3
      exact ⟨fs, 1, x, hq, hk, rfl, Or.inr (Or.inl ⟨rfl, rfl, by simpa using hb2⟩)⟩
    · rename_i r hk
      obtain ⟨hb2, h3⟩ := mz_cond h2
      clear h2
      cases h3
      exact ⟨fs, 2, _, hq, hk, rfl, Or.inr (Or.inr ⟨rfl, r, rfl, (mz_isT_spec hb2).2, rfl⟩)⟩
    · cases h2
  · cases h
theorem mz_put_cell {S0 : mz_Sh} {cI : ClassId} {ad : Nat → Nat} {m : mz_M} {i ci k f : Nat} {fs : List Nat} {x : Int32} (h : S0[i]? = some (.inr (ci, fs))) (hk : fs[k]? = some f) : (mz_w S0 cI ad m).set i (ad i, .inr (ci, (fs.mapIdx (mz_fv ad m i)).set k (mz_fv ad (mz_up m i k x) i k f))) = mz_w S0 cI ad (mz_up m i k x) := by
  refine mz_w_set (mz_lt h) _ ?_ (fun j hj => mz_cell_ne (mz_up_ne hj))
  rw [mz_cell, h]
  refine congrArg (fun z => (Sum.inr (ci, z) : va_E)) ?_
  apply List.ext_getElem?
  intro j
  rw [List.getElem?_mapIdx]
  by_cases hj : k = j
  · subst hj
    rw [hk, List.getElem?_set_self (by rw [List.length_mapIdx]; exact (List.getElem?_eq_some_iff.mp hk).1)]
    rfl
  · rw [List.getElem?_set_ne hj, List.getElem?_mapIdx]
    congr 1
    funext g
    unfold mz_fv
    rw [mz_up_eq, if_neg (fun q => hj q.symm)]
theorem mz_arr_cell {S0 : mz_Sh} {cI : ClassId} {ad : Nat → Nat} {m m' : mz_M} {i n : Nat} {g : Nat → Int32} (h : S0[i]? = some (.inl n)) (hg : m' i = g) (ho : ∀ j, j ≠ i → m' j = m j) : (mz_w S0 cI ad m).set i (ad i, .inl (cI, n, .inl g)) = mz_w S0 cI ad m' := by
  refine mz_w_set (mz_lt h) _ ?_ (fun j hj => mz_cell_ne (ho j hj))
  rw [mz_cell, h, hg]

/-- a text by the wide instruction -/
theorem mz_ldcwStr {p : Program} {l : Launch} {e : Env} {R : Room} {s : State} {m : MethodId} {args : Array Value} {below : List Frame} {meth : Method} {c : Code} {T : State} {locs : List Loc} {cells slots : Nat}
    (X : Stand p l e R s m args below meth c T locs cells slots) (hexec : p.tables.exec = Jvm.exec) {own text : String} {index : Nat} {a : Addr} (hown : s.vm.findClass own = some m.cls)
    (hconst : (Jvm.Cond.stringRef own index text).before args s = true) (hev : (Term.string own index).eval args s none [] s = some (.ref a)) {g : JFrame} (hg : g.method = m) (hdg : decode c.code g.pc = .ok (.ldc_w index, 3)) :
    ∀ target, Steps p.tables e below (T.setTop { g with pc := g.pc + 3, stack := .ref a :: g.stack }) target → Steps p.tables e below (T.setTop g) target := by
  obtain ⟨k, cf, i, a', hk, hcf, hcp, -, hr, hev'⟩ := Cond.stringRef_spec hown hconst
  cases hev.symm.trans hev'
  obtain ⟨k', hk', he⟩ := X.warmed.alike.2.2 _ _ hk
  have hr' : k'.resolved[index]? = some (some (.string a)) := by
    rcases X.warmed.entry hk hk' index with h | ⟨h, -⟩
    · rw [h]; exact hr
    · rw [hr] at h; cases h
  obtain ⟨units, hu⟩ : ∃ u : Array UInt16, True := ⟨#[], trivial⟩
  intro target hrest
  subst hg
  jvm_step X.here [hexec, hdg, ldc_w.wp_string (e := e) (s := T) (f := g) X.here.top hk' (by rw [he]; exact hcf) hcp hr']
  exact hrest
theorem mz_ldcwS {p : Program} {l : Launch} {e : Env} {R : Room} {s : State} {m : MethodId} {args : Array Value} {below : List Frame} {meth : Method} {c : Code} {H : Heap} {locs : List Loc} {cells slots : Nat} {Q : State → Prop} {cc : ByteArray} {pc : Nat} {ls : Array Slot} {rest : List Value} (hexec : p.tables.exec = Jvm.exec) (hb : c.code = cc) {own tx : String} {index q : Nat} (hown : s.vm.findClass own = some m.cls) (hZ : vk_R own index tx q s) (hdg : decode cc pc = .ok (.ldc_w index, 3))
    (k : W p l e R s m args below meth c H locs cells slots Q (F0 m (pc + 3) ls (.ref q :: rest))) : W p l e R s m args below meth c H locs cells slots Q (F0 m pc ls rest) := by
  intro T hT X
  obtain ⟨t, a1, b1⟩ := k T hT X
  exact ⟨t, mz_ldcwStr X hexec hown (text := tx) (a := q) hZ.1 hZ.2 (g := F0 m pc ls rest) rfl (by rw [hb]; exact hdg) t a1, b1⟩

set_option maxHeartbeats 1000000 in
theorem mz_w_iadd {p : Program} {l : Launch} {e : Env} {R : Room} {s : State} {m : MethodId} {args : Array Value} {below : List Frame} {meth : Method} {c : Code} {cells slots : Nat} {Q : State → Prop} {S0 : mz_Sh} {T0 : List (List Int32)} {T : List mz_R} {cl : List vw_C} {NM : List String} {ST : List (String × Nat × String)} {G0 : List Jvm.Cond} {gt : Nat → Option Jvm.Cond} {D : va_G} {cI : ClassId} {ad : Nat → Nat} {A : Nat → Prop} {nL Ln : Nat} {xs : Nat → Int32} {own : String} {cc : ByteArray} (F : mz_Fix p R s m args c cells slots S0 T0 T cl NM ST G0 gt D cI ad A nL Ln xs own cc) {pc : Nat} {L : List (Option Value)} {S : List Value} {mem : mz_M} {f : mz_I} {c1 : mz_C} (hd : decode cc pc = .ok (.iadd, 1)) (hl : mz_lk T cl NM ST gt own (.iadd) f = true) (hs : mz_step S0 T0 (.iadd) f pc L S mem = some (.inl c1)) (k : mz_Z p l e R s m args below meth c cells slots Q S0 cl D cI ad A nL Ln xs c1.1 c1.2.1 c1.2.2.1 c1.2.2.2) : mz_Z p l e R s m args below meth c cells slots Q S0 cl D cI ad A nL Ln xs pc L S mem := by
  simp only [mz_step, mz_next] at hs
  split at hs
  · cases hs
    exact fun ls H locs h1 h2 h3 h4 => lv_iadd F.1.1 F.1.2.1 hd (k ls H locs h1 h2 h3 h4)
  · cases hs

set_option maxHeartbeats 1000000 in
theorem mz_w_isub {p : Program} {l : Launch} {e : Env} {R : Room} {s : State} {m : MethodId} {args : Array Value} {below : List Frame} {meth : Method} {c : Code} {cells slots : Nat} {Q : State → Prop} {S0 : mz_Sh} {T0 : List (List Int32)} {T : List mz_R} {cl : List vw_C} {NM : List String} {ST : List (String × Nat × String)} {G0 : List Jvm.Cond} {gt : Nat → Option Jvm.Cond} {D : va_G} {cI : ClassId} {ad : Nat → Nat} {A : Nat → Prop} {nL Ln : Nat} {xs : Nat → Int32} {own : String} {cc : ByteArray} (F : mz_Fix p R s m args c cells slots S0 T0 T cl NM ST G0 gt D cI ad A nL Ln xs own cc) {pc : Nat} {L : List (Option Value)} {S : List Value} {mem : mz_M} {f : mz_I} {c1 : mz_C} (hd : decode cc pc = .ok (.isub, 1)) (hl : mz_lk T cl NM ST gt own (.isub) f = true) (hs : mz_step S0 T0 (.isub) f pc L S mem = some (.inl c1)) (k : mz_Z p l e R s m args below meth c cells slots Q S0 cl D cI ad A nL Ln xs c1.1 c1.2.1 c1.2.2.1 c1.2.2.2) : mz_Z p l e R s m args below meth c cells slots Q S0 cl D cI ad A nL Ln xs pc L S mem := by
  simp only [mz_step, mz_next] at hs
  split at hs
  · cases hs
    exact fun ls H locs h1 h2 h3 h4 => lv_isub F.1.1 F.1.2.1 hd (k ls H locs h1 h2 h3 h4)
  · cases hs

set_option maxHeartbeats 1000000 in
theorem mz_w_imul {p : Program} {l : Launch} {e : Env} {R : Room} {s : State} {m : MethodId} {args : Array Value} {below : List Frame} {meth : Method} {c : Code} {cells slots : Nat} {Q : State → Prop} {S0 : mz_Sh} {T0 : List (List Int32)} {T : List mz_R} {cl : List vw_C} {NM : List String} {ST : List (String × Nat × String)} {G0 : List Jvm.Cond} {gt : Nat → Option Jvm.Cond} {D : va_G} {cI : ClassId} {ad : Nat → Nat} {A : Nat → Prop} {nL Ln : Nat} {xs : Nat → Int32} {own : String} {cc : ByteArray} (F : mz_Fix p R s m args c cells slots S0 T0 T cl NM ST G0 gt D cI ad A nL Ln xs own cc) {pc : Nat} {L : List (Option Value)} {S : List Value} {mem : mz_M} {f : mz_I} {c1 : mz_C} (hd : decode cc pc = .ok (.imul, 1)) (hl : mz_lk T cl NM ST gt own (.imul) f = true) (hs : mz_step S0 T0 (.imul) f pc L S mem = some (.inl c1)) (k : mz_Z p l e R s m args below meth c cells slots Q S0 cl D cI ad A nL Ln xs c1.1 c1.2.1 c1.2.2.1 c1.2.2.2) : mz_Z p l e R s m args below meth c cells slots Q S0 cl D cI ad A nL Ln xs pc L S mem := by
  simp only [mz_step, mz_next] at hs
  split at hs
  · cases hs
    exact fun ls H locs h1 h2 h3 h4 => lv_imul F.1.1 F.1.2.1 hd (k ls H locs h1 h2 h3 h4)
  · cases hs

set_option maxHeartbeats 1000000 in
theorem mz_w_ineg {p : Program} {l : Launch} {e : Env} {R : Room} {s : State} {m : MethodId} {args : Array Value} {below : List Frame} {meth : Method} {c : Code} {cells slots : Nat} {Q : State → Prop} {S0 : mz_Sh} {T0 : List (List Int32)} {T : List mz_R} {cl : List vw_C} {NM : List String} {ST : List (String × Nat × String)} {G0 : List Jvm.Cond} {gt : Nat → Option Jvm.Cond} {D : va_G} {cI : ClassId} {ad : Nat → Nat} {A : Nat → Prop} {nL Ln : Nat} {xs : Nat → Int32} {own : String} {cc : ByteArray} (F : mz_Fix p R s m args c cells slots S0 T0 T cl NM ST G0 gt D cI ad A nL Ln xs own cc) {pc : Nat} {L : List (Option Value)} {S : List Value} {mem : mz_M} {f : mz_I} {c1 : mz_C} (hd : decode cc pc = .ok (.ineg, 1)) (hl : mz_lk T cl NM ST gt own (.ineg) f = true) (hs : mz_step S0 T0 (.ineg) f pc L S mem = some (.inl c1)) (k : mz_Z p l e R s m args below meth c cells slots Q S0 cl D cI ad A nL Ln xs c1.1 c1.2.1 c1.2.2.1 c1.2.2.2) : mz_Z p l e R s m args below meth c cells slots Q S0 cl D cI ad A nL Ln xs pc L S mem := by
  simp only [mz_step, mz_next] at hs
  split at hs
  · cases hs
    exact fun ls H locs h1 h2 h3 h4 => lv_ineg F.1.1 F.1.2.1 hd (k ls H locs h1 h2 h3 h4)
  · cases hs

set_option maxHeartbeats 1000000 in
theorem mz_w_iand {p : Program} {l : Launch} {e : Env} {R : Room} {s : State} {m : MethodId} {args : Array Value} {below : List Frame} {meth : Method} {c : Code} {cells slots : Nat} {Q : State → Prop} {S0 : mz_Sh} {T0 : List (List Int32)} {T : List mz_R} {cl : List vw_C} {NM : List String} {ST : List (String × Nat × String)} {G0 : List Jvm.Cond} {gt : Nat → Option Jvm.Cond} {D : va_G} {cI : ClassId} {ad : Nat → Nat} {A : Nat → Prop} {nL Ln : Nat} {xs : Nat → Int32} {own : String} {cc : ByteArray} (F : mz_Fix p R s m args c cells slots S0 T0 T cl NM ST G0 gt D cI ad A nL Ln xs own cc) {pc : Nat} {L : List (Option Value)} {S : List Value} {mem : mz_M} {f : mz_I} {c1 : mz_C} (hd : decode cc pc = .ok (.iand, 1)) (hl : mz_lk T cl NM ST gt own (.iand) f = true) (hs : mz_step S0 T0 (.iand) f pc L S mem = some (.inl c1)) (k : mz_Z p l e R s m args below meth c cells slots Q S0 cl D cI ad A nL Ln xs c1.1 c1.2.1 c1.2.2.1 c1.2.2.2) : mz_Z p l e R s m args below meth c cells slots Q S0 cl D cI ad A nL Ln xs pc L S mem := by
  simp only [mz_step, mz_next] at hs
  split at hs
  · cases hs
    exact fun ls H locs h1 h2 h3 h4 => lv_iand F.1.1 F.1.2.1 hd (k ls H locs h1 h2 h3 h4)
  · cases hs

set_option maxHeartbeats 1000000 in
theorem mz_w_ior {p : Program} {l : Launch} {e : Env} {R : Room} {s : State} {m : MethodId} {args : Array Value} {below : List Frame} {meth : Method} {c : Code} {cells slots : Nat} {Q : State → Prop} {S0 : mz_Sh} {T0 : List (List Int32)} {T : List mz_R} {cl : List vw_C} {NM : List String} {ST : List (String × Nat × String)} {G0 : List Jvm.Cond} {gt : Nat → Option Jvm.Cond} {D : va_G} {cI : ClassId} {ad : Nat → Nat} {A : Nat → Prop} {nL Ln : Nat} {xs : Nat → Int32} {own : String} {cc : ByteArray} (F : mz_Fix p R s m args c cells slots S0 T0 T cl NM ST G0 gt D cI ad A nL Ln xs own cc) {pc : Nat} {L : List (Option Value)} {S : List Value} {mem : mz_M} {f : mz_I} {c1 : mz_C} (hd : decode cc pc = .ok (.ior, 1)) (hl : mz_lk T cl NM ST gt own (.ior) f = true) (hs : mz_step S0 T0 (.ior) f pc L S mem = some (.inl c1)) (k : mz_Z p l e R s m args below meth c cells slots Q S0 cl D cI ad A nL Ln xs c1.1 c1.2.1 c1.2.2.1 c1.2.2.2) : mz_Z p l e R s m args below meth c cells slots Q S0 cl D cI ad A nL Ln xs pc L S mem := by
  simp only [mz_step, mz_next] at hs
  split at hs
  · cases hs
    exact fun ls H locs h1 h2 h3 h4 => lv_ior F.1.1 F.1.2.1 hd (k ls H locs h1 h2 h3 h4)
  · cases hs

set_option maxHeartbeats 1000000 in
theorem mz_w_ixor {p : Program} {l : Launch} {e : Env} {R : Room} {s : State} {m : MethodId} {args : Array Value} {below : List Frame} {meth : Method} {c : Code} {cells slots : Nat} {Q : State → Prop} {S0 : mz_Sh} {T0 : List (List Int32)} {T : List mz_R} {cl : List vw_C} {NM : List String} {ST : List (String × Nat × String)} {G0 : List Jvm.Cond} {gt : Nat → Option Jvm.Cond} {D : va_G} {cI : ClassId} {ad : Nat → Nat} {A : Nat → Prop} {nL Ln : Nat} {xs : Nat → Int32} {own : String} {cc : ByteArray} (F : mz_Fix p R s m args c cells slots S0 T0 T cl NM ST G0 gt D cI ad A nL Ln xs own cc) {pc : Nat} {L : List (Option Value)} {S : List Value} {mem : mz_M} {f : mz_I} {c1 : mz_C} (hd : decode cc pc = .ok (.ixor, 1)) (hl : mz_lk T cl NM ST gt own (.ixor) f = true) (hs : mz_step S0 T0 (.ixor) f pc L S mem = some (.inl c1)) (k : mz_Z p l e R s m args below meth c cells slots Q S0 cl D cI ad A nL Ln xs c1.1 c1.2.1 c1.2.2.1 c1.2.2.2) : mz_Z p l e R s m args below meth c cells slots Q S0 cl D cI ad A nL Ln xs pc L S mem := by
  simp only [mz_step, mz_next] at hs
  split at hs
  · cases hs
    exact fun ls H locs h1 h2 h3 h4 => lv_ixor F.1.1 F.1.2.1 hd (k ls H locs h1 h2 h3 h4)
  · cases hs

set_option maxHeartbeats 1000000 in
theorem mz_w_ishl {p : Program} {l : Launch} {e : Env} {R : Room} {s : State} {m : MethodId} {args : Array Value} {below : List Frame} {meth : Method} {c : Code} {cells slots : Nat} {Q : State → Prop} {S0 : mz_Sh} {T0 : List (List Int32)} {T : List mz_R} {cl : List vw_C} {NM : List String} {ST : List (String × Nat × String)} {G0 : List Jvm.Cond} {gt : Nat → Option Jvm.Cond} {D : va_G} {cI : ClassId} {ad : Nat → Nat} {A : Nat → Prop} {nL Ln : Nat} {xs : Nat → Int32} {own : String} {cc : ByteArray} (F : mz_Fix p R s m args c cells slots S0 T0 T cl NM ST G0 gt D cI ad A nL Ln xs own cc) {pc : Nat} {L : List (Option Value)} {S : List Value} {mem : mz_M} {f : mz_I} {c1 : mz_C} (hd : decode cc pc = .ok (.ishl, 1)) (hl : mz_lk T cl NM ST gt own (.ishl) f = true) (hs : mz_step S0 T0 (.ishl) f pc L S mem = some (.inl c1)) (k : mz_Z p l e R s m args below meth c cells slots Q S0 cl D cI ad A nL Ln xs c1.1 c1.2.1 c1.2.2.1 c1.2.2.2) : mz_Z p l e R s m args below meth c cells slots Q S0 cl D cI ad A nL Ln xs pc L S mem := by
  simp only [mz_step, mz_next] at hs
  split at hs
  · cases hs
    exact fun ls H locs h1 h2 h3 h4 => lv_ishl F.1.1 F.1.2.1 hd (k ls H locs h1 h2 h3 h4)
  · cases hs

set_option maxHeartbeats 1000000 in
theorem mz_w_ishr {p : Program} {l : Launch} {e : Env} {R : Room} {s : State} {m : MethodId} {args : Array Value} {below : List Frame} {meth : Method} {c : Code} {cells slots : Nat} {Q : State → Prop} {S0 : mz_Sh} {T0 : List (List Int32)} {T : List mz_R} {cl : List vw_C} {NM : List String} {ST : List (String × Nat × String)} {G0 : List Jvm.Cond} {gt : Nat → Option Jvm.Cond} {D : va_G} {cI : ClassId} {ad : Nat → Nat} {A : Nat → Prop} {nL Ln : Nat} {xs : Nat → Int32} {own : String} {cc : ByteArray} (F : mz_Fix p R s m args c cells slots S0 T0 T cl NM ST G0 gt D cI ad A nL Ln xs own cc) {pc : Nat} {L : List (Option Value)} {S : List Value} {mem : mz_M} {f : mz_I} {c1 : mz_C} (hd : decode cc pc = .ok (.ishr, 1)) (hl : mz_lk T cl NM ST gt own (.ishr) f = true) (hs : mz_step S0 T0 (.ishr) f pc L S mem = some (.inl c1)) (k : mz_Z p l e R s m args below meth c cells slots Q S0 cl D cI ad A nL Ln xs c1.1 c1.2.1 c1.2.2.1 c1.2.2.2) : mz_Z p l e R s m args below meth c cells slots Q S0 cl D cI ad A nL Ln xs pc L S mem := by
  simp only [mz_step, mz_next] at hs
  split at hs
  · cases hs
    exact fun ls H locs h1 h2 h3 h4 => lv_ishr F.1.1 F.1.2.1 hd (k ls H locs h1 h2 h3 h4)
  · cases hs

set_option maxHeartbeats 1000000 in
theorem mz_w_land {p : Program} {l : Launch} {e : Env} {R : Room} {s : State} {m : MethodId} {args : Array Value} {below : List Frame} {meth : Method} {c : Code} {cells slots : Nat} {Q : State → Prop} {S0 : mz_Sh} {T0 : List (List Int32)} {T : List mz_R} {cl : List vw_C} {NM : List String} {ST : List (String × Nat × String)} {G0 : List Jvm.Cond} {gt : Nat → Option Jvm.Cond} {D : va_G} {cI : ClassId} {ad : Nat → Nat} {A : Nat → Prop} {nL Ln : Nat} {xs : Nat → Int32} {own : String} {cc : ByteArray} (F : mz_Fix p R s m args c cells slots S0 T0 T cl NM ST G0 gt D cI ad A nL Ln xs own cc) {pc : Nat} {L : List (Option Value)} {S : List Value} {mem : mz_M} {f : mz_I} {c1 : mz_C} (hd : decode cc pc = .ok (.land, 1)) (hl : mz_lk T cl NM ST gt own (.land) f = true) (hs : mz_step S0 T0 (.land) f pc L S mem = some (.inl c1)) (k : mz_Z p l e R s m args below meth c cells slots Q S0 cl D cI ad A nL Ln xs c1.1 c1.2.1 c1.2.2.1 c1.2.2.2) : mz_Z p l e R s m args below meth c cells slots Q S0 cl D cI ad A nL Ln xs pc L S mem := by
  simp only [mz_step, mz_next] at hs
  split at hs
  · cases hs
    exact fun ls H locs h1 h2 h3 h4 => lv_land F.1.1 F.1.2.1 hd (k ls H locs h1 h2 h3 h4)
  · cases hs

set_option maxHeartbeats 1000000 in
theorem mz_w_lor {p : Program} {l : Launch} {e : Env} {R : Room} {s : State} {m : MethodId} {args : Array Value} {below : List Frame} {meth : Method} {c : Code} {cells slots : Nat} {Q : State → Prop} {S0 : mz_Sh} {T0 : List (List Int32)} {T : List mz_R} {cl : List vw_C} {NM : List String} {ST : List (String × Nat × String)} {G0 : List Jvm.Cond} {gt : Nat → Option Jvm.Cond} {D : va_G} {cI : ClassId} {ad : Nat → Nat} {A : Nat → Prop} {nL Ln : Nat} {xs : Nat → Int32} {own : String} {cc : ByteArray} (F : mz_Fix p R s m args c cells slots S0 T0 T cl NM ST G0 gt D cI ad A nL Ln xs own cc) {pc : Nat} {L : List (Option Value)} {S : List Value} {mem : mz_M} {f : mz_I} {c1 : mz_C} (hd : decode cc pc = .ok (.lor, 1)) (hl : mz_lk T cl NM ST gt own (.lor) f = true) (hs : mz_step S0 T0 (.lor) f pc L S mem = some (.inl c1)) (k : mz_Z p l e R s m args below meth c cells slots Q S0 cl D cI ad A nL Ln xs c1.1 c1.2.1 c1.2.2.1 c1.2.2.2) : mz_Z p l e R s m args below meth c cells slots Q S0 cl D cI ad A nL Ln xs pc L S mem := by
  simp only [mz_step, mz_next] at hs
  split at hs
  · cases hs
    exact fun ls H locs h1 h2 h3 h4 => lv_lor F.1.1 F.1.2.1 hd (k ls H locs h1 h2 h3 h4)
  · cases hs

set_option maxHeartbeats 1000000 in
theorem mz_w_iushr {p : Program} {l : Launch} {e : Env} {R : Room} {s : State} {m : MethodId} {args : Array Value} {below : List Frame} {meth : Method} {c : Code} {cells slots : Nat} {Q : State → Prop} {S0 : mz_Sh} {T0 : List (List Int32)} {T : List mz_R} {cl : List vw_C} {NM : List String} {ST : List (String × Nat × String)} {G0 : List Jvm.Cond} {gt : Nat → Option Jvm.Cond} {D : va_G} {cI : ClassId} {ad : Nat → Nat} {A : Nat → Prop} {nL Ln : Nat} {xs : Nat → Int32} {own : String} {cc : ByteArray} (F : mz_Fix p R s m args c cells slots S0 T0 T cl NM ST G0 gt D cI ad A nL Ln xs own cc) {pc : Nat} {L : List (Option Value)} {S : List Value} {mem : mz_M} {f : mz_I} {c1 : mz_C} (hd : decode cc pc = .ok (.iushr, 1)) (hl : mz_lk T cl NM ST gt own (.iushr) f = true) (hs : mz_step S0 T0 (.iushr) f pc L S mem = some (.inl c1)) (k : mz_Z p l e R s m args below meth c cells slots Q S0 cl D cI ad A nL Ln xs c1.1 c1.2.1 c1.2.2.1 c1.2.2.2) : mz_Z p l e R s m args below meth c cells slots Q S0 cl D cI ad A nL Ln xs pc L S mem := by
  simp only [mz_step, mz_next] at hs
  split at hs
  · cases hs
    exact fun ls H locs h1 h2 h3 h4 => lv_iushr F.1.1 F.1.2.1 hd rfl (k ls H locs h1 h2 h3 h4)
  · cases hs

set_option maxHeartbeats 1000000 in
theorem mz_w_lushr {p : Program} {l : Launch} {e : Env} {R : Room} {s : State} {m : MethodId} {args : Array Value} {below : List Frame} {meth : Method} {c : Code} {cells slots : Nat} {Q : State → Prop} {S0 : mz_Sh} {T0 : List (List Int32)} {T : List mz_R} {cl : List vw_C} {NM : List String} {ST : List (String × Nat × String)} {G0 : List Jvm.Cond} {gt : Nat → Option Jvm.Cond} {D : va_G} {cI : ClassId} {ad : Nat → Nat} {A : Nat → Prop} {nL Ln : Nat} {xs : Nat → Int32} {own : String} {cc : ByteArray} (F : mz_Fix p R s m args c cells slots S0 T0 T cl NM ST G0 gt D cI ad A nL Ln xs own cc) {pc : Nat} {L : List (Option Value)} {S : List Value} {mem : mz_M} {f : mz_I} {c1 : mz_C} (hd : decode cc pc = .ok (.lushr, 1)) (hl : mz_lk T cl NM ST gt own (.lushr) f = true) (hs : mz_step S0 T0 (.lushr) f pc L S mem = some (.inl c1)) (k : mz_Z p l e R s m args below meth c cells slots Q S0 cl D cI ad A nL Ln xs c1.1 c1.2.1 c1.2.2.1 c1.2.2.2) : mz_Z p l e R s m args below meth c cells slots Q S0 cl D cI ad A nL Ln xs pc L S mem := by
  simp only [mz_step, mz_next] at hs
  split at hs
  · cases hs
    exact fun ls H locs h1 h2 h3 h4 => lv_lushr F.1.1 F.1.2.1 hd rfl (k ls H locs h1 h2 h3 h4)
  · cases hs

set_option maxHeartbeats 1000000 in
theorem mz_w_lshl {p : Program} {l : Launch} {e : Env} {R : Room} {s : State} {m : MethodId} {args : Array Value} {below : List Frame} {meth : Method} {c : Code} {cells slots : Nat} {Q : State → Prop} {S0 : mz_Sh} {T0 : List (List Int32)} {T : List mz_R} {cl : List vw_C} {NM : List String} {ST : List (String × Nat × String)} {G0 : List Jvm.Cond} {gt : Nat → Option Jvm.Cond} {D : va_G} {cI : ClassId} {ad : Nat → Nat} {A : Nat → Prop} {nL Ln : Nat} {xs : Nat → Int32} {own : String} {cc : ByteArray} (F : mz_Fix p R s m args c cells slots S0 T0 T cl NM ST G0 gt D cI ad A nL Ln xs own cc) {pc : Nat} {L : List (Option Value)} {S : List Value} {mem : mz_M} {f : mz_I} {c1 : mz_C} (hd : decode cc pc = .ok (.lshl, 1)) (hl : mz_lk T cl NM ST gt own (.lshl) f = true) (hs : mz_step S0 T0 (.lshl) f pc L S mem = some (.inl c1)) (k : mz_Z p l e R s m args below meth c cells slots Q S0 cl D cI ad A nL Ln xs c1.1 c1.2.1 c1.2.2.1 c1.2.2.2) : mz_Z p l e R s m args below meth c cells slots Q S0 cl D cI ad A nL Ln xs pc L S mem := by
  simp only [mz_step, mz_next] at hs
  split at hs
  · cases hs
    exact fun ls H locs h1 h2 h3 h4 => lv_lshl F.1.1 F.1.2.1 hd rfl (k ls H locs h1 h2 h3 h4)
  · cases hs

set_option maxHeartbeats 1000000 in
theorem mz_w_lshr {p : Program} {l : Launch} {e : Env} {R : Room} {s : State} {m : MethodId} {args : Array Value} {below : List Frame} {meth : Method} {c : Code} {cells slots : Nat} {Q : State → Prop} {S0 : mz_Sh} {T0 : List (List Int32)} {T : List mz_R} {cl : List vw_C} {NM : List String} {ST : List (String × Nat × String)} {G0 : List Jvm.Cond} {gt : Nat → Option Jvm.Cond} {D : va_G} {cI : ClassId} {ad : Nat → Nat} {A : Nat → Prop} {nL Ln : Nat} {xs : Nat → Int32} {own : String} {cc : ByteArray} (F : mz_Fix p R s m args c cells slots S0 T0 T cl NM ST G0 gt D cI ad A nL Ln xs own cc) {pc : Nat} {L : List (Option Value)} {S : List Value} {mem : mz_M} {f : mz_I} {c1 : mz_C} (hd : decode cc pc = .ok (.lshr, 1)) (hl : mz_lk T cl NM ST gt own (.lshr) f = true) (hs : mz_step S0 T0 (.lshr) f pc L S mem = some (.inl c1)) (k : mz_Z p l e R s m args below meth c cells slots Q S0 cl D cI ad A nL Ln xs c1.1 c1.2.1 c1.2.2.1 c1.2.2.2) : mz_Z p l e R s m args below meth c cells slots Q S0 cl D cI ad A nL Ln xs pc L S mem := by
  simp only [mz_step, mz_next] at hs
  split at hs
  · cases hs
    exact fun ls H locs h1 h2 h3 h4 => lv_lshr F.1.1 F.1.2.1 hd rfl (k ls H locs h1 h2 h3 h4)
  · cases hs

set_option maxHeartbeats 1000000 in
theorem mz_w_i2l {p : Program} {l : Launch} {e : Env} {R : Room} {s : State} {m : MethodId} {args : Array Value} {below : List Frame} {meth : Method} {c : Code} {cells slots : Nat} {Q : State → Prop} {S0 : mz_Sh} {T0 : List (List Int32)} {T : List mz_R} {cl : List vw_C} {NM : List String} {ST : List (String × Nat × String)} {G0 : List Jvm.Cond} {gt : Nat → Option Jvm.Cond} {D : va_G} {cI : ClassId} {ad : Nat → Nat} {A : Nat → Prop} {nL Ln : Nat} {xs : Nat → Int32} {own : String} {cc : ByteArray} (F : mz_Fix p R s m args c cells slots S0 T0 T cl NM ST G0 gt D cI ad A nL Ln xs own cc) {pc : Nat} {L : List (Option Value)} {S : List Value} {mem : mz_M} {f : mz_I} {c1 : mz_C} (hd : decode cc pc = .ok (.i2l, 1)) (hl : mz_lk T cl NM ST gt own (.i2l) f = true) (hs : mz_step S0 T0 (.i2l) f pc L S mem = some (.inl c1)) (k : mz_Z p l e R s m args below meth c cells slots Q S0 cl D cI ad A nL Ln xs c1.1 c1.2.1 c1.2.2.1 c1.2.2.2) : mz_Z p l e R s m args below meth c cells slots Q S0 cl D cI ad A nL Ln xs pc L S mem := by
  simp only [mz_step, mz_next] at hs
  split at hs
  · cases hs
    exact fun ls H locs h1 h2 h3 h4 => lv_i2l F.1.1 F.1.2.1 hd rfl (k ls H locs h1 h2 h3 h4)
  · cases hs

set_option maxHeartbeats 1000000 in
theorem mz_w_l2i {p : Program} {l : Launch} {e : Env} {R : Room} {s : State} {m : MethodId} {args : Array Value} {below : List Frame} {meth : Method} {c : Code} {cells slots : Nat} {Q : State → Prop} {S0 : mz_Sh} {T0 : List (List Int32)} {T : List mz_R} {cl : List vw_C} {NM : List String} {ST : List (String × Nat × String)} {G0 : List Jvm.Cond} {gt : Nat → Option Jvm.Cond} {D : va_G} {cI : ClassId} {ad : Nat → Nat} {A : Nat → Prop} {nL Ln : Nat} {xs : Nat → Int32} {own : String} {cc : ByteArray} (F : mz_Fix p R s m args c cells slots S0 T0 T cl NM ST G0 gt D cI ad A nL Ln xs own cc) {pc : Nat} {L : List (Option Value)} {S : List Value} {mem : mz_M} {f : mz_I} {c1 : mz_C} (hd : decode cc pc = .ok (.l2i, 1)) (hl : mz_lk T cl NM ST gt own (.l2i) f = true) (hs : mz_step S0 T0 (.l2i) f pc L S mem = some (.inl c1)) (k : mz_Z p l e R s m args below meth c cells slots Q S0 cl D cI ad A nL Ln xs c1.1 c1.2.1 c1.2.2.1 c1.2.2.2) : mz_Z p l e R s m args below meth c cells slots Q S0 cl D cI ad A nL Ln xs pc L S mem := by
  simp only [mz_step, mz_next] at hs
  split at hs
  · cases hs
    exact fun ls H locs h1 h2 h3 h4 => lv_l2i F.1.1 F.1.2.1 hd rfl (k ls H locs h1 h2 h3 h4)
  · cases hs

set_option maxHeartbeats 1000000 in
theorem mz_w_i2b {p : Program} {l : Launch} {e : Env} {R : Room} {s : State} {m : MethodId} {args : Array Value} {below : List Frame} {meth : Method} {c : Code} {cells slots : Nat} {Q : State → Prop} {S0 : mz_Sh} {T0 : List (List Int32)} {T : List mz_R} {cl : List vw_C} {NM : List String} {ST : List (String × Nat × String)} {G0 : List Jvm.Cond} {gt : Nat → Option Jvm.Cond} {D : va_G} {cI : ClassId} {ad : Nat → Nat} {A : Nat → Prop} {nL Ln : Nat} {xs : Nat → Int32} {own : String} {cc : ByteArray} (F : mz_Fix p R s m args c cells slots S0 T0 T cl NM ST G0 gt D cI ad A nL Ln xs own cc) {pc : Nat} {L : List (Option Value)} {S : List Value} {mem : mz_M} {f : mz_I} {c1 : mz_C} (hd : decode cc pc = .ok (.i2b, 1)) (hl : mz_lk T cl NM ST gt own (.i2b) f = true) (hs : mz_step S0 T0 (.i2b) f pc L S mem = some (.inl c1)) (k : mz_Z p l e R s m args below meth c cells slots Q S0 cl D cI ad A nL Ln xs c1.1 c1.2.1 c1.2.2.1 c1.2.2.2) : mz_Z p l e R s m args below meth c cells slots Q S0 cl D cI ad A nL Ln xs pc L S mem := by
  simp only [mz_step, mz_next] at hs
  split at hs
  · cases hs
    exact fun ls H locs h1 h2 h3 h4 => lv_i2b F.1.1 F.1.2.1 hd rfl (k ls H locs h1 h2 h3 h4)
  · cases hs

set_option maxHeartbeats 1000000 in
theorem mz_w_i2s {p : Program} {l : Launch} {e : Env} {R : Room} {s : State} {m : MethodId} {args : Array Value} {below : List Frame} {meth : Method} {c : Code} {cells slots : Nat} {Q : State → Prop} {S0 : mz_Sh} {T0 : List (List Int32)} {T : List mz_R} {cl : List vw_C} {NM : List String} {ST : List (String × Nat × String)} {G0 : List Jvm.Cond} {gt : Nat → Option Jvm.Cond} {D : va_G} {cI : ClassId} {ad : Nat → Nat} {A : Nat → Prop} {nL Ln : Nat} {xs : Nat → Int32} {own : String} {cc : ByteArray} (F : mz_Fix p R s m args c cells slots S0 T0 T cl NM ST G0 gt D cI ad A nL Ln xs own cc) {pc : Nat} {L : List (Option Value)} {S : List Value} {mem : mz_M} {f : mz_I} {c1 : mz_C} (hd : decode cc pc = .ok (.i2s, 1)) (hl : mz_lk T cl NM ST gt own (.i2s) f = true) (hs : mz_step S0 T0 (.i2s) f pc L S mem = some (.inl c1)) (k : mz_Z p l e R s m args below meth c cells slots Q S0 cl D cI ad A nL Ln xs c1.1 c1.2.1 c1.2.2.1 c1.2.2.2) : mz_Z p l e R s m args below meth c cells slots Q S0 cl D cI ad A nL Ln xs pc L S mem := by
  simp only [mz_step, mz_next] at hs
  split at hs
  · cases hs
    exact fun ls H locs h1 h2 h3 h4 => lv_i2s F.1.1 F.1.2.1 hd rfl (k ls H locs h1 h2 h3 h4)
  · cases hs

set_option maxHeartbeats 1000000 in
theorem mz_w_i2c {p : Program} {l : Launch} {e : Env} {R : Room} {s : State} {m : MethodId} {args : Array Value} {below : List Frame} {meth : Method} {c : Code} {cells slots : Nat} {Q : State → Prop} {S0 : mz_Sh} {T0 : List (List Int32)} {T : List mz_R} {cl : List vw_C} {NM : List String} {ST : List (String × Nat × String)} {G0 : List Jvm.Cond} {gt : Nat → Option Jvm.Cond} {D : va_G} {cI : ClassId} {ad : Nat → Nat} {A : Nat → Prop} {nL Ln : Nat} {xs : Nat → Int32} {own : String} {cc : ByteArray} (F : mz_Fix p R s m args c cells slots S0 T0 T cl NM ST G0 gt D cI ad A nL Ln xs own cc) {pc : Nat} {L : List (Option Value)} {S : List Value} {mem : mz_M} {f : mz_I} {c1 : mz_C} (hd : decode cc pc = .ok (.i2c, 1)) (hl : mz_lk T cl NM ST gt own (.i2c) f = true) (hs : mz_step S0 T0 (.i2c) f pc L S mem = some (.inl c1)) (k : mz_Z p l e R s m args below meth c cells slots Q S0 cl D cI ad A nL Ln xs c1.1 c1.2.1 c1.2.2.1 c1.2.2.2) : mz_Z p l e R s m args below meth c cells slots Q S0 cl D cI ad A nL Ln xs pc L S mem := by
  simp only [mz_step, mz_next] at hs
  split at hs
  · cases hs
    exact fun ls H locs h1 h2 h3 h4 => lv_i2c F.1.1 F.1.2.1 hd rfl (k ls H locs h1 h2 h3 h4)
  · cases hs

set_option maxHeartbeats 1000000 in
theorem mz_w_idiv {p : Program} {l : Launch} {e : Env} {R : Room} {s : State} {m : MethodId} {args : Array Value} {below : List Frame} {meth : Method} {c : Code} {cells slots : Nat} {Q : State → Prop} {S0 : mz_Sh} {T0 : List (List Int32)} {T : List mz_R} {cl : List vw_C} {NM : List String} {ST : List (String × Nat × String)} {G0 : List Jvm.Cond} {gt : Nat → Option Jvm.Cond} {D : va_G} {cI : ClassId} {ad : Nat → Nat} {A : Nat → Prop} {nL Ln : Nat} {xs : Nat → Int32} {own : String} {cc : ByteArray} (F : mz_Fix p R s m args c cells slots S0 T0 T cl NM ST G0 gt D cI ad A nL Ln xs own cc) {pc : Nat} {L : List (Option Value)} {S : List Value} {mem : mz_M} {f : mz_I} {c1 : mz_C} (hd : decode cc pc = .ok (.idiv, 1)) (hl : mz_lk T cl NM ST gt own (.idiv) f = true) (hs : mz_step S0 T0 (.idiv) f pc L S mem = some (.inl c1)) (k : mz_Z p l e R s m args below meth c cells slots Q S0 cl D cI ad A nL Ln xs c1.1 c1.2.1 c1.2.2.1 c1.2.2.2) : mz_Z p l e R s m args below meth c cells slots Q S0 cl D cI ad A nL Ln xs pc L S mem := by
  simp only [mz_step, mz_next] at hs
  split at hs
  · obtain ⟨hb, hs⟩ := mz_condn hs
    cases hs
    exact fun ls H locs h1 h2 h3 h4 => lv_idiv F.1.1 F.1.2.1 hd (by simpa using hb) (k ls H locs h1 h2 h3 h4)
  · cases hs

set_option maxHeartbeats 1000000 in
theorem mz_w_irem {p : Program} {l : Launch} {e : Env} {R : Room} {s : State} {m : MethodId} {args : Array Value} {below : List Frame} {meth : Method} {c : Code} {cells slots : Nat} {Q : State → Prop} {S0 : mz_Sh} {T0 : List (List Int32)} {T : List mz_R} {cl : List vw_C} {NM : List String} {ST : List (String × Nat × String)} {G0 : List Jvm.Cond} {gt : Nat → Option Jvm.Cond} {D : va_G} {cI : ClassId} {ad : Nat → Nat} {A : Nat → Prop} {nL Ln : Nat} {xs : Nat → Int32} {own : String} {cc : ByteArray} (F : mz_Fix p R s m args c cells slots S0 T0 T cl NM ST G0 gt D cI ad A nL Ln xs own cc) {pc : Nat} {L : List (Option Value)} {S : List Value} {mem : mz_M} {f : mz_I} {c1 : mz_C} (hd : decode cc pc = .ok (.irem, 1)) (hl : mz_lk T cl NM ST gt own (.irem) f = true) (hs : mz_step S0 T0 (.irem) f pc L S mem = some (.inl c1)) (k : mz_Z p l e R s m args below meth c cells slots Q S0 cl D cI ad A nL Ln xs c1.1 c1.2.1 c1.2.2.1 c1.2.2.2) : mz_Z p l e R s m args below meth c cells slots Q S0 cl D cI ad A nL Ln xs pc L S mem := by
  simp only [mz_step, mz_next] at hs
  split at hs
  · obtain ⟨hb, hs⟩ := mz_condn hs
    cases hs
    exact fun ls H locs h1 h2 h3 h4 => lv_irem F.1.1 F.1.2.1 hd (by simpa using hb) (k ls H locs h1 h2 h3 h4)
  · cases hs

set_option maxHeartbeats 1000000 in
theorem mz_w_iconst {p : Program} {l : Launch} {e : Env} {R : Room} {s : State} {m : MethodId} {args : Array Value} {below : List Frame} {meth : Method} {c : Code} {cells slots : Nat} {Q : State → Prop} {S0 : mz_Sh} {T0 : List (List Int32)} {T : List mz_R} {cl : List vw_C} {NM : List String} {ST : List (String × Nat × String)} {G0 : List Jvm.Cond} {gt : Nat → Option Jvm.Cond} {D : va_G} {cI : ClassId} {ad : Nat → Nat} {A : Nat → Prop} {nL Ln : Nat} {xs : Nat → Int32} {own : String} {cc : ByteArray} (F : mz_Fix p R s m args c cells slots S0 T0 T cl NM ST G0 gt D cI ad A nL Ln xs own cc) {pc : Nat} {L : List (Option Value)} {S : List Value} {mem : mz_M} {f : mz_I} {c1 : mz_C} {n : Int} (hd : decode cc pc = .ok (.iconst n, 1)) (hl : mz_lk T cl NM ST gt own (.iconst n) f = true) (hs : mz_step S0 T0 (.iconst n) f pc L S mem = some (.inl c1)) (k : mz_Z p l e R s m args below meth c cells slots Q S0 cl D cI ad A nL Ln xs c1.1 c1.2.1 c1.2.2.1 c1.2.2.2) : mz_Z p l e R s m args below meth c cells slots Q S0 cl D cI ad A nL Ln xs pc L S mem := by
  have hl := of_decide_eq_true hl
  simp only [mz_step, mz_next] at hs
  rw [hl] at hs
  cases hs
  exact fun ls H locs h1 h2 h3 h4 => lv_iconst F.1.1 F.1.2.1 hd rfl (k ls H locs h1 h2 h3 h4)

set_option maxHeartbeats 1000000 in
theorem mz_w_bipush {p : Program} {l : Launch} {e : Env} {R : Room} {s : State} {m : MethodId} {args : Array Value} {below : List Frame} {meth : Method} {c : Code} {cells slots : Nat} {Q : State → Prop} {S0 : mz_Sh} {T0 : List (List Int32)} {T : List mz_R} {cl : List vw_C} {NM : List String} {ST : List (String × Nat × String)} {G0 : List Jvm.Cond} {gt : Nat → Option Jvm.Cond} {D : va_G} {cI : ClassId} {ad : Nat → Nat} {A : Nat → Prop} {nL Ln : Nat} {xs : Nat → Int32} {own : String} {cc : ByteArray} (F : mz_Fix p R s m args c cells slots S0 T0 T cl NM ST G0 gt D cI ad A nL Ln xs own cc) {pc : Nat} {L : List (Option Value)} {S : List Value} {mem : mz_M} {f : mz_I} {c1 : mz_C} {n : Int} (hd : decode cc pc = .ok (.bipush n, 2)) (hl : mz_lk T cl NM ST gt own (.bipush n) f = true) (hs : mz_step S0 T0 (.bipush n) f pc L S mem = some (.inl c1)) (k : mz_Z p l e R s m args below meth c cells slots Q S0 cl D cI ad A nL Ln xs c1.1 c1.2.1 c1.2.2.1 c1.2.2.2) : mz_Z p l e R s m args below meth c cells slots Q S0 cl D cI ad A nL Ln xs pc L S mem := by
  have hl := of_decide_eq_true hl
  simp only [mz_step, mz_next] at hs
  rw [hl] at hs
  cases hs
  exact fun ls H locs h1 h2 h3 h4 => lv_bipush F.1.1 F.1.2.1 hd rfl (k ls H locs h1 h2 h3 h4)

set_option maxHeartbeats 1000000 in
theorem mz_w_sipush {p : Program} {l : Launch} {e : Env} {R : Room} {s : State} {m : MethodId} {args : Array Value} {below : List Frame} {meth : Method} {c : Code} {cells slots : Nat} {Q : State → Prop} {S0 : mz_Sh} {T0 : List (List Int32)} {T : List mz_R} {cl : List vw_C} {NM : List String} {ST : List (String × Nat × String)} {G0 : List Jvm.Cond} {gt : Nat → Option Jvm.Cond} {D : va_G} {cI : ClassId} {ad : Nat → Nat} {A : Nat → Prop} {nL Ln : Nat} {xs : Nat → Int32} {own : String} {cc : ByteArray} (F : mz_Fix p R s m args c cells slots S0 T0 T cl NM ST G0 gt D cI ad A nL Ln xs own cc) {pc : Nat} {L : List (Option Value)} {S : List Value} {mem : mz_M} {f : mz_I} {c1 : mz_C} {n : Int} (hd : decode cc pc = .ok (.sipush n, 3)) (hl : mz_lk T cl NM ST gt own (.sipush n) f = true) (hs : mz_step S0 T0 (.sipush n) f pc L S mem = some (.inl c1)) (k : mz_Z p l e R s m args below meth c cells slots Q S0 cl D cI ad A nL Ln xs c1.1 c1.2.1 c1.2.2.1 c1.2.2.2) : mz_Z p l e R s m args below meth c cells slots Q S0 cl D cI ad A nL Ln xs pc L S mem := by
  have hl := of_decide_eq_true hl
  simp only [mz_step, mz_next] at hs
  rw [hl] at hs
  cases hs
  exact fun ls H locs h1 h2 h3 h4 => lv_sipush F.1.1 F.1.2.1 hd rfl (k ls H locs h1 h2 h3 h4)

set_option maxHeartbeats 1000000 in
theorem mz_w_ldc {p : Program} {l : Launch} {e : Env} {R : Room} {s : State} {m : MethodId} {args : Array Value} {below : List Frame} {meth : Method} {c : Code} {cells slots : Nat} {Q : State → Prop} {S0 : mz_Sh} {T0 : List (List Int32)} {T : List mz_R} {cl : List vw_C} {NM : List String} {ST : List (String × Nat × String)} {G0 : List Jvm.Cond} {gt : Nat → Option Jvm.Cond} {D : va_G} {cI : ClassId} {ad : Nat → Nat} {A : Nat → Prop} {nL Ln : Nat} {xs : Nat → Int32} {own : String} {cc : ByteArray} (F : mz_Fix p R s m args c cells slots S0 T0 T cl NM ST G0 gt D cI ad A nL Ln xs own cc) {pc : Nat} {L : List (Option Value)} {S : List Value} {mem : mz_M} {f : mz_I} {c1 : mz_C} {n : Nat} (hd : decode cc pc = .ok (.ldc n, 2)) (hl : mz_lk T cl NM ST gt own (.ldc n) f = true) (hs : mz_step S0 T0 (.ldc n) f pc L S mem = some (.inl c1)) (k : mz_Z p l e R s m args below meth c cells slots Q S0 cl D cI ad A nL Ln xs c1.1 c1.2.1 c1.2.2.1 c1.2.2.2) : mz_Z p l e R s m args below meth c cells slots Q S0 cl D cI ad A nL Ln xs pc L S mem := by
  simp only [mz_lk] at hl
  simp only [mz_step, mz_next] at hs
  split at hl
  · rename_i v hv
    rw [hv] at hs
    cases hs
    exact fun ls H locs h1 h2 h3 h4 => lv_ldc F.1.1 F.1.2.1 F.1.2.2.2.1 (F.1.2.2.2.2 _ (mz_Gi F (of_decide_eq_true hl) rfl)) hd (k ls H locs h1 h2 h3 h4)
  · rename_i r hv
    rw [hv] at hs
    cases hs
    split at hl
    · rename_i q hq
      simp only [Bool.and_eq_true, beq_iff_eq] at hl
      obtain ⟨⟨h5, h6⟩, h7⟩ := hl
      have hr : r = 2000 + f.2.1 := by
        have h8 : mz_cv f = some (.ref (2000 + f.2.1)) := by
          unfold mz_cv
          rw [h7]
          rfl
        rw [hv] at h8
        exact Value.ref.inj (Option.some.inj h8)
      subst hr
      have h9 := F.2.1.2.2.2.2.2.1 _ _ hq
      rw [h5, h6] at h9
      exact fun ls H locs h1 h2 h3 h4 => va_ldcS F.1.1 F.1.2.1 F.1.2.2.2.1 h9 hd (k ls H locs h1 h2 h3 h4)
    · cases hl
  · cases hl

set_option maxHeartbeats 1000000 in
theorem mz_w_ldc_w {p : Program} {l : Launch} {e : Env} {R : Room} {s : State} {m : MethodId} {args : Array Value} {below : List Frame} {meth : Method} {c : Code} {cells slots : Nat} {Q : State → Prop} {S0 : mz_Sh} {T0 : List (List Int32)} {T : List mz_R} {cl : List vw_C} {NM : List String} {ST : List (String × Nat × String)} {G0 : List Jvm.Cond} {gt : Nat → Option Jvm.Cond} {D : va_G} {cI : ClassId} {ad : Nat → Nat} {A : Nat → Prop} {nL Ln : Nat} {xs : Nat → Int32} {own : String} {cc : ByteArray} (F : mz_Fix p R s m args c cells slots S0 T0 T cl NM ST G0 gt D cI ad A nL Ln xs own cc) {pc : Nat} {L : List (Option Value)} {S : List Value} {mem : mz_M} {f : mz_I} {c1 : mz_C} {n : Nat} (hd : decode cc pc = .ok (.ldc_w n, 3)) (hl : mz_lk T cl NM ST gt own (.ldc_w n) f = true) (hs : mz_step S0 T0 (.ldc_w n) f pc L S mem = some (.inl c1)) (k : mz_Z p l e R s m args below meth c cells slots Q S0 cl D cI ad A nL Ln xs c1.1 c1.2.1 c1.2.2.1 c1.2.2.2) : mz_Z p l e R s m args below meth c cells slots Q S0 cl D cI ad A nL Ln xs pc L S mem := by
  simp only [mz_lk] at hl
  simp only [mz_step, mz_next] at hs
  split at hl
  · rename_i v hv
    rw [hv] at hs
    cases hs
    exact fun ls H locs h1 h2 h3 h4 => lv_ldcw F.1.1 F.1.2.1 F.1.2.2.2.1 (F.1.2.2.2.2 _ (mz_Gi F (of_decide_eq_true hl) rfl)) hd (k ls H locs h1 h2 h3 h4)
  · rename_i r hv
    rw [hv] at hs
    cases hs
    split at hl
    · rename_i q hq
      simp only [Bool.and_eq_true, beq_iff_eq] at hl
      obtain ⟨⟨h5, h6⟩, h7⟩ := hl
      have hr : r = 2000 + f.2.1 := by
        have h8 : mz_cv f = some (.ref (2000 + f.2.1)) := by
          unfold mz_cv
          rw [h7]
          rfl
        rw [hv] at h8
        exact Value.ref.inj (Option.some.inj h8)
      subst hr
      have h9 := F.2.1.2.2.2.2.2.1 _ _ hq
      rw [h5, h6] at h9
      exact fun ls H locs h1 h2 h3 h4 => mz_ldcwS F.1.1 F.1.2.1 F.1.2.2.2.1 h9 hd (k ls H locs h1 h2 h3 h4)
    · cases hl
  · cases hl

set_option maxHeartbeats 1000000 in
theorem mz_w_ldc2_w {p : Program} {l : Launch} {e : Env} {R : Room} {s : State} {m : MethodId} {args : Array Value} {below : List Frame} {meth : Method} {c : Code} {cells slots : Nat} {Q : State → Prop} {S0 : mz_Sh} {T0 : List (List Int32)} {T : List mz_R} {cl : List vw_C} {NM : List String} {ST : List (String × Nat × String)} {G0 : List Jvm.Cond} {gt : Nat → Option Jvm.Cond} {D : va_G} {cI : ClassId} {ad : Nat → Nat} {A : Nat → Prop} {nL Ln : Nat} {xs : Nat → Int32} {own : String} {cc : ByteArray} (F : mz_Fix p R s m args c cells slots S0 T0 T cl NM ST G0 gt D cI ad A nL Ln xs own cc) {pc : Nat} {L : List (Option Value)} {S : List Value} {mem : mz_M} {f : mz_I} {c1 : mz_C} {n : Nat} (hd : decode cc pc = .ok (.ldc2_w n, 3)) (hl : mz_lk T cl NM ST gt own (.ldc2_w n) f = true) (hs : mz_step S0 T0 (.ldc2_w n) f pc L S mem = some (.inl c1)) (k : mz_Z p l e R s m args below meth c cells slots Q S0 cl D cI ad A nL Ln xs c1.1 c1.2.1 c1.2.2.1 c1.2.2.2) : mz_Z p l e R s m args below meth c cells slots Q S0 cl D cI ad A nL Ln xs pc L S mem := by
  simp only [mz_lk] at hl
  simp only [mz_step, mz_next] at hs
  cases hs
  exact fun ls H locs h1 h2 h3 h4 => lv_ldc2 F.1.1 F.1.2.1 F.1.2.2.2.1 (F.1.2.2.2.2 _ (mz_Gi F (of_decide_eq_true hl) rfl)) hd (k ls H locs h1 h2 h3 h4)

set_option maxHeartbeats 1000000 in
theorem mz_w_iload_n {p : Program} {l : Launch} {e : Env} {R : Room} {s : State} {m : MethodId} {args : Array Value} {below : List Frame} {meth : Method} {c : Code} {cells slots : Nat} {Q : State → Prop} {S0 : mz_Sh} {T0 : List (List Int32)} {T : List mz_R} {cl : List vw_C} {NM : List String} {ST : List (String × Nat × String)} {G0 : List Jvm.Cond} {gt : Nat → Option Jvm.Cond} {D : va_G} {cI : ClassId} {ad : Nat → Nat} {A : Nat → Prop} {nL Ln : Nat} {xs : Nat → Int32} {own : String} {cc : ByteArray} (F : mz_Fix p R s m args c cells slots S0 T0 T cl NM ST G0 gt D cI ad A nL Ln xs own cc) {pc : Nat} {L : List (Option Value)} {S : List Value} {mem : mz_M} {f : mz_I} {c1 : mz_C} {n : Fin 4} (hd : decode cc pc = .ok (.iload_n n, 1)) (hl : mz_lk T cl NM ST gt own (.iload_n n) f = true) (hs : mz_step S0 T0 (.iload_n n) f pc L S mem = some (.inl c1)) (k : mz_Z p l e R s m args below meth c cells slots Q S0 cl D cI ad A nL Ln xs c1.1 c1.2.1 c1.2.2.1 c1.2.2.2) : mz_Z p l e R s m args below meth c cells slots Q S0 cl D cI ad A nL Ln xs pc L S mem := by
  simp only [mz_step, mz_next] at hs
  split at hs
  · rename_i x hx
    cases hs
    exact fun ls H locs h1 h2 h3 h4 => lv_iload_n F.1.1 F.1.2.1 hd rfl (h1.2.2.2 _ _ (mz_ld_at hx)) (k ls H locs h1 h2 h3 h4)
  · cases hs

set_option maxHeartbeats 1000000 in
theorem mz_w_iload {p : Program} {l : Launch} {e : Env} {R : Room} {s : State} {m : MethodId} {args : Array Value} {below : List Frame} {meth : Method} {c : Code} {cells slots : Nat} {Q : State → Prop} {S0 : mz_Sh} {T0 : List (List Int32)} {T : List mz_R} {cl : List vw_C} {NM : List String} {ST : List (String × Nat × String)} {G0 : List Jvm.Cond} {gt : Nat → Option Jvm.Cond} {D : va_G} {cI : ClassId} {ad : Nat → Nat} {A : Nat → Prop} {nL Ln : Nat} {xs : Nat → Int32} {own : String} {cc : ByteArray} (F : mz_Fix p R s m args c cells slots S0 T0 T cl NM ST G0 gt D cI ad A nL Ln xs own cc) {pc : Nat} {L : List (Option Value)} {S : List Value} {mem : mz_M} {f : mz_I} {c1 : mz_C} {n : Nat} (hd : decode cc pc = .ok (.iload n, 2)) (hl : mz_lk T cl NM ST gt own (.iload n) f = true) (hs : mz_step S0 T0 (.iload n) f pc L S mem = some (.inl c1)) (k : mz_Z p l e R s m args below meth c cells slots Q S0 cl D cI ad A nL Ln xs c1.1 c1.2.1 c1.2.2.1 c1.2.2.2) : mz_Z p l e R s m args below meth c cells slots Q S0 cl D cI ad A nL Ln xs pc L S mem := by
  simp only [mz_step, mz_next] at hs
  split at hs
  · rename_i x hx
    cases hs
    exact fun ls H locs h1 h2 h3 h4 => lv_iload F.1.1 F.1.2.1 hd (h1.2.2.2 _ _ (mz_ld_at hx)) (k ls H locs h1 h2 h3 h4)
  · cases hs

set_option maxHeartbeats 1000000 in
theorem mz_w_aload_n {p : Program} {l : Launch} {e : Env} {R : Room} {s : State} {m : MethodId} {args : Array Value} {below : List Frame} {meth : Method} {c : Code} {cells slots : Nat} {Q : State → Prop} {S0 : mz_Sh} {T0 : List (List Int32)} {T : List mz_R} {cl : List vw_C} {NM : List String} {ST : List (String × Nat × String)} {G0 : List Jvm.Cond} {gt : Nat → Option Jvm.Cond} {D : va_G} {cI : ClassId} {ad : Nat → Nat} {A : Nat → Prop} {nL Ln : Nat} {xs : Nat → Int32} {own : String} {cc : ByteArray} (F : mz_Fix p R s m args c cells slots S0 T0 T cl NM ST G0 gt D cI ad A nL Ln xs own cc) {pc : Nat} {L : List (Option Value)} {S : List Value} {mem : mz_M} {f : mz_I} {c1 : mz_C} {n : Fin 4} (hd : decode cc pc = .ok (.aload_n n, 1)) (hl : mz_lk T cl NM ST gt own (.aload_n n) f = true) (hs : mz_step S0 T0 (.aload_n n) f pc L S mem = some (.inl c1)) (k : mz_Z p l e R s m args below meth c cells slots Q S0 cl D cI ad A nL Ln xs c1.1 c1.2.1 c1.2.2.1 c1.2.2.2) : mz_Z p l e R s m args below meth c cells slots Q S0 cl D cI ad A nL Ln xs pc L S mem := by
  simp only [mz_step, mz_next] at hs
  split at hs
  · rename_i x hx
    cases hs
    exact fun ls H locs h1 h2 h3 h4 => lv_aload_n F.1.1 F.1.2.1 hd rfl (h1.2.2.2 _ _ (mz_ld_at hx)) (k ls H locs h1 h2 h3 h4)
  · cases hs

set_option maxHeartbeats 1000000 in
theorem mz_w_aload {p : Program} {l : Launch} {e : Env} {R : Room} {s : State} {m : MethodId} {args : Array Value} {below : List Frame} {meth : Method} {c : Code} {cells slots : Nat} {Q : State → Prop} {S0 : mz_Sh} {T0 : List (List Int32)} {T : List mz_R} {cl : List vw_C} {NM : List String} {ST : List (String × Nat × String)} {G0 : List Jvm.Cond} {gt : Nat → Option Jvm.Cond} {D : va_G} {cI : ClassId} {ad : Nat → Nat} {A : Nat → Prop} {nL Ln : Nat} {xs : Nat → Int32} {own : String} {cc : ByteArray} (F : mz_Fix p R s m args c cells slots S0 T0 T cl NM ST G0 gt D cI ad A nL Ln xs own cc) {pc : Nat} {L : List (Option Value)} {S : List Value} {mem : mz_M} {f : mz_I} {c1 : mz_C} {n : Nat} (hd : decode cc pc = .ok (.aload n, 2)) (hl : mz_lk T cl NM ST gt own (.aload n) f = true) (hs : mz_step S0 T0 (.aload n) f pc L S mem = some (.inl c1)) (k : mz_Z p l e R s m args below meth c cells slots Q S0 cl D cI ad A nL Ln xs c1.1 c1.2.1 c1.2.2.1 c1.2.2.2) : mz_Z p l e R s m args below meth c cells slots Q S0 cl D cI ad A nL Ln xs pc L S mem := by
  simp only [mz_step, mz_next] at hs
  split at hs
  · rename_i x hx
    cases hs
    exact fun ls H locs h1 h2 h3 h4 => lv_aload F.1.1 F.1.2.1 hd (h1.2.2.2 _ _ (mz_ld_at hx)) (k ls H locs h1 h2 h3 h4)
  · cases hs

set_option maxHeartbeats 1000000 in
theorem mz_w_lload_n {p : Program} {l : Launch} {e : Env} {R : Room} {s : State} {m : MethodId} {args : Array Value} {below : List Frame} {meth : Method} {c : Code} {cells slots : Nat} {Q : State → Prop} {S0 : mz_Sh} {T0 : List (List Int32)} {T : List mz_R} {cl : List vw_C} {NM : List String} {ST : List (String × Nat × String)} {G0 : List Jvm.Cond} {gt : Nat → Option Jvm.Cond} {D : va_G} {cI : ClassId} {ad : Nat → Nat} {A : Nat → Prop} {nL Ln : Nat} {xs : Nat → Int32} {own : String} {cc : ByteArray} (F : mz_Fix p R s m args c cells slots S0 T0 T cl NM ST G0 gt D cI ad A nL Ln xs own cc) {pc : Nat} {L : List (Option Value)} {S : List Value} {mem : mz_M} {f : mz_I} {c1 : mz_C} {n : Fin 4} (hd : decode cc pc = .ok (.lload_n n, 1)) (hl : mz_lk T cl NM ST gt own (.lload_n n) f = true) (hs : mz_step S0 T0 (.lload_n n) f pc L S mem = some (.inl c1)) (k : mz_Z p l e R s m args below meth c cells slots Q S0 cl D cI ad A nL Ln xs c1.1 c1.2.1 c1.2.2.1 c1.2.2.2) : mz_Z p l e R s m args below meth c cells slots Q S0 cl D cI ad A nL Ln xs pc L S mem := by
  simp only [mz_step, mz_next] at hs
  split at hs
  · rename_i x hx
    cases hs
    exact fun ls H locs h1 h2 h3 h4 => lv_lload_n F.1.1 F.1.2.1 hd rfl (h1.2.2.2 _ _ (mz_ld_at hx)) (k ls H locs h1 h2 h3 h4)
  · cases hs

set_option maxHeartbeats 1000000 in
theorem mz_w_istore_n {p : Program} {l : Launch} {e : Env} {R : Room} {s : State} {m : MethodId} {args : Array Value} {below : List Frame} {meth : Method} {c : Code} {cells slots : Nat} {Q : State → Prop} {S0 : mz_Sh} {T0 : List (List Int32)} {T : List mz_R} {cl : List vw_C} {NM : List String} {ST : List (String × Nat × String)} {G0 : List Jvm.Cond} {gt : Nat → Option Jvm.Cond} {D : va_G} {cI : ClassId} {ad : Nat → Nat} {A : Nat → Prop} {nL Ln : Nat} {xs : Nat → Int32} {own : String} {cc : ByteArray} (F : mz_Fix p R s m args c cells slots S0 T0 T cl NM ST G0 gt D cI ad A nL Ln xs own cc) {pc : Nat} {L : List (Option Value)} {S : List Value} {mem : mz_M} {f : mz_I} {c1 : mz_C} {n : Fin 4} (hd : decode cc pc = .ok (.istore_n n, 1)) (hl : mz_lk T cl NM ST gt own (.istore_n n) f = true) (hs : mz_step S0 T0 (.istore_n n) f pc L S mem = some (.inl c1)) (k : mz_Z p l e R s m args below meth c cells slots Q S0 cl D cI ad A nL Ln xs c1.1 c1.2.1 c1.2.2.1 c1.2.2.2) : mz_Z p l e R s m args below meth c cells slots Q S0 cl D cI ad A nL Ln xs pc L S mem := by
  simp only [mz_step, mz_next] at hs
  split at hs
  · obtain ⟨hb, hs⟩ := mz_cond hs
    cases hs
    exact fun ls H locs h1 h2 h3 h4 => lv_istore_n F.1.1 F.1.2.1 hd rfl (mz_ls_has h1) (h1.2.2.1 ▸ of_decide_eq_true hb) rfl (fun ls' h' => k ls' H locs (mz_ls_st h1 (of_decide_eq_true hb) h') h2 h3 h4)
  · cases hs

set_option maxHeartbeats 1000000 in
theorem mz_w_istore {p : Program} {l : Launch} {e : Env} {R : Room} {s : State} {m : MethodId} {args : Array Value} {below : List Frame} {meth : Method} {c : Code} {cells slots : Nat} {Q : State → Prop} {S0 : mz_Sh} {T0 : List (List Int32)} {T : List mz_R} {cl : List vw_C} {NM : List String} {ST : List (String × Nat × String)} {G0 : List Jvm.Cond} {gt : Nat → Option Jvm.Cond} {D : va_G} {cI : ClassId} {ad : Nat → Nat} {A : Nat → Prop} {nL Ln : Nat} {xs : Nat → Int32} {own : String} {cc : ByteArray} (F : mz_Fix p R s m args c cells slots S0 T0 T cl NM ST G0 gt D cI ad A nL Ln xs own cc) {pc : Nat} {L : List (Option Value)} {S : List Value} {mem : mz_M} {f : mz_I} {c1 : mz_C} {n : Nat} (hd : decode cc pc = .ok (.istore n, 2)) (hl : mz_lk T cl NM ST gt own (.istore n) f = true) (hs : mz_step S0 T0 (.istore n) f pc L S mem = some (.inl c1)) (k : mz_Z p l e R s m args below meth c cells slots Q S0 cl D cI ad A nL Ln xs c1.1 c1.2.1 c1.2.2.1 c1.2.2.2) : mz_Z p l e R s m args below meth c cells slots Q S0 cl D cI ad A nL Ln xs pc L S mem := by
  simp only [mz_step, mz_next] at hs
  split at hs
  · obtain ⟨hb, hs⟩ := mz_cond hs
    cases hs
    exact fun ls H locs h1 h2 h3 h4 => lv_istore F.1.1 F.1.2.1 hd (mz_ls_has h1) (h1.2.2.1 ▸ of_decide_eq_true hb) rfl (fun ls' h' => k ls' H locs (mz_ls_st h1 (of_decide_eq_true hb) h') h2 h3 h4)
  · cases hs

set_option maxHeartbeats 1000000 in
theorem mz_w_astore_n {p : Program} {l : Launch} {e : Env} {R : Room} {s : State} {m : MethodId} {args : Array Value} {below : List Frame} {meth : Method} {c : Code} {cells slots : Nat} {Q : State → Prop} {S0 : mz_Sh} {T0 : List (List Int32)} {T : List mz_R} {cl : List vw_C} {NM : List String} {ST : List (String × Nat × String)} {G0 : List Jvm.Cond} {gt : Nat → Option Jvm.Cond} {D : va_G} {cI : ClassId} {ad : Nat → Nat} {A : Nat → Prop} {nL Ln : Nat} {xs : Nat → Int32} {own : String} {cc : ByteArray} (F : mz_Fix p R s m args c cells slots S0 T0 T cl NM ST G0 gt D cI ad A nL Ln xs own cc) {pc : Nat} {L : List (Option Value)} {S : List Value} {mem : mz_M} {f : mz_I} {c1 : mz_C} {n : Fin 4} (hd : decode cc pc = .ok (.astore_n n, 1)) (hl : mz_lk T cl NM ST gt own (.astore_n n) f = true) (hs : mz_step S0 T0 (.astore_n n) f pc L S mem = some (.inl c1)) (k : mz_Z p l e R s m args below meth c cells slots Q S0 cl D cI ad A nL Ln xs c1.1 c1.2.1 c1.2.2.1 c1.2.2.2) : mz_Z p l e R s m args below meth c cells slots Q S0 cl D cI ad A nL Ln xs pc L S mem := by
  simp only [mz_step, mz_next] at hs
  split at hs
  · obtain ⟨hb, hs⟩ := mz_cond hs
    cases hs
    exact fun ls H locs h1 h2 h3 h4 => lv_astore_n F.1.1 F.1.2.1 hd rfl (mz_ls_has h1) (h1.2.2.1 ▸ of_decide_eq_true hb) rfl (fun ls' h' => k ls' H locs (mz_ls_st h1 (of_decide_eq_true hb) h') h2 h3 h4)
  · cases hs

set_option maxHeartbeats 1000000 in
theorem mz_w_astore {p : Program} {l : Launch} {e : Env} {R : Room} {s : State} {m : MethodId} {args : Array Value} {below : List Frame} {meth : Method} {c : Code} {cells slots : Nat} {Q : State → Prop} {S0 : mz_Sh} {T0 : List (List Int32)} {T : List mz_R} {cl : List vw_C} {NM : List String} {ST : List (String × Nat × String)} {G0 : List Jvm.Cond} {gt : Nat → Option Jvm.Cond} {D : va_G} {cI : ClassId} {ad : Nat → Nat} {A : Nat → Prop} {nL Ln : Nat} {xs : Nat → Int32} {own : String} {cc : ByteArray} (F : mz_Fix p R s m args c cells slots S0 T0 T cl NM ST G0 gt D cI ad A nL Ln xs own cc) {pc : Nat} {L : List (Option Value)} {S : List Value} {mem : mz_M} {f : mz_I} {c1 : mz_C} {n : Nat} (hd : decode cc pc = .ok (.astore n, 2)) (hl : mz_lk T cl NM ST gt own (.astore n) f = true) (hs : mz_step S0 T0 (.astore n) f pc L S mem = some (.inl c1)) (k : mz_Z p l e R s m args below meth c cells slots Q S0 cl D cI ad A nL Ln xs c1.1 c1.2.1 c1.2.2.1 c1.2.2.2) : mz_Z p l e R s m args below meth c cells slots Q S0 cl D cI ad A nL Ln xs pc L S mem := by
  simp only [mz_step, mz_next] at hs
  split at hs
  · obtain ⟨hb, hs⟩ := mz_cond hs
    cases hs
    exact fun ls H locs h1 h2 h3 h4 => lv_astore F.1.1 F.1.2.1 hd (mz_ls_has h1) (h1.2.2.1 ▸ of_decide_eq_true hb) rfl (fun ls' h' => k ls' H locs (mz_ls_st h1 (of_decide_eq_true hb) h') h2 h3 h4)
  · cases hs

set_option maxHeartbeats 1000000 in
theorem mz_w_iinc {p : Program} {l : Launch} {e : Env} {R : Room} {s : State} {m : MethodId} {args : Array Value} {below : List Frame} {meth : Method} {c : Code} {cells slots : Nat} {Q : State → Prop} {S0 : mz_Sh} {T0 : List (List Int32)} {T : List mz_R} {cl : List vw_C} {NM : List String} {ST : List (String × Nat × String)} {G0 : List Jvm.Cond} {gt : Nat → Option Jvm.Cond} {D : va_G} {cI : ClassId} {ad : Nat → Nat} {A : Nat → Prop} {nL Ln : Nat} {xs : Nat → Int32} {own : String} {cc : ByteArray} (F : mz_Fix p R s m args c cells slots S0 T0 T cl NM ST G0 gt D cI ad A nL Ln xs own cc) {pc : Nat} {L : List (Option Value)} {S : List Value} {mem : mz_M} {f : mz_I} {c1 : mz_C} {i : Nat} {n : Int} (hd : decode cc pc = .ok (.iinc i n, 3)) (hl : mz_lk T cl NM ST gt own (.iinc i n) f = true) (hs : mz_step S0 T0 (.iinc i n) f pc L S mem = some (.inl c1)) (k : mz_Z p l e R s m args below meth c cells slots Q S0 cl D cI ad A nL Ln xs c1.1 c1.2.1 c1.2.2.1 c1.2.2.2) : mz_Z p l e R s m args below meth c cells slots Q S0 cl D cI ad A nL Ln xs pc L S mem := by
  have hl := of_decide_eq_true hl
  simp only [mz_step, mz_next] at hs
  rw [hl] at hs
  split at hs
  · rename_i x y hx hy
    cases hy
    cases hs
    have hL := mz_ld_at hx
    have hi : i < L.length := (List.getElem?_eq_some_iff.mp hL).1
    obtain ⟨j, hj⟩ := List.getElem?_of_mem (mz_lv_mem (ad := ad).mpr ⟨_, hL, rfl⟩)
    exact fun ls H locs h1 h2 h3 h4 => lv_iinc F.1.1 F.1.2.1 hd (mz_ls_has h1) hj rfl (h1.2.2.1 ▸ hi) rfl (fun ls' h' => k ls' H locs (mz_ls_st h1 hi h') h2 h3 h4)
  · cases hs

set_option maxHeartbeats 1000000 in
theorem mz_w_dup {p : Program} {l : Launch} {e : Env} {R : Room} {s : State} {m : MethodId} {args : Array Value} {below : List Frame} {meth : Method} {c : Code} {cells slots : Nat} {Q : State → Prop} {S0 : mz_Sh} {T0 : List (List Int32)} {T : List mz_R} {cl : List vw_C} {NM : List String} {ST : List (String × Nat × String)} {G0 : List Jvm.Cond} {gt : Nat → Option Jvm.Cond} {D : va_G} {cI : ClassId} {ad : Nat → Nat} {A : Nat → Prop} {nL Ln : Nat} {xs : Nat → Int32} {own : String} {cc : ByteArray} (F : mz_Fix p R s m args c cells slots S0 T0 T cl NM ST G0 gt D cI ad A nL Ln xs own cc) {pc : Nat} {L : List (Option Value)} {S : List Value} {mem : mz_M} {f : mz_I} {c1 : mz_C} (hd : decode cc pc = .ok (.dup, 1)) (hl : mz_lk T cl NM ST gt own (.dup) f = true) (hs : mz_step S0 T0 (.dup) f pc L S mem = some (.inl c1)) (k : mz_Z p l e R s m args below meth c cells slots Q S0 cl D cI ad A nL Ln xs c1.1 c1.2.1 c1.2.2.1 c1.2.2.2) : mz_Z p l e R s m args below meth c cells slots Q S0 cl D cI ad A nL Ln xs pc L S mem := by
  simp only [mz_step, mz_next] at hs
  split at hs
  · obtain ⟨hb, hs⟩ := mz_cond hs
    cases hs
    exact fun ls H locs h1 h2 h3 h4 => lv_dup F.1.1 F.1.2.1 hd (by rw [mz_cvv_cat]; simpa using hb) (k ls H locs h1 h2 h3 h4)
  · cases hs

set_option maxHeartbeats 1000000 in
theorem mz_w_pop {p : Program} {l : Launch} {e : Env} {R : Room} {s : State} {m : MethodId} {args : Array Value} {below : List Frame} {meth : Method} {c : Code} {cells slots : Nat} {Q : State → Prop} {S0 : mz_Sh} {T0 : List (List Int32)} {T : List mz_R} {cl : List vw_C} {NM : List String} {ST : List (String × Nat × String)} {G0 : List Jvm.Cond} {gt : Nat → Option Jvm.Cond} {D : va_G} {cI : ClassId} {ad : Nat → Nat} {A : Nat → Prop} {nL Ln : Nat} {xs : Nat → Int32} {own : String} {cc : ByteArray} (F : mz_Fix p R s m args c cells slots S0 T0 T cl NM ST G0 gt D cI ad A nL Ln xs own cc) {pc : Nat} {L : List (Option Value)} {S : List Value} {mem : mz_M} {f : mz_I} {c1 : mz_C} (hd : decode cc pc = .ok (.pop, 1)) (hl : mz_lk T cl NM ST gt own (.pop) f = true) (hs : mz_step S0 T0 (.pop) f pc L S mem = some (.inl c1)) (k : mz_Z p l e R s m args below meth c cells slots Q S0 cl D cI ad A nL Ln xs c1.1 c1.2.1 c1.2.2.1 c1.2.2.2) : mz_Z p l e R s m args below meth c cells slots Q S0 cl D cI ad A nL Ln xs pc L S mem := by
  simp only [mz_step, mz_next] at hs
  split at hs
  · obtain ⟨hb, hs⟩ := mz_cond hs
    cases hs
    exact fun ls H locs h1 h2 h3 h4 => lv_pop F.1.1 F.1.2.1 hd (by rw [mz_cvv_cat]; simpa using hb) (k ls H locs h1 h2 h3 h4)
  · cases hs

set_option maxHeartbeats 1000000 in
theorem mz_w_dup_x1 {p : Program} {l : Launch} {e : Env} {R : Room} {s : State} {m : MethodId} {args : Array Value} {below : List Frame} {meth : Method} {c : Code} {cells slots : Nat} {Q : State → Prop} {S0 : mz_Sh} {T0 : List (List Int32)} {T : List mz_R} {cl : List vw_C} {NM : List String} {ST : List (String × Nat × String)} {G0 : List Jvm.Cond} {gt : Nat → Option Jvm.Cond} {D : va_G} {cI : ClassId} {ad : Nat → Nat} {A : Nat → Prop} {nL Ln : Nat} {xs : Nat → Int32} {own : String} {cc : ByteArray} (F : mz_Fix p R s m args c cells slots S0 T0 T cl NM ST G0 gt D cI ad A nL Ln xs own cc) {pc : Nat} {L : List (Option Value)} {S : List Value} {mem : mz_M} {f : mz_I} {c1 : mz_C} (hd : decode cc pc = .ok (.dup_x1, 1)) (hl : mz_lk T cl NM ST gt own (.dup_x1) f = true) (hs : mz_step S0 T0 (.dup_x1) f pc L S mem = some (.inl c1)) (k : mz_Z p l e R s m args below meth c cells slots Q S0 cl D cI ad A nL Ln xs c1.1 c1.2.1 c1.2.2.1 c1.2.2.2) : mz_Z p l e R s m args below meth c cells slots Q S0 cl D cI ad A nL Ln xs pc L S mem := by
  simp only [mz_step, mz_next] at hs
  split at hs
  · obtain ⟨hb, hs⟩ := mz_cond hs
    cases hs
    simp only [Bool.and_eq_true, beq_iff_eq] at hb
    exact fun ls H locs h1 h2 h3 h4 => lv_dup_x1 F.1.1 F.1.2.1 hd (by rw [mz_cvv_cat]; exact hb.1) (by rw [mz_cvv_cat]; exact hb.2) (k ls H locs h1 h2 h3 h4)
  · cases hs

set_option maxHeartbeats 1000000 in
theorem mz_w_dup2 {p : Program} {l : Launch} {e : Env} {R : Room} {s : State} {m : MethodId} {args : Array Value} {below : List Frame} {meth : Method} {c : Code} {cells slots : Nat} {Q : State → Prop} {S0 : mz_Sh} {T0 : List (List Int32)} {T : List mz_R} {cl : List vw_C} {NM : List String} {ST : List (String × Nat × String)} {G0 : List Jvm.Cond} {gt : Nat → Option Jvm.Cond} {D : va_G} {cI : ClassId} {ad : Nat → Nat} {A : Nat → Prop} {nL Ln : Nat} {xs : Nat → Int32} {own : String} {cc : ByteArray} (F : mz_Fix p R s m args c cells slots S0 T0 T cl NM ST G0 gt D cI ad A nL Ln xs own cc) {pc : Nat} {L : List (Option Value)} {S : List Value} {mem : mz_M} {f : mz_I} {c1 : mz_C} (hd : decode cc pc = .ok (.dup2, 1)) (hl : mz_lk T cl NM ST gt own (.dup2) f = true) (hs : mz_step S0 T0 (.dup2) f pc L S mem = some (.inl c1)) (k : mz_Z p l e R s m args below meth c cells slots Q S0 cl D cI ad A nL Ln xs c1.1 c1.2.1 c1.2.2.1 c1.2.2.2) : mz_Z p l e R s m args below meth c cells slots Q S0 cl D cI ad A nL Ln xs pc L S mem := by
  simp only [mz_step, mz_next] at hs
  split at hs
  · obtain ⟨hb, hs⟩ := mz_cond hs
    cases hs
    simp only [Bool.and_eq_true, beq_iff_eq] at hb
    exact fun ls H locs h1 h2 h3 h4 => lv_dup2_11 F.1.1 F.1.2.1 hd (by rw [mz_cvv_cat]; exact hb.1) (by rw [mz_cvv_cat]; exact hb.2) (k ls H locs h1 h2 h3 h4)
  · cases hs

set_option maxHeartbeats 1000000 in
theorem mz_w_if_eq {p : Program} {l : Launch} {e : Env} {R : Room} {s : State} {m : MethodId} {args : Array Value} {below : List Frame} {meth : Method} {c : Code} {cells slots : Nat} {Q : State → Prop} {S0 : mz_Sh} {T0 : List (List Int32)} {T : List mz_R} {cl : List vw_C} {NM : List String} {ST : List (String × Nat × String)} {G0 : List Jvm.Cond} {gt : Nat → Option Jvm.Cond} {D : va_G} {cI : ClassId} {ad : Nat → Nat} {A : Nat → Prop} {nL Ln : Nat} {xs : Nat → Int32} {own : String} {cc : ByteArray} (F : mz_Fix p R s m args c cells slots S0 T0 T cl NM ST G0 gt D cI ad A nL Ln xs own cc) {pc : Nat} {L : List (Option Value)} {S : List Value} {mem : mz_M} {f : mz_I} {c1 : mz_C} {o : Int} (hd : decode cc pc = .ok (.ifCond .eq o, 3)) (hl : mz_lk T cl NM ST gt own (.ifCond .eq o) f = true) (hs : mz_step S0 T0 (.ifCond .eq o) f pc L S mem = some (.inl c1)) (k : mz_Z p l e R s m args below meth c cells slots Q S0 cl D cI ad A nL Ln xs c1.1 c1.2.1 c1.2.2.1 c1.2.2.2) : mz_Z p l e R s m args below meth c cells slots Q S0 cl D cI ad A nL Ln xs pc L S mem := by
  simp only [mz_step, mz_jump] at hs
  split at hs
  · obtain ⟨hb, hs⟩ := mz_cond hs
    cases hs
    intro ls H locs h1 h2 h3 h4
    have hk := k ls H locs h1 h2 h3 h4
    refine lv_if_eq F.1.1 F.1.2.1 hd (mz_tg_ok hb) (fun q => ?_) (fun q => ?_)
    · rw [if_pos q] at hk
      exact hk
    · rw [if_neg q] at hk
      exact hk
  · cases hs

set_option maxHeartbeats 1000000 in
theorem mz_w_if_ne {p : Program} {l : Launch} {e : Env} {R : Room} {s : State} {m : MethodId} {args : Array Value} {below : List Frame} {meth : Method} {c : Code} {cells slots : Nat} {Q : State → Prop} {S0 : mz_Sh} {T0 : List (List Int32)} {T : List mz_R} {cl : List vw_C} {NM : List String} {ST : List (String × Nat × String)} {G0 : List Jvm.Cond} {gt : Nat → Option Jvm.Cond} {D : va_G} {cI : ClassId} {ad : Nat → Nat} {A : Nat → Prop} {nL Ln : Nat} {xs : Nat → Int32} {own : String} {cc : ByteArray} (F : mz_Fix p R s m args c cells slots S0 T0 T cl NM ST G0 gt D cI ad A nL Ln xs own cc) {pc : Nat} {L : List (Option Value)} {S : List Value} {mem : mz_M} {f : mz_I} {c1 : mz_C} {o : Int} (hd : decode cc pc = .ok (.ifCond .ne o, 3)) (hl : mz_lk T cl NM ST gt own (.ifCond .ne o) f = true) (hs : mz_step S0 T0 (.ifCond .ne o) f pc L S mem = some (.inl c1)) (k : mz_Z p l e R s m args below meth c cells slots Q S0 cl D cI ad A nL Ln xs c1.1 c1.2.1 c1.2.2.1 c1.2.2.2) : mz_Z p l e R s m args below meth c cells slots Q S0 cl D cI ad A nL Ln xs pc L S mem := by
  simp only [mz_step, mz_jump] at hs
  split at hs
  · obtain ⟨hb, hs⟩ := mz_cond hs
    cases hs
    intro ls H locs h1 h2 h3 h4
    have hk := k ls H locs h1 h2 h3 h4
    refine lv_if_ne F.1.1 F.1.2.1 hd (mz_tg_ok hb) (fun q => ?_) (fun q => ?_)
    · rw [if_neg q] at hk
      exact hk
    · rw [if_pos q] at hk
      exact hk
  · cases hs

set_option maxHeartbeats 1000000 in
theorem mz_w_if_lt {p : Program} {l : Launch} {e : Env} {R : Room} {s : State} {m : MethodId} {args : Array Value} {below : List Frame} {meth : Method} {c : Code} {cells slots : Nat} {Q : State → Prop} {S0 : mz_Sh} {T0 : List (List Int32)} {T : List mz_R} {cl : List vw_C} {NM : List String} {ST : List (String × Nat × String)} {G0 : List Jvm.Cond} {gt : Nat → Option Jvm.Cond} {D : va_G} {cI : ClassId} {ad : Nat → Nat} {A : Nat → Prop} {nL Ln : Nat} {xs : Nat → Int32} {own : String} {cc : ByteArray} (F : mz_Fix p R s m args c cells slots S0 T0 T cl NM ST G0 gt D cI ad A nL Ln xs own cc) {pc : Nat} {L : List (Option Value)} {S : List Value} {mem : mz_M} {f : mz_I} {c1 : mz_C} {o : Int} (hd : decode cc pc = .ok (.ifCond .lt o, 3)) (hl : mz_lk T cl NM ST gt own (.ifCond .lt o) f = true) (hs : mz_step S0 T0 (.ifCond .lt o) f pc L S mem = some (.inl c1)) (k : mz_Z p l e R s m args below meth c cells slots Q S0 cl D cI ad A nL Ln xs c1.1 c1.2.1 c1.2.2.1 c1.2.2.2) : mz_Z p l e R s m args below meth c cells slots Q S0 cl D cI ad A nL Ln xs pc L S mem := by
  simp only [mz_step, mz_jump] at hs
  split at hs
  · obtain ⟨hb, hs⟩ := mz_cond hs
    cases hs
    intro ls H locs h1 h2 h3 h4
    have hk := k ls H locs h1 h2 h3 h4
    refine lv_if_lt F.1.1 F.1.2.1 hd (mz_tg_ok hb) (fun q => ?_) (fun q => ?_)
    · rw [if_pos q] at hk
      exact hk
    · rw [if_neg q] at hk
      exact hk
  · cases hs

set_option maxHeartbeats 1000000 in
theorem mz_w_if_ge {p : Program} {l : Launch} {e : Env} {R : Room} {s : State} {m : MethodId} {args : Array Value} {below : List Frame} {meth : Method} {c : Code} {cells slots : Nat} {Q : State → Prop} {S0 : mz_Sh} {T0 : List (List Int32)} {T : List mz_R} {cl : List vw_C} {NM : List String} {ST : List (String × Nat × String)} {G0 : List Jvm.Cond} {gt : Nat → Option Jvm.Cond} {D : va_G} {cI : ClassId} {ad : Nat → Nat} {A : Nat → Prop} {nL Ln : Nat} {xs : Nat → Int32} {own : String} {cc : ByteArray} (F : mz_Fix p R s m args c cells slots S0 T0 T cl NM ST G0 gt D cI ad A nL Ln xs own cc) {pc : Nat} {L : List (Option Value)} {S : List Value} {mem : mz_M} {f : mz_I} {c1 : mz_C} {o : Int} (hd : decode cc pc = .ok (.ifCond .ge o, 3)) (hl : mz_lk T cl NM ST gt own (.ifCond .ge o) f = true) (hs : mz_step S0 T0 (.ifCond .ge o) f pc L S mem = some (.inl c1)) (k : mz_Z p l e R s m args below meth c cells slots Q S0 cl D cI ad A nL Ln xs c1.1 c1.2.1 c1.2.2.1 c1.2.2.2) : mz_Z p l e R s m args below meth c cells slots Q S0 cl D cI ad A nL Ln xs pc L S mem := by
  simp only [mz_step, mz_jump] at hs
  split at hs
  · obtain ⟨hb, hs⟩ := mz_cond hs
    cases hs
    intro ls H locs h1 h2 h3 h4
    have hk := k ls H locs h1 h2 h3 h4
    refine lv_if_ge F.1.1 F.1.2.1 hd (mz_tg_ok hb) (fun q => ?_) (fun q => ?_)
    · rw [if_pos q] at hk
      exact hk
    · rw [if_neg q] at hk
      exact hk
  · cases hs

set_option maxHeartbeats 1000000 in
theorem mz_w_if_gt {p : Program} {l : Launch} {e : Env} {R : Room} {s : State} {m : MethodId} {args : Array Value} {below : List Frame} {meth : Method} {c : Code} {cells slots : Nat} {Q : State → Prop} {S0 : mz_Sh} {T0 : List (List Int32)} {T : List mz_R} {cl : List vw_C} {NM : List String} {ST : List (String × Nat × String)} {G0 : List Jvm.Cond} {gt : Nat → Option Jvm.Cond} {D : va_G} {cI : ClassId} {ad : Nat → Nat} {A : Nat → Prop} {nL Ln : Nat} {xs : Nat → Int32} {own : String} {cc : ByteArray} (F : mz_Fix p R s m args c cells slots S0 T0 T cl NM ST G0 gt D cI ad A nL Ln xs own cc) {pc : Nat} {L : List (Option Value)} {S : List Value} {mem : mz_M} {f : mz_I} {c1 : mz_C} {o : Int} (hd : decode cc pc = .ok (.ifCond .gt o, 3)) (hl : mz_lk T cl NM ST gt own (.ifCond .gt o) f = true) (hs : mz_step S0 T0 (.ifCond .gt o) f pc L S mem = some (.inl c1)) (k : mz_Z p l e R s m args below meth c cells slots Q S0 cl D cI ad A nL Ln xs c1.1 c1.2.1 c1.2.2.1 c1.2.2.2) : mz_Z p l e R s m args below meth c cells slots Q S0 cl D cI ad A nL Ln xs pc L S mem := by
  simp only [mz_step, mz_jump] at hs
  split at hs
  · obtain ⟨hb, hs⟩ := mz_cond hs
    cases hs
    intro ls H locs h1 h2 h3 h4
    have hk := k ls H locs h1 h2 h3 h4
    refine lv_if_gt F.1.1 F.1.2.1 hd (mz_tg_ok hb) (fun q => ?_) (fun q => ?_)
    · rw [if_pos q] at hk
      exact hk
    · rw [if_neg q] at hk
      exact hk
  · cases hs

set_option maxHeartbeats 1000000 in
theorem mz_w_if_le {p : Program} {l : Launch} {e : Env} {R : Room} {s : State} {m : MethodId} {args : Array Value} {below : List Frame} {meth : Method} {c : Code} {cells slots : Nat} {Q : State → Prop} {S0 : mz_Sh} {T0 : List (List Int32)} {T : List mz_R} {cl : List vw_C} {NM : List String} {ST : List (String × Nat × String)} {G0 : List Jvm.Cond} {gt : Nat → Option Jvm.Cond} {D : va_G} {cI : ClassId} {ad : Nat → Nat} {A : Nat → Prop} {nL Ln : Nat} {xs : Nat → Int32} {own : String} {cc : ByteArray} (F : mz_Fix p R s m args c cells slots S0 T0 T cl NM ST G0 gt D cI ad A nL Ln xs own cc) {pc : Nat} {L : List (Option Value)} {S : List Value} {mem : mz_M} {f : mz_I} {c1 : mz_C} {o : Int} (hd : decode cc pc = .ok (.ifCond .le o, 3)) (hl : mz_lk T cl NM ST gt own (.ifCond .le o) f = true) (hs : mz_step S0 T0 (.ifCond .le o) f pc L S mem = some (.inl c1)) (k : mz_Z p l e R s m args below meth c cells slots Q S0 cl D cI ad A nL Ln xs c1.1 c1.2.1 c1.2.2.1 c1.2.2.2) : mz_Z p l e R s m args below meth c cells slots Q S0 cl D cI ad A nL Ln xs pc L S mem := by
  simp only [mz_step, mz_jump] at hs
  split at hs
  · obtain ⟨hb, hs⟩ := mz_cond hs
    cases hs
    intro ls H locs h1 h2 h3 h4
    have hk := k ls H locs h1 h2 h3 h4
    refine lv_if_le F.1.1 F.1.2.1 hd (mz_tg_ok hb) (fun q => ?_) (fun q => ?_)
    · rw [if_pos q] at hk
      exact hk
    · rw [if_neg q] at hk
      exact hk
  · cases hs

set_option maxHeartbeats 1000000 in
theorem mz_w_icmp_eq {p : Program} {l : Launch} {e : Env} {R : Room} {s : State} {m : MethodId} {args : Array Value} {below : List Frame} {meth : Method} {c : Code} {cells slots : Nat} {Q : State → Prop} {S0 : mz_Sh} {T0 : List (List Int32)} {T : List mz_R} {cl : List vw_C} {NM : List String} {ST : List (String × Nat × String)} {G0 : List Jvm.Cond} {gt : Nat → Option Jvm.Cond} {D : va_G} {cI : ClassId} {ad : Nat → Nat} {A : Nat → Prop} {nL Ln : Nat} {xs : Nat → Int32} {own : String} {cc : ByteArray} (F : mz_Fix p R s m args c cells slots S0 T0 T cl NM ST G0 gt D cI ad A nL Ln xs own cc) {pc : Nat} {L : List (Option Value)} {S : List Value} {mem : mz_M} {f : mz_I} {c1 : mz_C} {o : Int} (hd : decode cc pc = .ok (.if_icmp .eq o, 3)) (hl : mz_lk T cl NM ST gt own (.if_icmp .eq o) f = true) (hs : mz_step S0 T0 (.if_icmp .eq o) f pc L S mem = some (.inl c1)) (k : mz_Z p l e R s m args below meth c cells slots Q S0 cl D cI ad A nL Ln xs c1.1 c1.2.1 c1.2.2.1 c1.2.2.2) : mz_Z p l e R s m args below meth c cells slots Q S0 cl D cI ad A nL Ln xs pc L S mem := by
  simp only [mz_step, mz_jump] at hs
  split at hs
  · obtain ⟨hb, hs⟩ := mz_cond hs
    cases hs
    intro ls H locs h1 h2 h3 h4
    have hk := k ls H locs h1 h2 h3 h4
    refine lv_icmp_eq F.1.1 F.1.2.1 hd (mz_tg_ok hb) (fun q => ?_) (fun q => ?_)
    · rw [if_pos q] at hk
      exact hk
    · rw [if_neg q] at hk
      exact hk
  · cases hs

set_option maxHeartbeats 1000000 in
theorem mz_w_icmp_ne {p : Program} {l : Launch} {e : Env} {R : Room} {s : State} {m : MethodId} {args : Array Value} {below : List Frame} {meth : Method} {c : Code} {cells slots : Nat} {Q : State → Prop} {S0 : mz_Sh} {T0 : List (List Int32)} {T : List mz_R} {cl : List vw_C} {NM : List String} {ST : List (String × Nat × String)} {G0 : List Jvm.Cond} {gt : Nat → Option Jvm.Cond} {D : va_G} {cI : ClassId} {ad : Nat → Nat} {A : Nat → Prop} {nL Ln : Nat} {xs : Nat → Int32} {own : String} {cc : ByteArray} (F : mz_Fix p R s m args c cells slots S0 T0 T cl NM ST G0 gt D cI ad A nL Ln xs own cc) {pc : Nat} {L : List (Option Value)} {S : List Value} {mem : mz_M} {f : mz_I} {c1 : mz_C} {o : Int} (hd : decode cc pc = .ok (.if_icmp .ne o, 3)) (hl : mz_lk T cl NM ST gt own (.if_icmp .ne o) f = true) (hs : mz_step S0 T0 (.if_icmp .ne o) f pc L S mem = some (.inl c1)) (k : mz_Z p l e R s m args below meth c cells slots Q S0 cl D cI ad A nL Ln xs c1.1 c1.2.1 c1.2.2.1 c1.2.2.2) : mz_Z p l e R s m args below meth c cells slots Q S0 cl D cI ad A nL Ln xs pc L S mem := by
  simp only [mz_step, mz_jump] at hs
  split at hs
  · obtain ⟨hb, hs⟩ := mz_cond hs
    cases hs
    intro ls H locs h1 h2 h3 h4
    have hk := k ls H locs h1 h2 h3 h4
    refine lv_icmp_ne F.1.1 F.1.2.1 hd (mz_tg_ok hb) (fun q => ?_) (fun q => ?_)
    · rw [if_neg q] at hk
      exact hk
    · rw [if_pos q] at hk
      exact hk
  · cases hs

set_option maxHeartbeats 1000000 in
theorem mz_w_icmp_lt {p : Program} {l : Launch} {e : Env} {R : Room} {s : State} {m : MethodId} {args : Array Value} {below : List Frame} {meth : Method} {c : Code} {cells slots : Nat} {Q : State → Prop} {S0 : mz_Sh} {T0 : List (List Int32)} {T : List mz_R} {cl : List vw_C} {NM : List String} {ST : List (String × Nat × String)} {G0 : List Jvm.Cond} {gt : Nat → Option Jvm.Cond} {D : va_G} {cI : ClassId} {ad : Nat → Nat} {A : Nat → Prop} {nL Ln : Nat} {xs : Nat → Int32} {own : String} {cc : ByteArray} (F : mz_Fix p R s m args c cells slots S0 T0 T cl NM ST G0 gt D cI ad A nL Ln xs own cc) {pc : Nat} {L : List (Option Value)} {S : List Value} {mem : mz_M} {f : mz_I} {c1 : mz_C} {o : Int} (hd : decode cc pc = .ok (.if_icmp .lt o, 3)) (hl : mz_lk T cl NM ST gt own (.if_icmp .lt o) f = true) (hs : mz_step S0 T0 (.if_icmp .lt o) f pc L S mem = some (.inl c1)) (k : mz_Z p l e R s m args below meth c cells slots Q S0 cl D cI ad A nL Ln xs c1.1 c1.2.1 c1.2.2.1 c1.2.2.2) : mz_Z p l e R s m args below meth c cells slots Q S0 cl D cI ad A nL Ln xs pc L S mem := by
  simp only [mz_step, mz_jump] at hs
  split at hs
  · obtain ⟨hb, hs⟩ := mz_cond hs
    cases hs
    intro ls H locs h1 h2 h3 h4
    have hk := k ls H locs h1 h2 h3 h4
    refine lv_icmp_lt F.1.1 F.1.2.1 hd (mz_tg_ok hb) (fun q => ?_) (fun q => ?_)
    · rw [if_pos q] at hk
      exact hk
    · rw [if_neg q] at hk
      exact hk
  · cases hs

set_option maxHeartbeats 1000000 in
theorem mz_w_icmp_ge {p : Program} {l : Launch} {e : Env} {R : Room} {s : State} {m : MethodId} {args : Array Value} {below : List Frame} {meth : Method} {c : Code} {cells slots : Nat} {Q : State → Prop} {S0 : mz_Sh} {T0 : List (List Int32)} {T : List mz_R} {cl : List vw_C} {NM : List String} {ST : List (String × Nat × String)} {G0 : List Jvm.Cond} {gt : Nat → Option Jvm.Cond} {D : va_G} {cI : ClassId} {ad : Nat → Nat} {A : Nat → Prop} {nL Ln : Nat} {xs : Nat → Int32} {own : String} {cc : ByteArray} (F : mz_Fix p R s m args c cells slots S0 T0 T cl NM ST G0 gt D cI ad A nL Ln xs own cc) {pc : Nat} {L : List (Option Value)} {S : List Value} {mem : mz_M} {f : mz_I} {c1 : mz_C} {o : Int} (hd : decode cc pc = .ok (.if_icmp .ge o, 3)) (hl : mz_lk T cl NM ST gt own (.if_icmp .ge o) f = true) (hs : mz_step S0 T0 (.if_icmp .ge o) f pc L S mem = some (.inl c1)) (k : mz_Z p l e R s m args below meth c cells slots Q S0 cl D cI ad A nL Ln xs c1.1 c1.2.1 c1.2.2.1 c1.2.2.2) : mz_Z p l e R s m args below meth c cells slots Q S0 cl D cI ad A nL Ln xs pc L S mem := by
  simp only [mz_step, mz_jump] at hs
  split at hs
  · obtain ⟨hb, hs⟩ := mz_cond hs
    cases hs
    intro ls H locs h1 h2 h3 h4
    have hk := k ls H locs h1 h2 h3 h4
    refine lv_icmp_ge F.1.1 F.1.2.1 hd (mz_tg_ok hb) (fun q => ?_) (fun q => ?_)
    · rw [if_pos q] at hk
      exact hk
    · rw [if_neg q] at hk
      exact hk
  · cases hs

set_option maxHeartbeats 1000000 in
theorem mz_w_icmp_gt {p : Program} {l : Launch} {e : Env} {R : Room} {s : State} {m : MethodId} {args : Array Value} {below : List Frame} {meth : Method} {c : Code} {cells slots : Nat} {Q : State → Prop} {S0 : mz_Sh} {T0 : List (List Int32)} {T : List mz_R} {cl : List vw_C} {NM : List String} {ST : List (String × Nat × String)} {G0 : List Jvm.Cond} {gt : Nat → Option Jvm.Cond} {D : va_G} {cI : ClassId} {ad : Nat → Nat} {A : Nat → Prop} {nL Ln : Nat} {xs : Nat → Int32} {own : String} {cc : ByteArray} (F : mz_Fix p R s m args c cells slots S0 T0 T cl NM ST G0 gt D cI ad A nL Ln xs own cc) {pc : Nat} {L : List (Option Value)} {S : List Value} {mem : mz_M} {f : mz_I} {c1 : mz_C} {o : Int} (hd : decode cc pc = .ok (.if_icmp .gt o, 3)) (hl : mz_lk T cl NM ST gt own (.if_icmp .gt o) f = true) (hs : mz_step S0 T0 (.if_icmp .gt o) f pc L S mem = some (.inl c1)) (k : mz_Z p l e R s m args below meth c cells slots Q S0 cl D cI ad A nL Ln xs c1.1 c1.2.1 c1.2.2.1 c1.2.2.2) : mz_Z p l e R s m args below meth c cells slots Q S0 cl D cI ad A nL Ln xs pc L S mem := by
  simp only [mz_step, mz_jump] at hs
  split at hs
  · obtain ⟨hb, hs⟩ := mz_cond hs
    cases hs
    intro ls H locs h1 h2 h3 h4
    have hk := k ls H locs h1 h2 h3 h4
    refine lv_icmp_gt F.1.1 F.1.2.1 hd (mz_tg_ok hb) (fun q => ?_) (fun q => ?_)
    · rw [if_pos q] at hk
      exact hk
    · rw [if_neg q] at hk
      exact hk
  · cases hs

set_option maxHeartbeats 1000000 in
theorem mz_w_icmp_le {p : Program} {l : Launch} {e : Env} {R : Room} {s : State} {m : MethodId} {args : Array Value} {below : List Frame} {meth : Method} {c : Code} {cells slots : Nat} {Q : State → Prop} {S0 : mz_Sh} {T0 : List (List Int32)} {T : List mz_R} {cl : List vw_C} {NM : List String} {ST : List (String × Nat × String)} {G0 : List Jvm.Cond} {gt : Nat → Option Jvm.Cond} {D : va_G} {cI : ClassId} {ad : Nat → Nat} {A : Nat → Prop} {nL Ln : Nat} {xs : Nat → Int32} {own : String} {cc : ByteArray} (F : mz_Fix p R s m args c cells slots S0 T0 T cl NM ST G0 gt D cI ad A nL Ln xs own cc) {pc : Nat} {L : List (Option Value)} {S : List Value} {mem : mz_M} {f : mz_I} {c1 : mz_C} {o : Int} (hd : decode cc pc = .ok (.if_icmp .le o, 3)) (hl : mz_lk T cl NM ST gt own (.if_icmp .le o) f = true) (hs : mz_step S0 T0 (.if_icmp .le o) f pc L S mem = some (.inl c1)) (k : mz_Z p l e R s m args below meth c cells slots Q S0 cl D cI ad A nL Ln xs c1.1 c1.2.1 c1.2.2.1 c1.2.2.2) : mz_Z p l e R s m args below meth c cells slots Q S0 cl D cI ad A nL Ln xs pc L S mem := by
  simp only [mz_step, mz_jump] at hs
  split at hs
  · obtain ⟨hb, hs⟩ := mz_cond hs
    cases hs
    intro ls H locs h1 h2 h3 h4
    have hk := k ls H locs h1 h2 h3 h4
    refine lv_icmp_le F.1.1 F.1.2.1 hd (mz_tg_ok hb) (fun q => ?_) (fun q => ?_)
    · rw [if_pos q] at hk
      exact hk
    · rw [if_neg q] at hk
      exact hk
  · cases hs

set_option maxHeartbeats 1000000 in
theorem mz_w_goto {p : Program} {l : Launch} {e : Env} {R : Room} {s : State} {m : MethodId} {args : Array Value} {below : List Frame} {meth : Method} {c : Code} {cells slots : Nat} {Q : State → Prop} {S0 : mz_Sh} {T0 : List (List Int32)} {T : List mz_R} {cl : List vw_C} {NM : List String} {ST : List (String × Nat × String)} {G0 : List Jvm.Cond} {gt : Nat → Option Jvm.Cond} {D : va_G} {cI : ClassId} {ad : Nat → Nat} {A : Nat → Prop} {nL Ln : Nat} {xs : Nat → Int32} {own : String} {cc : ByteArray} (F : mz_Fix p R s m args c cells slots S0 T0 T cl NM ST G0 gt D cI ad A nL Ln xs own cc) {pc : Nat} {L : List (Option Value)} {S : List Value} {mem : mz_M} {f : mz_I} {c1 : mz_C} {o : Int} (hd : decode cc pc = .ok (.goto o, 3)) (hl : mz_lk T cl NM ST gt own (.goto o) f = true) (hs : mz_step S0 T0 (.goto o) f pc L S mem = some (.inl c1)) (k : mz_Z p l e R s m args below meth c cells slots Q S0 cl D cI ad A nL Ln xs c1.1 c1.2.1 c1.2.2.1 c1.2.2.2) : mz_Z p l e R s m args below meth c cells slots Q S0 cl D cI ad A nL Ln xs pc L S mem := by
  simp only [mz_step, mz_next] at hs
  obtain ⟨hb, hs⟩ := mz_cond hs
  cases hs
  exact fun ls H locs h1 h2 h3 h4 => lv_goto F.1.1 F.1.2.1 hd (mz_tg_ok hb) (k ls H locs h1 h2 h3 h4)

set_option maxHeartbeats 1000000 in
theorem mz_w_tableswitch {p : Program} {l : Launch} {e : Env} {R : Room} {s : State} {m : MethodId} {args : Array Value} {below : List Frame} {meth : Method} {c : Code} {cells slots : Nat} {Q : State → Prop} {S0 : mz_Sh} {T0 : List (List Int32)} {T : List mz_R} {cl : List vw_C} {NM : List String} {ST : List (String × Nat × String)} {G0 : List Jvm.Cond} {gt : Nat → Option Jvm.Cond} {D : va_G} {cI : ClassId} {ad : Nat → Nat} {A : Nat → Prop} {nL Ln : Nat} {xs : Nat → Int32} {own : String} {cc : ByteArray} (F : mz_Fix p R s m args c cells slots S0 T0 T cl NM ST G0 gt D cI ad A nL Ln xs own cc) {pc : Nat} {L : List (Option Value)} {S : List Value} {mem : mz_M} {f : mz_I} {c1 : mz_C} {d lo hi : Int} {offs : Array Int} {len : Nat} (hd : decode cc pc = .ok (.tableswitch d lo hi offs, len)) (hl : mz_lk T cl NM ST gt own (.tableswitch d lo hi offs) f = true) (hs : mz_step S0 T0 (.tableswitch d lo hi offs) f pc L S mem = some (.inl c1)) (k : mz_Z p l e R s m args below meth c cells slots Q S0 cl D cI ad A nL Ln xs c1.1 c1.2.1 c1.2.2.1 c1.2.2.2) : mz_Z p l e R s m args below meth c cells slots Q S0 cl D cI ad A nL Ln xs pc L S mem := by
  simp only [mz_step, mz_next] at hs
  split at hs
  · rename_i x S1
    cases hb : (decide (x.toInt < lo) || decide (hi < x.toInt)) with
    | true =>
      rw [hb] at hs
      obtain ⟨hb2, hs⟩ := mz_cond (x := some _) hs
      cases hs
      exact fun ls H locs h1 h2 h3 h4 => lv_tableOut F.1.1 F.1.2.1 hd (by simpa using hb) (mz_tg_ok hb2) (k ls H locs h1 h2 h3 h4)
    | false =>
      rw [hb] at hs
      simp only [cond_false] at hs
      split at hs
      · rename_i o ho
        obtain ⟨hb2, hs⟩ := mz_cond hs
        cases hs
        have hb3 : ¬ x.toInt < lo ∧ ¬ hi < x.toInt := by
          have := hb
          simp only [Bool.or_eq_false_iff, decide_eq_false_iff_not] at this
          exact this
        exact fun ls H locs h1 h2 h3 h4 => lv_tableIn F.1.1 F.1.2.1 hd hb3.1 hb3.2 ho (mz_tg_ok hb2) (k ls H locs h1 h2 h3 h4)
      · cases hs
  · cases hs

set_option maxHeartbeats 1000000 in
theorem mz_w_lookupswitch {p : Program} {l : Launch} {e : Env} {R : Room} {s : State} {m : MethodId} {args : Array Value} {below : List Frame} {meth : Method} {c : Code} {cells slots : Nat} {Q : State → Prop} {S0 : mz_Sh} {T0 : List (List Int32)} {T : List mz_R} {cl : List vw_C} {NM : List String} {ST : List (String × Nat × String)} {G0 : List Jvm.Cond} {gt : Nat → Option Jvm.Cond} {D : va_G} {cI : ClassId} {ad : Nat → Nat} {A : Nat → Prop} {nL Ln : Nat} {xs : Nat → Int32} {own : String} {cc : ByteArray} (F : mz_Fix p R s m args c cells slots S0 T0 T cl NM ST G0 gt D cI ad A nL Ln xs own cc) {pc : Nat} {L : List (Option Value)} {S : List Value} {mem : mz_M} {f : mz_I} {c1 : mz_C} {d : Int} {ps : Array (Int × Int)} {len : Nat} (hd : decode cc pc = .ok (.lookupswitch d ps, len)) (hl : mz_lk T cl NM ST gt own (.lookupswitch d ps) f = true) (hs : mz_step S0 T0 (.lookupswitch d ps) f pc L S mem = some (.inl c1)) (k : mz_Z p l e R s m args below meth c cells slots Q S0 cl D cI ad A nL Ln xs c1.1 c1.2.1 c1.2.2.1 c1.2.2.2) : mz_Z p l e R s m args below meth c cells slots Q S0 cl D cI ad A nL Ln xs pc L S mem := by
  simp only [mz_step, mz_next] at hs
  split at hs
  · obtain ⟨hb, hs⟩ := mz_cond hs
    cases hs
    rw [Bool.and_eq_true] at hb
    exact fun ls H locs h1 h2 h3 h4 => lv_lookup F.1.1 F.1.2.1 hd hb.1 rfl (mz_tg_ok hb.2) (k ls H locs h1 h2 h3 h4)
  · cases hs

set_option maxHeartbeats 1000000 in
theorem mz_w_getfield {p : Program} {l : Launch} {e : Env} {R : Room} {s : State} {m : MethodId} {args : Array Value} {below : List Frame} {meth : Method} {c : Code} {cells slots : Nat} {Q : State → Prop} {S0 : mz_Sh} {T0 : List (List Int32)} {T : List mz_R} {cl : List vw_C} {NM : List String} {ST : List (String × Nat × String)} {G0 : List Jvm.Cond} {gt : Nat → Option Jvm.Cond} {D : va_G} {cI : ClassId} {ad : Nat → Nat} {A : Nat → Prop} {nL Ln : Nat} {xs : Nat → Int32} {own : String} {cc : ByteArray} (F : mz_Fix p R s m args c cells slots S0 T0 T cl NM ST G0 gt D cI ad A nL Ln xs own cc) {pc : Nat} {L : List (Option Value)} {S : List Value} {mem : mz_M} {f : mz_I} {c1 : mz_C} {x : Nat} (hd : decode cc pc = .ok (.getfield x, 3)) (hl : mz_lk T cl NM ST gt own (.getfield x) f = true) (hs : mz_step S0 T0 (.getfield x) f pc L S mem = some (.inl c1)) (k : mz_Z p l e R s m args below meth c cells slots Q S0 cl D cI ad A nL Ln xs c1.1 c1.2.1 c1.2.2.1 c1.2.2.2) : mz_Z p l e R s m args below meth c cells slots Q S0 cl D cI ad A nL Ln xs pc L S mem := by
  simp only [mz_lk] at hl
  simp only [mz_step, mz_next] at hs
  split at hs
  · rename_i i S1
    cases hf : (f.1 == 5) with
    | true =>
      rw [hf] at hs hl
      obtain ⟨hb, hs⟩ := mz_cond (x := some _) hs
      cases hs
      obtain ⟨j, hj, rfl⟩ := mz_isT_k hb
      have hST := F.2.1.2.2.2.2.2.2.1.1 j hj
      dsimp only at hST
      rw [show 2100 + j = 2000 + j + 100 by omega] at hST
      cases hg : (f.2.1 == 0) with
      | true =>
        rw [hg] at hl
        exact fun ls H locs h1 h2 h3 h4 => vk_getf F.1.1 F.1.2.1 hST.2.2.1 h3 F.1.2.2.2.1 (F.1.2.2.2.2 _ (mz_Gi F (of_decide_eq_true hl) rfl)) (fun _ h => h) hd (by have hk := k ls H locs h1 h2 h3 h4; rw [hg] at hk; exact hk)
      | false =>
        rw [hg] at hl
        exact fun ls H locs h1 h2 h3 h4 => vk_getf F.1.1 F.1.2.1 hST.2.1 h3 F.1.2.2.2.1 (F.1.2.2.2.2 _ (mz_Gi F (of_decide_eq_true hl) rfl)) (fun _ h => h) hd (by have hk := k ls H locs h1 h2 h3 h4; rw [hg] at hk; exact hk)
    | false =>
      rw [hf] at hs hl
      simp only [cond_false] at hs hl
      split at hs
      · rename_i v hv
        cases hs
        split at hl
        · rename_i q hq
          rw [Bool.and_eq_true] at hl
          obtain ⟨fs, h5, h6⟩ := mz_get_spec (ad := ad) hv
          exact fun ls H locs h1 h2 h3 h4 => va_get (C := q.1) (T := q.2.1) (N := q.2.2) F.1.1 F.1.2.1 F.1.2.2.2.2 (F.2.2.2.1 _ _ hq).1 F.1.2.2.2.1 F.2.1.1 h2 i (mz_w_obj h5) hq f.2.2.1 (of_decide_eq_true hl.1) (F.1.2.2.2.2 _ (mz_Gi F (of_decide_eq_true hl.2) rfl)) (fun _ h => h) h6 hd (k ls H locs h1 h2 h3 h4)
        · cases hl
      · cases hs
  · cases hs

set_option maxHeartbeats 1000000 in
theorem mz_w_putfield {p : Program} {l : Launch} {e : Env} {R : Room} {s : State} {m : MethodId} {args : Array Value} {below : List Frame} {meth : Method} {c : Code} {cells slots : Nat} {Q : State → Prop} {S0 : mz_Sh} {T0 : List (List Int32)} {T : List mz_R} {cl : List vw_C} {NM : List String} {ST : List (String × Nat × String)} {G0 : List Jvm.Cond} {gt : Nat → Option Jvm.Cond} {D : va_G} {cI : ClassId} {ad : Nat → Nat} {A : Nat → Prop} {nL Ln : Nat} {xs : Nat → Int32} {own : String} {cc : ByteArray} (F : mz_Fix p R s m args c cells slots S0 T0 T cl NM ST G0 gt D cI ad A nL Ln xs own cc) {pc : Nat} {L : List (Option Value)} {S : List Value} {mem : mz_M} {f : mz_I} {c1 : mz_C} {x : Nat} (hd : decode cc pc = .ok (.putfield x, 3)) (hl : mz_lk T cl NM ST gt own (.putfield x) f = true) (hs : mz_step S0 T0 (.putfield x) f pc L S mem = some (.inl c1)) (k : mz_Z p l e R s m args below meth c cells slots Q S0 cl D cI ad A nL Ln xs c1.1 c1.2.1 c1.2.2.1 c1.2.2.2) : mz_Z p l e R s m args below meth c cells slots Q S0 cl D cI ad A nL Ln xs pc L S mem := by
  simp only [mz_lk] at hl
  simp only [mz_step, mz_next] at hs
  split at hs
  · rename_i v i S1
    split at hs
    · rename_i m1 hm
      cases hs
      split at hl
      · rename_i q hq
        rw [Bool.and_eq_true] at hl
        obtain ⟨fs, g, x1, h5, h6, rfl, h7⟩ := mz_put_spec hm
        obtain ⟨q1, hq1, hlen, hsh⟩ := F.2.2.2.2.1 _ _ _ h5
        have hqe : q1 = q := Option.some.inj (hq1.symm.trans hq)
        subst hqe
        obtain ⟨hin, hnm, ty0, hty⟩ := F.2.2.2.1 _ _ hq
        have hi : i < 1000 := Nat.lt_of_lt_of_le (mz_lt h5) F.2.2.2.2.2.2.1
        obtain ⟨t, ht1, ht2, ht3, ht4, ht5⟩ : ∃ t, (q1.2.1 f.2.2.1).2.2.2 = false ∧ parseFieldDescriptor (q1.2.1 f.2.2.1).2.2.1 = some t ∧ narrow t (mz_cvv ad v) = mz_cvv ad v ∧ fits t (mz_cvv ad v) = true ∧ mz_cvv ad v = mz_fv ad (mz_up mem i f.2.2.1 x1) i f.2.2.1 g := by
          rcases h7 with ⟨rfl, rfl⟩ | ⟨rfl, rfl, h8⟩ | ⟨rfl, r, rfl, h8, rfl⟩
          · exact ⟨.int, ((hsh _ _ h6).1 rfl).1, ((hsh _ _ h6).1 rfl).2, rfl, rfl, by simp [mz_cvv, mz_fv, mz_up_eq]⟩
          · refine ⟨.boolean, ((hsh _ _ h6).2.1 rfl).1, ((hsh _ _ h6).2.1 rfl).2, ?_, ?_, by simp [mz_cvv, mz_fv, mz_up_eq]⟩
            · rcases h8 with rfl | rfl <;> rfl
            · rcases h8 with rfl | rfl <;> rfl
          · exact ⟨_, ((hsh _ _ h6).2.2 rfl).1, ((hsh _ _ h6).2.2 rfl).2, rfl, rfl, by simp [mz_cvv, mz_fv, mz_up_eq, nI_clamp (show r < 2 ^ 31 by omega)]⟩
        intro ls H locs h1 h2 h3 h4
        refine va_put (C := q1.1) (T := q1.2.1) (N := q1.2.2) (ty := t) F.1.1 F.1.2.1 F.1.2.2.2.2 hin ty0 hty hnm F.1.2.2.2.1 F.2.1.1 h2 (F.2.1.2.1 mem) h3 i (mz_w_obj h5) hq f.2.2.1 (of_decide_eq_true hl.1) (F.1.2.2.2.2 _ (mz_Gi F (of_decide_eq_true hl.2) rfl)) (fun _ h => h) ht1 ht2 ht3 ht4 (by rw [List.length_mapIdx]; exact (List.getElem?_eq_some_iff.mp h6).1) hd (fun H1 locs1 a1 a2 a3 => ?_)
        rw [ht5, mz_put_cell h5 h6] at a1
        exact k ls H1 locs1 h1 a1 a3 (mz_scr_up hi h4)
      · cases hl
    · cases hs
  · cases hs

set_option maxHeartbeats 1000000 in
theorem mz_w_getstatic {p : Program} {l : Launch} {e : Env} {R : Room} {s : State} {m : MethodId} {args : Array Value} {below : List Frame} {meth : Method} {c : Code} {cells slots : Nat} {Q : State → Prop} {S0 : mz_Sh} {T0 : List (List Int32)} {T : List mz_R} {cl : List vw_C} {NM : List String} {ST : List (String × Nat × String)} {G0 : List Jvm.Cond} {gt : Nat → Option Jvm.Cond} {D : va_G} {cI : ClassId} {ad : Nat → Nat} {A : Nat → Prop} {nL Ln : Nat} {xs : Nat → Int32} {own : String} {cc : ByteArray} (F : mz_Fix p R s m args c cells slots S0 T0 T cl NM ST G0 gt D cI ad A nL Ln xs own cc) {pc : Nat} {L : List (Option Value)} {S : List Value} {mem : mz_M} {f : mz_I} {c1 : mz_C} {x : Nat} (hd : decode cc pc = .ok (.getstatic x, 3)) (hl : mz_lk T cl NM ST gt own (.getstatic x) f = true) (hs : mz_step S0 T0 (.getstatic x) f pc L S mem = some (.inl c1)) (k : mz_Z p l e R s m args below meth c cells slots Q S0 cl D cI ad A nL Ln xs c1.1 c1.2.1 c1.2.2.1 c1.2.2.2) : mz_Z p l e R s m args below meth c cells slots Q S0 cl D cI ad A nL Ln xs pc L S mem := by
  simp only [mz_lk] at hl
  simp only [mz_step, mz_next] at hs
  obtain rfl := Sum.inl.inj (Option.some.inj hs)
  cases hf : (f.1 == 6) with
  | true =>
    rw [hf] at hl
    exact fun ls H locs h1 h2 h3 h4 => va_gets F.1.1 F.1.2.1 F.2.1.2.2.2.2.2.2.2.1 h3 F.1.2.2.2.1 (F.1.2.2.2.2 _ (mz_Gi F (of_decide_eq_true hl) rfl)) (fun _ h => h) hd (by have hk := k ls H locs h1 h2 h3 h4; rw [hf] at hk; exact hk)
  | false =>
    rw [hf] at hl
    simp only [cond_false] at hl
    split at hl
    · rename_i n hn
      have hZ := F.2.1.2.2.2.1 _ _ hn
      cases hg : (f.2.2.1 == 0) with
      | true =>
        rw [hg] at hl
        exact fun ls H locs h1 h2 h3 h4 => va_gets F.1.1 F.1.2.1 hZ h3 F.1.2.2.2.1 (F.1.2.2.2.2 _ (mz_Gi F (of_decide_eq_true hl) rfl)) (fun _ h => h) hd (by have hk := k ls H locs h1 h2 h3 h4; rw [hf] at hk; exact hk)
      | false =>
        rw [hg] at hl
        exact fun ls H locs h1 h2 h3 h4 => va_getsN F.1.1 F.1.2.1 hZ h3 F.1.2.2.2.1 (va_Nw.use rfl (F.2.1.2.2.2.2.2.2.2.2.1 _ (F.2.2.2.2.2.2.2.2.2 _ _ (of_decide_eq_true hl)) rfl)) (fun _ h => h) hd (by have hk := k ls H locs h1 h2 h3 h4; rw [hf] at hk; exact hk)
    · cases hl

theorem mz_len_spec {S0 : mz_Sh} {T0 : List (List Int32)} {m : mz_M} {i n : Nat} (h : mz_len S0 T0 m i = some n) : (i < 1000 ∧ S0[i]? = some (.inl n)) ∨ (∃ j t, i = 1000 + j ∧ T0[j]? = some t ∧ n = t.length) ∨ (∃ j, j < 4 ∧ i = 2100 + j ∧ ¬ i < 1000 + T0.length ∧ n = (mz_by.getD j []).length) ∨ (i = 3000 ∧ ¬ i < 1000 + T0.length ∧ n = (m 3001 0).toNatClampNeg) := by
  unfold mz_len at h
  cases h1 : decide (i < 1000) with
  | true =>
    rw [h1] at h
    have h1 := of_decide_eq_true h1
    simp only [cond_true] at h
    split at h
    · rename_i z hz
      cases h
      exact Or.inl ⟨h1, hz⟩
    · cases h
  | false =>
    rw [h1] at h
    have h1 := of_decide_eq_false h1
    simp only [cond_false] at h
    cases h2 : decide (i < 1000 + T0.length) with
    | true =>
      rw [h2] at h
      have h2 := of_decide_eq_true h2
      simp only [cond_true] at h
      obtain rfl := Option.some.inj h
      have h3 : i - 1000 < T0.length := by omega
      exact Or.inr (Or.inl ⟨i - 1000, T0[i - 1000], by omega, List.getElem?_eq_getElem h3, by simp [mz_ro, List.getD, List.getElem?_eq_getElem h3]⟩)
    | false =>
      rw [h2] at h
      have h2 := of_decide_eq_false h2
      simp only [cond_false] at h
      cases h3 : mz_isB i with
      | true =>
        rw [h3] at h
        simp only [cond_true] at h
        obtain rfl := Option.some.inj h
        obtain ⟨j, hj, rfl⟩ := mz_isB_k h3
        exact Or.inr (Or.inr (Or.inl ⟨j, hj, rfl, h2, by rw [show 2100 + j - 2100 = j by omega]⟩))
      | false =>
        rw [h3] at h
        simp only [cond_false] at h
        obtain ⟨h4, h⟩ := mz_cond h
        obtain rfl := Option.some.inj h
        exact Or.inr (Or.inr (Or.inr ⟨by simpa using h4, h2, rfl⟩))

set_option maxHeartbeats 1000000 in
theorem mz_w_arraylength {p : Program} {l : Launch} {e : Env} {R : Room} {s : State} {m : MethodId} {args : Array Value} {below : List Frame} {meth : Method} {c : Code} {cells slots : Nat} {Q : State → Prop} {S0 : mz_Sh} {T0 : List (List Int32)} {T : List mz_R} {cl : List vw_C} {NM : List String} {ST : List (String × Nat × String)} {G0 : List Jvm.Cond} {gt : Nat → Option Jvm.Cond} {D : va_G} {cI : ClassId} {ad : Nat → Nat} {A : Nat → Prop} {nL Ln : Nat} {xs : Nat → Int32} {own : String} {cc : ByteArray} (F : mz_Fix p R s m args c cells slots S0 T0 T cl NM ST G0 gt D cI ad A nL Ln xs own cc) {pc : Nat} {L : List (Option Value)} {S : List Value} {mem : mz_M} {f : mz_I} {c1 : mz_C} (hd : decode cc pc = .ok (.arraylength, 1)) (hl : mz_lk T cl NM ST gt own (.arraylength) f = true) (hs : mz_step S0 T0 (.arraylength) f pc L S mem = some (.inl c1)) (k : mz_Z p l e R s m args below meth c cells slots Q S0 cl D cI ad A nL Ln xs c1.1 c1.2.1 c1.2.2.1 c1.2.2.2) : mz_Z p l e R s m args below meth c cells slots Q S0 cl D cI ad A nL Ln xs pc L S mem := by
  simp only [mz_step, mz_next] at hs
  split at hs
  · rename_i i S1
    split at hs
    · rename_i n hn
      cases hs
      intro ls H locs h1 h2 h3 h4
      have hk := k ls H locs h1 h2 h3 h4
      rcases mz_len_spec hn with ⟨h5, h6⟩ | ⟨i2, t, rfl, h6, rfl⟩ | ⟨j, h5, rfl, h6, rfl⟩ | ⟨rfl, h5, rfl⟩
      · exact va_alen F.1.1 F.1.2.1 F.2.1.1 h2 i 0 (mz_w_arr h6) rfl rfl hd hk
      · have hT := F.2.1.2.2.2.2.1 _ _ h6
        exact va_tlen F.1.1 F.1.2.1 hT h3 rfl hd hk
      · have hT := (F.2.1.2.2.2.2.2.2.1.1 j h5).2.2.2
        rcases (show j = 0 ∨ j = 1 ∨ j = 2 ∨ j = 3 by omega) with rfl | rfl | rfl | rfl <;> exact va_tlen F.1.1 F.1.2.1 hT h3 rfl hd hk
      · obtain ⟨hX, hX2, hX3⟩ := F.2.1.2.2.2.2.2.2.2.2.2
        refine va_slen F.1.1 F.1.2.1 hX hX2 hX3 h3 hd ?_
        rw [h4.2.1, nI_clamp h4.2.2] at hk
        exact hk
    · cases hs
  · cases hs

set_option maxHeartbeats 1000000 in
theorem mz_w_iaload {p : Program} {l : Launch} {e : Env} {R : Room} {s : State} {m : MethodId} {args : Array Value} {below : List Frame} {meth : Method} {c : Code} {cells slots : Nat} {Q : State → Prop} {S0 : mz_Sh} {T0 : List (List Int32)} {T : List mz_R} {cl : List vw_C} {NM : List String} {ST : List (String × Nat × String)} {G0 : List Jvm.Cond} {gt : Nat → Option Jvm.Cond} {D : va_G} {cI : ClassId} {ad : Nat → Nat} {A : Nat → Prop} {nL Ln : Nat} {xs : Nat → Int32} {own : String} {cc : ByteArray} (F : mz_Fix p R s m args c cells slots S0 T0 T cl NM ST G0 gt D cI ad A nL Ln xs own cc) {pc : Nat} {L : List (Option Value)} {S : List Value} {mem : mz_M} {f : mz_I} {c1 : mz_C} (hd : decode cc pc = .ok (.iaload, 1)) (hl : mz_lk T cl NM ST gt own (.iaload) f = true) (hs : mz_step S0 T0 (.iaload) f pc L S mem = some (.inl c1)) (k : mz_Z p l e R s m args below meth c cells slots Q S0 cl D cI ad A nL Ln xs c1.1 c1.2.1 c1.2.2.1 c1.2.2.2) : mz_Z p l e R s m args below meth c cells slots Q S0 cl D cI ad A nL Ln xs pc L S mem := by
  simp only [mz_step, mz_next] at hs
  split at hs
  · rename_i j i S1
    split at hs
    · rename_i n hn
      obtain ⟨hb, hs⟩ := mz_cond hs
      cases hs
      obtain ⟨hg, hn⟩ := mz_condn hn
      intro ls H locs h1 h2 h3 h4
      have hk := k ls H locs h1 h2 h3 h4
      rcases mz_len_spec hn with ⟨h5, h6⟩ | ⟨i2, t, rfl, h6, rfl⟩ | ⟨j2, h5, rfl, h6, rfl⟩ | ⟨rfl, h5, rfl⟩
      · refine va_iald F.1.1 F.1.2.1 F.2.1.1 h2 i 0 (mz_w_arr h6) rfl (mz_in_of hb) hd ?_
        have e : mz_val T0 mem i j.toNatClampNeg = mem i j.toNatClampNeg := by simp [mz_val, h5]
        rw [e] at hk
        exact hk
      · have hT := F.2.1.2.2.2.2.1 _ _ h6
        refine va_ti F.1.1 F.1.2.1 hT h3 (mz_in_of hb) rfl hd ?_
        have h7 : i2 < T0.length := (List.getElem?_eq_some_iff.mp h6).1
        have e : mz_val T0 mem (1000 + i2) j.toNatClampNeg = t.getD j.toNatClampNeg 0 := by
          simp only [mz_val, mz_ro]
          rw [show decide (1000 + i2 < 1000) = false from decide_eq_false (by omega), show decide (1000 + i2 < 1000 + T0.length) = true from decide_eq_true (by omega), show 1000 + i2 - 1000 = i2 by omega]
          simp [List.getD, h6]
        rw [e] at hk
        exact hk
      · rw [mz_isR_no h5] at hg
        cases hg
      · obtain ⟨hX, hX2, hX3⟩ := F.2.1.2.2.2.2.2.2.2.2.2
        rw [h4.2.1, nI_clamp h4.2.2] at hb
        refine va_sld F.1.1 F.1.2.1 hX hX2 hX3 h3 (mz_in_of hb) hd ?_
        have e : mz_val T0 mem 3000 j.toNatClampNeg = xs j.toNatClampNeg := by
          simp only [mz_val]
          rw [show decide (3000 < 1000) = false from rfl, show decide (3000 < 1000 + T0.length) = false from decide_eq_false h5]
          exact h4.1 _
        rw [e] at hk
        exact hk
    · cases hs
  · cases hs

set_option maxHeartbeats 1000000 in
theorem mz_w_iastore {p : Program} {l : Launch} {e : Env} {R : Room} {s : State} {m : MethodId} {args : Array Value} {below : List Frame} {meth : Method} {c : Code} {cells slots : Nat} {Q : State → Prop} {S0 : mz_Sh} {T0 : List (List Int32)} {T : List mz_R} {cl : List vw_C} {NM : List String} {ST : List (String × Nat × String)} {G0 : List Jvm.Cond} {gt : Nat → Option Jvm.Cond} {D : va_G} {cI : ClassId} {ad : Nat → Nat} {A : Nat → Prop} {nL Ln : Nat} {xs : Nat → Int32} {own : String} {cc : ByteArray} (F : mz_Fix p R s m args c cells slots S0 T0 T cl NM ST G0 gt D cI ad A nL Ln xs own cc) {pc : Nat} {L : List (Option Value)} {S : List Value} {mem : mz_M} {f : mz_I} {c1 : mz_C} (hd : decode cc pc = .ok (.iastore, 1)) (hl : mz_lk T cl NM ST gt own (.iastore) f = true) (hs : mz_step S0 T0 (.iastore) f pc L S mem = some (.inl c1)) (k : mz_Z p l e R s m args below meth c cells slots Q S0 cl D cI ad A nL Ln xs c1.1 c1.2.1 c1.2.2.1 c1.2.2.2) : mz_Z p l e R s m args below meth c cells slots Q S0 cl D cI ad A nL Ln xs pc L S mem := by
  simp only [mz_step, mz_next] at hs
  split at hs
  · rename_i x j i S1
    split at hs
    · rename_i n hn
      obtain ⟨hb, hs⟩ := mz_cond hs
      cases hs
      intro ls H locs h1 h2 h3 h4
      have hi : i < 1000 := Nat.lt_of_lt_of_le (mz_lt hn) F.2.2.2.2.2.2.1
      refine va_iast F.1.1 F.1.2.1 F.2.1.1 h2 (F.2.1.2.1 mem) h3 i 0 (mz_w_arr hn) rfl (mz_in_of hb) hd (fun H1 locs1 a1 a2 a3 => ?_)
      rw [mz_arr_cell (m' := mz_up mem i j.toNatClampNeg x) hn (by funext b; rw [mz_up_eq]; rfl) (fun j hj => mz_up_ne hj)] at a1
      exact k ls H1 locs1 h1 a1 a3 (mz_scr_up hi h4)
    · cases hs
  · cases hs

set_option maxHeartbeats 1000000 in
theorem mz_w_baload {p : Program} {l : Launch} {e : Env} {R : Room} {s : State} {m : MethodId} {args : Array Value} {below : List Frame} {meth : Method} {c : Code} {cells slots : Nat} {Q : State → Prop} {S0 : mz_Sh} {T0 : List (List Int32)} {T : List mz_R} {cl : List vw_C} {NM : List String} {ST : List (String × Nat × String)} {G0 : List Jvm.Cond} {gt : Nat → Option Jvm.Cond} {D : va_G} {cI : ClassId} {ad : Nat → Nat} {A : Nat → Prop} {nL Ln : Nat} {xs : Nat → Int32} {own : String} {cc : ByteArray} (F : mz_Fix p R s m args c cells slots S0 T0 T cl NM ST G0 gt D cI ad A nL Ln xs own cc) {pc : Nat} {L : List (Option Value)} {S : List Value} {mem : mz_M} {f : mz_I} {c1 : mz_C} (hd : decode cc pc = .ok (.baload, 1)) (hl : mz_lk T cl NM ST gt own (.baload) f = true) (hs : mz_step S0 T0 (.baload) f pc L S mem = some (.inl c1)) (k : mz_Z p l e R s m args below meth c cells slots Q S0 cl D cI ad A nL Ln xs c1.1 c1.2.1 c1.2.2.1 c1.2.2.2) : mz_Z p l e R s m args below meth c cells slots Q S0 cl D cI ad A nL Ln xs pc L S mem := by
  simp only [mz_step, mz_next] at hs
  split at hs
  · rename_i j i S1
    obtain ⟨hb, hs⟩ := mz_cond hs
    cases hs
    rw [Bool.and_eq_true] at hb
    obtain ⟨h5, h7⟩ := hb
    intro ls H locs h1 h2 h3 h4
    have hk := k ls H locs h1 h2 h3 h4
    obtain ⟨t, h8, rfl⟩ := mz_isB_k h5
    rw [show 2100 + t - 2100 = t by omega] at hk h7
    have hT := (F.2.1.2.2.2.2.2.2.1.1 t h8).2.2.2
    rcases (show t = 0 ∨ t = 1 ∨ t = 2 ∨ t = 3 by omega) with rfl | rfl | rfl | rfl <;> exact va_tb F.1.1 F.1.2.1 hT h3 (mz_in_of h7) rfl hd hk
  · cases hs

theorem mz_pw_at {p : Program} {R : Room} {s : State} {m : MethodId} {args : Array Value} {c : Code} {cells slots : Nat} {S0 : mz_Sh} {T0 : List (List Int32)} {T : List mz_R} {cl : List vw_C} {NM : List String} {ST : List (String × Nat × String)} {G0 : List Jvm.Cond} {gt : Nat → Option Jvm.Cond} {D : va_G} {cI : ClassId} {ad : Nat → Nat} {A : Nat → Prop} {nL Ln : Nat} {xs : Nat → Int32} {own : String} {cc : ByteArray} (F : mz_Fix p R s m args c cells slots S0 T0 T cl NM ST G0 gt D cI ad A nL Ln xs own cc) {w : Jvm.Cond} (h : w ∈ mz_pw) : w.before args s = true := F.1.2.2.2.2 _ (F.2.2.2.2.2.1 _ h)

set_option maxHeartbeats 1000000 in
theorem mz_w_invokestatic {p : Program} {l : Launch} {e : Env} {R : Room} {s : State} {m : MethodId} {args : Array Value} {below : List Frame} {meth : Method} {c : Code} {cells slots : Nat} {Q : State → Prop} {S0 : mz_Sh} {T0 : List (List Int32)} {T : List mz_R} {cl : List vw_C} {NM : List String} {ST : List (String × Nat × String)} {G0 : List Jvm.Cond} {gt : Nat → Option Jvm.Cond} {D : va_G} {cI : ClassId} {ad : Nat → Nat} {A : Nat → Prop} {nL Ln : Nat} {xs : Nat → Int32} {own : String} {cc : ByteArray} (F : mz_Fix p R s m args c cells slots S0 T0 T cl NM ST G0 gt D cI ad A nL Ln xs own cc) {pc : Nat} {L : List (Option Value)} {S : List Value} {mem : mz_M} {f : mz_I} {c1 : mz_C} {x : Nat} (hd : decode cc pc = .ok (.invokestatic x, 3)) (hl : mz_lk T cl NM ST gt own (.invokestatic x) f = true) (hs : mz_step S0 T0 (.invokestatic x) f pc L S mem = some (.inl c1)) (k : mz_Z p l e R s m args below meth c cells slots Q S0 cl D cI ad A nL Ln xs c1.1 c1.2.1 c1.2.2.1 c1.2.2.2) : mz_Z p l e R s m args below meth c cells slots Q S0 cl D cI ad A nL Ln xs pc L S mem := by
  simp only [mz_lk] at hl
  simp only [mz_step, mz_next] at hs
  split at hs
  · cases hs
  · cases hs
  · rename_i hf
    rw [hf] at hl
    split at hs
    · obtain ⟨hb, hs⟩ := mz_cond hs
      cases hs
      have hb := of_decide_eq_true hb
      exact fun ls H locs h1 h2 h3 h4 => va_mabs F.1.1 F.1.2.1 (F.1.2.2.1.trans h1.1.symm) F.1.2.2.2.1 (F.1.2.2.2.2 _ (mz_Gi F (of_decide_eq_true hl) rfl)) (mz_pw_at F (by simp [mz_pw])) (mz_pw_at F (by simp [mz_pw])) (mz_pw_at F (by simp [mz_pw])) F.2.2.1.1 (by rw [mz_cat_map]; have := F.2.2.1.2.1; omega) F.2.2.1.2.2.1 F.2.2.1.2.2.2 hd (k ls H locs h1 h2 h3 h4)
    · cases hs
  · rename_i hf
    rw [hf] at hl
    split at hs
    · obtain ⟨hb, hs⟩ := mz_cond hs
      cases hs
      have hb := of_decide_eq_true hb
      exact fun ls H locs h1 h2 h3 h4 => va_mmax F.1.1 F.1.2.1 (F.1.2.2.1.trans h1.1.symm) F.1.2.2.2.1 (F.1.2.2.2.2 _ (mz_Gi F (of_decide_eq_true hl) rfl)) (mz_pw_at F (by simp [mz_pw])) (mz_pw_at F (by simp [mz_pw])) (mz_pw_at F (by simp [mz_pw])) F.2.2.1.1 (by rw [mz_cat_map]; have := F.2.2.1.2.1; omega) F.2.2.1.2.2.1 F.2.2.1.2.2.2 hd (k ls H locs h1 h2 h3 h4)
    · cases hs
  · rename_i hf
    rw [hf] at hl
    split at hs
    · obtain ⟨hb, hs⟩ := mz_cond hs
      cases hs
      have hb := of_decide_eq_true hb
      exact fun ls H locs h1 h2 h3 h4 => va_mmin F.1.1 F.1.2.1 (F.1.2.2.1.trans h1.1.symm) F.1.2.2.2.1 (F.1.2.2.2.2 _ (mz_Gi F (of_decide_eq_true hl) rfl)) (mz_pw_at F (by simp [mz_pw])) (mz_pw_at F (by simp [mz_pw])) (mz_pw_at F (by simp [mz_pw])) F.2.2.1.1 (by rw [mz_cat_map]; have := F.2.2.1.2.1; omega) F.2.2.1.2.2.1 F.2.2.1.2.2.2 hd (k ls H locs h1 h2 h3 h4)
    · cases hs
  · rename_i hf
    rw [hf] at hl
    split at hs
    · rename_i n dp i sp j S1
      split at hs
      · rename_i ni nj hi hj
        obtain ⟨hb, hs⟩ := mz_cond hs
        cases hs
        simp only [Bool.and_eq_true, Bool.not_eq_true', decide_eq_false_iff_not, decide_eq_true_eq] at hb
        obtain ⟨⟨⟨⟨⟨b1, b2⟩, b3⟩, b4⟩, b5⟩, b6⟩ := hb
        intro ls H locs h1 h2 h3 h4
        have hi2 : i < 1000 := Nat.lt_of_lt_of_le (mz_lt hi) F.2.2.2.2.2.2.1
        refine va_copyi F.1.1 F.1.2.1 (F.1.2.2.1.trans h1.1.symm) F.1.2.2.2.1 (F.1.2.2.2.2 _ (mz_Gi F (of_decide_eq_true hl) rfl)) (mz_pw_at F (by simp [mz_pw])) (mz_pw_at F (by simp [mz_pw])) (mz_pw_at F (by simp [mz_pw])) F.2.1.1 h2 (F.2.1.2.1 mem) h3 j i 0 0 (mz_w_arr hj) (mz_w_arr hi) rfl rfl rfl b1 b2 b3 b4 b5 (fun _ _ => rfl) F.2.2.1.1 (by rw [mz_cat_map]; have h8 := F.2.2.1.2.1; have h9 : nativeFrameWords "java/lang/System" "arraycopy" 5 ≤ 40 := (by decide +kernel); omega) hd (fun H1 locs1 a1 a2 a3 => ?_)
        rw [mz_arr_cell (m' := mz_cp mem i j sp.toNatClampNeg dp.toNatClampNeg n.toNatClampNeg) hi (by
          funext b
          simp only [mz_cp, va_cpy, beq_self_eq_true, Bool.true_and]
          by_cases q1 : dp.toNatClampNeg ≤ b <;> by_cases q2 : b < dp.toNatClampNeg + n.toNatClampNeg <;> simp [q1, q2]) (fun j hj => mz_cp_ne hj)] at a1
        exact k ls H1 locs1 h1 a1 a3 (mz_scr_cp hi2 h4)
      · cases hs
    · cases hs
  · cases hs
end
section
/-! what the bytes say: an instruction's bytes, and that they are read so -/
def mz_b (code : ByteArray) (p : Nat) : Option Nat := if h : p < code.size then some code[p].toNat else none
theorem mz_u1 {code : ByteArray} {p v : Nat} (h : mz_b code p = some v) : (Reader.u1 : Reader DecodeError Nat) code p = .ok (v, p + 1) := by
  have h0 : (Reader.u1 : Reader DecodeError Nat) code p = (if h : p < code.size then .ok (code[p].toNat, p + 1) else .error (.truncated p)) := by
    unfold Reader.u1
    show (if h : p < code.size then _ else _ : Reader DecodeError Nat) code p = _
    split <;> rfl
  unfold mz_b at h
  split at h
  · rename_i hp
    cases h
    rw [h0, dif_pos hp]
  · cases h
theorem mz_else {α : Type} {a b : Int} {x y : Option α} (h : ¬ a = b) : cond (decide (a = b)) x y = y := by rw [decide_eq_false h]; rfl
def mz_sg (n : Nat) (o : Int) (k : Nat) : Option (List Nat) := cond (decide (Reader.signed 16 n = o)) (some [k, n / 256, n % 256]) none
def mz_sn (o : Int) : Nat := (o % 65536).toNat
def mz_enc : Instr → Option (List Nat)
  | .iaload => some [46]
  | .baload => some [51]
  | .iastore => some [79]
  | .pop => some [87]
  | .dup => some [89]
  | .dup_x1 => some [90]
  | .dup2 => some [92]
  | .iadd => some [96]
  | .isub => some [100]
  | .imul => some [104]
  | .idiv => some [108]
  | .irem => some [112]
  | .ineg => some [116]
  | .ishl => some [120]
  | .lshl => some [121]
  | .ishr => some [122]
  | .lshr => some [123]
  | .iushr => some [124]
  | .lushr => some [125]
  | .iand => some [126]
  | .land => some [127]
  | .ior => some [128]
  | .lor => some [129]
  | .ixor => some [130]
  | .i2l => some [133]
  | .l2i => some [136]
  | .i2b => some [145]
  | .i2c => some [146]
  | .i2s => some [147]
  | .ireturn => some [172]
  | .areturn => some [176]
  | .return_ => some [177]
  | .arraylength => some [190]
  | .iload_n 0 => some [26]
  | .iload_n 1 => some [27]
  | .iload_n 2 => some [28]
  | .iload_n 3 => some [29]
  | .lload_n 0 => some [30]
  | .lload_n 1 => some [31]
  | .lload_n 2 => some [32]
  | .lload_n 3 => some [33]
  | .aload_n 0 => some [42]
  | .aload_n 1 => some [43]
  | .aload_n 2 => some [44]
  | .aload_n 3 => some [45]
  | .istore_n 0 => some [59]
  | .istore_n 1 => some [60]
  | .istore_n 2 => some [61]
  | .istore_n 3 => some [62]
  | .astore_n 0 => some [75]
  | .astore_n 1 => some [76]
  | .astore_n 2 => some [77]
  | .astore_n 3 => some [78]
  | .iconst n => cond (decide (n = -1)) (some [2]) (cond (decide (n = 0)) (some [3]) (cond (decide (n = 1)) (some [4]) (cond (decide (n = 2)) (some [5]) (cond (decide (n = 3)) (some [6]) (cond (decide (n = 4)) (some [7]) (cond (decide (n = 5)) (some [8]) none))))))
  | .ldc x => some [18, x]
  | .iload x => some [21, x]
  | .aload x => some [25, x]
  | .istore x => some [54, x]
  | .astore x => some [58, x]
  | .bipush o => cond (decide (Reader.signed 8 (o % 256).toNat = o)) (some [16, (o % 256).toNat]) none
  | .ldc_w x => some [19, x / 256, x % 256]
  | .ldc2_w x => some [20, x / 256, x % 256]
  | .getstatic x => some [178, x / 256, x % 256]
  | .getfield x => some [180, x / 256, x % 256]
  | .putfield x => some [181, x / 256, x % 256]
  | .invokevirtual x => some [182, x / 256, x % 256]
  | .invokespecial x => some [183, x / 256, x % 256]
  | .invokestatic x => some [184, x / 256, x % 256]
  | .new x => some [187, x / 256, x % 256]
  | .checkcast x => some [192, x / 256, x % 256]
  | .sipush o => mz_sg (mz_sn o) o 17
  | .goto o => mz_sg (mz_sn o) o 167
  | .ifCond .eq o => mz_sg (mz_sn o) o 153
  | .ifCond .ne o => mz_sg (mz_sn o) o 154
  | .ifCond .lt o => mz_sg (mz_sn o) o 155
  | .ifCond .ge o => mz_sg (mz_sn o) o 156
  | .ifCond .gt o => mz_sg (mz_sn o) o 157
  | .ifCond .le o => mz_sg (mz_sn o) o 158
  | .if_icmp .eq o => mz_sg (mz_sn o) o 159
  | .if_icmp .ne o => mz_sg (mz_sn o) o 160
  | .if_icmp .lt o => mz_sg (mz_sn o) o 161
  | .if_icmp .ge o => mz_sg (mz_sn o) o 162
  | .if_icmp .gt o => mz_sg (mz_sn o) o 163
  | .if_icmp .le o => mz_sg (mz_sn o) o 164
  | .iinc x o => cond (decide (Reader.signed 8 (o % 256).toNat = o)) (some [132, x, (o % 256).toNat]) none
  | _ => none
set_option maxHeartbeats 4000000 in
theorem mz_enc_ok {ins : Instr} {l : List Nat} {code : ByteArray} {pc : Nat} (h : mz_enc ins = some l) (hb : ∀ (i v : Nat), l[i]? = some v → mz_b code (pc + i) = some v) : decode code pc = .ok (ins, l.length) := by
  cases ins with
  | iaload =>
    cases h
    have h0 := mz_u1 (p := pc) (hb 0 _ rfl)
    unfold decode Reader.runAt Decoder.instr
    show Except.bind (Except.bind ((Reader.u1 : Reader DecodeError Nat) code pc) _) _ = _
    rw [h0]
    show Except.ok (_, pc + 1 - pc) = _
    rw [Nat.add_sub_cancel_left]
    rfl
  | baload =>
    cases h
    have h0 := mz_u1 (p := pc) (hb 0 _ rfl)
    unfold decode Reader.runAt Decoder.instr
    show Except.bind (Except.bind ((Reader.u1 : Reader DecodeError Nat) code pc) _) _ = _
    rw [h0]
    show Except.ok (_, pc + 1 - pc) = _
    rw [Nat.add_sub_cancel_left]
    rfl
  | iastore =>
    cases h
    have h0 := mz_u1 (p := pc) (hb 0 _ rfl)
    unfold decode Reader.runAt Decoder.instr
    show Except.bind (Except.bind ((Reader.u1 : Reader DecodeError Nat) code pc) _) _ = _
    rw [h0]
    show Except.ok (_, pc + 1 - pc) = _
    rw [Nat.add_sub_cancel_left]
    rfl
  | pop =>
    cases h
    have h0 := mz_u1 (p := pc) (hb 0 _ rfl)
    unfold decode Reader.runAt Decoder.instr
    show Except.bind (Except.bind ((Reader.u1 : Reader DecodeError Nat) code pc) _) _ = _
    rw [h0]
    show Except.ok (_, pc + 1 - pc) = _
    rw [Nat.add_sub_cancel_left]
    rfl
  | dup =>
    cases h
    have h0 := mz_u1 (p := pc) (hb 0 _ rfl)
    unfold decode Reader.runAt Decoder.instr
    show Except.bind (Except.bind ((Reader.u1 : Reader DecodeError Nat) code pc) _) _ = _
    rw [h0]
    show Except.ok (_, pc + 1 - pc) = _
    rw [Nat.add_sub_cancel_left]
    rfl
  | dup_x1 =>
    cases h
    have h0 := mz_u1 (p := pc) (hb 0 _ rfl)
    unfold decode Reader.runAt Decoder.instr
    show Except.bind (Except.bind ((Reader.u1 : Reader DecodeError Nat) code pc) _) _ = _
    rw [h0]
    show Except.ok (_, pc + 1 - pc) = _
    rw [Nat.add_sub_cancel_left]
    rfl
  | dup2 =>
    cases h
    have h0 := mz_u1 (p := pc) (hb 0 _ rfl)
    unfold decode Reader.runAt Decoder.instr
    show Except.bind (Except.bind ((Reader.u1 : Reader DecodeError Nat) code pc) _) _ = _
    rw [h0]
    show Except.ok (_, pc + 1 - pc) = _
    rw [Nat.add_sub_cancel_left]
    rfl
  | iadd =>
    cases h
    have h0 := mz_u1 (p := pc) (hb 0 _ rfl)
    unfold decode Reader.runAt Decoder.instr
    show Except.bind (Except.bind ((Reader.u1 : Reader DecodeError Nat) code pc) _) _ = _
    rw [h0]
    show Except.ok (_, pc + 1 - pc) = _
    rw [Nat.add_sub_cancel_left]
    rfl
  | isub =>
    cases h
    have h0 := mz_u1 (p := pc) (hb 0 _ rfl)
    unfold decode Reader.runAt Decoder.instr
    show Except.bind (Except.bind ((Reader.u1 : Reader DecodeError Nat) code pc) _) _ = _
    rw [h0]
    show Except.ok (_, pc + 1 - pc) = _
    rw [Nat.add_sub_cancel_left]
    rfl
  | imul =>
    cases h
    have h0 := mz_u1 (p := pc) (hb 0 _ rfl)
    unfold decode Reader.runAt Decoder.instr
    show Except.bind (Except.bind ((Reader.u1 : Reader DecodeError Nat) code pc) _) _ = _
    rw [h0]
    show Except.ok (_, pc + 1 - pc) = _
    rw [Nat.add_sub_cancel_left]
    rfl
  | idiv =>
    cases h
    have h0 := mz_u1 (p := pc) (hb 0 _ rfl)
    unfold decode Reader.runAt Decoder.instr
    show Except.bind (Except.bind ((Reader.u1 : Reader DecodeError Nat) code pc) _) _ = _
    rw [h0]
    show Except.ok (_, pc + 1 - pc) = _
    rw [Nat.add_sub_cancel_left]
    rfl
  | irem =>
    cases h
    have h0 := mz_u1 (p := pc) (hb 0 _ rfl)
    unfold decode Reader.runAt Decoder.instr
    show Except.bind (Except.bind ((Reader.u1 : Reader DecodeError Nat) code pc) _) _ = _
    rw [h0]
    show Except.ok (_, pc + 1 - pc) = _
    rw [Nat.add_sub_cancel_left]
    rfl
  | ineg =>
    cases h
    have h0 := mz_u1 (p := pc) (hb 0 _ rfl)
    unfold decode Reader.runAt Decoder.instr
    show Except.bind (Except.bind ((Reader.u1 : Reader DecodeError Nat) code pc) _) _ = _
    rw [h0]
    show Except.ok (_, pc + 1 - pc) = _
    rw [Nat.add_sub_cancel_left]
    rfl
  | ishl =>
    cases h
    have h0 := mz_u1 (p := pc) (hb 0 _ rfl)
    unfold decode Reader.runAt Decoder.instr
    show Except.bind (Except.bind ((Reader.u1 : Reader DecodeError Nat) code pc) _) _ = _
    rw [h0]
    show Except.ok (_, pc + 1 - pc) = _
    rw [Nat.add_sub_cancel_left]
    rfl
  | lshl =>
    cases h
    have h0 := mz_u1 (p := pc) (hb 0 _ rfl)
    unfold decode Reader.runAt Decoder.instr
    show Except.bind (Except.bind ((Reader.u1 : Reader DecodeError Nat) code pc) _) _ = _
    rw [h0]
    show Except.ok (_, pc + 1 - pc) = _
    rw [Nat.add_sub_cancel_left]
    rfl
  | ishr =>
    cases h
    have h0 := mz_u1 (p := pc) (hb 0 _ rfl)
    unfold decode Reader.runAt Decoder.instr
    show Except.bind (Except.bind ((Reader.u1 : Reader DecodeError Nat) code pc) _) _ = _
    rw [h0]
    show Except.ok (_, pc + 1 - pc) = _
    rw [Nat.add_sub_cancel_left]
    rfl
  | lshr =>
    cases h
    have h0 := mz_u1 (p := pc) (hb 0 _ rfl)
    unfold decode Reader.runAt Decoder.instr
    show Except.bind (Except.bind ((Reader.u1 : Reader DecodeError Nat) code pc) _) _ = _
    rw [h0]
    show Except.ok (_, pc + 1 - pc) = _
    rw [Nat.add_sub_cancel_left]
    rfl
  | iushr =>
    cases h
    have h0 := mz_u1 (p := pc) (hb 0 _ rfl)
    unfold decode Reader.runAt Decoder.instr
    show Except.bind (Except.bind ((Reader.u1 : Reader DecodeError Nat) code pc) _) _ = _
    rw [h0]
    show Except.ok (_, pc + 1 - pc) = _
    rw [Nat.add_sub_cancel_left]
    rfl
  | lushr =>
    cases h
    have h0 := mz_u1 (p := pc) (hb 0 _ rfl)
    unfold decode Reader.runAt Decoder.instr
    show Except.bind (Except.bind ((Reader.u1 : Reader DecodeError Nat) code pc) _) _ = _
    rw [h0]
    show Except.ok (_, pc + 1 - pc) = _
    rw [Nat.add_sub_cancel_left]
    rfl
  | iand =>
    cases h
    have h0 := mz_u1 (p := pc) (hb 0 _ rfl)
    unfold decode Reader.runAt Decoder.instr
    show Except.bind (Except.bind ((Reader.u1 : Reader DecodeError Nat) code pc) _) _ = _
    rw [h0]
    show Except.ok (_, pc + 1 - pc) = _
    rw [Nat.add_sub_cancel_left]
    rfl
  | land =>
    cases h
    have h0 := mz_u1 (p := pc) (hb 0 _ rfl)
    unfold decode Reader.runAt Decoder.instr
    show Except.bind (Except.bind ((Reader.u1 : Reader DecodeError Nat) code pc) _) _ = _
    rw [h0]
    show Except.ok (_, pc + 1 - pc) = _
    rw [Nat.add_sub_cancel_left]
    rfl
  | ior =>
    cases h
    have h0 := mz_u1 (p := pc) (hb 0 _ rfl)
    unfold decode Reader.runAt Decoder.instr
    show Except.bind (Except.bind ((Reader.u1 : Reader DecodeError Nat) code pc) _) _ = _
    rw [h0]
    show Except.ok (_, pc + 1 - pc) = _
    rw [Nat.add_sub_cancel_left]
    rfl
  | lor =>
    cases h
    have h0 := mz_u1 (p := pc) (hb 0 _ rfl)
    unfold decode Reader.runAt Decoder.instr
    show Except.bind (Except.bind ((Reader.u1 : Reader DecodeError Nat) code pc) _) _ = _
    rw [h0]
    show Except.ok (_, pc + 1 - pc) = _
    rw [Nat.add_sub_cancel_left]
    rfl
  | ixor =>
    cases h
    have h0 := mz_u1 (p := pc) (hb 0 _ rfl)
    unfold decode Reader.runAt Decoder.instr
    show Except.bind (Except.bind ((Reader.u1 : Reader DecodeError Nat) code pc) _) _ = _
    rw [h0]
    show Except.ok (_, pc + 1 - pc) = _
    rw [Nat.add_sub_cancel_left]
    rfl
  | i2l =>
    cases h
    have h0 := mz_u1 (p := pc) (hb 0 _ rfl)
    unfold decode Reader.runAt Decoder.instr
    show Except.bind (Except.bind ((Reader.u1 : Reader DecodeError Nat) code pc) _) _ = _
    rw [h0]
    show Except.ok (_, pc + 1 - pc) = _
    rw [Nat.add_sub_cancel_left]
    rfl
  | l2i =>
    cases h
    have h0 := mz_u1 (p := pc) (hb 0 _ rfl)
    unfold decode Reader.runAt Decoder.instr
    show Except.bind (Except.bind ((Reader.u1 : Reader DecodeError Nat) code pc) _) _ = _
    rw [h0]
    show Except.ok (_, pc + 1 - pc) = _
    rw [Nat.add_sub_cancel_left]
    rfl
  | i2b =>
    cases h
    have h0 := mz_u1 (p := pc) (hb 0 _ rfl)
    unfold decode Reader.runAt Decoder.instr
    show Except.bind (Except.bind ((Reader.u1 : Reader DecodeError Nat) code pc) _) _ = _
    rw [h0]
    show Except.ok (_, pc + 1 - pc) = _
    rw [Nat.add_sub_cancel_left]
    rfl
  | i2c =>
    cases h
    have h0 := mz_u1 (p := pc) (hb 0 _ rfl)
    unfold decode Reader.runAt Decoder.instr
    show Except.bind (Except.bind ((Reader.u1 : Reader DecodeError Nat) code pc) _) _ = _
    rw [h0]
    show Except.ok (_, pc + 1 - pc) = _
    rw [Nat.add_sub_cancel_left]
    rfl
  | i2s =>
    cases h
    have h0 := mz_u1 (p := pc) (hb 0 _ rfl)
    unfold decode Reader.runAt Decoder.instr
    show Except.bind (Except.bind ((Reader.u1 : Reader DecodeError Nat) code pc) _) _ = _
    rw [h0]
    show Except.ok (_, pc + 1 - pc) = _
    rw [Nat.add_sub_cancel_left]
    rfl
  | ireturn =>
    cases h
    have h0 := mz_u1 (p := pc) (hb 0 _ rfl)
    unfold decode Reader.runAt Decoder.instr
    show Except.bind (Except.bind ((Reader.u1 : Reader DecodeError Nat) code pc) _) _ = _
    rw [h0]
    show Except.ok (_, pc + 1 - pc) = _
    rw [Nat.add_sub_cancel_left]
    rfl
  | areturn =>
    cases h
    have h0 := mz_u1 (p := pc) (hb 0 _ rfl)
    unfold decode Reader.runAt Decoder.instr
    show Except.bind (Except.bind ((Reader.u1 : Reader DecodeError Nat) code pc) _) _ = _
    rw [h0]
    show Except.ok (_, pc + 1 - pc) = _
    rw [Nat.add_sub_cancel_left]
    rfl
  | return_ =>
    cases h
    have h0 := mz_u1 (p := pc) (hb 0 _ rfl)
    unfold decode Reader.runAt Decoder.instr
    show Except.bind (Except.bind ((Reader.u1 : Reader DecodeError Nat) code pc) _) _ = _
    rw [h0]
    show Except.ok (_, pc + 1 - pc) = _
    rw [Nat.add_sub_cancel_left]
    rfl
  | arraylength =>
    cases h
    have h0 := mz_u1 (p := pc) (hb 0 _ rfl)
    unfold decode Reader.runAt Decoder.instr
    show Except.bind (Except.bind ((Reader.u1 : Reader DecodeError Nat) code pc) _) _ = _
    rw [h0]
    show Except.ok (_, pc + 1 - pc) = _
    rw [Nat.add_sub_cancel_left]
    rfl
  | iload_n q =>
    rcases q with ⟨q, hq⟩
    rcases (show q = 0 ∨ q = 1 ∨ q = 2 ∨ q = 3 by omega) with rfl | rfl | rfl | rfl
    · cases h
      have h0 := mz_u1 (p := pc) (hb 0 _ rfl)
      unfold decode Reader.runAt Decoder.instr
      show Except.bind (Except.bind ((Reader.u1 : Reader DecodeError Nat) code pc) _) _ = _
      rw [h0]
      show Except.ok (_, pc + 1 - pc) = _
      rw [Nat.add_sub_cancel_left]
      rfl
    · cases h
      have h0 := mz_u1 (p := pc) (hb 0 _ rfl)
      unfold decode Reader.runAt Decoder.instr
      show Except.bind (Except.bind ((Reader.u1 : Reader DecodeError Nat) code pc) _) _ = _
      rw [h0]
      show Except.ok (_, pc + 1 - pc) = _
      rw [Nat.add_sub_cancel_left]
      rfl
    · cases h
      have h0 := mz_u1 (p := pc) (hb 0 _ rfl)
      unfold decode Reader.runAt Decoder.instr
      show Except.bind (Except.bind ((Reader.u1 : Reader DecodeError Nat) code pc) _) _ = _
      rw [h0]
      show Except.ok (_, pc + 1 - pc) = _
      rw [Nat.add_sub_cancel_left]
      rfl
    · cases h
      have h0 := mz_u1 (p := pc) (hb 0 _ rfl)
      unfold decode Reader.runAt Decoder.instr
      show Except.bind (Except.bind ((Reader.u1 : Reader DecodeError Nat) code pc) _) _ = _
      rw [h0]
      show Except.ok (_, pc + 1 - pc) = _
      rw [Nat.add_sub_cancel_left]
      rfl
  | lload_n q =>
    rcases q with ⟨q, hq⟩
    rcases (show q = 0 ∨ q = 1 ∨ q = 2 ∨ q = 3 by omega) with rfl | rfl | rfl | rfl
    · cases h
      have h0 := mz_u1 (p := pc) (hb 0 _ rfl)
      unfold decode Reader.runAt Decoder.instr
      show Except.bind (Except.bind ((Reader.u1 : Reader DecodeError Nat) code pc) _) _ = _
      rw [h0]
      show Except.ok (_, pc + 1 - pc) = _
      rw [Nat.add_sub_cancel_left]
      rfl
    · cases h
      have h0 := mz_u1 (p := pc) (hb 0 _ rfl)
      unfold decode Reader.runAt Decoder.instr
      show Except.bind (Except.bind ((Reader.u1 : Reader DecodeError Nat) code pc) _) _ = _
      rw [h0]
      show Except.ok (_, pc + 1 - pc) = _
      rw [Nat.add_sub_cancel_left]
      rfl
    · cases h
      have h0 := mz_u1 (p := pc) (hb 0 _ rfl)
      unfold decode Reader.runAt Decoder.instr
      show Except.bind (Except.bind ((Reader.u1 : Reader DecodeError Nat) code pc) _) _ = _
      rw [h0]
      show Except.ok (_, pc + 1 - pc) = _
      rw [Nat.add_sub_cancel_left]
      rfl
    · cases h
      have h0 := mz_u1 (p := pc) (hb 0 _ rfl)
      unfold decode Reader.runAt Decoder.instr
      show Except.bind (Except.bind ((Reader.u1 : Reader DecodeError Nat) code pc) _) _ = _
      rw [h0]
      show Except.ok (_, pc + 1 - pc) = _
      rw [Nat.add_sub_cancel_left]
      rfl
  | aload_n q =>
    rcases q with ⟨q, hq⟩
    rcases (show q = 0 ∨ q = 1 ∨ q = 2 ∨ q = 3 by omega) with rfl | rfl | rfl | rfl
    · cases h
      have h0 := mz_u1 (p := pc) (hb 0 _ rfl)
      unfold decode Reader.runAt Decoder.instr
      show Except.bind (Except.bind ((Reader.u1 : Reader DecodeError Nat) code pc) _) _ = _
      rw [h0]
      show Except.ok (_, pc + 1 - pc) = _
      rw [Nat.add_sub_cancel_left]
      rfl
    · cases h
      have h0 := mz_u1 (p := pc) (hb 0 _ rfl)
      unfold decode Reader.runAt Decoder.instr
      show Except.bind (Except.bind ((Reader.u1 : Reader DecodeError Nat) code pc) _) _ = _
      rw [h0]
      show Except.ok (_, pc + 1 - pc) = _
      rw [Nat.add_sub_cancel_left]
      rfl
    · cases h
      have h0 := mz_u1 (p := pc) (hb 0 _ rfl)
      unfold decode Reader.runAt Decoder.instr
      show Except.bind (Except.bind ((Reader.u1 : Reader DecodeError Nat) code pc) _) _ = _
      rw [h0]
      show Except.ok (_, pc + 1 - pc) = _
      rw [Nat.add_sub_cancel_left]
      rfl
    · cases h
      have h0 := mz_u1 (p := pc) (hb 0 _ rfl)
      unfold decode Reader.runAt Decoder.instr
      show Except.bind (Except.bind ((Reader.u1 : Reader DecodeError Nat) code pc) _) _ = _
      rw [h0]
      show Except.ok (_, pc + 1 - pc) = _
      rw [Nat.add_sub_cancel_left]
      rfl
  | istore_n q =>
    rcases q with ⟨q, hq⟩
    rcases (show q = 0 ∨ q = 1 ∨ q = 2 ∨ q = 3 by omega) with rfl | rfl | rfl | rfl
    · cases h
      have h0 := mz_u1 (p := pc) (hb 0 _ rfl)
      unfold decode Reader.runAt Decoder.instr
      show Except.bind (Except.bind ((Reader.u1 : Reader DecodeError Nat) code pc) _) _ = _
      rw [h0]
      show Except.ok (_, pc + 1 - pc) = _
      rw [Nat.add_sub_cancel_left]
      rfl
    · cases h
      have h0 := mz_u1 (p := pc) (hb 0 _ rfl)
      unfold decode Reader.runAt Decoder.instr
      show Except.bind (Except.bind ((Reader.u1 : Reader DecodeError Nat) code pc) _) _ = _
      rw [h0]
      show Except.ok (_, pc + 1 - pc) = _
      rw [Nat.add_sub_cancel_left]
      rfl
    · cases h
      have h0 := mz_u1 (p := pc) (hb 0 _ rfl)
      unfold decode Reader.runAt Decoder.instr
      show Except.bind (Except.bind ((Reader.u1 : Reader DecodeError Nat) code pc) _) _ = _
      rw [h0]
      show Except.ok (_, pc + 1 - pc) = _
      rw [Nat.add_sub_cancel_left]
      rfl
    · cases h
      have h0 := mz_u1 (p := pc) (hb 0 _ rfl)
      unfold decode Reader.runAt Decoder.instr
      show Except.bind (Except.bind ((Reader.u1 : Reader DecodeError Nat) code pc) _) _ = _
      rw [h0]
      show Except.ok (_, pc + 1 - pc) = _
      rw [Nat.add_sub_cancel_left]
      rfl
  | astore_n q =>
    rcases q with ⟨q, hq⟩
    rcases (show q = 0 ∨ q = 1 ∨ q = 2 ∨ q = 3 by omega) with rfl | rfl | rfl | rfl
    · cases h
      have h0 := mz_u1 (p := pc) (hb 0 _ rfl)
      unfold decode Reader.runAt Decoder.instr
      show Except.bind (Except.bind ((Reader.u1 : Reader DecodeError Nat) code pc) _) _ = _
      rw [h0]
      show Except.ok (_, pc + 1 - pc) = _
      rw [Nat.add_sub_cancel_left]
      rfl
    · cases h
      have h0 := mz_u1 (p := pc) (hb 0 _ rfl)
      unfold decode Reader.runAt Decoder.instr
      show Except.bind (Except.bind ((Reader.u1 : Reader DecodeError Nat) code pc) _) _ = _
      rw [h0]
      show Except.ok (_, pc + 1 - pc) = _
      rw [Nat.add_sub_cancel_left]
      rfl
    · cases h
      have h0 := mz_u1 (p := pc) (hb 0 _ rfl)
      unfold decode Reader.runAt Decoder.instr
      show Except.bind (Except.bind ((Reader.u1 : Reader DecodeError Nat) code pc) _) _ = _
      rw [h0]
      show Except.ok (_, pc + 1 - pc) = _
      rw [Nat.add_sub_cancel_left]
      rfl
    · cases h
      have h0 := mz_u1 (p := pc) (hb 0 _ rfl)
      unfold decode Reader.runAt Decoder.instr
      show Except.bind (Except.bind ((Reader.u1 : Reader DecodeError Nat) code pc) _) _ = _
      rw [h0]
      show Except.ok (_, pc + 1 - pc) = _
      rw [Nat.add_sub_cancel_left]
      rfl
  | iconst n =>
    by_cases hn : n = -1
    · subst hn
      have h : some [2] = some l := h
      cases h
      have h0 := mz_u1 (p := pc) (hb 0 _ rfl)
      unfold decode Reader.runAt Decoder.instr
      show Except.bind (Except.bind ((Reader.u1 : Reader DecodeError Nat) code pc) _) _ = _
      rw [h0]
      show Except.ok (_, pc + 1 - pc) = _
      rw [Nat.add_sub_cancel_left]
      rfl
    have h := (mz_else hn).symm.trans h
    by_cases hn : n = 0
    · subst hn
      have h : some [3] = some l := h
      cases h
      have h0 := mz_u1 (p := pc) (hb 0 _ rfl)
      unfold decode Reader.runAt Decoder.instr
      show Except.bind (Except.bind ((Reader.u1 : Reader DecodeError Nat) code pc) _) _ = _
      rw [h0]
      show Except.ok (_, pc + 1 - pc) = _
      rw [Nat.add_sub_cancel_left]
      rfl
    have h := (mz_else hn).symm.trans h
    by_cases hn : n = 1
    · subst hn
      have h : some [4] = some l := h
      cases h
      have h0 := mz_u1 (p := pc) (hb 0 _ rfl)
      unfold decode Reader.runAt Decoder.instr
      show Except.bind (Except.bind ((Reader.u1 : Reader DecodeError Nat) code pc) _) _ = _
      rw [h0]
      show Except.ok (_, pc + 1 - pc) = _
      rw [Nat.add_sub_cancel_left]
      rfl
    have h := (mz_else hn).symm.trans h
    by_cases hn : n = 2
    · subst hn
      have h : some [5] = some l := h
      cases h
      have h0 := mz_u1 (p := pc) (hb 0 _ rfl)
      unfold decode Reader.runAt Decoder.instr
      show Except.bind (Except.bind ((Reader.u1 : Reader DecodeError Nat) code pc) _) _ = _
      rw [h0]
      show Except.ok (_, pc + 1 - pc) = _
      rw [Nat.add_sub_cancel_left]
      rfl
    have h := (mz_else hn).symm.trans h
    by_cases hn : n = 3
    · subst hn
      have h : some [6] = some l := h
      cases h
      have h0 := mz_u1 (p := pc) (hb 0 _ rfl)
      unfold decode Reader.runAt Decoder.instr
      show Except.bind (Except.bind ((Reader.u1 : Reader DecodeError Nat) code pc) _) _ = _
      rw [h0]
      show Except.ok (_, pc + 1 - pc) = _
      rw [Nat.add_sub_cancel_left]
      rfl
    have h := (mz_else hn).symm.trans h
    by_cases hn : n = 4
    · subst hn
      have h : some [7] = some l := h
      cases h
      have h0 := mz_u1 (p := pc) (hb 0 _ rfl)
      unfold decode Reader.runAt Decoder.instr
      show Except.bind (Except.bind ((Reader.u1 : Reader DecodeError Nat) code pc) _) _ = _
      rw [h0]
      show Except.ok (_, pc + 1 - pc) = _
      rw [Nat.add_sub_cancel_left]
      rfl
    have h := (mz_else hn).symm.trans h
    by_cases hn : n = 5
    · subst hn
      have h : some [8] = some l := h
      cases h
      have h0 := mz_u1 (p := pc) (hb 0 _ rfl)
      unfold decode Reader.runAt Decoder.instr
      show Except.bind (Except.bind ((Reader.u1 : Reader DecodeError Nat) code pc) _) _ = _
      rw [h0]
      show Except.ok (_, pc + 1 - pc) = _
      rw [Nat.add_sub_cancel_left]
      rfl
    have h := (mz_else hn).symm.trans h
    cases h
  | ldc x =>
    cases h
    have h0 := mz_u1 (p := pc) (hb 0 _ rfl)
    have h1 := mz_u1 (hb 1 _ rfl)
    unfold decode Reader.runAt Decoder.instr
    show Except.bind (Except.bind ((Reader.u1 : Reader DecodeError Nat) code pc) _) _ = _
    rw [h0]
    show Except.bind (Except.bind ((Reader.u1 : Reader DecodeError Nat) code (pc + 1)) _) _ = _
    rw [h1]
    show Except.ok (_, pc + 2 - pc) = _
    rw [Nat.add_sub_cancel_left]
    rfl
  | iload x =>
    cases h
    have h0 := mz_u1 (p := pc) (hb 0 _ rfl)
    have h1 := mz_u1 (hb 1 _ rfl)
    unfold decode Reader.runAt Decoder.instr
    show Except.bind (Except.bind ((Reader.u1 : Reader DecodeError Nat) code pc) _) _ = _
    rw [h0]
    show Except.bind (Except.bind ((Reader.u1 : Reader DecodeError Nat) code (pc + 1)) _) _ = _
    rw [h1]
    show Except.ok (_, pc + 2 - pc) = _
    rw [Nat.add_sub_cancel_left]
    rfl
  | aload x =>
    cases h
    have h0 := mz_u1 (p := pc) (hb 0 _ rfl)
    have h1 := mz_u1 (hb 1 _ rfl)
    unfold decode Reader.runAt Decoder.instr
    show Except.bind (Except.bind ((Reader.u1 : Reader DecodeError Nat) code pc) _) _ = _
    rw [h0]
    show Except.bind (Except.bind ((Reader.u1 : Reader DecodeError Nat) code (pc + 1)) _) _ = _
    rw [h1]
    show Except.ok (_, pc + 2 - pc) = _
    rw [Nat.add_sub_cancel_left]
    rfl
  | istore x =>
    cases h
    have h0 := mz_u1 (p := pc) (hb 0 _ rfl)
    have h1 := mz_u1 (hb 1 _ rfl)
    unfold decode Reader.runAt Decoder.instr
    show Except.bind (Except.bind ((Reader.u1 : Reader DecodeError Nat) code pc) _) _ = _
    rw [h0]
    show Except.bind (Except.bind ((Reader.u1 : Reader DecodeError Nat) code (pc + 1)) _) _ = _
    rw [h1]
    show Except.ok (_, pc + 2 - pc) = _
    rw [Nat.add_sub_cancel_left]
    rfl
  | astore x =>
    cases h
    have h0 := mz_u1 (p := pc) (hb 0 _ rfl)
    have h1 := mz_u1 (hb 1 _ rfl)
    unfold decode Reader.runAt Decoder.instr
    show Except.bind (Except.bind ((Reader.u1 : Reader DecodeError Nat) code pc) _) _ = _
    rw [h0]
    show Except.bind (Except.bind ((Reader.u1 : Reader DecodeError Nat) code (pc + 1)) _) _ = _
    rw [h1]
    show Except.ok (_, pc + 2 - pc) = _
    rw [Nat.add_sub_cancel_left]
    rfl
  | bipush o =>
    obtain ⟨hg, h⟩ := mz_cond h
    have hg := of_decide_eq_true hg
    cases h
    have h0 := mz_u1 (p := pc) (hb 0 _ rfl)
    have h1 := mz_u1 (hb 1 _ rfl)
    unfold decode Reader.runAt Decoder.instr
    show Except.bind (Except.bind ((Reader.u1 : Reader DecodeError Nat) code pc) _) _ = _
    rw [h0]
    show Except.bind (Except.bind (Except.bind ((Reader.u1 : Reader DecodeError Nat) code (pc + 1)) _) _) _ = _
    rw [h1]
    show Except.ok (Instr.bipush (Reader.signed 8 (o % 256).toNat), pc + 2 - pc) = _
    rw [Nat.add_sub_cancel_left, hg]
    rfl
  | ldc_w x =>
    cases h
    have h0 := mz_u1 (p := pc) (hb 0 _ rfl)
    have h1 := mz_u1 (hb 1 _ rfl)
    have h2 := mz_u1 (hb 2 _ rfl)
    unfold decode Reader.runAt Decoder.instr
    show Except.bind (Except.bind ((Reader.u1 : Reader DecodeError Nat) code pc) _) _ = _
    rw [h0]
    show Except.bind (Except.bind (Except.bind ((Reader.u1 : Reader DecodeError Nat) code (pc + 1)) _) _) _ = _
    rw [h1]
    show Except.bind (Except.bind (Except.bind ((Reader.u1 : Reader DecodeError Nat) code (pc + 2)) _) _) _ = _
    rw [h2]
    show Except.ok (Instr.ldc_w (x / 256 * 256 + x % 256), pc + 3 - pc) = _
    rw [Nat.add_sub_cancel_left, Nat.div_add_mod']
    rfl
  | ldc2_w x =>
    cases h
    have h0 := mz_u1 (p := pc) (hb 0 _ rfl)
    have h1 := mz_u1 (hb 1 _ rfl)
    have h2 := mz_u1 (hb 2 _ rfl)
    unfold decode Reader.runAt Decoder.instr
    show Except.bind (Except.bind ((Reader.u1 : Reader DecodeError Nat) code pc) _) _ = _
    rw [h0]
    show Except.bind (Except.bind (Except.bind ((Reader.u1 : Reader DecodeError Nat) code (pc + 1)) _) _) _ = _
    rw [h1]
    show Except.bind (Except.bind (Except.bind ((Reader.u1 : Reader DecodeError Nat) code (pc + 2)) _) _) _ = _
    rw [h2]
    show Except.ok (Instr.ldc2_w (x / 256 * 256 + x % 256), pc + 3 - pc) = _
    rw [Nat.add_sub_cancel_left, Nat.div_add_mod']
    rfl
  | getstatic x =>
    cases h
    have h0 := mz_u1 (p := pc) (hb 0 _ rfl)
    have h1 := mz_u1 (hb 1 _ rfl)
    have h2 := mz_u1 (hb 2 _ rfl)
    unfold decode Reader.runAt Decoder.instr
    show Except.bind (Except.bind ((Reader.u1 : Reader DecodeError Nat) code pc) _) _ = _
    rw [h0]
    show Except.bind (Except.bind (Except.bind ((Reader.u1 : Reader DecodeError Nat) code (pc + 1)) _) _) _ = _
    rw [h1]
    show Except.bind (Except.bind (Except.bind ((Reader.u1 : Reader DecodeError Nat) code (pc + 2)) _) _) _ = _
    rw [h2]
    show Except.ok (Instr.getstatic (x / 256 * 256 + x % 256), pc + 3 - pc) = _
    rw [Nat.add_sub_cancel_left, Nat.div_add_mod']
    rfl
  | getfield x =>
    cases h
    have h0 := mz_u1 (p := pc) (hb 0 _ rfl)
    have h1 := mz_u1 (hb 1 _ rfl)
    have h2 := mz_u1 (hb 2 _ rfl)
    unfold decode Reader.runAt Decoder.instr
    show Except.bind (Except.bind ((Reader.u1 : Reader DecodeError Nat) code pc) _) _ = _
    rw [h0]
    show Except.bind (Except.bind (Except.bind ((Reader.u1 : Reader DecodeError Nat) code (pc + 1)) _) _) _ = _
    rw [h1]
    show Except.bind (Except.bind (Except.bind ((Reader.u1 : Reader DecodeError Nat) code (pc + 2)) _) _) _ = _
    rw [h2]
    show Except.ok (Instr.getfield (x / 256 * 256 + x % 256), pc + 3 - pc) = _
    rw [Nat.add_sub_cancel_left, Nat.div_add_mod']
    rfl
  | putfield x =>
    cases h
    have h0 := mz_u1 (p := pc) (hb 0 _ rfl)
    have h1 := mz_u1 (hb 1 _ rfl)
    have h2 := mz_u1 (hb 2 _ rfl)
    unfold decode Reader.runAt Decoder.instr
    show Except.bind (Except.bind ((Reader.u1 : Reader DecodeError Nat) code pc) _) _ = _
    rw [h0]
    show Except.bind (Except.bind (Except.bind ((Reader.u1 : Reader DecodeError Nat) code (pc + 1)) _) _) _ = _
    rw [h1]
    show Except.bind (Except.bind (Except.bind ((Reader.u1 : Reader DecodeError Nat) code (pc + 2)) _) _) _ = _
    rw [h2]
    show Except.ok (Instr.putfield (x / 256 * 256 + x % 256), pc + 3 - pc) = _
    rw [Nat.add_sub_cancel_left, Nat.div_add_mod']
    rfl
  | invokevirtual x =>
    cases h
    have h0 := mz_u1 (p := pc) (hb 0 _ rfl)
    have h1 := mz_u1 (hb 1 _ rfl)
    have h2 := mz_u1 (hb 2 _ rfl)
    unfold decode Reader.runAt Decoder.instr
    show Except.bind (Except.bind ((Reader.u1 : Reader DecodeError Nat) code pc) _) _ = _
    rw [h0]
    show Except.bind (Except.bind (Except.bind ((Reader.u1 : Reader DecodeError Nat) code (pc + 1)) _) _) _ = _
    rw [h1]
    show Except.bind (Except.bind (Except.bind ((Reader.u1 : Reader DecodeError Nat) code (pc + 2)) _) _) _ = _
    rw [h2]
    show Except.ok (Instr.invokevirtual (x / 256 * 256 + x % 256), pc + 3 - pc) = _
    rw [Nat.add_sub_cancel_left, Nat.div_add_mod']
    rfl
  | invokespecial x =>
    cases h
    have h0 := mz_u1 (p := pc) (hb 0 _ rfl)
    have h1 := mz_u1 (hb 1 _ rfl)
    have h2 := mz_u1 (hb 2 _ rfl)
    unfold decode Reader.runAt Decoder.instr
    show Except.bind (Except.bind ((Reader.u1 : Reader DecodeError Nat) code pc) _) _ = _
    rw [h0]
    show Except.bind (Except.bind (Except.bind ((Reader.u1 : Reader DecodeError Nat) code (pc + 1)) _) _) _ = _
    rw [h1]
    show Except.bind (Except.bind (Except.bind ((Reader.u1 : Reader DecodeError Nat) code (pc + 2)) _) _) _ = _
    rw [h2]
    show Except.ok (Instr.invokespecial (x / 256 * 256 + x % 256), pc + 3 - pc) = _
    rw [Nat.add_sub_cancel_left, Nat.div_add_mod']
    rfl
  | invokestatic x =>
    cases h
    have h0 := mz_u1 (p := pc) (hb 0 _ rfl)
    have h1 := mz_u1 (hb 1 _ rfl)
    have h2 := mz_u1 (hb 2 _ rfl)
    unfold decode Reader.runAt Decoder.instr
    show Except.bind (Except.bind ((Reader.u1 : Reader DecodeError Nat) code pc) _) _ = _
    rw [h0]
    show Except.bind (Except.bind (Except.bind ((Reader.u1 : Reader DecodeError Nat) code (pc + 1)) _) _) _ = _
    rw [h1]
    show Except.bind (Except.bind (Except.bind ((Reader.u1 : Reader DecodeError Nat) code (pc + 2)) _) _) _ = _
    rw [h2]
    show Except.ok (Instr.invokestatic (x / 256 * 256 + x % 256), pc + 3 - pc) = _
    rw [Nat.add_sub_cancel_left, Nat.div_add_mod']
    rfl
  | new x =>
    cases h
    have h0 := mz_u1 (p := pc) (hb 0 _ rfl)
    have h1 := mz_u1 (hb 1 _ rfl)
    have h2 := mz_u1 (hb 2 _ rfl)
    unfold decode Reader.runAt Decoder.instr
    show Except.bind (Except.bind ((Reader.u1 : Reader DecodeError Nat) code pc) _) _ = _
    rw [h0]
    show Except.bind (Except.bind (Except.bind ((Reader.u1 : Reader DecodeError Nat) code (pc + 1)) _) _) _ = _
    rw [h1]
    show Except.bind (Except.bind (Except.bind ((Reader.u1 : Reader DecodeError Nat) code (pc + 2)) _) _) _ = _
    rw [h2]
    show Except.ok (Instr.new (x / 256 * 256 + x % 256), pc + 3 - pc) = _
    rw [Nat.add_sub_cancel_left, Nat.div_add_mod']
    rfl
  | checkcast x =>
    cases h
    have h0 := mz_u1 (p := pc) (hb 0 _ rfl)
    have h1 := mz_u1 (hb 1 _ rfl)
    have h2 := mz_u1 (hb 2 _ rfl)
    unfold decode Reader.runAt Decoder.instr
    show Except.bind (Except.bind ((Reader.u1 : Reader DecodeError Nat) code pc) _) _ = _
    rw [h0]
    show Except.bind (Except.bind (Except.bind ((Reader.u1 : Reader DecodeError Nat) code (pc + 1)) _) _) _ = _
    rw [h1]
    show Except.bind (Except.bind (Except.bind ((Reader.u1 : Reader DecodeError Nat) code (pc + 2)) _) _) _ = _
    rw [h2]
    show Except.ok (Instr.checkcast (x / 256 * 256 + x % 256), pc + 3 - pc) = _
    rw [Nat.add_sub_cancel_left, Nat.div_add_mod']
    rfl
  | sipush o =>
    obtain ⟨hg, h⟩ := mz_cond h
    have hg := of_decide_eq_true hg
    cases h
    have h0 := mz_u1 (p := pc) (hb 0 _ rfl)
    have h1 := mz_u1 (hb 1 _ rfl)
    have h2 := mz_u1 (hb 2 _ rfl)
    unfold decode Reader.runAt Decoder.instr
    show Except.bind (Except.bind ((Reader.u1 : Reader DecodeError Nat) code pc) _) _ = _
    rw [h0]
    show Except.bind (Except.bind (Except.bind (Except.bind ((Reader.u1 : Reader DecodeError Nat) code (pc + 1)) _) _) _) _ = _
    rw [h1]
    show Except.bind (Except.bind (Except.bind (Except.bind ((Reader.u1 : Reader DecodeError Nat) code (pc + 2)) _) _) _) _ = _
    rw [h2]
    show Except.ok (Instr.sipush (Reader.signed 16 (mz_sn o / 256 * 256 + mz_sn o % 256)), pc + 3 - pc) = _
    rw [Nat.add_sub_cancel_left, Nat.div_add_mod', hg]
    rfl
  | goto o =>
    obtain ⟨hg, h⟩ := mz_cond h
    have hg := of_decide_eq_true hg
    cases h
    have h0 := mz_u1 (p := pc) (hb 0 _ rfl)
    have h1 := mz_u1 (hb 1 _ rfl)
    have h2 := mz_u1 (hb 2 _ rfl)
    unfold decode Reader.runAt Decoder.instr
    show Except.bind (Except.bind ((Reader.u1 : Reader DecodeError Nat) code pc) _) _ = _
    rw [h0]
    show Except.bind (Except.bind (Except.bind (Except.bind ((Reader.u1 : Reader DecodeError Nat) code (pc + 1)) _) _) _) _ = _
    rw [h1]
    show Except.bind (Except.bind (Except.bind (Except.bind ((Reader.u1 : Reader DecodeError Nat) code (pc + 2)) _) _) _) _ = _
    rw [h2]
    show Except.ok (Instr.goto (Reader.signed 16 (mz_sn o / 256 * 256 + mz_sn o % 256)), pc + 3 - pc) = _
    rw [Nat.add_sub_cancel_left, Nat.div_add_mod', hg]
    rfl
  | ifCond b o =>
    cases b with
    | eq =>
      obtain ⟨hg, h⟩ := mz_cond h
      have hg := of_decide_eq_true hg
      cases h
      have h0 := mz_u1 (p := pc) (hb 0 _ rfl)
      have h1 := mz_u1 (hb 1 _ rfl)
      have h2 := mz_u1 (hb 2 _ rfl)
      unfold decode Reader.runAt Decoder.instr
      show Except.bind (Except.bind ((Reader.u1 : Reader DecodeError Nat) code pc) _) _ = _
      rw [h0]
      show Except.bind (Except.bind (Except.bind (Except.bind ((Reader.u1 : Reader DecodeError Nat) code (pc + 1)) _) _) _) _ = _
      rw [h1]
      show Except.bind (Except.bind (Except.bind (Except.bind ((Reader.u1 : Reader DecodeError Nat) code (pc + 2)) _) _) _) _ = _
      rw [h2]
      show Except.ok (Instr.ifCond .eq (Reader.signed 16 (mz_sn o / 256 * 256 + mz_sn o % 256)), pc + 3 - pc) = _
      rw [Nat.add_sub_cancel_left, Nat.div_add_mod', hg]
      rfl
    | ne =>
      obtain ⟨hg, h⟩ := mz_cond h
      have hg := of_decide_eq_true hg
      cases h
      have h0 := mz_u1 (p := pc) (hb 0 _ rfl)
      have h1 := mz_u1 (hb 1 _ rfl)
      have h2 := mz_u1 (hb 2 _ rfl)
      unfold decode Reader.runAt Decoder.instr
      show Except.bind (Except.bind ((Reader.u1 : Reader DecodeError Nat) code pc) _) _ = _
      rw [h0]
      show Except.bind (Except.bind (Except.bind (Except.bind ((Reader.u1 : Reader DecodeError Nat) code (pc + 1)) _) _) _) _ = _
      rw [h1]
      show Except.bind (Except.bind (Except.bind (Except.bind ((Reader.u1 : Reader DecodeError Nat) code (pc + 2)) _) _) _) _ = _
      rw [h2]
      show Except.ok (Instr.ifCond .ne (Reader.signed 16 (mz_sn o / 256 * 256 + mz_sn o % 256)), pc + 3 - pc) = _
      rw [Nat.add_sub_cancel_left, Nat.div_add_mod', hg]
      rfl
    | lt =>
      obtain ⟨hg, h⟩ := mz_cond h
      have hg := of_decide_eq_true hg
      cases h
      have h0 := mz_u1 (p := pc) (hb 0 _ rfl)
      have h1 := mz_u1 (hb 1 _ rfl)
      have h2 := mz_u1 (hb 2 _ rfl)
      unfold decode Reader.runAt Decoder.instr
      show Except.bind (Except.bind ((Reader.u1 : Reader DecodeError Nat) code pc) _) _ = _
      rw [h0]
      show Except.bind (Except.bind (Except.bind (Except.bind ((Reader.u1 : Reader DecodeError Nat) code (pc + 1)) _) _) _) _ = _
      rw [h1]
      show Except.bind (Except.bind (Except.bind (Except.bind ((Reader.u1 : Reader DecodeError Nat) code (pc + 2)) _) _) _) _ = _
      rw [h2]
      show Except.ok (Instr.ifCond .lt (Reader.signed 16 (mz_sn o / 256 * 256 + mz_sn o % 256)), pc + 3 - pc) = _
      rw [Nat.add_sub_cancel_left, Nat.div_add_mod', hg]
      rfl
    | ge =>
      obtain ⟨hg, h⟩ := mz_cond h
      have hg := of_decide_eq_true hg
      cases h
      have h0 := mz_u1 (p := pc) (hb 0 _ rfl)
      have h1 := mz_u1 (hb 1 _ rfl)
      have h2 := mz_u1 (hb 2 _ rfl)
      unfold decode Reader.runAt Decoder.instr
      show Except.bind (Except.bind ((Reader.u1 : Reader DecodeError Nat) code pc) _) _ = _
      rw [h0]
      show Except.bind (Except.bind (Except.bind (Except.bind ((Reader.u1 : Reader DecodeError Nat) code (pc + 1)) _) _) _) _ = _
      rw [h1]
      show Except.bind (Except.bind (Except.bind (Except.bind ((Reader.u1 : Reader DecodeError Nat) code (pc + 2)) _) _) _) _ = _
      rw [h2]
      show Except.ok (Instr.ifCond .ge (Reader.signed 16 (mz_sn o / 256 * 256 + mz_sn o % 256)), pc + 3 - pc) = _
      rw [Nat.add_sub_cancel_left, Nat.div_add_mod', hg]
      rfl
    | gt =>
      obtain ⟨hg, h⟩ := mz_cond h
      have hg := of_decide_eq_true hg
      cases h
      have h0 := mz_u1 (p := pc) (hb 0 _ rfl)
      have h1 := mz_u1 (hb 1 _ rfl)
      have h2 := mz_u1 (hb 2 _ rfl)
      unfold decode Reader.runAt Decoder.instr
      show Except.bind (Except.bind ((Reader.u1 : Reader DecodeError Nat) code pc) _) _ = _
      rw [h0]
      show Except.bind (Except.bind (Except.bind (Except.bind ((Reader.u1 : Reader DecodeError Nat) code (pc + 1)) _) _) _) _ = _
      rw [h1]
      show Except.bind (Except.bind (Except.bind (Except.bind ((Reader.u1 : Reader DecodeError Nat) code (pc + 2)) _) _) _) _ = _
      rw [h2]
      show Except.ok (Instr.ifCond .gt (Reader.signed 16 (mz_sn o / 256 * 256 + mz_sn o % 256)), pc + 3 - pc) = _
      rw [Nat.add_sub_cancel_left, Nat.div_add_mod', hg]
      rfl
    | le =>
      obtain ⟨hg, h⟩ := mz_cond h
      have hg := of_decide_eq_true hg
      cases h
      have h0 := mz_u1 (p := pc) (hb 0 _ rfl)
      have h1 := mz_u1 (hb 1 _ rfl)
      have h2 := mz_u1 (hb 2 _ rfl)
      unfold decode Reader.runAt Decoder.instr
      show Except.bind (Except.bind ((Reader.u1 : Reader DecodeError Nat) code pc) _) _ = _
      rw [h0]
      show Except.bind (Except.bind (Except.bind (Except.bind ((Reader.u1 : Reader DecodeError Nat) code (pc + 1)) _) _) _) _ = _
      rw [h1]
      show Except.bind (Except.bind (Except.bind (Except.bind ((Reader.u1 : Reader DecodeError Nat) code (pc + 2)) _) _) _) _ = _
      rw [h2]
      show Except.ok (Instr.ifCond .le (Reader.signed 16 (mz_sn o / 256 * 256 + mz_sn o % 256)), pc + 3 - pc) = _
      rw [Nat.add_sub_cancel_left, Nat.div_add_mod', hg]
      rfl
  | if_icmp b o =>
    cases b with
    | eq =>
      obtain ⟨hg, h⟩ := mz_cond h
      have hg := of_decide_eq_true hg
      cases h
      have h0 := mz_u1 (p := pc) (hb 0 _ rfl)
      have h1 := mz_u1 (hb 1 _ rfl)
      have h2 := mz_u1 (hb 2 _ rfl)
      unfold decode Reader.runAt Decoder.instr
      show Except.bind (Except.bind ((Reader.u1 : Reader DecodeError Nat) code pc) _) _ = _
      rw [h0]
      show Except.bind (Except.bind (Except.bind (Except.bind ((Reader.u1 : Reader DecodeError Nat) code (pc + 1)) _) _) _) _ = _
      rw [h1]
      show Except.bind (Except.bind (Except.bind (Except.bind ((Reader.u1 : Reader DecodeError Nat) code (pc + 2)) _) _) _) _ = _
      rw [h2]
      show Except.ok (Instr.if_icmp .eq (Reader.signed 16 (mz_sn o / 256 * 256 + mz_sn o % 256)), pc + 3 - pc) = _
      rw [Nat.add_sub_cancel_left, Nat.div_add_mod', hg]
      rfl
    | ne =>
      obtain ⟨hg, h⟩ := mz_cond h
      have hg := of_decide_eq_true hg
      cases h
      have h0 := mz_u1 (p := pc) (hb 0 _ rfl)
      have h1 := mz_u1 (hb 1 _ rfl)
      have h2 := mz_u1 (hb 2 _ rfl)
      unfold decode Reader.runAt Decoder.instr
      show Except.bind (Except.bind ((Reader.u1 : Reader DecodeError Nat) code pc) _) _ = _
      rw [h0]
      show Except.bind (Except.bind (Except.bind (Except.bind ((Reader.u1 : Reader DecodeError Nat) code (pc + 1)) _) _) _) _ = _
      rw [h1]
      show Except.bind (Except.bind (Except.bind (Except.bind ((Reader.u1 : Reader DecodeError Nat) code (pc + 2)) _) _) _) _ = _
      rw [h2]
      show Except.ok (Instr.if_icmp .ne (Reader.signed 16 (mz_sn o / 256 * 256 + mz_sn o % 256)), pc + 3 - pc) = _
      rw [Nat.add_sub_cancel_left, Nat.div_add_mod', hg]
      rfl
    | lt =>
      obtain ⟨hg, h⟩ := mz_cond h
      have hg := of_decide_eq_true hg
      cases h
      have h0 := mz_u1 (p := pc) (hb 0 _ rfl)
      have h1 := mz_u1 (hb 1 _ rfl)
      have h2 := mz_u1 (hb 2 _ rfl)
      unfold decode Reader.runAt Decoder.instr
      show Except.bind (Except.bind ((Reader.u1 : Reader DecodeError Nat) code pc) _) _ = _
      rw [h0]
      show Except.bind (Except.bind (Except.bind (Except.bind ((Reader.u1 : Reader DecodeError Nat) code (pc + 1)) _) _) _) _ = _
      rw [h1]
      show Except.bind (Except.bind (Except.bind (Except.bind ((Reader.u1 : Reader DecodeError Nat) code (pc + 2)) _) _) _) _ = _
      rw [h2]
      show Except.ok (Instr.if_icmp .lt (Reader.signed 16 (mz_sn o / 256 * 256 + mz_sn o % 256)), pc + 3 - pc) = _
      rw [Nat.add_sub_cancel_left, Nat.div_add_mod', hg]
      rfl
    | ge =>
      obtain ⟨hg, h⟩ := mz_cond h
      have hg := of_decide_eq_true hg
      cases h
      have h0 := mz_u1 (p := pc) (hb 0 _ rfl)
      have h1 := mz_u1 (hb 1 _ rfl)
      have h2 := mz_u1 (hb 2 _ rfl)
      unfold decode Reader.runAt Decoder.instr
      show Except.bind (Except.bind ((Reader.u1 : Reader DecodeError Nat) code pc) _) _ = _
      rw [h0]
      show Except.bind (Except.bind (Except.bind (Except.bind ((Reader.u1 : Reader DecodeError Nat) code (pc + 1)) _) _) _) _ = _
      rw [h1]
      show Except.bind (Except.bind (Except.bind (Except.bind ((Reader.u1 : Reader DecodeError Nat) code (pc + 2)) _) _) _) _ = _
      rw [h2]
      show Except.ok (Instr.if_icmp .ge (Reader.signed 16 (mz_sn o / 256 * 256 + mz_sn o % 256)), pc + 3 - pc) = _
      rw [Nat.add_sub_cancel_left, Nat.div_add_mod', hg]
      rfl
    | gt =>
      obtain ⟨hg, h⟩ := mz_cond h
      have hg := of_decide_eq_true hg
      cases h
      have h0 := mz_u1 (p := pc) (hb 0 _ rfl)
      have h1 := mz_u1 (hb 1 _ rfl)
      have h2 := mz_u1 (hb 2 _ rfl)
      unfold decode Reader.runAt Decoder.instr
      show Except.bind (Except.bind ((Reader.u1 : Reader DecodeError Nat) code pc) _) _ = _
      rw [h0]
      show Except.bind (Except.bind (Except.bind (Except.bind ((Reader.u1 : Reader DecodeError Nat) code (pc + 1)) _) _) _) _ = _
      rw [h1]
      show Except.bind (Except.bind (Except.bind (Except.bind ((Reader.u1 : Reader DecodeError Nat) code (pc + 2)) _) _) _) _ = _
      rw [h2]
      show Except.ok (Instr.if_icmp .gt (Reader.signed 16 (mz_sn o / 256 * 256 + mz_sn o % 256)), pc + 3 - pc) = _
      rw [Nat.add_sub_cancel_left, Nat.div_add_mod', hg]
      rfl
    | le =>
      obtain ⟨hg, h⟩ := mz_cond h
      have hg := of_decide_eq_true hg
      cases h
      have h0 := mz_u1 (p := pc) (hb 0 _ rfl)
      have h1 := mz_u1 (hb 1 _ rfl)
      have h2 := mz_u1 (hb 2 _ rfl)
      unfold decode Reader.runAt Decoder.instr
      show Except.bind (Except.bind ((Reader.u1 : Reader DecodeError Nat) code pc) _) _ = _
      rw [h0]
      show Except.bind (Except.bind (Except.bind (Except.bind ((Reader.u1 : Reader DecodeError Nat) code (pc + 1)) _) _) _) _ = _
      rw [h1]
      show Except.bind (Except.bind (Except.bind (Except.bind ((Reader.u1 : Reader DecodeError Nat) code (pc + 2)) _) _) _) _ = _
      rw [h2]
      show Except.ok (Instr.if_icmp .le (Reader.signed 16 (mz_sn o / 256 * 256 + mz_sn o % 256)), pc + 3 - pc) = _
      rw [Nat.add_sub_cancel_left, Nat.div_add_mod', hg]
      rfl
  | iinc x o =>
    obtain ⟨hg, h⟩ := mz_cond h
    have hg := of_decide_eq_true hg
    cases h
    have h0 := mz_u1 (p := pc) (hb 0 _ rfl)
    have h1 := mz_u1 (hb 1 _ rfl)
    have h2 := mz_u1 (hb 2 _ rfl)
    unfold decode Reader.runAt Decoder.instr
    show Except.bind (Except.bind ((Reader.u1 : Reader DecodeError Nat) code pc) _) _ = _
    rw [h0]
    show Except.bind (Except.bind ((Reader.u1 : Reader DecodeError Nat) code (pc + 1)) _) _ = _
    rw [h1]
    show Except.bind (Except.bind (Except.bind ((Reader.u1 : Reader DecodeError Nat) code (pc + 2)) _) _) _ = _
    rw [h2]
    show Except.ok (Instr.iinc x (Reader.signed 8 (o % 256).toNat), pc + 3 - pc) = _
    rw [Nat.add_sub_cancel_left, hg]
    rfl
  | _ => cases h

def mz_pfx : List Nat → List Nat → Option (List Nat)
  | [], r => some r
  | a :: l, b :: r => cond (a == b) (mz_pfx l r) none
  | _ :: _, [] => none
theorem mz_pre_ok : ∀ {l bs r : List Nat}, mz_pfx l bs = some r → bs = l ++ r
  | [], bs, r, h => by cases h; rfl
  | a :: l, [], r, h => by cases h
  | a :: l, b :: bs, r, h => by
    unfold mz_pfx at h
    obtain ⟨h1, h2⟩ := mz_cond h
    have h3 : a = b := by simpa using h1
    rw [h3, mz_pre_ok h2]
    rfl
/-- the instructions stand one behind the other, and the bytes are theirs -/
def mz_wk (code : ByteArray) : mz_K → Nat → List Nat → Bool
  | [], _, bs => bs.isEmpty
  | q :: r, pc, bs => q.1 == pc && match mz_enc q.2.1 with
    | some l => q.2.2.1 == l.length && match mz_pfx l bs with
      | some bs' => mz_wk code r (pc + l.length) bs'
      | none => false
    | none => decide (decode code q.1 = .ok (q.2.1, q.2.2.1)) && mz_wk code r (pc + q.2.2.1) (bs.drop q.2.2.1)
theorem mz_wk_ok {code : ByteArray} : ∀ {K : mz_K} {pc : Nat} {bs : List Nat}, (∀ (i v : Nat), bs[i]? = some v → mz_b code (pc + i) = some v) → mz_wk code K pc bs = true → ∀ q ∈ K, decode code q.1 = .ok (q.2.1, q.2.2.1) := by
  intro K
  induction K with
  | nil =>
    intro pc bs hb h q hq
    cases hq
  | cons a K ih =>
    intro pc bs hb h q hq
    unfold mz_wk at h
    rw [Bool.and_eq_true] at h
    have hpc : a.1 = pc := by simpa using h.1
    have h2 := h.2
    split at h2
    · rename_i l hl
      rw [Bool.and_eq_true] at h2
      have hlen : a.2.2.1 = l.length := by simpa using h2.1
      have h3 := h2.2
      split at h3
      · rename_i bs' hp
        have hbs := mz_pre_ok hp
        subst hbs
        rcases List.mem_cons.mp hq with rfl | hq
        · rw [hlen]
          exact mz_enc_ok hl (fun i v hv => by
            rw [hpc]
            exact hb i v (by rw [List.getElem?_append_left (List.getElem?_eq_some_iff.mp hv).1]; exact hv))
        · exact ih (fun i v hv => by
            rw [Nat.add_assoc]
            exact hb (l.length + i) v (by rw [List.getElem?_append_right (Nat.le_add_right _ _), Nat.add_sub_cancel_left]; exact hv)) h3 q hq
      · cases h3
    · rw [Bool.and_eq_true] at h2
      rcases List.mem_cons.mp hq with rfl | hq
      · exact of_decide_eq_true h2.1
      · exact ih (fun i v hv => by
          rw [Nat.add_assoc]
          exact hb (a.2.2.1 + i) v (by rw [← List.getElem?_drop]; exact hv)) h2.2 q hq
def mz_bs (code : ByteArray) : List Nat := code.data.toList.map (fun v => v.toNat)
theorem mz_bs_ok {code : ByteArray} (i v : Nat) (h : (mz_bs code)[i]? = some v) : mz_b code (0 + i) = some v := by
  rw [Nat.zero_add]
  unfold mz_bs at h
  rw [List.getElem?_map] at h
  unfold mz_b
  cases hx : code.data.toList[i]? with
  | none => rw [hx] at h; cases h
  | some z =>
    rw [hx] at h
    cases h
    have hlt : i < code.size := by
      have h0 := (List.getElem?_eq_some_iff.mp hx).1
      rw [Array.length_toList] at h0
      exact h0
    rw [dif_pos hlt]
    have hz : code[i] = z := by
      have h2 := (List.getElem?_eq_some_iff.mp hx).2
      rw [← h2]
      rfl
    rw [hz]
theorem mz_dec_ok {code : ByteArray} {K : mz_K} (h : mz_wk code K 0 (mz_bs code) = true) : ∀ q ∈ K, decode code q.1 = .ok (q.2.1, q.2.2.1) := mz_wk_ok mz_bs_ok h
end
section
set_option maxHeartbeats 4000000 in
theorem mz_w_all {p : Program} {l : Launch} {e : Env} {R : Room} {s : State} {m : MethodId} {args : Array Value} {below : List Frame} {meth : Method} {c : Code} {cells slots : Nat} {Q : State → Prop} {S0 : mz_Sh} {T0 : List (List Int32)} {T : List mz_R} {cl : List vw_C} {NM : List String} {ST : List (String × Nat × String)} {G0 : List Jvm.Cond} {gt : Nat → Option Jvm.Cond} {D : va_G} {cI : ClassId} {ad : Nat → Nat} {A : Nat → Prop} {nL Ln : Nat} {xs : Nat → Int32} {own : String} {cc : ByteArray} (F : mz_Fix p R s m args c cells slots S0 T0 T cl NM ST G0 gt D cI ad A nL Ln xs own cc) {pc : Nat} {L : List (Option Value)} {S : List Value} {mem : mz_M} {f : mz_I} {c1 : mz_C} {ins : Instr} {len : Nat} (hd : decode cc pc = .ok (ins, len)) (hlen : (len == mz_ln ins || mz_sw ins) = true) (hl : mz_lk T cl NM ST gt own ins f = true) (hs : mz_step S0 T0 ins f pc L S mem = some (.inl c1)) (k : mz_Z p l e R s m args below meth c cells slots Q S0 cl D cI ad A nL Ln xs c1.1 c1.2.1 c1.2.2.1 c1.2.2.2) : mz_Z p l e R s m args below meth c cells slots Q S0 cl D cI ad A nL Ln xs pc L S mem := by
  cases ins with
  | iadd =>
    obtain rfl : len = 1 := by simpa [mz_ln, mz_sw] using hlen
    exact mz_w_iadd F hd hl hs k
  | isub =>
    obtain rfl : len = 1 := by simpa [mz_ln, mz_sw] using hlen
    exact mz_w_isub F hd hl hs k
  | imul =>
    obtain rfl : len = 1 := by simpa [mz_ln, mz_sw] using hlen
    exact mz_w_imul F hd hl hs k
  | idiv =>
    obtain rfl : len = 1 := by simpa [mz_ln, mz_sw] using hlen
    exact mz_w_idiv F hd hl hs k
  | irem =>
    obtain rfl : len = 1 := by simpa [mz_ln, mz_sw] using hlen
    exact mz_w_irem F hd hl hs k
  | ineg =>
    obtain rfl : len = 1 := by simpa [mz_ln, mz_sw] using hlen
    exact mz_w_ineg F hd hl hs k
  | iand =>
    obtain rfl : len = 1 := by simpa [mz_ln, mz_sw] using hlen
    exact mz_w_iand F hd hl hs k
  | ior =>
    obtain rfl : len = 1 := by simpa [mz_ln, mz_sw] using hlen
    exact mz_w_ior F hd hl hs k
  | ixor =>
    obtain rfl : len = 1 := by simpa [mz_ln, mz_sw] using hlen
    exact mz_w_ixor F hd hl hs k
  | ishl =>
    obtain rfl : len = 1 := by simpa [mz_ln, mz_sw] using hlen
    exact mz_w_ishl F hd hl hs k
  | ishr =>
    obtain rfl : len = 1 := by simpa [mz_ln, mz_sw] using hlen
    exact mz_w_ishr F hd hl hs k
  | iushr =>
    obtain rfl : len = 1 := by simpa [mz_ln, mz_sw] using hlen
    exact mz_w_iushr F hd hl hs k
  | land =>
    obtain rfl : len = 1 := by simpa [mz_ln, mz_sw] using hlen
    exact mz_w_land F hd hl hs k
  | lor =>
    obtain rfl : len = 1 := by simpa [mz_ln, mz_sw] using hlen
    exact mz_w_lor F hd hl hs k
  | lshl =>
    obtain rfl : len = 1 := by simpa [mz_ln, mz_sw] using hlen
    exact mz_w_lshl F hd hl hs k
  | lshr =>
    obtain rfl : len = 1 := by simpa [mz_ln, mz_sw] using hlen
    exact mz_w_lshr F hd hl hs k
  | lushr =>
    obtain rfl : len = 1 := by simpa [mz_ln, mz_sw] using hlen
    exact mz_w_lushr F hd hl hs k
  | i2l =>
    obtain rfl : len = 1 := by simpa [mz_ln, mz_sw] using hlen
    exact mz_w_i2l F hd hl hs k
  | l2i =>
    obtain rfl : len = 1 := by simpa [mz_ln, mz_sw] using hlen
    exact mz_w_l2i F hd hl hs k
  | i2b =>
    obtain rfl : len = 1 := by simpa [mz_ln, mz_sw] using hlen
    exact mz_w_i2b F hd hl hs k
  | i2s =>
    obtain rfl : len = 1 := by simpa [mz_ln, mz_sw] using hlen
    exact mz_w_i2s F hd hl hs k
  | i2c =>
    obtain rfl : len = 1 := by simpa [mz_ln, mz_sw] using hlen
    exact mz_w_i2c F hd hl hs k
  | dup =>
    obtain rfl : len = 1 := by simpa [mz_ln, mz_sw] using hlen
    exact mz_w_dup F hd hl hs k
  | dup_x1 =>
    obtain rfl : len = 1 := by simpa [mz_ln, mz_sw] using hlen
    exact mz_w_dup_x1 F hd hl hs k
  | dup2 =>
    obtain rfl : len = 1 := by simpa [mz_ln, mz_sw] using hlen
    exact mz_w_dup2 F hd hl hs k
  | pop =>
    obtain rfl : len = 1 := by simpa [mz_ln, mz_sw] using hlen
    exact mz_w_pop F hd hl hs k
  | arraylength =>
    obtain rfl : len = 1 := by simpa [mz_ln, mz_sw] using hlen
    exact mz_w_arraylength F hd hl hs k
  | iaload =>
    obtain rfl : len = 1 := by simpa [mz_ln, mz_sw] using hlen
    exact mz_w_iaload F hd hl hs k
  | iastore =>
    obtain rfl : len = 1 := by simpa [mz_ln, mz_sw] using hlen
    exact mz_w_iastore F hd hl hs k
  | baload =>
    obtain rfl : len = 1 := by simpa [mz_ln, mz_sw] using hlen
    exact mz_w_baload F hd hl hs k
  | iconst n =>
    obtain rfl : len = 1 := by simpa [mz_ln, mz_sw] using hlen
    exact mz_w_iconst F hd hl hs k
  | iload_n n =>
    obtain rfl : len = 1 := by simpa [mz_ln, mz_sw] using hlen
    exact mz_w_iload_n F hd hl hs k
  | aload_n n =>
    obtain rfl : len = 1 := by simpa [mz_ln, mz_sw] using hlen
    exact mz_w_aload_n F hd hl hs k
  | lload_n n =>
    obtain rfl : len = 1 := by simpa [mz_ln, mz_sw] using hlen
    exact mz_w_lload_n F hd hl hs k
  | istore_n n =>
    obtain rfl : len = 1 := by simpa [mz_ln, mz_sw] using hlen
    exact mz_w_istore_n F hd hl hs k
  | astore_n n =>
    obtain rfl : len = 1 := by simpa [mz_ln, mz_sw] using hlen
    exact mz_w_astore_n F hd hl hs k
  | bipush n =>
    obtain rfl : len = 2 := by simpa [mz_ln, mz_sw] using hlen
    exact mz_w_bipush F hd hl hs k
  | ldc n =>
    obtain rfl : len = 2 := by simpa [mz_ln, mz_sw] using hlen
    exact mz_w_ldc F hd hl hs k
  | iload n =>
    obtain rfl : len = 2 := by simpa [mz_ln, mz_sw] using hlen
    exact mz_w_iload F hd hl hs k
  | aload n =>
    obtain rfl : len = 2 := by simpa [mz_ln, mz_sw] using hlen
    exact mz_w_aload F hd hl hs k
  | istore n =>
    obtain rfl : len = 2 := by simpa [mz_ln, mz_sw] using hlen
    exact mz_w_istore F hd hl hs k
  | astore n =>
    obtain rfl : len = 2 := by simpa [mz_ln, mz_sw] using hlen
    exact mz_w_astore F hd hl hs k
  | sipush n =>
    obtain rfl : len = 3 := by simpa [mz_ln, mz_sw] using hlen
    exact mz_w_sipush F hd hl hs k
  | ldc_w n =>
    obtain rfl : len = 3 := by simpa [mz_ln, mz_sw] using hlen
    exact mz_w_ldc_w F hd hl hs k
  | ldc2_w n =>
    obtain rfl : len = 3 := by simpa [mz_ln, mz_sw] using hlen
    exact mz_w_ldc2_w F hd hl hs k
  | getfield n =>
    obtain rfl : len = 3 := by simpa [mz_ln, mz_sw] using hlen
    exact mz_w_getfield F hd hl hs k
  | putfield n =>
    obtain rfl : len = 3 := by simpa [mz_ln, mz_sw] using hlen
    exact mz_w_putfield F hd hl hs k
  | getstatic n =>
    obtain rfl : len = 3 := by simpa [mz_ln, mz_sw] using hlen
    exact mz_w_getstatic F hd hl hs k
  | invokestatic n =>
    obtain rfl : len = 3 := by simpa [mz_ln, mz_sw] using hlen
    exact mz_w_invokestatic F hd hl hs k
  | goto n =>
    obtain rfl : len = 3 := by simpa [mz_ln, mz_sw] using hlen
    exact mz_w_goto F hd hl hs k
  | iinc i n =>
    obtain rfl : len = 3 := by simpa [mz_ln, mz_sw] using hlen
    exact mz_w_iinc F hd hl hs k
  | ifCond b o =>
    obtain rfl : len = 3 := by simpa [mz_ln, mz_sw] using hlen
    cases b with
    | eq => exact mz_w_if_eq F hd hl hs k
    | ne => exact mz_w_if_ne F hd hl hs k
    | lt => exact mz_w_if_lt F hd hl hs k
    | ge => exact mz_w_if_ge F hd hl hs k
    | gt => exact mz_w_if_gt F hd hl hs k
    | le => exact mz_w_if_le F hd hl hs k
  | if_icmp b o =>
    obtain rfl : len = 3 := by simpa [mz_ln, mz_sw] using hlen
    cases b with
    | eq => exact mz_w_icmp_eq F hd hl hs k
    | ne => exact mz_w_icmp_ne F hd hl hs k
    | lt => exact mz_w_icmp_lt F hd hl hs k
    | ge => exact mz_w_icmp_ge F hd hl hs k
    | gt => exact mz_w_icmp_gt F hd hl hs k
    | le => exact mz_w_icmp_le F hd hl hs k
  | tableswitch d lo hi offs => exact mz_w_tableswitch F hd hl hs k
  | lookupswitch d ps => exact mz_w_lookupswitch F hd hl hs k
  | invokevirtual x =>
    simp only [mz_step] at hs
    obtain ⟨-, hs⟩ := mz_cond hs
    cases hs
  | ireturn =>
    simp only [mz_step] at hs
    split at hs <;> cases hs
  | areturn =>
    simp only [mz_step] at hs
    split at hs <;> cases hs
  | return_ =>
    simp only [mz_step] at hs
    split at hs <;> cases hs
  | _ => cases hs


/-- how a method ends -/
def mz_end (ins : Instr) (S : List Value) (r : Option Value) : Prop := (ins = .ireturn ∧ ∃ x, S = [.int x] ∧ r = some (.int x)) ∨ (ins = .areturn ∧ ∃ x, S = [.ref x] ∧ r = some (.ref x)) ∨ (ins = .return_ ∧ S = [] ∧ r = none)
theorem mz_bin {α : Type} {a : α} {X : Option α} (h : X = some a) {Y : Option α} (e : X = Y) : Y = some a := e ▸ h
set_option maxHeartbeats 4000000 in
theorem mz_step_end {S0 : mz_Sh} {T0 : List (List Int32)} {ins : Instr} {f : mz_I} {pc : Nat} {L : List (Option Value)} {S : List Value} {m : mz_M} {r : Option Value} (h : mz_step S0 T0 ins f pc L S m = some (.inr (.inl r))) : mz_end ins S r := by
  cases ins with
  | ireturn =>
    simp only [mz_step] at h
    split at h
    · cases h
      exact Or.inl ⟨rfl, _, rfl, rfl⟩
    · cases h
  | areturn =>
    simp only [mz_step] at h
    split at h
    · cases h
      exact Or.inr (Or.inl ⟨rfl, _, rfl, rfl⟩)
    · cases h
  | return_ =>
    simp only [mz_step] at h
    split at h
    · cases h
      exact Or.inr (Or.inr ⟨rfl, rfl, rfl⟩)
    · cases h
  | ifCond b o =>
    cases b <;>
    · simp only [mz_step, mz_jump] at h
      split at h
      · obtain ⟨-, h⟩ := mz_cond h
        cases h
      · cases h
  | if_icmp b o =>
    cases b <;>
    · simp only [mz_step, mz_jump] at h
      split at h
      · obtain ⟨-, h⟩ := mz_cond h
        cases h
      · cases h
  | _ =>
    first
      | (cases h; done)
      | (simp only [mz_step, mz_next] at h
         repeat' (first | (cases h; done) | (obtain ⟨-, h⟩ := mz_cond h; done) | split at h)
         done)
      | (exfalso
         simp only [mz_step, mz_next, cond_eq_ite] at h
         repeat' (first | (cases h; done) | split at h))
theorem mz_step_call {S0 : mz_Sh} {T0 : List (List Int32)} {ins : Instr} {f : mz_I} {pc : Nat} {L : List (Option Value)} {S : List Value} {m : mz_M} {a : Nat} (h : mz_step S0 T0 ins f pc L S m = some (.inr (.inr a))) : f.2.1 = a ∧ ((∃ x, ins = .invokevirtual x) ∨ (∃ x, ins = .invokestatic x ∧ (f.1 = 2 ∨ f.1 = 4))) := by
  cases ins with
  | invokevirtual x =>
    simp only [mz_step] at h
    obtain ⟨-, h⟩ := mz_cond h
    cases h
    exact ⟨rfl, Or.inl ⟨x, rfl⟩⟩
  | invokestatic x =>
    simp only [mz_step, mz_next, cond_eq_ite] at h
    split at h
    · rename_i hf
      cases h
      exact ⟨rfl, Or.inr ⟨x, rfl, Or.inl hf⟩⟩
    · rename_i hf
      cases h
      exact ⟨rfl, Or.inr ⟨x, rfl, Or.inr hf⟩⟩
    all_goals
      exfalso
      repeat' (first | (cases h; done) | split at h)
  | ifCond b o =>
    exfalso
    cases b <;>
    · simp only [mz_step, mz_jump] at h
      split at h
      · obtain ⟨-, h⟩ := mz_cond h
        cases h
      · cases h
  | if_icmp b o =>
    exfalso
    cases b <;>
    · simp only [mz_step, mz_jump] at h
      split at h
      · obtain ⟨-, h⟩ := mz_cond h
        cases h
      · cases h
  | _ =>
    first
      | (cases h; done)
      | (exfalso
         simp only [mz_step, mz_next, cond_eq_ite] at h
         repeat' (first | (cases h; done) | split at h))
/-- a method's record is in order -/
def mz_Rok (T : List mz_R) (cl : List vw_C) (NM : List String) (ST : List (String × Nat × String)) (G0 : List Jvm.Cond) (gt : Nat → Option Jvm.Cond) (r : mz_R) : Prop :=
  (plainName r.2.1.cls = true ∧ (r.2.1.cls ≠ "java/lang/invoke/MethodHandle" ∧ r.2.1.cls ≠ "java/lang/invoke/VarHandle") ∧ (parseMethodDescriptor r.2.1.desc).map (fun d => d.parameters.length) = some (cond r.2.2.2.2.2.1 r.2.2.2.2.2.2.1 (r.2.2.2.2.2.2.1 - 1)) ∧ r.2.2.2.1 ≤ 45) ∧
  (Jvm.Cond.code r.2.1 r.2.2.1 r.2.2.2.1 r.2.2.2.2.1 ∈ mz_G G0 ∧ Jvm.Cond.initialized r.2.1.cls ∈ mz_G G0) ∧
  (r.2.2.2.2.2.1 = true → Jvm.Cond.static r.2.1 ∈ mz_G G0) ∧
  (r.2.2.2.2.2.1 = false → Jvm.Cond.instanceMethod r.2.1 ∈ mz_G G0 ∧ Jvm.Cond.selects r.2.1.cls r.2.1 r.2.1 ∈ mz_G G0 ∧ ((r.1 = 12 ∧ r.2.1.cls = "java/lang/String") ∨ (r.1 ≠ 12 ∧ ∃ q : vw_C, cl[r.1]? = some q ∧ q.1 = r.2.1.cls))) ∧
  (∀ q ∈ r.2.2.2.2.2.2.2, mz_eok T cl NM ST gt r.2.1.cls r.2.2.1 q = true)
def mz_ws (G0 : List Jvm.Cond) (r : mz_R) : List Jvm.Cond := .code r.2.1 r.2.2.1 r.2.2.2.1 r.2.2.2.2.1 :: mz_G G0
def mz_rm (d : Nat) : Room := { frames := d + 1, cells := 0, slots := 0, locals := 64 * (d + 1) }
def mz_A (S0 : mz_Sh) (ad : Nat → Nat) (sz : Nat) : Nat → Prop := fun q => (∃ i, i < S0.length ∧ ad i = q) ∨ sz ≤ q
def mz_Pc (S0 : mz_Sh) (T0 : List (List Int32)) (cl : List vw_C) (NM : List String) (ST : List (String × Nat × String)) (G0 : List Jvm.Cond) (D : va_G) (cI : ClassId) (ad : Nat → Nat) (Ln : Nat) (xs : Nat → Int32) (sz : Nat) (as : List Value) (mem : mz_M) : Array Value → State → Prop := va_Pc (as.map (mz_cvv ad)) (fun U => U.heap.size = sz ∧ va_K D cl [(cI, .int)] U ∧ va_P D cl (mz_w S0 cI ad mem) U.heap ∧ va_D (fun _ => True) (mz_w S0 cI ad mem) ∧ mz_rok T0 NM ST G0 ad Ln xs (mz_A S0 ad sz) U U.heap ∧ mz_scr xs Ln mem)
def mz_Qc (S0 : mz_Sh) (cl : List vw_C) (D : va_G) (cI : ClassId) (ad : Nat → Nat) (Ln : Nat) (xs : Nat → Int32) (sz : Nat) (r : Option Value) (mem : mz_M) : Array Value → State → Outcome → State → Prop := fun _ st o t => o = .returned (r.map (mz_cvv ad)) ∧ va_P D cl (mz_w S0 cI ad mem) t.heap ∧ va_F (mz_A S0 ad sz) st t ∧ mz_scr xs Ln mem
theorem mz_Pc_blind {S0 : mz_Sh} {T0 : List (List Int32)} {cl : List vw_C} {NM : List String} {ST : List (String × Nat × String)} {G0 : List Jvm.Cond} {D : va_G} {cI : ClassId} {ad : Nat → Nat} {Ln : Nat} {xs : Nat → Int32} {sz : Nat} {as : List Value} {mem : mz_M} : FrameBlind (mz_Pc S0 T0 cl NM ST G0 D cI ad Ln xs sz as mem) := by
  intro a U g mk q
  obtain ⟨q0, q1, qK, qP, qD, qR, qs⟩ := q
  exact ⟨q0, q1, va_K.moved (u := U) (U := U.calling g mk a) (Vm.Alike.refl U.vm) qK, qP, qD, mz_rok.same (u := U) (U := U.calling g mk a) rfl qR, qs⟩
theorem mz_sl (ad : Nat → Nat) (as : List Value) : lg_sl (as.map (mz_cvv ad)) = (as.flatMap fun v => cond (v.category == 2) [some v, none] [some v]).map (fun o => match o with | some v => Slot.val (mz_cvv ad v) | none => Slot.second) := by
  unfold lg_sl
  induction as with
  | nil => rfl
  | cons v as ih =>
    simp only [List.map_cons, List.flatMap_cons, List.map_append]
    rw [ih, mz_cvv_cat]
    congr 1
    by_cases h : v.category = 2
    · simp [h]
    · have h1 : (v.category == 2) = false := by simpa using h
      rw [if_neg h, h1]
      rfl
theorem mz_entry {ad : Nat → Nat} {as : List Value} {n : Nat} (h : (mz_ent as n).length = n) : mz_ls ad (mz_ent as n) ((lg_sl (as.map (mz_cvv ad)) ++ List.replicate (n - (lg_sl (as.map (mz_cvv ad))).length) Slot.unset).toArray) n := by
  have hfl : (as.flatMap fun v => cond (v.category == 2) [some v, none] [some v]).length ≤ n := by
    have h1 := h
    simp only [mz_ent, List.length_append, List.length_replicate] at h1
    omega
  have hle : (lg_sl (as.map (mz_cvv ad))).length ≤ n := by
    rw [mz_sl, List.length_map]
    exact hfl
  have he := lv_entry (as.map (mz_cvv ad)) hle
  refine ⟨he.1, he.2.1, h, fun i v hi => ?_⟩
  simp only [mz_ent] at hi
  have hi2 : (as.flatMap fun v => cond (v.category == 2) [some v, none] [some v])[i]? = some (some v) := by
    by_cases hlt : i < (as.flatMap fun v => cond (v.category == 2) [some v, none] [some v]).length
    · rwa [List.getElem?_append_left hlt] at hi
    · rw [List.getElem?_append_right (by omega)] at hi
      have h2 := List.mem_of_getElem? hi
      have h3 := List.eq_of_mem_replicate h2
      cases h3
  have hlt : i < (lg_sl (as.map (mz_cvv ad))).length := by
    rw [mz_sl, List.length_map]
    exact (List.getElem?_eq_some_iff.mp hi2).1
  rw [List.getElem?_toArray, List.getElem?_append_left hlt, mz_sl, List.getElem?_map, hi2]
  rfl

def mz_Run (S0 : mz_Sh) (T0 : List (List Int32)) (T : List mz_R) (cl : List vw_C) (NM : List String) (ST : List (String × Nat × String)) (G0 : List Jvm.Cond) (gt : Nat → Option Jvm.Cond) (n : Nat) : Prop := ∀ {p : Program} {l : Launch} {e : Env} {R : Room} {s : State} {m : MethodId} {args : Array Value} {below : List Frame} {meth : Method} {c : Code} {cells slots : Nat} {Q : State → Prop} {D : va_G} {cI : ClassId} {ad : Nat → Nat} {A : Nat → Prop} {nL Ln : Nat} {xs : Nat → Int32} {own : String} {cc : ByteArray} (d : Nat) (F : mz_Fix p R s m args c cells slots S0 T0 T cl NM ST G0 gt D cI ad A nL Ln xs own cc) (hR : d + 1 ≤ R.frames ∧ 64 * (d + 1) ≤ R.locals) (K : mz_K) (hK : ∀ q ∈ K, mz_eok T cl NM ST gt own cc q = true) (pc : Nat) (L : List (Option Value)) (S : List Value) (mem : mz_M) (r : Option Value) (mem' : mz_M) (hrun : mz_x S0 T0 T n d K (pc, L, S, mem) = some (r, mem')) (kf : ∀ (ins : Instr) (pc' : Nat) (L' : List (Option Value)) (S' : List Value), decode cc pc' = .ok (ins, 1) → mz_end ins S' r → mz_Z p l e R s m args below meth c cells slots Q S0 cl D cI ad A nL Ln xs pc' L' S' mem'), mz_Z p l e R s m args below meth c cells slots Q S0 cl D cI ad A nL Ln xs pc L S mem


set_option maxHeartbeats 4000000 in
/-- a method's contract, from a run of the small machine -/
theorem mz_met {S0 : mz_Sh} {T0 : List (List Int32)} {T : List mz_R} {cl : List vw_C} {NM : List String} {ST : List (String × Nat × String)} {G0 : List Jvm.Cond} {gt : Nat → Option Jvm.Cond} {n : Nat} (IH : mz_Run S0 T0 T cl NM ST G0 gt n)
    (hE : (∀ (k : Nat) (q : vw_C), cl[k]? = some q → mz_cok G0 q) ∧ mz_sok S0 cl ∧ (∀ w ∈ mz_pw, w ∈ mz_G G0) ∧ S0.length ≤ 1000 ∧ NM.length = T0.length ∧ T0.length ≤ 1000 ∧ ∀ (i : Nat) (w : Jvm.Cond), gt i = some w → w ∈ G0)
    {rc : mz_R} (hrc : mz_Rok T cl NM ST G0 gt rc) (l : Launch) (D : va_G) (cI : ClassId) (ad : Nat → Nat) (Ln : Nat) (xs : Nat → Int32) (sz d : Nat) {as : List Value} {mem mem' : mz_M} {r : Option Value} (hent : (mz_ent as rc.2.2.2.1).length = rc.2.2.2.1) (hrun : mz_x S0 T0 T n d rc.2.2.2.2.2.2.2 (0, mz_ent as rc.2.2.2.1, [], mem) = some (r, mem')) (hfit : mz_fit rc.2.2.2.2.1 r = true) :
    Met l rc.2.1 (mz_ws G0 rc) (mz_rm d) (mz_Pc S0 T0 cl NM ST G0 D cI ad Ln xs sz as mem) (mz_Qc S0 cl D cI ad Ln xs sz r mem') 0 0 (mz_A S0 ad sz) := by
  obtain ⟨⟨hpl, -, -, -⟩, -, -, -, hcode⟩ := hrc
  refine Met.ofW (cc := rc.2.2.1) (maxL := rc.2.2.2.1) (ret := rc.2.2.2.2.1) hpl rfl ?_
  intro p e s m args below meth c s₁ B hml hv
  obtain ⟨rfl, hsz, hK, hP, hD, hRo, hscr⟩ := hv
  have hts := atoms_spec (ws := mz_ws G0 rc) B.pre
  have hown : s.vm.findClass rc.2.1.cls = some m.cls := findClass_of_methodNamed B.named
  have hlocks := B.notSynchronized
  have hret := B.returns
  have hx := B.exec
  have hb := B.bytes
  subst hsz
  have hDA : ∀ mm, va_D (mz_A S0 ad s.heap.size) (mz_w S0 cI ad mm) := fun mm => mz_D (hD.weaken (fun k q hk _ => by
    obtain ⟨h1, rfl⟩ := mz_w_in hk
    exact Or.inl ⟨k, h1, rfl⟩))
  have F : mz_Fix p (headSpec (mz_ws G0 rc) (mz_rm d)).room s m (as.map (mz_cvv ad)).toArray c 0 0 S0 T0 T cl NM ST G0 gt D cI ad (mz_A S0 ad s.heap.size) rc.2.2.2.1 Ln xs rc.2.1.cls rc.2.2.1 :=
    ⟨⟨hx, hb, hml, hown, fun w hw => hts w (List.mem_cons_of_mem _ hw)⟩, ⟨hK, hDA, fun q hq => Or.inr hq, hRo⟩, ⟨Nat.le_add_left 1 d, by show 64 ≤ 64 * (d + 1); omega, Nat.zero_le _, Nat.zero_le _⟩, hE⟩
  rw [lg_entry_eq]
  refine IH d F ⟨Nat.le_refl _, Nat.le_refl _⟩ rc.2.2.2.2.2.2.2 hcode 0 (mz_ent as rc.2.2.2.1) [] mem r mem' hrun ?_ _ s.heap [] (mz_entry hent) hP va_S.rf hscr
  intro ins pc' L' S' hdec hend ls H locs h1 h2 h3 h4
  have hfr : ∀ q ∈ locs, mz_A S0 ad s.heap.size q.base := h3.2.2
  have hq : ∀ t : State, t.heap = H → s.WarmedH t.vm → mz_Qc S0 cl D cI ad Ln xs s.heap.size r mem' (as.map (mz_cvv ad)).toArray s (.returned (r.map (mz_cvv ad))) t := fun t ht hW => ⟨rfl, by rw [ht]; exact h2, h3.F ht, h4⟩
  rcases hend with ⟨rfl, x, rfl, rfl⟩ | ⟨rfl, x, rfl, rfl⟩ | ⟨rfl, rfl, rfl⟩
  · cases hrt : rc.2.2.2.2.1 with
    | none => rw [hrt] at hfit; cases hfit
    | some ty =>
      rw [hrt] at hfit hret
      cases ty <;> first | (cases hfit; done) | skip
      · have hx1 : x = 0 := by simpa [mz_fit] using hfit
        exact W.zret hx hb hret (by rw [hx1]; rfl) hq hfr hdec
      · exact W.iret hx hb hret hq hfr hdec
      · have hx1 : x = 0 ∨ x = 1 := by simpa [mz_fit] using hfit
        exact W.zret hx hb hret (by rcases hx1 with rfl | rfl <;> rfl) hq hfr hdec
  · cases hrt : rc.2.2.2.2.1 with
    | none => rw [hrt] at hfit; cases hfit
    | some ty =>
      rw [hrt] at hfit hret
      cases ty <;> first | (cases hfit; done) | skip
      exact W.aret hx hb hret (Or.inl ⟨_, rfl⟩) (Or.inr ⟨_, rfl⟩) hq hfr hdec
  · cases hrt : rc.2.2.2.2.1 with
    | none =>
      rw [hrt] at hret
      exact W.vret hx hb hret hq hfr hdec
    | some ty => rw [hrt] at hfit; cases ty <;> cases hfit
theorem mz_fetch_in {K : mz_K} {pc : Nat} {q : mz_E} (h : mz_fetch K pc = some q) : q ∈ K ∧ q.1 = pc := by
  induction K with
  | nil => cases h
  | cons a K ih =>
    unfold mz_fetch at h
    cases hb : (a.1 == pc) with
    | true =>
      rw [hb] at h
      cases h
      exact ⟨List.mem_cons_self, by simpa using hb⟩
    | false =>
      rw [hb] at h
      obtain ⟨h1, h2⟩ := ih h
      exact ⟨List.mem_cons_of_mem _ h1, h2⟩
theorem mz_A_sub {p : Program} {R : Room} {s : State} {m : MethodId} {args : Array Value} {c : Code} {cells slots : Nat} {S0 : mz_Sh} {T0 : List (List Int32)} {T : List mz_R} {cl : List vw_C} {NM : List String} {ST : List (String × Nat × String)} {G0 : List Jvm.Cond} {gt : Nat → Option Jvm.Cond} {D : va_G} {cI : ClassId} {ad : Nat → Nat} {A : Nat → Prop} {nL Ln : Nat} {xs : Nat → Int32} {own : String} {cc : ByteArray} (F : mz_Fix p R s m args c cells slots S0 T0 T cl NM ST G0 gt D cI ad A nL Ln xs own cc) {H : Heap} {locs : List Loc} (hS : va_S A s.heap H locs) (q : Nat) (h : mz_A S0 ad H.size q) : A q := by
  rcases h with ⟨i, hi, rfl⟩ | h
  · exact (F.2.1.2.1 (fun _ _ => 0)).2 i _ (mz_w_at hi)
  · exact F.2.1.2.2.1 _ (Nat.le_trans hS.1 h)
/-- behind a call -/
theorem mz_back {p : Program} {l : Launch} {e : Env} {R : Room} {s : State} {m : MethodId} {args : Array Value} {below : List Frame} {meth : Method} {c : Code} {cells slots : Nat} {Q : State → Prop} {S0 : mz_Sh} {T0 : List (List Int32)} {T : List mz_R} {cl : List vw_C} {NM : List String} {ST : List (String × Nat × String)} {G0 : List Jvm.Cond} {gt : Nat → Option Jvm.Cond} {D : va_G} {cI : ClassId} {ad : Nat → Nat} {A : Nat → Prop} {nL Ln : Nat} {xs : Nat → Int32} {own : String} {cc : ByteArray} (F : mz_Fix p R s m args c cells slots S0 T0 T cl NM ST G0 gt D cI ad A nL Ln xs own cc) {pc : Nat} {L : List (Option Value)} {S rest : List Value} {mem' : mz_M} {r : Option Value} {args' : Array Value} {ls : Array Slot} {H : Heap} {locs : List Loc} (h1 : mz_ls ad L ls nL) (h3 : va_S A s.heap H locs)
    (hr : va_Run p l e R s m args below meth c H locs cells slots 0 0 (F0 m pc ls (S.map (mz_cvv ad))) (rest.map (mz_cvv ad)) (mz_Qc S0 cl D cI ad Ln xs H.size r mem' args') (mz_A S0 ad H.size))
    (k : mz_Z p l e R s m args below meth c cells slots Q S0 cl D cI ad A nL Ln xs (pc + 3) L (r.toList ++ rest) mem') : W p l e R s m args below meth c H locs cells slots Q (F0 m pc ls (S.map (mz_cvv ad))) := by
  intro T1 hT X
  obtain ⟨v, st₀, t, T', L', h0, X', hL, e1, e2, ⟨hv, hP1, hF1, hsc⟩, st⟩ := hr T1 hT X
  have hve : v = r.map (mz_cvv ad) := Outcome.returned.inj hv
  subst hve
  have hS1 : va_S A s.heap t.heap (locs ++ L') := by
    refine ⟨?_, fun q hq hA => ?_, fun x hx => ?_⟩
    · have := hF1.1
      rw [h0] at this
      exact Nat.le_trans h3.1 this
    · have h5 := hF1.2 q (by rw [h0]; exact Nat.lt_of_lt_of_le hq h3.1) (fun z => hA (mz_A_sub F h3 q z))
      rw [h5, h0]
      exact h3.2.1 q hq hA
    · rcases List.mem_append.mp hx with hx | hx
      · exact h3.2.2 x hx
      · exact mz_A_sub F h3 _ (hL x hx)
  have hk := k ls t.heap (locs ++ L') h1 hP1 hS1 hsc
  obtain ⟨t2, a1, b1⟩ := hk T' e1 X'
  refine ⟨t2, st t2 ?_, b1⟩
  have e3 : (r.toList ++ rest).map (mz_cvv ad) = (r.map (mz_cvv ad)).toList ++ rest.map (mz_cvv ad) := by cases r <;> rfl
  rw [e3] at a1
  exact a1
/-- the callee's start -/
theorem mz_pre {p : Program} {R : Room} {s : State} {m : MethodId} {args : Array Value} {c : Code} {cells slots : Nat} {S0 : mz_Sh} {T0 : List (List Int32)} {T : List mz_R} {cl : List vw_C} {NM : List String} {ST : List (String × Nat × String)} {G0 : List Jvm.Cond} {gt : Nat → Option Jvm.Cond} {D : va_G} {cI : ClassId} {ad : Nat → Nat} {A : Nat → Prop} {nL Ln : Nat} {xs : Nat → Int32} {own : String} {cc : ByteArray} (F : mz_Fix p R s m args c cells slots S0 T0 T cl NM ST G0 gt D cI ad A nL Ln xs own cc) {as : List Value} {mem : mz_M} {H : Heap} {locs : List Loc} (h2 : va_P D cl (mz_w S0 cI ad mem) H) (h3 : va_S A s.heap H locs) (h4 : mz_scr xs Ln mem) : PreS s H (mz_Pc S0 T0 cl NM ST G0 D cI ad Ln xs H.size as mem) (as.map (mz_cvv ad)) := by
  refine ⟨mz_Pc_blind, fun U hU hW => ⟨rfl, by rw [hU], va_K.moved hW.alike F.2.1.1, by rw [hU]; exact h2, (F.2.1.2.1 mem).weaken (fun _ _ _ _ => trivial), ?_, h4⟩⟩
  rw [hU]
  exact mz_rok.kept (mz_rok.warm hW F.2.1.2.2.2) h3.1 h3.2.1 (fun q h => mz_A_sub F h3 q h)
theorem mz_split (S : List Value) (n : Nat) : S = (S.take n).reverse.reverse ++ S.drop n := by rw [List.reverse_reverse, List.take_append_drop]
set_option maxHeartbeats 4000000 in
theorem mz_run_all {S0 : mz_Sh} {T0 : List (List Int32)} {T : List mz_R} {cl : List vw_C} {NM : List String} {ST : List (String × Nat × String)} {G0 : List Jvm.Cond} {gt : Nat → Option Jvm.Cond} (hT : ∀ (a : Nat) (rc : mz_R), T[a]? = some rc → mz_Rok T cl NM ST G0 gt rc) : ∀ n, mz_Run S0 T0 T cl NM ST G0 gt n := by
  intro n
  induction n with
  | zero =>
    intro p l e R s m args below meth c cells slots Q D cI ad A nL Ln xs own cc d F hR K hK pc L S mem r mem' hrun kf
    cases hrun
  | succ n ih =>
    intro p l e R s m args below meth c cells slots Q D cI ad A nL Ln xs own cc d F hR K hK pc L S mem r mem' hrun kf
    unfold mz_x at hrun
    split at hrun
    · cases hrun
    · rename_i q hq
      obtain ⟨hqK, hqp⟩ := mz_fetch_in hq
      have hok := hK q hqK
      obtain ⟨qp, ins, len, f⟩ := q
      simp only at hqp
      subst hqp
      unfold mz_eok at hok
      simp only [Bool.and_eq_true] at hok
      obtain ⟨⟨hd, hlen⟩, hl⟩ := hok
      have hd := of_decide_eq_true hd
      simp only at hd hlen hl hrun
      split at hrun
      · cases hrun
      · rename_i c1 hs
        exact mz_w_all F hd hlen hl hs (ih d F hR K hK c1.1 c1.2.1 c1.2.2.1 c1.2.2.2 r mem' hrun kf)
      · rename_i r1 hs
        cases hrun
        have hend := mz_step_end hs
        have hl1 : len = 1 := by
          rcases hend with ⟨rfl, -⟩ | ⟨rfl, -⟩ | ⟨rfl, -⟩ <;> simpa [mz_ln, mz_sw] using hlen
        subst hl1
        exact kf ins qp L S hd hend
      · rename_i a hs
        split at hrun
        · rename_i rc d1 hrc
          obtain ⟨hcal, hrun⟩ := mz_cond hrun
          split at hrun
          · rename_i r1 m1 hin
            obtain ⟨hfit, hrun⟩ := mz_cond hrun
            have hRok := hT a rc hrc
            obtain ⟨hfa, hins⟩ := mz_step_call hs
            unfold mz_cal at hcal
            simp only [Bool.and_eq_true, beq_iff_eq] at hcal
            obtain ⟨⟨⟨c1, c2⟩, c3⟩, c4⟩ := hcal
            have c1 := of_decide_eq_true c1
            have c2 := of_decide_eq_true c2
            have hgo := ih (d1 + 1) F hR K hK (qp + 3) L (r1.toList ++ S.drop rc.2.2.2.2.2.2.1) m1 r mem' hrun kf
            have hlenA : (S.take rc.2.2.2.2.2.2.1).reverse.length = rc.2.2.2.2.2.2.1 := by rw [List.length_reverse, List.length_take]; omega
            have hroom : (mz_rm d1).frames + 1 ≤ R.frames ∧ 8 + (rc.2.2.2.1 + 11) + (mz_rm d1).locals ≤ R.locals := by
              have h45 := hRok.1.2.2.2
              refine ⟨hR.1, ?_⟩
              show 8 + (rc.2.2.2.1 + 11) + 64 * (d1 + 1) ≤ R.locals
              have := hR.2
              omega
            have hcodeG := hRok.2.1.1
            have hiniG := hRok.2.1.2
            have hgw : ∀ w ∈ mz_ws G0 rc, w ∈ mz_G G0 ∧ ((w.onTables && w.keeps) = true ∨ ∃ ty, w = .arrayClass ty) := by
              intro w hw
              rcases List.mem_cons.mp hw with rfl | hw
              · exact ⟨hcodeG, mz_G_good hcodeG⟩
              · exact ⟨hw, mz_G_good hw⟩
            generalize hasd : (S.take rc.2.2.2.2.2.2.1).reverse = as at c3 c4 hin hlenA
            have hSs : S = as.reverse ++ S.drop rc.2.2.2.2.2.2.1 := by rw [← hasd]; exact mz_split _ _
            generalize hrest : S.drop rc.2.2.2.2.2.2.1 = rest at hgo c2 hSs
            intro ls H locs h1 h2 h3 h4
            have hM := mz_met ih F.2.2.2 hRok l D cI ad Ln xs H.size d1 c4 hin hfit
            have hpre := mz_pre F (as := as) h2 h3 h4
            have hWs : 2 * (F0 m qp ls (S.map (mz_cvv ad))).monitorRoom + ((rest.map (mz_cvv ad)).map fun v => v.category).sum ≤ 8 := lv_room (by rw [mz_cat_map]; exact c2)
            have hfit2 : cells + 0 ≤ R.cells ∧ slots + 0 ≤ R.slots := ⟨F.2.2.1.2.2.1, F.2.2.1.2.2.2⟩
            rcases hins with ⟨x, rfl⟩ | ⟨x, rfl, hf⟩
            · obtain rfl : len = 3 := by simpa [mz_ln, mz_sw] using hlen
              simp only [mz_lk, hfa, hrc] at hl
              rw [Bool.and_eq_true] at hl
              have hst : rc.2.2.2.2.2.1 = false := by simpa using hl.1
              have hlk := mz_Gi F (of_decide_eq_true hl.2) rfl
              obtain ⟨hiG, hsG, hcls⟩ := hRok.2.2.2.1 hst
              have hdd := hRok.1.2.2.1
              rw [hst] at hdd
              unfold mz_rcv at c3
              rw [hst] at c3
              simp only [cond_false] at c3
              split at c3
              · rename_i i as1
                have hn1 : as1.length = rc.2.2.2.2.2.2.1 - 1 := by
                  have := hlenA
                  simp only [List.length_cons] at this
                  omega
                have hgV : GoodIn (mz_G G0) (wsV own x rc.2.1.cls rc.2.1 (mz_ws G0 rc)) := by
                  intro w hw
                  simp only [wsV, List.mem_append, List.mem_cons, List.not_mem_nil, or_false] at hw
                  rcases hw with (rfl | rfl | rfl | rfl) | hw
                  · exact ⟨hlk, mz_G_good hlk⟩
                  · exact ⟨hiG, mz_G_good hiG⟩
                  · exact ⟨hsG, mz_G_good hsG⟩
                  · exact ⟨hiniG, mz_G_good hiniG⟩
                  · exact hgw w hw
                have hcell : ∃ cellB : Cell, H[ad i]? = some cellB ∧ cellB.vm.isStatics = false ∧ s.vm.findClass rc.2.1.cls = some cellB.cls := by
                  rcases hcls with ⟨hc12, hcn⟩ | ⟨hc12, q, hcq, hcn⟩
                  · rw [hc12] at c3
                    obtain ⟨j, hj, rfl⟩ := mz_isT_k c3
                    rw [hcn]
                    have hv := vk_recv (i := j) F.2.1.2.2.2.2.2.2.1 hj h3
                    exact hv
                  · have h12 : (rc.1 == 12) = false := by simpa using hc12
                    rw [h12] at c3
                    simp only [cond_false] at c3
                    split at c3
                    · rename_i cc0 fs hS0
                      have hcc : cc0 = rc.1 := by simpa using c3
                      subst hcc
                      rw [← hcn]
                      exact va_recv F.2.1.1 h2 hcq (mz_w_obj hS0)
                    · cases c3
                exact mz_back F h1 h3 (va_runV (As := as1.map (mz_cvv ad)) (b := ad i) F.1 hM (cwV _ F.1.2.2.2.2 hgV rfl rfl rfl ⟨rfl, hRok.1.2.1.1, hRok.1.2.1.2, hdd⟩ hroom) ⟨hpre.1, hcell, hpre.2⟩ rfl (by rw [List.length_map]; exact hn1) h1.1 (by rw [hSs]; simp [mz_cvv]) hWs hd hfit2) hgo
              · cases c3
            · obtain rfl : len = 3 := by simpa [mz_ln, mz_sw] using hlen
              rcases hf with hf | hf
              · simp only [mz_lk, hf, hfa, hrc] at hl
                rw [Bool.and_eq_true] at hl
                have hst : rc.2.2.2.2.2.1 = true := by simpa using hl.1
                have hlk := mz_Gi F (of_decide_eq_true hl.2) rfl
                have hsG := hRok.2.2.1 hst
                have hdd := hRok.1.2.2.1
                rw [hst] at hdd
                have hgS : GoodIn (mz_G G0) (va_wsS own x rc.2.1 (mz_ws G0 rc)) := by
                  intro w hw
                  simp only [va_wsS, List.mem_append, List.mem_cons, List.not_mem_nil, or_false] at hw
                  rcases hw with (rfl | rfl | rfl) | hw
                  · exact ⟨hlk, mz_G_good hlk⟩
                  · exact ⟨hsG, mz_G_good hsG⟩
                  · exact ⟨hiniG, mz_G_good hiniG⟩
                  · exact hgw w hw
                exact mz_back F h1 h3 (va_runS (As := as.map (mz_cvv ad)) F.1 hM (va_cwS _ F.1.2.2.2.2 hgS rfl rfl rfl ⟨hRok.1.2.1.1, hRok.1.2.1.2, hdd⟩ hroom) hpre rfl (by rw [List.length_map]; exact hlenA) h1.1 (by rw [hSs]; simp) hWs hd hfit2) hgo
              · simp only [mz_lk, hf, hfa, hrc] at hl
                rw [Bool.and_eq_true] at hl
                have hst : rc.2.2.2.2.2.1 = true := by simpa using hl.1
                have hnw := F.2.1.2.2.2.2.2.2.2.2.1 _ (F.2.2.2.2.2.2.2.2.2 _ _ (of_decide_eq_true hl.2)) rfl
                have hsG := hRok.2.2.1 hst
                have hdd := hRok.1.2.2.1
                rw [hst] at hdd
                exact mz_back F h1 h3 (va_runSN (As := as.map (mz_cvv ad)) F.1 hM ⟨va_cnB _ F.1.2.2.2.2 hgw rfl rfl rfl hnw (F.1.2.2.2.2 _ hiniG) ⟨hRok.1.2.1.1, hRok.1.2.1.2, hdd⟩ hroom, F.1.2.2.2.2 _ hsG, trivial⟩ hpre rfl (by rw [List.length_map]; exact hlenA) h1.1 (by rw [hSs]; simp) hWs hd hfit2) hgo
          · cases hrun
        · cases hrun
end
section

/-! MAKING: the constructors, over a memory whose cells come one by one. A state: place, locals, stack, how many cells, which references are set, memory -/
abbrev zz_C : Type := Nat × List (Option Value) × List Value × Nat × (Nat → Nat → Bool) × mz_M
/-- a constructor: name, bytes, locals, how many values it takes, its instructions, its end -/
abbrev zz_R : Type := MethodName × ByteArray × Nat × Nat × mz_K × Nat
def mz_set0 (m : mz_M) (i : Nat) (f : Nat → Int32) : mz_M := fun a b => cond (a == i) (f b) (m a b)
def zz_un (z : Nat → Nat → Bool) (n : Nat) : Nat → Nat → Bool := fun i k => cond (i == n) false (z i k)
def zz_on (z : Nat → Nat → Bool) (i k : Nat) : Nat → Nat → Bool := fun a b => cond (a == i && b == k) true (z a b)
def zz_get (S0 : mz_Sh) (z : Nat → Nat → Bool) (m : mz_M) (n ci k i : Nat) : Option Value := cond (decide (i < n)) (match S0[i]? with
  | some (.inr (c, fs)) => cond (c == ci) (match fs[k]? with
    | some 0 => some (.int (m i k))
    | some (r + 3) => cond (z i k) (some (.ref r)) none
    | _ => none) none
  | _ => none) none
def zz_put (S0 : mz_Sh) (z : Nat → Nat → Bool) (m : mz_M) (n ci k i : Nat) (v : Value) : Option ((Nat → Nat → Bool) × mz_M) := cond (decide (i < n)) (match S0[i]? with
  | some (.inr (c, fs)) => cond (c == ci) (match fs[k]?, v with
    | some 0, .int x => some (z, mz_up m i k x)
    | some 1, .int x => cond (x == 0 || x == 1) (some (z, mz_up m i k x)) none
    | some 2, .ref r => cond (mz_isT r) (some (zz_on z i k, mz_up m i k (Int32.ofNat r))) none
    | some (a + 3), .ref r => cond (a == r) (some (zz_on z i k, m)) none
    | _, _ => none) none
  | _ => none) none
def zz_step (S0 : mz_Sh) (T0 : List (List Int32)) (ins : Instr) (f : mz_I) (pc : Nat) (L : List (Option Value)) (S : List Value) (n : Nat) (z : Nat → Nat → Bool) (m : mz_M) : Option (zz_C ⊕ Nat) := match ins with
  | .iconst _ => match mz_cv f with
    | some v => some (.inl (pc + 1, L, v :: S, n, z, m))
    | none => none
  | .bipush _ => match mz_cv f with
    | some v => some (.inl (pc + 2, L, v :: S, n, z, m))
    | none => none
  | .sipush _ => match mz_cv f with
    | some v => some (.inl (pc + 3, L, v :: S, n, z, m))
    | none => none
  | .ldc _ => match mz_cv f with
    | some (.ref a) => some (.inl (pc + 2, L, .ref a :: S, n, z, m))
    | _ => none
  | .aload_n k => match mz_ld L k.val with
    | some (.ref x) => some (.inl (pc + 1, L, .ref x :: S, n, z, m))
    | _ => none
  | .astore_n k => match S with
    | .ref x :: S => cond (decide (k.val < L.length)) (some (.inl (pc + 1, mz_st L k.val (.ref x), S, n, z, m))) none
    | _ => none
  | .istore_n k => match S with
    | .int x :: S => cond (decide (k.val < L.length)) (some (.inl (pc + 1, mz_st L k.val (.int x), S, n, z, m))) none
    | _ => none
  | .dup => match S with
    | .ref v :: S => some (.inl (pc + 1, L, .ref v :: .ref v :: S, n, z, m))
    | _ => none
  | .getfield _ => match S with
    | .ref i :: S => match zz_get S0 z m n f.2.1 f.2.2.1 i with
      | some v => some (.inl (pc + 3, L, v :: S, n, z, m))
      | none => none
    | _ => none
  | .putfield _ => match S with
    | v :: .ref i :: S => match zz_put S0 z m n f.2.1 f.2.2.1 i v with
      | some q => some (.inl (pc + 3, L, S, n, q.1, q.2))
      | none => none
    | _ => none
  | .getstatic _ => some (.inl (pc + 3, L, .ref (1000 + f.2.1) :: S, n, z, m))
  | .iastore => match S with
    | .int x :: .int j :: .ref i :: S => cond (decide (i < n)) (match S0[i]? with
      | some (.inl k) => cond (mz_in j k) (some (.inl (pc + 1, L, S, n, z, mz_up m i j.toNatClampNeg x))) none
      | _ => none) none
    | _ => none
  | .new _ => match S0[n]? with
    | some (.inr (c, _)) => cond (c == f.2.1) (some (.inl (pc + 3, L, .ref n :: S, n + 1, zz_un z n, mz_set0 m n (fun _ => 0)))) none
    | _ => none
  | .newarray .int => match S with
    | .int j :: S => match S0[n]? with
      | some (.inl k) => cond (j == Int32.ofNat k && decide (k < 100000)) (some (.inl (pc + 2, L, .ref n :: S, n + 1, z, mz_set0 m n (fun _ => 0)))) none
      | _ => none
    | _ => none
  | .invokevirtual _ => cond (f.1 == 34) (match S with
    | .ref 1004 :: S => match S0[n]?, T0[4]? with
      | some (.inl k), some t => cond (k == t.length && decide (mz_cat S ≤ 8)) (some (.inl (pc + 3, L, .ref n :: S, n + 1, z, mz_set0 m n (fun j => t.getD j 0)))) none
      | _, _ => none
    | _ => none) none
  | .checkcast _ => match S with
    | .ref i :: S => cond (decide (i < n)) (match S0[i]? with
      | some (.inl _) => some (.inl (pc + 3, L, .ref i :: S, n, z, m))
      | _ => none) none
    | _ => none
  | .invokespecial _ => match f.1 with
    | 31 => match S with
      | .ref _ :: S => cond (decide (mz_cat S ≤ 8)) (some (.inl (pc + 3, L, S, n, z, m))) none
      | _ => none
    | 32 => some (.inr f.2.1)
    | 33 => some (.inr f.2.1)
    | _ => none
  | _ => none
def zz_cal (r : zz_R) (S : List Value) : Bool := decide (r.2.2.2.1 ≤ S.length) && decide (mz_cat (S.drop r.2.2.2.1) ≤ 8) && decide (1 ≤ r.2.2.2.1) && (match (S.take r.2.2.2.1).reverse with
  | .ref _ :: _ => true
  | _ => false) && ((mz_ent (S.take r.2.2.2.1).reverse r.2.2.1).length == r.2.2.1)
/-- fuel, depth, the place where to stop -/
def zz_x (S0 : mz_Sh) (T0 : List (List Int32)) (CT : List zz_R) : Nat → Nat → Nat → mz_K → zz_C → Option zz_C
  | 0, _, _, _, _ => none
  | N + 1, d, sp, K, (pc, L, S, n, z, m) => cond (pc == sp) (some (pc, L, S, n, z, m)) (match mz_fetch K pc with
    | none => none
    | some q => match zz_step S0 T0 q.2.1 q.2.2.2 pc L S n z m with
      | none => none
      | some (.inl c) => zz_x S0 T0 CT N d sp K c
      | some (.inr a) => match CT[a]?, d with
        | some r, d + 1 => cond (zz_cal r S) (match zz_x S0 T0 CT N d r.2.2.2.2.2 r.2.2.2.2.1 (0, mz_ent (S.take r.2.2.2.1).reverse r.2.2.1, [], n, z, m) with
          | some (_, _, [], n', z', m') => zz_x S0 T0 CT N (d + 1) sp K (pc + 3, L, S.drop r.2.2.2.1, n', z', m')
          | _ => none) none
        | _, _ => none)
def zz_fv (ad : Nat → Nat) (z : Nat → Nat → Bool) (m : mz_M) (i k f : Nat) : Value := match f with
  | 0 => .int (m i k)
  | 1 => .int (m i k)
  | 2 => cond (z i k) (.ref (ad (m i k).toNatClampNeg)) .null
  | r + 3 => cond (z i k) (.ref (ad r)) .null
def zz_cell (S0 : mz_Sh) (cI : ClassId) (ad : Nat → Nat) (z : Nat → Nat → Bool) (m : mz_M) (i : Nat) : va_E := match S0[i]? with
  | some (.inl n) => .inl (cI, n, .inl (m i))
  | some (.inr (c, fs)) => .inr (c, fs.mapIdx (zz_fv ad z m i))
  | none => .inr (0, [])
def zz_w (S0 : mz_Sh) (cI : ClassId) (ad : Nat → Nat) (z : Nat → Nat → Bool) (m : mz_M) (n : Nat) : va_W := (List.range n).map fun i => (ad i, zz_cell S0 cI ad z m i)
theorem zz_w_len (S0 : mz_Sh) (cI : ClassId) (ad : Nat → Nat) (z : Nat → Nat → Bool) (m : mz_M) (n : Nat) : (zz_w S0 cI ad z m n).length = n := by simp [zz_w]
theorem zz_w_at {S0 : mz_Sh} {cI : ClassId} {ad : Nat → Nat} {z : Nat → Nat → Bool} {m : mz_M} {n i : Nat} (h : i < n) : (zz_w S0 cI ad z m n)[i]? = some (ad i, zz_cell S0 cI ad z m i) := by simp [zz_w, h]
theorem zz_w_in {S0 : mz_Sh} {cI : ClassId} {ad : Nat → Nat} {z : Nat → Nat → Bool} {m : mz_M} {n k : Nat} {q : Nat × va_E} (h : (zz_w S0 cI ad z m n)[k]? = some q) : k < n ∧ q = (ad k, zz_cell S0 cI ad z m k) := by
  have hk : k < n := by
    have := (List.getElem?_eq_some_iff.mp h).1
    rwa [zz_w_len] at this
  rw [zz_w_at hk] at h
  exact ⟨hk, (Option.some.inj h).symm⟩
theorem zz_w_set {S0 : mz_Sh} {cI : ClassId} {ad : Nat → Nat} {z z' : Nat → Nat → Bool} {m m' : mz_M} {n i : Nat} (h : i < n) (e : va_E) (he : zz_cell S0 cI ad z' m' i = e) (ho : ∀ j, j ≠ i → zz_cell S0 cI ad z' m' j = zz_cell S0 cI ad z m j) : (zz_w S0 cI ad z m n).set i (ad i, e) = zz_w S0 cI ad z' m' n := by
  apply List.ext_getElem?
  intro j
  by_cases hj : j < n
  · rw [zz_w_at hj]
    by_cases hij : i = j
    · subst hij
      rw [List.getElem?_set_self (by rw [zz_w_len]; exact h), he]
    · rw [List.getElem?_set_ne hij, zz_w_at hj, ho j (fun q => hij q.symm)]
  · rw [List.getElem?_eq_none (by rw [List.length_set, zz_w_len]; omega), List.getElem?_eq_none (by rw [zz_w_len]; omega)]
theorem zz_w_push {S0 : mz_Sh} {cI : ClassId} {ad : Nat → Nat} {z z' : Nat → Nat → Bool} {m m' : mz_M} {n : Nat} (e : va_E) (he : zz_cell S0 cI ad z' m' n = e) (ho : ∀ j, j ≠ n → zz_cell S0 cI ad z' m' j = zz_cell S0 cI ad z m j) : zz_w S0 cI ad z m n ++ [(ad n, e)] = zz_w S0 cI ad z' m' (n + 1) := by
  unfold zz_w
  rw [List.range_succ, List.map_append]
  congr 1
  · apply List.map_congr_left
    intro j hj
    rw [ho j (by have := List.mem_range.mp hj; omega)]
  · simp [he]
theorem zz_cell_ne {S0 : mz_Sh} {cI : ClassId} {ad : Nat → Nat} {z z' : Nat → Nat → Bool} {m m' : mz_M} {j : Nat} (h : m' j = m j) (hz : z' j = z j) : zz_cell S0 cI ad z' m' j = zz_cell S0 cI ad z m j := by
  have hf : zz_fv ad z' m' j = zz_fv ad z m j := by
    funext k f
    unfold zz_fv
    rw [h, hz]
  unfold zz_cell
  rw [h, hf]
theorem zz_set_ne {m : mz_M} {i j : Nat} {f : Nat → Int32} (h : j ≠ i) : mz_set0 m i f j = m j := by
  funext b
  have h1 : (j == i) = false := by simpa using h
  simp only [mz_set0, h1, cond_false]
theorem zz_set_eq {m : mz_M} {i : Nat} {f : Nat → Int32} : mz_set0 m i f i = f := by
  funext b
  simp [mz_set0]
theorem zz_un_ne {z : Nat → Nat → Bool} {n j : Nat} (h : j ≠ n) : zz_un z n j = z j := by
  funext b
  have h1 : (j == n) = false := by simpa using h
  simp only [zz_un, h1, cond_false]
theorem zz_on_ne {z : Nat → Nat → Bool} {i k j : Nat} (h : j ≠ i) : zz_on z i k j = z j := by
  funext b
  have h1 : (j == i) = false := by simpa using h
  simp only [zz_on, h1, Bool.false_and, cond_false]
def zz_sl (S0 : mz_Sh) (n : Nat) : Nat := ((List.range n).map fun i => match S0[i]? with
  | some (.inl k) => k
  | some (.inr (_, fs)) => fs.length
  | none => 0).sum
theorem zz_sl_succ (S0 : mz_Sh) (n : Nat) : zz_sl S0 (n + 1) = zz_sl S0 n + (match S0[n]? with
  | some (.inl k) => k
  | some (.inr (_, fs)) => fs.length
  | none => 0) := by
  unfold zz_sl
  rw [List.range_succ, List.map_append, List.sum_append]
  simp
theorem zz_sl_mono (S0 : mz_Sh) {a b : Nat} (h : a ≤ b) : zz_sl S0 a ≤ zz_sl S0 b := by
  induction b with
  | zero => rw [show a = 0 by omega]; exact Nat.le_refl _
  | succ b ih =>
    by_cases hab : a = b + 1
    · rw [hab]; exact Nat.le_refl _
    · rw [zz_sl_succ]
      exact Nat.le_trans (ih (by omega)) (Nat.le_add_right _ _)
/-- the first static array's cell, whole: for its clone -/
def zz_rf (T0 : List (List Int32)) (t : Nat) (A : Nat → Prop) (U : State) (H : Heap) : Prop := ∃ (cell : Cell) (tt : List Int32), T0[4]? = some tt ∧ H[t]? = some cell ∧ cell.vm.isStatics = false ∧ cell.vm ≠ .unknown ∧ U.vm.findClass "[I" = some cell.cls ∧ cell.slots.size = tt.length ∧ (∀ j, j < tt.length → cell.slots[j]? = some (.int (tt.getD j 0))) ∧ ¬ A t
theorem zz_rf.moved {T0 : List (List Int32)} {t : Nat} {A : Nat → Prop} {u U : State} {H : Heap} (hvm : u.vm.Alike U.vm) (h : zz_rf T0 t A u H) : zz_rf T0 t A U H := by
  obtain ⟨cell, tt, h0, h1, h2, h3, h4, h5⟩ := h
  exact ⟨cell, tt, h0, h1, h2, h3, by rw [hvm.findClass]; exact h4, h5⟩
theorem zz_rf.kept {T0 : List (List Int32)} {t : Nat} {A : Nat → Prop} {U : State} {H H1 : Heap} (h : zz_rf T0 t A U H) (hq : ∀ a : Nat, a < H.size → ¬ A a → H1[a]? = H[a]?) : zz_rf T0 t A U H1 := by
  obtain ⟨cell, tt, h0, h1, h2, h3, h4, h5, h6, h7⟩ := h
  exact ⟨cell, tt, h0, by rw [hq t (Array.getElem?_eq_some_iff.mp h1).1 h7]; exact h1, h2, h3, h4, h5, h6, h7⟩
def zz_A (sz : Nat) : Nat → Prop := fun q => sz ≤ q
/-- the words of a constructor's instruction -/
def zz_lk (cl : List vw_C) (NM : List String) (ST : List (String × Nat × String)) (gt : Nat → Option Jvm.Cond) (CT : List zz_R) (own : String) (ins : Instr) (f : mz_I) : Bool := match ins with
  | .iconst n => decide (mz_cv f = some (.int (Int32.ofInt n)))
  | .bipush n => decide (mz_cv f = some (.int (Int8.ofInt n).toInt32))
  | .sipush n => decide (mz_cv f = some (.int (Int16.ofInt n).toInt32))
  | .ldc x => match ST[f.2.1]? with
    | some q => q.1 == own && q.2.1 == x && f.1 == 22
    | none => false
  | .getfield x => match cl[f.2.1]? with
    | some q => decide (f.2.2.1 < q.2.2) && decide (gt f.2.2.2 = some (.fieldLink own x (q.2.1 f.2.2.1).1 (q.2.1 f.2.2.1).2.1 (q.2.1 f.2.2.1).2.2.1))
    | none => false
  | .putfield x => match cl[f.2.1]? with
    | some q => decide (f.2.2.1 < q.2.2) && decide (gt f.2.2.2 = some (.fieldLink own x (q.2.1 f.2.2.1).1 (q.2.1 f.2.2.1).2.1 (q.2.1 f.2.2.1).2.2.1)) && decide ((q.2.1 f.2.2.1).1 = own)
    | none => false
  | .getstatic x => match NM[f.2.1]? with
    | some n => decide (gt f.2.2.2 = some (.fieldLinkNest own x "ThreeMagnets" n "[I" "ThreeMagnets"))
    | none => false
  | .new x => match cl[f.2.1]? with
    | some q => decide (gt f.2.2.2 = some (.classLink own x q.1))
    | none => false
  | .invokevirtual x => decide (gt f.2.2.2 = some (.methodLink own x ⟨"[I", "clone", "()Ljava/lang/Object;"⟩))
  | .checkcast x => decide (gt f.2.2.2 = some (.classLink own x "[I"))
  | .invokespecial x => match f.1 with
    | 31 => decide (gt f.2.2.2 = some (.methodLink own x Lib.objectInit))
    | 32 => match CT[f.2.1]? with
      | some r => decide (gt f.2.2.2 = some (.methodLink own x r.1))
      | none => false
    | 33 => match CT[f.2.1]? with
      | some r => decide (gt f.2.2.2 = some (.methodLinkNest own x r.1 "ThreeMagnets"))
      | none => false
    | _ => true
  | _ => true
/-- the library's words for making -/
def zz_pw : List Jvm.Cond := [.arrayClass .int, .instanceMethod Lib.objectInit, .code Lib.objectInit ⟨#[0xb1]⟩ 1 none, .sameMethod "[I" "java/lang/Object" "clone" "()Ljava/lang/Object;", .native ⟨"java/lang/Object", "clone", "()Ljava/lang/Object;"⟩, .instanceMethod ⟨"java/lang/Object", "clone", "()Ljava/lang/Object;"⟩, .selects "[I" ⟨"[I", "clone", "()Ljava/lang/Object;"⟩ ⟨"java/lang/Object", "clone", "()Ljava/lang/Object;"⟩]
/-- a reference field's type -/
def zz_sok (S0 : mz_Sh) (cl : List vw_C) : Prop := ∀ (i c : Nat) (fs : List Nat), S0[i]? = some (.inr (c, fs)) → ∃ q, cl[c]? = some q ∧ fs.length = q.2.2 ∧ ∀ (k r : Nat), fs[k]? = some (r + 3) → ∃ t, parseFieldDescriptor (q.2.1 k).2.2.1 = some t ∧ (∀ a, narrow t (.ref a) = .ref a) ∧ (∀ a, fits t (.ref a) = true) ∧ defaultValue t = .null
def zz_cin (cl : List vw_C) (G0 : List Jvm.Cond) : Prop := ∀ (ci : Nat) (q : vw_C), cl[ci]? = some q → Jvm.Cond.instantiable q.1 q.2.2 ∈ mz_G G0 ∧ Jvm.Cond.initialized q.1 ∈ mz_G G0
def zz_Fix (p : Program) (R : Room) (s : State) (m : MethodId) (args : Array Value) (meth : Method) (c : Code) (S0 : mz_Sh) (T0 : List (List Int32)) (cl : List vw_C) (NM : List String) (ST : List (String × Nat × String)) (G0 : List Jvm.Cond) (gt : Nat → Option Jvm.Cond) (CT : List zz_R) (D : va_G) (cI : ClassId) (ad : Nat → Nat) (nL Ln sz n0 nE : Nat) (xs : Nat → Int32) (own : String) (cc : ByteArray) : Prop :=
  (p.tables.exec = Jvm.exec ∧ c.code = cc ∧ c.maxLocals = nL ∧ s.vm.findClass own = some m.cls ∧ (∀ w ∈ mz_G G0, w.before args s = true)) ∧
  (va_K D cl [(cI, .int)] s ∧ s.heap.size = sz + n0 ∧ (∀ i, i < 1000 → ad i = sz + i) ∧ mz_rok T0 NM ST G0 ad Ln xs (zz_A sz) s s.heap ∧ zz_rf T0 (ad 1004) (zz_A sz) s s.heap) ∧
  (1 ≤ R.frames ∧ 64 ≤ R.locals ∧ nE - n0 ≤ R.cells ∧ zz_sl S0 nE - zz_sl S0 n0 ≤ R.slots) ∧
  ((∀ (k : Nat) (q : vw_C), cl[k]? = some q → mz_cok G0 q) ∧ (mz_sok S0 cl ∧ zz_sok S0 cl) ∧ (∀ w ∈ zz_pw, w ∈ mz_G G0) ∧ S0.length ≤ 1000 ∧ zz_cin cl G0 ∧ NM.length = T0.length ∧ (∀ (i : Nat) (w : Jvm.Cond), gt i = some w → w ∈ G0) ∧ Jvm.Cond.castable "[I" "java/lang/Cloneable" ∈ G0)
def zz_Z (p : Program) (l : Launch) (e : Env) (R : Room) (s : State) (m : MethodId) (args : Array Value) (below : List Frame) (meth : Method) (c : Code) (Q : State → Prop) (S0 : mz_Sh) (cl : List vw_C) (D : va_G) (cI : ClassId) (ad : Nat → Nat) (nL sz n0 : Nat) (q : zz_C) : Prop :=
  ∀ (ls : Array Slot) (H : Heap) (locs : List Loc), mz_ls ad q.2.1 ls nL → va_P D cl (zz_w S0 cI ad q.2.2.2.2.1 q.2.2.2.2.2 q.2.2.2.1) H → va_S (zz_A sz) s.heap H locs → W p l e R s m args below meth c H locs (q.2.2.2.1 - n0) (zz_sl S0 q.2.2.2.1 - zz_sl S0 n0) Q (F0 m q.1 ls (q.2.2.1.map (mz_cvv ad)))

theorem zz_Gi {p : Program} {R : Room} {s : State} {m : MethodId} {args : Array Value} {meth : Method} {c : Code} {S0 : mz_Sh} {T0 : List (List Int32)} {cl : List vw_C} {NM : List String} {ST : List (String × Nat × String)} {G0 : List Jvm.Cond} {gt : Nat → Option Jvm.Cond} {CT : List zz_R} {D : va_G} {cI : ClassId} {ad : Nat → Nat} {nL Ln sz n0 nE : Nat} {xs : Nat → Int32} {own : String} {cc : ByteArray} (F : zz_Fix p R s m args meth c S0 T0 cl NM ST G0 gt CT D cI ad nL Ln sz n0 nE xs own cc) {w : Jvm.Cond} {i : Nat} (h : gt i = some w) (hg : goodWord w = true) : w.before args s = true := F.1.2.2.2.2 _ (mz_G_in (F.2.2.2.2.2.2.2.2.2.1 i w h) hg)
theorem zz_Pw {p : Program} {R : Room} {s : State} {m : MethodId} {args : Array Value} {meth : Method} {c : Code} {S0 : mz_Sh} {T0 : List (List Int32)} {cl : List vw_C} {NM : List String} {ST : List (String × Nat × String)} {G0 : List Jvm.Cond} {gt : Nat → Option Jvm.Cond} {CT : List zz_R} {D : va_G} {cI : ClassId} {ad : Nat → Nat} {nL Ln sz n0 nE : Nat} {xs : Nat → Int32} {own : String} {cc : ByteArray} (F : zz_Fix p R s m args meth c S0 T0 cl NM ST G0 gt CT D cI ad nL Ln sz n0 nE xs own cc) {w : Jvm.Cond} (h : w ∈ zz_pw) : w.before args s = true := F.1.2.2.2.2 _ (F.2.2.2.2.2.1 _ h)
theorem zz_Dd {S0 : mz_Sh} {cI : ClassId} {ad : Nat → Nat} {sz : Nat} {z : Nat → Nat → Bool} {m : mz_M} {n : Nat} (had : ∀ i, i < 1000 → ad i = sz + i) (hn : n ≤ 1000) : va_D (zz_A sz) (zz_w S0 cI ad z m n) := by
  refine ⟨fun i j x y hi hj he => ?_, fun k q hk => ?_⟩
  · obtain ⟨a1, rfl⟩ := zz_w_in hi
    obtain ⟨a2, rfl⟩ := zz_w_in hj
    have h1 : ad i = ad j := he
    rw [had i (by omega), had j (by omega)] at h1
    omega
  · obtain ⟨a1, rfl⟩ := zz_w_in hk
    show sz ≤ ad k
    rw [had k (by omega)]
    omega

set_option maxHeartbeats 1000000 in
theorem zz_w_iconst {p : Program} {l : Launch} {e : Env} {R : Room} {s : State} {m : MethodId} {args : Array Value} {below : List Frame} {meth : Method} {c : Code} {Q : State → Prop} {S0 : mz_Sh} {T0 : List (List Int32)} {cl : List vw_C} {NM : List String} {ST : List (String × Nat × String)} {G0 : List Jvm.Cond} {gt : Nat → Option Jvm.Cond} {CT : List zz_R} {D : va_G} {cI : ClassId} {ad : Nat → Nat} {nL Ln sz n0 nE : Nat} {xs : Nat → Int32} {own : String} {cc : ByteArray} (F : zz_Fix p R s m args meth c S0 T0 cl NM ST G0 gt CT D cI ad nL Ln sz n0 nE xs own cc) {f : mz_I} {pc : Nat} {L : List (Option Value)} {S : List Value} {n : Nat} {z : Nat → Nat → Bool} {mem : mz_M} {c1 : zz_C} {x : Int} (hd : decode cc pc = .ok (.iconst x, 1)) (hl : zz_lk cl NM ST gt CT own (.iconst x) f = true) (hn0 : n0 ≤ n) (hnS : n ≤ S0.length) (hnE : c1.2.2.2.1 ≤ nE) (hs : zz_step S0 T0 (.iconst x) f pc L S n z mem = some (.inl c1)) (k : zz_Z p l e R s m args below meth c Q S0 cl D cI ad nL sz n0 c1) : zz_Z p l e R s m args below meth c Q S0 cl D cI ad nL sz n0 (pc, L, S, n, z, mem) := by
  have hl := of_decide_eq_true hl
  simp only [zz_step] at hs
  rw [hl] at hs
  cases hs
  exact fun ls H locs h1 h2 h3 => lv_iconst F.1.1 F.1.2.1 hd rfl (k ls H locs h1 h2 h3)

set_option maxHeartbeats 1000000 in
theorem zz_w_bipush {p : Program} {l : Launch} {e : Env} {R : Room} {s : State} {m : MethodId} {args : Array Value} {below : List Frame} {meth : Method} {c : Code} {Q : State → Prop} {S0 : mz_Sh} {T0 : List (List Int32)} {cl : List vw_C} {NM : List String} {ST : List (String × Nat × String)} {G0 : List Jvm.Cond} {gt : Nat → Option Jvm.Cond} {CT : List zz_R} {D : va_G} {cI : ClassId} {ad : Nat → Nat} {nL Ln sz n0 nE : Nat} {xs : Nat → Int32} {own : String} {cc : ByteArray} (F : zz_Fix p R s m args meth c S0 T0 cl NM ST G0 gt CT D cI ad nL Ln sz n0 nE xs own cc) {f : mz_I} {pc : Nat} {L : List (Option Value)} {S : List Value} {n : Nat} {z : Nat → Nat → Bool} {mem : mz_M} {c1 : zz_C} {x : Int} (hd : decode cc pc = .ok (.bipush x, 2)) (hl : zz_lk cl NM ST gt CT own (.bipush x) f = true) (hn0 : n0 ≤ n) (hnS : n ≤ S0.length) (hnE : c1.2.2.2.1 ≤ nE) (hs : zz_step S0 T0 (.bipush x) f pc L S n z mem = some (.inl c1)) (k : zz_Z p l e R s m args below meth c Q S0 cl D cI ad nL sz n0 c1) : zz_Z p l e R s m args below meth c Q S0 cl D cI ad nL sz n0 (pc, L, S, n, z, mem) := by
  have hl := of_decide_eq_true hl
  simp only [zz_step] at hs
  rw [hl] at hs
  cases hs
  exact fun ls H locs h1 h2 h3 => lv_bipush F.1.1 F.1.2.1 hd rfl (k ls H locs h1 h2 h3)

set_option maxHeartbeats 1000000 in
theorem zz_w_sipush {p : Program} {l : Launch} {e : Env} {R : Room} {s : State} {m : MethodId} {args : Array Value} {below : List Frame} {meth : Method} {c : Code} {Q : State → Prop} {S0 : mz_Sh} {T0 : List (List Int32)} {cl : List vw_C} {NM : List String} {ST : List (String × Nat × String)} {G0 : List Jvm.Cond} {gt : Nat → Option Jvm.Cond} {CT : List zz_R} {D : va_G} {cI : ClassId} {ad : Nat → Nat} {nL Ln sz n0 nE : Nat} {xs : Nat → Int32} {own : String} {cc : ByteArray} (F : zz_Fix p R s m args meth c S0 T0 cl NM ST G0 gt CT D cI ad nL Ln sz n0 nE xs own cc) {f : mz_I} {pc : Nat} {L : List (Option Value)} {S : List Value} {n : Nat} {z : Nat → Nat → Bool} {mem : mz_M} {c1 : zz_C} {x : Int} (hd : decode cc pc = .ok (.sipush x, 3)) (hl : zz_lk cl NM ST gt CT own (.sipush x) f = true) (hn0 : n0 ≤ n) (hnS : n ≤ S0.length) (hnE : c1.2.2.2.1 ≤ nE) (hs : zz_step S0 T0 (.sipush x) f pc L S n z mem = some (.inl c1)) (k : zz_Z p l e R s m args below meth c Q S0 cl D cI ad nL sz n0 c1) : zz_Z p l e R s m args below meth c Q S0 cl D cI ad nL sz n0 (pc, L, S, n, z, mem) := by
  have hl := of_decide_eq_true hl
  simp only [zz_step] at hs
  rw [hl] at hs
  cases hs
  exact fun ls H locs h1 h2 h3 => lv_sipush F.1.1 F.1.2.1 hd rfl (k ls H locs h1 h2 h3)

set_option maxHeartbeats 1000000 in
theorem zz_w_ldc {p : Program} {l : Launch} {e : Env} {R : Room} {s : State} {m : MethodId} {args : Array Value} {below : List Frame} {meth : Method} {c : Code} {Q : State → Prop} {S0 : mz_Sh} {T0 : List (List Int32)} {cl : List vw_C} {NM : List String} {ST : List (String × Nat × String)} {G0 : List Jvm.Cond} {gt : Nat → Option Jvm.Cond} {CT : List zz_R} {D : va_G} {cI : ClassId} {ad : Nat → Nat} {nL Ln sz n0 nE : Nat} {xs : Nat → Int32} {own : String} {cc : ByteArray} (F : zz_Fix p R s m args meth c S0 T0 cl NM ST G0 gt CT D cI ad nL Ln sz n0 nE xs own cc) {f : mz_I} {pc : Nat} {L : List (Option Value)} {S : List Value} {n : Nat} {z : Nat → Nat → Bool} {mem : mz_M} {c1 : zz_C} {x : Nat} (hd : decode cc pc = .ok (.ldc x, 2)) (hl : zz_lk cl NM ST gt CT own (.ldc x) f = true) (hn0 : n0 ≤ n) (hnS : n ≤ S0.length) (hnE : c1.2.2.2.1 ≤ nE) (hs : zz_step S0 T0 (.ldc x) f pc L S n z mem = some (.inl c1)) (k : zz_Z p l e R s m args below meth c Q S0 cl D cI ad nL sz n0 c1) : zz_Z p l e R s m args below meth c Q S0 cl D cI ad nL sz n0 (pc, L, S, n, z, mem) := by
  simp only [zz_lk] at hl
  simp only [zz_step] at hs
  split at hs
  · rename_i r hv
    cases hs
    split at hl
    · rename_i q hq
      simp only [Bool.and_eq_true, beq_iff_eq] at hl
      obtain ⟨⟨h5, h6⟩, h7⟩ := hl
      have hr : r = 2000 + f.2.1 := by
        have h8 : mz_cv f = some (.ref (2000 + f.2.1)) := by
          unfold mz_cv
          rw [h7]
          rfl
        rw [hv] at h8
        exact Value.ref.inj (Option.some.inj h8)
      subst hr
      have h9 := F.2.1.2.2.2.1.2.2.1 _ _ hq
      rw [h5, h6] at h9
      exact fun ls H locs h1 h2 h3 => va_ldcS F.1.1 F.1.2.1 F.1.2.2.2.1 h9 hd (k ls H locs h1 h2 h3)
    · cases hl
  · cases hs

set_option maxHeartbeats 1000000 in
theorem zz_w_aload_n {p : Program} {l : Launch} {e : Env} {R : Room} {s : State} {m : MethodId} {args : Array Value} {below : List Frame} {meth : Method} {c : Code} {Q : State → Prop} {S0 : mz_Sh} {T0 : List (List Int32)} {cl : List vw_C} {NM : List String} {ST : List (String × Nat × String)} {G0 : List Jvm.Cond} {gt : Nat → Option Jvm.Cond} {CT : List zz_R} {D : va_G} {cI : ClassId} {ad : Nat → Nat} {nL Ln sz n0 nE : Nat} {xs : Nat → Int32} {own : String} {cc : ByteArray} (F : zz_Fix p R s m args meth c S0 T0 cl NM ST G0 gt CT D cI ad nL Ln sz n0 nE xs own cc) {f : mz_I} {pc : Nat} {L : List (Option Value)} {S : List Value} {n : Nat} {z : Nat → Nat → Bool} {mem : mz_M} {c1 : zz_C} {x : Fin 4} (hd : decode cc pc = .ok (.aload_n x, 1)) (hl : zz_lk cl NM ST gt CT own (.aload_n x) f = true) (hn0 : n0 ≤ n) (hnS : n ≤ S0.length) (hnE : c1.2.2.2.1 ≤ nE) (hs : zz_step S0 T0 (.aload_n x) f pc L S n z mem = some (.inl c1)) (k : zz_Z p l e R s m args below meth c Q S0 cl D cI ad nL sz n0 c1) : zz_Z p l e R s m args below meth c Q S0 cl D cI ad nL sz n0 (pc, L, S, n, z, mem) := by
  simp only [zz_step] at hs
  split at hs
  · rename_i y hy
    cases hs
    exact fun ls H locs h1 h2 h3 => lv_aload_n F.1.1 F.1.2.1 hd rfl (h1.2.2.2 _ _ (mz_ld_at hy)) (k ls H locs h1 h2 h3)
  · cases hs

set_option maxHeartbeats 1000000 in
theorem zz_w_astore_n {p : Program} {l : Launch} {e : Env} {R : Room} {s : State} {m : MethodId} {args : Array Value} {below : List Frame} {meth : Method} {c : Code} {Q : State → Prop} {S0 : mz_Sh} {T0 : List (List Int32)} {cl : List vw_C} {NM : List String} {ST : List (String × Nat × String)} {G0 : List Jvm.Cond} {gt : Nat → Option Jvm.Cond} {CT : List zz_R} {D : va_G} {cI : ClassId} {ad : Nat → Nat} {nL Ln sz n0 nE : Nat} {xs : Nat → Int32} {own : String} {cc : ByteArray} (F : zz_Fix p R s m args meth c S0 T0 cl NM ST G0 gt CT D cI ad nL Ln sz n0 nE xs own cc) {f : mz_I} {pc : Nat} {L : List (Option Value)} {S : List Value} {n : Nat} {z : Nat → Nat → Bool} {mem : mz_M} {c1 : zz_C} {x : Fin 4} (hd : decode cc pc = .ok (.astore_n x, 1)) (hl : zz_lk cl NM ST gt CT own (.astore_n x) f = true) (hn0 : n0 ≤ n) (hnS : n ≤ S0.length) (hnE : c1.2.2.2.1 ≤ nE) (hs : zz_step S0 T0 (.astore_n x) f pc L S n z mem = some (.inl c1)) (k : zz_Z p l e R s m args below meth c Q S0 cl D cI ad nL sz n0 c1) : zz_Z p l e R s m args below meth c Q S0 cl D cI ad nL sz n0 (pc, L, S, n, z, mem) := by
  simp only [zz_step] at hs
  split at hs
  · obtain ⟨hb, hs⟩ := mz_cond hs
    cases hs
    exact fun ls H locs h1 h2 h3 => lv_astore_n F.1.1 F.1.2.1 hd rfl (mz_ls_has h1) (h1.2.2.1 ▸ of_decide_eq_true hb) rfl (fun ls' h' => k ls' H locs (mz_ls_st h1 (of_decide_eq_true hb) h') h2 h3)
  · cases hs

set_option maxHeartbeats 1000000 in
theorem zz_w_istore_n {p : Program} {l : Launch} {e : Env} {R : Room} {s : State} {m : MethodId} {args : Array Value} {below : List Frame} {meth : Method} {c : Code} {Q : State → Prop} {S0 : mz_Sh} {T0 : List (List Int32)} {cl : List vw_C} {NM : List String} {ST : List (String × Nat × String)} {G0 : List Jvm.Cond} {gt : Nat → Option Jvm.Cond} {CT : List zz_R} {D : va_G} {cI : ClassId} {ad : Nat → Nat} {nL Ln sz n0 nE : Nat} {xs : Nat → Int32} {own : String} {cc : ByteArray} (F : zz_Fix p R s m args meth c S0 T0 cl NM ST G0 gt CT D cI ad nL Ln sz n0 nE xs own cc) {f : mz_I} {pc : Nat} {L : List (Option Value)} {S : List Value} {n : Nat} {z : Nat → Nat → Bool} {mem : mz_M} {c1 : zz_C} {x : Fin 4} (hd : decode cc pc = .ok (.istore_n x, 1)) (hl : zz_lk cl NM ST gt CT own (.istore_n x) f = true) (hn0 : n0 ≤ n) (hnS : n ≤ S0.length) (hnE : c1.2.2.2.1 ≤ nE) (hs : zz_step S0 T0 (.istore_n x) f pc L S n z mem = some (.inl c1)) (k : zz_Z p l e R s m args below meth c Q S0 cl D cI ad nL sz n0 c1) : zz_Z p l e R s m args below meth c Q S0 cl D cI ad nL sz n0 (pc, L, S, n, z, mem) := by
  simp only [zz_step] at hs
  split at hs
  · obtain ⟨hb, hs⟩ := mz_cond hs
    cases hs
    exact fun ls H locs h1 h2 h3 => lv_istore_n F.1.1 F.1.2.1 hd rfl (mz_ls_has h1) (h1.2.2.1 ▸ of_decide_eq_true hb) rfl (fun ls' h' => k ls' H locs (mz_ls_st h1 (of_decide_eq_true hb) h') h2 h3)
  · cases hs

set_option maxHeartbeats 1000000 in
theorem zz_w_dup {p : Program} {l : Launch} {e : Env} {R : Room} {s : State} {m : MethodId} {args : Array Value} {below : List Frame} {meth : Method} {c : Code} {Q : State → Prop} {S0 : mz_Sh} {T0 : List (List Int32)} {cl : List vw_C} {NM : List String} {ST : List (String × Nat × String)} {G0 : List Jvm.Cond} {gt : Nat → Option Jvm.Cond} {CT : List zz_R} {D : va_G} {cI : ClassId} {ad : Nat → Nat} {nL Ln sz n0 nE : Nat} {xs : Nat → Int32} {own : String} {cc : ByteArray} (F : zz_Fix p R s m args meth c S0 T0 cl NM ST G0 gt CT D cI ad nL Ln sz n0 nE xs own cc) {f : mz_I} {pc : Nat} {L : List (Option Value)} {S : List Value} {n : Nat} {z : Nat → Nat → Bool} {mem : mz_M} {c1 : zz_C} (hd : decode cc pc = .ok (.dup, 1)) (hl : zz_lk cl NM ST gt CT own (.dup) f = true) (hn0 : n0 ≤ n) (hnS : n ≤ S0.length) (hnE : c1.2.2.2.1 ≤ nE) (hs : zz_step S0 T0 (.dup) f pc L S n z mem = some (.inl c1)) (k : zz_Z p l e R s m args below meth c Q S0 cl D cI ad nL sz n0 c1) : zz_Z p l e R s m args below meth c Q S0 cl D cI ad nL sz n0 (pc, L, S, n, z, mem) := by
  simp only [zz_step] at hs
  split at hs
  · cases hs
    exact fun ls H locs h1 h2 h3 => lv_dup F.1.1 F.1.2.1 hd rfl (k ls H locs h1 h2 h3)
  · cases hs

theorem zz_w_obj {S0 : mz_Sh} {cI : ClassId} {ad : Nat → Nat} {z : Nat → Nat → Bool} {m : mz_M} {n i c : Nat} {fs : List Nat} (hi : i < n) (h : S0[i]? = some (.inr (c, fs))) : (zz_w S0 cI ad z m n)[i]? = some (ad i, .inr (c, fs.mapIdx (zz_fv ad z m i))) := by
  rw [zz_w_at hi, zz_cell, h]
theorem zz_w_arr {S0 : mz_Sh} {cI : ClassId} {ad : Nat → Nat} {z : Nat → Nat → Bool} {m : mz_M} {n i k : Nat} (hi : i < n) (h : S0[i]? = some (.inl k)) : (zz_w S0 cI ad z m n)[i]? = some (ad i, .inl (cI, k, .inl (m i))) := by
  rw [zz_w_at hi, zz_cell, h]
theorem zz_get_spec {S0 : mz_Sh} {ad : Nat → Nat} {z : Nat → Nat → Bool} {m : mz_M} {n ci k i : Nat} {v : Value} (h : zz_get S0 z m n ci k i = some v) : i < n ∧ ∃ fs, S0[i]? = some (.inr (ci, fs)) ∧ (fs.mapIdx (zz_fv ad z m i))[k]? = some (mz_cvv ad v) := by
  unfold zz_get at h
  obtain ⟨hin, h1⟩ := mz_cond h
  clear h
  refine ⟨of_decide_eq_true hin, ?_⟩
  split at h1
  · rename_i c fs hq
    obtain ⟨hb, h2⟩ := mz_cond h1
    clear h1
    have hc : c = ci := by simpa using hb
    subst hc
    refine ⟨fs, hq, ?_⟩
    rw [List.getElem?_mapIdx]
    split at h2
    · rename_i hk; rw [hk]; cases h2; rfl
    · rename_i r hk
      rw [hk]
      obtain ⟨hz, h3⟩ := mz_cond h2
      cases h3
      show some (cond (z i k) _ _) = _
      rw [hz]
      rfl
    · cases h2
  · cases h1
theorem zz_up_nb {m : mz_M} {i k b : Nat} {x : Int32} (h : b ≠ k) : mz_up m i k x i b = m i b := by rw [mz_up_eq, if_neg h]
theorem zz_put_spec {S0 : mz_Sh} {ad : Nat → Nat} {z : Nat → Nat → Bool} {m : mz_M} {n ci k i : Nat} {v : Value} {q : (Nat → Nat → Bool) × mz_M} (h : zz_put S0 z m n ci k i v = some q) : i < n ∧ ∃ fs f, S0[i]? = some (.inr (ci, fs)) ∧ fs[k]? = some f ∧ (∀ j, j ≠ i → q.2 j = m j ∧ q.1 j = z j) ∧ (∀ b, b ≠ k → q.2 i b = m i b ∧ q.1 i b = z i b) ∧ mz_cvv ad v = zz_fv ad q.1 q.2 i k f ∧ ((f = 0 ∧ ∃ x, v = .int x) ∨ (f = 1 ∧ ∃ x, v = .int x ∧ (x = 0 ∨ x = 1)) ∨ (f = 2 ∧ ∃ r, v = .ref r) ∨ (∃ r, f = r + 3 ∧ v = .ref r)) := by
  unfold zz_put at h
  obtain ⟨hin, h1⟩ := mz_cond h
  clear h
  refine ⟨of_decide_eq_true hin, ?_⟩
  split at h1
  · rename_i c fs hq
    obtain ⟨hb, h2⟩ := mz_cond h1
    clear h1
    have hc : c = ci := by simpa using hb
    subst hc
    split at h2
    · rename_i x hk
      cases h2
      exact ⟨fs, 0, hq, hk, fun j hj => ⟨mz_up_ne hj, rfl⟩, fun b hb => ⟨zz_up_nb hb, rfl⟩, by simp [mz_cvv, zz_fv, mz_up_eq], Or.inl ⟨rfl, x, rfl⟩⟩
    · rename_i x hk
      obtain ⟨hb2, h3⟩ := mz_cond h2
      cases h3
      exact ⟨fs, 1, hq, hk, fun j hj => ⟨mz_up_ne hj, rfl⟩, fun b hb => ⟨zz_up_nb hb, rfl⟩, by simp [mz_cvv, zz_fv, mz_up_eq], Or.inr (Or.inl ⟨rfl, x, rfl, by simpa using hb2⟩)⟩
    · rename_i r hk
      obtain ⟨hb2, h3⟩ := mz_cond h2
      cases h3
      have hr := (mz_isT_spec hb2).2
      refine ⟨fs, 2, hq, hk, fun j hj => ⟨mz_up_ne hj, zz_on_ne hj⟩, fun b hb => ⟨zz_up_nb hb, ?_⟩, ?_, Or.inr (Or.inr (Or.inl ⟨rfl, r, rfl⟩))⟩
      · have h1 : (b == k) = false := by simpa using hb
        simp [zz_on, h1]
      · have h5 : (Int32.ofNat r).toNatClampNeg = r := nI_clamp (show (r : Nat) < 2 ^ 31 from Nat.lt_trans hr (by decide))
        simp [mz_cvv, zz_fv, zz_on, mz_up_eq, h5]
    · rename_i a r hk
      obtain ⟨hb2, h3⟩ := mz_cond h2
      cases h3
      have har : a = r := by simpa using hb2
      subst har
      refine ⟨fs, a + 3, hq, hk, fun j hj => ⟨rfl, zz_on_ne hj⟩, fun b hb => ⟨rfl, ?_⟩, ?_, Or.inr (Or.inr (Or.inr ⟨a, rfl, rfl⟩))⟩
      · have h1 : (b == k) = false := by simpa using hb
        simp [zz_on, h1]
      · simp [mz_cvv, zz_fv, zz_on]
    · cases h2
  · cases h1
theorem zz_put_cell {S0 : mz_Sh} {cI : ClassId} {ad : Nat → Nat} {z z' : Nat → Nat → Bool} {m m' : mz_M} {n i ci k f : Nat} {fs : List Nat} {v : Value} (hi : i < n) (h : S0[i]? = some (.inr (ci, fs))) (hk : fs[k]? = some f) (ho : ∀ j, j ≠ i → m' j = m j ∧ z' j = z j) (hb : ∀ b, b ≠ k → m' i b = m i b ∧ z' i b = z i b) (hv : v = zz_fv ad z' m' i k f) : (zz_w S0 cI ad z m n).set i (ad i, .inr (ci, (fs.mapIdx (zz_fv ad z m i)).set k v)) = zz_w S0 cI ad z' m' n := by
  refine zz_w_set hi _ ?_ (fun j hj => zz_cell_ne (ho j hj).1 (ho j hj).2)
  rw [zz_cell, h]
  refine congrArg (fun w => (Sum.inr (ci, w) : va_E)) ?_
  apply List.ext_getElem?
  intro j
  rw [List.getElem?_mapIdx]
  by_cases hj : k = j
  · subst hj
    rw [hk, List.getElem?_set_self (by rw [List.length_mapIdx]; exact (List.getElem?_eq_some_iff.mp hk).1), hv]
    rfl
  · rw [List.getElem?_set_ne hj, List.getElem?_mapIdx]
    congr 1
    funext g
    unfold zz_fv
    rw [(hb j (fun q => hj q.symm)).1, (hb j (fun q => hj q.symm)).2]

set_option maxHeartbeats 1000000 in
theorem zz_w_getfield {p : Program} {l : Launch} {e : Env} {R : Room} {s : State} {m : MethodId} {args : Array Value} {below : List Frame} {meth : Method} {c : Code} {Q : State → Prop} {S0 : mz_Sh} {T0 : List (List Int32)} {cl : List vw_C} {NM : List String} {ST : List (String × Nat × String)} {G0 : List Jvm.Cond} {gt : Nat → Option Jvm.Cond} {CT : List zz_R} {D : va_G} {cI : ClassId} {ad : Nat → Nat} {nL Ln sz n0 nE : Nat} {xs : Nat → Int32} {own : String} {cc : ByteArray} (F : zz_Fix p R s m args meth c S0 T0 cl NM ST G0 gt CT D cI ad nL Ln sz n0 nE xs own cc) {f : mz_I} {pc : Nat} {L : List (Option Value)} {S : List Value} {n : Nat} {z : Nat → Nat → Bool} {mem : mz_M} {c1 : zz_C} {x : Nat} (hd : decode cc pc = .ok (.getfield x, 3)) (hl : zz_lk cl NM ST gt CT own (.getfield x) f = true) (hn0 : n0 ≤ n) (hnS : n ≤ S0.length) (hnE : c1.2.2.2.1 ≤ nE) (hs : zz_step S0 T0 (.getfield x) f pc L S n z mem = some (.inl c1)) (k : zz_Z p l e R s m args below meth c Q S0 cl D cI ad nL sz n0 c1) : zz_Z p l e R s m args below meth c Q S0 cl D cI ad nL sz n0 (pc, L, S, n, z, mem) := by
  simp only [zz_lk] at hl
  simp only [zz_step] at hs
  split at hs
  · rename_i i S1
    split at hs
    · rename_i v hv
      cases hs
      split at hl
      · rename_i q hq
        rw [Bool.and_eq_true] at hl
        obtain ⟨hin, fs, h5, h6⟩ := zz_get_spec (ad := ad) hv
        exact fun ls H locs h1 h2 h3 => va_get (C := q.1) (T := q.2.1) (N := q.2.2) F.1.1 F.1.2.1 F.1.2.2.2.2 (F.2.2.2.1 _ _ hq).1 F.1.2.2.2.1 F.2.1.1 h2 i (zz_w_obj hin h5) hq f.2.2.1 (of_decide_eq_true hl.1) (zz_Gi F (of_decide_eq_true hl.2) rfl) (fun _ h => h) h6 hd (k ls H locs h1 h2 h3)
      · cases hl
    · cases hs
  · cases hs

set_option maxHeartbeats 1000000 in
theorem zz_w_putfield {p : Program} {l : Launch} {e : Env} {R : Room} {s : State} {m : MethodId} {args : Array Value} {below : List Frame} {meth : Method} {c : Code} {Q : State → Prop} {S0 : mz_Sh} {T0 : List (List Int32)} {cl : List vw_C} {NM : List String} {ST : List (String × Nat × String)} {G0 : List Jvm.Cond} {gt : Nat → Option Jvm.Cond} {CT : List zz_R} {D : va_G} {cI : ClassId} {ad : Nat → Nat} {nL Ln sz n0 nE : Nat} {xs : Nat → Int32} {own : String} {cc : ByteArray} (F : zz_Fix p R s m args meth c S0 T0 cl NM ST G0 gt CT D cI ad nL Ln sz n0 nE xs own cc) {f : mz_I} {pc : Nat} {L : List (Option Value)} {S : List Value} {n : Nat} {z : Nat → Nat → Bool} {mem : mz_M} {c1 : zz_C} {x : Nat} (hin2 : meth.name = "<init>") (hd : decode cc pc = .ok (.putfield x, 3)) (hl : zz_lk cl NM ST gt CT own (.putfield x) f = true) (hn0 : n0 ≤ n) (hnS : n ≤ S0.length) (hnE : c1.2.2.2.1 ≤ nE) (hs : zz_step S0 T0 (.putfield x) f pc L S n z mem = some (.inl c1)) (k : zz_Z p l e R s m args below meth c Q S0 cl D cI ad nL sz n0 c1) : zz_Z p l e R s m args below meth c Q S0 cl D cI ad nL sz n0 (pc, L, S, n, z, mem) := by
  simp only [zz_lk] at hl
  simp only [zz_step] at hs
  split at hs
  · rename_i v i S1
    split at hs
    · rename_i q0 hm
      cases hs
      split at hl
      · rename_i q hq
        simp only [Bool.and_eq_true] at hl
        obtain ⟨⟨hk, hw⟩, hdecl⟩ := hl
        have hdecl := of_decide_eq_true hdecl
        obtain ⟨hin, fs, g, h5, h6, ho, hb, hvv, h7⟩ := zz_put_spec (ad := ad) hm
        obtain ⟨q1, hq1, hlen, hsh⟩ := F.2.2.2.2.1.1 _ _ _ h5
        have hqe : q1 = q := Option.some.inj (hq1.symm.trans hq)
        subst hqe
        obtain ⟨q2, hq2, -, hsh2⟩ := F.2.2.2.2.1.2 _ _ _ h5
        have hqe2 : q2 = q1 := Option.some.inj (hq2.symm.trans hq)
        subst hqe2
        obtain ⟨hcin, hnm, ty0, hty⟩ := F.2.2.2.1 _ _ hq
        obtain ⟨t, ht2, ht3, ht4⟩ : ∃ t, parseFieldDescriptor (q2.2.1 f.2.2.1).2.2.1 = some t ∧ narrow t (mz_cvv ad v) = mz_cvv ad v ∧ fits t (mz_cvv ad v) = true := by
          rcases h7 with ⟨rfl, x, rfl⟩ | ⟨rfl, x, rfl, h8⟩ | ⟨rfl, r, rfl⟩ | ⟨r, rfl, rfl⟩
          · exact ⟨.int, ((hsh _ _ h6).1 rfl).2, rfl, rfl⟩
          · refine ⟨.boolean, ((hsh _ _ h6).2.1 rfl).2, ?_, ?_⟩
            · rcases h8 with rfl | rfl <;> rfl
            · rcases h8 with rfl | rfl <;> rfl
          · exact ⟨_, ((hsh _ _ h6).2.2 rfl).2, rfl, rfl⟩
          · obtain ⟨t, a1, a2, a3, -⟩ := hsh2 _ _ h6
            exact ⟨t, a1, a2 _, a3 _⟩
        intro ls H locs h1 h2 h3
        have hD := zz_Dd (S0 := S0) (cI := cI) (z := z) (m := mem) F.2.1.2.2.1 (Nat.le_trans hnS F.2.2.2.2.2.2.1)
        have hlk := zz_Gi F (of_decide_eq_true hw) rfl
        have hgo : ∀ (H1 : Heap) (locs1 : List Loc), va_P D cl ((zz_w S0 cI ad z mem n).set i (ad i, .inr (f.2.1, (fs.mapIdx (zz_fv ad z mem i)).set f.2.2.1 (mz_cvv ad v)))) H1 → va_D (zz_A sz) ((zz_w S0 cI ad z mem n).set i (ad i, .inr (f.2.1, (fs.mapIdx (zz_fv ad z mem i)).set f.2.2.1 (mz_cvv ad v)))) → va_S (zz_A sz) s.heap H1 locs1 → W p l e R s m args below meth c H1 locs1 (n - n0) (zz_sl S0 n - zz_sl S0 n0) Q (F0 m (pc + 3) ls (S1.map (mz_cvv ad))) := by
          intro H1 locs1 a1 a2 a3
          rw [zz_put_cell hin h5 h6 ho hb hvv] at a1
          exact k ls H1 locs1 h1 a1 a3
        cases hfin : (q2.2.1 f.2.2.1).2.2.2 with
        | false => exact va_put (C := q2.1) (T := q2.2.1) (N := q2.2.2) (ty := t) F.1.1 F.1.2.1 F.1.2.2.2.2 hcin ty0 hty hnm F.1.2.2.2.1 F.2.1.1 h2 hD h3 i (zz_w_obj hin h5) hq f.2.2.1 (of_decide_eq_true hk) hlk (fun _ h => h) hfin ht2 ht3 ht4 (by rw [List.length_mapIdx]; exact (List.getElem?_eq_some_iff.mp h6).1) hd hgo
        | true => exact va_putF (C := q2.1) (T := q2.2.1) (N := q2.2.2) (ty := t) F.1.1 F.1.2.1 F.1.2.2.2.2 hcin ty0 hty hnm F.1.2.2.2.1 F.2.1.1 h2 hD h3 i (zz_w_obj hin h5) hq f.2.2.1 (of_decide_eq_true hk) hlk (fun _ h => h) hfin hin2 hdecl ht2 ht3 ht4 (by rw [List.length_mapIdx]; exact (List.getElem?_eq_some_iff.mp h6).1) hd hgo
      · cases hl
    · cases hs
  · cases hs

set_option maxHeartbeats 1000000 in
theorem zz_w_getstatic {p : Program} {l : Launch} {e : Env} {R : Room} {s : State} {m : MethodId} {args : Array Value} {below : List Frame} {meth : Method} {c : Code} {Q : State → Prop} {S0 : mz_Sh} {T0 : List (List Int32)} {cl : List vw_C} {NM : List String} {ST : List (String × Nat × String)} {G0 : List Jvm.Cond} {gt : Nat → Option Jvm.Cond} {CT : List zz_R} {D : va_G} {cI : ClassId} {ad : Nat → Nat} {nL Ln sz n0 nE : Nat} {xs : Nat → Int32} {own : String} {cc : ByteArray} (F : zz_Fix p R s m args meth c S0 T0 cl NM ST G0 gt CT D cI ad nL Ln sz n0 nE xs own cc) {f : mz_I} {pc : Nat} {L : List (Option Value)} {S : List Value} {n : Nat} {z : Nat → Nat → Bool} {mem : mz_M} {c1 : zz_C} {x : Nat} (hd : decode cc pc = .ok (.getstatic x, 3)) (hl : zz_lk cl NM ST gt CT own (.getstatic x) f = true) (hn0 : n0 ≤ n) (hnS : n ≤ S0.length) (hnE : c1.2.2.2.1 ≤ nE) (hs : zz_step S0 T0 (.getstatic x) f pc L S n z mem = some (.inl c1)) (k : zz_Z p l e R s m args below meth c Q S0 cl D cI ad nL sz n0 c1) : zz_Z p l e R s m args below meth c Q S0 cl D cI ad nL sz n0 (pc, L, S, n, z, mem) := by
  simp only [zz_lk] at hl
  simp only [zz_step] at hs
  obtain rfl := Sum.inl.inj (Option.some.inj hs)
  split at hl
  · rename_i nm hnm
    have hZ := F.2.1.2.2.2.1.1 _ _ hnm
    exact fun ls H locs h1 h2 h3 => va_getsN F.1.1 F.1.2.1 (hZ.narrow (fun _ h => h)) h3 F.1.2.2.2.1 (va_Nw.use rfl (F.2.1.2.2.2.1.2.2.2.2.2.1 _ (F.2.2.2.2.2.2.2.2.2.1 _ _ (of_decide_eq_true hl)) rfl)) (fun _ h => h) hd (k ls H locs h1 h2 h3)
  · cases hl

set_option maxHeartbeats 1000000 in
theorem zz_w_iastore {p : Program} {l : Launch} {e : Env} {R : Room} {s : State} {m : MethodId} {args : Array Value} {below : List Frame} {meth : Method} {c : Code} {Q : State → Prop} {S0 : mz_Sh} {T0 : List (List Int32)} {cl : List vw_C} {NM : List String} {ST : List (String × Nat × String)} {G0 : List Jvm.Cond} {gt : Nat → Option Jvm.Cond} {CT : List zz_R} {D : va_G} {cI : ClassId} {ad : Nat → Nat} {nL Ln sz n0 nE : Nat} {xs : Nat → Int32} {own : String} {cc : ByteArray} (F : zz_Fix p R s m args meth c S0 T0 cl NM ST G0 gt CT D cI ad nL Ln sz n0 nE xs own cc) {f : mz_I} {pc : Nat} {L : List (Option Value)} {S : List Value} {n : Nat} {z : Nat → Nat → Bool} {mem : mz_M} {c1 : zz_C} (hd : decode cc pc = .ok (.iastore, 1)) (hl : zz_lk cl NM ST gt CT own (.iastore) f = true) (hn0 : n0 ≤ n) (hnS : n ≤ S0.length) (hnE : c1.2.2.2.1 ≤ nE) (hs : zz_step S0 T0 (.iastore) f pc L S n z mem = some (.inl c1)) (k : zz_Z p l e R s m args below meth c Q S0 cl D cI ad nL sz n0 c1) : zz_Z p l e R s m args below meth c Q S0 cl D cI ad nL sz n0 (pc, L, S, n, z, mem) := by
  simp only [zz_step] at hs
  split at hs
  · rename_i x j i S1
    obtain ⟨hin, hs⟩ := mz_cond hs
    have hin := of_decide_eq_true hin
    split at hs
    · rename_i kk hkk
      obtain ⟨hb, hs⟩ := mz_cond hs
      cases hs
      intro ls H locs h1 h2 h3
      have hD := zz_Dd (S0 := S0) (cI := cI) (z := z) (m := mem) F.2.1.2.2.1 (Nat.le_trans hnS F.2.2.2.2.2.2.1)
      refine va_iast F.1.1 F.1.2.1 F.2.1.1 h2 hD h3 i 0 (zz_w_arr hin hkk) rfl (mz_in_of hb) hd (fun H1 locs1 a1 a2 a3 => ?_)
      rw [zz_w_set (z' := z) (m' := mz_up mem i j.toNatClampNeg x) hin _ (by rw [zz_cell, hkk]; refine congrArg (fun g => (Sum.inl (cI, kk, .inl g) : va_E)) ?_; funext b; rw [mz_up_eq]; rfl) (fun j hj => zz_cell_ne (mz_up_ne hj) rfl)] at a1
      exact k ls H1 locs1 h1 a1 a3
    · cases hs
  · cases hs

theorem zz_sz {p : Program} {l : Launch} {e : Env} {R : Room} {s : State} {m : MethodId} {args : Array Value} {below : List Frame} {meth : Method} {c : Code} {H : Heap} {locs : List Loc} {cells slots : Nat} {Q : State → Prop} {g : JFrame} (k : H.size ≤ s.heap.size + cells → W p l e R s m args below meth c H locs cells slots Q g) : W p l e R s m args below meth c H locs cells slots Q g := by
  intro T hT X
  exact k (by rw [← hT]; exact X.heapSize) T hT X
theorem zz_hsz {s : State} {S0 : mz_Sh} {cl : List vw_C} {D : va_G} {cI : ClassId} {ad : Nat → Nat} {sz n0 n : Nat} {z : Nat → Nat → Bool} {m : mz_M} {H : Heap} {locs : List Loc} (had : ∀ i, i < 1000 → ad i = sz + i) (hs : s.heap.size = sz + n0) (hn0 : n0 ≤ n) (hn : n ≤ 1000) (h2 : va_P D cl (zz_w S0 cI ad z m n) H) (h3 : va_S (zz_A sz) s.heap H locs) (hu : H.size ≤ s.heap.size + (n - n0)) : H.size = sz + n := by
  by_cases he : n = n0
  · have := h3.1
    omega
  · have h4 := (h2 (n - 1) _ (zz_w_at (by omega))).lt
    have h5 : ad (n - 1) < H.size := h4
    rw [had (n - 1) (by omega)] at h5
    omega
/-- a new cell at the heap's end -/
theorem zz_grow {s : State} {S0 : mz_Sh} {cl : List vw_C} {D : va_G} {cI : ClassId} {ad : Nat → Nat} {sz n : Nat} {z z' : Nat → Nat → Bool} {m m' : mz_M} {H H1 : Heap} {locs : List Loc} (e : va_E) (he : zz_cell S0 cI ad z' m' n = e) (ho : ∀ j, j ≠ n → zz_cell S0 cI ad z' m' j = zz_cell S0 cI ad z m j) (h2 : va_P D cl (zz_w S0 cI ad z m n) H) (h3 : va_S (zz_A sz) s.heap H locs) (hz : H1.size = H.size + 1) (hk : ∀ q, q < H.size → H1[q]? = H[q]?) (h1 : va_at D cl (ad n, e) H1) : va_P D cl (zz_w S0 cI ad z' m' (n + 1)) H1 ∧ va_S (zz_A sz) s.heap H1 locs := by
  refine ⟨?_, by have := h3.1; omega, fun q hq hA => (hk q (Nat.lt_of_lt_of_le hq h3.1)).trans (h3.2.1 q hq hA), h3.2.2⟩
  rw [← zz_w_push e he ho]
  refine (h2.kept (fun k q hq => hk _ (h2 k q hq).lt)).app (fun k q hq => ?_)
  have hz : k < 1 := (List.getElem?_eq_some_iff.mp hq).1
  rw [show k = 0 by omega] at hq
  cases hq
  exact h1

set_option maxHeartbeats 4000000 in
theorem zz_w_new {p : Program} {l : Launch} {e : Env} {R : Room} {s : State} {m : MethodId} {args : Array Value} {below : List Frame} {meth : Method} {c : Code} {Q : State → Prop} {S0 : mz_Sh} {T0 : List (List Int32)} {cl : List vw_C} {NM : List String} {ST : List (String × Nat × String)} {G0 : List Jvm.Cond} {gt : Nat → Option Jvm.Cond} {CT : List zz_R} {D : va_G} {cI : ClassId} {ad : Nat → Nat} {nL Ln sz n0 nE : Nat} {xs : Nat → Int32} {own : String} {cc : ByteArray} (F : zz_Fix p R s m args meth c S0 T0 cl NM ST G0 gt CT D cI ad nL Ln sz n0 nE xs own cc) {f : mz_I} {pc : Nat} {L : List (Option Value)} {S : List Value} {n : Nat} {z : Nat → Nat → Bool} {mem : mz_M} {c1 : zz_C} {x : Nat} (hd : decode cc pc = .ok (.new x, 3)) (hl : zz_lk cl NM ST gt CT own (.new x) f = true) (hn0 : n0 ≤ n) (hnS : n ≤ S0.length) (hnE : c1.2.2.2.1 ≤ nE) (hs : zz_step S0 T0 (.new x) f pc L S n z mem = some (.inl c1)) (k : zz_Z p l e R s m args below meth c Q S0 cl D cI ad nL sz n0 c1) : zz_Z p l e R s m args below meth c Q S0 cl D cI ad nL sz n0 (pc, L, S, n, z, mem) := by
  simp only [zz_lk] at hl
  simp only [zz_step] at hs
  split at hs
  · rename_i ci fs hS
    obtain ⟨hb, hs⟩ := mz_cond hs
    have hci : ci = f.2.1 := by simpa using hb
    cases hs
    split at hl
    · rename_i q hq
      have hlk := zz_Gi F (of_decide_eq_true hl) rfl
      rw [← hci] at hq
      obtain ⟨q1, hq1, hlen, hsh⟩ := F.2.2.2.2.1.1 _ _ _ hS
      obtain ⟨q2, hq2, -, hsh2⟩ := F.2.2.2.2.1.2 _ _ _ hS
      obtain rfl : q1 = q := Option.some.inj (hq1.symm.trans hq)
      obtain rfl : q2 = q1 := Option.some.inj (hq2.symm.trans hq)
      obtain ⟨hcin, hnm, ty0, hty⟩ := F.2.2.2.1 _ _ hq
      have hin2 := F.2.2.2.2.2.2.2.1 _ _ hq
      have hKn := F.2.1.1.1 _ _ hq
      have hslsz : zz_sl S0 (n + 1) = zz_sl S0 n + q2.2.2 := by rw [zz_sl_succ, hS, ← hlen]
      have hslm := zz_sl_mono S0 hn0
      have hn1 : n + 1 ≤ 1000 := Nat.le_trans (mz_lt hS) F.2.2.2.2.2.2.1
      have hnE : n + 1 ≤ nE := hnE
      have hslE := zz_sl_mono S0 hnE
      have hrc := F.2.2.1.2.2.1
      have hrs := F.2.2.1.2.2.2
      intro ls H locs h1 h2 h3
      show W p l e R s m args below meth c H locs (n - n0) (zz_sl S0 n - zz_sl S0 n0) Q (F0 m pc ls (S.map (mz_cvv ad)))
      refine zz_sz (fun hu => ?_)
      have hH := zz_hsz F.2.1.2.2.1 F.2.1.2.1 hn0 (by omega) h2 h3 hu
      have had : ad n = H.size := by rw [hH]; exact F.2.1.2.2.1 n (by omega)
      refine W.newcK F.1.1 F.1.2.1 F.1.2.2.2.1 hlk (F.1.2.2.2.2 _ hin2.1) (F.1.2.2.2.2 _ hin2.2) rfl hd (by omega) (by omega) hKn.2.1 rfl fun H1 kC hkC e1 z1 o1 => ?_
      have hcell : zz_cell S0 cI ad (zz_un z n) (mz_set0 mem n (fun _ => 0)) n = .inr (ci, fs.mapIdx (zz_fv ad (zz_un z n) (mz_set0 mem n (fun _ => 0)) n)) := by rw [zz_cell, hS]
      have hborn := u_born (ws := mz_G G0) ty0 F.1.2.2.2.2 hcin hKn hkC e1 hty
      obtain ⟨b1, b2⟩ := zz_grow _ hcell (fun j hj => zz_cell_ne (zz_set_ne hj) (zz_un_ne hj)) h2 h3 z1 o1 (by
        refine ⟨q2, hq, ?_⟩
        rw [had]
        refine hborn.to (fun k hk => ?_)
        have hkl : k < fs.length := by rw [hlen]; exact hk
        have hfk : fs[k]? = some fs[k] := List.getElem?_eq_getElem hkl
        show defaultValue (ty0 k) = (fs.mapIdx (zz_fv ad (zz_un z n) (mz_set0 mem n (fun _ => 0)) n)).getD k .null
        rw [List.getD_eq_getElem?_getD, List.getElem?_mapIdx, hfk]
        show defaultValue (ty0 k) = zz_fv ad (zz_un z n) (mz_set0 mem n (fun _ => 0)) n k fs[k]
        have hz0 : zz_un z n n k = false := by simp [zz_un]
        have hm0 : mz_set0 mem n (fun _ => 0) n k = 0 := by simp [mz_set0]
        have hp := hty k hk
        generalize fs[k] = g at hfk
        match g, hfk with
        | 0, hfk =>
          have := ((hsh _ _ hfk).1 rfl).2
          rw [hp] at this
          have h9 : ty0 k = .int := Option.some.inj this
          rw [h9]
          simp [zz_fv, hm0, defaultValue]
        | 1, hfk =>
          have := ((hsh _ _ hfk).2.1 rfl).2
          rw [hp] at this
          have h9 : ty0 k = .boolean := Option.some.inj this
          rw [h9]
          simp [zz_fv, hm0, defaultValue]
        | 2, hfk =>
          have := ((hsh _ _ hfk).2.2 rfl).2
          rw [hp] at this
          have h9 : ty0 k = .object "java/lang/String" := Option.some.inj this
          rw [h9]
          simp [zz_fv, hz0, defaultValue]
        | r + 3, hfk =>
          obtain ⟨t, a1, -, -, a4⟩ := hsh2 _ _ hfk
          rw [hp] at a1
          cases a1
          simp [zz_fv, hz0, a4])
      have hk : W p l e R s m args below meth c H1 locs (n + 1 - n0) (zz_sl S0 (n + 1) - zz_sl S0 n0) Q (F0 m (pc + 3) ls ((Value.ref n :: S).map (mz_cvv ad))) := k ls H1 locs h1 b1 b2
      have e1 : n + 1 - n0 = n - n0 + 1 := by omega
      have e2 : zz_sl S0 (n + 1) - zz_sl S0 n0 = zz_sl S0 n - zz_sl S0 n0 + q2.2.2 := by omega
      rw [e1, e2] at hk
      have e3 : (Value.ref n :: S).map (mz_cvv ad) = .ref H.size :: S.map (mz_cvv ad) := by rw [← had]; rfl
      rw [e3] at hk
      exact hk
    · cases hl
  · cases hs

set_option maxHeartbeats 4000000 in
theorem zz_w_newarray {p : Program} {l : Launch} {e : Env} {R : Room} {s : State} {m : MethodId} {args : Array Value} {below : List Frame} {meth : Method} {c : Code} {Q : State → Prop} {S0 : mz_Sh} {T0 : List (List Int32)} {cl : List vw_C} {NM : List String} {ST : List (String × Nat × String)} {G0 : List Jvm.Cond} {gt : Nat → Option Jvm.Cond} {CT : List zz_R} {D : va_G} {cI : ClassId} {ad : Nat → Nat} {nL Ln sz n0 nE : Nat} {xs : Nat → Int32} {own : String} {cc : ByteArray} (F : zz_Fix p R s m args meth c S0 T0 cl NM ST G0 gt CT D cI ad nL Ln sz n0 nE xs own cc) {f : mz_I} {pc : Nat} {L : List (Option Value)} {S : List Value} {n : Nat} {z : Nat → Nat → Bool} {mem : mz_M} {c1 : zz_C} (hd : decode cc pc = .ok (.newarray .int, 2)) (hl : zz_lk cl NM ST gt CT own (.newarray .int) f = true) (hn0 : n0 ≤ n) (hnS : n ≤ S0.length) (hnE : c1.2.2.2.1 ≤ nE) (hs : zz_step S0 T0 (.newarray .int) f pc L S n z mem = some (.inl c1)) (k : zz_Z p l e R s m args below meth c Q S0 cl D cI ad nL sz n0 c1) : zz_Z p l e R s m args below meth c Q S0 cl D cI ad nL sz n0 (pc, L, S, n, z, mem) := by
  simp only [zz_step] at hs
  split at hs
  · rename_i j S1
    split at hs
    · rename_i kk hS
      obtain ⟨hb, hs⟩ := mz_cond hs
      cases hs
      rw [Bool.and_eq_true] at hb
      have hj : j = Int32.ofNat kk := by simpa using hb.1
      have hk5 : kk < 100000 := of_decide_eq_true hb.2
      subst hj
      have hslsz : zz_sl S0 (n + 1) = zz_sl S0 n + kk := by rw [zz_sl_succ, hS]
      have hslm := zz_sl_mono S0 hn0
      have hn1 : n + 1 ≤ 1000 := Nat.le_trans (mz_lt hS) F.2.2.2.2.2.2.1
      have hnE : n + 1 ≤ nE := hnE
      have hslE := zz_sl_mono S0 hnE
      have hrc := F.2.2.1.2.2.1
      have hrs := F.2.2.1.2.2.2
      intro ls H locs h1 h2 h3
      show W p l e R s m args below meth c H locs (n - n0) (zz_sl S0 n - zz_sl S0 n0) Q (F0 m pc ls ((Value.int (Int32.ofNat kk) :: S1).map (mz_cvv ad)))
      refine zz_sz (fun hu => ?_)
      have hH := zz_hsz F.2.1.2.2.1 F.2.1.2.1 hn0 (by omega) h2 h3 hu
      have had : ad n = H.size := by rw [hH]; exact F.2.1.2.2.1 n (by omega)
      have hlt : kk < 2 ^ 31 := by omega
      refine va_newaK F.1.1 F.1.2.1 (atype := .int) (zz_Pw F (by simp [zz_pw, newarray.typeOf])) rfl hd rfl (nI_pos hlt) (nI_clamp hlt) (by show kk * 4 ≤ 536870912; omega) (by omega) (by omega) rfl fun H1 cA e1 z1 o1 hAr hNm => ?_
      have hcA : cA = cI := by
        have h5 : s.vm.findClass ("[" ++ FieldType.int.toString) = some cI := (F.2.1.1.2 0 (cI, .int) rfl).2
        exact Option.some.inj (hNm.symm.trans h5)
      subst hcA
      have hcell : zz_cell S0 cA ad z (mz_set0 mem n (fun _ => 0)) n = .inl (cA, kk, .inl (fun _ => 0)) := by rw [zz_cell, hS, zz_set_eq]
      obtain ⟨b1, b2⟩ := zz_grow _ hcell (fun j hj => zz_cell_ne (zz_set_ne hj) rfl) h2 h3 z1 o1 (by
        show H1[ad n]? = some (vp_cell cA (kk, .inl (fun _ => 0)))
        rw [had, e1, vp_cell_i]
        rfl)
      have hk : W p l e R s m args below meth c H1 locs (n + 1 - n0) (zz_sl S0 (n + 1) - zz_sl S0 n0) Q (F0 m (pc + 2) ls ((Value.ref n :: S1).map (mz_cvv ad))) := k ls H1 locs h1 b1 b2
      have e1 : n + 1 - n0 = n - n0 + 1 := by omega
      have e2 : zz_sl S0 (n + 1) - zz_sl S0 n0 = zz_sl S0 n - zz_sl S0 n0 + kk := by omega
      rw [e1, e2] at hk
      have e3 : (Value.ref n :: S1).map (mz_cvv ad) = .ref H.size :: S1.map (mz_cvv ad) := by rw [← had]; rfl
      rw [e3] at hk
      exact hk
    · cases hs
  · cases hs

set_option maxHeartbeats 1000000 in
theorem zz_w_checkcast {p : Program} {l : Launch} {e : Env} {R : Room} {s : State} {m : MethodId} {args : Array Value} {below : List Frame} {meth : Method} {c : Code} {Q : State → Prop} {S0 : mz_Sh} {T0 : List (List Int32)} {cl : List vw_C} {NM : List String} {ST : List (String × Nat × String)} {G0 : List Jvm.Cond} {gt : Nat → Option Jvm.Cond} {CT : List zz_R} {D : va_G} {cI : ClassId} {ad : Nat → Nat} {nL Ln sz n0 nE : Nat} {xs : Nat → Int32} {own : String} {cc : ByteArray} (F : zz_Fix p R s m args meth c S0 T0 cl NM ST G0 gt CT D cI ad nL Ln sz n0 nE xs own cc) {f : mz_I} {pc : Nat} {L : List (Option Value)} {S : List Value} {n : Nat} {z : Nat → Nat → Bool} {mem : mz_M} {c1 : zz_C} {x : Nat} (hd : decode cc pc = .ok (.checkcast x, 3)) (hl : zz_lk cl NM ST gt CT own (.checkcast x) f = true) (hn0 : n0 ≤ n) (hnS : n ≤ S0.length) (hnE : c1.2.2.2.1 ≤ nE) (hs : zz_step S0 T0 (.checkcast x) f pc L S n z mem = some (.inl c1)) (k : zz_Z p l e R s m args below meth c Q S0 cl D cI ad nL sz n0 c1) : zz_Z p l e R s m args below meth c Q S0 cl D cI ad nL sz n0 (pc, L, S, n, z, mem) := by
  simp only [zz_lk] at hl
  simp only [zz_step] at hs
  split at hs
  · rename_i i S1
    obtain ⟨hin, hs⟩ := mz_cond hs
    have hin := of_decide_eq_true hin
    split at hs
    · rename_i kk hS
      cases hs
      have h5 : s.vm.findClass ("[" ++ FieldType.int.toString) = some cI := (F.2.1.1.2 0 (cI, .int) rfl).2
      exact fun ls H locs h1 h2 h3 => va_castA F.1.1 F.1.2.1 F.1.2.2.2.1 (zz_Gi F (of_decide_eq_true hl) rfl) h2 i (zz_w_arr hin hS) h5 hd (k ls H locs h1 h2 h3)
    · cases hs
  · cases hs

set_option maxHeartbeats 4000000 in
theorem zz_w_clone {p : Program} {l : Launch} {e : Env} {R : Room} {s : State} {m : MethodId} {args : Array Value} {below : List Frame} {meth : Method} {c : Code} {Q : State → Prop} {S0 : mz_Sh} {T0 : List (List Int32)} {cl : List vw_C} {NM : List String} {ST : List (String × Nat × String)} {G0 : List Jvm.Cond} {gt : Nat → Option Jvm.Cond} {CT : List zz_R} {D : va_G} {cI : ClassId} {ad : Nat → Nat} {nL Ln sz n0 nE : Nat} {xs : Nat → Int32} {own : String} {cc : ByteArray} (F : zz_Fix p R s m args meth c S0 T0 cl NM ST G0 gt CT D cI ad nL Ln sz n0 nE xs own cc) {f : mz_I} {pc : Nat} {L : List (Option Value)} {S : List Value} {n : Nat} {z : Nat → Nat → Bool} {mem : mz_M} {c1 : zz_C} {x : Nat} (hd : decode cc pc = .ok (.invokevirtual x, 3)) (hl : zz_lk cl NM ST gt CT own (.invokevirtual x) f = true) (hn0 : n0 ≤ n) (hnS : n ≤ S0.length) (hnE : c1.2.2.2.1 ≤ nE) (hs : zz_step S0 T0 (.invokevirtual x) f pc L S n z mem = some (.inl c1)) (k : zz_Z p l e R s m args below meth c Q S0 cl D cI ad nL sz n0 c1) : zz_Z p l e R s m args below meth c Q S0 cl D cI ad nL sz n0 (pc, L, S, n, z, mem) := by
  have hl := of_decide_eq_true hl
  simp only [zz_step] at hs
  replace hs := (mz_cond hs).2
  split at hs
  · rename_i S1
    split at hs
    · rename_i kk t hS ht
      obtain ⟨hb, hs⟩ := mz_cond hs
      cases hs
      rw [Bool.and_eq_true] at hb
      have hkk : kk = t.length := by simpa using hb.1
      have hcat := of_decide_eq_true hb.2
      subst hkk
      have hslsz : zz_sl S0 (n + 1) = zz_sl S0 n + t.length := by rw [zz_sl_succ, hS]
      have hslm := zz_sl_mono S0 hn0
      have hn1 : n + 1 ≤ 1000 := Nat.le_trans (mz_lt hS) F.2.2.2.2.2.2.1
      have hnE : n + 1 ≤ nE := hnE
      have hslE := zz_sl_mono S0 hnE
      have hrc := F.2.2.1.2.2.1
      have hrs := F.2.2.1.2.2.2
      intro ls H locs h1 h2 h3
      show W p l e R s m args below meth c H locs (n - n0) (zz_sl S0 n - zz_sl S0 n0) Q (F0 m pc ls ((Value.ref 1004 :: S1).map (mz_cvv ad)))
      refine zz_sz (fun hu => ?_)
      have hH := zz_hsz F.2.1.2.2.1 F.2.1.2.1 hn0 (by omega) h2 h3 hu
      have had : ad n = H.size := by rw [hH]; exact F.2.1.2.2.1 n (by omega)
      obtain ⟨cell, tt, g0, g1, g2, g3, g4, g5, g6, g7⟩ := F.2.1.2.2.2.2.kept h3.2.1
      obtain rfl : tt = t := Option.some.inj (g0.symm.trans ht)
      have hcls : cell.cls = cI := by
        have h5 : s.vm.findClass ("[" ++ FieldType.int.toString) = some cI := (F.2.1.1.2 0 (cI, .int) rfl).2
        exact Option.some.inj (g4.symm.trans h5)
      obtain ⟨c0, t0', f1, f2, f3⟩ := Cond.castable_spec (va_Nw.use (A := args) rfl (F.2.1.2.2.2.1.2.2.2.2.2.1 _ F.2.2.2.2.2.2.2.2.2.2 rfl))
      obtain rfl : c0 = cell.cls := Option.some.inj (f1.symm.trans g4)
      have hcellE : ({ cls := cell.cls, slots := cell.slots } : Cell) = vp_cell cI (tt.length, .inl (fun j => tt.getD j 0)) := by
        rw [vp_cell_i, hcls]
        have hsl : cell.slots = Array.ofFn (n := tt.length) fun j => Value.int (tt.getD j.val 0) := by
          apply Array.ext_getElem?
          intro j
          by_cases hj : j < tt.length
          · rw [g6 j hj]
            simp [hj]
          · rw [Array.getElem?_eq_none (by omega), Array.getElem?_eq_none (by simp; omega)]
        rw [hsl]
        rfl
      intro T hT X
      have hAt := (F.2.1.1.2 0 (cI, .int) rfl).1
      obtain ⟨-, kA, hkA, comp, hkind⟩ := State.isArrayOf_alike X.warmed.alike (hAt 0 (fun _ => .null))
      obtain ⟨-, kS, hkS, compS, hkindS⟩ := hAt 0 (fun _ => .null)
      obtain ⟨vm', X', st⟩ := X.cloneArray F.1.1 F.1.2.2.2.1 (zz_Gi F hl rfl) (zz_Pw F (by simp [zz_pw])) (zz_Pw F (by simp [zz_pw])) (zz_Pw F (by simp [zz_pw])) (zz_Pw F (by simp [zz_pw])) (a := ad 1004) (cell := cell) (by rw [hT]; exact g1) (fun k h => by rw [h] at g2; cases g2) g3 g4 f2 f3
        (fun i v hv => by
          have hi : i < tt.length := by rw [← g5]; exact (Array.getElem?_eq_some_iff.mp hv).1
          rw [g6 i hi] at hv
          cases hv
          have hk' : T.vm.classes[cell.cls]? = some kA := by rw [hcls]; exact hkA
          simp [State.fitsSlot, State.slotType?, hk', hkind, fits])
        (g := F0 m pc ls (.ref (ad 1004) :: S1.map (mz_cvv ad))) rfl (by rw [F.1.2.2.1]; exact h1.1) rfl (by rw [F.1.2.1]; exact hd) F.2.2.1.1 (by show 2 * 0 + _ + 14 ≤ _; rw [mz_cat_map]; have := F.2.2.1.2.1; omega) (by omega) (by rw [g5]; omega) (hloader := by rw [hcls]; exact Vm.clonesLoader_of_array hkS hkindS)
      rw [hcellE, g5] at X'
      rw [hcellE] at st
      generalize hH1 : H.push (vp_cell cI (tt.length, .inl (fun j => tt.getD j 0))) = H1
      have z1 : H1.size = H.size + 1 := by rw [← hH1, Array.size_push]
      have e1 : H1[H.size]? = some (vp_cell cI (tt.length, .inl (fun j => tt.getD j 0))) := by rw [← hH1, Array.getElem?_push_size]
      have o1 : ∀ q : Nat, q < H.size → H1[q]? = H[q]? := fun q hq => by rw [← hH1, Array.getElem?_push, if_neg (Nat.ne_of_lt hq)]
      have hcell : zz_cell S0 cI ad z (mz_set0 mem n (fun j => tt.getD j 0)) n = .inl (cI, tt.length, .inl (fun j => tt.getD j 0)) := by rw [zz_cell, hS, zz_set_eq]
      obtain ⟨b1, b2⟩ := zz_grow _ hcell (fun j hj => zz_cell_ne (zz_set_ne hj) rfl) h2 h3 z1 o1 (by
        show H1[ad n]? = some (vp_cell cI (tt.length, .inl (fun j => tt.getD j 0)))
        rw [had]
        exact e1)
      have hk : W p l e R s m args below meth c H1 locs (n + 1 - n0) (zz_sl S0 (n + 1) - zz_sl S0 n0) Q (F0 m (pc + 3) ls ((Value.ref n :: S1).map (mz_cvv ad))) := k ls H1 locs h1 b1 b2
      have e4 : n + 1 - n0 = n - n0 + 1 := by omega
      have e2 : zz_sl S0 (n + 1) - zz_sl S0 n0 = zz_sl S0 n - zz_sl S0 n0 + tt.length := by omega
      rw [e4, e2] at hk
      have e3 : (Value.ref n :: S1).map (mz_cvv ad) = .ref H.size :: S1.map (mz_cvv ad) := by rw [← had]; rfl
      rw [e3] at hk
      obtain ⟨t, b3, b4⟩ := hk ((T.setVm vm').pushCell (vp_cell cI (tt.length, .inl (fun j => tt.getD j 0)))) (by rw [← hH1, ← hT]; rfl) X'
      refine ⟨t, st t ?_, b4⟩
      rw [hT]
      exact b3
    · cases hs
  · cases hs

set_option maxHeartbeats 1000000 in
theorem zz_w_objinit {p : Program} {l : Launch} {e : Env} {R : Room} {s : State} {m : MethodId} {args : Array Value} {below : List Frame} {meth : Method} {c : Code} {Q : State → Prop} {S0 : mz_Sh} {T0 : List (List Int32)} {cl : List vw_C} {NM : List String} {ST : List (String × Nat × String)} {G0 : List Jvm.Cond} {gt : Nat → Option Jvm.Cond} {CT : List zz_R} {D : va_G} {cI : ClassId} {ad : Nat → Nat} {nL Ln sz n0 nE : Nat} {xs : Nat → Int32} {own : String} {cc : ByteArray} (F : zz_Fix p R s m args meth c S0 T0 cl NM ST G0 gt CT D cI ad nL Ln sz n0 nE xs own cc) {f : mz_I} {pc : Nat} {L : List (Option Value)} {S : List Value} {n : Nat} {z : Nat → Nat → Bool} {mem : mz_M} {c1 : zz_C} {x : Nat} (hd : decode cc pc = .ok (.invokespecial x, 3)) (hl : zz_lk cl NM ST gt CT own (.invokespecial x) f = true) (hn0 : n0 ≤ n) (hnS : n ≤ S0.length) (hnE : c1.2.2.2.1 ≤ nE) (hs : zz_step S0 T0 (.invokespecial x) f pc L S n z mem = some (.inl c1)) (k : zz_Z p l e R s m args below meth c Q S0 cl D cI ad nL sz n0 c1) : zz_Z p l e R s m args below meth c Q S0 cl D cI ad nL sz n0 (pc, L, S, n, z, mem) := by
  simp only [zz_lk] at hl
  simp only [zz_step] at hs
  split at hs
  · rename_i hf
    rw [hf] at hl
    split at hs
    · rename_i r S1
      obtain ⟨hb, hs⟩ := mz_cond hs
      cases hs
      have hb := of_decide_eq_true hb
      intro ls H locs h1 h2 h3
      exact W.objInit F.1.1 F.1.2.1 F.1.2.2.2.1 (zz_Gi F (of_decide_eq_true hl) rfl) (zz_Pw F (by simp [zz_pw])) (zz_Pw F (by simp [zz_pw])) rfl (by rw [F.1.2.2.1]; exact h1.1) rfl hd F.2.2.1.1 (by show 2 * 0 + _ + 12 ≤ _; rw [mz_cat_map]; have := F.2.2.1.2.1; omega) (k ls H locs h1 h2 h3)
    · cases hs
  · cases hs
  · cases hs
  · cases hs
end
section

def zz_isP : Instr → Bool
  | .putfield _ => true
  | _ => false
def zz_eok (cl : List vw_C) (NM : List String) (ST : List (String × Nat × String)) (gt : Nat → Option Jvm.Cond) (CT : List zz_R) (ini : Bool) (own : String) (b : ByteArray) (q : mz_E) : Bool := decide (decode b q.1 = .ok (q.2.1, q.2.2.1)) && (q.2.2.1 == mz_ln q.2.1 && (!zz_isP q.2.1 || ini)) && zz_lk cl NM ST gt CT own q.2.1 q.2.2.2
theorem zz_step_mono {S0 : mz_Sh} {T0 : List (List Int32)} {ins : Instr} {f : mz_I} {pc : Nat} {L : List (Option Value)} {S : List Value} {n : Nat} {z : Nat → Nat → Bool} {m : mz_M} {c1 : zz_C} (h : zz_step S0 T0 ins f pc L S n z m = some (.inl c1)) : n ≤ c1.2.2.2.1 ∧ (n ≤ S0.length → c1.2.2.2.1 ≤ S0.length) := by
  unfold zz_step at h
  split at h
  all_goals (try simp only [cond_eq_ite] at h)
  all_goals (repeat' (first | (cases h; done) | split at h))
  all_goals
    cases h
    first
      | exact ⟨Nat.le_refl _, id⟩
      | exact ⟨Nat.le_succ _, fun _ => mz_lt (by assumption)⟩
theorem zz_step_call {S0 : mz_Sh} {T0 : List (List Int32)} {ins : Instr} {f : mz_I} {pc : Nat} {L : List (Option Value)} {S : List Value} {n : Nat} {z : Nat → Nat → Bool} {m : mz_M} {a : Nat} (h : zz_step S0 T0 ins f pc L S n z m = some (.inr a)) : f.2.1 = a ∧ ∃ x, ins = .invokespecial x ∧ (f.1 = 32 ∨ f.1 = 33) := by
  unfold zz_step at h
  split at h
  all_goals (try simp only [cond_eq_ite] at h)
  all_goals (repeat' (first | (cases h; done) | split at h))
  · exact ⟨Sum.inr.inj (Option.some.inj h), _, rfl, Or.inl (by assumption)⟩
  · exact ⟨Sum.inr.inj (Option.some.inj h), _, rfl, Or.inr (by assumption)⟩
theorem zz_x_inv {S0 : mz_Sh} {T0 : List (List Int32)} {CT : List zz_R} {N d sp pc : Nat} {K : mz_K} {L : List (Option Value)} {S : List Value} {n : Nat} {z : Nat → Nat → Bool} {m : mz_M} {r : zz_C} (h : zz_x S0 T0 CT (N + 1) d sp K (pc, L, S, n, z, m) = some r) : (pc = sp ∧ r = (pc, L, S, n, z, m)) ∨ ∃ e, mz_fetch K pc = some e ∧ ((∃ c1, zz_step S0 T0 e.2.1 e.2.2.2 pc L S n z m = some (.inl c1) ∧ zz_x S0 T0 CT N d sp K c1 = some r) ∨ (∃ a rc d1 p1 L1 n1 z1 m1, zz_step S0 T0 e.2.1 e.2.2.2 pc L S n z m = some (.inr a) ∧ CT[a]? = some rc ∧ d = d1 + 1 ∧ zz_cal rc S = true ∧ zz_x S0 T0 CT N d1 rc.2.2.2.2.2 rc.2.2.2.2.1 (0, mz_ent (S.take rc.2.2.2.1).reverse rc.2.2.1, [], n, z, m) = some (p1, L1, [], n1, z1, m1) ∧ zz_x S0 T0 CT N d sp K (pc + 3, L, S.drop rc.2.2.2.1, n1, z1, m1) = some r)) := by
  rw [zz_x] at h
  cases hp : (pc == sp) with
  | true =>
    rw [hp] at h
    exact Or.inl ⟨by simpa using hp, (Option.some.inj h).symm⟩
  | false =>
    rw [hp] at h
    simp only [cond_false] at h
    refine Or.inr ?_
    split at h
    · cases h
    · rename_i e he
      refine ⟨e, he, ?_⟩
      split at h
      · cases h
      · rename_i c1 hs
        exact Or.inl ⟨c1, hs, h⟩
      · rename_i a hs
        split at h
        · rename_i rc d1 hR
          obtain ⟨hc, h2⟩ := mz_cond h
          split at h2
          · rename_i p1 L1 n1 z1 m1 h1
            exact Or.inr ⟨a, rc, d1, p1, L1, n1, z1, m1, hs, hR, rfl, hc, h1, h2⟩
          · cases h2
        · cases h
theorem zz_x_mono {S0 : mz_Sh} {T0 : List (List Int32)} {CT : List zz_R} : ∀ {N d sp : Nat} {K : mz_K} {c r : zz_C}, zz_x S0 T0 CT N d sp K c = some r → r.1 = sp ∧ c.2.2.2.1 ≤ r.2.2.2.1 ∧ (c.2.2.2.1 ≤ S0.length → r.2.2.2.1 ≤ S0.length) := by
  intro N
  induction N with
  | zero =>
    intro d sp K c r h
    cases h
  | succ N ih =>
    intro d sp K c r h
    obtain ⟨pc, L, S, n, z, m⟩ := c
    rcases zz_x_inv h with ⟨h1, h2⟩ | ⟨e, he, ⟨c1, hs, h1⟩ | ⟨a, rc, d1, p1, L1, n1, z1, m1, hs, hR, rfl, hc, h1, h2⟩⟩
    · subst h2
      exact ⟨h1, Nat.le_refl _, id⟩
    · obtain ⟨a1, a2⟩ := zz_step_mono hs
      obtain ⟨b1, b2, b3⟩ := ih h1
      exact ⟨b1, Nat.le_trans a1 b2, fun q => b3 (a2 q)⟩
    · obtain ⟨-, a1, a2⟩ := ih h1
      obtain ⟨b1, b2, b3⟩ := ih h2
      exact ⟨b1, Nat.le_trans a1 b2, fun q => b3 (a2 q)⟩

set_option maxHeartbeats 4000000 in
theorem zz_w_all {p : Program} {l : Launch} {e : Env} {R : Room} {s : State} {m : MethodId} {args : Array Value} {below : List Frame} {meth : Method} {c : Code} {Q : State → Prop} {S0 : mz_Sh} {T0 : List (List Int32)} {cl : List vw_C} {NM : List String} {ST : List (String × Nat × String)} {G0 : List Jvm.Cond} {gt : Nat → Option Jvm.Cond} {CT : List zz_R} {D : va_G} {cI : ClassId} {ad : Nat → Nat} {nL Ln sz n0 nE : Nat} {xs : Nat → Int32} {own : String} {cc : ByteArray} (F : zz_Fix p R s m args meth c S0 T0 cl NM ST G0 gt CT D cI ad nL Ln sz n0 nE xs own cc) {f : mz_I} {pc : Nat} {L : List (Option Value)} {S : List Value} {n : Nat} {z : Nat → Nat → Bool} {mem : mz_M} {c1 : zz_C} {ins : Instr} {len : Nat} (hin2 : zz_isP ins = true → meth.name = "<init>") (hd : decode cc pc = .ok (ins, len)) (hlen : (len == mz_ln ins) = true) (hl : zz_lk cl NM ST gt CT own ins f = true) (hn0 : n0 ≤ n) (hnS : n ≤ S0.length) (hnE : c1.2.2.2.1 ≤ nE) (hs : zz_step S0 T0 ins f pc L S n z mem = some (.inl c1)) (k : zz_Z p l e R s m args below meth c Q S0 cl D cI ad nL sz n0 c1) : zz_Z p l e R s m args below meth c Q S0 cl D cI ad nL sz n0 (pc, L, S, n, z, mem) := by
  cases ins with
  | dup =>
    obtain rfl : len = 1 := by simpa [mz_ln] using hlen
    exact zz_w_dup F hd hl hn0 hnS hnE hs k
  | iastore =>
    obtain rfl : len = 1 := by simpa [mz_ln] using hlen
    exact zz_w_iastore F hd hl hn0 hnS hnE hs k
  | iconst n =>
    obtain rfl : len = 1 := by simpa [mz_ln] using hlen
    exact zz_w_iconst F hd hl hn0 hnS hnE hs k
  | aload_n n =>
    obtain rfl : len = 1 := by simpa [mz_ln] using hlen
    exact zz_w_aload_n F hd hl hn0 hnS hnE hs k
  | astore_n n =>
    obtain rfl : len = 1 := by simpa [mz_ln] using hlen
    exact zz_w_astore_n F hd hl hn0 hnS hnE hs k
  | istore_n n =>
    obtain rfl : len = 1 := by simpa [mz_ln] using hlen
    exact zz_w_istore_n F hd hl hn0 hnS hnE hs k
  | bipush n =>
    obtain rfl : len = 2 := by simpa [mz_ln] using hlen
    exact zz_w_bipush F hd hl hn0 hnS hnE hs k
  | ldc n =>
    obtain rfl : len = 2 := by simpa [mz_ln] using hlen
    exact zz_w_ldc F hd hl hn0 hnS hnE hs k
  | sipush n =>
    obtain rfl : len = 3 := by simpa [mz_ln] using hlen
    exact zz_w_sipush F hd hl hn0 hnS hnE hs k
  | getfield n =>
    obtain rfl : len = 3 := by simpa [mz_ln] using hlen
    exact zz_w_getfield F hd hl hn0 hnS hnE hs k
  | getstatic n =>
    obtain rfl : len = 3 := by simpa [mz_ln] using hlen
    exact zz_w_getstatic F hd hl hn0 hnS hnE hs k
  | new n =>
    obtain rfl : len = 3 := by simpa [mz_ln] using hlen
    exact zz_w_new F hd hl hn0 hnS hnE hs k
  | invokevirtual n =>
    obtain rfl : len = 3 := by simpa [mz_ln] using hlen
    exact zz_w_clone F hd hl hn0 hnS hnE hs k
  | checkcast n =>
    obtain rfl : len = 3 := by simpa [mz_ln] using hlen
    exact zz_w_checkcast F hd hl hn0 hnS hnE hs k
  | invokespecial n =>
    obtain rfl : len = 3 := by simpa [mz_ln] using hlen
    exact zz_w_objinit F hd hl hn0 hnS hnE hs k
  | putfield n =>
    obtain rfl : len = 3 := by simpa [mz_ln] using hlen
    exact zz_w_putfield F (hin2 rfl) hd hl hn0 hnS hnE hs k
  | newarray t =>
    cases t with
    | int =>
      obtain rfl : len = 2 := by simpa [mz_ln] using hlen
      exact zz_w_newarray F hd hl hn0 hnS hnE hs k
    | _ => cases hs
  | _ => cases hs

/-- a run is a walk -/
def zz_Run (S0 : mz_Sh) (T0 : List (List Int32)) (cl : List vw_C) (NM : List String) (ST : List (String × Nat × String)) (G0 : List Jvm.Cond) (gt : Nat → Option Jvm.Cond) (CT : List zz_R) (N : Nat) : Prop := ∀ {p : Program} {l : Launch} {e : Env} {R : Room} {s : State} {m : MethodId} {args : Array Value} {below : List Frame} {meth : Method} {c : Code} {Q : State → Prop} {D : va_G} {cI : ClassId} {ad : Nat → Nat} {nL Ln sz n0 nE : Nat} {xs : Nat → Int32} {own : String} {cc : ByteArray} (d sp : Nat) (F : zz_Fix p R s m args meth c S0 T0 cl NM ST G0 gt CT D cI ad nL Ln sz n0 nE xs own cc) (hR : d + 1 ≤ R.frames ∧ 64 * (d + 1) ≤ R.locals) (K : mz_K) (ini : Bool) (hini : ini = true → meth.name = "<init>") (hK : ∀ q ∈ K, zz_eok cl NM ST gt CT ini own cc q = true) (pc : Nat) (L : List (Option Value)) (S : List Value) (n : Nat) (z : Nat → Nat → Bool) (mem : mz_M) (c1 : zz_C) (hn0 : n0 ≤ n) (hnS : n ≤ S0.length) (hnE : c1.2.2.2.1 ≤ nE) (hrun : zz_x S0 T0 CT N d sp K (pc, L, S, n, z, mem) = some c1) (k : zz_Z p l e R s m args below meth c Q S0 cl D cI ad nL sz n0 c1), zz_Z p l e R s m args below meth c Q S0 cl D cI ad nL sz n0 (pc, L, S, n, z, mem)
/-- a constructor's record is in order -/
def zz_Rok (cl : List vw_C) (NM : List String) (ST : List (String × Nat × String)) (G0 : List Jvm.Cond) (gt : Nat → Option Jvm.Cond) (CT : List zz_R) (r : zz_R) : Prop :=
  (plainName r.1.cls = true ∧ (r.1.cls ≠ "java/lang/invoke/MethodHandle" ∧ r.1.cls ≠ "java/lang/invoke/VarHandle") ∧ (parseMethodDescriptor r.1.desc).map (fun d => d.parameters.length) = some (r.2.2.2.1 - 1) ∧ r.2.2.1 ≤ 45 ∧ r.1.name = "<init>") ∧
  (Jvm.Cond.code r.1 r.2.1 r.2.2.1 none ∈ mz_G G0 ∧ Jvm.Cond.initialized r.1.cls ∈ mz_G G0 ∧ Jvm.Cond.instanceMethod r.1 ∈ mz_G G0) ∧
  decode r.2.1 r.2.2.2.2.2 = .ok (.return_, 1) ∧ (∀ q ∈ r.2.2.2.2.1, zz_eok cl NM ST gt CT true r.1.cls r.2.1 q = true)
def zz_ws (G0 : List Jvm.Cond) (r : zz_R) : List Jvm.Cond := .code r.1 r.2.1 r.2.2.1 none :: mz_G G0
def zz_rm (d mc ms : Nat) : Room := { frames := d + 1, cells := mc, slots := ms, locals := 64 * (d + 1) }
def zz_Pc (S0 : mz_Sh) (T0 : List (List Int32)) (cl : List vw_C) (NM : List String) (ST : List (String × Nat × String)) (G0 : List Jvm.Cond) (D : va_G) (cI : ClassId) (ad : Nat → Nat) (Ln : Nat) (xs : Nat → Int32) (sz : Nat) (as : List Value) (n : Nat) (z : Nat → Nat → Bool) (mem : mz_M) : Array Value → State → Prop := va_Pc (as.map (mz_cvv ad)) (fun U => U.heap.size = sz + n ∧ va_K D cl [(cI, .int)] U ∧ va_P D cl (zz_w S0 cI ad z mem n) U.heap ∧ mz_rok T0 NM ST G0 ad Ln xs (zz_A sz) U U.heap ∧ zz_rf T0 (ad 1004) (zz_A sz) U U.heap)
def zz_Qc (S0 : mz_Sh) (cl : List vw_C) (D : va_G) (cI : ClassId) (ad : Nat → Nat) (sz : Nat) (n : Nat) (z : Nat → Nat → Bool) (mem : mz_M) : Array Value → State → Outcome → State → Prop := fun _ st o t => o = .returned none ∧ va_P D cl (zz_w S0 cI ad z mem n) t.heap ∧ va_F (zz_A sz) st t
theorem zz_Pc_blind {S0 : mz_Sh} {T0 : List (List Int32)} {cl : List vw_C} {NM : List String} {ST : List (String × Nat × String)} {G0 : List Jvm.Cond} {D : va_G} {cI : ClassId} {ad : Nat → Nat} {Ln : Nat} {xs : Nat → Int32} {sz : Nat} {as : List Value} {n : Nat} {z : Nat → Nat → Bool} {mem : mz_M} : FrameBlind (zz_Pc S0 T0 cl NM ST G0 D cI ad Ln xs sz as n z mem) := by
  intro a U g mk q
  obtain ⟨q0, q1, qK, qP, qR, qs⟩ := q
  exact ⟨q0, q1, va_K.moved (u := U) (U := U.calling g mk a) (Vm.Alike.refl U.vm) qK, qP, mz_rok.same (u := U) (U := U.calling g mk a) rfl qR, zz_rf.moved (u := U) (U := U.calling g mk a) (Vm.Alike.refl U.vm) qs⟩


set_option maxHeartbeats 4000000 in
/-- a constructor's contract, from a run -/
theorem zz_met {S0 : mz_Sh} {T0 : List (List Int32)} {cl : List vw_C} {NM : List String} {ST : List (String × Nat × String)} {G0 : List Jvm.Cond} {gt : Nat → Option Jvm.Cond} {CT : List zz_R} {N : Nat} (IH : zz_Run S0 T0 cl NM ST G0 gt CT N) (hE : ((∀ (k : Nat) (q : vw_C), cl[k]? = some q → mz_cok G0 q) ∧ (mz_sok S0 cl ∧ zz_sok S0 cl) ∧ (∀ w ∈ zz_pw, w ∈ mz_G G0) ∧ S0.length ≤ 1000 ∧ zz_cin cl G0 ∧ NM.length = T0.length ∧ (∀ (i : Nat) (w : Jvm.Cond), gt i = some w → w ∈ G0) ∧ Jvm.Cond.castable "[I" "java/lang/Cloneable" ∈ G0))
    {rc : zz_R} (hrc : zz_Rok cl NM ST G0 gt CT rc) (l : Launch) (D : va_G) (cI : ClassId) (ad : Nat → Nat) (Ln : Nat) (xs : Nat → Int32) (sz d : Nat) (had : ∀ i, i < 1000 → ad i = sz + i) {as : List Value} {n n' p' : Nat} {z z' : Nat → Nat → Bool} {mem mem' : mz_M} {L' : List (Option Value)} (hnS : n ≤ S0.length) (hent : (mz_ent as rc.2.2.1).length = rc.2.2.1) (hrun : zz_x S0 T0 CT N d rc.2.2.2.2.2 rc.2.2.2.2.1 (0, mz_ent as rc.2.2.1, [], n, z, mem) = some (p', L', [], n', z', mem')) :
    Met l rc.1 (zz_ws G0 rc) (zz_rm d (n' - n) (zz_sl S0 n' - zz_sl S0 n)) (zz_Pc S0 T0 cl NM ST G0 D cI ad Ln xs sz as n z mem) (zz_Qc S0 cl D cI ad sz n' z' mem') (n' - n) (zz_sl S0 n' - zz_sl S0 n) (zz_A sz) := by
  obtain ⟨⟨hpl, -, -, -, hname⟩, -, hend, hcode⟩ := hrc
  refine Met.ofW (cc := rc.2.1) (maxL := rc.2.2.1) (ret := none) hpl rfl ?_
  intro p e s m args below meth c s₁ B hml hv
  obtain ⟨rfl, hsz, hK, hP, hRo, hrf⟩ := hv
  have hts := atoms_spec (ws := zz_ws G0 rc) B.pre
  have hown : s.vm.findClass rc.1.cls = some m.cls := findClass_of_methodNamed B.named
  have hnm : meth.name = "<init>" := (name_of_methodNamed B.named B.method).1.trans hname
  have hlocks := B.notSynchronized
  have hret := B.returns
  have hx := B.exec
  have hb := B.bytes
  have F : zz_Fix p (headSpec (zz_ws G0 rc) (zz_rm d (n' - n) (zz_sl S0 n' - zz_sl S0 n))).room s m (as.map (mz_cvv ad)).toArray meth c S0 T0 cl NM ST G0 gt CT D cI ad rc.2.2.1 Ln sz n n' xs rc.1.cls rc.2.1 :=
    ⟨⟨hx, hb, hml, hown, fun w hw => hts w (List.mem_cons_of_mem _ hw)⟩, ⟨hK, hsz, had, hRo, hrf⟩, ⟨Nat.le_add_left 1 d, by show 64 ≤ 64 * (d + 1); omega, Nat.le_refl _, Nat.le_refl _⟩, hE⟩
  rw [lg_entry_eq]
  have hp' : p' = rc.2.2.2.2.2 := (zz_x_mono hrun).1
  subst hp'
  have hgo := IH (below := below) (l := l) (e := e) (Q := MQ below (zz_Qc S0 cl D cI ad sz n' z' mem') (as.map (mz_cvv ad)).toArray s (n' - n) (zz_sl S0 n' - zz_sl S0 n) (zz_A sz)) d rc.2.2.2.2.2 F ⟨Nat.le_refl _, Nat.le_refl _⟩ rc.2.2.2.2.1 true (fun _ => hnm) hcode 0 (mz_ent as rc.2.2.1) [] n z mem (rc.2.2.2.2.2, L', [], n', z', mem') (Nat.le_refl _) hnS (Nat.le_refl _) hrun (by
    intro ls H locs h1 h2 h3
    have hq : ∀ t : State, t.heap = H → s.WarmedH t.vm → zz_Qc S0 cl D cI ad sz n' z' mem' (as.map (mz_cvv ad)).toArray s (.returned none) t := fun t ht hW => ⟨rfl, by rw [ht]; exact h2, h3.F ht⟩
    exact W.vret hx hb hret hq h3.2.2 hend) _ s.heap [] (mz_entry hent) hP va_S.rf
  simp only [Nat.sub_self] at hgo
  exact hgo
/-- behind a call -/
theorem zz_back {p : Program} {l : Launch} {e : Env} {R : Room} {s : State} {m : MethodId} {args : Array Value} {below : List Frame} {meth : Method} {c : Code} {Q : State → Prop} {S0 : mz_Sh} {T0 : List (List Int32)} {cl : List vw_C} {NM : List String} {ST : List (String × Nat × String)} {G0 : List Jvm.Cond} {gt : Nat → Option Jvm.Cond} {CT : List zz_R} {D : va_G} {cI : ClassId} {ad : Nat → Nat} {nL Ln sz n0 nE : Nat} {xs : Nat → Int32} {own : String} {cc : ByteArray} (F : zz_Fix p R s m args meth c S0 T0 cl NM ST G0 gt CT D cI ad nL Ln sz n0 nE xs own cc) {pc : Nat} {L : List (Option Value)} {S rest : List Value} {n n' : Nat} {z' : Nat → Nat → Bool} {mem' : mz_M} {args' : Array Value} {ls : Array Slot} {H : Heap} {locs : List Loc} (hn0 : n0 ≤ n) (hnn : n ≤ n') (h1 : mz_ls ad L ls nL) (h3 : va_S (zz_A sz) s.heap H locs)
    (hr : va_Run p l e R s m args below meth c H locs (n - n0) (zz_sl S0 n - zz_sl S0 n0) (n' - n) (zz_sl S0 n' - zz_sl S0 n) (F0 m pc ls (S.map (mz_cvv ad))) (rest.map (mz_cvv ad)) (zz_Qc S0 cl D cI ad sz n' z' mem' args') (zz_A sz))
    (k : zz_Z p l e R s m args below meth c Q S0 cl D cI ad nL sz n0 (pc + 3, L, rest, n', z', mem')) : W p l e R s m args below meth c H locs (n - n0) (zz_sl S0 n - zz_sl S0 n0) Q (F0 m pc ls (S.map (mz_cvv ad))) := by
  intro T1 hT X
  obtain ⟨v, st₀, t, T', L', h0, X', hL, e1, e2, ⟨hv, hP1, hF1⟩, st⟩ := hr T1 hT X
  have hve : v = none := Outcome.returned.inj hv
  subst hve
  have hS1 : va_S (zz_A sz) s.heap t.heap (locs ++ L') := by
    refine ⟨?_, fun q hq hA => ?_, fun x hx => ?_⟩
    · have := hF1.1
      rw [h0] at this
      exact Nat.le_trans h3.1 this
    · have h5 := hF1.2 q (by rw [h0]; exact Nat.lt_of_lt_of_le hq h3.1) hA
      rw [h5, h0]
      exact h3.2.1 q hq hA
    · rcases List.mem_append.mp hx with hx | hx
      · exact h3.2.2 x hx
      · exact hL x hx
  have hm1 := zz_sl_mono S0 hn0
  have hm2 := zz_sl_mono S0 hnn
  have q1 : n - n0 + (n' - n) = n' - n0 := by omega
  have q2 : zz_sl S0 n - zz_sl S0 n0 + (zz_sl S0 n' - zz_sl S0 n) = zz_sl S0 n' - zz_sl S0 n0 := by omega
  rw [q1, q2] at X'
  have hk := k ls t.heap (locs ++ L') h1 hP1 hS1
  obtain ⟨t2, a1, b1⟩ := hk T' e1 X'
  exact ⟨t2, st t2 a1, b1⟩
set_option maxHeartbeats 4000000 in
theorem zz_run_all {S0 : mz_Sh} {T0 : List (List Int32)} {cl : List vw_C} {NM : List String} {ST : List (String × Nat × String)} {G0 : List Jvm.Cond} {gt : Nat → Option Jvm.Cond} {CT : List zz_R} (hT : ∀ (a : Nat) (rc : zz_R), CT[a]? = some rc → zz_Rok cl NM ST G0 gt CT rc) : ∀ N, zz_Run S0 T0 cl NM ST G0 gt CT N := by
  intro N
  induction N with
  | zero =>
    intro p l e R s m args below meth c Q D cI ad nL Ln sz n0 nE xs own cc d sp F hR K ini hini hK pc L S n z mem c1 hn0 hnS hnE hrun k
    cases hrun
  | succ N ih =>
    intro p l e R s m args below meth c Q D cI ad nL Ln sz n0 nE xs own cc d sp F hR K ini hini hK pc L S n z mem c1 hn0 hnS hnE hrun k
    rcases zz_x_inv hrun with ⟨h1, h2⟩ | ⟨q, hq, hq2⟩
    · subst h2
      exact k
    · obtain ⟨hqK, hqp⟩ := mz_fetch_in hq
      have hok := hK q hqK
      obtain ⟨qp, ins, len, f⟩ := q
      simp only at hqp
      subst hqp
      unfold zz_eok at hok
      simp only [Bool.and_eq_true] at hok
      obtain ⟨⟨hd, hlen, hpf⟩, hl⟩ := hok
      have hd := of_decide_eq_true hd
      simp only at hd hlen hl hpf hq2
      rcases hq2 with ⟨c2, hs, h1⟩ | ⟨a, rc, d1, p1, L1, n1, z1, m1, hs, hrc, rfl, hcal, hin, h2⟩
      · obtain ⟨a1, a2⟩ := zz_step_mono hs
        obtain ⟨-, b2, -⟩ := zz_x_mono h1
        exact zz_w_all F (fun h => hini (by rw [h] at hpf; simpa using hpf)) hd hlen hl hn0 hnS (Nat.le_trans b2 hnE) hs (ih d sp F hR K ini hini hK _ _ _ _ _ _ c1 (Nat.le_trans hn0 a1) (a2 hnS) hnE h1 k)
      · have hRok := hT a rc hrc
        obtain ⟨hfa, x, rfl, hf⟩ := zz_step_call hs
        obtain rfl : len = 3 := by simpa [mz_ln] using hlen
        unfold zz_cal at hcal
        simp only [Bool.and_eq_true, beq_iff_eq] at hcal
        obtain ⟨⟨⟨⟨c1', c2⟩, cn1⟩, c3⟩, c4⟩ := hcal
        have c1' := of_decide_eq_true c1'
        have c2 := of_decide_eq_true c2
        have cn1 := of_decide_eq_true cn1
        obtain ⟨-, hn1, hn1S⟩ := zz_x_mono hin
        simp only at hn1 hn1S
        obtain ⟨-, hn2, -⟩ := zz_x_mono h2
        simp only at hn2
        have hnE1 : n1 ≤ nE := Nat.le_trans hn2 hnE
        have hgo := ih (d1 + 1) sp F hR K ini hini hK (qp + 3) L (S.drop rc.2.2.2.1) n1 z1 m1 c1 (Nat.le_trans hn0 hn1) (hn1S hnS) hnE h2 k
        have hlenA : (S.take rc.2.2.2.1).reverse.length = rc.2.2.2.1 := by rw [List.length_reverse, List.length_take]; omega
        have hroom : (zz_rm d1 (n1 - n) (zz_sl S0 n1 - zz_sl S0 n)).frames + 1 ≤ R.frames ∧ 8 + (rc.2.2.1 + 11) + (zz_rm d1 (n1 - n) (zz_sl S0 n1 - zz_sl S0 n)).locals ≤ R.locals := by
          have h45 := hRok.1.2.2.2.1
          refine ⟨hR.1, ?_⟩
          show 8 + (rc.2.2.1 + 11) + 64 * (d1 + 1) ≤ R.locals
          have := hR.2
          omega
        have hgw : ∀ w ∈ zz_ws G0 rc, w ∈ mz_G G0 ∧ ((w.onTables && w.keeps) = true ∨ ∃ ty, w = .arrayClass ty) := by
          intro w hw
          rcases List.mem_cons.mp hw with rfl | hw
          · exact ⟨hRok.2.1.1, mz_G_good hRok.2.1.1⟩
          · exact ⟨hw, mz_G_good hw⟩
        generalize hasd : (S.take rc.2.2.2.1).reverse = as at c3 c4 hin hlenA
        have hSs : S = as.reverse ++ S.drop rc.2.2.2.1 := by rw [← hasd]; exact mz_split _ _
        generalize hrest : S.drop rc.2.2.2.1 = rest at hgo c2 hSs
        split at c3
        · rename_i i as1
          have hn3 : as1.length = rc.2.2.2.1 - 1 := by
            have := hlenA
            simp only [List.length_cons] at this
            omega
          have had := F.2.1.2.2.1
          intro ls H locs h1 h2 h3
          show W p l e R s m args below meth c H locs (n - n0) (zz_sl S0 n - zz_sl S0 n0) Q (F0 m qp ls (S.map (mz_cvv ad)))
          refine zz_sz (fun hu => ?_)
          have hH := zz_hsz had F.2.1.2.1 hn0 (Nat.le_trans hnS F.2.2.2.2.2.2.1) h2 h3 hu
          have hM := zz_met ih F.2.2.2 hRok l D cI ad Ln xs sz d1 had hnS c4 hin
          have hpre : PreS s H (zz_Pc S0 T0 cl NM ST G0 D cI ad Ln xs sz (.ref i :: as1) n z mem) (.ref (ad i) :: as1.map (mz_cvv ad)) := by
            refine ⟨zz_Pc_blind, fun U hU hW => ⟨rfl, by rw [hU]; exact hH, va_K.moved hW.alike F.2.1.1, by rw [hU]; exact h2, ?_, ?_⟩⟩
            · rw [hU]
              exact mz_rok.kept (mz_rok.warm hW F.2.1.2.2.2.1) h3.1 h3.2.1 (fun q h => h)
            · rw [hU]
              exact (F.2.1.2.2.2.2.moved hW.alike).kept h3.2.1
          have hWs : 2 * (F0 m qp ls (S.map (mz_cvv ad))).monitorRoom + ((rest.map (mz_cvv ad)).map fun v => v.category).sum ≤ 8 := lv_room (by rw [mz_cat_map]; exact c2)
          have hm1 := zz_sl_mono S0 hn0
          have hm2 := zz_sl_mono S0 hn1
          have hm3 := zz_sl_mono S0 hnE1
          have hrc1 := F.2.2.1.2.2.1
          have hrs1 := F.2.2.1.2.2.2
          have hfit2 : n - n0 + (n1 - n) ≤ R.cells ∧ zz_sl S0 n - zz_sl S0 n0 + (zz_sl S0 n1 - zz_sl S0 n) ≤ R.slots := ⟨by omega, by omega⟩
          have hst : S.map (mz_cvv ad) = (as1.map (mz_cvv ad)).reverse ++ .ref (ad i) :: rest.map (mz_cvv ad) := by
            rw [hSs]
            simp [mz_cvv]
          rcases hf with hf | hf
          · simp only [zz_lk, hf, hfa, hrc] at hl
            have hlk := zz_Gi F (of_decide_eq_true hl) rfl
            refine zz_back F hn0 hn1 h1 h3 (va_runI (As := as1.map (mz_cvv ad)) (b := ad i) F.1 hM (cwI _ F.1.2.2.2.2 hgw rfl rfl rfl (F.1.2.2.2.2 _ hRok.2.1.2.1) hlk (F.1.2.2.2.2 _ hRok.2.1.2.2) hRok.1.2.2.2.2 ⟨hRok.1.2.1.1, hRok.1.2.1.2, hRok.1.2.2.1⟩ hroom) hpre rfl (by rw [List.length_map]; exact hn3) h1.1 hst hWs hd hfit2) hgo
          · simp only [zz_lk, hf, hfa, hrc] at hl
            have hnw := F.2.1.2.2.2.1.2.2.2.2.2.1 _ (F.2.2.2.2.2.2.2.2.2.1 _ _ (of_decide_eq_true hl)) rfl
            refine zz_back F hn0 hn1 h1 h3 (va_runIN (As := as1.map (mz_cvv ad)) (b := ad i) F.1 hM ⟨va_cnB _ F.1.2.2.2.2 hgw rfl rfl rfl hnw (F.1.2.2.2.2 _ hRok.2.1.2.1) ⟨hRok.1.2.1.1, hRok.1.2.1.2, hRok.1.2.2.1⟩ hroom, hRok.1.2.2.2.2, F.1.2.2.2.2 _ hRok.2.1.2.2⟩ hpre rfl (by rw [List.length_map]; exact hn3) h1.1 hst hWs hd hfit2) hgo
        · cases c3
end
section
-- ===== PART A: goes FIRST, ahead of the names: the tables' words, and 'selects' of the private methods out of them =====
/-- a private method of a class that the tables say can be made, by its rows of tables_1 -/
def lw_okq (q : MethodName × Nat) : Prop := (q.1.cls ≠ "java/lang/invoke/MethodHandle" ∧ q.1.cls ≠ "java/lang/invoke/VarHandle") ∧ Cond.instantiable q.1.cls q.2 ∈ tables_1 ∧ Cond.privateMethod q.1 ∈ tables_1 ∧ Cond.instanceMethod q.1 ∈ tables_1
theorem lw_p0 : lw_okq (⟨"ThreeMagnets", "refuse", "(I)I"⟩, 8) := ⟨⟨by decide +kernel, by decide +kernel⟩, List.mem_of_getElem? (i := 21) (by decide +kernel), List.mem_of_getElem? (i := 379) (by decide +kernel), List.mem_of_getElem? (i := 380) (by decide +kernel)⟩
theorem lw_p1 : lw_okq (⟨"ThreeMagnets$Runner", "fullPull", "(III)I"⟩, 4) := ⟨⟨by decide +kernel, by decide +kernel⟩, List.mem_of_getElem? (i := 237) (by decide +kernel), List.mem_of_getElem? (i := 414) (by decide +kernel), List.mem_of_getElem? (i := 415) (by decide +kernel)⟩
theorem lw_p2 : lw_okq (⟨"ThreeMagnets$Plate", "pushes", "(I)Z"⟩, 5) := ⟨⟨by decide +kernel, by decide +kernel⟩, List.mem_of_getElem? (i := 35) (by decide +kernel), List.mem_of_getElem? (i := 476) (by decide +kernel), List.mem_of_getElem? (i := 477) (by decide +kernel)⟩
theorem lw_p3 : lw_okq (⟨"ThreeMagnets$Reader", "readLevel", "(II)V"⟩, 5) := ⟨⟨by decide +kernel, by decide +kernel⟩, List.mem_of_getElem? (i := 259) (by decide +kernel), List.mem_of_getElem? (i := 501) (by decide +kernel), List.mem_of_getElem? (i := 502) (by decide +kernel)⟩
theorem lw_p4 : lw_okq (⟨"ThreeMagnets$Reader", "readOperand", "(I)V"⟩, 5) := ⟨⟨by decide +kernel, by decide +kernel⟩, List.mem_of_getElem? (i := 259) (by decide +kernel), List.mem_of_getElem? (i := 505) (by decide +kernel), List.mem_of_getElem? (i := 506) (by decide +kernel)⟩
theorem lw_p5 : lw_okq (⟨"ThreeMagnets$Reader", "readNumber", "()V"⟩, 5) := ⟨⟨by decide +kernel, by decide +kernel⟩, List.mem_of_getElem? (i := 259) (by decide +kernel), List.mem_of_getElem? (i := 516) (by decide +kernel), List.mem_of_getElem? (i := 517) (by decide +kernel)⟩
theorem lw_p6 : lw_okq (⟨"ThreeMagnets$Reader", "readClose", "()V"⟩, 5) := ⟨⟨by decide +kernel, by decide +kernel⟩, List.mem_of_getElem? (i := 259) (by decide +kernel), List.mem_of_getElem? (i := 524) (by decide +kernel), List.mem_of_getElem? (i := 525) (by decide +kernel)⟩
theorem lw_p7 : lw_okq (⟨"ThreeMagnets$Reader", "readName", "(I)V"⟩, 5) := ⟨⟨by decide +kernel, by decide +kernel⟩, List.mem_of_getElem? (i := 259) (by decide +kernel), List.mem_of_getElem? (i := 528) (by decide +kernel), List.mem_of_getElem? (i := 529) (by decide +kernel)⟩
theorem lw_p8 : lw_okq (⟨"ThreeMagnets$Runner", "rubOf", "(LThreeMagnets$Bob;)I"⟩, 4) := ⟨⟨by decide +kernel, by decide +kernel⟩, List.mem_of_getElem? (i := 237) (by decide +kernel), List.mem_of_getElem? (i := 659) (by decide +kernel), List.mem_of_getElem? (i := 660) (by decide +kernel)⟩
theorem lw_p9 : lw_okq (⟨"ThreeMagnets$Picture", "isOther", "(III)Z"⟩, 7) := ⟨⟨by decide +kernel, by decide +kernel⟩, List.mem_of_getElem? (i := 145) (by decide +kernel), List.mem_of_getElem? (i := 757) (by decide +kernel), List.mem_of_getElem? (i := 758) (by decide +kernel)⟩
theorem lw_p10 : lw_okq (⟨"ThreeMagnets$Picture", "coloursOfSquare", "(II)I"⟩, 7) := ⟨⟨by decide +kernel, by decide +kernel⟩, List.mem_of_getElem? (i := 145) (by decide +kernel), List.mem_of_getElem? (i := 774) (by decide +kernel), List.mem_of_getElem? (i := 775) (by decide +kernel)⟩
theorem lw_p11 : lw_okq (⟨"ThreeMagnets", "finer", "()I"⟩, 8) := ⟨⟨by decide +kernel, by decide +kernel⟩, List.mem_of_getElem? (i := 21) (by decide +kernel), List.mem_of_getElem? (i := 778) (by decide +kernel), List.mem_of_getElem? (i := 779) (by decide +kernel)⟩
theorem lw_p12 : lw_okq (⟨"ThreeMagnets$Picture", "turnedColour", "(II)I"⟩, 7) := ⟨⟨by decide +kernel, by decide +kernel⟩, List.mem_of_getElem? (i := 145) (by decide +kernel), List.mem_of_getElem? (i := 807) (by decide +kernel), List.mem_of_getElem? (i := 808) (by decide +kernel)⟩
theorem lw_p13 : lw_okq (⟨"ThreeMagnets", "wander", "(I)I"⟩, 8) := ⟨⟨by decide +kernel, by decide +kernel⟩, List.mem_of_getElem? (i := 21) (by decide +kernel), List.mem_of_getElem? (i := 838) (by decide +kernel), List.mem_of_getElem? (i := 839) (by decide +kernel)⟩
theorem lw_p14 : lw_okq (⟨"ThreeMagnets$Voices", "speak", "(IIII)I"⟩, 8) := ⟨⟨by decide +kernel, by decide +kernel⟩, List.mem_of_getElem? (i := 286) (by decide +kernel), List.mem_of_getElem? (i := 861) (by decide +kernel), List.mem_of_getElem? (i := 862) (by decide +kernel)⟩
theorem lw_p15 : lw_okq (⟨"ThreeMagnets$Voices", "workOut", "(IIII)I"⟩, 8) := ⟨⟨by decide +kernel, by decide +kernel⟩, List.mem_of_getElem? (i := 286) (by decide +kernel), List.mem_of_getElem? (i := 876) (by decide +kernel), List.mem_of_getElem? (i := 877) (by decide +kernel)⟩
def lw_privs_1 : List (MethodName × Nat) := [(⟨"ThreeMagnets", "refuse", "(I)I"⟩, 8), (⟨"ThreeMagnets$Runner", "fullPull", "(III)I"⟩, 4), (⟨"ThreeMagnets$Plate", "pushes", "(I)Z"⟩, 5), (⟨"ThreeMagnets$Reader", "readLevel", "(II)V"⟩, 5), (⟨"ThreeMagnets$Reader", "readOperand", "(I)V"⟩, 5), (⟨"ThreeMagnets$Reader", "readNumber", "()V"⟩, 5), (⟨"ThreeMagnets$Reader", "readClose", "()V"⟩, 5), (⟨"ThreeMagnets$Reader", "readName", "(I)V"⟩, 5), (⟨"ThreeMagnets$Runner", "rubOf", "(LThreeMagnets$Bob;)I"⟩, 4), (⟨"ThreeMagnets$Picture", "isOther", "(III)Z"⟩, 7), (⟨"ThreeMagnets$Picture", "coloursOfSquare", "(II)I"⟩, 7), (⟨"ThreeMagnets", "finer", "()I"⟩, 8), (⟨"ThreeMagnets$Picture", "turnedColour", "(II)I"⟩, 7), (⟨"ThreeMagnets", "wander", "(I)I"⟩, 8), (⟨"ThreeMagnets$Voices", "speak", "(IIII)I"⟩, 8), (⟨"ThreeMagnets$Voices", "workOut", "(IIII)I"⟩, 8)]
theorem lw_r1 : ∀ q ∈ lw_privs_1, lw_okq q := List.forall_mem_cons.mpr ⟨lw_p0, List.forall_mem_cons.mpr ⟨lw_p1, List.forall_mem_cons.mpr ⟨lw_p2, List.forall_mem_cons.mpr ⟨lw_p3, List.forall_mem_cons.mpr ⟨lw_p4, List.forall_mem_cons.mpr ⟨lw_p5, List.forall_mem_cons.mpr ⟨lw_p6, List.forall_mem_cons.mpr ⟨lw_p7, List.forall_mem_cons.mpr ⟨lw_p8, List.forall_mem_cons.mpr ⟨lw_p9, List.forall_mem_cons.mpr ⟨lw_p10, List.forall_mem_cons.mpr ⟨lw_p11, List.forall_mem_cons.mpr ⟨lw_p12, List.forall_mem_cons.mpr ⟨lw_p13, List.forall_mem_cons.mpr ⟨lw_p14, List.forall_mem_cons.mpr ⟨lw_p15, fun _ h => absurd h List.not_mem_nil⟩⟩⟩⟩⟩⟩⟩⟩⟩⟩⟩⟩⟩⟩⟩⟩
theorem lw_p16 : lw_okq (⟨"ThreeMagnets$Voices", "divided", "(I)I"⟩, 8) := ⟨⟨by decide +kernel, by decide +kernel⟩, List.mem_of_getElem? (i := 286) (by decide +kernel), List.mem_of_getElem? (i := 880) (by decide +kernel), List.mem_of_getElem? (i := 881) (by decide +kernel)⟩
theorem lw_p17 : lw_okq (⟨"ThreeMagnets", "addsFrom", "(II)Z"⟩, 8) := ⟨⟨by decide +kernel, by decide +kernel⟩, List.mem_of_getElem? (i := 21) (by decide +kernel), List.mem_of_getElem? (i := 937) (by decide +kernel), List.mem_of_getElem? (i := 938) (by decide +kernel)⟩
theorem lw_p18 : lw_okq (⟨"ThreeMagnetsModel", "error", "(I)I"⟩, 26) := ⟨⟨by decide +kernel, by decide +kernel⟩, List.mem_of_getElem? (i := 995) (by decide +kernel), List.mem_of_getElem? (i := 1093) (by decide +kernel), List.mem_of_getElem? (i := 1094) (by decide +kernel)⟩
theorem lw_p19 : lw_okq (⟨"ThreeMagnetsModel", "comes", "(IIII)I"⟩, 26) := ⟨⟨by decide +kernel, by decide +kernel⟩, List.mem_of_getElem? (i := 995) (by decide +kernel), List.mem_of_getElem? (i := 1098) (by decide +kernel), List.mem_of_getElem? (i := 1099) (by decide +kernel)⟩
theorem lw_p20 : lw_okq (⟨"ThreeMagnetsModel", "isMagnet", "(I)Z"⟩, 26) := ⟨⟨by decide +kernel, by decide +kernel⟩, List.mem_of_getElem? (i := 995) (by decide +kernel), List.mem_of_getElem? (i := 1106) (by decide +kernel), List.mem_of_getElem? (i := 1107) (by decide +kernel)⟩
theorem lw_p21 : lw_okq (⟨"ThreeMagnetsModel", "its", "(II)I"⟩, 26) := ⟨⟨by decide +kernel, by decide +kernel⟩, List.mem_of_getElem? (i := 995) (by decide +kernel), List.mem_of_getElem? (i := 1110) (by decide +kernel), List.mem_of_getElem? (i := 1111) (by decide +kernel)⟩
theorem lw_p22 : lw_okq (⟨"ThreeMagnetsModel", "takesBob", "()V"⟩, 26) := ⟨⟨by decide +kernel, by decide +kernel⟩, List.mem_of_getElem? (i := 995) (by decide +kernel), List.mem_of_getElem? (i := 1114) (by decide +kernel), List.mem_of_getElem? (i := 1115) (by decide +kernel)⟩
theorem lw_p23 : lw_okq (⟨"ThreeMagnetsModel", "far", "(I)I"⟩, 26) := ⟨⟨by decide +kernel, by decide +kernel⟩, List.mem_of_getElem? (i := 995) (by decide +kernel), List.mem_of_getElem? (i := 1118) (by decide +kernel), List.mem_of_getElem? (i := 1119) (by decide +kernel)⟩
theorem lw_p24 : lw_okq (⟨"ThreeMagnetsModel", "pull", "(I)I"⟩, 26) := ⟨⟨by decide +kernel, by decide +kernel⟩, List.mem_of_getElem? (i := 995) (by decide +kernel), List.mem_of_getElem? (i := 1125) (by decide +kernel), List.mem_of_getElem? (i := 1126) (by decide +kernel)⟩
theorem lw_p25 : lw_okq (⟨"ThreeMagnetsModel", "plainPull", "(I)I"⟩, 26) := ⟨⟨by decide +kernel, by decide +kernel⟩, List.mem_of_getElem? (i := 995) (by decide +kernel), List.mem_of_getElem? (i := 1129) (by decide +kernel), List.mem_of_getElem? (i := 1130) (by decide +kernel)⟩
theorem lw_p26 : lw_okq (⟨"ThreeMagnetsModel", "hasText", "(I)Z"⟩, 26) := ⟨⟨by decide +kernel, by decide +kernel⟩, List.mem_of_getElem? (i := 995) (by decide +kernel), List.mem_of_getElem? (i := 1133) (by decide +kernel), List.mem_of_getElem? (i := 1134) (by decide +kernel)⟩
theorem lw_p27 : lw_okq (⟨"ThreeMagnetsModel", "worked", "(I)I"⟩, 26) := ⟨⟨by decide +kernel, by decide +kernel⟩, List.mem_of_getElem? (i := 995) (by decide +kernel), List.mem_of_getElem? (i := 1137) (by decide +kernel), List.mem_of_getElem? (i := 1138) (by decide +kernel)⟩
theorem lw_p28 : lw_okq (⟨"ThreeMagnetsModel", "goesFrom", "(IIII)V"⟩, 26) := ⟨⟨by decide +kernel, by decide +kernel⟩, List.mem_of_getElem? (i := 995) (by decide +kernel), List.mem_of_getElem? (i := 1173) (by decide +kernel), List.mem_of_getElem? (i := 1174) (by decide +kernel)⟩
theorem lw_p29 : lw_okq (⟨"ThreeMagnetsModel", "nearestOf", "(Z)I"⟩, 26) := ⟨⟨by decide +kernel, by decide +kernel⟩, List.mem_of_getElem? (i := 995) (by decide +kernel), List.mem_of_getElem? (i := 1177) (by decide +kernel), List.mem_of_getElem? (i := 1178) (by decide +kernel)⟩
theorem lw_p30 : lw_okq (⟨"ThreeMagnetsModel", "whole", "()Z"⟩, 26) := ⟨⟨by decide +kernel, by decide +kernel⟩, List.mem_of_getElem? (i := 995) (by decide +kernel), List.mem_of_getElem? (i := 1190) (by decide +kernel), List.mem_of_getElem? (i := 1191) (by decide +kernel)⟩
theorem lw_p31 : lw_okq (⟨"ThreeMagnetsModel", "both", "()Z"⟩, 26) := ⟨⟨by decide +kernel, by decide +kernel⟩, List.mem_of_getElem? (i := 995) (by decide +kernel), List.mem_of_getElem? (i := 1194) (by decide +kernel), List.mem_of_getElem? (i := 1195) (by decide +kernel)⟩
def lw_privs_2 : List (MethodName × Nat) := [(⟨"ThreeMagnets$Voices", "divided", "(I)I"⟩, 8), (⟨"ThreeMagnets", "addsFrom", "(II)Z"⟩, 8), (⟨"ThreeMagnetsModel", "error", "(I)I"⟩, 26), (⟨"ThreeMagnetsModel", "comes", "(IIII)I"⟩, 26), (⟨"ThreeMagnetsModel", "isMagnet", "(I)Z"⟩, 26), (⟨"ThreeMagnetsModel", "its", "(II)I"⟩, 26), (⟨"ThreeMagnetsModel", "takesBob", "()V"⟩, 26), (⟨"ThreeMagnetsModel", "far", "(I)I"⟩, 26), (⟨"ThreeMagnetsModel", "pull", "(I)I"⟩, 26), (⟨"ThreeMagnetsModel", "plainPull", "(I)I"⟩, 26), (⟨"ThreeMagnetsModel", "hasText", "(I)Z"⟩, 26), (⟨"ThreeMagnetsModel", "worked", "(I)I"⟩, 26), (⟨"ThreeMagnetsModel", "goesFrom", "(IIII)V"⟩, 26), (⟨"ThreeMagnetsModel", "nearestOf", "(Z)I"⟩, 26), (⟨"ThreeMagnetsModel", "whole", "()Z"⟩, 26), (⟨"ThreeMagnetsModel", "both", "()Z"⟩, 26)]
theorem lw_r2 : ∀ q ∈ lw_privs_2, lw_okq q := List.forall_mem_cons.mpr ⟨lw_p16, List.forall_mem_cons.mpr ⟨lw_p17, List.forall_mem_cons.mpr ⟨lw_p18, List.forall_mem_cons.mpr ⟨lw_p19, List.forall_mem_cons.mpr ⟨lw_p20, List.forall_mem_cons.mpr ⟨lw_p21, List.forall_mem_cons.mpr ⟨lw_p22, List.forall_mem_cons.mpr ⟨lw_p23, List.forall_mem_cons.mpr ⟨lw_p24, List.forall_mem_cons.mpr ⟨lw_p25, List.forall_mem_cons.mpr ⟨lw_p26, List.forall_mem_cons.mpr ⟨lw_p27, List.forall_mem_cons.mpr ⟨lw_p28, List.forall_mem_cons.mpr ⟨lw_p29, List.forall_mem_cons.mpr ⟨lw_p30, List.forall_mem_cons.mpr ⟨lw_p31, fun _ h => absurd h List.not_mem_nil⟩⟩⟩⟩⟩⟩⟩⟩⟩⟩⟩⟩⟩⟩⟩⟩
theorem lw_p32 : lw_okq (⟨"ThreeMagnetsModel", "compared", "()Z"⟩, 26) := ⟨⟨by decide +kernel, by decide +kernel⟩, List.mem_of_getElem? (i := 995) (by decide +kernel), List.mem_of_getElem? (i := 1198) (by decide +kernel), List.mem_of_getElem? (i := 1199) (by decide +kernel)⟩
theorem lw_p33 : lw_okq (⟨"ThreeMagnetsModel", "sum", "()Z"⟩, 26) := ⟨⟨by decide +kernel, by decide +kernel⟩, List.mem_of_getElem? (i := 995) (by decide +kernel), List.mem_of_getElem? (i := 1202) (by decide +kernel), List.mem_of_getElem? (i := 1203) (by decide +kernel)⟩
theorem lw_p34 : lw_okq (⟨"ThreeMagnetsModel", "product", "()Z"⟩, 26) := ⟨⟨by decide +kernel, by decide +kernel⟩, List.mem_of_getElem? (i := 995) (by decide +kernel), List.mem_of_getElem? (i := 1206) (by decide +kernel), List.mem_of_getElem? (i := 1207) (by decide +kernel)⟩
theorem lw_p35 : lw_okq (⟨"ThreeMagnetsModel", "one", "()Z"⟩, 26) := ⟨⟨by decide +kernel, by decide +kernel⟩, List.mem_of_getElem? (i := 995) (by decide +kernel), List.mem_of_getElem? (i := 1210) (by decide +kernel), List.mem_of_getElem? (i := 1211) (by decide +kernel)⟩
theorem lw_p36 : lw_okq (⟨"ThreeMagnetsModel", "look", "()I"⟩, 26) := ⟨⟨by decide +kernel, by decide +kernel⟩, List.mem_of_getElem? (i := 995) (by decide +kernel), List.mem_of_getElem? (i := 1214) (by decide +kernel), List.mem_of_getElem? (i := 1215) (by decide +kernel)⟩
theorem lw_p37 : lw_okq (⟨"ThreeMagnetsModel", "isName", "(I)Z"⟩, 26) := ⟨⟨by decide +kernel, by decide +kernel⟩, List.mem_of_getElem? (i := 995) (by decide +kernel), List.mem_of_getElem? (i := 1218) (by decide +kernel), List.mem_of_getElem? (i := 1219) (by decide +kernel)⟩
theorem lw_p38 : lw_okq (⟨"ThreeMagnetsModel", "lay", "(II)V"⟩, 26) := ⟨⟨by decide +kernel, by decide +kernel⟩, List.mem_of_getElem? (i := 995) (by decide +kernel), List.mem_of_getElem? (i := 1222) (by decide +kernel), List.mem_of_getElem? (i := 1223) (by decide +kernel)⟩
theorem lw_p39 : lw_okq (⟨"ThreeMagnetsModel", "opens", "()Z"⟩, 26) := ⟨⟨by decide +kernel, by decide +kernel⟩, List.mem_of_getElem? (i := 995) (by decide +kernel), List.mem_of_getElem? (i := 1226) (by decide +kernel), List.mem_of_getElem? (i := 1227) (by decide +kernel)⟩
theorem lw_p40 : lw_okq (⟨"ThreeMagnetsModel", "putsBob", "()V"⟩, 26) := ⟨⟨by decide +kernel, by decide +kernel⟩, List.mem_of_getElem? (i := 995) (by decide +kernel), List.mem_of_getElem? (i := 1238) (by decide +kernel), List.mem_of_getElem? (i := 1239) (by decide +kernel)⟩
theorem lw_p41 : lw_okq (⟨"ThreeMagnetsModel", "fine", "()I"⟩, 26) := ⟨⟨by decide +kernel, by decide +kernel⟩, List.mem_of_getElem? (i := 995) (by decide +kernel), List.mem_of_getElem? (i := 1253) (by decide +kernel), List.mem_of_getElem? (i := 1254) (by decide +kernel)⟩
theorem lw_p42 : lw_okq (⟨"ThreeMagnetsModel", "tick1", "(I)V"⟩, 26) := ⟨⟨by decide +kernel, by decide +kernel⟩, List.mem_of_getElem? (i := 995) (by decide +kernel), List.mem_of_getElem? (i := 1257) (by decide +kernel), List.mem_of_getElem? (i := 1258) (by decide +kernel)⟩
theorem lw_p43 : lw_okq (⟨"ThreeMagnetsModel", "rubs", "()I"⟩, 26) := ⟨⟨by decide +kernel, by decide +kernel⟩, List.mem_of_getElem? (i := 995) (by decide +kernel), List.mem_of_getElem? (i := 1261) (by decide +kernel), List.mem_of_getElem? (i := 1262) (by decide +kernel)⟩
theorem lw_p44 : lw_okq (⟨"ThreeMagnetsModel", "restsAt", "()I"⟩, 26) := ⟨⟨by decide +kernel, by decide +kernel⟩, List.mem_of_getElem? (i := 995) (by decide +kernel), List.mem_of_getElem? (i := 1269) (by decide +kernel), List.mem_of_getElem? (i := 1270) (by decide +kernel)⟩
theorem lw_p45 : lw_okq (⟨"ThreeMagnetsModel", "runs", "(I)I"⟩, 26) := ⟨⟨by decide +kernel, by decide +kernel⟩, List.mem_of_getElem? (i := 995) (by decide +kernel), List.mem_of_getElem? (i := 1277) (by decide +kernel), List.mem_of_getElem? (i := 1278) (by decide +kernel)⟩
theorem lw_p46 : lw_okq (⟨"ThreeMagnetsModel", "endsFrom", "(III)I"⟩, 26) := ⟨⟨by decide +kernel, by decide +kernel⟩, List.mem_of_getElem? (i := 995) (by decide +kernel), List.mem_of_getElem? (i := 1285) (by decide +kernel), List.mem_of_getElem? (i := 1286) (by decide +kernel)⟩
theorem lw_p47 : lw_okq (⟨"ThreeMagnetsModel", "coloursIn", "(IIII)I"⟩, 26) := ⟨⟨by decide +kernel, by decide +kernel⟩, List.mem_of_getElem? (i := 995) (by decide +kernel), List.mem_of_getElem? (i := 1301) (by decide +kernel), List.mem_of_getElem? (i := 1302) (by decide +kernel)⟩
def lw_privs_3 : List (MethodName × Nat) := [(⟨"ThreeMagnetsModel", "compared", "()Z"⟩, 26), (⟨"ThreeMagnetsModel", "sum", "()Z"⟩, 26), (⟨"ThreeMagnetsModel", "product", "()Z"⟩, 26), (⟨"ThreeMagnetsModel", "one", "()Z"⟩, 26), (⟨"ThreeMagnetsModel", "look", "()I"⟩, 26), (⟨"ThreeMagnetsModel", "isName", "(I)Z"⟩, 26), (⟨"ThreeMagnetsModel", "lay", "(II)V"⟩, 26), (⟨"ThreeMagnetsModel", "opens", "()Z"⟩, 26), (⟨"ThreeMagnetsModel", "putsBob", "()V"⟩, 26), (⟨"ThreeMagnetsModel", "fine", "()I"⟩, 26), (⟨"ThreeMagnetsModel", "tick1", "(I)V"⟩, 26), (⟨"ThreeMagnetsModel", "rubs", "()I"⟩, 26), (⟨"ThreeMagnetsModel", "restsAt", "()I"⟩, 26), (⟨"ThreeMagnetsModel", "runs", "(I)I"⟩, 26), (⟨"ThreeMagnetsModel", "endsFrom", "(III)I"⟩, 26), (⟨"ThreeMagnetsModel", "coloursIn", "(IIII)I"⟩, 26)]
theorem lw_r3 : ∀ q ∈ lw_privs_3, lw_okq q := List.forall_mem_cons.mpr ⟨lw_p32, List.forall_mem_cons.mpr ⟨lw_p33, List.forall_mem_cons.mpr ⟨lw_p34, List.forall_mem_cons.mpr ⟨lw_p35, List.forall_mem_cons.mpr ⟨lw_p36, List.forall_mem_cons.mpr ⟨lw_p37, List.forall_mem_cons.mpr ⟨lw_p38, List.forall_mem_cons.mpr ⟨lw_p39, List.forall_mem_cons.mpr ⟨lw_p40, List.forall_mem_cons.mpr ⟨lw_p41, List.forall_mem_cons.mpr ⟨lw_p42, List.forall_mem_cons.mpr ⟨lw_p43, List.forall_mem_cons.mpr ⟨lw_p44, List.forall_mem_cons.mpr ⟨lw_p45, List.forall_mem_cons.mpr ⟨lw_p46, List.forall_mem_cons.mpr ⟨lw_p47, fun _ h => absurd h List.not_mem_nil⟩⟩⟩⟩⟩⟩⟩⟩⟩⟩⟩⟩⟩⟩⟩⟩
theorem lw_p48 : lw_okq (⟨"ThreeMagnetsModel", "colour", "(II)I"⟩, 26) := ⟨⟨by decide +kernel, by decide +kernel⟩, List.mem_of_getElem? (i := 995) (by decide +kernel), List.mem_of_getElem? (i := 1305) (by decide +kernel), List.mem_of_getElem? (i := 1306) (by decide +kernel)⟩
theorem lw_p49 : lw_okq (⟨"ThreeMagnetsModel", "isPicture", "()Z"⟩, 26) := ⟨⟨by decide +kernel, by decide +kernel⟩, List.mem_of_getElem? (i := 995) (by decide +kernel), List.mem_of_getElem? (i := 1313) (by decide +kernel), List.mem_of_getElem? (i := 1314) (by decide +kernel)⟩
theorem lw_p50 : lw_okq (⟨"ThreeMagnetsModel", "wide", "()I"⟩, 26) := ⟨⟨by decide +kernel, by decide +kernel⟩, List.mem_of_getElem? (i := 995) (by decide +kernel), List.mem_of_getElem? (i := 1317) (by decide +kernel), List.mem_of_getElem? (i := 1318) (by decide +kernel)⟩
theorem lw_p51 : lw_okq (⟨"ThreeMagnetsModel", "isCell", "(II)Z"⟩, 26) := ⟨⟨by decide +kernel, by decide +kernel⟩, List.mem_of_getElem? (i := 995) (by decide +kernel), List.mem_of_getElem? (i := 1321) (by decide +kernel), List.mem_of_getElem? (i := 1322) (by decide +kernel)⟩
theorem lw_p52 : lw_okq (⟨"ThreeMagnetsModel", "high", "()I"⟩, 26) := ⟨⟨by decide +kernel, by decide +kernel⟩, List.mem_of_getElem? (i := 995) (by decide +kernel), List.mem_of_getElem? (i := 1325) (by decide +kernel), List.mem_of_getElem? (i := 1326) (by decide +kernel)⟩
theorem lw_p53 : lw_okq (⟨"ThreeMagnetsModel", "shareOf", "(I)I"⟩, 26) := ⟨⟨by decide +kernel, by decide +kernel⟩, List.mem_of_getElem? (i := 995) (by decide +kernel), List.mem_of_getElem? (i := 1336) (by decide +kernel), List.mem_of_getElem? (i := 1337) (by decide +kernel)⟩
theorem lw_p54 : lw_okq (⟨"ThreeMagnetsModel", "around", "(IIII)I"⟩, 26) := ⟨⟨by decide +kernel, by decide +kernel⟩, List.mem_of_getElem? (i := 995) (by decide +kernel), List.mem_of_getElem? (i := 1340) (by decide +kernel), List.mem_of_getElem? (i := 1341) (by decide +kernel)⟩
theorem lw_p55 : lw_okq (⟨"ThreeMagnetsModel", "isEdge", "(II)Z"⟩, 26) := ⟨⟨by decide +kernel, by decide +kernel⟩, List.mem_of_getElem? (i := 995) (by decide +kernel), List.mem_of_getElem? (i := 1348) (by decide +kernel), List.mem_of_getElem? (i := 1349) (by decide +kernel)⟩
theorem lw_p56 : lw_okq (⟨"ThreeMagnetsModel", "isOther", "(III)Z"⟩, 26) := ⟨⟨by decide +kernel, by decide +kernel⟩, List.mem_of_getElem? (i := 995) (by decide +kernel), List.mem_of_getElem? (i := 1352) (by decide +kernel), List.mem_of_getElem? (i := 1353) (by decide +kernel)⟩
theorem lw_p57 : lw_okq (⟨"ThreeMagnetsModel", "finerOf", "(II)I"⟩, 26) := ⟨⟨by decide +kernel, by decide +kernel⟩, List.mem_of_getElem? (i := 995) (by decide +kernel), List.mem_of_getElem? (i := 1360) (by decide +kernel), List.mem_of_getElem? (i := 1361) (by decide +kernel)⟩
theorem lw_p58 : lw_okq (⟨"ThreeMagnetsModel", "wantOf", "(II)I"⟩, 26) := ⟨⟨by decide +kernel, by decide +kernel⟩, List.mem_of_getElem? (i := 995) (by decide +kernel), List.mem_of_getElem? (i := 1380) (by decide +kernel), List.mem_of_getElem? (i := 1381) (by decide +kernel)⟩
theorem lw_p59 : lw_okq (⟨"ThreeMagnetsModel", "draw", "()I"⟩, 26) := ⟨⟨by decide +kernel, by decide +kernel⟩, List.mem_of_getElem? (i := 995) (by decide +kernel), List.mem_of_getElem? (i := 1388) (by decide +kernel), List.mem_of_getElem? (i := 1389) (by decide +kernel)⟩
theorem lw_p60 : lw_okq (⟨"ThreeMagnetsModel", "kindNow", "()I"⟩, 26) := ⟨⟨by decide +kernel, by decide +kernel⟩, List.mem_of_getElem? (i := 995) (by decide +kernel), List.mem_of_getElem? (i := 1405) (by decide +kernel), List.mem_of_getElem? (i := 1406) (by decide +kernel)⟩
theorem lw_p61 : lw_okq (⟨"ThreeMagnetsModel", "pulls", "(II)I"⟩, 26) := ⟨⟨by decide +kernel, by decide +kernel⟩, List.mem_of_getElem? (i := 995) (by decide +kernel), List.mem_of_getElem? (i := 1409) (by decide +kernel), List.mem_of_getElem? (i := 1410) (by decide +kernel)⟩
theorem lw_p62 : lw_okq (⟨"ThreeMagnetsModel", "begins", "(I)V"⟩, 26) := ⟨⟨by decide +kernel, by decide +kernel⟩, List.mem_of_getElem? (i := 995) (by decide +kernel), List.mem_of_getElem? (i := 1413) (by decide +kernel), List.mem_of_getElem? (i := 1414) (by decide +kernel)⟩
theorem lw_p63 : lw_okq (⟨"ThreeMagnetsModel", "strengthNow", "()I"⟩, 26) := ⟨⟨by decide +kernel, by decide +kernel⟩, List.mem_of_getElem? (i := 995) (by decide +kernel), List.mem_of_getElem? (i := 1417) (by decide +kernel), List.mem_of_getElem? (i := 1418) (by decide +kernel)⟩
def lw_privs_4 : List (MethodName × Nat) := [(⟨"ThreeMagnetsModel", "colour", "(II)I"⟩, 26), (⟨"ThreeMagnetsModel", "isPicture", "()Z"⟩, 26), (⟨"ThreeMagnetsModel", "wide", "()I"⟩, 26), (⟨"ThreeMagnetsModel", "isCell", "(II)Z"⟩, 26), (⟨"ThreeMagnetsModel", "high", "()I"⟩, 26), (⟨"ThreeMagnetsModel", "shareOf", "(I)I"⟩, 26), (⟨"ThreeMagnetsModel", "around", "(IIII)I"⟩, 26), (⟨"ThreeMagnetsModel", "isEdge", "(II)Z"⟩, 26), (⟨"ThreeMagnetsModel", "isOther", "(III)Z"⟩, 26), (⟨"ThreeMagnetsModel", "finerOf", "(II)I"⟩, 26), (⟨"ThreeMagnetsModel", "wantOf", "(II)I"⟩, 26), (⟨"ThreeMagnetsModel", "draw", "()I"⟩, 26), (⟨"ThreeMagnetsModel", "kindNow", "()I"⟩, 26), (⟨"ThreeMagnetsModel", "pulls", "(II)I"⟩, 26), (⟨"ThreeMagnetsModel", "begins", "(I)V"⟩, 26), (⟨"ThreeMagnetsModel", "strengthNow", "()I"⟩, 26)]
theorem lw_r4 : ∀ q ∈ lw_privs_4, lw_okq q := List.forall_mem_cons.mpr ⟨lw_p48, List.forall_mem_cons.mpr ⟨lw_p49, List.forall_mem_cons.mpr ⟨lw_p50, List.forall_mem_cons.mpr ⟨lw_p51, List.forall_mem_cons.mpr ⟨lw_p52, List.forall_mem_cons.mpr ⟨lw_p53, List.forall_mem_cons.mpr ⟨lw_p54, List.forall_mem_cons.mpr ⟨lw_p55, List.forall_mem_cons.mpr ⟨lw_p56, List.forall_mem_cons.mpr ⟨lw_p57, List.forall_mem_cons.mpr ⟨lw_p58, List.forall_mem_cons.mpr ⟨lw_p59, List.forall_mem_cons.mpr ⟨lw_p60, List.forall_mem_cons.mpr ⟨lw_p61, List.forall_mem_cons.mpr ⟨lw_p62, List.forall_mem_cons.mpr ⟨lw_p63, fun _ h => absurd h List.not_mem_nil⟩⟩⟩⟩⟩⟩⟩⟩⟩⟩⟩⟩⟩⟩⟩⟩
theorem lw_p64 : lw_okq (⟨"ThreeMagnetsModel", "stays", "(II)I"⟩, 26) := ⟨⟨by decide +kernel, by decide +kernel⟩, List.mem_of_getElem? (i := 995) (by decide +kernel), List.mem_of_getElem? (i := 1424) (by decide +kernel), List.mem_of_getElem? (i := 1425) (by decide +kernel)⟩
theorem lw_p65 : lw_okq (⟨"ThreeMagnetsModel", "parts", "(II)I"⟩, 26) := ⟨⟨by decide +kernel, by decide +kernel⟩, List.mem_of_getElem? (i := 995) (by decide +kernel), List.mem_of_getElem? (i := 1428) (by decide +kernel), List.mem_of_getElem? (i := 1429) (by decide +kernel)⟩
theorem lw_p66 : lw_okq (⟨"ThreeMagnetsModel", "tells", "(II)I"⟩, 26) := ⟨⟨by decide +kernel, by decide +kernel⟩, List.mem_of_getElem? (i := 995) (by decide +kernel), List.mem_of_getElem? (i := 1432) (by decide +kernel), List.mem_of_getElem? (i := 1433) (by decide +kernel)⟩
def lw_privs_5 : List (MethodName × Nat) := [(⟨"ThreeMagnetsModel", "stays", "(II)I"⟩, 26), (⟨"ThreeMagnetsModel", "parts", "(II)I"⟩, 26), (⟨"ThreeMagnetsModel", "tells", "(II)I"⟩, 26)]
theorem lw_r5 : ∀ q ∈ lw_privs_5, lw_okq q := List.forall_mem_cons.mpr ⟨lw_p64, List.forall_mem_cons.mpr ⟨lw_p65, List.forall_mem_cons.mpr ⟨lw_p66, fun _ h => absurd h List.not_mem_nil⟩⟩⟩
def lw_privs : List (MethodName × Nat) := lw_privs_1 ++ (lw_privs_2 ++ (lw_privs_3 ++ (lw_privs_4 ++ (lw_privs_5))))
def lw_tbl : List Cond := k2_sels lw_privs ++ tables_1
theorem lw_privs_ok : ∀ q ∈ lw_privs, lw_okq q := by
  show ∀ q ∈ lw_privs_1 ++ (lw_privs_2 ++ (lw_privs_3 ++ (lw_privs_4 ++ (lw_privs_5)))), lw_okq q
  exact List.forall_mem_append.mpr ⟨lw_r1, List.forall_mem_append.mpr ⟨lw_r2, List.forall_mem_append.mpr ⟨lw_r3, List.forall_mem_append.mpr ⟨lw_r4, lw_r5⟩⟩⟩⟩
end
section
/-! ===== BEGIN printed: names, fields, word lists, decode rows ===== -/
def RX0 : String := "ThreeMagnets$Bob"
def TX0 : u_T := fun k => match k with
  | 0 => ("ThreeMagnets$Bob", "x", "I", false)
  | 1 => ("ThreeMagnets$Bob", "y", "I", false)
  | 2 => ("ThreeMagnets$Bob", "u", "I", false)
  | 3 => ("ThreeMagnets$Bob", "v", "I", false)
  | _ => ("ThreeMagnets$Bob", "ticks", "I", false)
def tyX0 : Nat → FieldType := fun k => match k with
  | 0 => .int
  | 1 => .int
  | 2 => .int
  | 3 => .int
  | _ => .int
abbrev wsX00 : List Cond := u_ws RX0 TX0 5
theorem nmX0 : ∀ a, a < 5 → ∀ b, b < 5 → a ≠ b → (TX0 a).2.1 ≠ (TX0 b).2.1 := by decide +kernel
theorem tyX0_ok : ∀ k, k < 5 → parseFieldDescriptor (TX0 k).2.2.1 = some (tyX0 k) := by decide +kernel
abbrev cX0_init : ByteArray := prog_2_method_1_code
def yX0_init : MethodName := ⟨RX0, "<init>", "()V"⟩
abbrev cX0_letGo : ByteArray := prog_2_method_2_code
def yX0_letGo : MethodName := ⟨RX0, "letGo", "(IIII)V"⟩
abbrev cX0_takeFrom : ByteArray := prog_2_method_3_code
def yX0_takeFrom : MethodName := ⟨RX0, "takeFrom", "(LThreeMagnets$Bob;)V"⟩
def RX1 : String := "ThreeMagnets$Picture"
def TX1 : u_T := fun k => match k with
  | 0 => ("ThreeMagnets$Picture", "x", "I", false)
  | 1 => ("ThreeMagnets$Picture", "y", "I", false)
  | 2 => ("ThreeMagnets$Picture", "w", "I", false)
  | 3 => ("ThreeMagnets$Picture", "h", "I", false)
  | 4 => ("ThreeMagnets$Picture", "step", "I", false)
  | 5 => ("ThreeMagnets$Picture", "painted", "[I", true)
  | _ => ("ThreeMagnets$Picture", "spans", "[I", true)
def tyX1 : Nat → FieldType := fun k => match k with
  | 0 => .int
  | 1 => .int
  | 2 => .int
  | 3 => .int
  | 4 => .int
  | 5 => .array .int
  | _ => .array .int
abbrev wsX10 : List Cond := u_ws RX1 TX1 7
theorem nmX1 : ∀ a, a < 7 → ∀ b, b < 7 → a ≠ b → (TX1 a).2.1 ≠ (TX1 b).2.1 := by decide +kernel
theorem tyX1_ok : ∀ k, k < 7 → parseFieldDescriptor (TX1 k).2.2.1 = some (tyX1 k) := by decide +kernel
abbrev cX1_init : ByteArray := prog_3_method_1_code
def yX1_init : MethodName := ⟨RX1, "<init>", "()V"⟩
abbrev cX1_isThere : ByteArray := prog_3_method_2_code
def yX1_isThere : MethodName := ⟨RX1, "isThere", "()Z"⟩
abbrev cX1_cells : ByteArray := prog_3_method_3_code
def yX1_cells : MethodName := ⟨RX1, "cells", "()I"⟩
abbrev cX1_has : ByteArray := prog_3_method_4_code
def yX1_has : MethodName := ⟨RX1, "has", "(II)Z"⟩
abbrev cX1_frame : ByteArray := prog_3_method_5_code
def yX1_frame : MethodName := ⟨RX1, "frame", "(IIIII)V"⟩
abbrev cX1_paint : ByteArray := prog_3_method_6_code
def yX1_paint : MethodName := ⟨RX1, "paint", "(IIII)V"⟩
abbrev cX1_colourAt : ByteArray := prog_3_method_7_code
def yX1_colourAt : MethodName := ⟨RX1, "colourAt", "(II)I"⟩
abbrev cX1_lengthAt : ByteArray := prog_3_method_8_code
def yX1_lengthAt : MethodName := ⟨RX1, "lengthAt", "(II)I"⟩
abbrev cX1_cellsOf : ByteArray := prog_3_method_9_code
def yX1_cellsOf : MethodName := ⟨RX1, "cellsOf", "(I)I"⟩
abbrev cX1_cellsAround : ByteArray := prog_3_method_10_code
def yX1_cellsAround : MethodName := ⟨RX1, "cellsAround", "(IIII)I"⟩
abbrev cX1_colours : ByteArray := prog_3_method_11_code
def yX1_colours : MethodName := ⟨RX1, "colours", "()I"⟩
abbrev cX1_isEdge : ByteArray := prog_3_method_12_code
def yX1_isEdge : MethodName := ⟨RX1, "isEdge", "(II)Z"⟩
abbrev cX1_isOther : ByteArray := prog_3_method_13_code
def yX1_isOther : MethodName := ⟨RX1, "isOther", "(III)Z"⟩
abbrev cX1_edges : ByteArray := prog_3_method_14_code
def yX1_edges : MethodName := ⟨RX1, "edges", "()I"⟩
abbrev cX1_threes : ByteArray := prog_3_method_15_code
def yX1_threes : MethodName := ⟨RX1, "threes", "()I"⟩
abbrev cX1_coloursOfSquare : ByteArray := prog_3_method_16_code
def yX1_coloursOfSquare : MethodName := ⟨RX1, "coloursOfSquare", "(II)I"⟩
abbrev cX1_lengths : ByteArray := prog_3_method_17_code
def yX1_lengths : MethodName := ⟨RX1, "lengths", "()I"⟩
abbrev cX1_isAlikeTurned : ByteArray := prog_3_method_18_code
def yX1_isAlikeTurned : MethodName := ⟨RX1, "isAlikeTurned", "(I)Z"⟩
abbrev cX1_turnedColour : ByteArray := prog_3_method_19_code
def yX1_turnedColour : MethodName := ⟨RX1, "turnedColour", "(II)I"⟩
abbrev cX1_takeFrom : ByteArray := prog_3_method_20_code
def yX1_takeFrom : MethodName := ⟨RX1, "takeFrom", "(LThreeMagnets$Picture;)V"⟩
def RX2 : String := "ThreeMagnets$Plate"
def TX2 : u_T := fun k => match k with
  | 0 => ("ThreeMagnets$Plate", "kinds", "[I", true)
  | 1 => ("ThreeMagnets$Plate", "xs", "[I", true)
  | 2 => ("ThreeMagnets$Plate", "ys", "[I", true)
  | 3 => ("ThreeMagnets$Plate", "strengths", "[I", true)
  | _ => ("ThreeMagnets$Plate", "count", "I", false)
def tyX2 : Nat → FieldType := fun k => match k with
  | 0 => .array .int
  | 1 => .array .int
  | 2 => .array .int
  | 3 => .array .int
  | _ => .int
abbrev wsX20 : List Cond := u_ws RX2 TX2 5
theorem nmX2 : ∀ a, a < 5 → ∀ b, b < 5 → a ≠ b → (TX2 a).2.1 ≠ (TX2 b).2.1 := by decide +kernel
theorem tyX2_ok : ∀ k, k < 5 → parseFieldDescriptor (TX2 k).2.2.1 = some (tyX2 k) := by decide +kernel
abbrev cX2_init : ByteArray := prog_4_method_1_code
def yX2_init : MethodName := ⟨RX2, "<init>", "()V"⟩
abbrev cX2_has : ByteArray := prog_4_method_2_code
def yX2_has : MethodName := ⟨RX2, "has", "(I)Z"⟩
abbrev cX2_isFull : ByteArray := prog_4_method_3_code
def yX2_isFull : MethodName := ⟨RX2, "isFull", "()Z"⟩
abbrev cX2_add : ByteArray := prog_4_method_4_code
def yX2_add : MethodName := ⟨RX2, "add", "(IIII)I"⟩
abbrev cX2_far : ByteArray := prog_4_method_5_code
def yX2_far : MethodName := ⟨RX2, "far", "(III)I"⟩
abbrev cX2_nearestTo : ByteArray := prog_4_method_6_code
def yX2_nearestTo : MethodName := ⟨RX2, "nearestTo", "(IIZ)I"⟩
abbrev cX2_pushes : ByteArray := prog_4_method_7_code
def yX2_pushes : MethodName := ⟨RX2, "pushes", "(I)Z"⟩
abbrev cX2_takeFrom : ByteArray := prog_4_method_8_code
def yX2_takeFrom : MethodName := ⟨RX2, "takeFrom", "(LThreeMagnets$Plate;)V"⟩
def RX3 : String := "ThreeMagnets$Reader"
def TX3 : u_T := fun k => match k with
  | 0 => ("ThreeMagnets$Reader", "draft", "LThreeMagnets$Text;", true)
  | 1 => ("ThreeMagnets$Reader", "tape", "LThreeMagnets$Tape;", true)
  | 2 => ("ThreeMagnets$Reader", "names", "Ljava/lang/String;", false)
  | 3 => ("ThreeMagnets$Reader", "place", "I", false)
  | _ => ("ThreeMagnets$Reader", "good", "Z", false)
def tyX3 : Nat → FieldType := fun k => match k with
  | 0 => .object "ThreeMagnets$Text"
  | 1 => .object "ThreeMagnets$Tape"
  | 2 => .object "java/lang/String"
  | 3 => .int
  | _ => .boolean
abbrev wsX30 : List Cond := u_ws RX3 TX3 5
theorem nmX3 : ∀ a, a < 5 → ∀ b, b < 5 → a ≠ b → (TX3 a).2.1 ≠ (TX3 b).2.1 := by decide +kernel
theorem tyX3_ok : ∀ k, k < 5 → parseFieldDescriptor (TX3 k).2.2.1 = some (tyX3 k) := by decide +kernel
abbrev cX3_init : ByteArray := prog_5_method_1_code
def yX3_init : MethodName := ⟨RX3, "<init>", "(LThreeMagnets$Tape;)V"⟩
abbrev cX3_faultFor : ByteArray := prog_5_method_2_code
def yX3_faultFor : MethodName := ⟨RX3, "faultFor", "(Ljava/lang/String;)I"⟩
abbrev cX3_readLevel : ByteArray := prog_5_method_3_code
def yX3_readLevel : MethodName := ⟨RX3, "readLevel", "(II)V"⟩
abbrev cX3_joins : ByteArray := prog_5_method_4_code
def yX3_joins : MethodName := ⟨RX3, "joins", "(II)Z"⟩
abbrev cX3_readOperand : ByteArray := prog_5_method_5_code
def yX3_readOperand : MethodName := ⟨RX3, "readOperand", "(I)V"⟩
abbrev cX3_readClose : ByteArray := prog_5_method_6_code
def yX3_readClose : MethodName := ⟨RX3, "readClose", "()V"⟩
abbrev cX3_readNumber : ByteArray := prog_5_method_7_code
def yX3_readNumber : MethodName := ⟨RX3, "readNumber", "()V"⟩
abbrev cX3_readName : ByteArray := prog_5_method_8_code
def yX3_readName : MethodName := ⟨RX3, "readName", "(I)V"⟩
abbrev cX3_isDigit : ByteArray := prog_5_method_9_code
def yX3_isDigit : MethodName := ⟨RX3, "isDigit", "(I)Z"⟩
def RX4 : String := "ThreeMagnets$Runner"
def TX4 : u_T := fun k => match k with
  | 0 => ("ThreeMagnets$Runner", "state", "LThreeMagnets$State;", true)
  | 1 => ("ThreeMagnets$Runner", "trial", "LThreeMagnets$Bob;", true)
  | 2 => ("ThreeMagnets$Runner", "names", "[I", true)
  | _ => ("ThreeMagnets$Runner", "stack", "[I", true)
def tyX4 : Nat → FieldType := fun k => match k with
  | 0 => .object "ThreeMagnets$State"
  | 1 => .object "ThreeMagnets$Bob"
  | 2 => .array .int
  | _ => .array .int
abbrev wsX40 : List Cond := u_ws RX4 TX4 4
theorem nmX4 : ∀ a, a < 4 → ∀ b, b < 4 → a ≠ b → (TX4 a).2.1 ≠ (TX4 b).2.1 := by decide +kernel
theorem tyX4_ok : ∀ k, k < 4 → parseFieldDescriptor (TX4 k).2.2.1 = some (tyX4 k) := by decide +kernel
abbrev cX4_init : ByteArray := prog_6_method_1_code
def yX4_init : MethodName := ⟨RX4, "<init>", "(LThreeMagnets$State;)V"⟩
abbrev cX4_endOf : ByteArray := prog_6_method_2_code
def yX4_endOf : MethodName := ⟨RX4, "endOf", "(IIIII)I"⟩
abbrev cX4_restOf : ByteArray := prog_6_method_3_code
def yX4_restOf : MethodName := ⟨RX4, "restOf", "(LThreeMagnets$Bob;)I"⟩
abbrev cX4_step : ByteArray := prog_6_method_4_code
def yX4_step : MethodName := ⟨RX4, "step", "(LThreeMagnets$Bob;I)V"⟩
abbrev cX4_go : ByteArray := prog_6_method_5_code
def yX4_go : MethodName := ⟨RX4, "go", "(LThreeMagnets$Bob;I)V"⟩
abbrev cX4_pullOf : ByteArray := prog_6_method_6_code
def yX4_pullOf : MethodName := ⟨RX4, "pullOf", "(III)I"⟩
abbrev cX4_pullByKind : ByteArray := prog_6_method_7_code
def yX4_pullByKind : MethodName := ⟨RX4, "pullByKind", "(IIII)I"⟩
abbrev cX4_fullPull : ByteArray := prog_6_method_8_code
def yX4_fullPull : MethodName := ⟨RX4, "fullPull", "(III)I"⟩
abbrev cX4_rubOf : ByteArray := prog_6_method_9_code
def yX4_rubOf : MethodName := ⟨RX4, "rubOf", "(LThreeMagnets$Bob;)I"⟩
abbrev cX4_wantOf : ByteArray := prog_6_method_10_code
def yX4_wantOf : MethodName := ⟨RX4, "wantOf", "(II)I"⟩
def RX5 : String := "ThreeMagnets$Sheets"
def TX5 : u_T := fun k => match k with
  | 0 => ("ThreeMagnets$Sheets", "bits", "[I", true)
  | 1 => ("ThreeMagnets$Sheets", "sizes", "[I", true)
  | _ => ("ThreeMagnets$Sheets", "numbers", "[I", true)
def tyX5 : Nat → FieldType := fun k => match k with
  | 0 => .array .int
  | 1 => .array .int
  | _ => .array .int
abbrev wsX50 : List Cond := u_ws RX5 TX5 3
theorem nmX5 : ∀ a, a < 3 → ∀ b, b < 3 → a ≠ b → (TX5 a).2.1 ≠ (TX5 b).2.1 := by decide +kernel
theorem tyX5_ok : ∀ k, k < 3 → parseFieldDescriptor (TX5 k).2.2.1 = some (tyX5 k) := by decide +kernel
abbrev cX5_init : ByteArray := prog_7_method_1_code
def yX5_init : MethodName := ⟨RX5, "<init>", "()V"⟩
abbrev cX5_has : ByteArray := prog_7_method_2_code
def yX5_has : MethodName := ⟨RX5, "has", "(I)Z"⟩
abbrev cX5_lacks : ByteArray := prog_7_method_3_code
def yX5_lacks : MethodName := ⟨RX5, "lacks", "(I)Z"⟩
abbrev cX5_lay : ByteArray := prog_7_method_4_code
def yX5_lay : MethodName := ⟨RX5, "lay", "(III)V"⟩
abbrev cX5_stand : ByteArray := prog_7_method_5_code
def yX5_stand : MethodName := ⟨RX5, "stand", "(III)Z"⟩
abbrev cX5_number : ByteArray := prog_7_method_6_code
def yX5_number : MethodName := ⟨RX5, "number", "(II)I"⟩
abbrev cX5_write : ByteArray := prog_7_method_7_code
def yX5_write : MethodName := ⟨RX5, "write", "(III)V"⟩
abbrev cX5_carry : ByteArray := prog_7_method_8_code
def yX5_carry : MethodName := ⟨RX5, "carry", "(IIIII)V"⟩
def RX6 : String := "ThreeMagnets$State"
def TX6 : u_T := fun k => match k with
  | 0 => ("ThreeMagnets$State", "plate", "LThreeMagnets$Plate;", true)
  | 1 => ("ThreeMagnets$State", "rules", "[I", true)
  | 2 => ("ThreeMagnets$State", "tape", "LThreeMagnets$Tape;", true)
  | 3 => ("ThreeMagnets$State", "pulling", "LThreeMagnets$Text;", true)
  | 4 => ("ThreeMagnets$State", "rubbing", "LThreeMagnets$Text;", true)
  | 5 => ("ThreeMagnets$State", "wanting", "LThreeMagnets$Text;", true)
  | 6 => ("ThreeMagnets$State", "bob", "LThreeMagnets$Bob;", true)
  | 7 => ("ThreeMagnets$State", "picture", "LThreeMagnets$Picture;", true)
  | 8 => ("ThreeMagnets$State", "thrown", "[I", true)
  | 9 => ("ThreeMagnets$State", "hasThrown", "Z", false)
  | 10 => ("ThreeMagnets$State", "waits", "[I", true)
  | 11 => ("ThreeMagnets$State", "waiting", "I", false)
  | _ => ("ThreeMagnets$State", "z", "I", false)
def tyX6 : Nat → FieldType := fun k => match k with
  | 0 => .object "ThreeMagnets$Plate"
  | 1 => .array .int
  | 2 => .object "ThreeMagnets$Tape"
  | 3 => .object "ThreeMagnets$Text"
  | 4 => .object "ThreeMagnets$Text"
  | 5 => .object "ThreeMagnets$Text"
  | 6 => .object "ThreeMagnets$Bob"
  | 7 => .object "ThreeMagnets$Picture"
  | 8 => .array .int
  | 9 => .boolean
  | 10 => .array .int
  | 11 => .int
  | _ => .int
abbrev wsX60 : List Cond := u_ws RX6 TX6 13
theorem nmX6 : ∀ a, a < 13 → ∀ b, b < 13 → a ≠ b → (TX6 a).2.1 ≠ (TX6 b).2.1 := by decide +kernel
theorem tyX6_ok : ∀ k, k < 13 → parseFieldDescriptor (TX6 k).2.2.1 = some (tyX6 k) := by decide +kernel
abbrev cX6_init : ByteArray := prog_8_method_1_code
def yX6_init : MethodName := ⟨RX6, "<init>", "()V"⟩
abbrev cX6_textOf : ByteArray := prog_8_method_2_code
def yX6_textOf : MethodName := ⟨RX6, "textOf", "(I)LThreeMagnets$Text;"⟩
abbrev cX6_takeFrom : ByteArray := prog_8_method_3_code
def yX6_takeFrom : MethodName := ⟨RX6, "takeFrom", "(LThreeMagnets$State;)V"⟩
def RX7 : String := "ThreeMagnets$Tape"
def TX7 : u_T := fun k => match k with
  | 0 => ("ThreeMagnets$Tape", "bytes", "[I", true)
  | _ => ("ThreeMagnets$Tape", "size", "I", false)
def tyX7 : Nat → FieldType := fun k => match k with
  | 0 => .array .int
  | _ => .int
abbrev wsX70 : List Cond := u_ws RX7 TX7 2
theorem nmX7 : ∀ a, a < 2 → ∀ b, b < 2 → a ≠ b → (TX7 a).2.1 ≠ (TX7 b).2.1 := by decide +kernel
theorem tyX7_ok : ∀ k, k < 2 → parseFieldDescriptor (TX7 k).2.2.1 = some (tyX7 k) := by decide +kernel
abbrev cX7_init : ByteArray := prog_9_method_1_code
def yX7_init : MethodName := ⟨RX7, "<init>", "()V"⟩
abbrev cX7_at : ByteArray := prog_9_method_2_code
def yX7_at : MethodName := ⟨RX7, "at", "(I)I"⟩
abbrev cX7_takeFrom : ByteArray := prog_9_method_3_code
def yX7_takeFrom : MethodName := ⟨RX7, "takeFrom", "(LThreeMagnets$Tape;)V"⟩
def RX8 : String := "ThreeMagnets$Text"
def TX8 : u_T := fun k => match k with
  | 0 => ("ThreeMagnets$Text", "signs", "[I", true)
  | 1 => ("ThreeMagnets$Text", "values", "[I", true)
  | _ => ("ThreeMagnets$Text", "size", "I", false)
def tyX8 : Nat → FieldType := fun k => match k with
  | 0 => .array .int
  | 1 => .array .int
  | _ => .int
abbrev wsX80 : List Cond := u_ws RX8 TX8 3
theorem nmX8 : ∀ a, a < 3 → ∀ b, b < 3 → a ≠ b → (TX8 a).2.1 ≠ (TX8 b).2.1 := by decide +kernel
theorem tyX8_ok : ∀ k, k < 3 → parseFieldDescriptor (TX8 k).2.2.1 = some (tyX8 k) := by decide +kernel
abbrev cX8_init : ByteArray := prog_10_method_1_code
def yX8_init : MethodName := ⟨RX8, "<init>", "()V"⟩
abbrev cX8_add : ByteArray := prog_10_method_2_code
def yX8_add : MethodName := ⟨RX8, "add", "(II)V"⟩
abbrev cX8_valueWith : ByteArray := prog_10_method_3_code
def yX8_valueWith : MethodName := ⟨RX8, "valueWith", "([I[I)I"⟩
abbrev cX8_together : ByteArray := prog_10_method_4_code
def yX8_together : MethodName := ⟨RX8, "together", "(III)I"⟩
abbrev cX8_takeFrom : ByteArray := prog_10_method_5_code
def yX8_takeFrom : MethodName := ⟨RX8, "takeFrom", "(LThreeMagnets$Text;)V"⟩
def RX9 : String := "ThreeMagnets$Voices"
def TX9 : u_T := fun k => match k with
  | 0 => ("ThreeMagnets$Voices", "trace", "[I", true)
  | 1 => ("ThreeMagnets$Voices", "size", "I", false)
  | 2 => ("ThreeMagnets$Voices", "parted", "Z", false)
  | 3 => ("ThreeMagnets$Voices", "began", "[I", true)
  | 4 => ("ThreeMagnets$Voices", "beganSize", "I", false)
  | 5 => ("ThreeMagnets$Voices", "kind", "I", false)
  | 6 => ("ThreeMagnets$Voices", "number", "I", false)
  | _ => ("ThreeMagnets$Voices", "strength", "I", false)
def tyX9 : Nat → FieldType := fun k => match k with
  | 0 => .array .int
  | 1 => .int
  | 2 => .boolean
  | 3 => .array .int
  | 4 => .int
  | 5 => .int
  | 6 => .int
  | _ => .int
abbrev wsX90 : List Cond := u_ws RX9 TX9 8
theorem nmX9 : ∀ a, a < 8 → ∀ b, b < 8 → a ≠ b → (TX9 a).2.1 ≠ (TX9 b).2.1 := by decide +kernel
theorem tyX9_ok : ∀ k, k < 8 → parseFieldDescriptor (TX9 k).2.2.1 = some (tyX9 k) := by decide +kernel
abbrev cX9_init : ByteArray := prog_11_method_1_code
def yX9_init : MethodName := ⟨RX9, "<init>", "()V"⟩
abbrev cX9_answerOf : ByteArray := prog_11_method_2_code
def yX9_answerOf : MethodName := ⟨RX9, "answerOf", "(LThreeMagnets$Plate;III)I"⟩
abbrev cX9_keepTrace : ByteArray := prog_11_method_3_code
def yX9_keepTrace : MethodName := ⟨RX9, "keepTrace", "()V"⟩
abbrev cX9_speak : ByteArray := prog_11_method_4_code
def yX9_speak : MethodName := ⟨RX9, "speak", "(IIII)I"⟩
abbrev cX9_workOut : ByteArray := prog_11_method_5_code
def yX9_workOut : MethodName := ⟨RX9, "workOut", "(IIII)I"⟩
abbrev cX9_divided : ByteArray := prog_11_method_6_code
def yX9_divided : MethodName := ⟨RX9, "divided", "(I)I"⟩
abbrev cX9_holderOf : ByteArray := prog_11_method_7_code
def yX9_holderOf : MethodName := ⟨RX9, "holderOf", "(II)I"⟩
abbrev cX9_bodyOf : ByteArray := prog_11_method_8_code
def yX9_bodyOf : MethodName := ⟨RX9, "bodyOf", "(II)I"⟩
def RX10 : String := "ThreeMagnets"
def TX10 : u_T := fun k => match k with
  | 0 => ("ThreeMagnets", "now", "LThreeMagnets$State;", true)
  | 1 => ("ThreeMagnets", "kept", "LThreeMagnets$State;", true)
  | 2 => ("ThreeMagnets", "runner", "LThreeMagnets$Runner;", true)
  | 3 => ("ThreeMagnets", "reader", "LThreeMagnets$Reader;", true)
  | 4 => ("ThreeMagnets", "voices", "LThreeMagnets$Voices;", true)
  | 5 => ("ThreeMagnets", "sheets", "LThreeMagnets$Sheets;", true)
  | 6 => ("ThreeMagnets", "errors", "[I", true)
  | _ => ("ThreeMagnets", "images", "I", false)
def tyX10 : Nat → FieldType := fun k => match k with
  | 0 => .object "ThreeMagnets$State"
  | 1 => .object "ThreeMagnets$State"
  | 2 => .object "ThreeMagnets$Runner"
  | 3 => .object "ThreeMagnets$Reader"
  | 4 => .object "ThreeMagnets$Voices"
  | 5 => .object "ThreeMagnets$Sheets"
  | 6 => .array .int
  | _ => .int
abbrev wsX100 : List Cond := u_ws RX10 TX10 8
theorem nmX10 : ∀ a, a < 8 → ∀ b, b < 8 → a ≠ b → (TX10 a).2.1 ≠ (TX10 b).2.1 := by decide +kernel
theorem tyX10_ok : ∀ k, k < 8 → parseFieldDescriptor (TX10 k).2.2.1 = some (tyX10 k) := by decide +kernel
abbrev cX10_init : ByteArray := prog_1_method_1_code
def yX10_init : MethodName := ⟨RX10, "<init>", "()V"⟩
abbrev cX10_magnet : ByteArray := prog_1_method_2_code
def yX10_magnet : MethodName := ⟨RX10, "magnet", "(IIII)I"⟩
abbrev cX10_magnetIs : ByteArray := prog_1_method_3_code
def yX10_magnetIs : MethodName := ⟨RX10, "magnetIs", "(II)I"⟩
abbrev cX10_as : ByteArray := prog_1_method_4_code
def yX10_as : MethodName := ⟨RX10, "as", "(II)I"⟩
abbrev cX10_shift : ByteArray := prog_1_method_5_code
def yX10_shift : MethodName := ⟨RX10, "shift", "(IIII)I"⟩
abbrev cX10_takeOff : ByteArray := prog_1_method_6_code
def yX10_takeOff : MethodName := ⟨RX10, "takeOff", "()I"⟩
abbrev cX10_rule : ByteArray := prog_1_method_7_code
def yX10_rule : MethodName := ⟨RX10, "rule", "(II)I"⟩
abbrev cX10_nearest : ByteArray := prog_1_method_8_code
def yX10_nearest : MethodName := ⟨RX10, "nearest", "(III)I"⟩
abbrev cX10_feed : ByteArray := prog_1_method_9_code
def yX10_feed : MethodName := ⟨RX10, "feed", "(JI)I"⟩
abbrev cX10_text : ByteArray := prog_1_method_10_code
def yX10_text : MethodName := ⟨RX10, "text", "(I)I"⟩
abbrev cX10_untell : ByteArray := prog_1_method_11_code
def yX10_untell : MethodName := ⟨RX10, "untell", "(I)I"⟩
abbrev cX10_let : ByteArray := prog_1_method_12_code
def yX10_let : MethodName := ⟨RX10, "let", "(II)I"⟩
abbrev cX10_push : ByteArray := prog_1_method_13_code
def yX10_push : MethodName := ⟨RX10, "push", "(II)I"⟩
abbrev cX10_tick : ByteArray := prog_1_method_14_code
def yX10_tick : MethodName := ⟨RX10, "tick", "(I)I"⟩
abbrev cX10_bob : ByteArray := prog_1_method_15_code
def yX10_bob : MethodName := ⟨RX10, "bob", "(I)I"⟩
abbrev cX10_ends : ByteArray := prog_1_method_16_code
def yX10_ends : MethodName := ⟨RX10, "ends", "(IIII)I"⟩
abbrev cX10_length : ByteArray := prog_1_method_17_code
def yX10_length : MethodName := ⟨RX10, "length", "(II)I"⟩
abbrev cX10_doubt : ByteArray := prog_1_method_18_code
def yX10_doubt : MethodName := ⟨RX10, "doubt", "(II)I"⟩
abbrev cX10_holds : ByteArray := prog_1_method_19_code
def yX10_holds : MethodName := ⟨RX10, "holds", "(II)I"⟩
abbrev cX10_picture : ByteArray := prog_1_method_20_code
def yX10_picture : MethodName := ⟨RX10, "picture", "(IIII)I"⟩
abbrev cX10_cell : ByteArray := prog_1_method_21_code
def yX10_cell : MethodName := ⟨RX10, "cell", "(II)I"⟩
abbrev cX10_share : ByteArray := prog_1_method_22_code
def yX10_share : MethodName := ⟨RX10, "share", "(I)I"⟩
abbrev cX10_edge : ByteArray := prog_1_method_23_code
def yX10_edge : MethodName := ⟨RX10, "edge", "(II)I"⟩
abbrev cX10_seen : ByteArray := prog_1_method_24_code
def yX10_seen : MethodName := ⟨RX10, "seen", "(I)I"⟩
abbrev cX10_sure : ByteArray := prog_1_method_25_code
def yX10_sure : MethodName := ⟨RX10, "sure", "(III)I"⟩
abbrev cX10_turned : ByteArray := prog_1_method_26_code
def yX10_turned : MethodName := ⟨RX10, "turned", "(I)I"⟩
abbrev cX10_fair : ByteArray := prog_1_method_27_code
def yX10_fair : MethodName := ⟨RX10, "fair", "(I)I"⟩
abbrev cX10_want : ByteArray := prog_1_method_28_code
def yX10_want : MethodName := ⟨RX10, "want", "(I)I"⟩
abbrev cX10_throwsOf : ByteArray := prog_1_method_29_code
def yX10_throwsOf : MethodName := ⟨RX10, "throwsOf", "(IIII)I"⟩
abbrev cX10_thrownAt : ByteArray := prog_1_method_30_code
def yX10_thrownAt : MethodName := ⟨RX10, "thrownAt", "(I)I"⟩
abbrev cX10_seed : ByteArray := prog_1_method_31_code
def yX10_seed : MethodName := ⟨RX10, "seed", "(I)I"⟩
abbrev cX10_voice : ByteArray := prog_1_method_32_code
def yX10_voice : MethodName := ⟨RX10, "voice", "(III)I"⟩
abbrev cX10_body : ByteArray := prog_1_method_33_code
def yX10_body : MethodName := ⟨RX10, "body", "(I)I"⟩
abbrev cX10_sheet : ByteArray := prog_1_method_34_code
def yX10_sheet : MethodName := ⟨RX10, "sheet", "(III)I"⟩
abbrev cX10_put : ByteArray := prog_1_method_35_code
def yX10_put : MethodName := ⟨RX10, "put", "(III)I"⟩
abbrev cX10_move : ByteArray := prog_1_method_36_code
def yX10_move : MethodName := ⟨RX10, "move", "(IIIII)I"⟩
abbrev cX10_magnets : ByteArray := prog_1_method_37_code
def yX10_magnets : MethodName := ⟨RX10, "magnets", "(I)I"⟩
abbrev cX10_image : ByteArray := prog_1_method_38_code
def yX10_image : MethodName := ⟨RX10, "image", "()I"⟩
abbrev cX10_restore : ByteArray := prog_1_method_39_code
def yX10_restore : MethodName := ⟨RX10, "restore", "()I"⟩
abbrev cX10_tell : ByteArray := prog_1_method_40_code
def yX10_tell : MethodName := ⟨RX10, "tell", "(I)I"⟩
abbrev cX10_check : ByteArray := prog_1_method_41_code
def yX10_check : MethodName := ⟨RX10, "check", "(I)I"⟩
abbrev cX10_count : ByteArray := prog_1_method_42_code
def yX10_count : MethodName := ⟨RX10, "count", "(I)I"⟩
abbrev cX10_told : ByteArray := prog_1_method_43_code
def yX10_told : MethodName := ⟨RX10, "told", "(I)I"⟩
abbrev cX10_refuse : ByteArray := prog_1_method_44_code
def yX10_refuse : MethodName := ⟨RX10, "refuse", "(I)I"⟩
abbrev cX10_finer : ByteArray := prog_1_method_45_code
def yX10_finer : MethodName := ⟨RX10, "finer", "()I"⟩
abbrev cX10_wander : ByteArray := prog_1_method_46_code
def yX10_wander : MethodName := ⟨RX10, "wander", "(I)I"⟩
abbrev cX10_addsFrom : ByteArray := prog_1_method_47_code
def yX10_addsFrom : MethodName := ⟨RX10, "addsFrom", "(II)Z"⟩
abbrev cX10_isMagnet : ByteArray := prog_1_method_48_code
def yX10_isMagnet : MethodName := ⟨RX10, "isMagnet", "(IIII)Z"⟩
abbrev cX10_isKind : ByteArray := prog_1_method_49_code
def yX10_isKind : MethodName := ⟨RX10, "isKind", "(I)Z"⟩
abbrev cX10_isUnder : ByteArray := prog_1_method_50_code
def yX10_isUnder : MethodName := ⟨RX10, "isUnder", "(II)Z"⟩
abbrev cX10_isPlace : ByteArray := prog_1_method_51_code
def yX10_isPlace : MethodName := ⟨RX10, "isPlace", "(II)Z"⟩
abbrev cX10_isSpeed : ByteArray := prog_1_method_52_code
def yX10_isSpeed : MethodName := ⟨RX10, "isSpeed", "(I)Z"⟩
abbrev cX10_isColour : ByteArray := prog_1_method_53_code
def yX10_isColour : MethodName := ⟨RX10, "isColour", "(I)Z"⟩
abbrev cX10_isUse : ByteArray := prog_1_method_54_code
def yX10_isUse : MethodName := ⟨RX10, "isUse", "(I)Z"⟩
abbrev cX10_namesOf : ByteArray := prog_1_method_55_code
def yX10_namesOf : MethodName := ⟨RX10, "namesOf", "(I)Ljava/lang/String;"⟩
abbrev cX10_within : ByteArray := prog_1_method_56_code
def yX10_within : MethodName := ⟨RX10, "within", "(III)Z"⟩
abbrev cX10_held : ByteArray := prog_1_method_57_code
def yX10_held : MethodName := ⟨RX10, "held", "(III)I"⟩
abbrev cX10_cut : ByteArray := prog_1_method_58_code
def yX10_cut : MethodName := ⟨RX10, "cut", "(II)I"⟩
abbrev cX10_greatestInBoth : ByteArray := prog_1_method_59_code
def yX10_greatestInBoth : MethodName := ⟨RX10, "greatestInBoth", "(II)I"⟩
abbrev cX10_clear : ByteArray := prog_1_method_60_code
def yX10_clear : MethodName := ⟨RX10, "clear", "([I)V"⟩
abbrev cX10_copy : ByteArray := prog_1_method_61_code
def yX10_copy : MethodName := ⟨RX10, "copy", "([I[I)V"⟩
def RX11 : String := "ThreeMagnetsModel"
def TX11 : u_T := fun k => match k with
  | 0 => ("ThreeMagnetsModel", "s", "[I", true)
  | 1 => ("ThreeMagnetsModel", "kept", "[I", true)
  | 2 => ("ThreeMagnetsModel", "images", "I", false)
  | 3 => ("ThreeMagnetsModel", "errors", "[I", true)
  | 4 => ("ThreeMagnetsModel", "bobX", "I", false)
  | 5 => ("ThreeMagnetsModel", "bobY", "I", false)
  | 6 => ("ThreeMagnetsModel", "quickX", "I", false)
  | 7 => ("ThreeMagnetsModel", "quickY", "I", false)
  | 8 => ("ThreeMagnetsModel", "ticks", "I", false)
  | 9 => ("ThreeMagnetsModel", "at", "I", false)
  | 10 => ("ThreeMagnetsModel", "open", "I", false)
  | 11 => ("ThreeMagnetsModel", "steps", "I", false)
  | 12 => ("ThreeMagnetsModel", "use", "I", false)
  | 13 => ("ThreeMagnetsModel", "step", "[I", true)
  | 14 => ("ThreeMagnetsModel", "named", "[I", true)
  | 15 => ("ThreeMagnetsModel", "pile", "[I", true)
  | 16 => ("ThreeMagnetsModel", "comesTo", "[I", true)
  | 17 => ("ThreeMagnetsModel", "comesFrom", "[I", true)
  | 18 => ("ThreeMagnetsModel", "trace", "[I", true)
  | 19 => ("ThreeMagnetsModel", "traced", "I", false)
  | 20 => ("ThreeMagnetsModel", "speaks", "I", false)
  | 21 => ("ThreeMagnetsModel", "isParted", "Z", false)
  | 22 => ("ThreeMagnetsModel", "bits", "[I", true)
  | 23 => ("ThreeMagnetsModel", "sizes", "[I", true)
  | 24 => ("ThreeMagnetsModel", "number", "[I", true)
  | _ => ("ThreeMagnetsModel", "aside", "[I", true)
def tyX11 : Nat → FieldType := fun k => match k with
  | 0 => .array .int
  | 1 => .array .int
  | 2 => .int
  | 3 => .array .int
  | 4 => .int
  | 5 => .int
  | 6 => .int
  | 7 => .int
  | 8 => .int
  | 9 => .int
  | 10 => .int
  | 11 => .int
  | 12 => .int
  | 13 => .array .int
  | 14 => .array .int
  | 15 => .array .int
  | 16 => .array .int
  | 17 => .array .int
  | 18 => .array .int
  | 19 => .int
  | 20 => .int
  | 21 => .boolean
  | 22 => .array .int
  | 23 => .array .int
  | 24 => .array .int
  | _ => .array .int
abbrev wsX110 : List Cond := u_ws RX11 TX11 26
theorem nmX11 : ∀ a, a < 26 → ∀ b, b < 26 → a ≠ b → (TX11 a).2.1 ≠ (TX11 b).2.1 := by decide +kernel
theorem tyX11_ok : ∀ k, k < 26 → parseFieldDescriptor (TX11 k).2.2.1 = some (tyX11 k) := by decide +kernel
abbrev cX11_init : ByteArray := prog_13_method_1_code
def yX11_init : MethodName := ⟨RX11, "<init>", "()V"⟩
abbrev cX11_error : ByteArray := prog_13_method_2_code
def yX11_error : MethodName := ⟨RX11, "error", "(I)I"⟩
abbrev cX11_in : ByteArray := prog_13_method_3_code
def yX11_in : MethodName := ⟨RX11, "in", "(III)Z"⟩
abbrev cX11_size : ByteArray := prog_13_method_4_code
def yX11_size : MethodName := ⟨RX11, "size", "(I)I"⟩
abbrev cX11_held : ByteArray := prog_13_method_5_code
def yX11_held : MethodName := ⟨RX11, "held", "(III)I"⟩
abbrev cX11_isPlace : ByteArray := prog_13_method_6_code
def yX11_isPlace : MethodName := ⟨RX11, "isPlace", "(II)Z"⟩
abbrev cX11_isMagnet : ByteArray := prog_13_method_7_code
def yX11_isMagnet : MethodName := ⟨RX11, "isMagnet", "(I)Z"⟩
abbrev cX11_its : ByteArray := prog_13_method_8_code
def yX11_its : MethodName := ⟨RX11, "its", "(II)I"⟩
abbrev cX11_isUnder : ByteArray := prog_13_method_9_code
def yX11_isUnder : MethodName := ⟨RX11, "isUnder", "(II)Z"⟩
abbrev cX11_isGood : ByteArray := prog_13_method_10_code
def yX11_isGood : MethodName := ⟨RX11, "isGood", "(IIII)Z"⟩
abbrev cX11_comes : ByteArray := prog_13_method_11_code
def yX11_comes : MethodName := ⟨RX11, "comes", "(IIII)I"⟩
abbrev cX11_magnet : ByteArray := prog_13_method_12_code
def yX11_magnet : MethodName := ⟨RX11, "magnet", "(IIII)I"⟩
abbrev cX11_magnetIs : ByteArray := prog_13_method_13_code
def yX11_magnetIs : MethodName := ⟨RX11, "magnetIs", "(II)I"⟩
abbrev cX11_as : ByteArray := prog_13_method_14_code
def yX11_as : MethodName := ⟨RX11, "as", "(II)I"⟩
abbrev cX11_shift : ByteArray := prog_13_method_15_code
def yX11_shift : MethodName := ⟨RX11, "shift", "(IIII)I"⟩
abbrev cX11_takeOff : ByteArray := prog_13_method_16_code
def yX11_takeOff : MethodName := ⟨RX11, "takeOff", "()I"⟩
abbrev cX11_isRule : ByteArray := prog_13_method_17_code
def yX11_isRule : MethodName := ⟨RX11, "isRule", "(II)Z"⟩
abbrev cX11_rule : ByteArray := prog_13_method_18_code
def yX11_rule : MethodName := ⟨RX11, "rule", "(II)I"⟩
abbrev cX11_goesFrom : ByteArray := prog_13_method_19_code
def yX11_goesFrom : MethodName := ⟨RX11, "goesFrom", "(IIII)V"⟩
abbrev cX11_takesBob : ByteArray := prog_13_method_20_code
def yX11_takesBob : MethodName := ⟨RX11, "takesBob", "()V"⟩
abbrev cX11_putsBob : ByteArray := prog_13_method_21_code
def yX11_putsBob : MethodName := ⟨RX11, "putsBob", "()V"⟩
abbrev cX11_far : ByteArray := prog_13_method_22_code
def yX11_far : MethodName := ⟨RX11, "far", "(I)I"⟩
abbrev cX11_nearestOf : ByteArray := prog_13_method_23_code
def yX11_nearestOf : MethodName := ⟨RX11, "nearestOf", "(Z)I"⟩
abbrev cX11_plainPull : ByteArray := prog_13_method_24_code
def yX11_plainPull : MethodName := ⟨RX11, "plainPull", "(I)I"⟩
abbrev cX11_pull : ByteArray := prog_13_method_25_code
def yX11_pull : MethodName := ⟨RX11, "pull", "(I)I"⟩
abbrev cX11_rubs : ByteArray := prog_13_method_26_code
def yX11_rubs : MethodName := ⟨RX11, "rubs", "()I"⟩
abbrev cX11_tick1 : ByteArray := prog_13_method_27_code
def yX11_tick1 : MethodName := ⟨RX11, "tick1", "(I)V"⟩
abbrev cX11_restsAt : ByteArray := prog_13_method_28_code
def yX11_restsAt : MethodName := ⟨RX11, "restsAt", "()I"⟩
abbrev cX11_runs : ByteArray := prog_13_method_29_code
def yX11_runs : MethodName := ⟨RX11, "runs", "(I)I"⟩
abbrev cX11_endsFrom : ByteArray := prog_13_method_30_code
def yX11_endsFrom : MethodName := ⟨RX11, "endsFrom", "(III)I"⟩
abbrev cX11_fine : ByteArray := prog_13_method_31_code
def yX11_fine : MethodName := ⟨RX11, "fine", "()I"⟩
abbrev cX11_nearest : ByteArray := prog_13_method_32_code
def yX11_nearest : MethodName := ⟨RX11, "nearest", "(III)I"⟩
abbrev cX11_feed : ByteArray := prog_13_method_33_code
def yX11_feed : MethodName := ⟨RX11, "feed", "(JI)I"⟩
abbrev cX11_look : ByteArray := prog_13_method_34_code
def yX11_look : MethodName := ⟨RX11, "look", "()I"⟩
abbrev cX11_isName : ByteArray := prog_13_method_35_code
def yX11_isName : MethodName := ⟨RX11, "isName", "(I)Z"⟩
abbrev cX11_lay : ByteArray := prog_13_method_36_code
def yX11_lay : MethodName := ⟨RX11, "lay", "(II)V"⟩
abbrev cX11_whole : ByteArray := prog_13_method_37_code
def yX11_whole : MethodName := ⟨RX11, "whole", "()Z"⟩
abbrev cX11_both : ByteArray := prog_13_method_38_code
def yX11_both : MethodName := ⟨RX11, "both", "()Z"⟩
abbrev cX11_compared : ByteArray := prog_13_method_39_code
def yX11_compared : MethodName := ⟨RX11, "compared", "()Z"⟩
abbrev cX11_sum : ByteArray := prog_13_method_40_code
def yX11_sum : MethodName := ⟨RX11, "sum", "()Z"⟩
abbrev cX11_product : ByteArray := prog_13_method_41_code
def yX11_product : MethodName := ⟨RX11, "product", "()Z"⟩
abbrev cX11_opens : ByteArray := prog_13_method_42_code
def yX11_opens : MethodName := ⟨RX11, "opens", "()Z"⟩
abbrev cX11_one : ByteArray := prog_13_method_43_code
def yX11_one : MethodName := ⟨RX11, "one", "()Z"⟩
abbrev cX11_hasText : ByteArray := prog_13_method_44_code
def yX11_hasText : MethodName := ⟨RX11, "hasText", "(I)Z"⟩
abbrev cX11_text : ByteArray := prog_13_method_45_code
def yX11_text : MethodName := ⟨RX11, "text", "(I)I"⟩
abbrev cX11_untell : ByteArray := prog_13_method_46_code
def yX11_untell : MethodName := ⟨RX11, "untell", "(I)I"⟩
abbrev cX11_joined : ByteArray := prog_13_method_47_code
def yX11_joined : MethodName := ⟨RX11, "joined", "(III)I"⟩
abbrev cX11_worked : ByteArray := prog_13_method_48_code
def yX11_worked : MethodName := ⟨RX11, "worked", "(I)I"⟩
abbrev cX11_let : ByteArray := prog_13_method_49_code
def yX11_let : MethodName := ⟨RX11, "let", "(II)I"⟩
abbrev cX11_isQuick : ByteArray := prog_13_method_50_code
def yX11_isQuick : MethodName := ⟨RX11, "isQuick", "(II)Z"⟩
abbrev cX11_push : ByteArray := prog_13_method_51_code
def yX11_push : MethodName := ⟨RX11, "push", "(II)I"⟩
abbrev cX11_tick : ByteArray := prog_13_method_52_code
def yX11_tick : MethodName := ⟨RX11, "tick", "(I)I"⟩
abbrev cX11_bob : ByteArray := prog_13_method_53_code
def yX11_bob : MethodName := ⟨RX11, "bob", "(I)I"⟩
abbrev cX11_ends : ByteArray := prog_13_method_54_code
def yX11_ends : MethodName := ⟨RX11, "ends", "(IIII)I"⟩
abbrev cX11_length : ByteArray := prog_13_method_55_code
def yX11_length : MethodName := ⟨RX11, "length", "(II)I"⟩
abbrev cX11_doubt : ByteArray := prog_13_method_56_code
def yX11_doubt : MethodName := ⟨RX11, "doubt", "(II)I"⟩
abbrev cX11_holds : ByteArray := prog_13_method_57_code
def yX11_holds : MethodName := ⟨RX11, "holds", "(II)I"⟩
abbrev cX11_wide : ByteArray := prog_13_method_58_code
def yX11_wide : MethodName := ⟨RX11, "wide", "()I"⟩
abbrev cX11_high : ByteArray := prog_13_method_59_code
def yX11_high : MethodName := ⟨RX11, "high", "()I"⟩
abbrev cX11_isPicture : ByteArray := prog_13_method_60_code
def yX11_isPicture : MethodName := ⟨RX11, "isPicture", "()Z"⟩
abbrev cX11_colour : ByteArray := prog_13_method_61_code
def yX11_colour : MethodName := ⟨RX11, "colour", "(II)I"⟩
abbrev cX11_isCell : ByteArray := prog_13_method_62_code
def yX11_isCell : MethodName := ⟨RX11, "isCell", "(II)Z"⟩
abbrev cX11_isColour : ByteArray := prog_13_method_63_code
def yX11_isColour : MethodName := ⟨RX11, "isColour", "(I)Z"⟩
abbrev cX11_coloursIn : ByteArray := prog_13_method_64_code
def yX11_coloursIn : MethodName := ⟨RX11, "coloursIn", "(IIII)I"⟩
abbrev cX11_picture : ByteArray := prog_13_method_65_code
def yX11_picture : MethodName := ⟨RX11, "picture", "(IIII)I"⟩
abbrev cX11_cell : ByteArray := prog_13_method_66_code
def yX11_cell : MethodName := ⟨RX11, "cell", "(II)I"⟩
abbrev cX11_around : ByteArray := prog_13_method_67_code
def yX11_around : MethodName := ⟨RX11, "around", "(IIII)I"⟩
abbrev cX11_shareOf : ByteArray := prog_13_method_68_code
def yX11_shareOf : MethodName := ⟨RX11, "shareOf", "(I)I"⟩
abbrev cX11_share : ByteArray := prog_13_method_69_code
def yX11_share : MethodName := ⟨RX11, "share", "(I)I"⟩
abbrev cX11_isOther : ByteArray := prog_13_method_70_code
def yX11_isOther : MethodName := ⟨RX11, "isOther", "(III)Z"⟩
abbrev cX11_isEdge : ByteArray := prog_13_method_71_code
def yX11_isEdge : MethodName := ⟨RX11, "isEdge", "(II)Z"⟩
abbrev cX11_edge : ByteArray := prog_13_method_72_code
def yX11_edge : MethodName := ⟨RX11, "edge", "(II)I"⟩
abbrev cX11_finerOf : ByteArray := prog_13_method_73_code
def yX11_finerOf : MethodName := ⟨RX11, "finerOf", "(II)I"⟩
abbrev cX11_seen : ByteArray := prog_13_method_74_code
def yX11_seen : MethodName := ⟨RX11, "seen", "(I)I"⟩
abbrev cX11_sure : ByteArray := prog_13_method_75_code
def yX11_sure : MethodName := ⟨RX11, "sure", "(III)I"⟩
abbrev cX11_turned : ByteArray := prog_13_method_76_code
def yX11_turned : MethodName := ⟨RX11, "turned", "(I)I"⟩
abbrev cX11_fair : ByteArray := prog_13_method_77_code
def yX11_fair : MethodName := ⟨RX11, "fair", "(I)I"⟩
abbrev cX11_wantOf : ByteArray := prog_13_method_78_code
def yX11_wantOf : MethodName := ⟨RX11, "wantOf", "(II)I"⟩
abbrev cX11_want : ByteArray := prog_13_method_79_code
def yX11_want : MethodName := ⟨RX11, "want", "(I)I"⟩
abbrev cX11_draw : ByteArray := prog_13_method_80_code
def yX11_draw : MethodName := ⟨RX11, "draw", "()I"⟩
abbrev cX11_throwsOf : ByteArray := prog_13_method_81_code
def yX11_throwsOf : MethodName := ⟨RX11, "throwsOf", "(IIII)I"⟩
abbrev cX11_thrownAt : ByteArray := prog_13_method_82_code
def yX11_thrownAt : MethodName := ⟨RX11, "thrownAt", "(I)I"⟩
abbrev cX11_seed : ByteArray := prog_13_method_83_code
def yX11_seed : MethodName := ⟨RX11, "seed", "(I)I"⟩
abbrev cX11_begins : ByteArray := prog_13_method_84_code
def yX11_begins : MethodName := ⟨RX11, "begins", "(I)V"⟩
abbrev cX11_above : ByteArray := prog_13_method_85_code
def yX11_above : MethodName := ⟨RX11, "above", "(I)I"⟩
abbrev cX11_kindNow : ByteArray := prog_13_method_86_code
def yX11_kindNow : MethodName := ⟨RX11, "kindNow", "()I"⟩
abbrev cX11_strengthNow : ByteArray := prog_13_method_87_code
def yX11_strengthNow : MethodName := ⟨RX11, "strengthNow", "()I"⟩
abbrev cX11_pulls : ByteArray := prog_13_method_88_code
def yX11_pulls : MethodName := ⟨RX11, "pulls", "(II)I"⟩
abbrev cX11_stays : ByteArray := prog_13_method_89_code
def yX11_stays : MethodName := ⟨RX11, "stays", "(II)I"⟩
abbrev cX11_parts : ByteArray := prog_13_method_90_code
def yX11_parts : MethodName := ⟨RX11, "parts", "(II)I"⟩
abbrev cX11_tells : ByteArray := prog_13_method_91_code
def yX11_tells : MethodName := ⟨RX11, "tells", "(II)I"⟩
abbrev cX11_voice : ByteArray := prog_13_method_92_code
def yX11_voice : MethodName := ⟨RX11, "voice", "(III)I"⟩
abbrev cX11_body : ByteArray := prog_13_method_93_code
def yX11_body : MethodName := ⟨RX11, "body", "(I)I"⟩
abbrev cX11_isSheet : ByteArray := prog_13_method_94_code
def yX11_isSheet : MethodName := ⟨RX11, "isSheet", "(I)Z"⟩
abbrev cX11_sheet : ByteArray := prog_13_method_95_code
def yX11_sheet : MethodName := ⟨RX11, "sheet", "(III)I"⟩
abbrev cX11_put : ByteArray := prog_13_method_96_code
def yX11_put : MethodName := ⟨RX11, "put", "(III)I"⟩
abbrev cX11_move : ByteArray := prog_13_method_97_code
def yX11_move : MethodName := ⟨RX11, "move", "(IIIII)I"⟩
abbrev cX11_magnets : ByteArray := prog_13_method_98_code
def yX11_magnets : MethodName := ⟨RX11, "magnets", "(I)I"⟩
abbrev cX11_image : ByteArray := prog_13_method_99_code
def yX11_image : MethodName := ⟨RX11, "image", "()I"⟩
abbrev cX11_restore : ByteArray := prog_13_method_100_code
def yX11_restore : MethodName := ⟨RX11, "restore", "()I"⟩
abbrev cX11_tell : ByteArray := prog_13_method_101_code
def yX11_tell : MethodName := ⟨RX11, "tell", "(I)I"⟩
abbrev cX11_check : ByteArray := prog_13_method_102_code
def yX11_check : MethodName := ⟨RX11, "check", "(I)I"⟩
abbrev cX11_count : ByteArray := prog_13_method_103_code
def yX11_count : MethodName := ⟨RX11, "count", "(I)I"⟩
abbrev cX11_told : ByteArray := prog_13_method_104_code
def yX11_told : MethodName := ⟨RX11, "told", "(I)I"⟩
def RJ11 : String := "java/lang/Character"
def TJ11 : u_T := fun k => match k with
  | _ => ("", "", "", false)
def tyJ11 : Nat → FieldType := fun k => match k with
  | _ => .int
abbrev wsJ110 : List Cond := u_ws RJ11 TJ11 0
theorem nmJ11 : ∀ a, a < 0 → ∀ b, b < 0 → a ≠ b → (TJ11 a).2.1 ≠ (TJ11 b).2.1 := by decide +kernel
theorem tyJ11_ok : ∀ k, k < 0 → parseFieldDescriptor (TJ11 k).2.2.1 = some (tyJ11 k) := by decide +kernel
abbrev cJ11_isValidCodePoint_9a6ad : ByteArray := prog_14_method_11_code
def yJ11_isValidCodePoint_9a6ad : MethodName := ⟨RJ11, "isValidCodePoint", "(I)Z"⟩
abbrev cJ11_highSurrogate_5068e : ByteArray := prog_14_method_28_code
def yJ11_highSurrogate_5068e : MethodName := ⟨RJ11, "highSurrogate", "(I)C"⟩
abbrev cJ11_lowSurrogate_5068e : ByteArray := prog_14_method_29_code
def yJ11_lowSurrogate_5068e : MethodName := ⟨RJ11, "lowSurrogate", "(I)C"⟩
def RJx8e188 : String := "java/lang/Cloneable"
def TJx8e188 : u_T := fun k => match k with
  | _ => ("", "", "", false)
def tyJx8e188 : Nat → FieldType := fun k => match k with
  | _ => .int
abbrev wsJx8e1880 : List Cond := u_ws RJx8e188 TJx8e188 0
theorem nmJx8e188 : ∀ a, a < 0 → ∀ b, b < 0 → a ≠ b → (TJx8e188 a).2.1 ≠ (TJx8e188 b).2.1 := by decide +kernel
theorem tyJx8e188_ok : ∀ k, k < 0 → parseFieldDescriptor (TJx8e188 k).2.2.1 = some (tyJx8e188 k) := by decide +kernel
def RJ9 : String := "java/lang/Math"
def TJ9 : u_T := fun k => match k with
  | _ => ("", "", "", false)
def tyJ9 : Nat → FieldType := fun k => match k with
  | _ => .int
abbrev wsJ90 : List Cond := u_ws RJ9 TJ9 0
theorem nmJ9 : ∀ a, a < 0 → ∀ b, b < 0 → a ≠ b → (TJ9 a).2.1 ≠ (TJ9 b).2.1 := by decide +kernel
theorem tyJ9_ok : ∀ k, k < 0 → parseFieldDescriptor (TJ9 k).2.2.1 = some (tyJ9 k) := by decide +kernel
abbrev cJ9_abs_0f7a4 : ByteArray := prog_16_method_59_code
def yJ9_abs_0f7a4 : MethodName := ⟨RJ9, "abs", "(I)I"⟩
abbrev cJ9_max_7cf53 : ByteArray := prog_16_method_65_code
def yJ9_max_7cf53 : MethodName := ⟨RJ9, "max", "(II)I"⟩
abbrev cJ9_min_7cf53 : ByteArray := prog_16_method_69_code
def yJ9_min_7cf53 : MethodName := ⟨RJ9, "min", "(II)I"⟩
def RJ0 : String := "java/lang/String"
def TJ0 : u_T := fun k => match k with
  | _ => ("", "", "", false)
def tyJ0 : Nat → FieldType := fun k => match k with
  | _ => .int
abbrev wsJ00 : List Cond := u_ws RJ0 TJ0 0
theorem nmJ0 : ∀ a, a < 0 → ∀ b, b < 0 → a ≠ b → (TJ0 a).2.1 ≠ (TJ0 b).2.1 := by decide +kernel
theorem tyJ0_ok : ∀ k, k < 0 → parseFieldDescriptor (TJ0 k).2.2.1 = some (tyJ0 k) := by decide +kernel
abbrev cJ0_length_8abf5 : ByteArray := prog_17_method_54_code
def yJ0_length_8abf5 : MethodName := ⟨RJ0, "length", "()I"⟩
abbrev cJ0_indexOf_0f7a4 : ByteArray := prog_17_method_79_code
def yJ0_indexOf_0f7a4 : MethodName := ⟨RJ0, "indexOf", "(I)I"⟩
abbrev cJ0_indexOf_7cf53 : ByteArray := prog_17_method_80_code
def yJ0_indexOf_7cf53 : MethodName := ⟨RJ0, "indexOf", "(II)I"⟩
abbrev cJ0_coder_7d493 : ByteArray := prog_17_method_152_code
def yJ0_coder_7d493 : MethodName := ⟨RJ0, "coder", "()B"⟩
abbrev cJ0_isLatin1_aae02 : ByteArray := prog_17_method_154_code
def yJ0_isLatin1_aae02 : MethodName := ⟨RJ0, "isLatin1", "()Z"⟩
abbrev cJ0_checkBoundsBeginEnd_23922 : ByteArray := prog_17_method_158_code
def yJ0_checkBoundsBeginEnd_23922 : MethodName := ⟨RJ0, "checkBoundsBeginEnd", "(III)V"⟩
def RJ1 : String := "java/lang/StringLatin1"
def TJ1 : u_T := fun k => match k with
  | _ => ("", "", "", false)
def tyJ1 : Nat → FieldType := fun k => match k with
  | _ => .int
abbrev wsJ10 : List Cond := u_ws RJ1 TJ1 0
theorem nmJ1 : ∀ a, a < 0 → ∀ b, b < 0 → a ≠ b → (TJ1 a).2.1 ≠ (TJ1 b).2.1 := by decide +kernel
theorem tyJ1_ok : ∀ k, k < 0 → parseFieldDescriptor (TJ1 k).2.2.1 = some (tyJ1 k) := by decide +kernel
abbrev cJ1_canEncode_9a6ad : ByteArray := prog_18_method_4_code
def yJ1_canEncode_9a6ad : MethodName := ⟨RJ1, "canEncode", "(I)Z"⟩
abbrev cJ1_indexOf_4cfef : ByteArray := prog_18_method_22_code
def yJ1_indexOf_4cfef : MethodName := ⟨RJ1, "indexOf", "([BIII)I"⟩
abbrev cJ1_indexOfChar_4cfef : ByteArray := prog_18_method_23_code
def yJ1_indexOfChar_4cfef : MethodName := ⟨RJ1, "indexOfChar", "([BIII)I"⟩
def RJ2 : String := "java/lang/StringUTF16"
def TJ2 : u_T := fun k => match k with
  | _ => ("", "", "", false)
def tyJ2 : Nat → FieldType := fun k => match k with
  | _ => .int
abbrev wsJ20 : List Cond := u_ws RJ2 TJ2 0
theorem nmJ2 : ∀ a, a < 0 → ∀ b, b < 0 → a ≠ b → (TJ2 a).2.1 ≠ (TJ2 b).2.1 := by decide +kernel
theorem tyJ2_ok : ∀ k, k < 0 → parseFieldDescriptor (TJ2 k).2.2.1 = some (tyJ2 k) := by decide +kernel
abbrev cJ2_getChar_3b067 : ByteArray := prog_19_method_5_code
def yJ2_getChar_3b067 : MethodName := ⟨RJ2, "getChar", "([BI)C"⟩
abbrev cJ2_length_9d52b : ByteArray := prog_19_method_6_code
def yJ2_length_9d52b : MethodName := ⟨RJ2, "length", "([B)I"⟩
abbrev cJ2_indexOf_4cfef : ByteArray := prog_19_method_40_code
def yJ2_indexOf_4cfef : MethodName := ⟨RJ2, "indexOf", "([BIII)I"⟩
abbrev cJ2_indexOfChar_4cfef : ByteArray := prog_19_method_47_code
def yJ2_indexOfChar_4cfef : MethodName := ⟨RJ2, "indexOfChar", "([BIII)I"⟩
abbrev cJ2_indexOfCharUnsafe_4cfef : ByteArray := prog_19_method_48_code
def yJ2_indexOfCharUnsafe_4cfef : MethodName := ⟨RJ2, "indexOfCharUnsafe", "([BIII)I"⟩
abbrev cJ2_indexOfSupplementary_4cfef : ByteArray := prog_19_method_49_code
def yJ2_indexOfSupplementary_4cfef : MethodName := ⟨RJ2, "indexOfSupplementary", "([BIII)I"⟩
abbrev cJ2_checkBoundsBeginEnd_d044e : ByteArray := prog_19_method_93_code
def yJ2_checkBoundsBeginEnd_d044e : MethodName := ⟨RJ2, "checkBoundsBeginEnd", "(II[B)V"⟩
def RJ10 : String := "java/lang/System"
def TJ10 : u_T := fun k => match k with
  | _ => ("", "", "", false)
def tyJ10 : Nat → FieldType := fun k => match k with
  | _ => .int
abbrev wsJ100 : List Cond := u_ws RJ10 TJ10 0
theorem nmJ10 : ∀ a, a < 0 → ∀ b, b < 0 → a ≠ b → (TJ10 a).2.1 ≠ (TJ10 b).2.1 := by decide +kernel
theorem tyJ10_ok : ∀ k, k < 0 → parseFieldDescriptor (TJ10 k).2.2.1 = some (tyJ10 k) := by decide +kernel
def RJ3 : String := "jdk/internal/util/Preconditions"
def TJ3 : u_T := fun k => match k with
  | _ => ("", "", "", false)
def tyJ3 : Nat → FieldType := fun k => match k with
  | _ => .int
abbrev wsJ30 : List Cond := u_ws RJ3 TJ3 0
theorem nmJ3 : ∀ a, a < 0 → ∀ b, b < 0 → a ≠ b → (TJ3 a).2.1 ≠ (TJ3 b).2.1 := by decide +kernel
theorem tyJ3_ok : ∀ k, k < 0 → parseFieldDescriptor (TJ3 k).2.2.1 = some (tyJ3 k) := by decide +kernel
abbrev cJ3_checkFromToIndex_8c36e : ByteArray := prog_21_method_12_code
def yJ3_checkFromToIndex_8c36e : MethodName := ⟨RJ3, "checkFromToIndex", "(IIILjava/util/function/BiFunction;)I"⟩
def RL : String := "ThreeMagnetsLaw"
abbrev cL_law : ByteArray := code
abbrev vwCl : List vw_C := [(RX0, TX0, 5), (RX1, TX1, 7), (RX2, TX2, 5), (RX3, TX3, 5), (RX4, TX4, 4), (RX5, TX5, 3), (RX6, TX6, 13), (RX7, TX7, 2), (RX8, TX8, 3), (RX9, TX9, 8), (RX10, TX10, 8), (RX11, TX11, 26)]
end
section
def mz_S : mz_Sh := [.inr (10, [4, 28, 52, 56, 60, 63, 67, 0]), .inr (6, [5, 10, 11, 13, 16, 19, 22, 23, 26, 1, 27, 0, 0]), .inr (2, [6, 7, 8, 9, 0]), .inl 6, .inl 6, .inl 6, .inl 6, .inl 6, .inr (7, [12, 0]), .inl 60, .inr (8, [14, 15, 0]), .inl 60, .inl 60, .inr (8, [17, 18, 0]), .inl 60, .inl 60, .inr (8, [20, 21, 0]), .inl 60, .inl 60, .inr (0, [0, 0, 0, 0, 0]), .inr (1, [0, 0, 0, 0, 0, 24, 25]), .inl 36, .inl 36, .inl 10, .inl 24, .inr (6, [29, 34, 35, 37, 40, 43, 46, 47, 50, 1, 51, 0, 0]), .inr (2, [30, 31, 32, 33, 0]), .inl 6, .inl 6, .inl 6, .inl 6, .inl 6, .inr (7, [36, 0]), .inl 60, .inr (8, [38, 39, 0]), .inl 60, .inl 60, .inr (8, [41, 42, 0]), .inl 60, .inl 60, .inr (8, [44, 45, 0]), .inl 60, .inl 60, .inr (0, [0, 0, 0, 0, 0]), .inr (1, [0, 0, 0, 0, 0, 48, 49]), .inl 36, .inl 36, .inl 10, .inl 24, .inr (4, [4, 53, 54, 55]), .inr (0, [0, 0, 0, 0, 0]), .inl 5, .inl 60, .inr (3, [57, 11, 2, 0, 1]), .inr (8, [58, 59, 0]), .inl 60, .inl 60, .inr (9, [61, 0, 1, 62, 0, 0, 0, 0]), .inl 30, .inl 30, .inr (5, [64, 65, 66]), .inl 4, .inl 4, .inl 96, .inl 7, .inr (11, [69, 70, 0, 71, 0, 0, 0, 0, 0, 0, 0, 0, 0, 72, 73, 74, 75, 76, 77, 0, 0, 1, 78, 79, 80, 81]), .inl 650, .inl 650, .inl 7, .inl 124, .inl 128, .inl 64, .inl 10, .inl 10, .inl 30, .inl 4, .inl 4, .inl 96, .inl 24]
def mz_T0 : List (List Int32) := [[-1, 0, 0, 0, 1, 3, 2], [10, 11, 12, 13, 20, 0, 21, 0, 0, 30, 0, 31, 0, 0, 40, 0, 50, 0, 0, 51, 0, 61, 60, 0, 71, 70, 0, 0], [0, 0, 1, 0, 0, 1], [99, 99, 80, 99, 99, 2], [5, 10, 60, 8, 4, 1]]
def mz_k0 : mz_K := [
  (0, .aload_n 0, 1, 0, 0, 0, 0),
  (1, .iload_n 1, 1, 0, 0, 0, 0),
  (2, .bipush 16, 2, 20, 16, 0, 0),
  (4, .imul, 1, 0, 0, 0, 0),
  (5, .putfield 9, 3, 0, 0, 0, 1118),
  (8, .aload_n 0, 1, 0, 0, 0, 0),
  (9, .iload_n 2, 1, 0, 0, 0, 0),
  (10, .bipush 16, 2, 20, 16, 0, 0),
  (12, .imul, 1, 0, 0, 0, 0),
  (13, .putfield 15, 3, 0, 0, 1, 1121),
  (16, .aload_n 0, 1, 0, 0, 0, 0),
  (17, .iload_n 3, 1, 0, 0, 0, 0),
  (18, .putfield 18, 3, 0, 0, 2, 1124),
  (21, .aload_n 0, 1, 0, 0, 0, 0),
  (22, .iload 4, 2, 0, 0, 0, 0),
  (24, .putfield 21, 3, 0, 0, 3, 1127),
  (27, .aload_n 0, 1, 0, 0, 0, 0),
  (28, .iconst 0, 1, 20, 0, 0, 0),
  (29, .putfield 24, 3, 0, 0, 4, 1130),
  (32, .return_, 1, 0, 0, 0, 0)]
/-- ThreeMagnets$Bob.letGo(IIII)V -/
def mz_r0 : mz_R := (0, yX0_letGo, cX0_letGo, 5, none, false, 5, mz_k0)
def mz_k1 : mz_K := [
  (0, .aload_n 0, 1, 0, 0, 0, 0),
  (1, .aload_n 1, 1, 0, 0, 0, 0),
  (2, .getfield 9, 3, 0, 0, 0, 1118),
  (5, .putfield 9, 3, 0, 0, 0, 1118),
  (8, .aload_n 0, 1, 0, 0, 0, 0),
  (9, .aload_n 1, 1, 0, 0, 0, 0),
  (10, .getfield 15, 3, 0, 0, 1, 1121),
  (13, .putfield 15, 3, 0, 0, 1, 1121),
  (16, .aload_n 0, 1, 0, 0, 0, 0),
  (17, .aload_n 1, 1, 0, 0, 0, 0),
  (18, .getfield 18, 3, 0, 0, 2, 1124),
  (21, .putfield 18, 3, 0, 0, 2, 1124),
  (24, .aload_n 0, 1, 0, 0, 0, 0),
  (25, .aload_n 1, 1, 0, 0, 0, 0),
  (26, .getfield 21, 3, 0, 0, 3, 1127),
  (29, .putfield 21, 3, 0, 0, 3, 1127),
  (32, .aload_n 0, 1, 0, 0, 0, 0),
  (33, .aload_n 1, 1, 0, 0, 0, 0),
  (34, .getfield 24, 3, 0, 0, 4, 1130),
  (37, .putfield 24, 3, 0, 0, 4, 1130),
  (40, .return_, 1, 0, 0, 0, 0)]
/-- ThreeMagnets$Bob.takeFrom(LThreeMagnets$Bob;)V -/
def mz_r1 : mz_R := (0, yX0_takeFrom, cX0_takeFrom, 2, none, false, 2, mz_k1)
def mz_k2 : mz_K := [
  (0, .aload_n 0, 1, 0, 0, 0, 0),
  (1, .getfield 18, 3, 0, 1, 2, 1156),
  (4, .ifCond .le 14, 3, 0, 0, 0, 0),
  (7, .aload_n 0, 1, 0, 0, 0, 0),
  (8, .getfield 21, 3, 0, 1, 3, 1158),
  (11, .ifCond .le 7, 3, 0, 0, 0, 0),
  (14, .iconst 1, 1, 20, 1, 0, 0),
  (15, .goto 4, 3, 0, 0, 0, 0),
  (18, .iconst 0, 1, 20, 0, 0, 0),
  (19, .ireturn, 1, 0, 0, 0, 0)]
/-- ThreeMagnets$Picture.isThere()Z -/
def mz_r2 : mz_R := (1, yX1_isThere, cX1_isThere, 1, (some .boolean), false, 1, mz_k2)
def mz_k3 : mz_K := [
  (0, .aload_n 0, 1, 0, 0, 0, 0),
  (1, .getfield 18, 3, 0, 1, 2, 1156),
  (4, .aload_n 0, 1, 0, 0, 0, 0),
  (5, .getfield 21, 3, 0, 1, 3, 1158),
  (8, .imul, 1, 0, 0, 0, 0),
  (9, .ireturn, 1, 0, 0, 0, 0)]
/-- ThreeMagnets$Picture.cells()I -/
def mz_r3 : mz_R := (1, yX1_cells, cX1_cells, 1, (some .int), false, 1, mz_k3)
def mz_k4 : mz_K := [
  (0, .iload_n 1, 1, 0, 0, 0, 0),
  (1, .ifCond .lt 39, 3, 0, 0, 0, 0),
  (4, .iload_n 1, 1, 0, 0, 0, 0),
  (5, .aload_n 0, 1, 0, 0, 0, 0),
  (6, .getfield 18, 3, 0, 1, 2, 1156),
  (9, .if_icmp .ge 31, 3, 0, 0, 0, 0),
  (12, .iload_n 1, 1, 0, 0, 0, 0),
  (13, .bipush 6, 2, 20, 6, 0, 0),
  (15, .if_icmp .ge 25, 3, 0, 0, 0, 0),
  (18, .iload_n 2, 1, 0, 0, 0, 0),
  (19, .ifCond .lt 21, 3, 0, 0, 0, 0),
  (22, .iload_n 2, 1, 0, 0, 0, 0),
  (23, .aload_n 0, 1, 0, 0, 0, 0),
  (24, .getfield 21, 3, 0, 1, 3, 1158),
  (27, .if_icmp .ge 13, 3, 0, 0, 0, 0),
  (30, .iload_n 2, 1, 0, 0, 0, 0),
  (31, .bipush 6, 2, 20, 6, 0, 0),
  (33, .if_icmp .ge 7, 3, 0, 0, 0, 0),
  (36, .iconst 1, 1, 20, 1, 0, 0),
  (37, .goto 4, 3, 0, 0, 0, 0),
  (40, .iconst 0, 1, 20, 0, 0, 0),
  (41, .ireturn, 1, 0, 0, 0, 0)]
/-- ThreeMagnets$Picture.has(II)Z -/
def mz_r4 : mz_R := (1, yX1_has, cX1_has, 3, (some .boolean), false, 3, mz_k4)
def mz_k5 : mz_K := [
  (0, .aload_n 0, 1, 0, 0, 0, 0),
  (1, .iload_n 1, 1, 0, 0, 0, 0),
  (2, .putfield 9, 3, 0, 1, 0, 1150),
  (5, .aload_n 0, 1, 0, 0, 0, 0),
  (6, .iload_n 2, 1, 0, 0, 0, 0),
  (7, .putfield 15, 3, 0, 1, 1, 1153),
  (10, .aload_n 0, 1, 0, 0, 0, 0),
  (11, .iload_n 3, 1, 0, 0, 0, 0),
  (12, .putfield 18, 3, 0, 1, 2, 1156),
  (15, .aload_n 0, 1, 0, 0, 0, 0),
  (16, .iload 4, 2, 0, 0, 0, 0),
  (18, .putfield 21, 3, 0, 1, 3, 1158),
  (21, .aload_n 0, 1, 0, 0, 0, 0),
  (22, .iload 5, 2, 0, 0, 0, 0),
  (24, .putfield 24, 3, 0, 1, 4, 1160),
  (27, .return_, 1, 0, 0, 0, 0)]
/-- ThreeMagnets$Picture.frame(IIIII)V -/
def mz_r5 : mz_R := (1, yX1_frame, cX1_frame, 6, none, false, 6, mz_k5)
def mz_k6 : mz_K := [
  (0, .aload_n 0, 1, 0, 0, 0, 0),
  (1, .iload_n 1, 1, 0, 0, 0, 0),
  (2, .iload_n 2, 1, 0, 0, 0, 0),
  (3, .invokevirtual 34, 3, 3, 4, 0, 3230),
  (6, .ifCond .eq 28, 3, 0, 0, 0, 0),
  (9, .aload_n 0, 1, 0, 0, 0, 0),
  (10, .getfield 27, 3, 0, 1, 5, 1163),
  (13, .iload_n 2, 1, 0, 0, 0, 0),
  (14, .bipush 6, 2, 20, 6, 0, 0),
  (16, .imul, 1, 0, 0, 0, 0),
  (17, .iload_n 1, 1, 0, 0, 0, 0),
  (18, .iadd, 1, 0, 0, 0, 0),
  (19, .iload_n 3, 1, 0, 0, 0, 0),
  (20, .iastore, 1, 0, 0, 0, 0),
  (21, .aload_n 0, 1, 0, 0, 0, 0),
  (22, .getfield 31, 3, 0, 1, 6, 1164),
  (25, .iload_n 2, 1, 0, 0, 0, 0),
  (26, .bipush 6, 2, 20, 6, 0, 0),
  (28, .imul, 1, 0, 0, 0, 0),
  (29, .iload_n 1, 1, 0, 0, 0, 0),
  (30, .iadd, 1, 0, 0, 0, 0),
  (31, .iload 4, 2, 0, 0, 0, 0),
  (33, .iastore, 1, 0, 0, 0, 0),
  (34, .return_, 1, 0, 0, 0, 0)]
/-- ThreeMagnets$Picture.paint(IIII)V -/
def mz_r6 : mz_R := (1, yX1_paint, cX1_paint, 5, none, false, 5, mz_k6)
def mz_k7 : mz_K := [
  (0, .aload_n 0, 1, 0, 0, 0, 0),
  (1, .iload_n 1, 1, 0, 0, 0, 0),
  (2, .iload_n 2, 1, 0, 0, 0, 0),
  (3, .invokevirtual 34, 3, 3, 4, 0, 3230),
  (6, .ifCond .eq 17, 3, 0, 0, 0, 0),
  (9, .aload_n 0, 1, 0, 0, 0, 0),
  (10, .getfield 27, 3, 0, 1, 5, 1163),
  (13, .iload_n 2, 1, 0, 0, 0, 0),
  (14, .bipush 6, 2, 20, 6, 0, 0),
  (16, .imul, 1, 0, 0, 0, 0),
  (17, .iload_n 1, 1, 0, 0, 0, 0),
  (18, .iadd, 1, 0, 0, 0, 0),
  (19, .iaload, 1, 0, 0, 0, 0),
  (20, .goto 5, 3, 0, 0, 0, 0),
  (23, .bipush 9, 2, 20, 9, 0, 0),
  (25, .ireturn, 1, 0, 0, 0, 0)]
/-- ThreeMagnets$Picture.colourAt(II)I -/
def mz_r7 : mz_R := (1, yX1_colourAt, cX1_colourAt, 3, (some .int), false, 3, mz_k7)
def mz_k8 : mz_K := [
  (0, .aload_n 0, 1, 0, 0, 0, 0),
  (1, .iload_n 1, 1, 0, 0, 0, 0),
  (2, .iload_n 2, 1, 0, 0, 0, 0),
  (3, .invokevirtual 34, 3, 3, 4, 0, 3230),
  (6, .ifCond .eq 17, 3, 0, 0, 0, 0),
  (9, .aload_n 0, 1, 0, 0, 0, 0),
  (10, .getfield 31, 3, 0, 1, 6, 1164),
  (13, .iload_n 2, 1, 0, 0, 0, 0),
  (14, .bipush 6, 2, 20, 6, 0, 0),
  (16, .imul, 1, 0, 0, 0, 0),
  (17, .iload_n 1, 1, 0, 0, 0, 0),
  (18, .iadd, 1, 0, 0, 0, 0),
  (19, .iaload, 1, 0, 0, 0, 0),
  (20, .goto 4, 3, 0, 0, 0, 0),
  (23, .iconst 0, 1, 20, 0, 0, 0),
  (24, .ireturn, 1, 0, 0, 0, 0)]
/-- ThreeMagnets$Picture.lengthAt(II)I -/
def mz_r8 : mz_R := (1, yX1_lengthAt, cX1_lengthAt, 3, (some .int), false, 3, mz_k8)
def mz_k9 : mz_K := [
  (0, .aload_n 0, 1, 0, 0, 0, 0),
  (1, .iconst 0, 1, 20, 0, 0, 0),
  (2, .iconst 0, 1, 20, 0, 0, 0),
  (3, .bipush 6, 2, 20, 6, 0, 0),
  (5, .iload_n 1, 1, 0, 0, 0, 0),
  (6, .invokevirtual 38, 3, 3, 10, 0, 4002),
  (9, .ireturn, 1, 0, 0, 0, 0)]
/-- ThreeMagnets$Picture.cellsOf(I)I -/
def mz_r9 : mz_R := (1, yX1_cellsOf, cX1_cellsOf, 2, (some .int), false, 2, mz_k9)
def mz_k10 : mz_K := [
  (0, .iconst 0, 1, 20, 0, 0, 0),
  (1, .istore 5, 2, 0, 0, 0, 0),
  (3, .iload_n 2, 1, 0, 0, 0, 0),
  (4, .iload_n 3, 1, 0, 0, 0, 0),
  (5, .isub, 1, 0, 0, 0, 0),
  (6, .istore 6, 2, 0, 0, 0, 0),
  (8, .iload 6, 2, 0, 0, 0, 0),
  (10, .iload_n 2, 1, 0, 0, 0, 0),
  (11, .iload_n 3, 1, 0, 0, 0, 0),
  (12, .iadd, 1, 0, 0, 0, 0),
  (13, .if_icmp .gt 55, 3, 0, 0, 0, 0),
  (16, .iload_n 1, 1, 0, 0, 0, 0),
  (17, .iload_n 3, 1, 0, 0, 0, 0),
  (18, .isub, 1, 0, 0, 0, 0),
  (19, .istore 7, 2, 0, 0, 0, 0),
  (21, .iload 7, 2, 0, 0, 0, 0),
  (23, .iload_n 1, 1, 0, 0, 0, 0),
  (24, .iload_n 3, 1, 0, 0, 0, 0),
  (25, .iadd, 1, 0, 0, 0, 0),
  (26, .if_icmp .gt 36, 3, 0, 0, 0, 0),
  (29, .aload_n 0, 1, 0, 0, 0, 0),
  (30, .iload 7, 2, 0, 0, 0, 0),
  (32, .iload 6, 2, 0, 0, 0, 0),
  (34, .invokevirtual 34, 3, 3, 4, 0, 3230),
  (37, .ifCond .eq 19, 3, 0, 0, 0, 0),
  (40, .aload_n 0, 1, 0, 0, 0, 0),
  (41, .iload 7, 2, 0, 0, 0, 0),
  (43, .iload 6, 2, 0, 0, 0, 0),
  (45, .invokevirtual 42, 3, 3, 7, 0, 4006),
  (48, .iload 4, 2, 0, 0, 0, 0),
  (50, .if_icmp .ne 6, 3, 0, 0, 0, 0),
  (53, .iinc 5 1, 3, 20, 1, 0, 0),
  (56, .iinc 7 1, 3, 20, 1, 0, 0),
  (59, .goto (-38), 3, 0, 0, 0, 0),
  (62, .iinc 6 1, 3, 20, 1, 0, 0),
  (65, .goto (-57), 3, 0, 0, 0, 0),
  (68, .iload 5, 2, 0, 0, 0, 0),
  (70, .ireturn, 1, 0, 0, 0, 0)]
/-- ThreeMagnets$Picture.cellsAround(IIII)I -/
def mz_r10 : mz_R := (1, yX1_cellsAround, cX1_cellsAround, 8, (some .int), false, 5, mz_k10)
def mz_k11 : mz_K := [
  (0, .iconst 0, 1, 20, 0, 0, 0),
  (1, .istore_n 1, 1, 0, 0, 0, 0),
  (2, .iconst 0, 1, 20, 0, 0, 0),
  (3, .istore_n 2, 1, 0, 0, 0, 0),
  (4, .iload_n 2, 1, 0, 0, 0, 0),
  (5, .bipush 10, 2, 20, 10, 0, 0),
  (7, .if_icmp .ge 20, 3, 0, 0, 0, 0),
  (10, .aload_n 0, 1, 0, 0, 0, 0),
  (11, .iload_n 2, 1, 0, 0, 0, 0),
  (12, .invokevirtual 46, 3, 3, 9, 0, 3238),
  (15, .ifCond .le 6, 3, 0, 0, 0, 0),
  (18, .iinc 1 1, 3, 20, 1, 0, 0),
  (21, .iinc 2 1, 3, 20, 1, 0, 0),
  (24, .goto (-20), 3, 0, 0, 0, 0),
  (27, .iload_n 1, 1, 0, 0, 0, 0),
  (28, .ireturn, 1, 0, 0, 0, 0)]
/-- ThreeMagnets$Picture.colours()I -/
def mz_r11 : mz_R := (1, yX1_colours, cX1_colours, 3, (some .int), false, 1, mz_k11)
def mz_k12 : mz_K := [
  (0, .aload_n 0, 1, 0, 0, 0, 0),
  (1, .iload_n 1, 1, 0, 0, 0, 0),
  (2, .iload_n 2, 1, 0, 0, 0, 0),
  (3, .invokevirtual 42, 3, 3, 7, 0, 4006),
  (6, .istore_n 3, 1, 0, 0, 0, 0),
  (7, .aload_n 0, 1, 0, 0, 0, 0),
  (8, .iload_n 1, 1, 0, 0, 0, 0),
  (9, .iconst 1, 1, 20, 1, 0, 0),
  (10, .isub, 1, 0, 0, 0, 0),
  (11, .iload_n 2, 1, 0, 0, 0, 0),
  (12, .iload_n 3, 1, 0, 0, 0, 0),
  (13, .invokevirtual 50, 3, 3, 13, 0, 4036),
  (16, .ifCond .ne 39, 3, 0, 0, 0, 0),
  (19, .aload_n 0, 1, 0, 0, 0, 0),
  (20, .iload_n 1, 1, 0, 0, 0, 0),
  (21, .iconst 1, 1, 20, 1, 0, 0),
  (22, .iadd, 1, 0, 0, 0, 0),
  (23, .iload_n 2, 1, 0, 0, 0, 0),
  (24, .iload_n 3, 1, 0, 0, 0, 0),
  (25, .invokevirtual 50, 3, 3, 13, 0, 4036),
  (28, .ifCond .ne 27, 3, 0, 0, 0, 0),
  (31, .aload_n 0, 1, 0, 0, 0, 0),
  (32, .iload_n 1, 1, 0, 0, 0, 0),
  (33, .iload_n 2, 1, 0, 0, 0, 0),
  (34, .iconst 1, 1, 20, 1, 0, 0),
  (35, .isub, 1, 0, 0, 0, 0),
  (36, .iload_n 3, 1, 0, 0, 0, 0),
  (37, .invokevirtual 50, 3, 3, 13, 0, 4036),
  (40, .ifCond .ne 15, 3, 0, 0, 0, 0),
  (43, .aload_n 0, 1, 0, 0, 0, 0),
  (44, .iload_n 1, 1, 0, 0, 0, 0),
  (45, .iload_n 2, 1, 0, 0, 0, 0),
  (46, .iconst 1, 1, 20, 1, 0, 0),
  (47, .iadd, 1, 0, 0, 0, 0),
  (48, .iload_n 3, 1, 0, 0, 0, 0),
  (49, .invokevirtual 50, 3, 3, 13, 0, 4036),
  (52, .ifCond .eq 7, 3, 0, 0, 0, 0),
  (55, .iconst 1, 1, 20, 1, 0, 0),
  (56, .goto 4, 3, 0, 0, 0, 0),
  (59, .iconst 0, 1, 20, 0, 0, 0),
  (60, .ireturn, 1, 0, 0, 0, 0)]
/-- ThreeMagnets$Picture.isEdge(II)Z -/
def mz_r12 : mz_R := (1, yX1_isEdge, cX1_isEdge, 4, (some .boolean), false, 3, mz_k12)
def mz_k13 : mz_K := [
  (0, .aload_n 0, 1, 0, 0, 0, 0),
  (1, .iload_n 1, 1, 0, 0, 0, 0),
  (2, .iload_n 2, 1, 0, 0, 0, 0),
  (3, .invokevirtual 34, 3, 3, 4, 0, 3230),
  (6, .ifCond .eq 17, 3, 0, 0, 0, 0),
  (9, .aload_n 0, 1, 0, 0, 0, 0),
  (10, .iload_n 1, 1, 0, 0, 0, 0),
  (11, .iload_n 2, 1, 0, 0, 0, 0),
  (12, .invokevirtual 42, 3, 3, 7, 0, 4006),
  (15, .iload_n 3, 1, 0, 0, 0, 0),
  (16, .if_icmp .eq 7, 3, 0, 0, 0, 0),
  (19, .iconst 1, 1, 20, 1, 0, 0),
  (20, .goto 4, 3, 0, 0, 0, 0),
  (23, .iconst 0, 1, 20, 0, 0, 0),
  (24, .ireturn, 1, 0, 0, 0, 0)]
/-- ThreeMagnets$Picture.isOther(III)Z -/
def mz_r13 : mz_R := (1, yX1_isOther, cX1_isOther, 4, (some .boolean), false, 4, mz_k13)
def mz_k14 : mz_K := [
  (0, .iconst 0, 1, 20, 0, 0, 0),
  (1, .istore_n 1, 1, 0, 0, 0, 0),
  (2, .iconst 0, 1, 20, 0, 0, 0),
  (3, .istore_n 2, 1, 0, 0, 0, 0),
  (4, .iload_n 2, 1, 0, 0, 0, 0),
  (5, .aload_n 0, 1, 0, 0, 0, 0),
  (6, .getfield 21, 3, 0, 1, 3, 1158),
  (9, .if_icmp .ge 37, 3, 0, 0, 0, 0),
  (12, .iconst 0, 1, 20, 0, 0, 0),
  (13, .istore_n 3, 1, 0, 0, 0, 0),
  (14, .iload_n 3, 1, 0, 0, 0, 0),
  (15, .aload_n 0, 1, 0, 0, 0, 0),
  (16, .getfield 18, 3, 0, 1, 2, 1156),
  (19, .if_icmp .ge 21, 3, 0, 0, 0, 0),
  (22, .aload_n 0, 1, 0, 0, 0, 0),
  (23, .iload_n 3, 1, 0, 0, 0, 0),
  (24, .iload_n 2, 1, 0, 0, 0, 0),
  (25, .invokevirtual 54, 3, 3, 12, 0, 4048),
  (28, .ifCond .eq 6, 3, 0, 0, 0, 0),
  (31, .iinc 1 1, 3, 20, 1, 0, 0),
  (34, .iinc 3 1, 3, 20, 1, 0, 0),
  (37, .goto (-23), 3, 0, 0, 0, 0),
  (40, .iinc 2 1, 3, 20, 1, 0, 0),
  (43, .goto (-39), 3, 0, 0, 0, 0),
  (46, .iload_n 1, 1, 0, 0, 0, 0),
  (47, .ireturn, 1, 0, 0, 0, 0)]
/-- ThreeMagnets$Picture.edges()I -/
def mz_r14 : mz_R := (1, yX1_edges, cX1_edges, 4, (some .int), false, 1, mz_k14)
def mz_k15 : mz_K := [
  (0, .iconst 0, 1, 20, 0, 0, 0),
  (1, .istore_n 1, 1, 0, 0, 0, 0),
  (2, .iconst 0, 1, 20, 0, 0, 0),
  (3, .istore_n 2, 1, 0, 0, 0, 0),
  (4, .iload_n 2, 1, 0, 0, 0, 0),
  (5, .iconst 1, 1, 20, 1, 0, 0),
  (6, .iadd, 1, 0, 0, 0, 0),
  (7, .aload_n 0, 1, 0, 0, 0, 0),
  (8, .getfield 21, 3, 0, 1, 3, 1158),
  (11, .if_icmp .ge 40, 3, 0, 0, 0, 0),
  (14, .iconst 0, 1, 20, 0, 0, 0),
  (15, .istore_n 3, 1, 0, 0, 0, 0),
  (16, .iload_n 3, 1, 0, 0, 0, 0),
  (17, .iconst 1, 1, 20, 1, 0, 0),
  (18, .iadd, 1, 0, 0, 0, 0),
  (19, .aload_n 0, 1, 0, 0, 0, 0),
  (20, .getfield 18, 3, 0, 1, 2, 1156),
  (23, .if_icmp .ge 22, 3, 0, 0, 0, 0),
  (26, .aload_n 0, 1, 0, 0, 0, 0),
  (27, .iload_n 3, 1, 0, 0, 0, 0),
  (28, .iload_n 2, 1, 0, 0, 0, 0),
  (29, .invokevirtual 57, 3, 3, 16, 0, 4053),
  (32, .iconst 3, 1, 20, 3, 0, 0),
  (33, .if_icmp .lt 6, 3, 0, 0, 0, 0),
  (36, .iinc 1 1, 3, 20, 1, 0, 0),
  (39, .iinc 3 1, 3, 20, 1, 0, 0),
  (42, .goto (-26), 3, 0, 0, 0, 0),
  (45, .iinc 2 1, 3, 20, 1, 0, 0),
  (48, .goto (-44), 3, 0, 0, 0, 0),
  (51, .iload_n 1, 1, 0, 0, 0, 0),
  (52, .ireturn, 1, 0, 0, 0, 0)]
/-- ThreeMagnets$Picture.threes()I -/
def mz_r15 : mz_R := (1, yX1_threes, cX1_threes, 4, (some .int), false, 1, mz_k15)
def mz_k16 : mz_K := [
  (0, .aload_n 0, 1, 0, 0, 0, 0),
  (1, .iload_n 1, 1, 0, 0, 0, 0),
  (2, .iload_n 2, 1, 0, 0, 0, 0),
  (3, .invokevirtual 42, 3, 3, 7, 0, 4006),
  (6, .istore_n 3, 1, 0, 0, 0, 0),
  (7, .aload_n 0, 1, 0, 0, 0, 0),
  (8, .iload_n 1, 1, 0, 0, 0, 0),
  (9, .iconst 1, 1, 20, 1, 0, 0),
  (10, .iadd, 1, 0, 0, 0, 0),
  (11, .iload_n 2, 1, 0, 0, 0, 0),
  (12, .invokevirtual 42, 3, 3, 7, 0, 4006),
  (15, .istore 4, 2, 0, 0, 0, 0),
  (17, .aload_n 0, 1, 0, 0, 0, 0),
  (18, .iload_n 1, 1, 0, 0, 0, 0),
  (19, .iload_n 2, 1, 0, 0, 0, 0),
  (20, .iconst 1, 1, 20, 1, 0, 0),
  (21, .iadd, 1, 0, 0, 0, 0),
  (22, .invokevirtual 42, 3, 3, 7, 0, 4006),
  (25, .istore 5, 2, 0, 0, 0, 0),
  (27, .aload_n 0, 1, 0, 0, 0, 0),
  (28, .iload_n 1, 1, 0, 0, 0, 0),
  (29, .iconst 1, 1, 20, 1, 0, 0),
  (30, .iadd, 1, 0, 0, 0, 0),
  (31, .iload_n 2, 1, 0, 0, 0, 0),
  (32, .iconst 1, 1, 20, 1, 0, 0),
  (33, .iadd, 1, 0, 0, 0, 0),
  (34, .invokevirtual 42, 3, 3, 7, 0, 4006),
  (37, .istore 6, 2, 0, 0, 0, 0),
  (39, .iconst 1, 1, 20, 1, 0, 0),
  (40, .istore 7, 2, 0, 0, 0, 0),
  (42, .iload 7, 2, 0, 0, 0, 0),
  (44, .iload 4, 2, 0, 0, 0, 0),
  (46, .iload_n 3, 1, 0, 0, 0, 0),
  (47, .if_icmp .eq 7, 3, 0, 0, 0, 0),
  (50, .iconst 1, 1, 20, 1, 0, 0),
  (51, .goto 4, 3, 0, 0, 0, 0),
  (54, .iconst 0, 1, 20, 0, 0, 0),
  (55, .iadd, 1, 0, 0, 0, 0),
  (56, .istore 7, 2, 0, 0, 0, 0),
  (58, .iload 7, 2, 0, 0, 0, 0),
  (60, .iload 5, 2, 0, 0, 0, 0),
  (62, .iload_n 3, 1, 0, 0, 0, 0),
  (63, .if_icmp .eq 14, 3, 0, 0, 0, 0),
  (66, .iload 5, 2, 0, 0, 0, 0),
  (68, .iload 4, 2, 0, 0, 0, 0),
  (70, .if_icmp .eq 7, 3, 0, 0, 0, 0),
  (73, .iconst 1, 1, 20, 1, 0, 0),
  (74, .goto 4, 3, 0, 0, 0, 0),
  (77, .iconst 0, 1, 20, 0, 0, 0),
  (78, .iadd, 1, 0, 0, 0, 0),
  (79, .istore 7, 2, 0, 0, 0, 0),
  (81, .iload 7, 2, 0, 0, 0, 0),
  (83, .iload 6, 2, 0, 0, 0, 0),
  (85, .iload_n 3, 1, 0, 0, 0, 0),
  (86, .if_icmp .eq 21, 3, 0, 0, 0, 0),
  (89, .iload 6, 2, 0, 0, 0, 0),
  (91, .iload 4, 2, 0, 0, 0, 0),
  (93, .if_icmp .eq 14, 3, 0, 0, 0, 0),
  (96, .iload 6, 2, 0, 0, 0, 0),
  (98, .iload 5, 2, 0, 0, 0, 0),
  (100, .if_icmp .eq 7, 3, 0, 0, 0, 0),
  (103, .iconst 1, 1, 20, 1, 0, 0),
  (104, .goto 4, 3, 0, 0, 0, 0),
  (107, .iconst 0, 1, 20, 0, 0, 0),
  (108, .iadd, 1, 0, 0, 0, 0),
  (109, .istore 7, 2, 0, 0, 0, 0),
  (111, .iload 7, 2, 0, 0, 0, 0),
  (113, .ireturn, 1, 0, 0, 0, 0)]
/-- ThreeMagnets$Picture.coloursOfSquare(II)I -/
def mz_r16 : mz_R := (1, yX1_coloursOfSquare, cX1_coloursOfSquare, 8, (some .int), false, 3, mz_k16)
def mz_k17 : mz_K := [
  (0, .iconst 0, 1, 20, 0, 0, 0),
  (1, .istore_n 1, 1, 0, 0, 0, 0),
  (2, .iconst 0, 1, 20, 0, 0, 0),
  (3, .istore_n 2, 1, 0, 0, 0, 0),
  (4, .iload_n 2, 1, 0, 0, 0, 0),
  (5, .aload_n 0, 1, 0, 0, 0, 0),
  (6, .getfield 21, 3, 0, 1, 3, 1158),
  (9, .if_icmp .ge 34, 3, 0, 0, 0, 0),
  (12, .iconst 0, 1, 20, 0, 0, 0),
  (13, .istore_n 3, 1, 0, 0, 0, 0),
  (14, .iload_n 3, 1, 0, 0, 0, 0),
  (15, .aload_n 0, 1, 0, 0, 0, 0),
  (16, .getfield 18, 3, 0, 1, 2, 1156),
  (19, .if_icmp .ge 18, 3, 0, 0, 0, 0),
  (22, .iload_n 1, 1, 0, 0, 0, 0),
  (23, .aload_n 0, 1, 0, 0, 0, 0),
  (24, .iload_n 3, 1, 0, 0, 0, 0),
  (25, .iload_n 2, 1, 0, 0, 0, 0),
  (26, .invokevirtual 60, 3, 3, 8, 0, 4065),
  (29, .iadd, 1, 0, 0, 0, 0),
  (30, .istore_n 1, 1, 0, 0, 0, 0),
  (31, .iinc 3 1, 3, 20, 1, 0, 0),
  (34, .goto (-20), 3, 0, 0, 0, 0),
  (37, .iinc 2 1, 3, 20, 1, 0, 0),
  (40, .goto (-36), 3, 0, 0, 0, 0),
  (43, .iload_n 1, 1, 0, 0, 0, 0),
  (44, .ireturn, 1, 0, 0, 0, 0)]
/-- ThreeMagnets$Picture.lengths()I -/
def mz_r17 : mz_R := (1, yX1_lengths, cX1_lengths, 4, (some .int), false, 1, mz_k17)
def mz_k18 : mz_K := [
  (0, .iconst 0, 1, 20, 0, 0, 0),
  (1, .istore_n 2, 1, 0, 0, 0, 0),
  (2, .iload_n 2, 1, 0, 0, 0, 0),
  (3, .aload_n 0, 1, 0, 0, 0, 0),
  (4, .invokevirtual 63, 3, 3, 3, 0, 4082),
  (7, .if_icmp .ge 75, 3, 0, 0, 0, 0),
  (10, .iconst 0, 1, 20, 0, 0, 0),
  (11, .istore_n 3, 1, 0, 0, 0, 0),
  (12, .iload_n 3, 1, 0, 0, 0, 0),
  (13, .iload_n 2, 1, 0, 0, 0, 0),
  (14, .if_icmp .ge 62, 3, 0, 0, 0, 0),
  (17, .aload_n 0, 1, 0, 0, 0, 0),
  (18, .iload_n 2, 1, 0, 0, 0, 0),
  (19, .iconst 0, 1, 20, 0, 0, 0),
  (20, .invokevirtual 67, 3, 3, 19, 0, 4086),
  (23, .aload_n 0, 1, 0, 0, 0, 0),
  (24, .iload_n 3, 1, 0, 0, 0, 0),
  (25, .iconst 0, 1, 20, 0, 0, 0),
  (26, .invokevirtual 67, 3, 3, 19, 0, 4086),
  (29, .if_icmp .ne 7, 3, 0, 0, 0, 0),
  (32, .iconst 1, 1, 20, 1, 0, 0),
  (33, .goto 4, 3, 0, 0, 0, 0),
  (36, .iconst 0, 1, 20, 0, 0, 0),
  (37, .istore 4, 2, 0, 0, 0, 0),
  (39, .aload_n 0, 1, 0, 0, 0, 0),
  (40, .iload_n 2, 1, 0, 0, 0, 0),
  (41, .iload_n 1, 1, 0, 0, 0, 0),
  (42, .invokevirtual 67, 3, 3, 19, 0, 4086),
  (45, .aload_n 0, 1, 0, 0, 0, 0),
  (46, .iload_n 3, 1, 0, 0, 0, 0),
  (47, .iload_n 1, 1, 0, 0, 0, 0),
  (48, .invokevirtual 67, 3, 3, 19, 0, 4086),
  (51, .if_icmp .ne 7, 3, 0, 0, 0, 0),
  (54, .iconst 1, 1, 20, 1, 0, 0),
  (55, .goto 4, 3, 0, 0, 0, 0),
  (58, .iconst 0, 1, 20, 0, 0, 0),
  (59, .istore 5, 2, 0, 0, 0, 0),
  (61, .iload 4, 2, 0, 0, 0, 0),
  (63, .iload 5, 2, 0, 0, 0, 0),
  (65, .if_icmp .eq 5, 3, 0, 0, 0, 0),
  (68, .iconst 0, 1, 20, 0, 0, 0),
  (69, .ireturn, 1, 0, 0, 0, 0),
  (70, .iinc 3 1, 3, 20, 1, 0, 0),
  (73, .goto (-61), 3, 0, 0, 0, 0),
  (76, .iinc 2 1, 3, 20, 1, 0, 0),
  (79, .goto (-77), 3, 0, 0, 0, 0),
  (82, .iconst 1, 1, 20, 1, 0, 0),
  (83, .ireturn, 1, 0, 0, 0, 0)]
/-- ThreeMagnets$Picture.isAlikeTurned(I)Z -/
def mz_r18 : mz_R := (1, yX1_isAlikeTurned, cX1_isAlikeTurned, 6, (some .boolean), false, 2, mz_k18)
def mz_k19 : mz_K := [
  (0, .aload_n 0, 1, 0, 0, 0, 0),
  (1, .getfield 18, 3, 0, 1, 2, 1156),
  (4, .ifCond .le 12, 3, 0, 0, 0, 0),
  (7, .iload_n 1, 1, 0, 0, 0, 0),
  (8, .aload_n 0, 1, 0, 0, 0, 0),
  (9, .getfield 18, 3, 0, 1, 2, 1156),
  (12, .irem, 1, 0, 0, 0, 0),
  (13, .goto 4, 3, 0, 0, 0, 0),
  (16, .iconst 0, 1, 20, 0, 0, 0),
  (17, .istore_n 3, 1, 0, 0, 0, 0),
  (18, .aload_n 0, 1, 0, 0, 0, 0),
  (19, .getfield 18, 3, 0, 1, 2, 1156),
  (22, .ifCond .le 12, 3, 0, 0, 0, 0),
  (25, .iload_n 1, 1, 0, 0, 0, 0),
  (26, .aload_n 0, 1, 0, 0, 0, 0),
  (27, .getfield 18, 3, 0, 1, 2, 1156),
  (30, .idiv, 1, 0, 0, 0, 0),
  (31, .goto 4, 3, 0, 0, 0, 0),
  (34, .iconst 0, 1, 20, 0, 0, 0),
  (35, .istore 4, 2, 0, 0, 0, 0),
  (37, .iconst 0, 1, 20, 0, 0, 0),
  (38, .istore 5, 2, 0, 0, 0, 0),
  (40, .iload 5, 2, 0, 0, 0, 0),
  (42, .iload_n 2, 1, 0, 0, 0, 0),
  (43, .if_icmp .ge 26, 3, 0, 0, 0, 0),
  (46, .iload_n 3, 1, 0, 0, 0, 0),
  (47, .istore 6, 2, 0, 0, 0, 0),
  (49, .aload_n 0, 1, 0, 0, 0, 0),
  (50, .getfield 18, 3, 0, 1, 2, 1156),
  (53, .iconst 1, 1, 20, 1, 0, 0),
  (54, .isub, 1, 0, 0, 0, 0),
  (55, .iload 4, 2, 0, 0, 0, 0),
  (57, .isub, 1, 0, 0, 0, 0),
  (58, .istore_n 3, 1, 0, 0, 0, 0),
  (59, .iload 6, 2, 0, 0, 0, 0),
  (61, .istore 4, 2, 0, 0, 0, 0),
  (63, .iinc 5 1, 3, 20, 1, 0, 0),
  (66, .goto (-26), 3, 0, 0, 0, 0),
  (69, .aload_n 0, 1, 0, 0, 0, 0),
  (70, .iload_n 3, 1, 0, 0, 0, 0),
  (71, .iload 4, 2, 0, 0, 0, 0),
  (73, .invokevirtual 42, 3, 3, 7, 0, 4006),
  (76, .ireturn, 1, 0, 0, 0, 0)]
/-- ThreeMagnets$Picture.turnedColour(II)I -/
def mz_r19 : mz_R := (1, yX1_turnedColour, cX1_turnedColour, 7, (some .int), false, 3, mz_k19)
def mz_k20 : mz_K := [
  (0, .aload_n 0, 1, 0, 0, 0, 0),
  (1, .aload_n 1, 1, 0, 0, 0, 0),
  (2, .getfield 9, 3, 0, 1, 0, 1150),
  (5, .aload_n 1, 1, 0, 0, 0, 0),
  (6, .getfield 15, 3, 0, 1, 1, 1153),
  (9, .aload_n 1, 1, 0, 0, 0, 0),
  (10, .getfield 18, 3, 0, 1, 2, 1156),
  (13, .aload_n 1, 1, 0, 0, 0, 0),
  (14, .getfield 21, 3, 0, 1, 3, 1158),
  (17, .aload_n 1, 1, 0, 0, 0, 0),
  (18, .getfield 24, 3, 0, 1, 4, 1160),
  (21, .invokevirtual 70, 3, 3, 5, 0, 5012),
  (24, .aload_n 1, 1, 0, 0, 0, 0),
  (25, .getfield 27, 3, 0, 1, 5, 1163),
  (28, .aload_n 0, 1, 0, 0, 0, 0),
  (29, .getfield 27, 3, 0, 1, 5, 1163),
  (32, .invokestatic 74, 3, 4, 126, 0, 5013),
  (35, .aload_n 1, 1, 0, 0, 0, 0),
  (36, .getfield 31, 3, 0, 1, 6, 1164),
  (39, .aload_n 0, 1, 0, 0, 0, 0),
  (40, .getfield 31, 3, 0, 1, 6, 1164),
  (43, .invokestatic 74, 3, 4, 126, 0, 5013),
  (46, .return_, 1, 0, 0, 0, 0)]
/-- ThreeMagnets$Picture.takeFrom(LThreeMagnets$Picture;)V -/
def mz_r20 : mz_R := (1, yX1_takeFrom, cX1_takeFrom, 2, none, false, 2, mz_k20)
def mz_k21 : mz_K := [
  (0, .iload_n 1, 1, 0, 0, 0, 0),
  (1, .ifCond .lt 21, 3, 0, 0, 0, 0),
  (4, .iload_n 1, 1, 0, 0, 0, 0),
  (5, .aload_n 0, 1, 0, 0, 0, 0),
  (6, .getfield 24, 3, 0, 2, 4, 1054),
  (9, .if_icmp .ge 13, 3, 0, 0, 0, 0),
  (12, .iload_n 1, 1, 0, 0, 0, 0),
  (13, .bipush 6, 2, 20, 6, 0, 0),
  (15, .if_icmp .ge 7, 3, 0, 0, 0, 0),
  (18, .iconst 1, 1, 20, 1, 0, 0),
  (19, .goto 4, 3, 0, 0, 0, 0),
  (22, .iconst 0, 1, 20, 0, 0, 0),
  (23, .ireturn, 1, 0, 0, 0, 0)]
/-- ThreeMagnets$Plate.has(I)Z -/
def mz_r21 : mz_R := (2, yX2_has, cX2_has, 2, (some .boolean), false, 2, mz_k21)
def mz_k22 : mz_K := [
  (0, .aload_n 0, 1, 0, 0, 0, 0),
  (1, .getfield 24, 3, 0, 2, 4, 1054),
  (4, .bipush 6, 2, 20, 6, 0, 0),
  (6, .if_icmp .lt 7, 3, 0, 0, 0, 0),
  (9, .iconst 1, 1, 20, 1, 0, 0),
  (10, .goto 4, 3, 0, 0, 0, 0),
  (13, .iconst 0, 1, 20, 0, 0, 0),
  (14, .ireturn, 1, 0, 0, 0, 0)]
/-- ThreeMagnets$Plate.isFull()Z -/
def mz_r22 : mz_R := (2, yX2_isFull, cX2_isFull, 1, (some .boolean), false, 1, mz_k22)
def mz_k23 : mz_K := [
  (0, .aload_n 0, 1, 0, 0, 0, 0),
  (1, .getfield 24, 3, 0, 2, 4, 1054),
  (4, .ifCond .lt 10, 3, 0, 0, 0, 0),
  (7, .aload_n 0, 1, 0, 0, 0, 0),
  (8, .invokevirtual 28, 3, 3, 22, 0, 2151),
  (11, .ifCond .eq 5, 3, 0, 0, 0, 0),
  (14, .iconst (-1), 1, 21, 1, 0, 0),
  (15, .ireturn, 1, 0, 0, 0, 0),
  (16, .aload_n 0, 1, 0, 0, 0, 0),
  (17, .getfield 24, 3, 0, 2, 4, 1054),
  (20, .istore 5, 2, 0, 0, 0, 0),
  (22, .aload_n 0, 1, 0, 0, 0, 0),
  (23, .getfield 9, 3, 0, 2, 0, 1040),
  (26, .iload 5, 2, 0, 0, 0, 0),
  (28, .iload_n 1, 1, 0, 0, 0, 0),
  (29, .iastore, 1, 0, 0, 0, 0),
  (30, .aload_n 0, 1, 0, 0, 0, 0),
  (31, .getfield 15, 3, 0, 2, 1, 1044),
  (34, .iload 5, 2, 0, 0, 0, 0),
  (36, .iload_n 2, 1, 0, 0, 0, 0),
  (37, .iastore, 1, 0, 0, 0, 0),
  (38, .aload_n 0, 1, 0, 0, 0, 0),
  (39, .getfield 18, 3, 0, 2, 2, 1047),
  (42, .iload 5, 2, 0, 0, 0, 0),
  (44, .iload_n 3, 1, 0, 0, 0, 0),
  (45, .iastore, 1, 0, 0, 0, 0),
  (46, .aload_n 0, 1, 0, 0, 0, 0),
  (47, .getfield 21, 3, 0, 2, 3, 1050),
  (50, .iload 5, 2, 0, 0, 0, 0),
  (52, .iload 4, 2, 0, 0, 0, 0),
  (54, .iastore, 1, 0, 0, 0, 0),
  (55, .aload_n 0, 1, 0, 0, 0, 0),
  (56, .dup, 1, 0, 0, 0, 0),
  (57, .getfield 24, 3, 0, 2, 4, 1054),
  (60, .iconst 1, 1, 20, 1, 0, 0),
  (61, .iadd, 1, 0, 0, 0, 0),
  (62, .putfield 24, 3, 0, 2, 4, 1054),
  (65, .iload 5, 2, 0, 0, 0, 0),
  (67, .ireturn, 1, 0, 0, 0, 0)]
/-- ThreeMagnets$Plate.add(IIII)I -/
def mz_r23 : mz_R := (2, yX2_add, cX2_add, 6, (some .int), false, 5, mz_k23)
def mz_k24 : mz_K := [
  (0, .aload_n 0, 1, 0, 0, 0, 0),
  (1, .iload_n 1, 1, 0, 0, 0, 0),
  (2, .invokevirtual 32, 3, 3, 21, 0, 2164),
  (5, .ifCond .ne 7, 3, 0, 0, 0, 0),
  (8, .sipush 999, 3, 20, 999, 0, 0),
  (11, .ireturn, 1, 0, 0, 0, 0),
  (12, .bipush 16, 2, 20, 16, 0, 0),
  (14, .aload_n 0, 1, 0, 0, 0, 0),
  (15, .getfield 15, 3, 0, 2, 1, 1044),
  (18, .iload_n 1, 1, 0, 0, 0, 0),
  (19, .iaload, 1, 0, 0, 0, 0),
  (20, .imul, 1, 0, 0, 0, 0),
  (21, .iload_n 2, 1, 0, 0, 0, 0),
  (22, .isub, 1, 0, 0, 0, 0),
  (23, .invokestatic 36, 3, 8, 0, 0, 2165),
  (26, .istore 4, 2, 0, 0, 0, 0),
  (28, .bipush 16, 2, 20, 16, 0, 0),
  (30, .aload_n 0, 1, 0, 0, 0, 0),
  (31, .getfield 18, 3, 0, 2, 2, 1047),
  (34, .iload_n 1, 1, 0, 0, 0, 0),
  (35, .iaload, 1, 0, 0, 0, 0),
  (36, .imul, 1, 0, 0, 0, 0),
  (37, .iload_n 3, 1, 0, 0, 0, 0),
  (38, .isub, 1, 0, 0, 0, 0),
  (39, .invokestatic 36, 3, 8, 0, 0, 2165),
  (42, .istore 5, 2, 0, 0, 0, 0),
  (44, .iload 4, 2, 0, 0, 0, 0),
  (46, .iload 5, 2, 0, 0, 0, 0),
  (48, .iadd, 1, 0, 0, 0, 0),
  (49, .bipush 16, 2, 20, 16, 0, 0),
  (51, .idiv, 1, 0, 0, 0, 0),
  (52, .ireturn, 1, 0, 0, 0, 0)]
/-- ThreeMagnets$Plate.far(III)I -/
def mz_r24 : mz_R := (2, yX2_far, cX2_far, 6, (some .int), false, 4, mz_k24)
def mz_k25 : mz_K := [
  (0, .iconst (-1), 1, 21, 1, 0, 0),
  (1, .istore 4, 2, 0, 0, 0, 0),
  (3, .iconst 0, 1, 20, 0, 0, 0),
  (4, .istore 5, 2, 0, 0, 0, 0),
  (6, .iconst 0, 1, 20, 0, 0, 0),
  (7, .istore 6, 2, 0, 0, 0, 0),
  (9, .iload 6, 2, 0, 0, 0, 0),
  (11, .aload_n 0, 1, 0, 0, 0, 0),
  (12, .getfield 24, 3, 0, 2, 4, 1054),
  (15, .if_icmp .ge 52, 3, 0, 0, 0, 0),
  (18, .aload_n 0, 1, 0, 0, 0, 0),
  (19, .iload 6, 2, 0, 0, 0, 0),
  (21, .iload_n 1, 1, 0, 0, 0, 0),
  (22, .iload_n 2, 1, 0, 0, 0, 0),
  (23, .invokevirtual 42, 3, 3, 24, 0, 2234),
  (26, .istore 7, 2, 0, 0, 0, 0),
  (28, .iload 4, 2, 0, 0, 0, 0),
  (30, .ifCond .lt 10, 3, 0, 0, 0, 0),
  (33, .iload 7, 2, 0, 0, 0, 0),
  (35, .iload 5, 2, 0, 0, 0, 0),
  (37, .if_icmp .ge 24, 3, 0, 0, 0, 0),
  (40, .iload_n 3, 1, 0, 0, 0, 0),
  (41, .ifCond .eq 12, 3, 0, 0, 0, 0),
  (44, .aload_n 0, 1, 0, 0, 0, 0),
  (45, .iload 6, 2, 0, 0, 0, 0),
  (47, .invokevirtual 46, 3, 3, 26, 0, 2235),
  (50, .ifCond .ne 11, 3, 0, 0, 0, 0),
  (53, .iload 6, 2, 0, 0, 0, 0),
  (55, .istore 4, 2, 0, 0, 0, 0),
  (57, .iload 7, 2, 0, 0, 0, 0),
  (59, .istore 5, 2, 0, 0, 0, 0),
  (61, .iinc 6 1, 3, 20, 1, 0, 0),
  (64, .goto (-55), 3, 0, 0, 0, 0),
  (67, .iload 4, 2, 0, 0, 0, 0),
  (69, .ireturn, 1, 0, 0, 0, 0)]
/-- ThreeMagnets$Plate.nearestTo(IIZ)I -/
def mz_r25 : mz_R := (2, yX2_nearestTo, cX2_nearestTo, 8, (some .int), false, 4, mz_k25)
def mz_k26 : mz_K := [
  (0, .aload_n 0, 1, 0, 0, 0, 0),
  (1, .iload_n 1, 1, 0, 0, 0, 0),
  (2, .invokevirtual 32, 3, 3, 21, 0, 2164),
  (5, .ifCond .eq 28, 3, 0, 0, 0, 0),
  (8, .aload_n 0, 1, 0, 0, 0, 0),
  (9, .getfield 9, 3, 0, 2, 0, 1040),
  (12, .iload_n 1, 1, 0, 0, 0, 0),
  (13, .iaload, 1, 0, 0, 0, 0),
  (14, .iconst 2, 1, 20, 2, 0, 0),
  (15, .if_icmp .eq 14, 3, 0, 0, 0, 0),
  (18, .aload_n 0, 1, 0, 0, 0, 0),
  (19, .getfield 9, 3, 0, 2, 0, 1040),
  (22, .iload_n 1, 1, 0, 0, 0, 0),
  (23, .iaload, 1, 0, 0, 0, 0),
  (24, .bipush 6, 2, 20, 6, 0, 0),
  (26, .if_icmp .ne 7, 3, 0, 0, 0, 0),
  (29, .iconst 1, 1, 20, 1, 0, 0),
  (30, .goto 4, 3, 0, 0, 0, 0),
  (33, .iconst 0, 1, 20, 0, 0, 0),
  (34, .ireturn, 1, 0, 0, 0, 0)]
/-- ThreeMagnets$Plate.pushes(I)Z -/
def mz_r26 : mz_R := (2, yX2_pushes, cX2_pushes, 2, (some .boolean), false, 2, mz_k26)
def mz_k27 : mz_K := [
  (0, .aload_n 1, 1, 0, 0, 0, 0),
  (1, .getfield 9, 3, 0, 2, 0, 1040),
  (4, .aload_n 0, 1, 0, 0, 0, 0),
  (5, .getfield 9, 3, 0, 2, 0, 1040),
  (8, .invokestatic 49, 3, 4, 126, 0, 4236),
  (11, .aload_n 1, 1, 0, 0, 0, 0),
  (12, .getfield 15, 3, 0, 2, 1, 1044),
  (15, .aload_n 0, 1, 0, 0, 0, 0),
  (16, .getfield 15, 3, 0, 2, 1, 1044),
  (19, .invokestatic 49, 3, 4, 126, 0, 4236),
  (22, .aload_n 1, 1, 0, 0, 0, 0),
  (23, .getfield 18, 3, 0, 2, 2, 1047),
  (26, .aload_n 0, 1, 0, 0, 0, 0),
  (27, .getfield 18, 3, 0, 2, 2, 1047),
  (30, .invokestatic 49, 3, 4, 126, 0, 4236),
  (33, .aload_n 1, 1, 0, 0, 0, 0),
  (34, .getfield 21, 3, 0, 2, 3, 1050),
  (37, .aload_n 0, 1, 0, 0, 0, 0),
  (38, .getfield 21, 3, 0, 2, 3, 1050),
  (41, .invokestatic 49, 3, 4, 126, 0, 4236),
  (44, .aload_n 0, 1, 0, 0, 0, 0),
  (45, .aload_n 1, 1, 0, 0, 0, 0),
  (46, .getfield 24, 3, 0, 2, 4, 1054),
  (49, .putfield 24, 3, 0, 2, 4, 1054),
  (52, .return_, 1, 0, 0, 0, 0)]
/-- ThreeMagnets$Plate.takeFrom(LThreeMagnets$Plate;)V -/
def mz_r27 : mz_R := (2, yX2_takeFrom, cX2_takeFrom, 2, none, false, 2, mz_k27)
def mz_k28 : mz_K := [
  (0, .aload_n 0, 1, 0, 0, 0, 0),
  (1, .aload_n 1, 1, 0, 0, 0, 0),
  (2, .putfield 20, 3, 0, 3, 2, 2030),
  (5, .aload_n 0, 1, 0, 0, 0, 0),
  (6, .iconst 0, 1, 20, 0, 0, 0),
  (7, .putfield 24, 3, 0, 3, 3, 2031),
  (10, .aload_n 0, 1, 0, 0, 0, 0),
  (11, .iconst 1, 1, 20, 1, 0, 0),
  (12, .putfield 28, 3, 0, 3, 4, 2032),
  (15, .aload_n 0, 1, 0, 0, 0, 0),
  (16, .getfield 12, 3, 0, 3, 0, 2027),
  (19, .iconst 0, 1, 20, 0, 0, 0),
  (20, .putfield 36, 3, 0, 8, 2, 1102),
  (23, .aload_n 0, 1, 0, 0, 0, 0),
  (24, .iconst 0, 1, 20, 0, 0, 0),
  (25, .iconst 0, 1, 20, 0, 0, 0),
  (26, .invokevirtual 39, 3, 3, 29, 0, 3020),
  (29, .aload_n 0, 1, 0, 0, 0, 0),
  (30, .getfield 28, 3, 0, 3, 4, 2032),
  (33, .ifCond .eq 21, 3, 0, 0, 0, 0),
  (36, .aload_n 0, 1, 0, 0, 0, 0),
  (37, .getfield 24, 3, 0, 3, 3, 2031),
  (40, .aload_n 0, 1, 0, 0, 0, 0),
  (41, .getfield 32, 3, 0, 3, 1, 2029),
  (44, .getfield 43, 3, 0, 7, 1, 1086),
  (47, .if_icmp .ne 7, 3, 0, 0, 0, 0),
  (50, .iconst (-1), 1, 21, 1, 0, 0),
  (51, .goto 7, 3, 0, 0, 0, 0),
  (54, .aload_n 0, 1, 0, 0, 0, 0),
  (55, .getfield 24, 3, 0, 3, 3, 2031),
  (58, .ireturn, 1, 0, 0, 0, 0)]
/-- ThreeMagnets$Reader.faultFor(Ljava/lang/String;)I -/
def mz_r28 : mz_R := (3, yX3_faultFor, cX3_faultFor, 2, (some .int), false, 2, mz_k28)
def mz_k29 : mz_K := [
  (0, .iload_n 1, 1, 0, 0, 0, 0),
  (1, .iconst 5, 1, 20, 5, 0, 0),
  (2, .if_icmp .lt 9, 3, 0, 0, 0, 0),
  (5, .aload_n 0, 1, 0, 0, 0, 0),
  (6, .iload_n 2, 1, 0, 0, 0, 0),
  (7, .invokevirtual 46, 3, 3, 31, 0, 3024),
  (10, .return_, 1, 0, 0, 0, 0),
  (11, .aload_n 0, 1, 0, 0, 0, 0),
  (12, .iload_n 1, 1, 0, 0, 0, 0),
  (13, .iconst 1, 1, 20, 1, 0, 0),
  (14, .iadd, 1, 0, 0, 0, 0),
  (15, .iload_n 2, 1, 0, 0, 0, 0),
  (16, .invokevirtual 39, 3, 3, 29, 0, 3020),
  (19, .iload_n 1, 1, 0, 0, 0, 0),
  (20, .iconst 2, 1, 20, 2, 0, 0),
  (21, .if_icmp .ne 7, 3, 0, 0, 0, 0),
  (24, .iconst 1, 1, 20, 1, 0, 0),
  (25, .goto 5, 3, 0, 0, 0, 0),
  (28, .bipush 60, 2, 20, 60, 0, 0),
  (30, .istore_n 3, 1, 0, 0, 0, 0),
  (31, .iconst 0, 1, 20, 0, 0, 0),
  (32, .istore 4, 2, 0, 0, 0, 0),
  (34, .iload 4, 2, 0, 0, 0, 0),
  (36, .iload_n 3, 1, 0, 0, 0, 0),
  (37, .if_icmp .ge 75, 3, 0, 0, 0, 0),
  (40, .aload_n 0, 1, 0, 0, 0, 0),
  (41, .getfield 28, 3, 0, 3, 4, 2032),
  (44, .ifCond .eq 68, 3, 0, 0, 0, 0),
  (47, .iload_n 1, 1, 0, 0, 0, 0),
  (48, .aload_n 0, 1, 0, 0, 0, 0),
  (49, .getfield 32, 3, 0, 3, 1, 2029),
  (52, .aload_n 0, 1, 0, 0, 0, 0),
  (53, .getfield 24, 3, 0, 3, 3, 2031),
  (56, .invokevirtual 50, 3, 3, 54, 0, 3028),
  (59, .invokestatic 54, 3, 2, 30, 0, 3133),
  (62, .ifCond .eq 50, 3, 0, 0, 0, 0),
  (65, .aload_n 0, 1, 0, 0, 0, 0),
  (66, .getfield 32, 3, 0, 3, 1, 2029),
  (69, .aload_n 0, 1, 0, 0, 0, 0),
  (70, .getfield 24, 3, 0, 3, 3, 2031),
  (73, .invokevirtual 50, 3, 3, 54, 0, 3028),
  (76, .istore 5, 2, 0, 0, 0, 0),
  (78, .aload_n 0, 1, 0, 0, 0, 0),
  (79, .dup, 1, 0, 0, 0, 0),
  (80, .getfield 24, 3, 0, 3, 3, 2031),
  (83, .iconst 1, 1, 20, 1, 0, 0),
  (84, .iadd, 1, 0, 0, 0, 0),
  (85, .putfield 24, 3, 0, 3, 3, 2031),
  (88, .aload_n 0, 1, 0, 0, 0, 0),
  (89, .iload_n 1, 1, 0, 0, 0, 0),
  (90, .iconst 1, 1, 20, 1, 0, 0),
  (91, .iadd, 1, 0, 0, 0, 0),
  (92, .iload_n 2, 1, 0, 0, 0, 0),
  (93, .invokevirtual 39, 3, 3, 29, 0, 3020),
  (96, .aload_n 0, 1, 0, 0, 0, 0),
  (97, .getfield 12, 3, 0, 3, 0, 2027),
  (100, .iload 5, 2, 0, 0, 0, 0),
  (102, .iconst 0, 1, 20, 0, 0, 0),
  (103, .invokevirtual 58, 3, 3, 56, 0, 3039),
  (106, .iinc 4 1, 3, 20, 1, 0, 0),
  (109, .goto (-75), 3, 0, 0, 0, 0),
  (112, .return_, 1, 0, 0, 0, 0)]
/-- ThreeMagnets$Reader.readLevel(II)V -/
def mz_r29 : mz_R := (3, yX3_readLevel, cX3_readLevel, 6, none, false, 3, mz_k29)
def mz_k30 : mz_K := [
  (0, .iload_n 0, 1, 0, 0, 0, 0),
  (1, .tableswitch 97 0 3 #[31, 43, 55, 79], 31, 0, 0, 0, 0),
  (32, .iload_n 1, 1, 0, 0, 0, 0),
  (33, .bipush 124, 2, 20, 124, 0, 0),
  (35, .if_icmp .ne 7, 3, 0, 0, 0, 0),
  (38, .iconst 1, 1, 20, 1, 0, 0),
  (39, .goto 4, 3, 0, 0, 0, 0),
  (42, .iconst 0, 1, 20, 0, 0, 0),
  (43, .ireturn, 1, 0, 0, 0, 0),
  (44, .iload_n 1, 1, 0, 0, 0, 0),
  (45, .bipush 38, 2, 20, 38, 0, 0),
  (47, .if_icmp .ne 7, 3, 0, 0, 0, 0),
  (50, .iconst 1, 1, 20, 1, 0, 0),
  (51, .goto 4, 3, 0, 0, 0, 0),
  (54, .iconst 0, 1, 20, 0, 0, 0),
  (55, .ireturn, 1, 0, 0, 0, 0),
  (56, .iload_n 1, 1, 0, 0, 0, 0),
  (57, .bipush 60, 2, 20, 60, 0, 0),
  (59, .if_icmp .eq 15, 3, 0, 0, 0, 0),
  (62, .iload_n 1, 1, 0, 0, 0, 0),
  (63, .bipush 61, 2, 20, 61, 0, 0),
  (65, .if_icmp .eq 9, 3, 0, 0, 0, 0),
  (68, .iload_n 1, 1, 0, 0, 0, 0),
  (69, .bipush 62, 2, 20, 62, 0, 0),
  (71, .if_icmp .ne 7, 3, 0, 0, 0, 0),
  (74, .iconst 1, 1, 20, 1, 0, 0),
  (75, .goto 4, 3, 0, 0, 0, 0),
  (78, .iconst 0, 1, 20, 0, 0, 0),
  (79, .ireturn, 1, 0, 0, 0, 0),
  (80, .iload_n 1, 1, 0, 0, 0, 0),
  (81, .bipush 43, 2, 20, 43, 0, 0),
  (83, .if_icmp .eq 9, 3, 0, 0, 0, 0),
  (86, .iload_n 1, 1, 0, 0, 0, 0),
  (87, .bipush 45, 2, 20, 45, 0, 0),
  (89, .if_icmp .ne 7, 3, 0, 0, 0, 0),
  (92, .iconst 1, 1, 20, 1, 0, 0),
  (93, .goto 4, 3, 0, 0, 0, 0),
  (96, .iconst 0, 1, 20, 0, 0, 0),
  (97, .ireturn, 1, 0, 0, 0, 0),
  (98, .iload_n 1, 1, 0, 0, 0, 0),
  (99, .bipush 42, 2, 20, 42, 0, 0),
  (101, .if_icmp .eq 15, 3, 0, 0, 0, 0),
  (104, .iload_n 1, 1, 0, 0, 0, 0),
  (105, .bipush 47, 2, 20, 47, 0, 0),
  (107, .if_icmp .eq 9, 3, 0, 0, 0, 0),
  (110, .iload_n 1, 1, 0, 0, 0, 0),
  (111, .bipush 37, 2, 20, 37, 0, 0),
  (113, .if_icmp .ne 7, 3, 0, 0, 0, 0),
  (116, .iconst 1, 1, 20, 1, 0, 0),
  (117, .goto 4, 3, 0, 0, 0, 0),
  (120, .iconst 0, 1, 20, 0, 0, 0),
  (121, .ireturn, 1, 0, 0, 0, 0)]
/-- ThreeMagnets$Reader.joins(II)Z -/
def mz_r30 : mz_R := (3, yX3_joins, cX3_joins, 2, (some .boolean), true, 2, mz_k30)
def mz_k31 : mz_K := [
  (0, .aload_n 0, 1, 0, 0, 0, 0),
  (1, .getfield 32, 3, 0, 3, 1, 2029),
  (4, .aload_n 0, 1, 0, 0, 0, 0),
  (5, .getfield 24, 3, 0, 3, 3, 2031),
  (8, .invokevirtual 50, 3, 3, 54, 0, 3028),
  (11, .istore_n 2, 1, 0, 0, 0, 0),
  (12, .iload_n 2, 1, 0, 0, 0, 0),
  (13, .invokestatic 61, 3, 2, 35, 0, 3032),
  (16, .ifCond .eq 10, 3, 0, 0, 0, 0),
  (19, .aload_n 0, 1, 0, 0, 0, 0),
  (20, .invokevirtual 65, 3, 3, 33, 0, 3035),
  (23, .goto 85, 3, 0, 0, 0, 0),
  (26, .iload_n 2, 1, 0, 0, 0, 0),
  (27, .bipush 40, 2, 20, 40, 0, 0),
  (29, .if_icmp .ne 33, 3, 0, 0, 0, 0),
  (32, .iload_n 1, 1, 0, 0, 0, 0),
  (33, .iconst 5, 1, 20, 5, 0, 0),
  (34, .if_icmp .ge 28, 3, 0, 0, 0, 0),
  (37, .aload_n 0, 1, 0, 0, 0, 0),
  (38, .dup, 1, 0, 0, 0, 0),
  (39, .getfield 24, 3, 0, 3, 3, 2031),
  (42, .iconst 1, 1, 20, 1, 0, 0),
  (43, .iadd, 1, 0, 0, 0, 0),
  (44, .putfield 24, 3, 0, 3, 3, 2031),
  (47, .aload_n 0, 1, 0, 0, 0, 0),
  (48, .iconst 0, 1, 20, 0, 0, 0),
  (49, .iload_n 1, 1, 0, 0, 0, 0),
  (50, .iconst 1, 1, 20, 1, 0, 0),
  (51, .iadd, 1, 0, 0, 0, 0),
  (52, .invokevirtual 39, 3, 3, 29, 0, 3020),
  (55, .aload_n 0, 1, 0, 0, 0, 0),
  (56, .invokevirtual 68, 3, 3, 32, 0, 3043),
  (59, .goto 49, 3, 0, 0, 0, 0),
  (62, .iload_n 2, 1, 0, 0, 0, 0),
  (63, .bipush 33, 2, 20, 33, 0, 0),
  (65, .if_icmp .ne 38, 3, 0, 0, 0, 0),
  (68, .iload_n 1, 1, 0, 0, 0, 0),
  (69, .iconst 5, 1, 20, 5, 0, 0),
  (70, .if_icmp .ge 33, 3, 0, 0, 0, 0),
  (73, .aload_n 0, 1, 0, 0, 0, 0),
  (74, .dup, 1, 0, 0, 0, 0),
  (75, .getfield 24, 3, 0, 3, 3, 2031),
  (78, .iconst 1, 1, 20, 1, 0, 0),
  (79, .iadd, 1, 0, 0, 0, 0),
  (80, .putfield 24, 3, 0, 3, 3, 2031),
  (83, .aload_n 0, 1, 0, 0, 0, 0),
  (84, .iload_n 1, 1, 0, 0, 0, 0),
  (85, .iconst 1, 1, 20, 1, 0, 0),
  (86, .iadd, 1, 0, 0, 0, 0),
  (87, .invokevirtual 46, 3, 3, 31, 0, 3024),
  (90, .aload_n 0, 1, 0, 0, 0, 0),
  (91, .getfield 12, 3, 0, 3, 0, 2027),
  (94, .bipush 33, 2, 20, 33, 0, 0),
  (96, .iconst 0, 1, 20, 0, 0, 0),
  (97, .invokevirtual 58, 3, 3, 56, 0, 3039),
  (100, .goto 8, 3, 0, 0, 0, 0),
  (103, .aload_n 0, 1, 0, 0, 0, 0),
  (104, .iload_n 2, 1, 0, 0, 0, 0),
  (105, .invokevirtual 71, 3, 3, 34, 0, 3047),
  (108, .return_, 1, 0, 0, 0, 0)]
/-- ThreeMagnets$Reader.readOperand(I)V -/
def mz_r31 : mz_R := (3, yX3_readOperand, cX3_readOperand, 3, none, false, 2, mz_k31)
def mz_k32 : mz_K := [
  (0, .aload_n 0, 1, 0, 0, 0, 0),
  (1, .getfield 28, 3, 0, 3, 4, 2032),
  (4, .ifCond .eq 32, 3, 0, 0, 0, 0),
  (7, .aload_n 0, 1, 0, 0, 0, 0),
  (8, .getfield 32, 3, 0, 3, 1, 2029),
  (11, .aload_n 0, 1, 0, 0, 0, 0),
  (12, .getfield 24, 3, 0, 3, 3, 2031),
  (15, .invokevirtual 50, 3, 3, 54, 0, 3028),
  (18, .bipush 41, 2, 20, 41, 0, 0),
  (20, .if_icmp .ne 16, 3, 0, 0, 0, 0),
  (23, .aload_n 0, 1, 0, 0, 0, 0),
  (24, .dup, 1, 0, 0, 0, 0),
  (25, .getfield 24, 3, 0, 3, 3, 2031),
  (28, .iconst 1, 1, 20, 1, 0, 0),
  (29, .iadd, 1, 0, 0, 0, 0),
  (30, .putfield 24, 3, 0, 3, 3, 2031),
  (33, .goto 8, 3, 0, 0, 0, 0),
  (36, .aload_n 0, 1, 0, 0, 0, 0),
  (37, .iconst 0, 1, 20, 0, 0, 0),
  (38, .putfield 28, 3, 0, 3, 4, 2032),
  (41, .return_, 1, 0, 0, 0, 0)]
/-- ThreeMagnets$Reader.readClose()V -/
def mz_r32 : mz_R := (3, yX3_readClose, cX3_readClose, 1, none, false, 1, mz_k32)
def mz_k33 : mz_K := [
  (0, .iconst 0, 1, 20, 0, 0, 0),
  (1, .istore_n 1, 1, 0, 0, 0, 0),
  (2, .iconst 0, 1, 20, 0, 0, 0),
  (3, .istore_n 2, 1, 0, 0, 0, 0),
  (4, .iload_n 2, 1, 0, 0, 0, 0),
  (5, .iconst 4, 1, 20, 4, 0, 0),
  (6, .if_icmp .ge 56, 3, 0, 0, 0, 0),
  (9, .aload_n 0, 1, 0, 0, 0, 0),
  (10, .getfield 32, 3, 0, 3, 1, 2029),
  (13, .aload_n 0, 1, 0, 0, 0, 0),
  (14, .getfield 24, 3, 0, 3, 3, 2031),
  (17, .invokevirtual 50, 3, 3, 54, 0, 3028),
  (20, .invokestatic 61, 3, 2, 35, 0, 3032),
  (23, .ifCond .eq 39, 3, 0, 0, 0, 0),
  (26, .iload_n 1, 1, 0, 0, 0, 0),
  (27, .bipush 10, 2, 20, 10, 0, 0),
  (29, .imul, 1, 0, 0, 0, 0),
  (30, .aload_n 0, 1, 0, 0, 0, 0),
  (31, .getfield 32, 3, 0, 3, 1, 2029),
  (34, .aload_n 0, 1, 0, 0, 0, 0),
  (35, .getfield 24, 3, 0, 3, 3, 2031),
  (38, .invokevirtual 50, 3, 3, 54, 0, 3028),
  (41, .iadd, 1, 0, 0, 0, 0),
  (42, .bipush 48, 2, 20, 48, 0, 0),
  (44, .isub, 1, 0, 0, 0, 0),
  (45, .istore_n 1, 1, 0, 0, 0, 0),
  (46, .aload_n 0, 1, 0, 0, 0, 0),
  (47, .dup, 1, 0, 0, 0, 0),
  (48, .getfield 24, 3, 0, 3, 3, 2031),
  (51, .iconst 1, 1, 20, 1, 0, 0),
  (52, .iadd, 1, 0, 0, 0, 0),
  (53, .putfield 24, 3, 0, 3, 3, 2031),
  (56, .iinc 2 1, 3, 20, 1, 0, 0),
  (59, .goto (-55), 3, 0, 0, 0, 0),
  (62, .aload_n 0, 1, 0, 0, 0, 0),
  (63, .getfield 12, 3, 0, 3, 0, 2027),
  (66, .iconst 0, 1, 20, 0, 0, 0),
  (67, .iload_n 1, 1, 0, 0, 0, 0),
  (68, .invokevirtual 58, 3, 3, 56, 0, 3039),
  (71, .return_, 1, 0, 0, 0, 0)]
/-- ThreeMagnets$Reader.readNumber()V -/
def mz_r33 : mz_R := (3, yX3_readNumber, cX3_readNumber, 3, none, false, 1, mz_k33)
def mz_k34 : mz_K := [
  (0, .iload_n 1, 1, 0, 0, 0, 0),
  (1, .ifCond .ge 7, 3, 0, 0, 0, 0),
  (4, .iconst (-1), 1, 21, 1, 0, 0),
  (5, .goto 12, 3, 0, 0, 0, 0),
  (8, .aload_n 0, 1, 0, 0, 0, 0),
  (9, .getfield 20, 3, 0, 3, 2, 2030),
  (12, .iload_n 1, 1, 0, 0, 0, 0),
  (13, .i2c, 1, 0, 0, 0, 0),
  (14, .invokevirtual 74, 3, 3, 230, 0, 3051),
  (17, .istore_n 2, 1, 0, 0, 0, 0),
  (18, .iload_n 2, 1, 0, 0, 0, 0),
  (19, .ifCond .ge 9, 3, 0, 0, 0, 0),
  (22, .aload_n 0, 1, 0, 0, 0, 0),
  (23, .iconst 0, 1, 20, 0, 0, 0),
  (24, .putfield 28, 3, 0, 3, 4, 2032),
  (27, .return_, 1, 0, 0, 0, 0),
  (28, .aload_n 0, 1, 0, 0, 0, 0),
  (29, .dup, 1, 0, 0, 0, 0),
  (30, .getfield 24, 3, 0, 3, 3, 2031),
  (33, .iconst 1, 1, 20, 1, 0, 0),
  (34, .iadd, 1, 0, 0, 0, 0),
  (35, .putfield 24, 3, 0, 3, 3, 2031),
  (38, .aload_n 0, 1, 0, 0, 0, 0),
  (39, .getfield 12, 3, 0, 3, 0, 2027),
  (42, .iconst 1, 1, 20, 1, 0, 0),
  (43, .iload_n 2, 1, 0, 0, 0, 0),
  (44, .invokevirtual 58, 3, 3, 56, 0, 3039),
  (47, .return_, 1, 0, 0, 0, 0)]
/-- ThreeMagnets$Reader.readName(I)V -/
def mz_r34 : mz_R := (3, yX3_readName, cX3_readName, 3, none, false, 2, mz_k34)
def mz_k35 : mz_K := [
  (0, .iload_n 0, 1, 0, 0, 0, 0),
  (1, .bipush 48, 2, 20, 48, 0, 0),
  (3, .if_icmp .lt 13, 3, 0, 0, 0, 0),
  (6, .iload_n 0, 1, 0, 0, 0, 0),
  (7, .bipush 57, 2, 20, 57, 0, 0),
  (9, .if_icmp .gt 7, 3, 0, 0, 0, 0),
  (12, .iconst 1, 1, 20, 1, 0, 0),
  (13, .goto 4, 3, 0, 0, 0, 0),
  (16, .iconst 0, 1, 20, 0, 0, 0),
  (17, .ireturn, 1, 0, 0, 0, 0)]
/-- ThreeMagnets$Reader.isDigit(I)Z -/
def mz_r35 : mz_R := (3, yX3_isDigit, cX3_isDigit, 1, (some .boolean), true, 1, mz_k35)
def mz_k36 : mz_K := [
  (0, .aload_n 0, 1, 0, 0, 0, 0),
  (1, .getfield 12, 3, 0, 4, 1, 2005),
  (4, .iload_n 1, 1, 0, 0, 0, 0),
  (5, .iload_n 2, 1, 0, 0, 0, 0),
  (6, .iload_n 3, 1, 0, 0, 0, 0),
  (7, .iload 4, 2, 0, 0, 0, 0),
  (9, .invokevirtual 29, 3, 3, 0, 0, 3203),
  (12, .aload_n 0, 1, 0, 0, 0, 0),
  (13, .getfield 25, 3, 0, 4, 0, 2004),
  (16, .getfield 33, 3, 0, 6, 1, 1184),
  (19, .iconst 2, 1, 20, 2, 0, 0),
  (20, .iaload, 1, 0, 0, 0, 0),
  (21, .iload 5, 2, 0, 0, 0, 0),
  (23, .imul, 1, 0, 0, 0, 0),
  (24, .istore 6, 2, 0, 0, 0, 0),
  (26, .aload_n 0, 1, 0, 0, 0, 0),
  (27, .aload_n 0, 1, 0, 0, 0, 0),
  (28, .getfield 12, 3, 0, 4, 1, 2005),
  (31, .invokevirtual 38, 3, 3, 37, 0, 3204),
  (34, .istore 7, 2, 0, 0, 0, 0),
  (36, .iconst 0, 1, 20, 0, 0, 0),
  (37, .istore 8, 2, 0, 0, 0, 0),
  (39, .iload 8, 2, 0, 0, 0, 0),
  (41, .iload 6, 2, 0, 0, 0, 0),
  (43, .if_icmp .ge 36, 3, 0, 0, 0, 0),
  (46, .iload 7, 2, 0, 0, 0, 0),
  (48, .bipush 9, 2, 20, 9, 0, 0),
  (50, .if_icmp .ne 29, 3, 0, 0, 0, 0),
  (53, .aload_n 0, 1, 0, 0, 0, 0),
  (54, .aload_n 0, 1, 0, 0, 0, 0),
  (55, .getfield 12, 3, 0, 4, 1, 2005),
  (58, .iload 5, 2, 0, 0, 0, 0),
  (60, .invokevirtual 42, 3, 3, 38, 0, 3205),
  (63, .aload_n 0, 1, 0, 0, 0, 0),
  (64, .aload_n 0, 1, 0, 0, 0, 0),
  (65, .getfield 12, 3, 0, 4, 1, 2005),
  (68, .invokevirtual 38, 3, 3, 37, 0, 3204),
  (71, .istore 7, 2, 0, 0, 0, 0),
  (73, .iinc 8 1, 3, 20, 1, 0, 0),
  (76, .goto (-37), 3, 0, 0, 0, 0),
  (79, .iload 7, 2, 0, 0, 0, 0),
  (81, .ireturn, 1, 0, 0, 0, 0)]
/-- ThreeMagnets$Runner.endOf(IIIII)I -/
def mz_r36 : mz_R := (4, yX4_endOf, cX4_endOf, 9, (some .int), false, 6, mz_k36)
def mz_k37 : mz_K := [
  (0, .aload_n 1, 1, 0, 0, 0, 0),
  (1, .getfield 46, 3, 0, 0, 2, 1125),
  (4, .invokestatic 50, 3, 8, 0, 0, 3183),
  (7, .aload_n 1, 1, 0, 0, 0, 0),
  (8, .getfield 56, 3, 0, 0, 3, 1128),
  (11, .invokestatic 50, 3, 8, 0, 0, 3183),
  (14, .iadd, 1, 0, 0, 0, 0),
  (15, .aload_n 0, 1, 0, 0, 0, 0),
  (16, .getfield 25, 3, 0, 4, 0, 2004),
  (19, .getfield 33, 3, 0, 6, 1, 1184),
  (22, .iconst 3, 1, 20, 3, 0, 0),
  (23, .iaload, 1, 0, 0, 0, 0),
  (24, .if_icmp .le 6, 3, 0, 0, 0, 0),
  (27, .bipush 9, 2, 20, 9, 0, 0),
  (29, .ireturn, 1, 0, 0, 0, 0),
  (30, .aload_n 0, 1, 0, 0, 0, 0),
  (31, .getfield 25, 3, 0, 4, 0, 2004),
  (34, .getfield 59, 3, 0, 6, 0, 1182),
  (37, .aload_n 1, 1, 0, 0, 0, 0),
  (38, .getfield 63, 3, 0, 0, 0, 1119),
  (41, .aload_n 1, 1, 0, 0, 0, 0),
  (42, .getfield 66, 3, 0, 0, 1, 1122),
  (45, .iconst 1, 1, 20, 1, 0, 0),
  (46, .invokevirtual 69, 3, 3, 25, 0, 3182),
  (49, .istore_n 2, 1, 0, 0, 0, 0),
  (50, .iload_n 2, 1, 0, 0, 0, 0),
  (51, .ifCond .lt 34, 3, 0, 0, 0, 0),
  (54, .aload_n 0, 1, 0, 0, 0, 0),
  (55, .getfield 25, 3, 0, 4, 0, 2004),
  (58, .getfield 59, 3, 0, 6, 0, 1182),
  (61, .iload_n 2, 1, 0, 0, 0, 0),
  (62, .aload_n 1, 1, 0, 0, 0, 0),
  (63, .getfield 63, 3, 0, 0, 0, 1119),
  (66, .aload_n 1, 1, 0, 0, 0, 0),
  (67, .getfield 66, 3, 0, 0, 1, 1122),
  (70, .invokevirtual 75, 3, 3, 24, 0, 3177),
  (73, .aload_n 0, 1, 0, 0, 0, 0),
  (74, .getfield 25, 3, 0, 4, 0, 2004),
  (77, .getfield 33, 3, 0, 6, 1, 1184),
  (80, .iconst 4, 1, 20, 4, 0, 0),
  (81, .iaload, 1, 0, 0, 0, 0),
  (82, .if_icmp .le 6, 3, 0, 0, 0, 0),
  (85, .bipush 9, 2, 20, 9, 0, 0),
  (87, .ireturn, 1, 0, 0, 0, 0),
  (88, .iload_n 2, 1, 0, 0, 0, 0),
  (89, .ireturn, 1, 0, 0, 0, 0)]
/-- ThreeMagnets$Runner.restOf(LThreeMagnets$Bob;)I -/
def mz_r37 : mz_R := (4, yX4_restOf, cX4_restOf, 3, (some .int), false, 2, mz_k37)
def mz_k38 : mz_K := [
  (0, .iconst 1, 1, 20, 1, 0, 0),
  (1, .iload_n 2, 1, 0, 0, 0, 0),
  (2, .invokestatic 79, 3, 9, 0, 0, 2200),
  (5, .istore_n 3, 1, 0, 0, 0, 0),
  (6, .aload_n 0, 1, 0, 0, 0, 0),
  (7, .getfield 25, 3, 0, 4, 0, 2004),
  (10, .getfield 59, 3, 0, 6, 0, 1182),
  (13, .astore 4, 2, 0, 0, 0, 0),
  (15, .iconst 0, 1, 20, 0, 0, 0),
  (16, .istore 5, 2, 0, 0, 0, 0),
  (18, .aload 4, 2, 0, 0, 0, 0),
  (20, .iload 5, 2, 0, 0, 0, 0),
  (22, .invokevirtual 83, 3, 3, 21, 0, 2172),
  (25, .ifCond .eq 153, 3, 0, 0, 0, 0),
  (28, .iload 5, 2, 0, 0, 0, 0),
  (30, .bipush 6, 2, 20, 6, 0, 0),
  (32, .if_icmp .ge 146, 3, 0, 0, 0, 0),
  (35, .aload 4, 2, 0, 0, 0, 0),
  (37, .iload 5, 2, 0, 0, 0, 0),
  (39, .aload_n 1, 1, 0, 0, 0, 0),
  (40, .getfield 63, 3, 0, 0, 0, 1119),
  (43, .aload_n 1, 1, 0, 0, 0, 0),
  (44, .getfield 66, 3, 0, 0, 1, 1122),
  (47, .invokevirtual 75, 3, 3, 24, 0, 3177),
  (50, .istore 6, 2, 0, 0, 0, 0),
  (52, .aload_n 0, 1, 0, 0, 0, 0),
  (53, .aload 4, 2, 0, 0, 0, 0),
  (55, .getfield 87, 3, 0, 2, 3, 1053),
  (58, .iload 5, 2, 0, 0, 0, 0),
  (60, .iaload, 1, 0, 0, 0, 0),
  (61, .iload 6, 2, 0, 0, 0, 0),
  (63, .aload_n 1, 1, 0, 0, 0, 0),
  (64, .getfield 90, 3, 0, 0, 4, 1132),
  (67, .invokevirtual 93, 3, 3, 42, 0, 2173),
  (70, .istore 7, 2, 0, 0, 0, 0),
  (72, .aload 4, 2, 0, 0, 0, 0),
  (74, .getfield 96, 3, 0, 2, 0, 1043),
  (77, .iload 5, 2, 0, 0, 0, 0),
  (79, .iaload, 1, 0, 0, 0, 0),
  (80, .iload 7, 2, 0, 0, 0, 0),
  (82, .iload 6, 2, 0, 0, 0, 0),
  (84, .aload_n 1, 1, 0, 0, 0, 0),
  (85, .getfield 90, 3, 0, 0, 4, 1132),
  (88, .invokestatic 99, 3, 2, 41, 0, 2197),
  (91, .istore 8, 2, 0, 0, 0, 0),
  (93, .bipush 16, 2, 20, 16, 0, 0),
  (95, .iload 6, 2, 0, 0, 0, 0),
  (97, .iconst 1, 1, 20, 1, 0, 0),
  (98, .iadd, 1, 0, 0, 0, 0),
  (99, .imul, 1, 0, 0, 0, 0),
  (100, .istore 9, 2, 0, 0, 0, 0),
  (102, .aload_n 1, 1, 0, 0, 0, 0),
  (103, .dup, 1, 0, 0, 0, 0),
  (104, .getfield 46, 3, 0, 0, 2, 1125),
  (107, .bipush 16, 2, 20, 16, 0, 0),
  (109, .aload 4, 2, 0, 0, 0, 0),
  (111, .getfield 103, 3, 0, 2, 1, 1046),
  (114, .iload 5, 2, 0, 0, 0, 0),
  (116, .iaload, 1, 0, 0, 0, 0),
  (117, .imul, 1, 0, 0, 0, 0),
  (118, .aload_n 1, 1, 0, 0, 0, 0),
  (119, .getfield 63, 3, 0, 0, 0, 1119),
  (122, .isub, 1, 0, 0, 0, 0),
  (123, .iload 8, 2, 0, 0, 0, 0),
  (125, .imul, 1, 0, 0, 0, 0),
  (126, .iload 9, 2, 0, 0, 0, 0),
  (128, .invokestatic 106, 3, 4, 123, 0, 2177),
  (131, .iload_n 3, 1, 0, 0, 0, 0),
  (132, .idiv, 1, 0, 0, 0, 0),
  (133, .iadd, 1, 0, 0, 0, 0),
  (134, .putfield 46, 3, 0, 0, 2, 1125),
  (137, .aload_n 1, 1, 0, 0, 0, 0),
  (138, .dup, 1, 0, 0, 0, 0),
  (139, .getfield 56, 3, 0, 0, 3, 1128),
  (142, .bipush 16, 2, 20, 16, 0, 0),
  (144, .aload 4, 2, 0, 0, 0, 0),
  (146, .getfield 109, 3, 0, 2, 2, 1049),
  (149, .iload 5, 2, 0, 0, 0, 0),
  (151, .iaload, 1, 0, 0, 0, 0),
  (152, .imul, 1, 0, 0, 0, 0),
  (153, .aload_n 1, 1, 0, 0, 0, 0),
  (154, .getfield 66, 3, 0, 0, 1, 1122),
  (157, .isub, 1, 0, 0, 0, 0),
  (158, .iload 8, 2, 0, 0, 0, 0),
  (160, .imul, 1, 0, 0, 0, 0),
  (161, .iload 9, 2, 0, 0, 0, 0),
  (163, .invokestatic 106, 3, 4, 123, 0, 2177),
  (166, .iload_n 3, 1, 0, 0, 0, 0),
  (167, .idiv, 1, 0, 0, 0, 0),
  (168, .iadd, 1, 0, 0, 0, 0),
  (169, .putfield 56, 3, 0, 0, 3, 1128),
  (172, .iinc 5 1, 3, 20, 1, 0, 0),
  (175, .goto (-157), 3, 0, 0, 0, 0),
  (178, .aload_n 0, 1, 0, 0, 0, 0),
  (179, .getfield 25, 3, 0, 4, 0, 2004),
  (182, .getfield 33, 3, 0, 6, 1, 1184),
  (185, .iconst 0, 1, 20, 0, 0, 0),
  (186, .iaload, 1, 0, 0, 0, 0),
  (187, .istore 5, 2, 0, 0, 0, 0),
  (189, .aload_n 1, 1, 0, 0, 0, 0),
  (190, .dup, 1, 0, 0, 0, 0),
  (191, .getfield 46, 3, 0, 0, 2, 1125),
  (194, .aload_n 1, 1, 0, 0, 0, 0),
  (195, .getfield 63, 3, 0, 0, 0, 1119),
  (198, .iload 5, 2, 0, 0, 0, 0),
  (200, .imul, 1, 0, 0, 0, 0),
  (201, .sipush 1600, 3, 20, 1600, 0, 0),
  (204, .idiv, 1, 0, 0, 0, 0),
  (205, .iload_n 3, 1, 0, 0, 0, 0),
  (206, .idiv, 1, 0, 0, 0, 0),
  (207, .isub, 1, 0, 0, 0, 0),
  (208, .putfield 46, 3, 0, 0, 2, 1125),
  (211, .aload_n 1, 1, 0, 0, 0, 0),
  (212, .dup, 1, 0, 0, 0, 0),
  (213, .getfield 56, 3, 0, 0, 3, 1128),
  (216, .aload_n 1, 1, 0, 0, 0, 0),
  (217, .getfield 66, 3, 0, 0, 1, 1122),
  (220, .iload 5, 2, 0, 0, 0, 0),
  (222, .imul, 1, 0, 0, 0, 0),
  (223, .sipush 1600, 3, 20, 1600, 0, 0),
  (226, .idiv, 1, 0, 0, 0, 0),
  (227, .iload_n 3, 1, 0, 0, 0, 0),
  (228, .idiv, 1, 0, 0, 0, 0),
  (229, .isub, 1, 0, 0, 0, 0),
  (230, .putfield 56, 3, 0, 0, 3, 1128),
  (233, .aload_n 0, 1, 0, 0, 0, 0),
  (234, .aload_n 1, 1, 0, 0, 0, 0),
  (235, .invokevirtual 112, 3, 3, 43, 0, 3178),
  (238, .istore 6, 2, 0, 0, 0, 0),
  (240, .aload_n 1, 1, 0, 0, 0, 0),
  (241, .dup, 1, 0, 0, 0, 0),
  (242, .getfield 46, 3, 0, 0, 2, 1125),
  (245, .aload_n 1, 1, 0, 0, 0, 0),
  (246, .getfield 46, 3, 0, 0, 2, 1125),
  (249, .iload 6, 2, 0, 0, 0, 0),
  (251, .imul, 1, 0, 0, 0, 0),
  (252, .bipush 100, 2, 20, 100, 0, 0),
  (254, .idiv, 1, 0, 0, 0, 0),
  (255, .iload_n 3, 1, 0, 0, 0, 0),
  (256, .idiv, 1, 0, 0, 0, 0),
  (257, .isub, 1, 0, 0, 0, 0),
  (258, .putfield 46, 3, 0, 0, 2, 1125),
  (261, .aload_n 1, 1, 0, 0, 0, 0),
  (262, .dup, 1, 0, 0, 0, 0),
  (263, .getfield 56, 3, 0, 0, 3, 1128),
  (266, .aload_n 1, 1, 0, 0, 0, 0),
  (267, .getfield 56, 3, 0, 0, 3, 1128),
  (270, .iload 6, 2, 0, 0, 0, 0),
  (272, .imul, 1, 0, 0, 0, 0),
  (273, .bipush 100, 2, 20, 100, 0, 0),
  (275, .idiv, 1, 0, 0, 0, 0),
  (276, .iload_n 3, 1, 0, 0, 0, 0),
  (277, .idiv, 1, 0, 0, 0, 0),
  (278, .isub, 1, 0, 0, 0, 0),
  (279, .putfield 56, 3, 0, 0, 3, 1128),
  (282, .aload_n 1, 1, 0, 0, 0, 0),
  (283, .iload_n 3, 1, 0, 0, 0, 0),
  (284, .invokestatic 115, 3, 2, 39, 0, 3184),
  (287, .aload_n 1, 1, 0, 0, 0, 0),
  (288, .dup, 1, 0, 0, 0, 0),
  (289, .getfield 90, 3, 0, 0, 4, 1132),
  (292, .iconst 1, 1, 20, 1, 0, 0),
  (293, .iadd, 1, 0, 0, 0, 0),
  (294, .putfield 90, 3, 0, 0, 4, 1132),
  (297, .return_, 1, 0, 0, 0, 0)]
/-- ThreeMagnets$Runner.step(LThreeMagnets$Bob;I)V -/
def mz_r38 : mz_R := (4, yX4_step, cX4_step, 10, none, false, 3, mz_k38)
def mz_k39 : mz_K := [
  (0, .aload_n 0, 1, 0, 0, 0, 0),
  (1, .getfield 63, 3, 0, 0, 0, 1119),
  (4, .aload_n 0, 1, 0, 0, 0, 0),
  (5, .getfield 46, 3, 0, 0, 2, 1125),
  (8, .iload_n 1, 1, 0, 0, 0, 0),
  (9, .invokestatic 106, 3, 4, 123, 0, 2177),
  (12, .iadd, 1, 0, 0, 0, 0),
  (13, .istore_n 2, 1, 0, 0, 0, 0),
  (14, .aload_n 0, 1, 0, 0, 0, 0),
  (15, .getfield 66, 3, 0, 0, 1, 1122),
  (18, .aload_n 0, 1, 0, 0, 0, 0),
  (19, .getfield 56, 3, 0, 0, 3, 1128),
  (22, .iload_n 1, 1, 0, 0, 0, 0),
  (23, .invokestatic 106, 3, 4, 123, 0, 2177),
  (26, .iadd, 1, 0, 0, 0, 0),
  (27, .istore_n 3, 1, 0, 0, 0, 0),
  (28, .aload_n 0, 1, 0, 0, 0, 0),
  (29, .iload_n 2, 1, 0, 0, 0, 0),
  (30, .sipush (-1600), 3, 21, 1600, 0, 0),
  (33, .sipush 1600, 3, 20, 1600, 0, 0),
  (36, .invokestatic 118, 3, 4, 122, 0, 2188),
  (39, .putfield 63, 3, 0, 0, 0, 1119),
  (42, .aload_n 0, 1, 0, 0, 0, 0),
  (43, .iload_n 3, 1, 0, 0, 0, 0),
  (44, .sipush (-1600), 3, 21, 1600, 0, 0),
  (47, .sipush 1600, 3, 20, 1600, 0, 0),
  (50, .invokestatic 118, 3, 4, 122, 0, 2188),
  (53, .putfield 66, 3, 0, 0, 1, 1122),
  (56, .aload_n 0, 1, 0, 0, 0, 0),
  (57, .getfield 63, 3, 0, 0, 0, 1119),
  (60, .iload_n 2, 1, 0, 0, 0, 0),
  (61, .if_icmp .eq 8, 3, 0, 0, 0, 0),
  (64, .aload_n 0, 1, 0, 0, 0, 0),
  (65, .iconst 0, 1, 20, 0, 0, 0),
  (66, .putfield 46, 3, 0, 0, 2, 1125),
  (69, .aload_n 0, 1, 0, 0, 0, 0),
  (70, .getfield 66, 3, 0, 0, 1, 1122),
  (73, .iload_n 3, 1, 0, 0, 0, 0),
  (74, .if_icmp .eq 8, 3, 0, 0, 0, 0),
  (77, .aload_n 0, 1, 0, 0, 0, 0),
  (78, .iconst 0, 1, 20, 0, 0, 0),
  (79, .putfield 56, 3, 0, 0, 3, 1128),
  (82, .return_, 1, 0, 0, 0, 0)]
/-- ThreeMagnets$Runner.go(LThreeMagnets$Bob;I)V -/
def mz_r39 : mz_R := (4, yX4_go, cX4_go, 4, none, true, 2, mz_k39)
def mz_k40 : mz_K := [
  (0, .aload_n 0, 1, 0, 0, 0, 0),
  (1, .getfield 25, 3, 0, 4, 0, 2004),
  (4, .getfield 59, 3, 0, 6, 0, 1182),
  (7, .iload_n 1, 1, 0, 0, 0, 0),
  (8, .invokevirtual 83, 3, 3, 21, 0, 2172),
  (11, .ifCond .ne 5, 3, 0, 0, 0, 0),
  (14, .iconst 0, 1, 20, 0, 0, 0),
  (15, .ireturn, 1, 0, 0, 0, 0),
  (16, .aload_n 0, 1, 0, 0, 0, 0),
  (17, .aload_n 0, 1, 0, 0, 0, 0),
  (18, .getfield 25, 3, 0, 4, 0, 2004),
  (21, .getfield 59, 3, 0, 6, 0, 1182),
  (24, .getfield 87, 3, 0, 2, 3, 1053),
  (27, .iload_n 1, 1, 0, 0, 0, 0),
  (28, .iaload, 1, 0, 0, 0, 0),
  (29, .iload_n 2, 1, 0, 0, 0, 0),
  (30, .iload_n 3, 1, 0, 0, 0, 0),
  (31, .invokevirtual 93, 3, 3, 42, 0, 2173),
  (34, .istore 4, 2, 0, 0, 0, 0),
  (36, .aload_n 0, 1, 0, 0, 0, 0),
  (37, .getfield 25, 3, 0, 4, 0, 2004),
  (40, .getfield 59, 3, 0, 6, 0, 1182),
  (43, .getfield 96, 3, 0, 2, 0, 1043),
  (46, .iload_n 1, 1, 0, 0, 0, 0),
  (47, .iaload, 1, 0, 0, 0, 0),
  (48, .iload 4, 2, 0, 0, 0, 0),
  (50, .iload_n 2, 1, 0, 0, 0, 0),
  (51, .iload_n 3, 1, 0, 0, 0, 0),
  (52, .invokestatic 99, 3, 2, 41, 0, 2197),
  (55, .ireturn, 1, 0, 0, 0, 0)]
/-- ThreeMagnets$Runner.pullOf(III)I -/
def mz_r40 : mz_R := (4, yX4_pullOf, cX4_pullOf, 5, (some .int), false, 4, mz_k40)
def mz_k41 : mz_K := [
  (0, .iload_n 0, 1, 0, 0, 0, 0),
  (1, .iconst 3, 1, 20, 3, 0, 0),
  (2, .if_icmp .eq 8, 3, 0, 0, 0, 0),
  (5, .iload_n 0, 1, 0, 0, 0, 0),
  (6, .iconst 5, 1, 20, 5, 0, 0),
  (7, .if_icmp .ne 9, 3, 0, 0, 0, 0),
  (10, .iload_n 3, 1, 0, 0, 0, 0),
  (11, .iconst 2, 1, 20, 2, 0, 0),
  (12, .irem, 1, 0, 0, 0, 0),
  (13, .ifCond .ne 14, 3, 0, 0, 0, 0),
  (16, .iload_n 0, 1, 0, 0, 0, 0),
  (17, .iconst 4, 1, 20, 4, 0, 0),
  (18, .if_icmp .ne 11, 3, 0, 0, 0, 0),
  (21, .iload_n 2, 1, 0, 0, 0, 0),
  (22, .bipush 20, 2, 20, 20, 0, 0),
  (24, .if_icmp .le 5, 3, 0, 0, 0, 0),
  (27, .iconst 0, 1, 20, 0, 0, 0),
  (28, .ireturn, 1, 0, 0, 0, 0),
  (29, .iload_n 0, 1, 0, 0, 0, 0),
  (30, .tableswitch 60 1 6 #[38, 42, 60, 38, 46, 54], 38, 0, 0, 0, 0),
  (68, .iload_n 1, 1, 0, 0, 0, 0),
  (69, .iconst 2, 1, 20, 2, 0, 0),
  (70, .idiv, 1, 0, 0, 0, 0),
  (71, .ireturn, 1, 0, 0, 0, 0),
  (72, .iconst 0, 1, 20, 0, 0, 0),
  (73, .iload_n 1, 1, 0, 0, 0, 0),
  (74, .isub, 1, 0, 0, 0, 0),
  (75, .ireturn, 1, 0, 0, 0, 0),
  (76, .iconst 0, 1, 20, 0, 0, 0),
  (77, .iload_n 1, 1, 0, 0, 0, 0),
  (78, .iconst 3, 1, 20, 3, 0, 0),
  (79, .isub, 1, 0, 0, 0, 0),
  (80, .invokestatic 79, 3, 9, 0, 0, 2200),
  (83, .ireturn, 1, 0, 0, 0, 0),
  (84, .iconst 2, 1, 20, 2, 0, 0),
  (85, .iconst 0, 1, 20, 0, 0, 0),
  (86, .iload_n 1, 1, 0, 0, 0, 0),
  (87, .isub, 1, 0, 0, 0, 0),
  (88, .imul, 1, 0, 0, 0, 0),
  (89, .ireturn, 1, 0, 0, 0, 0),
  (90, .iload_n 1, 1, 0, 0, 0, 0),
  (91, .ireturn, 1, 0, 0, 0, 0)]
/-- ThreeMagnets$Runner.pullByKind(IIII)I -/
def mz_r41 : mz_R := (4, yX4_pullByKind, cX4_pullByKind, 4, (some .int), true, 4, mz_k41)
def mz_k42 : mz_K := [
  (0, .aload_n 0, 1, 0, 0, 0, 0),
  (1, .getfield 25, 3, 0, 4, 0, 2004),
  (4, .getfield 121, 3, 0, 6, 3, 1189),
  (7, .getfield 125, 3, 0, 8, 2, 1103),
  (10, .ifCond .gt 14, 3, 0, 0, 0, 0),
  (13, .iload_n 1, 1, 0, 0, 0, 0),
  (14, .bipush 9, 2, 20, 9, 0, 0),
  (16, .imul, 1, 0, 0, 0, 0),
  (17, .iload_n 2, 1, 0, 0, 0, 0),
  (18, .iconst 3, 1, 20, 3, 0, 0),
  (19, .iadd, 1, 0, 0, 0, 0),
  (20, .invokestatic 106, 3, 4, 123, 0, 2177),
  (23, .ireturn, 1, 0, 0, 0, 0),
  (24, .aload_n 0, 1, 0, 0, 0, 0),
  (25, .getfield 18, 3, 0, 4, 2, 2007),
  (28, .iconst 0, 1, 20, 0, 0, 0),
  (29, .iload_n 2, 1, 0, 0, 0, 0),
  (30, .iastore, 1, 0, 0, 0, 0),
  (31, .aload_n 0, 1, 0, 0, 0, 0),
  (32, .getfield 18, 3, 0, 4, 2, 2007),
  (35, .iconst 1, 1, 20, 1, 0, 0),
  (36, .iload_n 1, 1, 0, 0, 0, 0),
  (37, .iastore, 1, 0, 0, 0, 0),
  (38, .aload_n 0, 1, 0, 0, 0, 0),
  (39, .getfield 18, 3, 0, 4, 2, 2007),
  (42, .iconst 2, 1, 20, 2, 0, 0),
  (43, .iload_n 3, 1, 0, 0, 0, 0),
  (44, .iastore, 1, 0, 0, 0, 0),
  (45, .aload_n 0, 1, 0, 0, 0, 0),
  (46, .getfield 25, 3, 0, 4, 0, 2004),
  (49, .getfield 121, 3, 0, 6, 3, 1189),
  (52, .aload_n 0, 1, 0, 0, 0, 0),
  (53, .getfield 18, 3, 0, 4, 2, 2007),
  (56, .aload_n 0, 1, 0, 0, 0, 0),
  (57, .getfield 22, 3, 0, 4, 3, 2008),
  (60, .invokevirtual 130, 3, 3, 57, 0, 2180),
  (63, .sipush (-999), 3, 21, 999, 0, 0),
  (66, .sipush 999, 3, 20, 999, 0, 0),
  (69, .invokestatic 118, 3, 4, 122, 0, 2188),
  (72, .ireturn, 1, 0, 0, 0, 0)]
/-- ThreeMagnets$Runner.fullPull(III)I -/
def mz_r42 : mz_R := (4, yX4_fullPull, cX4_fullPull, 4, (some .int), false, 4, mz_k42)
def mz_k43 : mz_K := [
  (0, .aload_n 0, 1, 0, 0, 0, 0),
  (1, .getfield 25, 3, 0, 4, 0, 2004),
  (4, .getfield 134, 3, 0, 6, 4, 1191),
  (7, .getfield 125, 3, 0, 8, 2, 1103),
  (10, .ifCond .gt 13, 3, 0, 0, 0, 0),
  (13, .aload_n 0, 1, 0, 0, 0, 0),
  (14, .getfield 25, 3, 0, 4, 0, 2004),
  (17, .getfield 33, 3, 0, 6, 1, 1184),
  (20, .iconst 1, 1, 20, 1, 0, 0),
  (21, .iaload, 1, 0, 0, 0, 0),
  (22, .ireturn, 1, 0, 0, 0, 0),
  (23, .aload_n 0, 1, 0, 0, 0, 0),
  (24, .getfield 25, 3, 0, 4, 0, 2004),
  (27, .getfield 59, 3, 0, 6, 0, 1182),
  (30, .aload_n 1, 1, 0, 0, 0, 0),
  (31, .getfield 63, 3, 0, 0, 0, 1119),
  (34, .aload_n 1, 1, 0, 0, 0, 0),
  (35, .getfield 66, 3, 0, 0, 1, 1122),
  (38, .iconst 0, 1, 20, 0, 0, 0),
  (39, .invokevirtual 69, 3, 3, 25, 0, 3182),
  (42, .istore_n 2, 1, 0, 0, 0, 0),
  (43, .aload_n 0, 1, 0, 0, 0, 0),
  (44, .getfield 18, 3, 0, 4, 2, 2007),
  (47, .iconst 0, 1, 20, 0, 0, 0),
  (48, .aload_n 1, 1, 0, 0, 0, 0),
  (49, .getfield 46, 3, 0, 0, 2, 1125),
  (52, .invokestatic 50, 3, 8, 0, 0, 3183),
  (55, .aload_n 1, 1, 0, 0, 0, 0),
  (56, .getfield 56, 3, 0, 0, 3, 1128),
  (59, .invokestatic 50, 3, 8, 0, 0, 3183),
  (62, .iadd, 1, 0, 0, 0, 0),
  (63, .iastore, 1, 0, 0, 0, 0),
  (64, .aload_n 0, 1, 0, 0, 0, 0),
  (65, .getfield 18, 3, 0, 4, 2, 2007),
  (68, .iconst 1, 1, 20, 1, 0, 0),
  (69, .aload_n 0, 1, 0, 0, 0, 0),
  (70, .getfield 25, 3, 0, 4, 0, 2004),
  (73, .getfield 59, 3, 0, 6, 0, 1182),
  (76, .iload_n 2, 1, 0, 0, 0, 0),
  (77, .aload_n 1, 1, 0, 0, 0, 0),
  (78, .getfield 63, 3, 0, 0, 0, 1119),
  (81, .aload_n 1, 1, 0, 0, 0, 0),
  (82, .getfield 66, 3, 0, 0, 1, 1122),
  (85, .invokevirtual 75, 3, 3, 24, 0, 3177),
  (88, .iastore, 1, 0, 0, 0, 0),
  (89, .aload_n 0, 1, 0, 0, 0, 0),
  (90, .getfield 18, 3, 0, 4, 2, 2007),
  (93, .iconst 2, 1, 20, 2, 0, 0),
  (94, .aload_n 1, 1, 0, 0, 0, 0),
  (95, .getfield 90, 3, 0, 0, 4, 1132),
  (98, .iastore, 1, 0, 0, 0, 0),
  (99, .aload_n 0, 1, 0, 0, 0, 0),
  (100, .getfield 25, 3, 0, 4, 0, 2004),
  (103, .getfield 134, 3, 0, 6, 4, 1191),
  (106, .aload_n 0, 1, 0, 0, 0, 0),
  (107, .getfield 18, 3, 0, 4, 2, 2007),
  (110, .aload_n 0, 1, 0, 0, 0, 0),
  (111, .getfield 22, 3, 0, 4, 3, 2008),
  (114, .invokevirtual 130, 3, 3, 57, 0, 2180),
  (117, .iconst 0, 1, 20, 0, 0, 0),
  (118, .bipush 99, 2, 20, 99, 0, 0),
  (120, .invokestatic 118, 3, 4, 122, 0, 2188),
  (123, .ireturn, 1, 0, 0, 0, 0)]
/-- ThreeMagnets$Runner.rubOf(LThreeMagnets$Bob;)I -/
def mz_r43 : mz_R := (4, yX4_rubOf, cX4_rubOf, 3, (some .int), false, 2, mz_k43)
def mz_k44 : mz_K := [
  (0, .aload_n 0, 1, 0, 0, 0, 0),
  (1, .getfield 25, 3, 0, 4, 0, 2004),
  (4, .getfield 137, 3, 0, 6, 7, 1197),
  (7, .astore_n 3, 1, 0, 0, 0, 0),
  (8, .aload_n 0, 1, 0, 0, 0, 0),
  (9, .getfield 18, 3, 0, 4, 2, 2007),
  (12, .iconst 0, 1, 20, 0, 0, 0),
  (13, .aload_n 3, 1, 0, 0, 0, 0),
  (14, .iload_n 1, 1, 0, 0, 0, 0),
  (15, .iload_n 2, 1, 0, 0, 0, 0),
  (16, .invokevirtual 141, 3, 3, 7, 0, 4107),
  (19, .iastore, 1, 0, 0, 0, 0),
  (20, .aload_n 0, 1, 0, 0, 0, 0),
  (21, .getfield 18, 3, 0, 4, 2, 2007),
  (24, .iconst 1, 1, 20, 1, 0, 0),
  (25, .aload_n 3, 1, 0, 0, 0, 0),
  (26, .iload_n 1, 1, 0, 0, 0, 0),
  (27, .iload_n 2, 1, 0, 0, 0, 0),
  (28, .invokevirtual 146, 3, 3, 8, 0, 4108),
  (31, .iastore, 1, 0, 0, 0, 0),
  (32, .aload_n 0, 1, 0, 0, 0, 0),
  (33, .getfield 18, 3, 0, 4, 2, 2007),
  (36, .iconst 2, 1, 20, 2, 0, 0),
  (37, .aload_n 3, 1, 0, 0, 0, 0),
  (38, .getfield 149, 3, 0, 1, 0, 1151),
  (41, .iload_n 1, 1, 0, 0, 0, 0),
  (42, .aload_n 3, 1, 0, 0, 0, 0),
  (43, .getfield 150, 3, 0, 1, 4, 1161),
  (46, .imul, 1, 0, 0, 0, 0),
  (47, .iadd, 1, 0, 0, 0, 0),
  (48, .iastore, 1, 0, 0, 0, 0),
  (49, .aload_n 0, 1, 0, 0, 0, 0),
  (50, .getfield 18, 3, 0, 4, 2, 2007),
  (53, .iconst 3, 1, 20, 3, 0, 0),
  (54, .aload_n 3, 1, 0, 0, 0, 0),
  (55, .getfield 152, 3, 0, 1, 1, 1154),
  (58, .iload_n 2, 1, 0, 0, 0, 0),
  (59, .aload_n 3, 1, 0, 0, 0, 0),
  (60, .getfield 150, 3, 0, 1, 4, 1161),
  (63, .imul, 1, 0, 0, 0, 0),
  (64, .iadd, 1, 0, 0, 0, 0),
  (65, .iastore, 1, 0, 0, 0, 0),
  (66, .aload_n 0, 1, 0, 0, 0, 0),
  (67, .getfield 18, 3, 0, 4, 2, 2007),
  (70, .iconst 4, 1, 20, 4, 0, 0),
  (71, .aload_n 3, 1, 0, 0, 0, 0),
  (72, .iload_n 1, 1, 0, 0, 0, 0),
  (73, .iload_n 2, 1, 0, 0, 0, 0),
  (74, .invokevirtual 153, 3, 3, 12, 0, 4109),
  (77, .ifCond .eq 7, 3, 0, 0, 0, 0),
  (80, .iconst 1, 1, 20, 1, 0, 0),
  (81, .goto 4, 3, 0, 0, 0, 0),
  (84, .iconst 0, 1, 20, 0, 0, 0),
  (85, .iastore, 1, 0, 0, 0, 0),
  (86, .aload_n 0, 1, 0, 0, 0, 0),
  (87, .getfield 25, 3, 0, 4, 0, 2004),
  (90, .getfield 157, 3, 0, 6, 5, 1193),
  (93, .aload_n 0, 1, 0, 0, 0, 0),
  (94, .getfield 18, 3, 0, 4, 2, 2007),
  (97, .aload_n 0, 1, 0, 0, 0, 0),
  (98, .getfield 22, 3, 0, 4, 3, 2008),
  (101, .invokevirtual 130, 3, 3, 57, 0, 2180),
  (104, .ireturn, 1, 0, 0, 0, 0)]
/-- ThreeMagnets$Runner.wantOf(II)I -/
def mz_r44 : mz_R := (4, yX4_wantOf, cX4_wantOf, 4, (some .int), false, 3, mz_k44)
def mz_k45 : mz_K := [
  (0, .iload_n 1, 1, 0, 0, 0, 0),
  (1, .ifCond .lt 12, 3, 0, 0, 0, 0),
  (4, .iload_n 1, 1, 0, 0, 0, 0),
  (5, .iconst 4, 1, 20, 4, 0, 0),
  (6, .if_icmp .ge 7, 3, 0, 0, 0, 0),
  (9, .iconst 1, 1, 20, 1, 0, 0),
  (10, .goto 4, 3, 0, 0, 0, 0),
  (13, .iconst 0, 1, 20, 0, 0, 0),
  (14, .ireturn, 1, 0, 0, 0, 0)]
/-- ThreeMagnets$Sheets.has(I)Z -/
def mz_r45 : mz_R := (5, yX5_has, cX5_has, 2, (some .boolean), false, 2, mz_k45)
def mz_k46 : mz_K := [
  (0, .aload_n 0, 1, 0, 0, 0, 0),
  (1, .iload_n 1, 1, 0, 0, 0, 0),
  (2, .invokevirtual 21, 3, 3, 45, 0, 4184),
  (5, .ifCond .eq 12, 3, 0, 0, 0, 0),
  (8, .aload_n 0, 1, 0, 0, 0, 0),
  (9, .getfield 9, 3, 0, 5, 0, 2085),
  (12, .iload_n 1, 1, 0, 0, 0, 0),
  (13, .iaload, 1, 0, 0, 0, 0),
  (14, .ifCond .ne 7, 3, 0, 0, 0, 0),
  (17, .iconst 1, 1, 20, 1, 0, 0),
  (18, .goto 4, 3, 0, 0, 0, 0),
  (21, .iconst 0, 1, 20, 0, 0, 0),
  (22, .ireturn, 1, 0, 0, 0, 0)]
/-- ThreeMagnets$Sheets.lacks(I)Z -/
def mz_r46 : mz_R := (5, yX5_lacks, cX5_lacks, 2, (some .boolean), false, 2, mz_k46)
def mz_k47 : mz_K := [
  (0, .aload_n 0, 1, 0, 0, 0, 0),
  (1, .iload_n 1, 1, 0, 0, 0, 0),
  (2, .invokevirtual 21, 3, 3, 45, 0, 4184),
  (5, .ifCond .eq 56, 3, 0, 0, 0, 0),
  (8, .iload_n 3, 1, 0, 0, 0, 0),
  (9, .iconst 0, 1, 20, 0, 0, 0),
  (10, .bipush 24, 2, 20, 24, 0, 0),
  (12, .invokestatic 25, 3, 4, 121, 0, 4185),
  (15, .ifCond .eq 46, 3, 0, 0, 0, 0),
  (18, .aload_n 0, 1, 0, 0, 0, 0),
  (19, .getfield 9, 3, 0, 5, 0, 2085),
  (22, .iload_n 1, 1, 0, 0, 0, 0),
  (23, .iload_n 2, 1, 0, 0, 0, 0),
  (24, .iastore, 1, 0, 0, 0, 0),
  (25, .aload_n 0, 1, 0, 0, 0, 0),
  (26, .getfield 15, 3, 0, 5, 1, 2087),
  (29, .iload_n 1, 1, 0, 0, 0, 0),
  (30, .iload_n 3, 1, 0, 0, 0, 0),
  (31, .iastore, 1, 0, 0, 0, 0),
  (32, .iconst 0, 1, 20, 0, 0, 0),
  (33, .istore 4, 2, 0, 0, 0, 0),
  (35, .iload 4, 2, 0, 0, 0, 0),
  (37, .bipush 24, 2, 20, 24, 0, 0),
  (39, .if_icmp .ge 22, 3, 0, 0, 0, 0),
  (42, .aload_n 0, 1, 0, 0, 0, 0),
  (43, .getfield 18, 3, 0, 5, 2, 2089),
  (46, .iload_n 1, 1, 0, 0, 0, 0),
  (47, .bipush 24, 2, 20, 24, 0, 0),
  (49, .imul, 1, 0, 0, 0, 0),
  (50, .iload 4, 2, 0, 0, 0, 0),
  (52, .iadd, 1, 0, 0, 0, 0),
  (53, .iconst 0, 1, 20, 0, 0, 0),
  (54, .iastore, 1, 0, 0, 0, 0),
  (55, .iinc 4 1, 3, 20, 1, 0, 0),
  (58, .goto (-23), 3, 0, 0, 0, 0),
  (61, .return_, 1, 0, 0, 0, 0)]
/-- ThreeMagnets$Sheets.lay(III)V -/
def mz_r47 : mz_R := (5, yX5_lay, cX5_lay, 5, none, false, 4, mz_k47)
def mz_k48 : mz_K := [
  (0, .aload_n 0, 1, 0, 0, 0, 0),
  (1, .iload_n 1, 1, 0, 0, 0, 0),
  (2, .invokevirtual 21, 3, 3, 45, 0, 4184),
  (5, .ifCond .eq 37, 3, 0, 0, 0, 0),
  (8, .iload_n 3, 1, 0, 0, 0, 0),
  (9, .ifCond .lt 33, 3, 0, 0, 0, 0),
  (12, .iload_n 2, 1, 0, 0, 0, 0),
  (13, .ifCond .lt 29, 3, 0, 0, 0, 0),
  (16, .iload_n 3, 1, 0, 0, 0, 0),
  (17, .aload_n 0, 1, 0, 0, 0, 0),
  (18, .getfield 15, 3, 0, 5, 1, 2087),
  (21, .iload_n 1, 1, 0, 0, 0, 0),
  (22, .iaload, 1, 0, 0, 0, 0),
  (23, .if_icmp .gt 19, 3, 0, 0, 0, 0),
  (26, .iload_n 2, 1, 0, 0, 0, 0),
  (27, .aload_n 0, 1, 0, 0, 0, 0),
  (28, .getfield 15, 3, 0, 5, 1, 2087),
  (31, .iload_n 1, 1, 0, 0, 0, 0),
  (32, .iaload, 1, 0, 0, 0, 0),
  (33, .iload_n 3, 1, 0, 0, 0, 0),
  (34, .isub, 1, 0, 0, 0, 0),
  (35, .if_icmp .gt 7, 3, 0, 0, 0, 0),
  (38, .iconst 1, 1, 20, 1, 0, 0),
  (39, .goto 4, 3, 0, 0, 0, 0),
  (42, .iconst 0, 1, 20, 0, 0, 0),
  (43, .ireturn, 1, 0, 0, 0, 0)]
/-- ThreeMagnets$Sheets.stand(III)Z -/
def mz_r48 : mz_R := (5, yX5_stand, cX5_stand, 4, (some .boolean), false, 4, mz_k48)
def mz_k49 : mz_K := [
  (0, .aload_n 0, 1, 0, 0, 0, 0),
  (1, .iload_n 1, 1, 0, 0, 0, 0),
  (2, .iload_n 2, 1, 0, 0, 0, 0),
  (3, .iconst 1, 1, 20, 1, 0, 0),
  (4, .invokevirtual 29, 3, 3, 48, 0, 4198),
  (7, .ifCond .eq 17, 3, 0, 0, 0, 0),
  (10, .aload_n 0, 1, 0, 0, 0, 0),
  (11, .getfield 18, 3, 0, 5, 2, 2089),
  (14, .iload_n 1, 1, 0, 0, 0, 0),
  (15, .bipush 24, 2, 20, 24, 0, 0),
  (17, .imul, 1, 0, 0, 0, 0),
  (18, .iload_n 2, 1, 0, 0, 0, 0),
  (19, .iadd, 1, 0, 0, 0, 0),
  (20, .iaload, 1, 0, 0, 0, 0),
  (21, .goto 4, 3, 0, 0, 0, 0),
  (24, .iconst 0, 1, 20, 0, 0, 0),
  (25, .ireturn, 1, 0, 0, 0, 0)]
/-- ThreeMagnets$Sheets.number(II)I -/
def mz_r49 : mz_R := (5, yX5_number, cX5_number, 3, (some .int), false, 3, mz_k49)
def mz_k50 : mz_K := [
  (0, .aload_n 0, 1, 0, 0, 0, 0),
  (1, .iload_n 1, 1, 0, 0, 0, 0),
  (2, .iload_n 2, 1, 0, 0, 0, 0),
  (3, .iconst 1, 1, 20, 1, 0, 0),
  (4, .invokevirtual 29, 3, 3, 48, 0, 4198),
  (7, .ifCond .eq 47, 3, 0, 0, 0, 0),
  (10, .aload_n 0, 1, 0, 0, 0, 0),
  (11, .getfield 9, 3, 0, 5, 0, 2085),
  (14, .iload_n 1, 1, 0, 0, 0, 0),
  (15, .iaload, 1, 0, 0, 0, 0),
  (16, .istore 4, 2, 0, 0, 0, 0),
  (18, .aload_n 0, 1, 0, 0, 0, 0),
  (19, .getfield 18, 3, 0, 5, 2, 2089),
  (22, .iload_n 1, 1, 0, 0, 0, 0),
  (23, .bipush 24, 2, 20, 24, 0, 0),
  (25, .imul, 1, 0, 0, 0, 0),
  (26, .iload_n 2, 1, 0, 0, 0, 0),
  (27, .iadd, 1, 0, 0, 0, 0),
  (28, .iload 4, 2, 0, 0, 0, 0),
  (30, .bipush 8, 2, 20, 8, 0, 0),
  (32, .if_icmp .ne 8, 3, 0, 0, 0, 0),
  (35, .iload_n 3, 1, 0, 0, 0, 0),
  (36, .i2b, 1, 0, 0, 0, 0),
  (37, .goto 16, 3, 0, 0, 0, 0),
  (40, .iload 4, 2, 0, 0, 0, 0),
  (42, .bipush 16, 2, 20, 16, 0, 0),
  (44, .if_icmp .ne 8, 3, 0, 0, 0, 0),
  (47, .iload_n 3, 1, 0, 0, 0, 0),
  (48, .i2s, 1, 0, 0, 0, 0),
  (49, .goto 4, 3, 0, 0, 0, 0),
  (52, .iload_n 3, 1, 0, 0, 0, 0),
  (53, .iastore, 1, 0, 0, 0, 0),
  (54, .return_, 1, 0, 0, 0, 0)]
/-- ThreeMagnets$Sheets.write(III)V -/
def mz_r50 : mz_R := (5, yX5_write, cX5_write, 5, none, false, 4, mz_k50)
def mz_k51 : mz_K := [
  (0, .aload_n 0, 1, 0, 0, 0, 0),
  (1, .iload_n 1, 1, 0, 0, 0, 0),
  (2, .iload_n 2, 1, 0, 0, 0, 0),
  (3, .iload 5, 2, 0, 0, 0, 0),
  (5, .invokevirtual 29, 3, 3, 48, 0, 4198),
  (8, .ifCond .eq 41, 3, 0, 0, 0, 0),
  (11, .aload_n 0, 1, 0, 0, 0, 0),
  (12, .iload_n 3, 1, 0, 0, 0, 0),
  (13, .iload 4, 2, 0, 0, 0, 0),
  (15, .iload 5, 2, 0, 0, 0, 0),
  (17, .invokevirtual 29, 3, 3, 48, 0, 4198),
  (20, .ifCond .eq 29, 3, 0, 0, 0, 0),
  (23, .aload_n 0, 1, 0, 0, 0, 0),
  (24, .getfield 18, 3, 0, 5, 2, 2089),
  (27, .iload_n 1, 1, 0, 0, 0, 0),
  (28, .bipush 24, 2, 20, 24, 0, 0),
  (30, .imul, 1, 0, 0, 0, 0),
  (31, .iload_n 2, 1, 0, 0, 0, 0),
  (32, .iadd, 1, 0, 0, 0, 0),
  (33, .aload_n 0, 1, 0, 0, 0, 0),
  (34, .getfield 18, 3, 0, 5, 2, 2089),
  (37, .iload_n 3, 1, 0, 0, 0, 0),
  (38, .bipush 24, 2, 20, 24, 0, 0),
  (40, .imul, 1, 0, 0, 0, 0),
  (41, .iload 4, 2, 0, 0, 0, 0),
  (43, .iadd, 1, 0, 0, 0, 0),
  (44, .iload 5, 2, 0, 0, 0, 0),
  (46, .invokestatic 32, 3, 11, 0, 0, 4211),
  (49, .return_, 1, 0, 0, 0, 0)]
/-- ThreeMagnets$Sheets.carry(IIIII)V -/
def mz_r51 : mz_R := (5, yX5_carry, cX5_carry, 6, none, false, 6, mz_k51)
def mz_k52 : mz_K := [
  (0, .iload_n 1, 1, 0, 0, 0, 0),
  (1, .ifCond .ne 10, 3, 0, 0, 0, 0),
  (4, .aload_n 0, 1, 0, 0, 0, 0),
  (5, .getfield 40, 3, 0, 6, 3, 1188),
  (8, .goto 19, 3, 0, 0, 0, 0),
  (11, .iload_n 1, 1, 0, 0, 0, 0),
  (12, .iconst 1, 1, 20, 1, 0, 0),
  (13, .if_icmp .ne 10, 3, 0, 0, 0, 0),
  (16, .aload_n 0, 1, 0, 0, 0, 0),
  (17, .getfield 44, 3, 0, 6, 4, 1190),
  (20, .goto 7, 3, 0, 0, 0, 0),
  (23, .aload_n 0, 1, 0, 0, 0, 0),
  (24, .getfield 47, 3, 0, 6, 5, 1192),
  (27, .areturn, 1, 0, 0, 0, 0)]
/-- ThreeMagnets$State.textOf(I)LThreeMagnets$Text; -/
def mz_r52 : mz_R := (6, yX6_textOf, cX6_textOf, 2, (some (.object "ThreeMagnets$Text")), false, 2, mz_k52)
def mz_k53 : mz_K := [
  (0, .aload_n 0, 1, 0, 0, 0, 0),
  (1, .getfield 12, 3, 0, 6, 0, 1180),
  (4, .aload_n 1, 1, 0, 0, 0, 0),
  (5, .getfield 12, 3, 0, 6, 0, 1180),
  (8, .invokevirtual 81, 3, 3, 27, 0, 4232),
  (11, .aload_n 1, 1, 0, 0, 0, 0),
  (12, .getfield 27, 3, 0, 6, 1, 1183),
  (15, .aload_n 0, 1, 0, 0, 0, 0),
  (16, .getfield 27, 3, 0, 6, 1, 1183),
  (19, .invokestatic 85, 3, 4, 126, 0, 4237),
  (22, .aload_n 0, 1, 0, 0, 0, 0),
  (23, .getfield 33, 3, 0, 6, 2, 1186),
  (26, .aload_n 1, 1, 0, 0, 0, 0),
  (27, .getfield 33, 3, 0, 6, 2, 1186),
  (30, .invokevirtual 89, 3, 3, 55, 0, 4238),
  (33, .aload_n 0, 1, 0, 0, 0, 0),
  (34, .getfield 40, 3, 0, 6, 3, 1188),
  (37, .aload_n 1, 1, 0, 0, 0, 0),
  (38, .getfield 40, 3, 0, 6, 3, 1188),
  (41, .invokevirtual 92, 3, 3, 59, 0, 5003),
  (44, .aload_n 0, 1, 0, 0, 0, 0),
  (45, .getfield 44, 3, 0, 6, 4, 1190),
  (48, .aload_n 1, 1, 0, 0, 0, 0),
  (49, .getfield 44, 3, 0, 6, 4, 1190),
  (52, .invokevirtual 92, 3, 3, 59, 0, 5003),
  (55, .aload_n 0, 1, 0, 0, 0, 0),
  (56, .getfield 47, 3, 0, 6, 5, 1192),
  (59, .aload_n 1, 1, 0, 0, 0, 0),
  (60, .getfield 47, 3, 0, 6, 5, 1192),
  (63, .invokevirtual 92, 3, 3, 59, 0, 5003),
  (66, .aload_n 0, 1, 0, 0, 0, 0),
  (67, .getfield 53, 3, 0, 6, 6, 1194),
  (70, .aload_n 1, 1, 0, 0, 0, 0),
  (71, .getfield 53, 3, 0, 6, 6, 1194),
  (74, .invokevirtual 95, 3, 3, 1, 0, 5004),
  (77, .aload_n 0, 1, 0, 0, 0, 0),
  (78, .getfield 60, 3, 0, 6, 7, 1196),
  (81, .aload_n 1, 1, 0, 0, 0, 0),
  (82, .getfield 60, 3, 0, 6, 7, 1196),
  (85, .invokevirtual 98, 3, 3, 20, 0, 5008),
  (88, .aload_n 1, 1, 0, 0, 0, 0),
  (89, .getfield 64, 3, 0, 6, 8, 1199),
  (92, .aload_n 0, 1, 0, 0, 0, 0),
  (93, .getfield 64, 3, 0, 6, 8, 1199),
  (96, .invokestatic 85, 3, 4, 126, 0, 4237),
  (99, .aload_n 0, 1, 0, 0, 0, 0),
  (100, .aload_n 1, 1, 0, 0, 0, 0),
  (101, .getfield 67, 3, 0, 6, 9, 1201),
  (104, .putfield 67, 3, 0, 6, 9, 1201),
  (107, .aload_n 1, 1, 0, 0, 0, 0),
  (108, .getfield 71, 3, 0, 6, 10, 1203),
  (111, .aload_n 0, 1, 0, 0, 0, 0),
  (112, .getfield 71, 3, 0, 6, 10, 1203),
  (115, .invokestatic 85, 3, 4, 126, 0, 4237),
  (118, .aload_n 0, 1, 0, 0, 0, 0),
  (119, .aload_n 1, 1, 0, 0, 0, 0),
  (120, .getfield 74, 3, 0, 6, 11, 1205),
  (123, .putfield 74, 3, 0, 6, 11, 1205),
  (126, .aload_n 0, 1, 0, 0, 0, 0),
  (127, .aload_n 1, 1, 0, 0, 0, 0),
  (128, .getfield 78, 3, 0, 6, 12, 1207),
  (131, .putfield 78, 3, 0, 6, 12, 1207),
  (134, .return_, 1, 0, 0, 0, 0)]
/-- ThreeMagnets$State.takeFrom(LThreeMagnets$State;)V -/
def mz_r53 : mz_R := (6, yX6_takeFrom, cX6_takeFrom, 2, none, false, 2, mz_k53)
def mz_k54 : mz_K := [
  (0, .iload_n 1, 1, 0, 0, 0, 0),
  (1, .ifCond .lt 26, 3, 0, 0, 0, 0),
  (4, .iload_n 1, 1, 0, 0, 0, 0),
  (5, .aload_n 0, 1, 0, 0, 0, 0),
  (6, .getfield 15, 3, 0, 7, 1, 1085),
  (9, .if_icmp .ge 18, 3, 0, 0, 0, 0),
  (12, .iload_n 1, 1, 0, 0, 0, 0),
  (13, .bipush 60, 2, 20, 60, 0, 0),
  (15, .if_icmp .ge 12, 3, 0, 0, 0, 0),
  (18, .aload_n 0, 1, 0, 0, 0, 0),
  (19, .getfield 9, 3, 0, 7, 0, 1083),
  (22, .iload_n 1, 1, 0, 0, 0, 0),
  (23, .iaload, 1, 0, 0, 0, 0),
  (24, .goto 4, 3, 0, 0, 0, 0),
  (27, .iconst (-1), 1, 21, 1, 0, 0),
  (28, .ireturn, 1, 0, 0, 0, 0)]
/-- ThreeMagnets$Tape.at(I)I -/
def mz_r54 : mz_R := (7, yX7_at, cX7_at, 2, (some .int), false, 2, mz_k54)
def mz_k55 : mz_K := [
  (0, .aload_n 1, 1, 0, 0, 0, 0),
  (1, .getfield 9, 3, 0, 7, 0, 1083),
  (4, .aload_n 0, 1, 0, 0, 0, 0),
  (5, .getfield 9, 3, 0, 7, 0, 1083),
  (8, .invokestatic 19, 3, 4, 126, 0, 5002),
  (11, .aload_n 0, 1, 0, 0, 0, 0),
  (12, .aload_n 1, 1, 0, 0, 0, 0),
  (13, .getfield 15, 3, 0, 7, 1, 1085),
  (16, .putfield 15, 3, 0, 7, 1, 1085),
  (19, .return_, 1, 0, 0, 0, 0)]
/-- ThreeMagnets$Tape.takeFrom(LThreeMagnets$Tape;)V -/
def mz_r55 : mz_R := (7, yX7_takeFrom, cX7_takeFrom, 2, none, false, 2, mz_k55)
def mz_k56 : mz_K := [
  (0, .aload_n 0, 1, 0, 0, 0, 0),
  (1, .getfield 18, 3, 0, 8, 2, 1101),
  (4, .ifCond .lt 42, 3, 0, 0, 0, 0),
  (7, .aload_n 0, 1, 0, 0, 0, 0),
  (8, .getfield 18, 3, 0, 8, 2, 1101),
  (11, .bipush 60, 2, 20, 60, 0, 0),
  (13, .if_icmp .ge 33, 3, 0, 0, 0, 0),
  (16, .aload_n 0, 1, 0, 0, 0, 0),
  (17, .getfield 9, 3, 0, 8, 0, 1099),
  (20, .aload_n 0, 1, 0, 0, 0, 0),
  (21, .getfield 18, 3, 0, 8, 2, 1101),
  (24, .iload_n 1, 1, 0, 0, 0, 0),
  (25, .iastore, 1, 0, 0, 0, 0),
  (26, .aload_n 0, 1, 0, 0, 0, 0),
  (27, .getfield 15, 3, 0, 8, 1, 1100),
  (30, .aload_n 0, 1, 0, 0, 0, 0),
  (31, .getfield 18, 3, 0, 8, 2, 1101),
  (34, .iload_n 2, 1, 0, 0, 0, 0),
  (35, .iastore, 1, 0, 0, 0, 0),
  (36, .aload_n 0, 1, 0, 0, 0, 0),
  (37, .dup, 1, 0, 0, 0, 0),
  (38, .getfield 18, 3, 0, 8, 2, 1101),
  (41, .iconst 1, 1, 20, 1, 0, 0),
  (42, .iadd, 1, 0, 0, 0, 0),
  (43, .putfield 18, 3, 0, 8, 2, 1101),
  (46, .return_, 1, 0, 0, 0, 0)]
/-- ThreeMagnets$Text.add(II)V -/
def mz_r56 : mz_R := (8, yX8_add, cX8_add, 3, none, false, 3, mz_k56)
def mz_k57 : mz_K := [
  (0, .iconst (-1), 1, 21, 1, 0, 0),
  (1, .istore_n 3, 1, 0, 0, 0, 0),
  (2, .iconst 0, 1, 20, 0, 0, 0),
  (3, .istore 4, 2, 0, 0, 0, 0),
  (5, .iload 4, 2, 0, 0, 0, 0),
  (7, .aload_n 0, 1, 0, 0, 0, 0),
  (8, .getfield 18, 3, 0, 8, 2, 1101),
  (11, .if_icmp .ge 147, 3, 0, 0, 0, 0),
  (14, .iload 4, 2, 0, 0, 0, 0),
  (16, .bipush 60, 2, 20, 60, 0, 0),
  (18, .if_icmp .ge 140, 3, 0, 0, 0, 0),
  (21, .aload_n 0, 1, 0, 0, 0, 0),
  (22, .getfield 9, 3, 0, 8, 0, 1099),
  (25, .iload 4, 2, 0, 0, 0, 0),
  (27, .iaload, 1, 0, 0, 0, 0),
  (28, .istore 5, 2, 0, 0, 0, 0),
  (30, .aload_n 0, 1, 0, 0, 0, 0),
  (31, .getfield 15, 3, 0, 8, 1, 1100),
  (34, .iload 4, 2, 0, 0, 0, 0),
  (36, .iaload, 1, 0, 0, 0, 0),
  (37, .istore 6, 2, 0, 0, 0, 0),
  (39, .iload 5, 2, 0, 0, 0, 0),
  (41, .ifCond .eq 9, 3, 0, 0, 0, 0),
  (44, .iload 5, 2, 0, 0, 0, 0),
  (46, .iconst 1, 1, 20, 1, 0, 0),
  (47, .if_icmp .ne 51, 3, 0, 0, 0, 0),
  (50, .iload_n 3, 1, 0, 0, 0, 0),
  (51, .iconst 1, 1, 20, 1, 0, 0),
  (52, .iadd, 1, 0, 0, 0, 0),
  (53, .aload_n 2, 1, 0, 0, 0, 0),
  (54, .arraylength, 1, 0, 0, 0, 0),
  (55, .if_icmp .ge 97, 3, 0, 0, 0, 0),
  (58, .iinc 3 1, 3, 20, 1, 0, 0),
  (61, .aload_n 2, 1, 0, 0, 0, 0),
  (62, .iload_n 3, 1, 0, 0, 0, 0),
  (63, .iload 5, 2, 0, 0, 0, 0),
  (65, .ifCond .ne 8, 3, 0, 0, 0, 0),
  (68, .iload 6, 2, 0, 0, 0, 0),
  (70, .goto 24, 3, 0, 0, 0, 0),
  (73, .iload 6, 2, 0, 0, 0, 0),
  (75, .iconst 0, 1, 20, 0, 0, 0),
  (76, .aload_n 1, 1, 0, 0, 0, 0),
  (77, .arraylength, 1, 0, 0, 0, 0),
  (78, .iconst 1, 1, 20, 1, 0, 0),
  (79, .isub, 1, 0, 0, 0, 0),
  (80, .invokestatic 22, 3, 4, 121, 0, 2184),
  (83, .ifCond .eq 10, 3, 0, 0, 0, 0),
  (86, .aload_n 1, 1, 0, 0, 0, 0),
  (87, .iload 6, 2, 0, 0, 0, 0),
  (89, .iaload, 1, 0, 0, 0, 0),
  (90, .goto 4, 3, 0, 0, 0, 0),
  (93, .iconst 0, 1, 20, 0, 0, 0),
  (94, .iastore, 1, 0, 0, 0, 0),
  (95, .goto 57, 3, 0, 0, 0, 0),
  (98, .iload 5, 2, 0, 0, 0, 0),
  (100, .bipush 33, 2, 20, 33, 0, 0),
  (102, .if_icmp .ne 24, 3, 0, 0, 0, 0),
  (105, .iload_n 3, 1, 0, 0, 0, 0),
  (106, .ifCond .lt 46, 3, 0, 0, 0, 0),
  (109, .aload_n 2, 1, 0, 0, 0, 0),
  (110, .iload_n 3, 1, 0, 0, 0, 0),
  (111, .aload_n 2, 1, 0, 0, 0, 0),
  (112, .iload_n 3, 1, 0, 0, 0, 0),
  (113, .iaload, 1, 0, 0, 0, 0),
  (114, .ifCond .ne 7, 3, 0, 0, 0, 0),
  (117, .iconst 1, 1, 20, 1, 0, 0),
  (118, .goto 4, 3, 0, 0, 0, 0),
  (121, .iconst 0, 1, 20, 0, 0, 0),
  (122, .iastore, 1, 0, 0, 0, 0),
  (123, .goto 29, 3, 0, 0, 0, 0),
  (126, .iload_n 3, 1, 0, 0, 0, 0),
  (127, .iconst 1, 1, 20, 1, 0, 0),
  (128, .if_icmp .lt 24, 3, 0, 0, 0, 0),
  (131, .aload_n 2, 1, 0, 0, 0, 0),
  (132, .iload_n 3, 1, 0, 0, 0, 0),
  (133, .iconst 1, 1, 20, 1, 0, 0),
  (134, .isub, 1, 0, 0, 0, 0),
  (135, .iload 5, 2, 0, 0, 0, 0),
  (137, .aload_n 2, 1, 0, 0, 0, 0),
  (138, .iload_n 3, 1, 0, 0, 0, 0),
  (139, .iconst 1, 1, 20, 1, 0, 0),
  (140, .isub, 1, 0, 0, 0, 0),
  (141, .iaload, 1, 0, 0, 0, 0),
  (142, .aload_n 2, 1, 0, 0, 0, 0),
  (143, .iload_n 3, 1, 0, 0, 0, 0),
  (144, .iaload, 1, 0, 0, 0, 0),
  (145, .invokestatic 26, 3, 2, 58, 0, 2185),
  (148, .iastore, 1, 0, 0, 0, 0),
  (149, .iinc 3 (-1), 3, 21, 1, 0, 0),
  (152, .iinc 4 1, 3, 20, 1, 0, 0),
  (155, .goto (-150), 3, 0, 0, 0, 0),
  (158, .iload_n 3, 1, 0, 0, 0, 0),
  (159, .ifCond .lt 9, 3, 0, 0, 0, 0),
  (162, .aload_n 2, 1, 0, 0, 0, 0),
  (163, .iload_n 3, 1, 0, 0, 0, 0),
  (164, .iaload, 1, 0, 0, 0, 0),
  (165, .goto 4, 3, 0, 0, 0, 0),
  (168, .iconst 0, 1, 20, 0, 0, 0),
  (169, .ireturn, 1, 0, 0, 0, 0)]
/-- ThreeMagnets$Text.valueWith([I[I)I -/
def mz_r57 : mz_R := (8, yX8_valueWith, cX8_valueWith, 7, (some .int), false, 3, mz_k57)
def mz_k58 : mz_K := [
  (0, .iload_n 0, 1, 0, 0, 0, 0),
  (1, .lookupswitch 168 #[(38, 97), (42, 152), (43, 144), (45, 148), (47, 156), (60, 111), (61, 122), (62, 133), (124, 83)], 83, 0, 0, 0, 0),
  (84, .iload_n 1, 1, 0, 0, 0, 0),
  (85, .ifCond .ne 7, 3, 0, 0, 0, 0),
  (88, .iload_n 2, 1, 0, 0, 0, 0),
  (89, .ifCond .eq 7, 3, 0, 0, 0, 0),
  (92, .iconst 1, 1, 20, 1, 0, 0),
  (93, .goto 4, 3, 0, 0, 0, 0),
  (96, .iconst 0, 1, 20, 0, 0, 0),
  (97, .ireturn, 1, 0, 0, 0, 0),
  (98, .iload_n 1, 1, 0, 0, 0, 0),
  (99, .ifCond .eq 11, 3, 0, 0, 0, 0),
  (102, .iload_n 2, 1, 0, 0, 0, 0),
  (103, .ifCond .eq 7, 3, 0, 0, 0, 0),
  (106, .iconst 1, 1, 20, 1, 0, 0),
  (107, .goto 4, 3, 0, 0, 0, 0),
  (110, .iconst 0, 1, 20, 0, 0, 0),
  (111, .ireturn, 1, 0, 0, 0, 0),
  (112, .iload_n 1, 1, 0, 0, 0, 0),
  (113, .iload_n 2, 1, 0, 0, 0, 0),
  (114, .if_icmp .ge 7, 3, 0, 0, 0, 0),
  (117, .iconst 1, 1, 20, 1, 0, 0),
  (118, .goto 4, 3, 0, 0, 0, 0),
  (121, .iconst 0, 1, 20, 0, 0, 0),
  (122, .ireturn, 1, 0, 0, 0, 0),
  (123, .iload_n 1, 1, 0, 0, 0, 0),
  (124, .iload_n 2, 1, 0, 0, 0, 0),
  (125, .if_icmp .ne 7, 3, 0, 0, 0, 0),
  (128, .iconst 1, 1, 20, 1, 0, 0),
  (129, .goto 4, 3, 0, 0, 0, 0),
  (132, .iconst 0, 1, 20, 0, 0, 0),
  (133, .ireturn, 1, 0, 0, 0, 0),
  (134, .iload_n 1, 1, 0, 0, 0, 0),
  (135, .iload_n 2, 1, 0, 0, 0, 0),
  (136, .if_icmp .le 7, 3, 0, 0, 0, 0),
  (139, .iconst 1, 1, 20, 1, 0, 0),
  (140, .goto 4, 3, 0, 0, 0, 0),
  (143, .iconst 0, 1, 20, 0, 0, 0),
  (144, .ireturn, 1, 0, 0, 0, 0),
  (145, .iload_n 1, 1, 0, 0, 0, 0),
  (146, .iload_n 2, 1, 0, 0, 0, 0),
  (147, .iadd, 1, 0, 0, 0, 0),
  (148, .ireturn, 1, 0, 0, 0, 0),
  (149, .iload_n 1, 1, 0, 0, 0, 0),
  (150, .iload_n 2, 1, 0, 0, 0, 0),
  (151, .isub, 1, 0, 0, 0, 0),
  (152, .ireturn, 1, 0, 0, 0, 0),
  (153, .iload_n 1, 1, 0, 0, 0, 0),
  (154, .iload_n 2, 1, 0, 0, 0, 0),
  (155, .imul, 1, 0, 0, 0, 0),
  (156, .ireturn, 1, 0, 0, 0, 0),
  (157, .iload_n 2, 1, 0, 0, 0, 0),
  (158, .ifCond .ne 7, 3, 0, 0, 0, 0),
  (161, .iconst 0, 1, 20, 0, 0, 0),
  (162, .goto 6, 3, 0, 0, 0, 0),
  (165, .iload_n 1, 1, 0, 0, 0, 0),
  (166, .iload_n 2, 1, 0, 0, 0, 0),
  (167, .idiv, 1, 0, 0, 0, 0),
  (168, .ireturn, 1, 0, 0, 0, 0),
  (169, .iload_n 2, 1, 0, 0, 0, 0),
  (170, .ifCond .ne 7, 3, 0, 0, 0, 0),
  (173, .iconst 0, 1, 20, 0, 0, 0),
  (174, .goto 6, 3, 0, 0, 0, 0),
  (177, .iload_n 1, 1, 0, 0, 0, 0),
  (178, .iload_n 2, 1, 0, 0, 0, 0),
  (179, .irem, 1, 0, 0, 0, 0),
  (180, .ireturn, 1, 0, 0, 0, 0)]
/-- ThreeMagnets$Text.together(III)I -/
def mz_r58 : mz_R := (8, yX8_together, cX8_together, 3, (some .int), true, 3, mz_k58)
def mz_k59 : mz_K := [
  (0, .aload_n 1, 1, 0, 0, 0, 0),
  (1, .getfield 9, 3, 0, 8, 0, 1099),
  (4, .aload_n 0, 1, 0, 0, 0, 0),
  (5, .getfield 9, 3, 0, 8, 0, 1099),
  (8, .invokestatic 30, 3, 4, 126, 0, 3144),
  (11, .aload_n 1, 1, 0, 0, 0, 0),
  (12, .getfield 15, 3, 0, 8, 1, 1100),
  (15, .aload_n 0, 1, 0, 0, 0, 0),
  (16, .getfield 15, 3, 0, 8, 1, 1100),
  (19, .invokestatic 30, 3, 4, 126, 0, 3144),
  (22, .aload_n 0, 1, 0, 0, 0, 0),
  (23, .aload_n 1, 1, 0, 0, 0, 0),
  (24, .getfield 18, 3, 0, 8, 2, 1101),
  (27, .putfield 18, 3, 0, 8, 2, 1101),
  (30, .return_, 1, 0, 0, 0, 0)]
/-- ThreeMagnets$Text.takeFrom(LThreeMagnets$Text;)V -/
def mz_r59 : mz_R := (8, yX8_takeFrom, cX8_takeFrom, 2, none, false, 2, mz_k59)
def mz_k60 : mz_K := [
  (0, .aload_n 0, 1, 0, 0, 0, 0),
  (1, .iconst 0, 1, 20, 0, 0, 0),
  (2, .putfield 19, 3, 0, 9, 2, 2055),
  (5, .aload_n 0, 1, 0, 0, 0, 0),
  (6, .iconst 0, 1, 20, 0, 0, 0),
  (7, .putfield 26, 3, 0, 9, 4, 2058),
  (10, .aload_n 1, 1, 0, 0, 0, 0),
  (11, .iload_n 2, 1, 0, 0, 0, 0),
  (12, .invokevirtual 38, 3, 3, 21, 0, 4139),
  (15, .ifCond .ne 5, 3, 0, 0, 0, 0),
  (18, .iconst 0, 1, 20, 0, 0, 0),
  (19, .ireturn, 1, 0, 0, 0, 0),
  (20, .aload_n 0, 1, 0, 0, 0, 0),
  (21, .aload_n 1, 1, 0, 0, 0, 0),
  (22, .getfield 44, 3, 0, 2, 0, 1041),
  (25, .iload_n 2, 1, 0, 0, 0, 0),
  (26, .iaload, 1, 0, 0, 0, 0),
  (27, .putfield 29, 3, 0, 9, 5, 2059),
  (30, .aload_n 0, 1, 0, 0, 0, 0),
  (31, .iload_n 2, 1, 0, 0, 0, 0),
  (32, .putfield 32, 3, 0, 9, 6, 2060),
  (35, .aload_n 0, 1, 0, 0, 0, 0),
  (36, .aload_n 1, 1, 0, 0, 0, 0),
  (37, .getfield 47, 3, 0, 2, 3, 1051),
  (40, .iload_n 2, 1, 0, 0, 0, 0),
  (41, .iaload, 1, 0, 0, 0, 0),
  (42, .putfield 35, 3, 0, 9, 7, 2061),
  (45, .aload_n 0, 1, 0, 0, 0, 0),
  (46, .iload_n 3, 1, 0, 0, 0, 0),
  (47, .aload_n 0, 1, 0, 0, 0, 0),
  (48, .getfield 29, 3, 0, 9, 5, 2059),
  (51, .iload 4, 2, 0, 0, 0, 0),
  (53, .iconst 0, 1, 20, 0, 0, 0),
  (54, .invokevirtual 50, 3, 3, 62, 0, 4140),
  (57, .ireturn, 1, 0, 0, 0, 0)]
/-- ThreeMagnets$Voices.answerOf(LThreeMagnets$Plate;III)I -/
def mz_r60 : mz_R := (9, yX9_answerOf, cX9_answerOf, 5, (some .int), false, 5, mz_k60)
def mz_k61 : mz_K := [
  (0, .aload_n 0, 1, 0, 0, 0, 0),
  (1, .getfield 23, 3, 0, 9, 3, 2057),
  (4, .aload_n 0, 1, 0, 0, 0, 0),
  (5, .getfield 9, 3, 0, 9, 0, 2051),
  (8, .invokestatic 54, 3, 4, 126, 0, 4167),
  (11, .aload_n 0, 1, 0, 0, 0, 0),
  (12, .aload_n 0, 1, 0, 0, 0, 0),
  (13, .getfield 26, 3, 0, 9, 4, 2058),
  (16, .putfield 15, 3, 0, 9, 1, 2053),
  (19, .return_, 1, 0, 0, 0, 0)]
/-- ThreeMagnets$Voices.keepTrace()V -/
def mz_r61 : mz_R := (9, yX9_keepTrace, cX9_keepTrace, 1, none, false, 1, mz_k61)
def mz_k62 : mz_K := [
  (0, .iload_n 1, 1, 0, 0, 0, 0),
  (1, .iload_n 2, 1, 0, 0, 0, 0),
  (2, .invokestatic 58, 3, 2, 65, 0, 4144),
  (5, .istore 5, 2, 0, 0, 0, 0),
  (7, .iload 5, 2, 0, 0, 0, 0),
  (9, .ifCond .lt 10, 3, 0, 0, 0, 0),
  (12, .iload 4, 2, 0, 0, 0, 0),
  (14, .bipush 30, 2, 20, 30, 0, 0),
  (16, .if_icmp .le 5, 3, 0, 0, 0, 0),
  (19, .iconst 0, 1, 20, 0, 0, 0),
  (20, .ireturn, 1, 0, 0, 0, 0),
  (21, .iload_n 1, 1, 0, 0, 0, 0),
  (22, .iload 5, 2, 0, 0, 0, 0),
  (24, .invokestatic 62, 3, 2, 66, 0, 4148),
  (27, .istore 6, 2, 0, 0, 0, 0),
  (29, .aload_n 0, 1, 0, 0, 0, 0),
  (30, .getfield 26, 3, 0, 9, 4, 2058),
  (33, .bipush 30, 2, 20, 30, 0, 0),
  (35, .if_icmp .ge 24, 3, 0, 0, 0, 0),
  (38, .aload_n 0, 1, 0, 0, 0, 0),
  (39, .getfield 23, 3, 0, 9, 3, 2057),
  (42, .aload_n 0, 1, 0, 0, 0, 0),
  (43, .getfield 26, 3, 0, 9, 4, 2058),
  (46, .iload 6, 2, 0, 0, 0, 0),
  (48, .iastore, 1, 0, 0, 0, 0),
  (49, .aload_n 0, 1, 0, 0, 0, 0),
  (50, .dup, 1, 0, 0, 0, 0),
  (51, .getfield 26, 3, 0, 9, 4, 2058),
  (54, .iconst 1, 1, 20, 1, 0, 0),
  (55, .iadd, 1, 0, 0, 0, 0),
  (56, .putfield 26, 3, 0, 9, 4, 2058),
  (59, .aload_n 0, 1, 0, 0, 0, 0),
  (60, .iload 6, 2, 0, 0, 0, 0),
  (62, .getstatic 65, 3, 1, 0, 1, 4154),
  (65, .iload 5, 2, 0, 0, 0, 0),
  (67, .iaload, 1, 0, 0, 0, 0),
  (68, .iload_n 3, 1, 0, 0, 0, 0),
  (69, .iload 4, 2, 0, 0, 0, 0),
  (71, .iconst 1, 1, 20, 1, 0, 0),
  (72, .iadd, 1, 0, 0, 0, 0),
  (73, .invokevirtual 68, 3, 3, 63, 0, 4155),
  (76, .ireturn, 1, 0, 0, 0, 0)]
/-- ThreeMagnets$Voices.speak(IIII)I -/
def mz_r62 : mz_R := (9, yX9_speak, cX9_speak, 7, (some .int), false, 5, mz_k62)
def mz_k63 : mz_K := [
  (0, .iload_n 1, 1, 0, 0, 0, 0),
  (1, .lookupswitch 317 #[(10, 123), (11, 130), (12, 145), (13, 163), (20, 169), (21, 181), (30, 196), (31, 208), (40, 231), (50, 243), (51, 255), (60, 278), (61, 290), (70, 305)], 123, 0, 0, 0, 0),
  (124, .iload_n 3, 1, 0, 0, 0, 0),
  (125, .aload_n 0, 1, 0, 0, 0, 0),
  (126, .getfield 35, 3, 0, 9, 7, 2061),
  (129, .iadd, 1, 0, 0, 0, 0),
  (130, .ireturn, 1, 0, 0, 0, 0),
  (131, .aload_n 0, 1, 0, 0, 0, 0),
  (132, .iconst 0, 1, 20, 0, 0, 0),
  (133, .aload_n 0, 1, 0, 0, 0, 0),
  (134, .getfield 29, 3, 0, 9, 5, 2059),
  (137, .iload_n 3, 1, 0, 0, 0, 0),
  (138, .iload 4, 2, 0, 0, 0, 0),
  (140, .invokevirtual 50, 3, 3, 62, 0, 4140),
  (143, .iconst 2, 1, 20, 2, 0, 0),
  (144, .imul, 1, 0, 0, 0, 0),
  (145, .ireturn, 1, 0, 0, 0, 0),
  (146, .aload_n 0, 1, 0, 0, 0, 0),
  (147, .iconst 1, 1, 20, 1, 0, 0),
  (148, .aload_n 0, 1, 0, 0, 0, 0),
  (149, .getfield 29, 3, 0, 9, 5, 2059),
  (152, .iload_n 3, 1, 0, 0, 0, 0),
  (153, .iload 4, 2, 0, 0, 0, 0),
  (155, .invokevirtual 50, 3, 3, 62, 0, 4140),
  (158, .aload_n 0, 1, 0, 0, 0, 0),
  (159, .getfield 32, 3, 0, 9, 6, 2060),
  (162, .isub, 1, 0, 0, 0, 0),
  (163, .ireturn, 1, 0, 0, 0, 0),
  (164, .aload_n 0, 1, 0, 0, 0, 0),
  (165, .iload_n 3, 1, 0, 0, 0, 0),
  (166, .invokevirtual 71, 3, 3, 64, 0, 4159),
  (169, .ireturn, 1, 0, 0, 0, 0),
  (170, .aload_n 0, 1, 0, 0, 0, 0),
  (171, .iconst 0, 1, 20, 0, 0, 0),
  (172, .iload_n 2, 1, 0, 0, 0, 0),
  (173, .iload_n 3, 1, 0, 0, 0, 0),
  (174, .iload 4, 2, 0, 0, 0, 0),
  (176, .invokevirtual 50, 3, 3, 62, 0, 4140),
  (179, .iconst 1, 1, 20, 1, 0, 0),
  (180, .isub, 1, 0, 0, 0, 0),
  (181, .ireturn, 1, 0, 0, 0, 0),
  (182, .aload_n 0, 1, 0, 0, 0, 0),
  (183, .iconst 2, 1, 20, 2, 0, 0),
  (184, .iload_n 2, 1, 0, 0, 0, 0),
  (185, .iload_n 3, 1, 0, 0, 0, 0),
  (186, .iload 4, 2, 0, 0, 0, 0),
  (188, .invokevirtual 50, 3, 3, 62, 0, 4140),
  (191, .aload_n 0, 1, 0, 0, 0, 0),
  (192, .getfield 35, 3, 0, 9, 7, 2061),
  (195, .ixor, 1, 0, 0, 0, 0),
  (196, .ireturn, 1, 0, 0, 0, 0),
  (197, .iconst 0, 1, 20, 0, 0, 0),
  (198, .aload_n 0, 1, 0, 0, 0, 0),
  (199, .iconst 1, 1, 20, 1, 0, 0),
  (200, .iload_n 2, 1, 0, 0, 0, 0),
  (201, .iload_n 3, 1, 0, 0, 0, 0),
  (202, .iload 4, 2, 0, 0, 0, 0),
  (204, .invokevirtual 50, 3, 3, 62, 0, 4140),
  (207, .isub, 1, 0, 0, 0, 0),
  (208, .ireturn, 1, 0, 0, 0, 0),
  (209, .aload_n 0, 1, 0, 0, 0, 0),
  (210, .iconst 3, 1, 20, 3, 0, 0),
  (211, .iload_n 2, 1, 0, 0, 0, 0),
  (212, .iload_n 3, 1, 0, 0, 0, 0),
  (213, .iload 4, 2, 0, 0, 0, 0),
  (215, .invokevirtual 50, 3, 3, 62, 0, 4140),
  (218, .aload_n 0, 1, 0, 0, 0, 0),
  (219, .iconst 0, 1, 20, 0, 0, 0),
  (220, .aload_n 0, 1, 0, 0, 0, 0),
  (221, .getfield 29, 3, 0, 9, 5, 2059),
  (224, .iconst 1, 1, 20, 1, 0, 0),
  (225, .iload 4, 2, 0, 0, 0, 0),
  (227, .invokevirtual 50, 3, 3, 62, 0, 4140),
  (230, .iadd, 1, 0, 0, 0, 0),
  (231, .ireturn, 1, 0, 0, 0, 0),
  (232, .aload_n 0, 1, 0, 0, 0, 0),
  (233, .iconst 2, 1, 20, 2, 0, 0),
  (234, .iload_n 2, 1, 0, 0, 0, 0),
  (235, .iload_n 3, 1, 0, 0, 0, 0),
  (236, .iconst 2, 1, 20, 2, 0, 0),
  (237, .iadd, 1, 0, 0, 0, 0),
  (238, .iload 4, 2, 0, 0, 0, 0),
  (240, .invokevirtual 50, 3, 3, 62, 0, 4140),
  (243, .ireturn, 1, 0, 0, 0, 0),
  (244, .aload_n 0, 1, 0, 0, 0, 0),
  (245, .iconst 0, 1, 20, 0, 0, 0),
  (246, .iload_n 2, 1, 0, 0, 0, 0),
  (247, .iload_n 3, 1, 0, 0, 0, 0),
  (248, .iconst 2, 1, 20, 2, 0, 0),
  (249, .idiv, 1, 0, 0, 0, 0),
  (250, .iload 4, 2, 0, 0, 0, 0),
  (252, .invokevirtual 50, 3, 3, 62, 0, 4140),
  (255, .ireturn, 1, 0, 0, 0, 0),
  (256, .aload_n 0, 1, 0, 0, 0, 0),
  (257, .iconst 3, 1, 20, 3, 0, 0),
  (258, .iload_n 2, 1, 0, 0, 0, 0),
  (259, .iload_n 3, 1, 0, 0, 0, 0),
  (260, .iload 4, 2, 0, 0, 0, 0),
  (262, .invokevirtual 50, 3, 3, 62, 0, 4140),
  (265, .aload_n 0, 1, 0, 0, 0, 0),
  (266, .iconst 2, 1, 20, 2, 0, 0),
  (267, .aload_n 0, 1, 0, 0, 0, 0),
  (268, .getfield 29, 3, 0, 9, 5, 2059),
  (271, .iconst 0, 1, 20, 0, 0, 0),
  (272, .iload 4, 2, 0, 0, 0, 0),
  (274, .invokevirtual 50, 3, 3, 62, 0, 4140),
  (277, .isub, 1, 0, 0, 0, 0),
  (278, .ireturn, 1, 0, 0, 0, 0),
  (279, .aload_n 0, 1, 0, 0, 0, 0),
  (280, .iconst 2, 1, 20, 2, 0, 0),
  (281, .iload_n 2, 1, 0, 0, 0, 0),
  (282, .iload_n 3, 1, 0, 0, 0, 0),
  (283, .iload 4, 2, 0, 0, 0, 0),
  (285, .invokevirtual 50, 3, 3, 62, 0, 4140),
  (288, .iconst 3, 1, 20, 3, 0, 0),
  (289, .imul, 1, 0, 0, 0, 0),
  (290, .ireturn, 1, 0, 0, 0, 0),
  (291, .aload_n 0, 1, 0, 0, 0, 0),
  (292, .iconst 1, 1, 20, 1, 0, 0),
  (293, .iload_n 2, 1, 0, 0, 0, 0),
  (294, .iload_n 3, 1, 0, 0, 0, 0),
  (295, .iload 4, 2, 0, 0, 0, 0),
  (297, .invokevirtual 50, 3, 3, 62, 0, 4140),
  (300, .aload_n 0, 1, 0, 0, 0, 0),
  (301, .getfield 32, 3, 0, 9, 6, 2060),
  (304, .iadd, 1, 0, 0, 0, 0),
  (305, .ireturn, 1, 0, 0, 0, 0),
  (306, .aload_n 0, 1, 0, 0, 0, 0),
  (307, .iconst 1, 1, 20, 1, 0, 0),
  (308, .iload_n 2, 1, 0, 0, 0, 0),
  (309, .iload_n 3, 1, 0, 0, 0, 0),
  (310, .iload 4, 2, 0, 0, 0, 0),
  (312, .invokevirtual 50, 3, 3, 62, 0, 4140),
  (315, .iconst 2, 1, 20, 2, 0, 0),
  (316, .imul, 1, 0, 0, 0, 0),
  (317, .ireturn, 1, 0, 0, 0, 0),
  (318, .iconst 5, 1, 20, 5, 0, 0),
  (319, .ireturn, 1, 0, 0, 0, 0)]
/-- ThreeMagnets$Voices.workOut(IIII)I -/
def mz_r63 : mz_R := (9, yX9_workOut, cX9_workOut, 5, (some .int), false, 5, mz_k63)
def mz_k64 : mz_K := [
  (0, .aload_n 0, 1, 0, 0, 0, 0),
  (1, .getfield 35, 3, 0, 9, 7, 2061),
  (4, .aload_n 0, 1, 0, 0, 0, 0),
  (5, .getfield 32, 3, 0, 9, 6, 2060),
  (8, .isub, 1, 0, 0, 0, 0),
  (9, .istore_n 2, 1, 0, 0, 0, 0),
  (10, .iload_n 2, 1, 0, 0, 0, 0),
  (11, .ifCond .ne 10, 3, 0, 0, 0, 0),
  (14, .aload_n 0, 1, 0, 0, 0, 0),
  (15, .iconst 1, 1, 20, 1, 0, 0),
  (16, .putfield 19, 3, 0, 9, 2, 2055),
  (19, .iconst 0, 1, 20, 0, 0, 0),
  (20, .ireturn, 1, 0, 0, 0, 0),
  (21, .iload_n 1, 1, 0, 0, 0, 0),
  (22, .iload_n 2, 1, 0, 0, 0, 0),
  (23, .idiv, 1, 0, 0, 0, 0),
  (24, .ireturn, 1, 0, 0, 0, 0)]
/-- ThreeMagnets$Voices.divided(I)I -/
def mz_r64 : mz_R := (9, yX9_divided, cX9_divided, 3, (some .int), false, 2, mz_k64)
def mz_k65 : mz_K := [
  (0, .iload_n 1, 1, 0, 0, 0, 0),
  (1, .istore_n 2, 1, 0, 0, 0, 0),
  (2, .iconst 0, 1, 20, 0, 0, 0),
  (3, .istore_n 3, 1, 0, 0, 0, 0),
  (4, .iload_n 3, 1, 0, 0, 0, 0),
  (5, .bipush 7, 2, 20, 7, 0, 0),
  (7, .if_icmp .ge 32, 3, 0, 0, 0, 0),
  (10, .iload_n 2, 1, 0, 0, 0, 0),
  (11, .invokestatic 75, 3, 4, 114, 0, 4147),
  (14, .ifCond .eq 25, 3, 0, 0, 0, 0),
  (17, .iload_n 0, 1, 0, 0, 0, 0),
  (18, .iload_n 2, 1, 0, 0, 0, 0),
  (19, .invokestatic 62, 3, 2, 66, 0, 4148),
  (22, .ifCond .eq 5, 3, 0, 0, 0, 0),
  (25, .iload_n 2, 1, 0, 0, 0, 0),
  (26, .ireturn, 1, 0, 0, 0, 0),
  (27, .getstatic 65, 3, 1, 0, 1, 4154),
  (30, .iload_n 2, 1, 0, 0, 0, 0),
  (31, .iaload, 1, 0, 0, 0, 0),
  (32, .istore_n 2, 1, 0, 0, 0, 0),
  (33, .iinc 3 1, 3, 20, 1, 0, 0),
  (36, .goto (-32), 3, 0, 0, 0, 0),
  (39, .iconst (-1), 1, 21, 1, 0, 0),
  (40, .ireturn, 1, 0, 0, 0, 0)]
/-- ThreeMagnets$Voices.holderOf(II)I -/
def mz_r65 : mz_R := (9, yX9_holderOf, cX9_holderOf, 4, (some .int), true, 2, mz_k65)
def mz_k66 : mz_K := [
  (0, .iload_n 1, 1, 0, 0, 0, 0),
  (1, .invokestatic 75, 3, 4, 114, 0, 4147),
  (4, .ifCond .eq 24, 3, 0, 0, 0, 0),
  (7, .iload_n 0, 1, 0, 0, 0, 0),
  (8, .iconst 0, 1, 20, 0, 0, 0),
  (9, .iconst 3, 1, 20, 3, 0, 0),
  (10, .invokestatic 78, 3, 4, 121, 0, 4151),
  (13, .ifCond .eq 15, 3, 0, 0, 0, 0),
  (16, .getstatic 82, 3, 1, 1, 1, 4152),
  (19, .iload_n 1, 1, 0, 0, 0, 0),
  (20, .iconst 4, 1, 20, 4, 0, 0),
  (21, .imul, 1, 0, 0, 0, 0),
  (22, .iload_n 0, 1, 0, 0, 0, 0),
  (23, .iadd, 1, 0, 0, 0, 0),
  (24, .iaload, 1, 0, 0, 0, 0),
  (25, .goto 4, 3, 0, 0, 0, 0),
  (28, .iconst 0, 1, 20, 0, 0, 0),
  (29, .ireturn, 1, 0, 0, 0, 0)]
/-- ThreeMagnets$Voices.bodyOf(II)I -/
def mz_r66 : mz_R := (9, yX9_bodyOf, cX9_bodyOf, 2, (some .int), true, 2, mz_k66)
def mz_k67 : mz_K := [
  (0, .iload_n 1, 1, 0, 0, 0, 0),
  (1, .iload_n 2, 1, 0, 0, 0, 0),
  (2, .iload_n 3, 1, 0, 0, 0, 0),
  (3, .iload 4, 2, 0, 0, 0, 0),
  (5, .invokestatic 63, 3, 2, 113, 0, 2126),
  (8, .ifCond .ne 9, 3, 0, 0, 0, 0),
  (11, .aload_n 0, 1, 0, 0, 0, 0),
  (12, .iconst 1, 1, 20, 1, 0, 0),
  (13, .invokevirtual 67, 3, 3, 109, 0, 2138),
  (16, .ireturn, 1, 0, 0, 0, 0),
  (17, .aload_n 0, 1, 0, 0, 0, 0),
  (18, .getfield 12, 3, 0, 10, 0, 2097),
  (21, .getfield 71, 3, 0, 6, 0, 1181),
  (24, .invokevirtual 75, 3, 3, 22, 0, 2143),
  (27, .ifCond .eq 9, 3, 0, 0, 0, 0),
  (30, .aload_n 0, 1, 0, 0, 0, 0),
  (31, .iconst 4, 1, 20, 4, 0, 0),
  (32, .invokevirtual 67, 3, 3, 109, 0, 2138),
  (35, .ireturn, 1, 0, 0, 0, 0),
  (36, .aload_n 0, 1, 0, 0, 0, 0),
  (37, .getfield 12, 3, 0, 10, 0, 2097),
  (40, .getfield 71, 3, 0, 6, 0, 1181),
  (43, .iload_n 1, 1, 0, 0, 0, 0),
  (44, .iload_n 2, 1, 0, 0, 0, 0),
  (45, .iload_n 3, 1, 0, 0, 0, 0),
  (46, .iload 4, 2, 0, 0, 0, 0),
  (48, .invokevirtual 81, 3, 3, 23, 0, 2147),
  (51, .ireturn, 1, 0, 0, 0, 0)]
/-- ThreeMagnets.magnet(IIII)I -/
def mz_r67 : mz_R := (10, yX10_magnet, cX10_magnet, 5, (some .int), false, 5, mz_k67)
def mz_k68 : mz_K := [
  (0, .aload_n 0, 1, 0, 0, 0, 0),
  (1, .getfield 12, 3, 0, 10, 0, 2097),
  (4, .getfield 71, 3, 0, 6, 0, 1181),
  (7, .astore_n 3, 1, 0, 0, 0, 0),
  (8, .aload_n 3, 1, 0, 0, 0, 0),
  (9, .iload_n 1, 1, 0, 0, 0, 0),
  (10, .invokevirtual 85, 3, 3, 21, 0, 2156),
  (13, .ifCond .eq 12, 3, 0, 0, 0, 0),
  (16, .iload_n 2, 1, 0, 0, 0, 0),
  (17, .iconst 0, 1, 20, 0, 0, 0),
  (18, .iconst 5, 1, 20, 5, 0, 0),
  (19, .invokestatic 89, 3, 2, 121, 0, 2132),
  (22, .ifCond .ne 9, 3, 0, 0, 0, 0),
  (25, .aload_n 0, 1, 0, 0, 0, 0),
  (26, .iconst 1, 1, 20, 1, 0, 0),
  (27, .invokevirtual 67, 3, 3, 109, 0, 2138),
  (30, .ireturn, 1, 0, 0, 0, 0),
  (31, .aload_n 3, 1, 0, 0, 0, 0),
  (32, .iload_n 1, 1, 0, 0, 0, 0),
  (33, .aload_n 0, 1, 0, 0, 0, 0),
  (34, .getfield 12, 3, 0, 10, 0, 2097),
  (37, .getfield 93, 3, 0, 6, 6, 1195),
  (40, .getfield 97, 3, 0, 0, 0, 1120),
  (43, .aload_n 0, 1, 0, 0, 0, 0),
  (44, .getfield 12, 3, 0, 10, 0, 2097),
  (47, .getfield 93, 3, 0, 6, 6, 1195),
  (50, .getfield 102, 3, 0, 0, 1, 1123),
  (53, .invokevirtual 105, 3, 3, 24, 0, 2160),
  (56, .istore 4, 2, 0, 0, 0, 0),
  (58, .iload_n 2, 1, 0, 0, 0, 0),
  (59, .tableswitch 64 0 4 #[33, 40, 47, 54, 61], 33, 0, 0, 0, 0),
  (92, .aload_n 3, 1, 0, 0, 0, 0),
  (93, .getfield 109, 3, 0, 2, 0, 1042),
  (96, .iload_n 1, 1, 0, 0, 0, 0),
  (97, .iaload, 1, 0, 0, 0, 0),
  (98, .ireturn, 1, 0, 0, 0, 0),
  (99, .aload_n 3, 1, 0, 0, 0, 0),
  (100, .getfield 112, 3, 0, 2, 1, 1045),
  (103, .iload_n 1, 1, 0, 0, 0, 0),
  (104, .iaload, 1, 0, 0, 0, 0),
  (105, .ireturn, 1, 0, 0, 0, 0),
  (106, .aload_n 3, 1, 0, 0, 0, 0),
  (107, .getfield 115, 3, 0, 2, 2, 1048),
  (110, .iload_n 1, 1, 0, 0, 0, 0),
  (111, .iaload, 1, 0, 0, 0, 0),
  (112, .ireturn, 1, 0, 0, 0, 0),
  (113, .aload_n 3, 1, 0, 0, 0, 0),
  (114, .getfield 118, 3, 0, 2, 3, 1052),
  (117, .iload_n 1, 1, 0, 0, 0, 0),
  (118, .iaload, 1, 0, 0, 0, 0),
  (119, .ireturn, 1, 0, 0, 0, 0),
  (120, .iload 4, 2, 0, 0, 0, 0),
  (122, .ireturn, 1, 0, 0, 0, 0),
  (123, .aload_n 0, 1, 0, 0, 0, 0),
  (124, .getfield 24, 3, 0, 10, 2, 2099),
  (127, .iload_n 1, 1, 0, 0, 0, 0),
  (128, .iload 4, 2, 0, 0, 0, 0),
  (130, .aload_n 0, 1, 0, 0, 0, 0),
  (131, .getfield 12, 3, 0, 10, 0, 2097),
  (134, .getfield 93, 3, 0, 6, 6, 1195),
  (137, .getfield 121, 3, 0, 0, 4, 1131),
  (140, .invokevirtual 124, 3, 3, 40, 0, 2168),
  (143, .ireturn, 1, 0, 0, 0, 0)]
/-- ThreeMagnets.magnetIs(II)I -/
def mz_r68 : mz_R := (10, yX10_magnetIs, cX10_magnetIs, 5, (some .int), false, 3, mz_k68)
def mz_k69 : mz_K := [
  (0, .aload_n 0, 1, 0, 0, 0, 0),
  (1, .getfield 12, 3, 0, 10, 0, 2097),
  (4, .getfield 71, 3, 0, 6, 0, 1181),
  (7, .iload_n 1, 1, 0, 0, 0, 0),
  (8, .invokevirtual 85, 3, 3, 21, 0, 2156),
  (11, .ifCond .eq 10, 3, 0, 0, 0, 0),
  (14, .iload_n 2, 1, 0, 0, 0, 0),
  (15, .invokestatic 127, 3, 2, 114, 0, 2129),
  (18, .ifCond .ne 9, 3, 0, 0, 0, 0),
  (21, .aload_n 0, 1, 0, 0, 0, 0),
  (22, .iconst 1, 1, 20, 1, 0, 0),
  (23, .invokevirtual 67, 3, 3, 109, 0, 2138),
  (26, .ireturn, 1, 0, 0, 0, 0),
  (27, .aload_n 0, 1, 0, 0, 0, 0),
  (28, .getfield 12, 3, 0, 10, 0, 2097),
  (31, .getfield 71, 3, 0, 6, 0, 1181),
  (34, .getfield 109, 3, 0, 2, 0, 1042),
  (37, .iload_n 1, 1, 0, 0, 0, 0),
  (38, .iaload, 1, 0, 0, 0, 0),
  (39, .iload_n 2, 1, 0, 0, 0, 0),
  (40, .invokestatic 130, 3, 2, 115, 0, 2205),
  (43, .ifCond .ne 9, 3, 0, 0, 0, 0),
  (46, .aload_n 0, 1, 0, 0, 0, 0),
  (47, .iconst 5, 1, 20, 5, 0, 0),
  (48, .invokevirtual 67, 3, 3, 109, 0, 2138),
  (51, .ireturn, 1, 0, 0, 0, 0),
  (52, .aload_n 0, 1, 0, 0, 0, 0),
  (53, .getfield 12, 3, 0, 10, 0, 2097),
  (56, .getfield 71, 3, 0, 6, 0, 1181),
  (59, .getfield 118, 3, 0, 2, 3, 1052),
  (62, .iload_n 1, 1, 0, 0, 0, 0),
  (63, .iaload, 1, 0, 0, 0, 0),
  (64, .ireturn, 1, 0, 0, 0, 0)]
/-- ThreeMagnets.as(II)I -/
def mz_r69 : mz_R := (10, yX10_as, cX10_as, 3, (some .int), false, 3, mz_k69)
def mz_k70 : mz_K := [
  (0, .aload_n 0, 1, 0, 0, 0, 0),
  (1, .getfield 12, 3, 0, 10, 0, 2097),
  (4, .getfield 71, 3, 0, 6, 0, 1181),
  (7, .astore 5, 2, 0, 0, 0, 0),
  (9, .aload 5, 2, 0, 0, 0, 0),
  (11, .iload_n 1, 1, 0, 0, 0, 0),
  (12, .invokevirtual 85, 3, 3, 21, 0, 2156),
  (15, .ifCond .eq 19, 3, 0, 0, 0, 0),
  (18, .iload_n 2, 1, 0, 0, 0, 0),
  (19, .invokestatic 127, 3, 2, 114, 0, 2129),
  (22, .ifCond .eq 12, 3, 0, 0, 0, 0),
  (25, .iload_n 3, 1, 0, 0, 0, 0),
  (26, .iload 4, 2, 0, 0, 0, 0),
  (28, .invokestatic 134, 3, 2, 116, 0, 2135),
  (31, .ifCond .ne 9, 3, 0, 0, 0, 0),
  (34, .aload_n 0, 1, 0, 0, 0, 0),
  (35, .iconst 1, 1, 20, 1, 0, 0),
  (36, .invokevirtual 67, 3, 3, 109, 0, 2138),
  (39, .ireturn, 1, 0, 0, 0, 0),
  (40, .aload 5, 2, 0, 0, 0, 0),
  (42, .getfield 109, 3, 0, 2, 0, 1042),
  (45, .iload_n 1, 1, 0, 0, 0, 0),
  (46, .iaload, 1, 0, 0, 0, 0),
  (47, .istore 6, 2, 0, 0, 0, 0),
  (49, .aload 5, 2, 0, 0, 0, 0),
  (51, .getfield 109, 3, 0, 2, 0, 1042),
  (54, .iload_n 1, 1, 0, 0, 0, 0),
  (55, .iload_n 2, 1, 0, 0, 0, 0),
  (56, .iastore, 1, 0, 0, 0, 0),
  (57, .aload 5, 2, 0, 0, 0, 0),
  (59, .getfield 112, 3, 0, 2, 1, 1045),
  (62, .iload_n 1, 1, 0, 0, 0, 0),
  (63, .iload_n 3, 1, 0, 0, 0, 0),
  (64, .iastore, 1, 0, 0, 0, 0),
  (65, .aload 5, 2, 0, 0, 0, 0),
  (67, .getfield 115, 3, 0, 2, 2, 1048),
  (70, .iload_n 1, 1, 0, 0, 0, 0),
  (71, .iload 4, 2, 0, 0, 0, 0),
  (73, .iastore, 1, 0, 0, 0, 0),
  (74, .iload 6, 2, 0, 0, 0, 0),
  (76, .ireturn, 1, 0, 0, 0, 0)]
/-- ThreeMagnets.shift(IIII)I -/
def mz_r70 : mz_R := (10, yX10_shift, cX10_shift, 7, (some .int), false, 5, mz_k70)
def mz_k71 : mz_K := [
  (0, .aload_n 0, 1, 0, 0, 0, 0),
  (1, .getfield 12, 3, 0, 10, 0, 2097),
  (4, .getfield 71, 3, 0, 6, 0, 1181),
  (7, .getfield 137, 3, 0, 2, 4, 1055),
  (10, .ifCond .gt 9, 3, 0, 0, 0, 0),
  (13, .aload_n 0, 1, 0, 0, 0, 0),
  (14, .iconst 2, 1, 20, 2, 0, 0),
  (15, .invokevirtual 67, 3, 3, 109, 0, 2138),
  (18, .ireturn, 1, 0, 0, 0, 0),
  (19, .aload_n 0, 1, 0, 0, 0, 0),
  (20, .getfield 12, 3, 0, 10, 0, 2097),
  (23, .getfield 71, 3, 0, 6, 0, 1181),
  (26, .dup, 1, 0, 0, 0, 0),
  (27, .getfield 137, 3, 0, 2, 4, 1055),
  (30, .iconst 1, 1, 20, 1, 0, 0),
  (31, .isub, 1, 0, 0, 0, 0),
  (32, .putfield 137, 3, 0, 2, 4, 1055),
  (35, .aload_n 0, 1, 0, 0, 0, 0),
  (36, .getfield 12, 3, 0, 10, 0, 2097),
  (39, .getfield 71, 3, 0, 6, 0, 1181),
  (42, .getfield 137, 3, 0, 2, 4, 1055),
  (45, .ireturn, 1, 0, 0, 0, 0)]
/-- ThreeMagnets.takeOff()I -/
def mz_r71 : mz_R := (10, yX10_takeOff, cX10_takeOff, 1, (some .int), false, 1, mz_k71)
def mz_k72 : mz_K := [
  (0, .iload_n 1, 1, 0, 0, 0, 0),
  (1, .iconst 0, 1, 20, 0, 0, 0),
  (2, .iconst 5, 1, 20, 5, 0, 0),
  (3, .invokestatic 89, 3, 2, 121, 0, 2132),
  (6, .ifCond .eq 20, 3, 0, 0, 0, 0),
  (9, .iload_n 2, 1, 0, 0, 0, 0),
  (10, .getstatic 140, 3, 1, 2, 0, 2222),
  (13, .iload_n 1, 1, 0, 0, 0, 0),
  (14, .iaload, 1, 0, 0, 0, 0),
  (15, .getstatic 143, 3, 1, 3, 0, 2224),
  (18, .iload_n 1, 1, 0, 0, 0, 0),
  (19, .iaload, 1, 0, 0, 0, 0),
  (20, .invokestatic 89, 3, 2, 121, 0, 2132),
  (23, .ifCond .ne 9, 3, 0, 0, 0, 0),
  (26, .aload_n 0, 1, 0, 0, 0, 0),
  (27, .iconst 1, 1, 20, 1, 0, 0),
  (28, .invokevirtual 67, 3, 3, 109, 0, 2138),
  (31, .ireturn, 1, 0, 0, 0, 0),
  (32, .aload_n 0, 1, 0, 0, 0, 0),
  (33, .getfield 12, 3, 0, 10, 0, 2097),
  (36, .getfield 146, 3, 0, 6, 1, 1185),
  (39, .iload_n 1, 1, 0, 0, 0, 0),
  (40, .iaload, 1, 0, 0, 0, 0),
  (41, .istore_n 3, 1, 0, 0, 0, 0),
  (42, .aload_n 0, 1, 0, 0, 0, 0),
  (43, .getfield 12, 3, 0, 10, 0, 2097),
  (46, .getfield 146, 3, 0, 6, 1, 1185),
  (49, .iload_n 1, 1, 0, 0, 0, 0),
  (50, .iload_n 2, 1, 0, 0, 0, 0),
  (51, .iastore, 1, 0, 0, 0, 0),
  (52, .iload_n 3, 1, 0, 0, 0, 0),
  (53, .ireturn, 1, 0, 0, 0, 0)]
/-- ThreeMagnets.rule(II)I -/
def mz_r72 : mz_R := (10, yX10_rule, cX10_rule, 4, (some .int), false, 3, mz_k72)
def mz_k73 : mz_K := [
  (0, .iload_n 1, 1, 0, 0, 0, 0),
  (1, .iload_n 2, 1, 0, 0, 0, 0),
  (2, .invokestatic 134, 3, 2, 116, 0, 2135),
  (5, .ifCond .eq 12, 3, 0, 0, 0, 0),
  (8, .iload_n 3, 1, 0, 0, 0, 0),
  (9, .iconst 0, 1, 20, 0, 0, 0),
  (10, .iconst 1, 1, 20, 1, 0, 0),
  (11, .invokestatic 89, 3, 2, 121, 0, 2132),
  (14, .ifCond .ne 9, 3, 0, 0, 0, 0),
  (17, .aload_n 0, 1, 0, 0, 0, 0),
  (18, .iconst 1, 1, 20, 1, 0, 0),
  (19, .invokevirtual 67, 3, 3, 109, 0, 2138),
  (22, .ireturn, 1, 0, 0, 0, 0),
  (23, .aload_n 0, 1, 0, 0, 0, 0),
  (24, .getfield 12, 3, 0, 10, 0, 2097),
  (27, .getfield 71, 3, 0, 6, 0, 1181),
  (30, .iload_n 1, 1, 0, 0, 0, 0),
  (31, .bipush 16, 2, 20, 16, 0, 0),
  (33, .imul, 1, 0, 0, 0, 0),
  (34, .iload_n 2, 1, 0, 0, 0, 0),
  (35, .bipush 16, 2, 20, 16, 0, 0),
  (37, .imul, 1, 0, 0, 0, 0),
  (38, .iconst 0, 1, 20, 0, 0, 0),
  (39, .invokevirtual 149, 3, 3, 25, 0, 2230),
  (42, .istore 4, 2, 0, 0, 0, 0),
  (44, .iload 4, 2, 0, 0, 0, 0),
  (46, .ifCond .ge 9, 3, 0, 0, 0, 0),
  (49, .aload_n 0, 1, 0, 0, 0, 0),
  (50, .iconst 2, 1, 20, 2, 0, 0),
  (51, .invokevirtual 67, 3, 3, 109, 0, 2138),
  (54, .ireturn, 1, 0, 0, 0, 0),
  (55, .iload_n 3, 1, 0, 0, 0, 0),
  (56, .ifCond .ne 8, 3, 0, 0, 0, 0),
  (59, .iload 4, 2, 0, 0, 0, 0),
  (61, .goto 23, 3, 0, 0, 0, 0),
  (64, .aload_n 0, 1, 0, 0, 0, 0),
  (65, .getfield 12, 3, 0, 10, 0, 2097),
  (68, .getfield 71, 3, 0, 6, 0, 1181),
  (71, .iload 4, 2, 0, 0, 0, 0),
  (73, .iload_n 1, 1, 0, 0, 0, 0),
  (74, .bipush 16, 2, 20, 16, 0, 0),
  (76, .imul, 1, 0, 0, 0, 0),
  (77, .iload_n 2, 1, 0, 0, 0, 0),
  (78, .bipush 16, 2, 20, 16, 0, 0),
  (80, .imul, 1, 0, 0, 0, 0),
  (81, .invokevirtual 105, 3, 3, 24, 0, 2160),
  (84, .ireturn, 1, 0, 0, 0, 0)]
/-- ThreeMagnets.nearest(III)I -/
def mz_r73 : mz_R := (10, yX10_nearest, cX10_nearest, 5, (some .int), false, 4, mz_k73)
def mz_k74 : mz_K := [
  (0, .iload_n 3, 1, 0, 0, 0, 0),
  (1, .iconst 1, 1, 20, 1, 0, 0),
  (2, .bipush 8, 2, 20, 8, 0, 0),
  (4, .invokestatic 89, 3, 2, 121, 0, 2132),
  (7, .ifCond .ne 9, 3, 0, 0, 0, 0),
  (10, .aload_n 0, 1, 0, 0, 0, 0),
  (11, .iconst 1, 1, 20, 1, 0, 0),
  (12, .invokevirtual 67, 3, 3, 109, 0, 2138),
  (15, .ireturn, 1, 0, 0, 0, 0),
  (16, .aload_n 0, 1, 0, 0, 0, 0),
  (17, .getfield 12, 3, 0, 10, 0, 2097),
  (20, .getfield 30, 3, 0, 6, 2, 1187),
  (23, .astore 4, 2, 0, 0, 0, 0),
  (25, .aload 4, 2, 0, 0, 0, 0),
  (27, .getfield 153, 3, 0, 7, 1, 1087),
  (30, .iload_n 3, 1, 0, 0, 0, 0),
  (31, .iadd, 1, 0, 0, 0, 0),
  (32, .bipush 60, 2, 20, 60, 0, 0),
  (34, .if_icmp .le 9, 3, 0, 0, 0, 0),
  (37, .aload_n 0, 1, 0, 0, 0, 0),
  (38, .iconst 4, 1, 20, 4, 0, 0),
  (39, .invokevirtual 67, 3, 3, 109, 0, 2138),
  (42, .ireturn, 1, 0, 0, 0, 0),
  (43, .iconst 0, 1, 20, 0, 0, 0),
  (44, .istore 5, 2, 0, 0, 0, 0),
  (46, .iload 5, 2, 0, 0, 0, 0),
  (48, .iload_n 3, 1, 0, 0, 0, 0),
  (49, .if_icmp .ge 43, 3, 0, 0, 0, 0),
  (52, .aload 4, 2, 0, 0, 0, 0),
  (54, .getfield 158, 3, 0, 7, 0, 1084),
  (57, .aload 4, 2, 0, 0, 0, 0),
  (59, .getfield 153, 3, 0, 7, 1, 1087),
  (62, .lload_n 1, 1, 0, 0, 0, 0),
  (63, .bipush 8, 2, 20, 8, 0, 0),
  (65, .iload 5, 2, 0, 0, 0, 0),
  (67, .imul, 1, 0, 0, 0, 0),
  (68, .lushr, 1, 0, 0, 0, 0),
  (69, .l2i, 1, 0, 0, 0, 0),
  (70, .sipush 255, 3, 20, 255, 0, 0),
  (73, .iand, 1, 0, 0, 0, 0),
  (74, .iastore, 1, 0, 0, 0, 0),
  (75, .aload 4, 2, 0, 0, 0, 0),
  (77, .dup, 1, 0, 0, 0, 0),
  (78, .getfield 153, 3, 0, 7, 1, 1087),
  (81, .iconst 1, 1, 20, 1, 0, 0),
  (82, .iadd, 1, 0, 0, 0, 0),
  (83, .putfield 153, 3, 0, 7, 1, 1087),
  (86, .iinc 5 1, 3, 20, 1, 0, 0),
  (89, .goto (-43), 3, 0, 0, 0, 0),
  (92, .aload 4, 2, 0, 0, 0, 0),
  (94, .getfield 153, 3, 0, 7, 1, 1087),
  (97, .ireturn, 1, 0, 0, 0, 0)]
/-- ThreeMagnets.feed(JI)I -/
def mz_r74 : mz_R := (10, yX10_feed, cX10_feed, 6, (some .int), false, 3, mz_k74)
def mz_k75 : mz_K := [
  (0, .iload_n 1, 1, 0, 0, 0, 0),
  (1, .invokestatic 161, 3, 2, 119, 0, 3007),
  (4, .ifCond .ne 9, 3, 0, 0, 0, 0),
  (7, .aload_n 0, 1, 0, 0, 0, 0),
  (8, .iconst 1, 1, 20, 1, 0, 0),
  (9, .invokevirtual 67, 3, 3, 109, 0, 2138),
  (12, .ireturn, 1, 0, 0, 0, 0),
  (13, .aload_n 0, 1, 0, 0, 0, 0),
  (14, .getfield 37, 3, 0, 10, 3, 2100),
  (17, .iload_n 1, 1, 0, 0, 0, 0),
  (18, .invokestatic 164, 3, 2, 120, 0, 3010),
  (21, .invokevirtual 168, 3, 3, 28, 0, 3016),
  (24, .istore_n 2, 1, 0, 0, 0, 0),
  (25, .aload_n 0, 1, 0, 0, 0, 0),
  (26, .getfield 12, 3, 0, 10, 0, 2097),
  (29, .getfield 30, 3, 0, 6, 2, 1187),
  (32, .iconst 0, 1, 20, 0, 0, 0),
  (33, .putfield 153, 3, 0, 7, 1, 1087),
  (36, .iload_n 2, 1, 0, 0, 0, 0),
  (37, .ifCond .lt 8, 3, 0, 0, 0, 0),
  (40, .bipush (-10), 2, 21, 10, 0, 0),
  (42, .iload_n 2, 1, 0, 0, 0, 0),
  (43, .isub, 1, 0, 0, 0, 0),
  (44, .ireturn, 1, 0, 0, 0, 0),
  (45, .aload_n 0, 1, 0, 0, 0, 0),
  (46, .getfield 12, 3, 0, 10, 0, 2097),
  (49, .iload_n 1, 1, 0, 0, 0, 0),
  (50, .invokevirtual 172, 3, 3, 52, 0, 3136),
  (53, .aload_n 0, 1, 0, 0, 0, 0),
  (54, .getfield 37, 3, 0, 10, 3, 2100),
  (57, .getfield 176, 3, 0, 3, 0, 2028),
  (60, .invokevirtual 180, 3, 3, 59, 0, 3140),
  (63, .iconst 1, 1, 20, 1, 0, 0),
  (64, .ireturn, 1, 0, 0, 0, 0)]
/-- ThreeMagnets.text(I)I -/
def mz_r75 : mz_R := (10, yX10_text, cX10_text, 3, (some .int), false, 2, mz_k75)
def mz_k76 : mz_K := [
  (0, .iload_n 1, 1, 0, 0, 0, 0),
  (1, .invokestatic 161, 3, 2, 119, 0, 3007),
  (4, .ifCond .ne 9, 3, 0, 0, 0, 0),
  (7, .aload_n 0, 1, 0, 0, 0, 0),
  (8, .iconst 1, 1, 20, 1, 0, 0),
  (9, .invokevirtual 67, 3, 3, 109, 0, 2138),
  (12, .ireturn, 1, 0, 0, 0, 0),
  (13, .aload_n 0, 1, 0, 0, 0, 0),
  (14, .getfield 12, 3, 0, 10, 0, 2097),
  (17, .iload_n 1, 1, 0, 0, 0, 0),
  (18, .invokevirtual 172, 3, 3, 52, 0, 3136),
  (21, .astore_n 2, 1, 0, 0, 0, 0),
  (22, .aload_n 2, 1, 0, 0, 0, 0),
  (23, .getfield 186, 3, 0, 8, 2, 1104),
  (26, .ifCond .le 7, 3, 0, 0, 0, 0),
  (29, .iconst 1, 1, 20, 1, 0, 0),
  (30, .goto 4, 3, 0, 0, 0, 0),
  (33, .iconst 0, 1, 20, 0, 0, 0),
  (34, .istore_n 3, 1, 0, 0, 0, 0),
  (35, .aload_n 2, 1, 0, 0, 0, 0),
  (36, .iconst 0, 1, 20, 0, 0, 0),
  (37, .putfield 186, 3, 0, 8, 2, 1104),
  (40, .iload_n 3, 1, 0, 0, 0, 0),
  (41, .ireturn, 1, 0, 0, 0, 0)]
/-- ThreeMagnets.untell(I)I -/
def mz_r76 : mz_R := (10, yX10_untell, cX10_untell, 4, (some .int), false, 2, mz_k76)
def mz_k77 : mz_K := [
  (0, .iload_n 1, 1, 0, 0, 0, 0),
  (1, .iload_n 2, 1, 0, 0, 0, 0),
  (2, .invokestatic 134, 3, 2, 116, 0, 2135),
  (5, .ifCond .ne 9, 3, 0, 0, 0, 0),
  (8, .aload_n 0, 1, 0, 0, 0, 0),
  (9, .iconst 1, 1, 20, 1, 0, 0),
  (10, .invokevirtual 67, 3, 3, 109, 0, 2138),
  (13, .ireturn, 1, 0, 0, 0, 0),
  (14, .aload_n 0, 1, 0, 0, 0, 0),
  (15, .getfield 12, 3, 0, 10, 0, 2097),
  (18, .getfield 93, 3, 0, 6, 6, 1195),
  (21, .iload_n 1, 1, 0, 0, 0, 0),
  (22, .iload_n 2, 1, 0, 0, 0, 0),
  (23, .iconst 0, 1, 20, 0, 0, 0),
  (24, .iconst 0, 1, 20, 0, 0, 0),
  (25, .invokevirtual 187, 3, 3, 0, 0, 3158),
  (28, .iconst 1, 1, 20, 1, 0, 0),
  (29, .ireturn, 1, 0, 0, 0, 0)]
/-- ThreeMagnets.let(II)I -/
def mz_r77 : mz_R := (10, yX10_let, cX10_let, 3, (some .int), false, 3, mz_k77)
def mz_k78 : mz_K := [
  (0, .iload_n 1, 1, 0, 0, 0, 0),
  (1, .invokestatic 191, 3, 2, 117, 0, 3166),
  (4, .ifCond .eq 10, 3, 0, 0, 0, 0),
  (7, .iload_n 2, 1, 0, 0, 0, 0),
  (8, .invokestatic 191, 3, 2, 117, 0, 3166),
  (11, .ifCond .ne 9, 3, 0, 0, 0, 0),
  (14, .aload_n 0, 1, 0, 0, 0, 0),
  (15, .iconst 1, 1, 20, 1, 0, 0),
  (16, .invokevirtual 67, 3, 3, 109, 0, 2138),
  (19, .ireturn, 1, 0, 0, 0, 0),
  (20, .aload_n 0, 1, 0, 0, 0, 0),
  (21, .getfield 12, 3, 0, 10, 0, 2097),
  (24, .getfield 93, 3, 0, 6, 6, 1195),
  (27, .iload_n 1, 1, 0, 0, 0, 0),
  (28, .putfield 194, 3, 0, 0, 2, 1126),
  (31, .aload_n 0, 1, 0, 0, 0, 0),
  (32, .getfield 12, 3, 0, 10, 0, 2097),
  (35, .getfield 93, 3, 0, 6, 6, 1195),
  (38, .iload_n 2, 1, 0, 0, 0, 0),
  (39, .putfield 197, 3, 0, 0, 3, 1129),
  (42, .iconst 1, 1, 20, 1, 0, 0),
  (43, .ireturn, 1, 0, 0, 0, 0)]
/-- ThreeMagnets.push(II)I -/
def mz_r78 : mz_R := (10, yX10_push, cX10_push, 3, (some .int), false, 3, mz_k78)
def mz_k79 : mz_K := [
  (0, .iload_n 1, 1, 0, 0, 0, 0),
  (1, .iconst 1, 1, 20, 1, 0, 0),
  (2, .sipush 200, 3, 20, 200, 0, 0),
  (5, .invokestatic 89, 3, 2, 121, 0, 2132),
  (8, .ifCond .ne 9, 3, 0, 0, 0, 0),
  (11, .aload_n 0, 1, 0, 0, 0, 0),
  (12, .iconst 1, 1, 20, 1, 0, 0),
  (13, .invokevirtual 67, 3, 3, 109, 0, 2138),
  (16, .ireturn, 1, 0, 0, 0, 0),
  (17, .aload_n 0, 1, 0, 0, 0, 0),
  (18, .getfield 12, 3, 0, 10, 0, 2097),
  (21, .getfield 93, 3, 0, 6, 6, 1195),
  (24, .getfield 121, 3, 0, 0, 4, 1131),
  (27, .iload_n 1, 1, 0, 0, 0, 0),
  (28, .iadd, 1, 0, 0, 0, 0),
  (29, .sipush 9999, 3, 20, 9999, 0, 0),
  (32, .if_icmp .le 9, 3, 0, 0, 0, 0),
  (35, .aload_n 0, 1, 0, 0, 0, 0),
  (36, .iconst 3, 1, 20, 3, 0, 0),
  (37, .invokevirtual 67, 3, 3, 109, 0, 2138),
  (40, .ireturn, 1, 0, 0, 0, 0),
  (41, .iconst 0, 1, 20, 0, 0, 0),
  (42, .istore_n 2, 1, 0, 0, 0, 0),
  (43, .iload_n 2, 1, 0, 0, 0, 0),
  (44, .iload_n 1, 1, 0, 0, 0, 0),
  (45, .if_icmp .ge 32, 3, 0, 0, 0, 0),
  (48, .aload_n 0, 1, 0, 0, 0, 0),
  (49, .getfield 24, 3, 0, 10, 2, 2099),
  (52, .aload_n 0, 1, 0, 0, 0, 0),
  (53, .getfield 12, 3, 0, 10, 0, 2097),
  (56, .getfield 93, 3, 0, 6, 6, 1195),
  (59, .aload_n 0, 1, 0, 0, 0, 0),
  (60, .getfield 12, 3, 0, 10, 0, 2097),
  (63, .getfield 146, 3, 0, 6, 1, 1185),
  (66, .iconst 5, 1, 20, 5, 0, 0),
  (67, .iaload, 1, 0, 0, 0, 0),
  (68, .invokevirtual 200, 3, 3, 38, 0, 3173),
  (71, .iinc 2 1, 3, 20, 1, 0, 0),
  (74, .goto (-31), 3, 0, 0, 0, 0),
  (77, .aload_n 0, 1, 0, 0, 0, 0),
  (78, .getfield 12, 3, 0, 10, 0, 2097),
  (81, .getfield 93, 3, 0, 6, 6, 1195),
  (84, .getfield 121, 3, 0, 0, 4, 1131),
  (87, .ireturn, 1, 0, 0, 0, 0)]
/-- ThreeMagnets.tick(I)I -/
def mz_r79 : mz_R := (10, yX10_tick, cX10_tick, 3, (some .int), false, 2, mz_k79)
def mz_k80 : mz_K := [
  (0, .iload_n 1, 1, 0, 0, 0, 0),
  (1, .tableswitch 109 0 5 #[39, 50, 61, 72, 83, 94], 39, 0, 0, 0, 0),
  (40, .aload_n 0, 1, 0, 0, 0, 0),
  (41, .getfield 12, 3, 0, 10, 0, 2097),
  (44, .getfield 93, 3, 0, 6, 6, 1195),
  (47, .getfield 97, 3, 0, 0, 0, 1120),
  (50, .ireturn, 1, 0, 0, 0, 0),
  (51, .aload_n 0, 1, 0, 0, 0, 0),
  (52, .getfield 12, 3, 0, 10, 0, 2097),
  (55, .getfield 93, 3, 0, 6, 6, 1195),
  (58, .getfield 102, 3, 0, 0, 1, 1123),
  (61, .ireturn, 1, 0, 0, 0, 0),
  (62, .aload_n 0, 1, 0, 0, 0, 0),
  (63, .getfield 12, 3, 0, 10, 0, 2097),
  (66, .getfield 93, 3, 0, 6, 6, 1195),
  (69, .getfield 194, 3, 0, 0, 2, 1126),
  (72, .ireturn, 1, 0, 0, 0, 0),
  (73, .aload_n 0, 1, 0, 0, 0, 0),
  (74, .getfield 12, 3, 0, 10, 0, 2097),
  (77, .getfield 93, 3, 0, 6, 6, 1195),
  (80, .getfield 197, 3, 0, 0, 3, 1129),
  (83, .ireturn, 1, 0, 0, 0, 0),
  (84, .aload_n 0, 1, 0, 0, 0, 0),
  (85, .getfield 12, 3, 0, 10, 0, 2097),
  (88, .getfield 93, 3, 0, 6, 6, 1195),
  (91, .getfield 121, 3, 0, 0, 4, 1131),
  (94, .ireturn, 1, 0, 0, 0, 0),
  (95, .aload_n 0, 1, 0, 0, 0, 0),
  (96, .getfield 24, 3, 0, 10, 2, 2099),
  (99, .aload_n 0, 1, 0, 0, 0, 0),
  (100, .getfield 12, 3, 0, 10, 0, 2097),
  (103, .getfield 93, 3, 0, 6, 6, 1195),
  (106, .invokevirtual 204, 3, 3, 37, 0, 3191),
  (109, .ireturn, 1, 0, 0, 0, 0),
  (110, .aload_n 0, 1, 0, 0, 0, 0),
  (111, .iconst 1, 1, 20, 1, 0, 0),
  (112, .invokevirtual 67, 3, 3, 109, 0, 2138),
  (115, .ireturn, 1, 0, 0, 0, 0)]
/-- ThreeMagnets.bob(I)I -/
def mz_r80 : mz_R := (10, yX10_bob, cX10_bob, 2, (some .int), false, 2, mz_k80)
def mz_k81 : mz_K := [
  (0, .iload_n 1, 1, 0, 0, 0, 0),
  (1, .iload_n 2, 1, 0, 0, 0, 0),
  (2, .invokestatic 134, 3, 2, 116, 0, 2135),
  (5, .ifCond .eq 18, 3, 0, 0, 0, 0),
  (8, .iload_n 3, 1, 0, 0, 0, 0),
  (9, .invokestatic 191, 3, 2, 117, 0, 3166),
  (12, .ifCond .eq 11, 3, 0, 0, 0, 0),
  (15, .iload 4, 2, 0, 0, 0, 0),
  (17, .invokestatic 191, 3, 2, 117, 0, 3166),
  (20, .ifCond .ne 9, 3, 0, 0, 0, 0),
  (23, .aload_n 0, 1, 0, 0, 0, 0),
  (24, .iconst 1, 1, 20, 1, 0, 0),
  (25, .invokevirtual 67, 3, 3, 109, 0, 2138),
  (28, .ireturn, 1, 0, 0, 0, 0),
  (29, .aload_n 0, 1, 0, 0, 0, 0),
  (30, .getfield 24, 3, 0, 10, 2, 2099),
  (33, .iload_n 1, 1, 0, 0, 0, 0),
  (34, .iload_n 2, 1, 0, 0, 0, 0),
  (35, .iload_n 3, 1, 0, 0, 0, 0),
  (36, .iload 4, 2, 0, 0, 0, 0),
  (38, .aload_n 0, 1, 0, 0, 0, 0),
  (39, .getfield 12, 3, 0, 10, 0, 2097),
  (42, .getfield 146, 3, 0, 6, 1, 1185),
  (45, .iconst 5, 1, 20, 5, 0, 0),
  (46, .iaload, 1, 0, 0, 0, 0),
  (47, .invokevirtual 208, 3, 3, 36, 0, 3199),
  (50, .ireturn, 1, 0, 0, 0, 0)]
/-- ThreeMagnets.ends(IIII)I -/
def mz_r81 : mz_R := (10, yX10_ends, cX10_ends, 5, (some .int), false, 5, mz_k81)
def mz_k82 : mz_K := [
  (0, .iload_n 1, 1, 0, 0, 0, 0),
  (1, .iload_n 2, 1, 0, 0, 0, 0),
  (2, .invokestatic 134, 3, 2, 116, 0, 2135),
  (5, .ifCond .ne 9, 3, 0, 0, 0, 0),
  (8, .aload_n 0, 1, 0, 0, 0, 0),
  (9, .iconst 1, 1, 20, 1, 0, 0),
  (10, .invokevirtual 67, 3, 3, 109, 0, 2138),
  (13, .ireturn, 1, 0, 0, 0, 0),
  (14, .aload_n 0, 1, 0, 0, 0, 0),
  (15, .getfield 24, 3, 0, 10, 2, 2099),
  (18, .iload_n 1, 1, 0, 0, 0, 0),
  (19, .iload_n 2, 1, 0, 0, 0, 0),
  (20, .iconst 0, 1, 20, 0, 0, 0),
  (21, .iconst 0, 1, 20, 0, 0, 0),
  (22, .aload_n 0, 1, 0, 0, 0, 0),
  (23, .getfield 12, 3, 0, 10, 0, 2097),
  (26, .getfield 146, 3, 0, 6, 1, 1185),
  (29, .iconst 5, 1, 20, 5, 0, 0),
  (30, .iaload, 1, 0, 0, 0, 0),
  (31, .invokevirtual 208, 3, 3, 36, 0, 3199),
  (34, .pop, 1, 0, 0, 0, 0),
  (35, .aload_n 0, 1, 0, 0, 0, 0),
  (36, .getfield 24, 3, 0, 10, 2, 2099),
  (39, .getfield 212, 3, 0, 4, 1, 2006),
  (42, .getfield 121, 3, 0, 0, 4, 1131),
  (45, .ireturn, 1, 0, 0, 0, 0)]
/-- ThreeMagnets.length(II)I -/
def mz_r82 : mz_R := (10, yX10_length, cX10_length, 3, (some .int), false, 3, mz_k82)
def mz_k83 : mz_K := [
  (0, .iload_n 1, 1, 0, 0, 0, 0),
  (1, .iload_n 2, 1, 0, 0, 0, 0),
  (2, .invokestatic 134, 3, 2, 116, 0, 2135),
  (5, .ifCond .ne 9, 3, 0, 0, 0, 0),
  (8, .aload_n 0, 1, 0, 0, 0, 0),
  (9, .iconst 1, 1, 20, 1, 0, 0),
  (10, .invokevirtual 67, 3, 3, 109, 0, 2138),
  (13, .ireturn, 1, 0, 0, 0, 0),
  (14, .aload_n 0, 1, 0, 0, 0, 0),
  (15, .getfield 12, 3, 0, 10, 0, 2097),
  (18, .getfield 146, 3, 0, 6, 1, 1185),
  (21, .iconst 5, 1, 20, 5, 0, 0),
  (22, .iaload, 1, 0, 0, 0, 0),
  (23, .istore_n 3, 1, 0, 0, 0, 0),
  (24, .aload_n 0, 1, 0, 0, 0, 0),
  (25, .getfield 24, 3, 0, 10, 2, 2099),
  (28, .iload_n 1, 1, 0, 0, 0, 0),
  (29, .iload_n 2, 1, 0, 0, 0, 0),
  (30, .iconst 0, 1, 20, 0, 0, 0),
  (31, .iconst 0, 1, 20, 0, 0, 0),
  (32, .iload_n 3, 1, 0, 0, 0, 0),
  (33, .invokevirtual 208, 3, 3, 36, 0, 3199),
  (36, .istore 4, 2, 0, 0, 0, 0),
  (38, .iload 4, 2, 0, 0, 0, 0),
  (40, .aload_n 0, 1, 0, 0, 0, 0),
  (41, .getfield 24, 3, 0, 10, 2, 2099),
  (44, .iload_n 1, 1, 0, 0, 0, 0),
  (45, .iload_n 2, 1, 0, 0, 0, 0),
  (46, .iconst 0, 1, 20, 0, 0, 0),
  (47, .iconst 0, 1, 20, 0, 0, 0),
  (48, .iconst 2, 1, 20, 2, 0, 0),
  (49, .iload_n 3, 1, 0, 0, 0, 0),
  (50, .imul, 1, 0, 0, 0, 0),
  (51, .invokevirtual 208, 3, 3, 36, 0, 3199),
  (54, .if_icmp .ne 7, 3, 0, 0, 0, 0),
  (57, .iconst 0, 1, 20, 0, 0, 0),
  (58, .goto 4, 3, 0, 0, 0, 0),
  (61, .iconst 1, 1, 20, 1, 0, 0),
  (62, .ireturn, 1, 0, 0, 0, 0)]
/-- ThreeMagnets.doubt(II)I -/
def mz_r83 : mz_R := (10, yX10_doubt, cX10_doubt, 5, (some .int), false, 3, mz_k83)
def mz_k84 : mz_K := [
  (0, .aload_n 0, 1, 0, 0, 0, 0),
  (1, .getfield 12, 3, 0, 10, 0, 2097),
  (4, .getfield 71, 3, 0, 6, 0, 1181),
  (7, .iload_n 1, 1, 0, 0, 0, 0),
  (8, .invokevirtual 85, 3, 3, 21, 0, 2156),
  (11, .ifCond .eq 14, 3, 0, 0, 0, 0),
  (14, .iload_n 2, 1, 0, 0, 0, 0),
  (15, .iconst 0, 1, 20, 0, 0, 0),
  (16, .sipush 999, 3, 20, 999, 0, 0),
  (19, .invokestatic 89, 3, 2, 121, 0, 2132),
  (22, .ifCond .ne 9, 3, 0, 0, 0, 0),
  (25, .aload_n 0, 1, 0, 0, 0, 0),
  (26, .iconst 1, 1, 20, 1, 0, 0),
  (27, .invokevirtual 67, 3, 3, 109, 0, 2138),
  (30, .ireturn, 1, 0, 0, 0, 0),
  (31, .aload_n 0, 1, 0, 0, 0, 0),
  (32, .getfield 12, 3, 0, 10, 0, 2097),
  (35, .getfield 71, 3, 0, 6, 0, 1181),
  (38, .getfield 112, 3, 0, 2, 1, 1045),
  (41, .iload_n 1, 1, 0, 0, 0, 0),
  (42, .iaload, 1, 0, 0, 0, 0),
  (43, .istore_n 3, 1, 0, 0, 0, 0),
  (44, .aload_n 0, 1, 0, 0, 0, 0),
  (45, .getfield 12, 3, 0, 10, 0, 2097),
  (48, .getfield 71, 3, 0, 6, 0, 1181),
  (51, .getfield 115, 3, 0, 2, 2, 1048),
  (54, .iload_n 1, 1, 0, 0, 0, 0),
  (55, .iaload, 1, 0, 0, 0, 0),
  (56, .istore 4, 2, 0, 0, 0, 0),
  (58, .aload_n 0, 1, 0, 0, 0, 0),
  (59, .getfield 12, 3, 0, 10, 0, 2097),
  (62, .getfield 146, 3, 0, 6, 1, 1185),
  (65, .iconst 5, 1, 20, 5, 0, 0),
  (66, .iaload, 1, 0, 0, 0, 0),
  (67, .istore 5, 2, 0, 0, 0, 0),
  (69, .aload_n 0, 1, 0, 0, 0, 0),
  (70, .getfield 24, 3, 0, 10, 2, 2099),
  (73, .iload_n 3, 1, 0, 0, 0, 0),
  (74, .iload 4, 2, 0, 0, 0, 0),
  (76, .iload_n 2, 1, 0, 0, 0, 0),
  (77, .iconst 0, 1, 20, 0, 0, 0),
  (78, .iload 5, 2, 0, 0, 0, 0),
  (80, .invokevirtual 208, 3, 3, 36, 0, 3199),
  (83, .iload_n 1, 1, 0, 0, 0, 0),
  (84, .if_icmp .ne 7, 3, 0, 0, 0, 0),
  (87, .iconst 1, 1, 20, 1, 0, 0),
  (88, .goto 4, 3, 0, 0, 0, 0),
  (91, .iconst 0, 1, 20, 0, 0, 0),
  (92, .istore 6, 2, 0, 0, 0, 0),
  (94, .iload 6, 2, 0, 0, 0, 0),
  (96, .aload_n 0, 1, 0, 0, 0, 0),
  (97, .getfield 24, 3, 0, 10, 2, 2099),
  (100, .iload_n 3, 1, 0, 0, 0, 0),
  (101, .iload 4, 2, 0, 0, 0, 0),
  (103, .iload_n 2, 1, 0, 0, 0, 0),
  (104, .ineg, 1, 0, 0, 0, 0),
  (105, .iconst 0, 1, 20, 0, 0, 0),
  (106, .iload 5, 2, 0, 0, 0, 0),
  (108, .invokevirtual 208, 3, 3, 36, 0, 3199),
  (111, .iload_n 1, 1, 0, 0, 0, 0),
  (112, .if_icmp .ne 7, 3, 0, 0, 0, 0),
  (115, .iconst 1, 1, 20, 1, 0, 0),
  (116, .goto 4, 3, 0, 0, 0, 0),
  (119, .iconst 0, 1, 20, 0, 0, 0),
  (120, .iadd, 1, 0, 0, 0, 0),
  (121, .istore 6, 2, 0, 0, 0, 0),
  (123, .iload 6, 2, 0, 0, 0, 0),
  (125, .aload_n 0, 1, 0, 0, 0, 0),
  (126, .getfield 24, 3, 0, 10, 2, 2099),
  (129, .iload_n 3, 1, 0, 0, 0, 0),
  (130, .iload 4, 2, 0, 0, 0, 0),
  (132, .iconst 0, 1, 20, 0, 0, 0),
  (133, .iload_n 2, 1, 0, 0, 0, 0),
  (134, .iload 5, 2, 0, 0, 0, 0),
  (136, .invokevirtual 208, 3, 3, 36, 0, 3199),
  (139, .iload_n 1, 1, 0, 0, 0, 0),
  (140, .if_icmp .ne 7, 3, 0, 0, 0, 0),
  (143, .iconst 1, 1, 20, 1, 0, 0),
  (144, .goto 4, 3, 0, 0, 0, 0),
  (147, .iconst 0, 1, 20, 0, 0, 0),
  (148, .iadd, 1, 0, 0, 0, 0),
  (149, .istore 6, 2, 0, 0, 0, 0),
  (151, .iload 6, 2, 0, 0, 0, 0),
  (153, .aload_n 0, 1, 0, 0, 0, 0),
  (154, .getfield 24, 3, 0, 10, 2, 2099),
  (157, .iload_n 3, 1, 0, 0, 0, 0),
  (158, .iload 4, 2, 0, 0, 0, 0),
  (160, .iconst 0, 1, 20, 0, 0, 0),
  (161, .iload_n 2, 1, 0, 0, 0, 0),
  (162, .ineg, 1, 0, 0, 0, 0),
  (163, .iload 5, 2, 0, 0, 0, 0),
  (165, .invokevirtual 208, 3, 3, 36, 0, 3199),
  (168, .iload_n 1, 1, 0, 0, 0, 0),
  (169, .if_icmp .ne 7, 3, 0, 0, 0, 0),
  (172, .iconst 1, 1, 20, 1, 0, 0),
  (173, .goto 4, 3, 0, 0, 0, 0),
  (176, .iconst 0, 1, 20, 0, 0, 0),
  (177, .iadd, 1, 0, 0, 0, 0),
  (178, .istore 6, 2, 0, 0, 0, 0),
  (180, .iload 6, 2, 0, 0, 0, 0),
  (182, .ireturn, 1, 0, 0, 0, 0)]
/-- ThreeMagnets.holds(II)I -/
def mz_r84 : mz_R := (10, yX10_holds, cX10_holds, 7, (some .int), false, 3, mz_k84)
def mz_k85 : mz_K := [
  (0, .iload_n 3, 1, 0, 0, 0, 0),
  (1, .bipush 10, 2, 20, 10, 0, 0),
  (3, .idiv, 1, 0, 0, 0, 0),
  (4, .istore 5, 2, 0, 0, 0, 0),
  (6, .iload_n 3, 1, 0, 0, 0, 0),
  (7, .bipush 10, 2, 20, 10, 0, 0),
  (9, .irem, 1, 0, 0, 0, 0),
  (10, .istore 6, 2, 0, 0, 0, 0),
  (12, .iload_n 1, 1, 0, 0, 0, 0),
  (13, .iload_n 2, 1, 0, 0, 0, 0),
  (14, .invokestatic 134, 3, 2, 116, 0, 2135),
  (17, .ifCond .eq 60, 3, 0, 0, 0, 0),
  (20, .iload 4, 2, 0, 0, 0, 0),
  (22, .iconst 1, 1, 20, 1, 0, 0),
  (23, .bipush 40, 2, 20, 40, 0, 0),
  (25, .invokestatic 89, 3, 2, 121, 0, 2132),
  (28, .ifCond .eq 49, 3, 0, 0, 0, 0),
  (31, .iload 5, 2, 0, 0, 0, 0),
  (33, .iconst 1, 1, 20, 1, 0, 0),
  (34, .bipush 6, 2, 20, 6, 0, 0),
  (36, .invokestatic 89, 3, 2, 121, 0, 2132),
  (39, .ifCond .eq 38, 3, 0, 0, 0, 0),
  (42, .iload 6, 2, 0, 0, 0, 0),
  (44, .iconst 1, 1, 20, 1, 0, 0),
  (45, .bipush 6, 2, 20, 6, 0, 0),
  (47, .invokestatic 89, 3, 2, 121, 0, 2132),
  (50, .ifCond .eq 27, 3, 0, 0, 0, 0),
  (53, .iload_n 1, 1, 0, 0, 0, 0),
  (54, .iload 5, 2, 0, 0, 0, 0),
  (56, .iconst 1, 1, 20, 1, 0, 0),
  (57, .isub, 1, 0, 0, 0, 0),
  (58, .iload 4, 2, 0, 0, 0, 0),
  (60, .imul, 1, 0, 0, 0, 0),
  (61, .iadd, 1, 0, 0, 0, 0),
  (62, .iload_n 2, 1, 0, 0, 0, 0),
  (63, .iload 6, 2, 0, 0, 0, 0),
  (65, .iconst 1, 1, 20, 1, 0, 0),
  (66, .isub, 1, 0, 0, 0, 0),
  (67, .iload 4, 2, 0, 0, 0, 0),
  (69, .imul, 1, 0, 0, 0, 0),
  (70, .iadd, 1, 0, 0, 0, 0),
  (71, .invokestatic 134, 3, 2, 116, 0, 2135),
  (74, .ifCond .ne 9, 3, 0, 0, 0, 0),
  (77, .aload_n 0, 1, 0, 0, 0, 0),
  (78, .iconst 1, 1, 20, 1, 0, 0),
  (79, .invokevirtual 67, 3, 3, 109, 0, 2138),
  (82, .ireturn, 1, 0, 0, 0, 0),
  (83, .aload_n 0, 1, 0, 0, 0, 0),
  (84, .getfield 12, 3, 0, 10, 0, 2097),
  (87, .getfield 215, 3, 0, 6, 7, 1198),
  (90, .astore 7, 2, 0, 0, 0, 0),
  (92, .aload 7, 2, 0, 0, 0, 0),
  (94, .iload_n 1, 1, 0, 0, 0, 0),
  (95, .iload_n 2, 1, 0, 0, 0, 0),
  (96, .iload 5, 2, 0, 0, 0, 0),
  (98, .iload 6, 2, 0, 0, 0, 0),
  (100, .iload 4, 2, 0, 0, 0, 0),
  (102, .invokevirtual 219, 3, 3, 5, 0, 3222),
  (105, .iconst 0, 1, 20, 0, 0, 0),
  (106, .istore 8, 2, 0, 0, 0, 0),
  (108, .iload 8, 2, 0, 0, 0, 0),
  (110, .iload 6, 2, 0, 0, 0, 0),
  (112, .if_icmp .ge 80, 3, 0, 0, 0, 0),
  (115, .iconst 0, 1, 20, 0, 0, 0),
  (116, .istore 9, 2, 0, 0, 0, 0),
  (118, .iload 9, 2, 0, 0, 0, 0),
  (120, .iload 5, 2, 0, 0, 0, 0),
  (122, .if_icmp .ge 64, 3, 0, 0, 0, 0),
  (125, .aload_n 0, 1, 0, 0, 0, 0),
  (126, .getfield 24, 3, 0, 10, 2, 2099),
  (129, .iload_n 1, 1, 0, 0, 0, 0),
  (130, .iload 9, 2, 0, 0, 0, 0),
  (132, .iload 4, 2, 0, 0, 0, 0),
  (134, .imul, 1, 0, 0, 0, 0),
  (135, .iadd, 1, 0, 0, 0, 0),
  (136, .iload_n 2, 1, 0, 0, 0, 0),
  (137, .iload 8, 2, 0, 0, 0, 0),
  (139, .iload 4, 2, 0, 0, 0, 0),
  (141, .imul, 1, 0, 0, 0, 0),
  (142, .iadd, 1, 0, 0, 0, 0),
  (143, .iconst 0, 1, 20, 0, 0, 0),
  (144, .iconst 0, 1, 20, 0, 0, 0),
  (145, .aload_n 0, 1, 0, 0, 0, 0),
  (146, .getfield 12, 3, 0, 10, 0, 2097),
  (149, .getfield 146, 3, 0, 6, 1, 1185),
  (152, .iconst 5, 1, 20, 5, 0, 0),
  (153, .iaload, 1, 0, 0, 0, 0),
  (154, .invokevirtual 208, 3, 3, 36, 0, 3199),
  (157, .istore 10, 2, 0, 0, 0, 0),
  (159, .aload 7, 2, 0, 0, 0, 0),
  (161, .iload 9, 2, 0, 0, 0, 0),
  (163, .iload 8, 2, 0, 0, 0, 0),
  (165, .iload 10, 2, 0, 0, 0, 0),
  (167, .aload_n 0, 1, 0, 0, 0, 0),
  (168, .getfield 24, 3, 0, 10, 2, 2099),
  (171, .getfield 212, 3, 0, 4, 1, 2006),
  (174, .getfield 121, 3, 0, 0, 4, 1131),
  (177, .invokevirtual 225, 3, 3, 6, 0, 3226),
  (180, .iinc 9 1, 3, 20, 1, 0, 0),
  (183, .goto (-65), 3, 0, 0, 0, 0),
  (186, .iinc 8 1, 3, 20, 1, 0, 0),
  (189, .goto (-81), 3, 0, 0, 0, 0),
  (192, .aload 7, 2, 0, 0, 0, 0),
  (194, .invokevirtual 228, 3, 3, 11, 0, 3234),
  (197, .ireturn, 1, 0, 0, 0, 0)]
/-- ThreeMagnets.picture(IIII)I -/
def mz_r85 : mz_R := (10, yX10_picture, cX10_picture, 11, (some .int), false, 5, mz_k85)
def mz_k86 : mz_K := [
  (0, .aload_n 0, 1, 0, 0, 0, 0),
  (1, .getfield 12, 3, 0, 10, 0, 2097),
  (4, .getfield 215, 3, 0, 6, 7, 1198),
  (7, .invokevirtual 232, 3, 3, 2, 0, 4014),
  (10, .ifCond .ne 9, 3, 0, 0, 0, 0),
  (13, .aload_n 0, 1, 0, 0, 0, 0),
  (14, .iconst 2, 1, 20, 2, 0, 0),
  (15, .invokevirtual 67, 3, 3, 109, 0, 2138),
  (18, .ireturn, 1, 0, 0, 0, 0),
  (19, .aload_n 0, 1, 0, 0, 0, 0),
  (20, .getfield 12, 3, 0, 10, 0, 2097),
  (23, .getfield 215, 3, 0, 6, 7, 1198),
  (26, .iload_n 1, 1, 0, 0, 0, 0),
  (27, .iload_n 2, 1, 0, 0, 0, 0),
  (28, .invokevirtual 235, 3, 3, 4, 0, 4018),
  (31, .ifCond .ne 9, 3, 0, 0, 0, 0),
  (34, .aload_n 0, 1, 0, 0, 0, 0),
  (35, .iconst 1, 1, 20, 1, 0, 0),
  (36, .invokevirtual 67, 3, 3, 109, 0, 2138),
  (39, .ireturn, 1, 0, 0, 0, 0),
  (40, .aload_n 0, 1, 0, 0, 0, 0),
  (41, .getfield 12, 3, 0, 10, 0, 2097),
  (44, .getfield 215, 3, 0, 6, 7, 1198),
  (47, .iload_n 1, 1, 0, 0, 0, 0),
  (48, .iload_n 2, 1, 0, 0, 0, 0),
  (49, .invokevirtual 237, 3, 3, 7, 0, 4019),
  (52, .ireturn, 1, 0, 0, 0, 0)]
/-- ThreeMagnets.cell(II)I -/
def mz_r86 : mz_R := (10, yX10_cell, cX10_cell, 3, (some .int), false, 3, mz_k86)
def mz_k87 : mz_K := [
  (0, .iload_n 1, 1, 0, 0, 0, 0),
  (1, .invokestatic 241, 3, 2, 118, 0, 4024),
  (4, .ifCond .ne 9, 3, 0, 0, 0, 0),
  (7, .aload_n 0, 1, 0, 0, 0, 0),
  (8, .iconst 1, 1, 20, 1, 0, 0),
  (9, .invokevirtual 67, 3, 3, 109, 0, 2138),
  (12, .ireturn, 1, 0, 0, 0, 0),
  (13, .aload_n 0, 1, 0, 0, 0, 0),
  (14, .getfield 12, 3, 0, 10, 0, 2097),
  (17, .getfield 215, 3, 0, 6, 7, 1198),
  (20, .invokevirtual 232, 3, 3, 2, 0, 4014),
  (23, .ifCond .ne 9, 3, 0, 0, 0, 0),
  (26, .aload_n 0, 1, 0, 0, 0, 0),
  (27, .iconst 2, 1, 20, 2, 0, 0),
  (28, .invokevirtual 67, 3, 3, 109, 0, 2138),
  (31, .ireturn, 1, 0, 0, 0, 0),
  (32, .aload_n 0, 1, 0, 0, 0, 0),
  (33, .getfield 12, 3, 0, 10, 0, 2097),
  (36, .getfield 215, 3, 0, 6, 7, 1198),
  (39, .iload_n 1, 1, 0, 0, 0, 0),
  (40, .invokevirtual 244, 3, 3, 9, 0, 4027),
  (43, .ireturn, 1, 0, 0, 0, 0)]
/-- ThreeMagnets.share(I)I -/
def mz_r87 : mz_R := (10, yX10_share, cX10_share, 2, (some .int), false, 2, mz_k87)
def mz_k88 : mz_K := [
  (0, .aload_n 0, 1, 0, 0, 0, 0),
  (1, .getfield 12, 3, 0, 10, 0, 2097),
  (4, .getfield 215, 3, 0, 6, 7, 1198),
  (7, .invokevirtual 232, 3, 3, 2, 0, 4014),
  (10, .ifCond .ne 9, 3, 0, 0, 0, 0),
  (13, .aload_n 0, 1, 0, 0, 0, 0),
  (14, .iconst 2, 1, 20, 2, 0, 0),
  (15, .invokevirtual 67, 3, 3, 109, 0, 2138),
  (18, .ireturn, 1, 0, 0, 0, 0),
  (19, .aload_n 0, 1, 0, 0, 0, 0),
  (20, .getfield 12, 3, 0, 10, 0, 2097),
  (23, .getfield 215, 3, 0, 6, 7, 1198),
  (26, .iload_n 1, 1, 0, 0, 0, 0),
  (27, .iload_n 2, 1, 0, 0, 0, 0),
  (28, .invokevirtual 235, 3, 3, 4, 0, 4018),
  (31, .ifCond .ne 9, 3, 0, 0, 0, 0),
  (34, .aload_n 0, 1, 0, 0, 0, 0),
  (35, .iconst 1, 1, 20, 1, 0, 0),
  (36, .invokevirtual 67, 3, 3, 109, 0, 2138),
  (39, .ireturn, 1, 0, 0, 0, 0),
  (40, .aload_n 0, 1, 0, 0, 0, 0),
  (41, .getfield 12, 3, 0, 10, 0, 2097),
  (44, .getfield 215, 3, 0, 6, 7, 1198),
  (47, .iload_n 1, 1, 0, 0, 0, 0),
  (48, .iload_n 2, 1, 0, 0, 0, 0),
  (49, .invokevirtual 247, 3, 3, 12, 0, 4032),
  (52, .ifCond .eq 7, 3, 0, 0, 0, 0),
  (55, .iconst 1, 1, 20, 1, 0, 0),
  (56, .goto 4, 3, 0, 0, 0, 0),
  (59, .iconst 0, 1, 20, 0, 0, 0),
  (60, .ireturn, 1, 0, 0, 0, 0)]
/-- ThreeMagnets.edge(II)I -/
def mz_r88 : mz_R := (10, yX10_edge, cX10_edge, 3, (some .int), false, 3, mz_k88)
def mz_k89 : mz_K := [
  (0, .iload_n 1, 1, 0, 0, 0, 0),
  (1, .iconst 0, 1, 20, 0, 0, 0),
  (2, .iconst 3, 1, 20, 3, 0, 0),
  (3, .invokestatic 89, 3, 2, 121, 0, 2132),
  (6, .ifCond .ne 9, 3, 0, 0, 0, 0),
  (9, .aload_n 0, 1, 0, 0, 0, 0),
  (10, .iconst 1, 1, 20, 1, 0, 0),
  (11, .invokevirtual 67, 3, 3, 109, 0, 2138),
  (14, .ireturn, 1, 0, 0, 0, 0),
  (15, .aload_n 0, 1, 0, 0, 0, 0),
  (16, .getfield 12, 3, 0, 10, 0, 2097),
  (19, .getfield 215, 3, 0, 6, 7, 1198),
  (22, .invokevirtual 232, 3, 3, 2, 0, 4014),
  (25, .ifCond .ne 9, 3, 0, 0, 0, 0),
  (28, .aload_n 0, 1, 0, 0, 0, 0),
  (29, .iconst 2, 1, 20, 2, 0, 0),
  (30, .invokevirtual 67, 3, 3, 109, 0, 2138),
  (33, .ireturn, 1, 0, 0, 0, 0),
  (34, .iload_n 1, 1, 0, 0, 0, 0),
  (35, .tableswitch 52 0 2 #[25, 36, 47], 25, 0, 0, 0, 0),
  (60, .aload_n 0, 1, 0, 0, 0, 0),
  (61, .getfield 12, 3, 0, 10, 0, 2097),
  (64, .getfield 215, 3, 0, 6, 7, 1198),
  (67, .invokevirtual 250, 3, 3, 14, 0, 4044),
  (70, .ireturn, 1, 0, 0, 0, 0),
  (71, .aload_n 0, 1, 0, 0, 0, 0),
  (72, .getfield 12, 3, 0, 10, 0, 2097),
  (75, .getfield 215, 3, 0, 6, 7, 1198),
  (78, .invokevirtual 253, 3, 3, 15, 0, 4049),
  (81, .ireturn, 1, 0, 0, 0, 0),
  (82, .aload_n 0, 1, 0, 0, 0, 0),
  (83, .invokevirtual 256, 3, 3, 110, 0, 4057),
  (86, .ireturn, 1, 0, 0, 0, 0),
  (87, .aload_n 0, 1, 0, 0, 0, 0),
  (88, .getfield 12, 3, 0, 10, 0, 2097),
  (91, .getfield 215, 3, 0, 6, 7, 1198),
  (94, .invokevirtual 259, 3, 3, 17, 0, 4061),
  (97, .ireturn, 1, 0, 0, 0, 0)]
/-- ThreeMagnets.seen(I)I -/
def mz_r89 : mz_R := (10, yX10_seen, cX10_seen, 2, (some .int), false, 2, mz_k89)
def mz_k90 : mz_K := [
  (0, .iload_n 1, 1, 0, 0, 0, 0),
  (1, .invokestatic 241, 3, 2, 118, 0, 4024),
  (4, .ifCond .eq 21, 3, 0, 0, 0, 0),
  (7, .iload_n 2, 1, 0, 0, 0, 0),
  (8, .iconst 0, 1, 20, 0, 0, 0),
  (9, .iconst 5, 1, 20, 5, 0, 0),
  (10, .invokestatic 89, 3, 2, 121, 0, 2132),
  (13, .ifCond .eq 12, 3, 0, 0, 0, 0),
  (16, .iload_n 3, 1, 0, 0, 0, 0),
  (17, .iconst 0, 1, 20, 0, 0, 0),
  (18, .iconst 1, 1, 20, 1, 0, 0),
  (19, .invokestatic 89, 3, 2, 121, 0, 2132),
  (22, .ifCond .ne 9, 3, 0, 0, 0, 0),
  (25, .aload_n 0, 1, 0, 0, 0, 0),
  (26, .iconst 1, 1, 20, 1, 0, 0),
  (27, .invokevirtual 67, 3, 3, 109, 0, 2138),
  (30, .ireturn, 1, 0, 0, 0, 0),
  (31, .aload_n 0, 1, 0, 0, 0, 0),
  (32, .getfield 12, 3, 0, 10, 0, 2097),
  (35, .getfield 215, 3, 0, 6, 7, 1198),
  (38, .astore 4, 2, 0, 0, 0, 0),
  (40, .aload 4, 2, 0, 0, 0, 0),
  (42, .invokevirtual 232, 3, 3, 2, 0, 4014),
  (45, .ifCond .ne 9, 3, 0, 0, 0, 0),
  (48, .aload_n 0, 1, 0, 0, 0, 0),
  (49, .iconst 2, 1, 20, 2, 0, 0),
  (50, .invokevirtual 67, 3, 3, 109, 0, 2138),
  (53, .ireturn, 1, 0, 0, 0, 0),
  (54, .iconst (-1), 1, 21, 1, 0, 0),
  (55, .istore 5, 2, 0, 0, 0, 0),
  (57, .iconst 0, 1, 20, 0, 0, 0),
  (58, .istore 6, 2, 0, 0, 0, 0),
  (60, .iconst 0, 1, 20, 0, 0, 0),
  (61, .istore 7, 2, 0, 0, 0, 0),
  (63, .iload 7, 2, 0, 0, 0, 0),
  (65, .aload 4, 2, 0, 0, 0, 0),
  (67, .getfield 262, 3, 0, 1, 3, 1159),
  (70, .if_icmp .ge 62, 3, 0, 0, 0, 0),
  (73, .iconst 0, 1, 20, 0, 0, 0),
  (74, .istore 8, 2, 0, 0, 0, 0),
  (76, .iload 8, 2, 0, 0, 0, 0),
  (78, .aload 4, 2, 0, 0, 0, 0),
  (80, .getfield 265, 3, 0, 1, 2, 1157),
  (83, .if_icmp .ge 43, 3, 0, 0, 0, 0),
  (86, .aload 4, 2, 0, 0, 0, 0),
  (88, .iload 8, 2, 0, 0, 0, 0),
  (90, .iload 7, 2, 0, 0, 0, 0),
  (92, .iload_n 2, 1, 0, 0, 0, 0),
  (93, .iload_n 1, 1, 0, 0, 0, 0),
  (94, .invokevirtual 268, 3, 3, 10, 0, 4073),
  (97, .istore 9, 2, 0, 0, 0, 0),
  (99, .iload 9, 2, 0, 0, 0, 0),
  (101, .iload 5, 2, 0, 0, 0, 0),
  (103, .if_icmp .le 17, 3, 0, 0, 0, 0),
  (106, .iload 9, 2, 0, 0, 0, 0),
  (108, .istore 5, 2, 0, 0, 0, 0),
  (110, .bipush 10, 2, 20, 10, 0, 0),
  (112, .iload 8, 2, 0, 0, 0, 0),
  (114, .imul, 1, 0, 0, 0, 0),
  (115, .iload 7, 2, 0, 0, 0, 0),
  (117, .iadd, 1, 0, 0, 0, 0),
  (118, .istore 6, 2, 0, 0, 0, 0),
  (120, .iinc 8 1, 3, 20, 1, 0, 0),
  (123, .goto (-47), 3, 0, 0, 0, 0),
  (126, .iinc 7 1, 3, 20, 1, 0, 0),
  (129, .goto (-66), 3, 0, 0, 0, 0),
  (132, .iload_n 3, 1, 0, 0, 0, 0),
  (133, .ifCond .ne 8, 3, 0, 0, 0, 0),
  (136, .iload 6, 2, 0, 0, 0, 0),
  (138, .goto 5, 3, 0, 0, 0, 0),
  (141, .iload 5, 2, 0, 0, 0, 0),
  (143, .ireturn, 1, 0, 0, 0, 0)]
/-- ThreeMagnets.sure(III)I -/
def mz_r90 : mz_R := (10, yX10_sure, cX10_sure, 10, (some .int), false, 4, mz_k90)
def mz_k91 : mz_K := [
  (0, .iload_n 1, 1, 0, 0, 0, 0),
  (1, .iconst 0, 1, 20, 0, 0, 0),
  (2, .iconst 3, 1, 20, 3, 0, 0),
  (3, .invokestatic 89, 3, 2, 121, 0, 2132),
  (6, .ifCond .ne 9, 3, 0, 0, 0, 0),
  (9, .aload_n 0, 1, 0, 0, 0, 0),
  (10, .iconst 1, 1, 20, 1, 0, 0),
  (11, .invokevirtual 67, 3, 3, 109, 0, 2138),
  (14, .ireturn, 1, 0, 0, 0, 0),
  (15, .aload_n 0, 1, 0, 0, 0, 0),
  (16, .getfield 12, 3, 0, 10, 0, 2097),
  (19, .getfield 215, 3, 0, 6, 7, 1198),
  (22, .invokevirtual 232, 3, 3, 2, 0, 4014),
  (25, .ifCond .ne 9, 3, 0, 0, 0, 0),
  (28, .aload_n 0, 1, 0, 0, 0, 0),
  (29, .iconst 2, 1, 20, 2, 0, 0),
  (30, .invokevirtual 67, 3, 3, 109, 0, 2138),
  (33, .ireturn, 1, 0, 0, 0, 0),
  (34, .aload_n 0, 1, 0, 0, 0, 0),
  (35, .getfield 12, 3, 0, 10, 0, 2097),
  (38, .getfield 215, 3, 0, 6, 7, 1198),
  (41, .getfield 265, 3, 0, 1, 2, 1157),
  (44, .aload_n 0, 1, 0, 0, 0, 0),
  (45, .getfield 12, 3, 0, 10, 0, 2097),
  (48, .getfield 215, 3, 0, 6, 7, 1198),
  (51, .getfield 262, 3, 0, 1, 3, 1159),
  (54, .if_icmp .eq 9, 3, 0, 0, 0, 0),
  (57, .aload_n 0, 1, 0, 0, 0, 0),
  (58, .iconst 3, 1, 20, 3, 0, 0),
  (59, .invokevirtual 67, 3, 3, 109, 0, 2138),
  (62, .ireturn, 1, 0, 0, 0, 0),
  (63, .aload_n 0, 1, 0, 0, 0, 0),
  (64, .getfield 12, 3, 0, 10, 0, 2097),
  (67, .getfield 215, 3, 0, 6, 7, 1198),
  (70, .iload_n 1, 1, 0, 0, 0, 0),
  (71, .invokevirtual 271, 3, 3, 18, 0, 4078),
  (74, .ifCond .eq 7, 3, 0, 0, 0, 0),
  (77, .iconst 1, 1, 20, 1, 0, 0),
  (78, .goto 4, 3, 0, 0, 0, 0),
  (81, .iconst 0, 1, 20, 0, 0, 0),
  (82, .ireturn, 1, 0, 0, 0, 0)]
/-- ThreeMagnets.turned(I)I -/
def mz_r91 : mz_R := (10, yX10_turned, cX10_turned, 2, (some .int), false, 2, mz_k91)
def mz_k92 : mz_K := [
  (0, .iload_n 1, 1, 0, 0, 0, 0),
  (1, .iconst 0, 1, 20, 0, 0, 0),
  (2, .iconst 1, 1, 20, 1, 0, 0),
  (3, .invokestatic 89, 3, 2, 121, 0, 2132),
  (6, .ifCond .ne 9, 3, 0, 0, 0, 0),
  (9, .aload_n 0, 1, 0, 0, 0, 0),
  (10, .iconst 1, 1, 20, 1, 0, 0),
  (11, .invokevirtual 67, 3, 3, 109, 0, 2138),
  (14, .ireturn, 1, 0, 0, 0, 0),
  (15, .aload_n 0, 1, 0, 0, 0, 0),
  (16, .getfield 12, 3, 0, 10, 0, 2097),
  (19, .getfield 215, 3, 0, 6, 7, 1198),
  (22, .invokevirtual 232, 3, 3, 2, 0, 4014),
  (25, .ifCond .eq 16, 3, 0, 0, 0, 0),
  (28, .aload_n 0, 1, 0, 0, 0, 0),
  (29, .getfield 12, 3, 0, 10, 0, 2097),
  (32, .getfield 71, 3, 0, 6, 0, 1181),
  (35, .getfield 137, 3, 0, 2, 4, 1055),
  (38, .ifCond .gt 9, 3, 0, 0, 0, 0),
  (41, .aload_n 0, 1, 0, 0, 0, 0),
  (42, .iconst 2, 1, 20, 2, 0, 0),
  (43, .invokevirtual 67, 3, 3, 109, 0, 2138),
  (46, .ireturn, 1, 0, 0, 0, 0),
  (47, .iconst 0, 1, 20, 0, 0, 0),
  (48, .istore_n 2, 1, 0, 0, 0, 0),
  (49, .bipush 36, 2, 20, 36, 0, 0),
  (51, .istore_n 3, 1, 0, 0, 0, 0),
  (52, .iconst 0, 1, 20, 0, 0, 0),
  (53, .istore 4, 2, 0, 0, 0, 0),
  (55, .iload 4, 2, 0, 0, 0, 0),
  (57, .aload_n 0, 1, 0, 0, 0, 0),
  (58, .getfield 12, 3, 0, 10, 0, 2097),
  (61, .getfield 71, 3, 0, 6, 0, 1181),
  (64, .getfield 137, 3, 0, 2, 4, 1055),
  (67, .if_icmp .ge 37, 3, 0, 0, 0, 0),
  (70, .aload_n 0, 1, 0, 0, 0, 0),
  (71, .getfield 12, 3, 0, 10, 0, 2097),
  (74, .getfield 215, 3, 0, 6, 7, 1198),
  (77, .iload 4, 2, 0, 0, 0, 0),
  (79, .invokevirtual 244, 3, 3, 9, 0, 4027),
  (82, .istore 5, 2, 0, 0, 0, 0),
  (84, .iload_n 2, 1, 0, 0, 0, 0),
  (85, .iload 5, 2, 0, 0, 0, 0),
  (87, .invokestatic 274, 3, 9, 0, 0, 2194),
  (90, .istore_n 2, 1, 0, 0, 0, 0),
  (91, .iload_n 3, 1, 0, 0, 0, 0),
  (92, .iload 5, 2, 0, 0, 0, 0),
  (94, .invokestatic 279, 3, 10, 0, 0, 2191),
  (97, .istore_n 3, 1, 0, 0, 0, 0),
  (98, .iinc 4 1, 3, 20, 1, 0, 0),
  (101, .goto (-46), 3, 0, 0, 0, 0),
  (104, .iload_n 2, 1, 0, 0, 0, 0),
  (105, .iload_n 3, 1, 0, 0, 0, 0),
  (106, .isub, 1, 0, 0, 0, 0),
  (107, .istore 4, 2, 0, 0, 0, 0),
  (109, .aload_n 0, 1, 0, 0, 0, 0),
  (110, .getfield 12, 3, 0, 10, 0, 2097),
  (113, .getfield 215, 3, 0, 6, 7, 1198),
  (116, .invokevirtual 282, 3, 3, 3, 0, 4094),
  (119, .istore 5, 2, 0, 0, 0, 0),
  (121, .iload 4, 2, 0, 0, 0, 0),
  (123, .iload 5, 2, 0, 0, 0, 0),
  (125, .invokestatic 285, 3, 2, 124, 0, 4095),
  (128, .istore 6, 2, 0, 0, 0, 0),
  (130, .iload_n 1, 1, 0, 0, 0, 0),
  (131, .ifCond .ne 8, 3, 0, 0, 0, 0),
  (134, .iload 4, 2, 0, 0, 0, 0),
  (136, .goto 5, 3, 0, 0, 0, 0),
  (139, .iload 5, 2, 0, 0, 0, 0),
  (141, .iload 6, 2, 0, 0, 0, 0),
  (143, .invokestatic 288, 3, 2, 123, 0, 4098),
  (146, .ireturn, 1, 0, 0, 0, 0)]
/-- ThreeMagnets.fair(I)I -/
def mz_r92 : mz_R := (10, yX10_fair, cX10_fair, 7, (some .int), false, 2, mz_k92)
def mz_k93 : mz_K := [
  (0, .iload_n 1, 1, 0, 0, 0, 0),
  (1, .iconst 0, 1, 20, 0, 0, 0),
  (2, .iconst 1, 1, 20, 1, 0, 0),
  (3, .invokestatic 89, 3, 2, 121, 0, 2132),
  (6, .ifCond .ne 9, 3, 0, 0, 0, 0),
  (9, .aload_n 0, 1, 0, 0, 0, 0),
  (10, .iconst 1, 1, 20, 1, 0, 0),
  (11, .invokevirtual 67, 3, 3, 109, 0, 2138),
  (14, .ireturn, 1, 0, 0, 0, 0),
  (15, .aload_n 0, 1, 0, 0, 0, 0),
  (16, .getfield 12, 3, 0, 10, 0, 2097),
  (19, .getfield 215, 3, 0, 6, 7, 1198),
  (22, .astore_n 2, 1, 0, 0, 0, 0),
  (23, .aload_n 2, 1, 0, 0, 0, 0),
  (24, .invokevirtual 232, 3, 3, 2, 0, 4014),
  (27, .ifCond .ne 9, 3, 0, 0, 0, 0),
  (30, .aload_n 0, 1, 0, 0, 0, 0),
  (31, .iconst 2, 1, 20, 2, 0, 0),
  (32, .invokevirtual 67, 3, 3, 109, 0, 2138),
  (35, .ireturn, 1, 0, 0, 0, 0),
  (36, .aload_n 0, 1, 0, 0, 0, 0),
  (37, .getfield 24, 3, 0, 10, 2, 2099),
  (40, .iconst 0, 1, 20, 0, 0, 0),
  (41, .iconst 0, 1, 20, 0, 0, 0),
  (42, .invokevirtual 291, 3, 3, 44, 0, 4103),
  (45, .istore_n 3, 1, 0, 0, 0, 0),
  (46, .iconst 0, 1, 20, 0, 0, 0),
  (47, .istore 4, 2, 0, 0, 0, 0),
  (49, .iconst 0, 1, 20, 0, 0, 0),
  (50, .istore 5, 2, 0, 0, 0, 0),
  (52, .iload 5, 2, 0, 0, 0, 0),
  (54, .aload_n 2, 1, 0, 0, 0, 0),
  (55, .getfield 262, 3, 0, 1, 3, 1159),
  (58, .if_icmp .ge 59, 3, 0, 0, 0, 0),
  (61, .iconst 0, 1, 20, 0, 0, 0),
  (62, .istore 6, 2, 0, 0, 0, 0),
  (64, .iload 6, 2, 0, 0, 0, 0),
  (66, .aload_n 2, 1, 0, 0, 0, 0),
  (67, .getfield 265, 3, 0, 1, 2, 1157),
  (70, .if_icmp .ge 41, 3, 0, 0, 0, 0),
  (73, .aload_n 0, 1, 0, 0, 0, 0),
  (74, .getfield 24, 3, 0, 10, 2, 2099),
  (77, .iload 6, 2, 0, 0, 0, 0),
  (79, .iload 5, 2, 0, 0, 0, 0),
  (81, .invokevirtual 291, 3, 3, 44, 0, 4103),
  (84, .istore 7, 2, 0, 0, 0, 0),
  (86, .iload 7, 2, 0, 0, 0, 0),
  (88, .iload_n 3, 1, 0, 0, 0, 0),
  (89, .if_icmp .le 16, 3, 0, 0, 0, 0),
  (92, .iload 7, 2, 0, 0, 0, 0),
  (94, .istore_n 3, 1, 0, 0, 0, 0),
  (95, .bipush 10, 2, 20, 10, 0, 0),
  (97, .iload 6, 2, 0, 0, 0, 0),
  (99, .imul, 1, 0, 0, 0, 0),
  (100, .iload 5, 2, 0, 0, 0, 0),
  (102, .iadd, 1, 0, 0, 0, 0),
  (103, .istore 4, 2, 0, 0, 0, 0),
  (105, .iinc 6 1, 3, 20, 1, 0, 0),
  (108, .goto (-44), 3, 0, 0, 0, 0),
  (111, .iinc 5 1, 3, 20, 1, 0, 0),
  (114, .goto (-62), 3, 0, 0, 0, 0),
  (117, .iload_n 1, 1, 0, 0, 0, 0),
  (118, .ifCond .ne 8, 3, 0, 0, 0, 0),
  (121, .iload 4, 2, 0, 0, 0, 0),
  (123, .goto 4, 3, 0, 0, 0, 0),
  (126, .iload_n 3, 1, 0, 0, 0, 0),
  (127, .ireturn, 1, 0, 0, 0, 0)]
/-- ThreeMagnets.want(I)I -/
def mz_r93 : mz_R := (10, yX10_want, cX10_want, 8, (some .int), false, 2, mz_k93)
def mz_k94 : mz_K := [
  (0, .iload_n 1, 1, 0, 0, 0, 0),
  (1, .iload_n 2, 1, 0, 0, 0, 0),
  (2, .invokestatic 134, 3, 2, 116, 0, 2135),
  (5, .ifCond .eq 24, 3, 0, 0, 0, 0),
  (8, .iload_n 3, 1, 0, 0, 0, 0),
  (9, .iconst 0, 1, 20, 0, 0, 0),
  (10, .bipush 50, 2, 20, 50, 0, 0),
  (12, .invokestatic 89, 3, 2, 121, 0, 2132),
  (15, .ifCond .eq 14, 3, 0, 0, 0, 0),
  (18, .iload 4, 2, 0, 0, 0, 0),
  (20, .iconst 1, 1, 20, 1, 0, 0),
  (21, .bipush 40, 2, 20, 40, 0, 0),
  (23, .invokestatic 89, 3, 2, 121, 0, 2132),
  (26, .ifCond .ne 9, 3, 0, 0, 0, 0),
  (29, .aload_n 0, 1, 0, 0, 0, 0),
  (30, .iconst 1, 1, 20, 1, 0, 0),
  (31, .invokevirtual 67, 3, 3, 109, 0, 2138),
  (34, .ireturn, 1, 0, 0, 0, 0),
  (35, .aload_n 0, 1, 0, 0, 0, 0),
  (36, .getfield 12, 3, 0, 10, 0, 2097),
  (39, .getfield 294, 3, 0, 6, 8, 1200),
  (42, .astore 5, 2, 0, 0, 0, 0),
  (44, .aload 5, 2, 0, 0, 0, 0),
  (46, .invokestatic 297, 3, 2, 125, 0, 4114),
  (49, .aload_n 0, 1, 0, 0, 0, 0),
  (50, .getfield 12, 3, 0, 10, 0, 2097),
  (53, .iconst 1, 1, 20, 1, 0, 0),
  (54, .putfield 301, 3, 0, 6, 9, 1202),
  (57, .iconst 0, 1, 20, 0, 0, 0),
  (58, .istore 6, 2, 0, 0, 0, 0),
  (60, .iload 6, 2, 0, 0, 0, 0),
  (62, .iload 4, 2, 0, 0, 0, 0),
  (64, .if_icmp .ge 85, 3, 0, 0, 0, 0),
  (67, .iload_n 1, 1, 0, 0, 0, 0),
  (68, .aload_n 0, 1, 0, 0, 0, 0),
  (69, .iload_n 3, 1, 0, 0, 0, 0),
  (70, .invokevirtual 305, 3, 3, 111, 0, 4117),
  (73, .iadd, 1, 0, 0, 0, 0),
  (74, .bipush (-100), 2, 21, 100, 0, 0),
  (76, .bipush 100, 2, 20, 100, 0, 0),
  (78, .invokestatic 308, 3, 2, 122, 0, 4122),
  (81, .istore 7, 2, 0, 0, 0, 0),
  (83, .iload_n 2, 1, 0, 0, 0, 0),
  (84, .aload_n 0, 1, 0, 0, 0, 0),
  (85, .iload_n 3, 1, 0, 0, 0, 0),
  (86, .invokevirtual 305, 3, 3, 111, 0, 4117),
  (89, .iadd, 1, 0, 0, 0, 0),
  (90, .bipush (-100), 2, 21, 100, 0, 0),
  (92, .bipush 100, 2, 20, 100, 0, 0),
  (94, .invokestatic 308, 3, 2, 122, 0, 4122),
  (97, .istore 8, 2, 0, 0, 0, 0),
  (99, .aload_n 0, 1, 0, 0, 0, 0),
  (100, .getfield 24, 3, 0, 10, 2, 2099),
  (103, .iload 7, 2, 0, 0, 0, 0),
  (105, .iload 8, 2, 0, 0, 0, 0),
  (107, .iconst 0, 1, 20, 0, 0, 0),
  (108, .iconst 0, 1, 20, 0, 0, 0),
  (109, .aload_n 0, 1, 0, 0, 0, 0),
  (110, .getfield 12, 3, 0, 10, 0, 2097),
  (113, .getfield 146, 3, 0, 6, 1, 1185),
  (116, .iconst 5, 1, 20, 5, 0, 0),
  (117, .iaload, 1, 0, 0, 0, 0),
  (118, .invokevirtual 208, 3, 3, 36, 0, 3199),
  (121, .istore 9, 2, 0, 0, 0, 0),
  (123, .iload 9, 2, 0, 0, 0, 0),
  (125, .iconst 0, 1, 20, 0, 0, 0),
  (126, .bipush 9, 2, 20, 9, 0, 0),
  (128, .invokestatic 89, 3, 2, 121, 0, 2132),
  (131, .ifCond .eq 12, 3, 0, 0, 0, 0),
  (134, .aload 5, 2, 0, 0, 0, 0),
  (136, .iload 9, 2, 0, 0, 0, 0),
  (138, .dup2, 1, 0, 0, 0, 0),
  (139, .iaload, 1, 0, 0, 0, 0),
  (140, .iconst 1, 1, 20, 1, 0, 0),
  (141, .iadd, 1, 0, 0, 0, 0),
  (142, .iastore, 1, 0, 0, 0, 0),
  (143, .iinc 6 1, 3, 20, 1, 0, 0),
  (146, .goto (-86), 3, 0, 0, 0, 0),
  (149, .iload 4, 2, 0, 0, 0, 0),
  (151, .aload 5, 2, 0, 0, 0, 0),
  (153, .bipush 9, 2, 20, 9, 0, 0),
  (155, .iaload, 1, 0, 0, 0, 0),
  (156, .isub, 1, 0, 0, 0, 0),
  (157, .ireturn, 1, 0, 0, 0, 0)]
/-- ThreeMagnets.throwsOf(IIII)I -/
def mz_r94 : mz_R := (10, yX10_throwsOf, cX10_throwsOf, 10, (some .int), false, 5, mz_k94)
def mz_k95 : mz_K := [
  (0, .iload_n 1, 1, 0, 0, 0, 0),
  (1, .invokestatic 241, 3, 2, 118, 0, 4024),
  (4, .ifCond .ne 9, 3, 0, 0, 0, 0),
  (7, .aload_n 0, 1, 0, 0, 0, 0),
  (8, .iconst 1, 1, 20, 1, 0, 0),
  (9, .invokevirtual 67, 3, 3, 109, 0, 2138),
  (12, .ireturn, 1, 0, 0, 0, 0),
  (13, .aload_n 0, 1, 0, 0, 0, 0),
  (14, .getfield 12, 3, 0, 10, 0, 2097),
  (17, .getfield 301, 3, 0, 6, 9, 1202),
  (20, .ifCond .ne 9, 3, 0, 0, 0, 0),
  (23, .aload_n 0, 1, 0, 0, 0, 0),
  (24, .iconst 2, 1, 20, 2, 0, 0),
  (25, .invokevirtual 67, 3, 3, 109, 0, 2138),
  (28, .ireturn, 1, 0, 0, 0, 0),
  (29, .aload_n 0, 1, 0, 0, 0, 0),
  (30, .getfield 12, 3, 0, 10, 0, 2097),
  (33, .getfield 294, 3, 0, 6, 8, 1200),
  (36, .iload_n 1, 1, 0, 0, 0, 0),
  (37, .iaload, 1, 0, 0, 0, 0),
  (38, .ireturn, 1, 0, 0, 0, 0)]
/-- ThreeMagnets.thrownAt(I)I -/
def mz_r95 : mz_R := (10, yX10_thrownAt, cX10_thrownAt, 2, (some .int), false, 2, mz_k95)
def mz_k96 : mz_K := [
  (0, .aload_n 0, 1, 0, 0, 0, 0),
  (1, .getfield 12, 3, 0, 10, 0, 2097),
  (4, .getfield 311, 3, 0, 6, 12, 1208),
  (7, .istore_n 2, 1, 0, 0, 0, 0),
  (8, .aload_n 0, 1, 0, 0, 0, 0),
  (9, .getfield 12, 3, 0, 10, 0, 2097),
  (12, .iload_n 1, 1, 0, 0, 0, 0),
  (13, .putfield 311, 3, 0, 6, 12, 1208),
  (16, .iload_n 2, 1, 0, 0, 0, 0),
  (17, .ireturn, 1, 0, 0, 0, 0)]
/-- ThreeMagnets.seed(I)I -/
def mz_r96 : mz_R := (10, yX10_seed, cX10_seed, 3, (some .int), false, 2, mz_k96)
def mz_k97 : mz_K := [
  (0, .aload_n 0, 1, 0, 0, 0, 0),
  (1, .getfield 12, 3, 0, 10, 0, 2097),
  (4, .getfield 71, 3, 0, 6, 0, 1181),
  (7, .iload_n 1, 1, 0, 0, 0, 0),
  (8, .invokevirtual 85, 3, 3, 21, 0, 2156),
  (11, .ifCond .eq 12, 3, 0, 0, 0, 0),
  (14, .iload_n 2, 1, 0, 0, 0, 0),
  (15, .iconst 0, 1, 20, 0, 0, 0),
  (16, .iconst 3, 1, 20, 3, 0, 0),
  (17, .invokestatic 89, 3, 2, 121, 0, 2132),
  (20, .ifCond .ne 9, 3, 0, 0, 0, 0),
  (23, .aload_n 0, 1, 0, 0, 0, 0),
  (24, .iconst 1, 1, 20, 1, 0, 0),
  (25, .invokevirtual 67, 3, 3, 109, 0, 2138),
  (28, .ireturn, 1, 0, 0, 0, 0),
  (29, .aload_n 0, 1, 0, 0, 0, 0),
  (30, .getfield 44, 3, 0, 10, 4, 2101),
  (33, .aload_n 0, 1, 0, 0, 0, 0),
  (34, .getfield 12, 3, 0, 10, 0, 2097),
  (37, .getfield 71, 3, 0, 6, 0, 1181),
  (40, .iload_n 1, 1, 0, 0, 0, 0),
  (41, .iload_n 2, 1, 0, 0, 0, 0),
  (42, .iload_n 3, 1, 0, 0, 0, 0),
  (43, .invokevirtual 314, 3, 3, 60, 0, 4135),
  (46, .istore 4, 2, 0, 0, 0, 0),
  (48, .aload_n 0, 1, 0, 0, 0, 0),
  (49, .getfield 44, 3, 0, 10, 4, 2101),
  (52, .getfield 318, 3, 0, 9, 2, 2056),
  (55, .ifCond .eq 10, 3, 0, 0, 0, 0),
  (58, .aload_n 0, 1, 0, 0, 0, 0),
  (59, .bipush 6, 2, 20, 6, 0, 0),
  (61, .invokevirtual 67, 3, 3, 109, 0, 2138),
  (64, .ireturn, 1, 0, 0, 0, 0),
  (65, .aload_n 0, 1, 0, 0, 0, 0),
  (66, .getfield 44, 3, 0, 10, 4, 2101),
  (69, .invokevirtual 321, 3, 3, 61, 0, 4163),
  (72, .iload 4, 2, 0, 0, 0, 0),
  (74, .ireturn, 1, 0, 0, 0, 0)]
/-- ThreeMagnets.voice(III)I -/
def mz_r97 : mz_R := (10, yX10_voice, cX10_voice, 5, (some .int), false, 4, mz_k97)
def mz_k98 : mz_K := [
  (0, .iload_n 1, 1, 0, 0, 0, 0),
  (1, .iconst 0, 1, 20, 0, 0, 0),
  (2, .aload_n 0, 1, 0, 0, 0, 0),
  (3, .getfield 44, 3, 0, 10, 4, 2101),
  (6, .getfield 324, 3, 0, 9, 1, 2054),
  (9, .iconst 1, 1, 20, 1, 0, 0),
  (10, .isub, 1, 0, 0, 0, 0),
  (11, .invokestatic 89, 3, 2, 121, 0, 2132),
  (14, .ifCond .ne 9, 3, 0, 0, 0, 0),
  (17, .aload_n 0, 1, 0, 0, 0, 0),
  (18, .iconst 2, 1, 20, 2, 0, 0),
  (19, .invokevirtual 67, 3, 3, 109, 0, 2138),
  (22, .ireturn, 1, 0, 0, 0, 0),
  (23, .aload_n 0, 1, 0, 0, 0, 0),
  (24, .getfield 44, 3, 0, 10, 4, 2101),
  (27, .getfield 325, 3, 0, 9, 0, 2052),
  (30, .iload_n 1, 1, 0, 0, 0, 0),
  (31, .iaload, 1, 0, 0, 0, 0),
  (32, .ireturn, 1, 0, 0, 0, 0)]
/-- ThreeMagnets.body(I)I -/
def mz_r98 : mz_R := (10, yX10_body, cX10_body, 2, (some .int), false, 2, mz_k98)
def mz_k99 : mz_K := [
  (0, .aload_n 0, 1, 0, 0, 0, 0),
  (1, .getfield 51, 3, 0, 10, 5, 2102),
  (4, .iload_n 1, 1, 0, 0, 0, 0),
  (5, .invokevirtual 328, 3, 3, 45, 0, 4176),
  (8, .ifCond .eq 25, 3, 0, 0, 0, 0),
  (11, .iload_n 2, 1, 0, 0, 0, 0),
  (12, .ifCond .eq 27, 3, 0, 0, 0, 0),
  (15, .iload_n 2, 1, 0, 0, 0, 0),
  (16, .bipush 8, 2, 20, 8, 0, 0),
  (18, .if_icmp .eq 21, 3, 0, 0, 0, 0),
  (21, .iload_n 2, 1, 0, 0, 0, 0),
  (22, .bipush 16, 2, 20, 16, 0, 0),
  (24, .if_icmp .eq 15, 3, 0, 0, 0, 0),
  (27, .iload_n 2, 1, 0, 0, 0, 0),
  (28, .bipush 32, 2, 20, 32, 0, 0),
  (30, .if_icmp .eq 9, 3, 0, 0, 0, 0),
  (33, .aload_n 0, 1, 0, 0, 0, 0),
  (34, .iconst 1, 1, 20, 1, 0, 0),
  (35, .invokevirtual 67, 3, 3, 109, 0, 2138),
  (38, .ireturn, 1, 0, 0, 0, 0),
  (39, .iload_n 2, 1, 0, 0, 0, 0),
  (40, .ifCond .eq 13, 3, 0, 0, 0, 0),
  (43, .iload_n 3, 1, 0, 0, 0, 0),
  (44, .ifCond .ge 9, 3, 0, 0, 0, 0),
  (47, .aload_n 0, 1, 0, 0, 0, 0),
  (48, .iconst 3, 1, 20, 3, 0, 0),
  (49, .invokevirtual 67, 3, 3, 109, 0, 2138),
  (52, .ireturn, 1, 0, 0, 0, 0),
  (53, .iload_n 2, 1, 0, 0, 0, 0),
  (54, .ifCond .eq 15, 3, 0, 0, 0, 0),
  (57, .iload_n 3, 1, 0, 0, 0, 0),
  (58, .bipush 24, 2, 20, 24, 0, 0),
  (60, .if_icmp .le 9, 3, 0, 0, 0, 0),
  (63, .aload_n 0, 1, 0, 0, 0, 0),
  (64, .iconst 1, 1, 20, 1, 0, 0),
  (65, .invokevirtual 67, 3, 3, 109, 0, 2138),
  (68, .ireturn, 1, 0, 0, 0, 0),
  (69, .aload_n 0, 1, 0, 0, 0, 0),
  (70, .getfield 51, 3, 0, 10, 5, 2102),
  (73, .iload_n 1, 1, 0, 0, 0, 0),
  (74, .iload_n 2, 1, 0, 0, 0, 0),
  (75, .iload_n 2, 1, 0, 0, 0, 0),
  (76, .ifCond .ne 7, 3, 0, 0, 0, 0),
  (79, .iconst 0, 1, 20, 0, 0, 0),
  (80, .goto 4, 3, 0, 0, 0, 0),
  (83, .iload_n 3, 1, 0, 0, 0, 0),
  (84, .invokevirtual 329, 3, 3, 47, 0, 4180),
  (87, .iconst 1, 1, 20, 1, 0, 0),
  (88, .ireturn, 1, 0, 0, 0, 0)]
/-- ThreeMagnets.sheet(III)I -/
def mz_r99 : mz_R := (10, yX10_sheet, cX10_sheet, 4, (some .int), false, 4, mz_k99)
def mz_k100 : mz_K := [
  (0, .aload_n 0, 1, 0, 0, 0, 0),
  (1, .getfield 51, 3, 0, 10, 5, 2102),
  (4, .iload_n 1, 1, 0, 0, 0, 0),
  (5, .invokevirtual 328, 3, 3, 45, 0, 4176),
  (8, .ifCond .ne 9, 3, 0, 0, 0, 0),
  (11, .aload_n 0, 1, 0, 0, 0, 0),
  (12, .iconst 1, 1, 20, 1, 0, 0),
  (13, .invokevirtual 67, 3, 3, 109, 0, 2138),
  (16, .ireturn, 1, 0, 0, 0, 0),
  (17, .aload_n 0, 1, 0, 0, 0, 0),
  (18, .getfield 51, 3, 0, 10, 5, 2102),
  (21, .iload_n 1, 1, 0, 0, 0, 0),
  (22, .invokevirtual 333, 3, 3, 46, 0, 4190),
  (25, .ifCond .eq 9, 3, 0, 0, 0, 0),
  (28, .aload_n 0, 1, 0, 0, 0, 0),
  (29, .iconst 2, 1, 20, 2, 0, 0),
  (30, .invokevirtual 67, 3, 3, 109, 0, 2138),
  (33, .ireturn, 1, 0, 0, 0, 0),
  (34, .iload_n 2, 1, 0, 0, 0, 0),
  (35, .iconst 0, 1, 20, 0, 0, 0),
  (36, .aload_n 0, 1, 0, 0, 0, 0),
  (37, .getfield 51, 3, 0, 10, 5, 2102),
  (40, .getfield 336, 3, 0, 5, 1, 2088),
  (43, .iload_n 1, 1, 0, 0, 0, 0),
  (44, .iaload, 1, 0, 0, 0, 0),
  (45, .iconst 1, 1, 20, 1, 0, 0),
  (46, .isub, 1, 0, 0, 0, 0),
  (47, .invokestatic 89, 3, 2, 121, 0, 2132),
  (50, .ifCond .ne 9, 3, 0, 0, 0, 0),
  (53, .aload_n 0, 1, 0, 0, 0, 0),
  (54, .iconst 1, 1, 20, 1, 0, 0),
  (55, .invokevirtual 67, 3, 3, 109, 0, 2138),
  (58, .ireturn, 1, 0, 0, 0, 0),
  (59, .aload_n 0, 1, 0, 0, 0, 0),
  (60, .getfield 51, 3, 0, 10, 5, 2102),
  (63, .iload_n 1, 1, 0, 0, 0, 0),
  (64, .iload_n 2, 1, 0, 0, 0, 0),
  (65, .iload_n 3, 1, 0, 0, 0, 0),
  (66, .invokevirtual 339, 3, 3, 50, 0, 4194),
  (69, .iconst 1, 1, 20, 1, 0, 0),
  (70, .ireturn, 1, 0, 0, 0, 0)]
/-- ThreeMagnets.put(III)I -/
def mz_r100 : mz_R := (10, yX10_put, cX10_put, 4, (some .int), false, 4, mz_k100)
def mz_k101 : mz_K := [
  (0, .aload_n 0, 1, 0, 0, 0, 0),
  (1, .getfield 51, 3, 0, 10, 5, 2102),
  (4, .iload_n 1, 1, 0, 0, 0, 0),
  (5, .invokevirtual 328, 3, 3, 45, 0, 4176),
  (8, .ifCond .eq 14, 3, 0, 0, 0, 0),
  (11, .aload_n 0, 1, 0, 0, 0, 0),
  (12, .getfield 51, 3, 0, 10, 5, 2102),
  (15, .iload_n 3, 1, 0, 0, 0, 0),
  (16, .invokevirtual 328, 3, 3, 45, 0, 4176),
  (19, .ifCond .ne 9, 3, 0, 0, 0, 0),
  (22, .aload_n 0, 1, 0, 0, 0, 0),
  (23, .iconst 1, 1, 20, 1, 0, 0),
  (24, .invokevirtual 67, 3, 3, 109, 0, 2138),
  (27, .ireturn, 1, 0, 0, 0, 0),
  (28, .aload_n 0, 1, 0, 0, 0, 0),
  (29, .getfield 51, 3, 0, 10, 5, 2102),
  (32, .iload_n 1, 1, 0, 0, 0, 0),
  (33, .invokevirtual 333, 3, 3, 46, 0, 4190),
  (36, .ifCond .ne 14, 3, 0, 0, 0, 0),
  (39, .aload_n 0, 1, 0, 0, 0, 0),
  (40, .getfield 51, 3, 0, 10, 5, 2102),
  (43, .iload_n 3, 1, 0, 0, 0, 0),
  (44, .invokevirtual 333, 3, 3, 46, 0, 4190),
  (47, .ifCond .eq 9, 3, 0, 0, 0, 0),
  (50, .aload_n 0, 1, 0, 0, 0, 0),
  (51, .iconst 2, 1, 20, 2, 0, 0),
  (52, .invokevirtual 67, 3, 3, 109, 0, 2138),
  (55, .ireturn, 1, 0, 0, 0, 0),
  (56, .aload_n 0, 1, 0, 0, 0, 0),
  (57, .getfield 51, 3, 0, 10, 5, 2102),
  (60, .getfield 342, 3, 0, 5, 0, 2086),
  (63, .iload_n 1, 1, 0, 0, 0, 0),
  (64, .iaload, 1, 0, 0, 0, 0),
  (65, .aload_n 0, 1, 0, 0, 0, 0),
  (66, .getfield 51, 3, 0, 10, 5, 2102),
  (69, .getfield 342, 3, 0, 5, 0, 2086),
  (72, .iload_n 3, 1, 0, 0, 0, 0),
  (73, .iaload, 1, 0, 0, 0, 0),
  (74, .if_icmp .eq 9, 3, 0, 0, 0, 0),
  (77, .aload_n 0, 1, 0, 0, 0, 0),
  (78, .iconst 5, 1, 20, 5, 0, 0),
  (79, .invokevirtual 67, 3, 3, 109, 0, 2138),
  (82, .ireturn, 1, 0, 0, 0, 0),
  (83, .aload_n 0, 1, 0, 0, 0, 0),
  (84, .getfield 51, 3, 0, 10, 5, 2102),
  (87, .iload_n 1, 1, 0, 0, 0, 0),
  (88, .iload_n 2, 1, 0, 0, 0, 0),
  (89, .iload 5, 2, 0, 0, 0, 0),
  (91, .invokevirtual 345, 3, 3, 48, 0, 4206),
  (94, .ifCond .eq 18, 3, 0, 0, 0, 0),
  (97, .aload_n 0, 1, 0, 0, 0, 0),
  (98, .getfield 51, 3, 0, 10, 5, 2102),
  (101, .iload_n 3, 1, 0, 0, 0, 0),
  (102, .iload 4, 2, 0, 0, 0, 0),
  (104, .iload 5, 2, 0, 0, 0, 0),
  (106, .invokevirtual 345, 3, 3, 48, 0, 4206),
  (109, .ifCond .ne 9, 3, 0, 0, 0, 0),
  (112, .aload_n 0, 1, 0, 0, 0, 0),
  (113, .iconst 1, 1, 20, 1, 0, 0),
  (114, .invokevirtual 67, 3, 3, 109, 0, 2138),
  (117, .ireturn, 1, 0, 0, 0, 0),
  (118, .aload_n 0, 1, 0, 0, 0, 0),
  (119, .getfield 51, 3, 0, 10, 5, 2102),
  (122, .iload_n 1, 1, 0, 0, 0, 0),
  (123, .iload_n 2, 1, 0, 0, 0, 0),
  (124, .iload_n 3, 1, 0, 0, 0, 0),
  (125, .iload 4, 2, 0, 0, 0, 0),
  (127, .iload 5, 2, 0, 0, 0, 0),
  (129, .invokevirtual 348, 3, 3, 51, 0, 4207),
  (132, .iload 5, 2, 0, 0, 0, 0),
  (134, .ireturn, 1, 0, 0, 0, 0)]
/-- ThreeMagnets.move(IIIII)I -/
def mz_r101 : mz_R := (10, yX10_move, cX10_move, 6, (some .int), false, 6, mz_k101)
def mz_k102 : mz_K := [
  (0, .aload_n 0, 1, 0, 0, 0, 0),
  (1, .getfield 51, 3, 0, 10, 5, 2102),
  (4, .iload_n 1, 1, 0, 0, 0, 0),
  (5, .invokevirtual 328, 3, 3, 45, 0, 4176),
  (8, .ifCond .ne 9, 3, 0, 0, 0, 0),
  (11, .aload_n 0, 1, 0, 0, 0, 0),
  (12, .iconst 1, 1, 20, 1, 0, 0),
  (13, .invokevirtual 67, 3, 3, 109, 0, 2138),
  (16, .ireturn, 1, 0, 0, 0, 0),
  (17, .aload_n 0, 1, 0, 0, 0, 0),
  (18, .getfield 51, 3, 0, 10, 5, 2102),
  (21, .iload_n 1, 1, 0, 0, 0, 0),
  (22, .invokevirtual 333, 3, 3, 46, 0, 4190),
  (25, .ifCond .eq 9, 3, 0, 0, 0, 0),
  (28, .aload_n 0, 1, 0, 0, 0, 0),
  (29, .iconst 2, 1, 20, 2, 0, 0),
  (30, .invokevirtual 67, 3, 3, 109, 0, 2138),
  (33, .ireturn, 1, 0, 0, 0, 0),
  (34, .iconst 0, 1, 20, 0, 0, 0),
  (35, .istore_n 2, 1, 0, 0, 0, 0),
  (36, .iload_n 2, 1, 0, 0, 0, 0),
  (37, .bipush 6, 2, 20, 6, 0, 0),
  (39, .if_icmp .ge 20, 3, 0, 0, 0, 0),
  (42, .aload_n 0, 1, 0, 0, 0, 0),
  (43, .iload_n 1, 1, 0, 0, 0, 0),
  (44, .iload_n 2, 1, 0, 0, 0, 0),
  (45, .iconst 4, 1, 20, 4, 0, 0),
  (46, .imul, 1, 0, 0, 0, 0),
  (47, .invokevirtual 351, 3, 3, 112, 0, 4216),
  (50, .ifCond .eq 9, 3, 0, 0, 0, 0),
  (53, .iinc 2 1, 3, 20, 1, 0, 0),
  (56, .goto (-20), 3, 0, 0, 0, 0),
  (59, .iload_n 2, 1, 0, 0, 0, 0),
  (60, .ireturn, 1, 0, 0, 0, 0)]
/-- ThreeMagnets.magnets(I)I -/
def mz_r102 : mz_R := (10, yX10_magnets, cX10_magnets, 3, (some .int), false, 2, mz_k102)
def mz_k103 : mz_K := [
  (0, .aload_n 0, 1, 0, 0, 0, 0),
  (1, .getfield 16, 3, 0, 10, 1, 2098),
  (4, .aload_n 0, 1, 0, 0, 0, 0),
  (5, .getfield 12, 3, 0, 10, 0, 2097),
  (8, .invokevirtual 354, 3, 3, 53, 0, 4228),
  (11, .aload_n 0, 1, 0, 0, 0, 0),
  (12, .dup, 1, 0, 0, 0, 0),
  (13, .getfield 59, 3, 0, 10, 7, 2104),
  (16, .iconst 1, 1, 20, 1, 0, 0),
  (17, .iadd, 1, 0, 0, 0, 0),
  (18, .putfield 59, 3, 0, 10, 7, 2104),
  (21, .aload_n 0, 1, 0, 0, 0, 0),
  (22, .getfield 59, 3, 0, 10, 7, 2104),
  (25, .ireturn, 1, 0, 0, 0, 0)]
/-- ThreeMagnets.image()I -/
def mz_r103 : mz_R := (10, yX10_image, cX10_image, 1, (some .int), false, 1, mz_k103)
def mz_k104 : mz_K := [
  (0, .aload_n 0, 1, 0, 0, 0, 0),
  (1, .getfield 59, 3, 0, 10, 7, 2104),
  (4, .ifCond .gt 9, 3, 0, 0, 0, 0),
  (7, .aload_n 0, 1, 0, 0, 0, 0),
  (8, .iconst 2, 1, 20, 2, 0, 0),
  (9, .invokevirtual 67, 3, 3, 109, 0, 2138),
  (12, .ireturn, 1, 0, 0, 0, 0),
  (13, .aload_n 0, 1, 0, 0, 0, 0),
  (14, .getfield 12, 3, 0, 10, 0, 2097),
  (17, .aload_n 0, 1, 0, 0, 0, 0),
  (18, .getfield 16, 3, 0, 10, 1, 2098),
  (21, .invokevirtual 354, 3, 3, 53, 0, 4228),
  (24, .aload_n 0, 1, 0, 0, 0, 0),
  (25, .getfield 12, 3, 0, 10, 0, 2097),
  (28, .getfield 71, 3, 0, 6, 0, 1181),
  (31, .getfield 137, 3, 0, 2, 4, 1055),
  (34, .ireturn, 1, 0, 0, 0, 0)]
/-- ThreeMagnets.restore()I -/
def mz_r104 : mz_R := (10, yX10_restore, cX10_restore, 1, (some .int), false, 1, mz_k104)
def mz_k105 : mz_K := [
  (0, .aload_n 0, 1, 0, 0, 0, 0),
  (1, .getfield 12, 3, 0, 10, 0, 2097),
  (4, .getfield 356, 3, 0, 6, 11, 1206),
  (7, .bipush 24, 2, 20, 24, 0, 0),
  (9, .if_icmp .lt 9, 3, 0, 0, 0, 0),
  (12, .aload_n 0, 1, 0, 0, 0, 0),
  (13, .iconst 4, 1, 20, 4, 0, 0),
  (14, .invokevirtual 67, 3, 3, 109, 0, 2138),
  (17, .ireturn, 1, 0, 0, 0, 0),
  (18, .aload_n 0, 1, 0, 0, 0, 0),
  (19, .getfield 12, 3, 0, 10, 0, 2097),
  (22, .getfield 359, 3, 0, 6, 10, 1204),
  (25, .aload_n 0, 1, 0, 0, 0, 0),
  (26, .getfield 12, 3, 0, 10, 0, 2097),
  (29, .getfield 356, 3, 0, 6, 11, 1206),
  (32, .iload_n 1, 1, 0, 0, 0, 0),
  (33, .iastore, 1, 0, 0, 0, 0),
  (34, .aload_n 0, 1, 0, 0, 0, 0),
  (35, .getfield 12, 3, 0, 10, 0, 2097),
  (38, .dup, 1, 0, 0, 0, 0),
  (39, .getfield 356, 3, 0, 6, 11, 1206),
  (42, .iconst 1, 1, 20, 1, 0, 0),
  (43, .iadd, 1, 0, 0, 0, 0),
  (44, .putfield 356, 3, 0, 6, 11, 1206),
  (47, .aload_n 0, 1, 0, 0, 0, 0),
  (48, .getfield 12, 3, 0, 10, 0, 2097),
  (51, .getfield 356, 3, 0, 6, 11, 1206),
  (54, .ireturn, 1, 0, 0, 0, 0)]
/-- ThreeMagnets.tell(I)I -/
def mz_r105 : mz_R := (10, yX10_tell, cX10_tell, 2, (some .int), false, 2, mz_k105)
def mz_k106 : mz_K := [
  (0, .aload_n 0, 1, 0, 0, 0, 0),
  (1, .getfield 12, 3, 0, 10, 0, 2097),
  (4, .getfield 356, 3, 0, 6, 11, 1206),
  (7, .istore_n 2, 1, 0, 0, 0, 0),
  (8, .aload_n 0, 1, 0, 0, 0, 0),
  (9, .getfield 12, 3, 0, 10, 0, 2097),
  (12, .iconst 0, 1, 20, 0, 0, 0),
  (13, .putfield 356, 3, 0, 6, 11, 1206),
  (16, .aload_n 0, 1, 0, 0, 0, 0),
  (17, .getfield 12, 3, 0, 10, 0, 2097),
  (20, .getfield 215, 3, 0, 6, 7, 1198),
  (23, .astore_n 3, 1, 0, 0, 0, 0),
  (24, .aload_n 3, 1, 0, 0, 0, 0),
  (25, .invokevirtual 232, 3, 3, 2, 0, 4014),
  (28, .ifCond .ne 9, 3, 0, 0, 0, 0),
  (31, .aload_n 0, 1, 0, 0, 0, 0),
  (32, .iconst 2, 1, 20, 2, 0, 0),
  (33, .invokevirtual 67, 3, 3, 109, 0, 2138),
  (36, .ireturn, 1, 0, 0, 0, 0),
  (37, .aload_n 3, 1, 0, 0, 0, 0),
  (38, .iconst 0, 1, 20, 0, 0, 0),
  (39, .iload_n 1, 1, 0, 0, 0, 0),
  (40, .invokevirtual 235, 3, 3, 4, 0, 4018),
  (43, .ifCond .ne 9, 3, 0, 0, 0, 0),
  (46, .aload_n 0, 1, 0, 0, 0, 0),
  (47, .iconst 1, 1, 20, 1, 0, 0),
  (48, .invokevirtual 67, 3, 3, 109, 0, 2138),
  (51, .ireturn, 1, 0, 0, 0, 0),
  (52, .iconst 0, 1, 20, 0, 0, 0),
  (53, .istore 4, 2, 0, 0, 0, 0),
  (55, .iload 4, 2, 0, 0, 0, 0),
  (57, .aload_n 3, 1, 0, 0, 0, 0),
  (58, .getfield 265, 3, 0, 1, 2, 1157),
  (61, .if_icmp .ge 40, 3, 0, 0, 0, 0),
  (64, .iload 4, 2, 0, 0, 0, 0),
  (66, .iload_n 2, 1, 0, 0, 0, 0),
  (67, .if_icmp .ge 23, 3, 0, 0, 0, 0),
  (70, .aload_n 0, 1, 0, 0, 0, 0),
  (71, .getfield 12, 3, 0, 10, 0, 2097),
  (74, .getfield 359, 3, 0, 6, 10, 1204),
  (77, .iload 4, 2, 0, 0, 0, 0),
  (79, .iaload, 1, 0, 0, 0, 0),
  (80, .aload_n 3, 1, 0, 0, 0, 0),
  (81, .iload 4, 2, 0, 0, 0, 0),
  (83, .iload_n 1, 1, 0, 0, 0, 0),
  (84, .invokevirtual 237, 3, 3, 7, 0, 4019),
  (87, .if_icmp .eq 8, 3, 0, 0, 0, 0),
  (90, .iconst 1, 1, 20, 1, 0, 0),
  (91, .iload 4, 2, 0, 0, 0, 0),
  (93, .iadd, 1, 0, 0, 0, 0),
  (94, .ireturn, 1, 0, 0, 0, 0),
  (95, .iinc 4 1, 3, 20, 1, 0, 0),
  (98, .goto (-43), 3, 0, 0, 0, 0),
  (101, .iload_n 2, 1, 0, 0, 0, 0),
  (102, .aload_n 3, 1, 0, 0, 0, 0),
  (103, .getfield 265, 3, 0, 1, 2, 1157),
  (106, .if_icmp .le 12, 3, 0, 0, 0, 0),
  (109, .iconst 1, 1, 20, 1, 0, 0),
  (110, .aload_n 3, 1, 0, 0, 0, 0),
  (111, .getfield 265, 3, 0, 1, 2, 1157),
  (114, .iadd, 1, 0, 0, 0, 0),
  (115, .goto 4, 3, 0, 0, 0, 0),
  (118, .iconst 0, 1, 20, 0, 0, 0),
  (119, .ireturn, 1, 0, 0, 0, 0)]
/-- ThreeMagnets.check(I)I -/
def mz_r106 : mz_R := (10, yX10_check, cX10_check, 5, (some .int), false, 2, mz_k106)
def mz_k107 : mz_K := [
  (0, .iload_n 1, 1, 0, 0, 0, 0),
  (1, .tableswitch 96 0 5 #[39, 50, 61, 72, 80, 88], 39, 0, 0, 0, 0),
  (40, .aload_n 0, 1, 0, 0, 0, 0),
  (41, .getfield 12, 3, 0, 10, 0, 2097),
  (44, .getfield 71, 3, 0, 6, 0, 1181),
  (47, .getfield 137, 3, 0, 2, 4, 1055),
  (50, .ireturn, 1, 0, 0, 0, 0),
  (51, .aload_n 0, 1, 0, 0, 0, 0),
  (52, .getfield 12, 3, 0, 10, 0, 2097),
  (55, .getfield 215, 3, 0, 6, 7, 1198),
  (58, .invokevirtual 282, 3, 3, 3, 0, 4094),
  (61, .ireturn, 1, 0, 0, 0, 0),
  (62, .aload_n 0, 1, 0, 0, 0, 0),
  (63, .getfield 12, 3, 0, 10, 0, 2097),
  (66, .getfield 30, 3, 0, 6, 2, 1187),
  (69, .getfield 153, 3, 0, 7, 1, 1087),
  (72, .ireturn, 1, 0, 0, 0, 0),
  (73, .aload_n 0, 1, 0, 0, 0, 0),
  (74, .getfield 12, 3, 0, 10, 0, 2097),
  (77, .getfield 356, 3, 0, 6, 11, 1206),
  (80, .ireturn, 1, 0, 0, 0, 0),
  (81, .aload_n 0, 1, 0, 0, 0, 0),
  (82, .getfield 44, 3, 0, 10, 4, 2101),
  (85, .getfield 324, 3, 0, 9, 1, 2054),
  (88, .ireturn, 1, 0, 0, 0, 0),
  (89, .aload_n 0, 1, 0, 0, 0, 0),
  (90, .getfield 12, 3, 0, 10, 0, 2097),
  (93, .getfield 311, 3, 0, 6, 12, 1208),
  (96, .ireturn, 1, 0, 0, 0, 0),
  (97, .aload_n 0, 1, 0, 0, 0, 0),
  (98, .iconst 1, 1, 20, 1, 0, 0),
  (99, .invokevirtual 67, 3, 3, 109, 0, 2138),
  (102, .ireturn, 1, 0, 0, 0, 0)]
/-- ThreeMagnets.count(I)I -/
def mz_r107 : mz_R := (10, yX10_count, cX10_count, 2, (some .int), false, 2, mz_k107)
def mz_k108 : mz_K := [
  (0, .iload_n 1, 1, 0, 0, 0, 0),
  (1, .iconst 1, 1, 20, 1, 0, 0),
  (2, .bipush 6, 2, 20, 6, 0, 0),
  (4, .invokestatic 89, 3, 2, 121, 0, 2132),
  (7, .ifCond .eq 12, 3, 0, 0, 0, 0),
  (10, .aload_n 0, 1, 0, 0, 0, 0),
  (11, .getfield 55, 3, 0, 10, 6, 2103),
  (14, .iload_n 1, 1, 0, 0, 0, 0),
  (15, .iaload, 1, 0, 0, 0, 0),
  (16, .goto 8, 3, 0, 0, 0, 0),
  (19, .aload_n 0, 1, 0, 0, 0, 0),
  (20, .iconst 1, 1, 20, 1, 0, 0),
  (21, .invokevirtual 67, 3, 3, 109, 0, 2138),
  (24, .ireturn, 1, 0, 0, 0, 0)]
/-- ThreeMagnets.told(I)I -/
def mz_r108 : mz_R := (10, yX10_told, cX10_told, 2, (some .int), false, 2, mz_k108)
def mz_k109 : mz_K := [
  (0, .iload_n 1, 1, 0, 0, 0, 0),
  (1, .iconst 1, 1, 20, 1, 0, 0),
  (2, .bipush 6, 2, 20, 6, 0, 0),
  (4, .invokestatic 89, 3, 2, 121, 0, 2132),
  (7, .ifCond .eq 13, 3, 0, 0, 0, 0),
  (10, .aload_n 0, 1, 0, 0, 0, 0),
  (11, .getfield 55, 3, 0, 10, 6, 2103),
  (14, .iload_n 1, 1, 0, 0, 0, 0),
  (15, .dup2, 1, 0, 0, 0, 0),
  (16, .iaload, 1, 0, 0, 0, 0),
  (17, .iconst 1, 1, 20, 1, 0, 0),
  (18, .iadd, 1, 0, 0, 0, 0),
  (19, .iastore, 1, 0, 0, 0, 0),
  (20, .ldc_w 362, 3, 21, 1000000, 0, 2142),
  (23, .iload_n 1, 1, 0, 0, 0, 0),
  (24, .isub, 1, 0, 0, 0, 0),
  (25, .ireturn, 1, 0, 0, 0, 0)]
/-- ThreeMagnets.refuse(I)I -/
def mz_r109 : mz_R := (10, yX10_refuse, cX10_refuse, 2, (some .int), false, 2, mz_k109)
def mz_k110 : mz_K := [
  (0, .aload_n 0, 1, 0, 0, 0, 0),
  (1, .getfield 12, 3, 0, 10, 0, 2097),
  (4, .getfield 215, 3, 0, 6, 7, 1198),
  (7, .astore_n 1, 1, 0, 0, 0, 0),
  (8, .aload_n 1, 1, 0, 0, 0, 0),
  (9, .getfield 363, 3, 0, 1, 4, 1162),
  (12, .iconst 2, 1, 20, 2, 0, 0),
  (13, .idiv, 1, 0, 0, 0, 0),
  (14, .istore_n 2, 1, 0, 0, 0, 0),
  (15, .iconst 0, 1, 20, 0, 0, 0),
  (16, .istore_n 3, 1, 0, 0, 0, 0),
  (17, .iconst 0, 1, 20, 0, 0, 0),
  (18, .istore 4, 2, 0, 0, 0, 0),
  (20, .iload 4, 2, 0, 0, 0, 0),
  (22, .aload_n 1, 1, 0, 0, 0, 0),
  (23, .getfield 262, 3, 0, 1, 3, 1159),
  (26, .if_icmp .ge 145, 3, 0, 0, 0, 0),
  (29, .iconst 0, 1, 20, 0, 0, 0),
  (30, .istore 5, 2, 0, 0, 0, 0),
  (32, .iload 5, 2, 0, 0, 0, 0),
  (34, .aload_n 1, 1, 0, 0, 0, 0),
  (35, .getfield 265, 3, 0, 1, 2, 1157),
  (38, .if_icmp .ge 127, 3, 0, 0, 0, 0),
  (41, .iconst 1, 1, 20, 1, 0, 0),
  (42, .istore 6, 2, 0, 0, 0, 0),
  (44, .iload 6, 2, 0, 0, 0, 0),
  (46, .iconst 3, 1, 20, 3, 0, 0),
  (47, .if_icmp .gt 112, 3, 0, 0, 0, 0),
  (50, .aload_n 1, 1, 0, 0, 0, 0),
  (51, .iload 5, 2, 0, 0, 0, 0),
  (53, .iload 4, 2, 0, 0, 0, 0),
  (55, .invokevirtual 247, 3, 3, 12, 0, 4032),
  (58, .ifCond .eq 101, 3, 0, 0, 0, 0),
  (61, .aload_n 1, 1, 0, 0, 0, 0),
  (62, .getfield 365, 3, 0, 1, 0, 1152),
  (65, .iload 5, 2, 0, 0, 0, 0),
  (67, .aload_n 1, 1, 0, 0, 0, 0),
  (68, .getfield 363, 3, 0, 1, 4, 1162),
  (71, .imul, 1, 0, 0, 0, 0),
  (72, .iadd, 1, 0, 0, 0, 0),
  (73, .iload 6, 2, 0, 0, 0, 0),
  (75, .iconst 2, 1, 20, 2, 0, 0),
  (76, .irem, 1, 0, 0, 0, 0),
  (77, .iload_n 2, 1, 0, 0, 0, 0),
  (78, .imul, 1, 0, 0, 0, 0),
  (79, .iadd, 1, 0, 0, 0, 0),
  (80, .istore 7, 2, 0, 0, 0, 0),
  (82, .aload_n 1, 1, 0, 0, 0, 0),
  (83, .getfield 366, 3, 0, 1, 1, 1155),
  (86, .iload 4, 2, 0, 0, 0, 0),
  (88, .aload_n 1, 1, 0, 0, 0, 0),
  (89, .getfield 363, 3, 0, 1, 4, 1162),
  (92, .imul, 1, 0, 0, 0, 0),
  (93, .iadd, 1, 0, 0, 0, 0),
  (94, .iload 6, 2, 0, 0, 0, 0),
  (96, .iconst 2, 1, 20, 2, 0, 0),
  (97, .idiv, 1, 0, 0, 0, 0),
  (98, .iload_n 2, 1, 0, 0, 0, 0),
  (99, .imul, 1, 0, 0, 0, 0),
  (100, .iadd, 1, 0, 0, 0, 0),
  (101, .istore 8, 2, 0, 0, 0, 0),
  (103, .aload_n 1, 1, 0, 0, 0, 0),
  (104, .iload 5, 2, 0, 0, 0, 0),
  (106, .iload 4, 2, 0, 0, 0, 0),
  (108, .invokevirtual 237, 3, 3, 7, 0, 4019),
  (111, .istore 9, 2, 0, 0, 0, 0),
  (113, .iload 7, 2, 0, 0, 0, 0),
  (115, .iload 8, 2, 0, 0, 0, 0),
  (117, .invokestatic 134, 3, 2, 116, 0, 2135),
  (120, .ifCond .eq 33, 3, 0, 0, 0, 0),
  (123, .aload_n 0, 1, 0, 0, 0, 0),
  (124, .getfield 24, 3, 0, 10, 2, 2099),
  (127, .iload 7, 2, 0, 0, 0, 0),
  (129, .iload 8, 2, 0, 0, 0, 0),
  (131, .iconst 0, 1, 20, 0, 0, 0),
  (132, .iconst 0, 1, 20, 0, 0, 0),
  (133, .aload_n 0, 1, 0, 0, 0, 0),
  (134, .getfield 12, 3, 0, 10, 0, 2097),
  (137, .getfield 146, 3, 0, 6, 1, 1185),
  (140, .iconst 5, 1, 20, 5, 0, 0),
  (141, .iaload, 1, 0, 0, 0, 0),
  (142, .invokevirtual 208, 3, 3, 36, 0, 3199),
  (145, .iload 9, 2, 0, 0, 0, 0),
  (147, .if_icmp .eq 6, 3, 0, 0, 0, 0),
  (150, .iinc 3 1, 3, 20, 1, 0, 0),
  (153, .iinc 6 1, 3, 20, 1, 0, 0),
  (156, .goto (-112), 3, 0, 0, 0, 0),
  (159, .iinc 5 1, 3, 20, 1, 0, 0),
  (162, .goto (-130), 3, 0, 0, 0, 0),
  (165, .iinc 4 1, 3, 20, 1, 0, 0),
  (168, .goto (-148), 3, 0, 0, 0, 0),
  (171, .iload_n 3, 1, 0, 0, 0, 0),
  (172, .ireturn, 1, 0, 0, 0, 0)]
/-- ThreeMagnets.finer()I -/
def mz_r110 : mz_R := (10, yX10_finer, cX10_finer, 10, (some .int), false, 1, mz_k110)
def mz_k111 : mz_K := [
  (0, .aload_n 0, 1, 0, 0, 0, 0),
  (1, .getfield 12, 3, 0, 10, 0, 2097),
  (4, .aload_n 0, 1, 0, 0, 0, 0),
  (5, .getfield 12, 3, 0, 10, 0, 2097),
  (8, .getfield 311, 3, 0, 6, 12, 1208),
  (11, .ldc_w 367, 3, 20, 1103515245, 0, 4121),
  (14, .imul, 1, 0, 0, 0, 0),
  (15, .sipush 12345, 3, 20, 12345, 0, 0),
  (18, .iadd, 1, 0, 0, 0, 0),
  (19, .putfield 311, 3, 0, 6, 12, 1208),
  (22, .iconst 2, 1, 20, 2, 0, 0),
  (23, .iload_n 1, 1, 0, 0, 0, 0),
  (24, .imul, 1, 0, 0, 0, 0),
  (25, .iconst 1, 1, 20, 1, 0, 0),
  (26, .iadd, 1, 0, 0, 0, 0),
  (27, .istore_n 2, 1, 0, 0, 0, 0),
  (28, .iload_n 2, 1, 0, 0, 0, 0),
  (29, .ifCond .le 20, 3, 0, 0, 0, 0),
  (32, .aload_n 0, 1, 0, 0, 0, 0),
  (33, .getfield 12, 3, 0, 10, 0, 2097),
  (36, .getfield 311, 3, 0, 6, 12, 1208),
  (39, .bipush 8, 2, 20, 8, 0, 0),
  (41, .iushr, 1, 0, 0, 0, 0),
  (42, .iload_n 2, 1, 0, 0, 0, 0),
  (43, .irem, 1, 0, 0, 0, 0),
  (44, .iload_n 1, 1, 0, 0, 0, 0),
  (45, .isub, 1, 0, 0, 0, 0),
  (46, .goto 4, 3, 0, 0, 0, 0),
  (49, .iconst 0, 1, 20, 0, 0, 0),
  (50, .ireturn, 1, 0, 0, 0, 0)]
/-- ThreeMagnets.wander(I)I -/
def mz_r111 : mz_R := (10, yX10_wander, cX10_wander, 3, (some .int), false, 2, mz_k111)
def mz_k112 : mz_K := [
  (0, .aload_n 0, 1, 0, 0, 0, 0),
  (1, .getfield 12, 3, 0, 10, 0, 2097),
  (4, .getfield 71, 3, 0, 6, 0, 1181),
  (7, .invokevirtual 75, 3, 3, 22, 0, 2143),
  (10, .ifCond .ne 16, 3, 0, 0, 0, 0),
  (13, .aload_n 0, 1, 0, 0, 0, 0),
  (14, .getfield 51, 3, 0, 10, 5, 2102),
  (17, .iload_n 1, 1, 0, 0, 0, 0),
  (18, .iload_n 2, 1, 0, 0, 0, 0),
  (19, .iconst 4, 1, 20, 4, 0, 0),
  (20, .invokevirtual 345, 3, 3, 48, 0, 4206),
  (23, .ifCond .ne 5, 3, 0, 0, 0, 0),
  (26, .iconst 0, 1, 20, 0, 0, 0),
  (27, .ireturn, 1, 0, 0, 0, 0),
  (28, .aload_n 0, 1, 0, 0, 0, 0),
  (29, .getfield 51, 3, 0, 10, 5, 2102),
  (32, .iload_n 1, 1, 0, 0, 0, 0),
  (33, .iload_n 2, 1, 0, 0, 0, 0),
  (34, .invokevirtual 368, 3, 3, 49, 0, 4220),
  (37, .istore_n 3, 1, 0, 0, 0, 0),
  (38, .aload_n 0, 1, 0, 0, 0, 0),
  (39, .getfield 51, 3, 0, 10, 5, 2102),
  (42, .iload_n 1, 1, 0, 0, 0, 0),
  (43, .iload_n 2, 1, 0, 0, 0, 0),
  (44, .iconst 1, 1, 20, 1, 0, 0),
  (45, .iadd, 1, 0, 0, 0, 0),
  (46, .invokevirtual 368, 3, 3, 49, 0, 4220),
  (49, .istore 4, 2, 0, 0, 0, 0),
  (51, .aload_n 0, 1, 0, 0, 0, 0),
  (52, .getfield 51, 3, 0, 10, 5, 2102),
  (55, .iload_n 1, 1, 0, 0, 0, 0),
  (56, .iload_n 2, 1, 0, 0, 0, 0),
  (57, .iconst 2, 1, 20, 2, 0, 0),
  (58, .iadd, 1, 0, 0, 0, 0),
  (59, .invokevirtual 368, 3, 3, 49, 0, 4220),
  (62, .istore 5, 2, 0, 0, 0, 0),
  (64, .aload_n 0, 1, 0, 0, 0, 0),
  (65, .getfield 51, 3, 0, 10, 5, 2102),
  (68, .iload_n 1, 1, 0, 0, 0, 0),
  (69, .iload_n 2, 1, 0, 0, 0, 0),
  (70, .iconst 3, 1, 20, 3, 0, 0),
  (71, .iadd, 1, 0, 0, 0, 0),
  (72, .invokevirtual 368, 3, 3, 49, 0, 4220),
  (75, .istore 6, 2, 0, 0, 0, 0),
  (77, .iload_n 3, 1, 0, 0, 0, 0),
  (78, .iload 4, 2, 0, 0, 0, 0),
  (80, .iload 5, 2, 0, 0, 0, 0),
  (82, .iload 6, 2, 0, 0, 0, 0),
  (84, .invokestatic 63, 3, 2, 113, 0, 2126),
  (87, .ifCond .ne 5, 3, 0, 0, 0, 0),
  (90, .iconst 0, 1, 20, 0, 0, 0),
  (91, .ireturn, 1, 0, 0, 0, 0),
  (92, .aload_n 0, 1, 0, 0, 0, 0),
  (93, .getfield 12, 3, 0, 10, 0, 2097),
  (96, .getfield 71, 3, 0, 6, 0, 1181),
  (99, .iload_n 3, 1, 0, 0, 0, 0),
  (100, .iload 4, 2, 0, 0, 0, 0),
  (102, .iload 5, 2, 0, 0, 0, 0),
  (104, .iload 6, 2, 0, 0, 0, 0),
  (106, .invokevirtual 81, 3, 3, 23, 0, 2147),
  (109, .pop, 1, 0, 0, 0, 0),
  (110, .iconst 1, 1, 20, 1, 0, 0),
  (111, .ireturn, 1, 0, 0, 0, 0)]
/-- ThreeMagnets.addsFrom(II)Z -/
def mz_r112 : mz_R := (10, yX10_addsFrom, cX10_addsFrom, 7, (some .boolean), false, 3, mz_k112)
def mz_k113 : mz_K := [
  (0, .iload_n 0, 1, 0, 0, 0, 0),
  (1, .invokestatic 127, 3, 2, 114, 0, 2129),
  (4, .ifCond .eq 25, 3, 0, 0, 0, 0),
  (7, .iload_n 1, 1, 0, 0, 0, 0),
  (8, .iload_n 2, 1, 0, 0, 0, 0),
  (9, .invokestatic 134, 3, 2, 116, 0, 2135),
  (12, .ifCond .eq 17, 3, 0, 0, 0, 0),
  (15, .iload_n 3, 1, 0, 0, 0, 0),
  (16, .iconst 0, 1, 20, 0, 0, 0),
  (17, .bipush 99, 2, 20, 99, 0, 0),
  (19, .invokestatic 89, 3, 2, 121, 0, 2132),
  (22, .ifCond .eq 7, 3, 0, 0, 0, 0),
  (25, .iconst 1, 1, 20, 1, 0, 0),
  (26, .goto 4, 3, 0, 0, 0, 0),
  (29, .iconst 0, 1, 20, 0, 0, 0),
  (30, .ireturn, 1, 0, 0, 0, 0)]
/-- ThreeMagnets.isMagnet(IIII)Z -/
def mz_r113 : mz_R := (10, yX10_isMagnet, cX10_isMagnet, 4, (some .boolean), true, 4, mz_k113)
def mz_k114 : mz_K := [
  (0, .iload_n 0, 1, 0, 0, 0, 0),
  (1, .iconst 0, 1, 20, 0, 0, 0),
  (2, .bipush 6, 2, 20, 6, 0, 0),
  (4, .invokestatic 89, 3, 2, 121, 0, 2132),
  (7, .ireturn, 1, 0, 0, 0, 0)]
/-- ThreeMagnets.isKind(I)Z -/
def mz_r114 : mz_R := (10, yX10_isKind, cX10_isKind, 1, (some .boolean), true, 1, mz_k114)
def mz_k115 : mz_K := [
  (0, .iload_n 0, 1, 0, 0, 0, 0),
  (1, .istore_n 2, 1, 0, 0, 0, 0),
  (2, .iconst 0, 1, 20, 0, 0, 0),
  (3, .istore_n 3, 1, 0, 0, 0, 0),
  (4, .iload_n 3, 1, 0, 0, 0, 0),
  (5, .bipush 7, 2, 20, 7, 0, 0),
  (7, .if_icmp .ge 29, 3, 0, 0, 0, 0),
  (10, .iload_n 2, 1, 0, 0, 0, 0),
  (11, .invokestatic 127, 3, 2, 114, 0, 2129),
  (14, .ifCond .eq 22, 3, 0, 0, 0, 0),
  (17, .iload_n 2, 1, 0, 0, 0, 0),
  (18, .iload_n 1, 1, 0, 0, 0, 0),
  (19, .if_icmp .ne 5, 3, 0, 0, 0, 0),
  (22, .iconst 1, 1, 20, 1, 0, 0),
  (23, .ireturn, 1, 0, 0, 0, 0),
  (24, .getstatic 371, 3, 1, 0, 0, 2208),
  (27, .iload_n 2, 1, 0, 0, 0, 0),
  (28, .iaload, 1, 0, 0, 0, 0),
  (29, .istore_n 2, 1, 0, 0, 0, 0),
  (30, .iinc 3 1, 3, 20, 1, 0, 0),
  (33, .goto (-29), 3, 0, 0, 0, 0),
  (36, .iconst 0, 1, 20, 0, 0, 0),
  (37, .ireturn, 1, 0, 0, 0, 0)]
/-- ThreeMagnets.isUnder(II)Z -/
def mz_r115 : mz_R := (10, yX10_isUnder, cX10_isUnder, 4, (some .boolean), true, 2, mz_k115)
def mz_k116 : mz_K := [
  (0, .iload_n 0, 1, 0, 0, 0, 0),
  (1, .bipush (-100), 2, 21, 100, 0, 0),
  (3, .bipush 100, 2, 20, 100, 0, 0),
  (5, .invokestatic 89, 3, 2, 121, 0, 2132),
  (8, .ifCond .eq 18, 3, 0, 0, 0, 0),
  (11, .iload_n 1, 1, 0, 0, 0, 0),
  (12, .bipush (-100), 2, 21, 100, 0, 0),
  (14, .bipush 100, 2, 20, 100, 0, 0),
  (16, .invokestatic 89, 3, 2, 121, 0, 2132),
  (19, .ifCond .eq 7, 3, 0, 0, 0, 0),
  (22, .iconst 1, 1, 20, 1, 0, 0),
  (23, .goto 4, 3, 0, 0, 0, 0),
  (26, .iconst 0, 1, 20, 0, 0, 0),
  (27, .ireturn, 1, 0, 0, 0, 0)]
/-- ThreeMagnets.isPlace(II)Z -/
def mz_r116 : mz_R := (10, yX10_isPlace, cX10_isPlace, 2, (some .boolean), true, 2, mz_k116)
def mz_k117 : mz_K := [
  (0, .iload_n 0, 1, 0, 0, 0, 0),
  (1, .sipush (-9999), 3, 21, 9999, 0, 0),
  (4, .sipush 9999, 3, 20, 9999, 0, 0),
  (7, .invokestatic 89, 3, 2, 121, 0, 2132),
  (10, .ireturn, 1, 0, 0, 0, 0)]
/-- ThreeMagnets.isSpeed(I)Z -/
def mz_r117 : mz_R := (10, yX10_isSpeed, cX10_isSpeed, 1, (some .boolean), true, 1, mz_k117)
def mz_k118 : mz_K := [
  (0, .iload_n 0, 1, 0, 0, 0, 0),
  (1, .bipush 9, 2, 20, 9, 0, 0),
  (3, .if_icmp .eq 12, 3, 0, 0, 0, 0),
  (6, .iload_n 0, 1, 0, 0, 0, 0),
  (7, .iconst 0, 1, 20, 0, 0, 0),
  (8, .iconst 5, 1, 20, 5, 0, 0),
  (9, .invokestatic 89, 3, 2, 121, 0, 2132),
  (12, .ifCond .eq 7, 3, 0, 0, 0, 0),
  (15, .iconst 1, 1, 20, 1, 0, 0),
  (16, .goto 4, 3, 0, 0, 0, 0),
  (19, .iconst 0, 1, 20, 0, 0, 0),
  (20, .ireturn, 1, 0, 0, 0, 0)]
/-- ThreeMagnets.isColour(I)Z -/
def mz_r118 : mz_R := (10, yX10_isColour, cX10_isColour, 1, (some .boolean), true, 1, mz_k118)
def mz_k119 : mz_K := [
  (0, .iload_n 0, 1, 0, 0, 0, 0),
  (1, .iconst 0, 1, 20, 0, 0, 0),
  (2, .iconst 2, 1, 20, 2, 0, 0),
  (3, .invokestatic 89, 3, 2, 121, 0, 2132),
  (6, .ireturn, 1, 0, 0, 0, 0)]
/-- ThreeMagnets.isUse(I)Z -/
def mz_r119 : mz_R := (10, yX10_isUse, cX10_isUse, 1, (some .boolean), true, 1, mz_k119)
def mz_k120 : mz_K := [
  (0, .iload_n 0, 1, 0, 0, 0, 0),
  (1, .ifCond .ne 9, 3, 0, 0, 0, 0),
  (4, .ldc_w 374, 3, 22, 1, 0, 3013),
  (7, .goto 17, 3, 0, 0, 0, 0),
  (10, .iload_n 0, 1, 0, 0, 0, 0),
  (11, .iconst 1, 1, 20, 1, 0, 0),
  (12, .if_icmp .ne 9, 3, 0, 0, 0, 0),
  (15, .ldc_w 376, 3, 22, 2, 0, 3014),
  (18, .goto 6, 3, 0, 0, 0, 0),
  (21, .ldc_w 378, 3, 22, 3, 0, 3015),
  (24, .areturn, 1, 0, 0, 0, 0)]
/-- ThreeMagnets.namesOf(I)Ljava/lang/String; -/
def mz_r120 : mz_R := (10, yX10_namesOf, cX10_namesOf, 1, (some (.object "java/lang/String")), true, 1, mz_k120)
def mz_k121 : mz_K := [
  (0, .iload_n 0, 1, 0, 0, 0, 0),
  (1, .iload_n 1, 1, 0, 0, 0, 0),
  (2, .if_icmp .lt 12, 3, 0, 0, 0, 0),
  (5, .iload_n 0, 1, 0, 0, 0, 0),
  (6, .iload_n 2, 1, 0, 0, 0, 0),
  (7, .if_icmp .gt 7, 3, 0, 0, 0, 0),
  (10, .iconst 1, 1, 20, 1, 0, 0),
  (11, .goto 4, 3, 0, 0, 0, 0),
  (14, .iconst 0, 1, 20, 0, 0, 0),
  (15, .ireturn, 1, 0, 0, 0, 0)]
/-- ThreeMagnets.within(III)Z -/
def mz_r121 : mz_R := (10, yX10_within, cX10_within, 3, (some .boolean), true, 3, mz_k121)
def mz_k122 : mz_K := [
  (0, .iload_n 1, 1, 0, 0, 0, 0),
  (1, .iload_n 2, 1, 0, 0, 0, 0),
  (2, .iload_n 0, 1, 0, 0, 0, 0),
  (3, .invokestatic 279, 3, 10, 0, 0, 2191),
  (6, .invokestatic 274, 3, 9, 0, 0, 2194),
  (9, .ireturn, 1, 0, 0, 0, 0)]
/-- ThreeMagnets.held(III)I -/
def mz_r122 : mz_R := (10, yX10_held, cX10_held, 3, (some .int), true, 3, mz_k122)
def mz_k123 : mz_K := [
  (0, .iload_n 1, 1, 0, 0, 0, 0),
  (1, .ifCond .ne 7, 3, 0, 0, 0, 0),
  (4, .iconst 0, 1, 20, 0, 0, 0),
  (5, .goto 6, 3, 0, 0, 0, 0),
  (8, .iload_n 0, 1, 0, 0, 0, 0),
  (9, .iload_n 1, 1, 0, 0, 0, 0),
  (10, .idiv, 1, 0, 0, 0, 0),
  (11, .ireturn, 1, 0, 0, 0, 0)]
/-- ThreeMagnets.cut(II)I -/
def mz_r123 : mz_R := (10, yX10_cut, cX10_cut, 2, (some .int), true, 2, mz_k123)
def mz_k124 : mz_K := [
  (0, .iload_n 0, 1, 0, 0, 0, 0),
  (1, .istore_n 2, 1, 0, 0, 0, 0),
  (2, .iload_n 1, 1, 0, 0, 0, 0),
  (3, .istore_n 3, 1, 0, 0, 0, 0),
  (4, .iconst 0, 1, 20, 0, 0, 0),
  (5, .istore 4, 2, 0, 0, 0, 0),
  (7, .iload 4, 2, 0, 0, 0, 0),
  (9, .bipush 100, 2, 20, 100, 0, 0),
  (11, .if_icmp .ge 23, 3, 0, 0, 0, 0),
  (14, .iload_n 3, 1, 0, 0, 0, 0),
  (15, .ifCond .eq 19, 3, 0, 0, 0, 0),
  (18, .iload_n 2, 1, 0, 0, 0, 0),
  (19, .iload_n 3, 1, 0, 0, 0, 0),
  (20, .irem, 1, 0, 0, 0, 0),
  (21, .istore 5, 2, 0, 0, 0, 0),
  (23, .iload_n 3, 1, 0, 0, 0, 0),
  (24, .istore_n 2, 1, 0, 0, 0, 0),
  (25, .iload 5, 2, 0, 0, 0, 0),
  (27, .istore_n 3, 1, 0, 0, 0, 0),
  (28, .iinc 4 1, 3, 20, 1, 0, 0),
  (31, .goto (-24), 3, 0, 0, 0, 0),
  (34, .iload_n 2, 1, 0, 0, 0, 0),
  (35, .ireturn, 1, 0, 0, 0, 0)]
/-- ThreeMagnets.greatestInBoth(II)I -/
def mz_r124 : mz_R := (10, yX10_greatestInBoth, cX10_greatestInBoth, 6, (some .int), true, 2, mz_k124)
def mz_k125 : mz_K := [
  (0, .iconst 0, 1, 20, 0, 0, 0),
  (1, .istore_n 1, 1, 0, 0, 0, 0),
  (2, .iload_n 1, 1, 0, 0, 0, 0),
  (3, .aload_n 0, 1, 0, 0, 0, 0),
  (4, .arraylength, 1, 0, 0, 0, 0),
  (5, .if_icmp .ge 13, 3, 0, 0, 0, 0),
  (8, .aload_n 0, 1, 0, 0, 0, 0),
  (9, .iload_n 1, 1, 0, 0, 0, 0),
  (10, .iconst 0, 1, 20, 0, 0, 0),
  (11, .iastore, 1, 0, 0, 0, 0),
  (12, .iinc 1 1, 3, 20, 1, 0, 0),
  (15, .goto (-13), 3, 0, 0, 0, 0),
  (18, .return_, 1, 0, 0, 0, 0)]
/-- ThreeMagnets.clear([I)V -/
def mz_r125 : mz_R := (10, yX10_clear, cX10_clear, 2, none, true, 1, mz_k125)
def mz_k126 : mz_K := [
  (0, .aload_n 0, 1, 0, 0, 0, 0),
  (1, .iconst 0, 1, 20, 0, 0, 0),
  (2, .aload_n 1, 1, 0, 0, 0, 0),
  (3, .iconst 0, 1, 20, 0, 0, 0),
  (4, .aload_n 0, 1, 0, 0, 0, 0),
  (5, .arraylength, 1, 0, 0, 0, 0),
  (6, .aload_n 1, 1, 0, 0, 0, 0),
  (7, .arraylength, 1, 0, 0, 0, 0),
  (8, .invokestatic 279, 3, 10, 0, 0, 2191),
  (11, .invokestatic 380, 3, 11, 0, 0, 3147),
  (14, .return_, 1, 0, 0, 0, 0)]
/-- ThreeMagnets.copy([I[I)V -/
def mz_r126 : mz_R := (10, yX10_copy, cX10_copy, 2, none, true, 2, mz_k126)
def mz_k127 : mz_K := [
  (0, .aload_n 0, 1, 0, 0, 0, 0),
  (1, .getfield 16, 3, 0, 11, 3, 5043),
  (4, .iload_n 1, 1, 0, 0, 0, 0),
  (5, .dup2, 1, 0, 0, 0, 0),
  (6, .iaload, 1, 0, 0, 0, 0),
  (7, .iconst 1, 1, 20, 1, 0, 0),
  (8, .iadd, 1, 0, 0, 0, 0),
  (9, .iastore, 1, 0, 0, 0, 0),
  (10, .ldc 49, 2, 21, 1000000, 0, 5136),
  (12, .iload_n 1, 1, 0, 0, 0, 0),
  (13, .isub, 1, 0, 0, 0, 0),
  (14, .ireturn, 1, 0, 0, 0, 0)]
/-- ThreeMagnetsModel.error(I)I -/
def mz_r127 : mz_R := (11, yX11_error, cX11_error, 2, (some .int), false, 2, mz_k127)
def mz_k128 : mz_K := [
  (0, .iload_n 0, 1, 0, 0, 0, 0),
  (1, .iload_n 1, 1, 0, 0, 0, 0),
  (2, .if_icmp .lt 12, 3, 0, 0, 0, 0),
  (5, .iload_n 0, 1, 0, 0, 0, 0),
  (6, .iload_n 2, 1, 0, 0, 0, 0),
  (7, .if_icmp .gt 7, 3, 0, 0, 0, 0),
  (10, .iconst 1, 1, 20, 1, 0, 0),
  (11, .goto 4, 3, 0, 0, 0, 0),
  (14, .iconst 0, 1, 20, 0, 0, 0),
  (15, .ireturn, 1, 0, 0, 0, 0)]
/-- ThreeMagnetsModel.in(III)Z -/
def mz_r128 : mz_R := (11, yX11_in, cX11_in, 3, (some .boolean), true, 3, mz_k128)
def mz_k129 : mz_K := [
  (0, .iload_n 0, 1, 0, 0, 0, 0),
  (1, .ifCond .ge 8, 3, 0, 0, 0, 0),
  (4, .iload_n 0, 1, 0, 0, 0, 0),
  (5, .ineg, 1, 0, 0, 0, 0),
  (6, .goto 4, 3, 0, 0, 0, 0),
  (9, .iload_n 0, 1, 0, 0, 0, 0),
  (10, .ireturn, 1, 0, 0, 0, 0)]
/-- ThreeMagnetsModel.size(I)I -/
def mz_r129 : mz_R := (11, yX11_size, cX11_size, 1, (some .int), true, 1, mz_k129)
def mz_k130 : mz_K := [
  (0, .iload_n 0, 1, 0, 0, 0, 0),
  (1, .iload_n 1, 1, 0, 0, 0, 0),
  (2, .if_icmp .ge 7, 3, 0, 0, 0, 0),
  (5, .iload_n 1, 1, 0, 0, 0, 0),
  (6, .goto 13, 3, 0, 0, 0, 0),
  (9, .iload_n 0, 1, 0, 0, 0, 0),
  (10, .iload_n 2, 1, 0, 0, 0, 0),
  (11, .if_icmp .le 7, 3, 0, 0, 0, 0),
  (14, .iload_n 2, 1, 0, 0, 0, 0),
  (15, .goto 4, 3, 0, 0, 0, 0),
  (18, .iload_n 0, 1, 0, 0, 0, 0),
  (19, .ireturn, 1, 0, 0, 0, 0)]
/-- ThreeMagnetsModel.held(III)I -/
def mz_r130 : mz_R := (11, yX11_held, cX11_held, 3, (some .int), true, 3, mz_k130)
def mz_k131 : mz_K := [
  (0, .iload_n 0, 1, 0, 0, 0, 0),
  (1, .bipush (-100), 2, 21, 100, 0, 0),
  (3, .bipush 100, 2, 20, 100, 0, 0),
  (5, .invokestatic 50, 3, 2, 128, 0, 5126),
  (8, .ifCond .eq 18, 3, 0, 0, 0, 0),
  (11, .iload_n 1, 1, 0, 0, 0, 0),
  (12, .bipush (-100), 2, 21, 100, 0, 0),
  (14, .bipush 100, 2, 20, 100, 0, 0),
  (16, .invokestatic 50, 3, 2, 128, 0, 5126),
  (19, .ifCond .eq 7, 3, 0, 0, 0, 0),
  (22, .iconst 1, 1, 20, 1, 0, 0),
  (23, .goto 4, 3, 0, 0, 0, 0),
  (26, .iconst 0, 1, 20, 0, 0, 0),
  (27, .ireturn, 1, 0, 0, 0, 0)]
/-- ThreeMagnetsModel.isPlace(II)Z -/
def mz_r131 : mz_R := (11, yX11_isPlace, cX11_isPlace, 2, (some .boolean), true, 2, mz_k131)
def mz_k132 : mz_K := [
  (0, .iload_n 1, 1, 0, 0, 0, 0),
  (1, .iconst 0, 1, 20, 0, 0, 0),
  (2, .aload_n 0, 1, 0, 0, 0, 0),
  (3, .getfield 7, 3, 0, 11, 0, 5040),
  (6, .iconst 0, 1, 20, 0, 0, 0),
  (7, .iaload, 1, 0, 0, 0, 0),
  (8, .iconst 1, 1, 20, 1, 0, 0),
  (9, .isub, 1, 0, 0, 0, 0),
  (10, .invokestatic 50, 3, 2, 128, 0, 5126),
  (13, .ireturn, 1, 0, 0, 0, 0)]
/-- ThreeMagnetsModel.isMagnet(I)Z -/
def mz_r132 : mz_R := (11, yX11_isMagnet, cX11_isMagnet, 2, (some .boolean), false, 2, mz_k132)
def mz_k133 : mz_K := [
  (0, .aload_n 0, 1, 0, 0, 0, 0),
  (1, .getfield 7, 3, 0, 11, 0, 5040),
  (4, .bipush 30, 2, 20, 30, 0, 0),
  (6, .iconst 4, 1, 20, 4, 0, 0),
  (7, .iload_n 1, 1, 0, 0, 0, 0),
  (8, .imul, 1, 0, 0, 0, 0),
  (9, .iadd, 1, 0, 0, 0, 0),
  (10, .iload_n 2, 1, 0, 0, 0, 0),
  (11, .iadd, 1, 0, 0, 0, 0),
  (12, .iaload, 1, 0, 0, 0, 0),
  (13, .ireturn, 1, 0, 0, 0, 0)]
/-- ThreeMagnetsModel.its(II)I -/
def mz_r133 : mz_R := (11, yX11_its, cX11_its, 3, (some .int), false, 3, mz_k133)
def mz_k134 : mz_K := [
  (0, .iload_n 1, 1, 0, 0, 0, 0),
  (1, .ifCond .eq 39, 3, 0, 0, 0, 0),
  (4, .iload_n 0, 1, 0, 0, 0, 0),
  (5, .iload_n 1, 1, 0, 0, 0, 0),
  (6, .if_icmp .eq 34, 3, 0, 0, 0, 0),
  (9, .iload_n 1, 1, 0, 0, 0, 0),
  (10, .iconst 1, 1, 20, 1, 0, 0),
  (11, .if_icmp .ne 8, 3, 0, 0, 0, 0),
  (14, .iload_n 0, 1, 0, 0, 0, 0),
  (15, .iconst 4, 1, 20, 4, 0, 0),
  (16, .if_icmp .eq 24, 3, 0, 0, 0, 0),
  (19, .iload_n 1, 1, 0, 0, 0, 0),
  (20, .iconst 2, 1, 20, 2, 0, 0),
  (21, .if_icmp .ne 9, 3, 0, 0, 0, 0),
  (24, .iload_n 0, 1, 0, 0, 0, 0),
  (25, .bipush 6, 2, 20, 6, 0, 0),
  (27, .if_icmp .eq 13, 3, 0, 0, 0, 0),
  (30, .iload_n 1, 1, 0, 0, 0, 0),
  (31, .iconst 3, 1, 20, 3, 0, 0),
  (32, .if_icmp .ne 12, 3, 0, 0, 0, 0),
  (35, .iload_n 0, 1, 0, 0, 0, 0),
  (36, .iconst 5, 1, 20, 5, 0, 0),
  (37, .if_icmp .ne 7, 3, 0, 0, 0, 0),
  (40, .iconst 1, 1, 20, 1, 0, 0),
  (41, .goto 4, 3, 0, 0, 0, 0),
  (44, .iconst 0, 1, 20, 0, 0, 0),
  (45, .ireturn, 1, 0, 0, 0, 0)]
/-- ThreeMagnetsModel.isUnder(II)Z -/
def mz_r134 : mz_R := (11, yX11_isUnder, cX11_isUnder, 2, (some .boolean), true, 2, mz_k134)
def mz_k135 : mz_K := [
  (0, .iload_n 0, 1, 0, 0, 0, 0),
  (1, .iconst 0, 1, 20, 0, 0, 0),
  (2, .bipush 6, 2, 20, 6, 0, 0),
  (4, .invokestatic 50, 3, 2, 128, 0, 5126),
  (7, .ifCond .eq 25, 3, 0, 0, 0, 0),
  (10, .iload_n 1, 1, 0, 0, 0, 0),
  (11, .iload_n 2, 1, 0, 0, 0, 0),
  (12, .invokestatic 54, 3, 2, 131, 0, 5129),
  (15, .ifCond .eq 17, 3, 0, 0, 0, 0),
  (18, .iload_n 3, 1, 0, 0, 0, 0),
  (19, .iconst 0, 1, 20, 0, 0, 0),
  (20, .bipush 99, 2, 20, 99, 0, 0),
  (22, .invokestatic 50, 3, 2, 128, 0, 5126),
  (25, .ifCond .eq 7, 3, 0, 0, 0, 0),
  (28, .iconst 1, 1, 20, 1, 0, 0),
  (29, .goto 4, 3, 0, 0, 0, 0),
  (32, .iconst 0, 1, 20, 0, 0, 0),
  (33, .ireturn, 1, 0, 0, 0, 0)]
/-- ThreeMagnetsModel.isGood(IIII)Z -/
def mz_r135 : mz_R := (11, yX11_isGood, cX11_isGood, 4, (some .boolean), true, 4, mz_k135)
def mz_k136 : mz_K := [
  (0, .bipush 30, 2, 20, 30, 0, 0),
  (2, .iconst 4, 1, 20, 4, 0, 0),
  (3, .aload_n 0, 1, 0, 0, 0, 0),
  (4, .getfield 7, 3, 0, 11, 0, 5040),
  (7, .iconst 0, 1, 20, 0, 0, 0),
  (8, .iaload, 1, 0, 0, 0, 0),
  (9, .imul, 1, 0, 0, 0, 0),
  (10, .iadd, 1, 0, 0, 0, 0),
  (11, .istore 5, 2, 0, 0, 0, 0),
  (13, .aload_n 0, 1, 0, 0, 0, 0),
  (14, .getfield 7, 3, 0, 11, 0, 5040),
  (17, .iload 5, 2, 0, 0, 0, 0),
  (19, .iconst 0, 1, 20, 0, 0, 0),
  (20, .iadd, 1, 0, 0, 0, 0),
  (21, .iload_n 1, 1, 0, 0, 0, 0),
  (22, .iastore, 1, 0, 0, 0, 0),
  (23, .aload_n 0, 1, 0, 0, 0, 0),
  (24, .getfield 7, 3, 0, 11, 0, 5040),
  (27, .iload 5, 2, 0, 0, 0, 0),
  (29, .iconst 1, 1, 20, 1, 0, 0),
  (30, .iadd, 1, 0, 0, 0, 0),
  (31, .iload_n 2, 1, 0, 0, 0, 0),
  (32, .iastore, 1, 0, 0, 0, 0),
  (33, .aload_n 0, 1, 0, 0, 0, 0),
  (34, .getfield 7, 3, 0, 11, 0, 5040),
  (37, .iload 5, 2, 0, 0, 0, 0),
  (39, .iconst 2, 1, 20, 2, 0, 0),
  (40, .iadd, 1, 0, 0, 0, 0),
  (41, .iload_n 3, 1, 0, 0, 0, 0),
  (42, .iastore, 1, 0, 0, 0, 0),
  (43, .aload_n 0, 1, 0, 0, 0, 0),
  (44, .getfield 7, 3, 0, 11, 0, 5040),
  (47, .iload 5, 2, 0, 0, 0, 0),
  (49, .iconst 3, 1, 20, 3, 0, 0),
  (50, .iadd, 1, 0, 0, 0, 0),
  (51, .iload 4, 2, 0, 0, 0, 0),
  (53, .iastore, 1, 0, 0, 0, 0),
  (54, .aload_n 0, 1, 0, 0, 0, 0),
  (55, .getfield 7, 3, 0, 11, 0, 5040),
  (58, .iconst 0, 1, 20, 0, 0, 0),
  (59, .dup2, 1, 0, 0, 0, 0),
  (60, .iaload, 1, 0, 0, 0, 0),
  (61, .iconst 1, 1, 20, 1, 0, 0),
  (62, .iadd, 1, 0, 0, 0, 0),
  (63, .iastore, 1, 0, 0, 0, 0),
  (64, .aload_n 0, 1, 0, 0, 0, 0),
  (65, .getfield 7, 3, 0, 11, 0, 5040),
  (68, .iconst 0, 1, 20, 0, 0, 0),
  (69, .iaload, 1, 0, 0, 0, 0),
  (70, .iconst 1, 1, 20, 1, 0, 0),
  (71, .isub, 1, 0, 0, 0, 0),
  (72, .ireturn, 1, 0, 0, 0, 0)]
/-- ThreeMagnetsModel.comes(IIII)I -/
def mz_r136 : mz_R := (11, yX11_comes, cX11_comes, 6, (some .int), false, 5, mz_k136)
def mz_k137 : mz_K := [
  (0, .iload_n 1, 1, 0, 0, 0, 0),
  (1, .iload_n 2, 1, 0, 0, 0, 0),
  (2, .iload_n 3, 1, 0, 0, 0, 0),
  (3, .iload 4, 2, 0, 0, 0, 0),
  (5, .invokestatic 58, 3, 2, 135, 0, 5123),
  (8, .ifCond .ne 9, 3, 0, 0, 0, 0),
  (11, .aload_n 0, 1, 0, 0, 0, 0),
  (12, .iconst 1, 1, 20, 1, 0, 0),
  (13, .invokevirtual 62, 3, 3, 127, 0, 5132),
  (16, .ireturn, 1, 0, 0, 0, 0),
  (17, .aload_n 0, 1, 0, 0, 0, 0),
  (18, .getfield 7, 3, 0, 11, 0, 5040),
  (21, .iconst 0, 1, 20, 0, 0, 0),
  (22, .iaload, 1, 0, 0, 0, 0),
  (23, .bipush 6, 2, 20, 6, 0, 0),
  (25, .if_icmp .ne 11, 3, 0, 0, 0, 0),
  (28, .aload_n 0, 1, 0, 0, 0, 0),
  (29, .iconst 4, 1, 20, 4, 0, 0),
  (30, .invokevirtual 62, 3, 3, 127, 0, 5132),
  (33, .goto 12, 3, 0, 0, 0, 0),
  (36, .aload_n 0, 1, 0, 0, 0, 0),
  (37, .iload_n 1, 1, 0, 0, 0, 0),
  (38, .iload_n 2, 1, 0, 0, 0, 0),
  (39, .iload_n 3, 1, 0, 0, 0, 0),
  (40, .iload 4, 2, 0, 0, 0, 0),
  (42, .invokevirtual 66, 3, 3, 136, 0, 5137),
  (45, .ireturn, 1, 0, 0, 0, 0)]
/-- ThreeMagnetsModel.magnet(IIII)I -/
def mz_r137 : mz_R := (11, yX11_magnet, cX11_magnet, 5, (some .int), false, 5, mz_k137)
def mz_k138 : mz_K := [
  (0, .aload_n 0, 1, 0, 0, 0, 0),
  (1, .iload_n 1, 1, 0, 0, 0, 0),
  (2, .invokevirtual 70, 3, 3, 132, 0, 5145),
  (5, .ifCond .eq 12, 3, 0, 0, 0, 0),
  (8, .iload_n 2, 1, 0, 0, 0, 0),
  (9, .iconst 0, 1, 20, 0, 0, 0),
  (10, .iconst 5, 1, 20, 5, 0, 0),
  (11, .invokestatic 50, 3, 2, 128, 0, 5126),
  (14, .ifCond .ne 9, 3, 0, 0, 0, 0),
  (17, .aload_n 0, 1, 0, 0, 0, 0),
  (18, .iconst 1, 1, 20, 1, 0, 0),
  (19, .invokevirtual 62, 3, 3, 127, 0, 5132),
  (22, .ireturn, 1, 0, 0, 0, 0),
  (23, .iload_n 2, 1, 0, 0, 0, 0),
  (24, .iconst 4, 1, 20, 4, 0, 0),
  (25, .if_icmp .ge 10, 3, 0, 0, 0, 0),
  (28, .aload_n 0, 1, 0, 0, 0, 0),
  (29, .iload_n 1, 1, 0, 0, 0, 0),
  (30, .iload_n 2, 1, 0, 0, 0, 0),
  (31, .invokevirtual 74, 3, 3, 133, 0, 5149),
  (34, .ireturn, 1, 0, 0, 0, 0),
  (35, .aload_n 0, 1, 0, 0, 0, 0),
  (36, .invokevirtual 78, 3, 3, 145, 0, 5153),
  (39, .iload_n 2, 1, 0, 0, 0, 0),
  (40, .iconst 4, 1, 20, 4, 0, 0),
  (41, .if_icmp .ne 11, 3, 0, 0, 0, 0),
  (44, .aload_n 0, 1, 0, 0, 0, 0),
  (45, .iload_n 1, 1, 0, 0, 0, 0),
  (46, .invokevirtual 81, 3, 3, 147, 0, 5157),
  (49, .goto 8, 3, 0, 0, 0, 0),
  (52, .aload_n 0, 1, 0, 0, 0, 0),
  (53, .iload_n 1, 1, 0, 0, 0, 0),
  (54, .invokevirtual 84, 3, 3, 150, 0, 5164),
  (57, .ireturn, 1, 0, 0, 0, 0)]
/-- ThreeMagnetsModel.magnetIs(II)I -/
def mz_r138 : mz_R := (11, yX11_magnetIs, cX11_magnetIs, 3, (some .int), false, 3, mz_k138)
def mz_k139 : mz_K := [
  (0, .aload_n 0, 1, 0, 0, 0, 0),
  (1, .iload_n 1, 1, 0, 0, 0, 0),
  (2, .invokevirtual 70, 3, 3, 132, 0, 5145),
  (5, .ifCond .eq 13, 3, 0, 0, 0, 0),
  (8, .iload_n 2, 1, 0, 0, 0, 0),
  (9, .iconst 0, 1, 20, 0, 0, 0),
  (10, .bipush 6, 2, 20, 6, 0, 0),
  (12, .invokestatic 50, 3, 2, 128, 0, 5126),
  (15, .ifCond .ne 9, 3, 0, 0, 0, 0),
  (18, .aload_n 0, 1, 0, 0, 0, 0),
  (19, .iconst 1, 1, 20, 1, 0, 0),
  (20, .invokevirtual 62, 3, 3, 127, 0, 5132),
  (23, .ireturn, 1, 0, 0, 0, 0),
  (24, .aload_n 0, 1, 0, 0, 0, 0),
  (25, .iload_n 1, 1, 0, 0, 0, 0),
  (26, .iconst 0, 1, 20, 0, 0, 0),
  (27, .invokevirtual 74, 3, 3, 133, 0, 5149),
  (30, .iload_n 2, 1, 0, 0, 0, 0),
  (31, .invokestatic 87, 3, 2, 134, 0, 5190),
  (34, .ifCond .eq 12, 3, 0, 0, 0, 0),
  (37, .aload_n 0, 1, 0, 0, 0, 0),
  (38, .iload_n 1, 1, 0, 0, 0, 0),
  (39, .iconst 3, 1, 20, 3, 0, 0),
  (40, .invokevirtual 74, 3, 3, 133, 0, 5149),
  (43, .goto 8, 3, 0, 0, 0, 0),
  (46, .aload_n 0, 1, 0, 0, 0, 0),
  (47, .iconst 5, 1, 20, 5, 0, 0),
  (48, .invokevirtual 62, 3, 3, 127, 0, 5132),
  (51, .ireturn, 1, 0, 0, 0, 0)]
/-- ThreeMagnetsModel.as(II)I -/
def mz_r139 : mz_R := (11, yX11_as, cX11_as, 3, (some .int), false, 3, mz_k139)
def mz_k140 : mz_K := [
  (0, .aload_n 0, 1, 0, 0, 0, 0),
  (1, .iload_n 1, 1, 0, 0, 0, 0),
  (2, .invokevirtual 70, 3, 3, 132, 0, 5145),
  (5, .ifCond .eq 22, 3, 0, 0, 0, 0),
  (8, .iload_n 2, 1, 0, 0, 0, 0),
  (9, .iconst 0, 1, 20, 0, 0, 0),
  (10, .bipush 6, 2, 20, 6, 0, 0),
  (12, .invokestatic 50, 3, 2, 128, 0, 5126),
  (15, .ifCond .eq 12, 3, 0, 0, 0, 0),
  (18, .iload_n 3, 1, 0, 0, 0, 0),
  (19, .iload 4, 2, 0, 0, 0, 0),
  (21, .invokestatic 54, 3, 2, 131, 0, 5129),
  (24, .ifCond .ne 9, 3, 0, 0, 0, 0),
  (27, .aload_n 0, 1, 0, 0, 0, 0),
  (28, .iconst 1, 1, 20, 1, 0, 0),
  (29, .invokevirtual 62, 3, 3, 127, 0, 5132),
  (32, .ireturn, 1, 0, 0, 0, 0),
  (33, .bipush 30, 2, 20, 30, 0, 0),
  (35, .iconst 4, 1, 20, 4, 0, 0),
  (36, .iload_n 1, 1, 0, 0, 0, 0),
  (37, .imul, 1, 0, 0, 0, 0),
  (38, .iadd, 1, 0, 0, 0, 0),
  (39, .istore 5, 2, 0, 0, 0, 0),
  (41, .aload_n 0, 1, 0, 0, 0, 0),
  (42, .getfield 7, 3, 0, 11, 0, 5040),
  (45, .iload 5, 2, 0, 0, 0, 0),
  (47, .iconst 0, 1, 20, 0, 0, 0),
  (48, .iadd, 1, 0, 0, 0, 0),
  (49, .iaload, 1, 0, 0, 0, 0),
  (50, .istore 6, 2, 0, 0, 0, 0),
  (52, .aload_n 0, 1, 0, 0, 0, 0),
  (53, .getfield 7, 3, 0, 11, 0, 5040),
  (56, .iload 5, 2, 0, 0, 0, 0),
  (58, .iconst 0, 1, 20, 0, 0, 0),
  (59, .iadd, 1, 0, 0, 0, 0),
  (60, .iload_n 2, 1, 0, 0, 0, 0),
  (61, .iastore, 1, 0, 0, 0, 0),
  (62, .aload_n 0, 1, 0, 0, 0, 0),
  (63, .getfield 7, 3, 0, 11, 0, 5040),
  (66, .iload 5, 2, 0, 0, 0, 0),
  (68, .iconst 1, 1, 20, 1, 0, 0),
  (69, .iadd, 1, 0, 0, 0, 0),
  (70, .iload_n 3, 1, 0, 0, 0, 0),
  (71, .iastore, 1, 0, 0, 0, 0),
  (72, .aload_n 0, 1, 0, 0, 0, 0),
  (73, .getfield 7, 3, 0, 11, 0, 5040),
  (76, .iload 5, 2, 0, 0, 0, 0),
  (78, .iconst 2, 1, 20, 2, 0, 0),
  (79, .iadd, 1, 0, 0, 0, 0),
  (80, .iload 4, 2, 0, 0, 0, 0),
  (82, .iastore, 1, 0, 0, 0, 0),
  (83, .iload 6, 2, 0, 0, 0, 0),
  (85, .ireturn, 1, 0, 0, 0, 0)]
/-- ThreeMagnetsModel.shift(IIII)I -/
def mz_r140 : mz_R := (11, yX11_shift, cX11_shift, 7, (some .int), false, 5, mz_k140)
def mz_k141 : mz_K := [
  (0, .aload_n 0, 1, 0, 0, 0, 0),
  (1, .getfield 7, 3, 0, 11, 0, 5040),
  (4, .iconst 0, 1, 20, 0, 0, 0),
  (5, .iaload, 1, 0, 0, 0, 0),
  (6, .ifCond .ne 9, 3, 0, 0, 0, 0),
  (9, .aload_n 0, 1, 0, 0, 0, 0),
  (10, .iconst 2, 1, 20, 2, 0, 0),
  (11, .invokevirtual 62, 3, 3, 127, 0, 5132),
  (14, .ireturn, 1, 0, 0, 0, 0),
  (15, .aload_n 0, 1, 0, 0, 0, 0),
  (16, .getfield 7, 3, 0, 11, 0, 5040),
  (19, .iconst 0, 1, 20, 0, 0, 0),
  (20, .dup2, 1, 0, 0, 0, 0),
  (21, .iaload, 1, 0, 0, 0, 0),
  (22, .iconst 1, 1, 20, 1, 0, 0),
  (23, .isub, 1, 0, 0, 0, 0),
  (24, .iastore, 1, 0, 0, 0, 0),
  (25, .aload_n 0, 1, 0, 0, 0, 0),
  (26, .getfield 7, 3, 0, 11, 0, 5040),
  (29, .iconst 0, 1, 20, 0, 0, 0),
  (30, .iaload, 1, 0, 0, 0, 0),
  (31, .ireturn, 1, 0, 0, 0, 0)]
/-- ThreeMagnetsModel.takeOff()I -/
def mz_r141 : mz_R := (11, yX11_takeOff, cX11_takeOff, 1, (some .int), false, 1, mz_k141)
def mz_k142 : mz_K := [
  (0, .iload_n 0, 1, 0, 0, 0, 0),
  (1, .iconst 2, 1, 20, 2, 0, 0),
  (2, .if_icmp .ne 13, 3, 0, 0, 0, 0),
  (5, .iload_n 1, 1, 0, 0, 0, 0),
  (6, .iconst 1, 1, 20, 1, 0, 0),
  (7, .bipush 80, 2, 20, 80, 0, 0),
  (9, .invokestatic 50, 3, 2, 128, 0, 5126),
  (12, .goto 24, 3, 0, 0, 0, 0),
  (15, .iload_n 0, 1, 0, 0, 0, 0),
  (16, .iconst 5, 1, 20, 5, 0, 0),
  (17, .if_icmp .ne 12, 3, 0, 0, 0, 0),
  (20, .iload_n 1, 1, 0, 0, 0, 0),
  (21, .iconst 1, 1, 20, 1, 0, 0),
  (22, .iconst 2, 1, 20, 2, 0, 0),
  (23, .invokestatic 50, 3, 2, 128, 0, 5126),
  (26, .goto 10, 3, 0, 0, 0, 0),
  (29, .iload_n 1, 1, 0, 0, 0, 0),
  (30, .iconst 0, 1, 20, 0, 0, 0),
  (31, .bipush 99, 2, 20, 99, 0, 0),
  (33, .invokestatic 50, 3, 2, 128, 0, 5126),
  (36, .ireturn, 1, 0, 0, 0, 0)]
/-- ThreeMagnetsModel.isRule(II)Z -/
def mz_r142 : mz_R := (11, yX11_isRule, cX11_isRule, 2, (some .boolean), true, 2, mz_k142)
def mz_k143 : mz_K := [
  (0, .iload_n 1, 1, 0, 0, 0, 0),
  (1, .iconst 0, 1, 20, 0, 0, 0),
  (2, .iconst 5, 1, 20, 5, 0, 0),
  (3, .invokestatic 50, 3, 2, 128, 0, 5126),
  (6, .ifCond .eq 11, 3, 0, 0, 0, 0),
  (9, .iload_n 1, 1, 0, 0, 0, 0),
  (10, .iload_n 2, 1, 0, 0, 0, 0),
  (11, .invokestatic 90, 3, 2, 142, 0, 5205),
  (14, .ifCond .ne 9, 3, 0, 0, 0, 0),
  (17, .aload_n 0, 1, 0, 0, 0, 0),
  (18, .iconst 1, 1, 20, 1, 0, 0),
  (19, .invokevirtual 62, 3, 3, 127, 0, 5132),
  (22, .ireturn, 1, 0, 0, 0, 0),
  (23, .aload_n 0, 1, 0, 0, 0, 0),
  (24, .getfield 7, 3, 0, 11, 0, 5040),
  (27, .bipush 10, 2, 20, 10, 0, 0),
  (29, .iload_n 1, 1, 0, 0, 0, 0),
  (30, .iadd, 1, 0, 0, 0, 0),
  (31, .iaload, 1, 0, 0, 0, 0),
  (32, .istore_n 3, 1, 0, 0, 0, 0),
  (33, .aload_n 0, 1, 0, 0, 0, 0),
  (34, .getfield 7, 3, 0, 11, 0, 5040),
  (37, .bipush 10, 2, 20, 10, 0, 0),
  (39, .iload_n 1, 1, 0, 0, 0, 0),
  (40, .iadd, 1, 0, 0, 0, 0),
  (41, .iload_n 2, 1, 0, 0, 0, 0),
  (42, .iastore, 1, 0, 0, 0, 0),
  (43, .iload_n 3, 1, 0, 0, 0, 0),
  (44, .ireturn, 1, 0, 0, 0, 0)]
/-- ThreeMagnetsModel.rule(II)I -/
def mz_r143 : mz_R := (11, yX11_rule, cX11_rule, 4, (some .int), false, 3, mz_k143)
def mz_k144 : mz_K := [
  (0, .aload_n 0, 1, 0, 0, 0, 0),
  (1, .bipush 16, 2, 20, 16, 0, 0),
  (3, .iload_n 1, 1, 0, 0, 0, 0),
  (4, .imul, 1, 0, 0, 0, 0),
  (5, .putfield 93, 3, 0, 11, 4, 5044),
  (8, .aload_n 0, 1, 0, 0, 0, 0),
  (9, .bipush 16, 2, 20, 16, 0, 0),
  (11, .iload_n 2, 1, 0, 0, 0, 0),
  (12, .imul, 1, 0, 0, 0, 0),
  (13, .putfield 97, 3, 0, 11, 5, 5045),
  (16, .aload_n 0, 1, 0, 0, 0, 0),
  (17, .iload_n 3, 1, 0, 0, 0, 0),
  (18, .putfield 100, 3, 0, 11, 6, 5046),
  (21, .aload_n 0, 1, 0, 0, 0, 0),
  (22, .iload 4, 2, 0, 0, 0, 0),
  (24, .putfield 103, 3, 0, 11, 7, 5047),
  (27, .aload_n 0, 1, 0, 0, 0, 0),
  (28, .iconst 0, 1, 20, 0, 0, 0),
  (29, .putfield 106, 3, 0, 11, 8, 5048),
  (32, .return_, 1, 0, 0, 0, 0)]
/-- ThreeMagnetsModel.goesFrom(IIII)V -/
def mz_r144 : mz_R := (11, yX11_goesFrom, cX11_goesFrom, 5, none, false, 5, mz_k144)
def mz_k145 : mz_K := [
  (0, .aload_n 0, 1, 0, 0, 0, 0),
  (1, .aload_n 0, 1, 0, 0, 0, 0),
  (2, .getfield 7, 3, 0, 11, 0, 5040),
  (5, .bipush 20, 2, 20, 20, 0, 0),
  (7, .iaload, 1, 0, 0, 0, 0),
  (8, .putfield 93, 3, 0, 11, 4, 5044),
  (11, .aload_n 0, 1, 0, 0, 0, 0),
  (12, .aload_n 0, 1, 0, 0, 0, 0),
  (13, .getfield 7, 3, 0, 11, 0, 5040),
  (16, .bipush 21, 2, 20, 21, 0, 0),
  (18, .iaload, 1, 0, 0, 0, 0),
  (19, .putfield 97, 3, 0, 11, 5, 5045),
  (22, .aload_n 0, 1, 0, 0, 0, 0),
  (23, .aload_n 0, 1, 0, 0, 0, 0),
  (24, .getfield 7, 3, 0, 11, 0, 5040),
  (27, .bipush 22, 2, 20, 22, 0, 0),
  (29, .iaload, 1, 0, 0, 0, 0),
  (30, .putfield 100, 3, 0, 11, 6, 5046),
  (33, .aload_n 0, 1, 0, 0, 0, 0),
  (34, .aload_n 0, 1, 0, 0, 0, 0),
  (35, .getfield 7, 3, 0, 11, 0, 5040),
  (38, .bipush 23, 2, 20, 23, 0, 0),
  (40, .iaload, 1, 0, 0, 0, 0),
  (41, .putfield 103, 3, 0, 11, 7, 5047),
  (44, .aload_n 0, 1, 0, 0, 0, 0),
  (45, .aload_n 0, 1, 0, 0, 0, 0),
  (46, .getfield 7, 3, 0, 11, 0, 5040),
  (49, .bipush 24, 2, 20, 24, 0, 0),
  (51, .iaload, 1, 0, 0, 0, 0),
  (52, .putfield 106, 3, 0, 11, 8, 5048),
  (55, .return_, 1, 0, 0, 0, 0)]
/-- ThreeMagnetsModel.takesBob()V -/
def mz_r145 : mz_R := (11, yX11_takesBob, cX11_takesBob, 1, none, false, 1, mz_k145)
def mz_k146 : mz_K := [
  (0, .aload_n 0, 1, 0, 0, 0, 0),
  (1, .getfield 7, 3, 0, 11, 0, 5040),
  (4, .bipush 20, 2, 20, 20, 0, 0),
  (6, .aload_n 0, 1, 0, 0, 0, 0),
  (7, .getfield 93, 3, 0, 11, 4, 5044),
  (10, .iastore, 1, 0, 0, 0, 0),
  (11, .aload_n 0, 1, 0, 0, 0, 0),
  (12, .getfield 7, 3, 0, 11, 0, 5040),
  (15, .bipush 21, 2, 20, 21, 0, 0),
  (17, .aload_n 0, 1, 0, 0, 0, 0),
  (18, .getfield 97, 3, 0, 11, 5, 5045),
  (21, .iastore, 1, 0, 0, 0, 0),
  (22, .aload_n 0, 1, 0, 0, 0, 0),
  (23, .getfield 7, 3, 0, 11, 0, 5040),
  (26, .bipush 22, 2, 20, 22, 0, 0),
  (28, .aload_n 0, 1, 0, 0, 0, 0),
  (29, .getfield 100, 3, 0, 11, 6, 5046),
  (32, .iastore, 1, 0, 0, 0, 0),
  (33, .aload_n 0, 1, 0, 0, 0, 0),
  (34, .getfield 7, 3, 0, 11, 0, 5040),
  (37, .bipush 23, 2, 20, 23, 0, 0),
  (39, .aload_n 0, 1, 0, 0, 0, 0),
  (40, .getfield 103, 3, 0, 11, 7, 5047),
  (43, .iastore, 1, 0, 0, 0, 0),
  (44, .aload_n 0, 1, 0, 0, 0, 0),
  (45, .getfield 7, 3, 0, 11, 0, 5040),
  (48, .bipush 24, 2, 20, 24, 0, 0),
  (50, .aload_n 0, 1, 0, 0, 0, 0),
  (51, .getfield 106, 3, 0, 11, 8, 5048),
  (54, .iastore, 1, 0, 0, 0, 0),
  (55, .return_, 1, 0, 0, 0, 0)]
/-- ThreeMagnetsModel.putsBob()V -/
def mz_r146 : mz_R := (11, yX11_putsBob, cX11_putsBob, 1, none, false, 1, mz_k146)
def mz_k147 : mz_K := [
  (0, .bipush 16, 2, 20, 16, 0, 0),
  (2, .aload_n 0, 1, 0, 0, 0, 0),
  (3, .iload_n 1, 1, 0, 0, 0, 0),
  (4, .iconst 1, 1, 20, 1, 0, 0),
  (5, .invokevirtual 74, 3, 3, 133, 0, 5149),
  (8, .imul, 1, 0, 0, 0, 0),
  (9, .aload_n 0, 1, 0, 0, 0, 0),
  (10, .getfield 93, 3, 0, 11, 4, 5044),
  (13, .isub, 1, 0, 0, 0, 0),
  (14, .invokestatic 109, 3, 2, 129, 0, 5161),
  (17, .bipush 16, 2, 20, 16, 0, 0),
  (19, .aload_n 0, 1, 0, 0, 0, 0),
  (20, .iload_n 1, 1, 0, 0, 0, 0),
  (21, .iconst 2, 1, 20, 2, 0, 0),
  (22, .invokevirtual 74, 3, 3, 133, 0, 5149),
  (25, .imul, 1, 0, 0, 0, 0),
  (26, .aload_n 0, 1, 0, 0, 0, 0),
  (27, .getfield 97, 3, 0, 11, 5, 5045),
  (30, .isub, 1, 0, 0, 0, 0),
  (31, .invokestatic 109, 3, 2, 129, 0, 5161),
  (34, .iadd, 1, 0, 0, 0, 0),
  (35, .bipush 16, 2, 20, 16, 0, 0),
  (37, .idiv, 1, 0, 0, 0, 0),
  (38, .ireturn, 1, 0, 0, 0, 0)]
/-- ThreeMagnetsModel.far(I)I -/
def mz_r147 : mz_R := (11, yX11_far, cX11_far, 2, (some .int), false, 2, mz_k147)
def mz_k148 : mz_K := [
  (0, .iconst (-1), 1, 21, 1, 0, 0),
  (1, .istore_n 2, 1, 0, 0, 0, 0),
  (2, .iconst 0, 1, 20, 0, 0, 0),
  (3, .istore_n 3, 1, 0, 0, 0, 0),
  (4, .iload_n 3, 1, 0, 0, 0, 0),
  (5, .aload_n 0, 1, 0, 0, 0, 0),
  (6, .getfield 7, 3, 0, 11, 0, 5040),
  (9, .iconst 0, 1, 20, 0, 0, 0),
  (10, .iaload, 1, 0, 0, 0, 0),
  (11, .if_icmp .ge 61, 3, 0, 0, 0, 0),
  (14, .iload_n 1, 1, 0, 0, 0, 0),
  (15, .ifCond .ne 16, 3, 0, 0, 0, 0),
  (18, .aload_n 0, 1, 0, 0, 0, 0),
  (19, .iload_n 3, 1, 0, 0, 0, 0),
  (20, .iconst 0, 1, 20, 0, 0, 0),
  (21, .invokevirtual 74, 3, 3, 133, 0, 5149),
  (24, .iconst 2, 1, 20, 2, 0, 0),
  (25, .invokestatic 87, 3, 2, 134, 0, 5190),
  (28, .ifCond .ne 7, 3, 0, 0, 0, 0),
  (31, .iconst 1, 1, 20, 1, 0, 0),
  (32, .goto 4, 3, 0, 0, 0, 0),
  (35, .iconst 0, 1, 20, 0, 0, 0),
  (36, .istore 4, 2, 0, 0, 0, 0),
  (38, .iload 4, 2, 0, 0, 0, 0),
  (40, .ifCond .eq 24, 3, 0, 0, 0, 0),
  (43, .iload_n 2, 1, 0, 0, 0, 0),
  (44, .ifCond .lt 16, 3, 0, 0, 0, 0),
  (47, .aload_n 0, 1, 0, 0, 0, 0),
  (48, .iload_n 3, 1, 0, 0, 0, 0),
  (49, .invokevirtual 81, 3, 3, 147, 0, 5157),
  (52, .aload_n 0, 1, 0, 0, 0, 0),
  (53, .iload_n 2, 1, 0, 0, 0, 0),
  (54, .invokevirtual 81, 3, 3, 147, 0, 5157),
  (57, .if_icmp .ge 7, 3, 0, 0, 0, 0),
  (60, .iload_n 3, 1, 0, 0, 0, 0),
  (61, .goto 4, 3, 0, 0, 0, 0),
  (64, .iload_n 2, 1, 0, 0, 0, 0),
  (65, .istore_n 2, 1, 0, 0, 0, 0),
  (66, .iinc 3 1, 3, 20, 1, 0, 0),
  (69, .goto (-65), 3, 0, 0, 0, 0),
  (72, .iload_n 2, 1, 0, 0, 0, 0),
  (73, .ireturn, 1, 0, 0, 0, 0)]
/-- ThreeMagnetsModel.nearestOf(Z)I -/
def mz_r148 : mz_R := (11, yX11_nearestOf, cX11_nearestOf, 5, (some .int), false, 2, mz_k148)
def mz_k149 : mz_K := [
  (0, .aload_n 0, 1, 0, 0, 0, 0),
  (1, .iload_n 1, 1, 0, 0, 0, 0),
  (2, .invokevirtual 81, 3, 3, 147, 0, 5157),
  (5, .istore_n 2, 1, 0, 0, 0, 0),
  (6, .aload_n 0, 1, 0, 0, 0, 0),
  (7, .iload_n 1, 1, 0, 0, 0, 0),
  (8, .iconst 3, 1, 20, 3, 0, 0),
  (9, .invokevirtual 74, 3, 3, 133, 0, 5149),
  (12, .istore_n 3, 1, 0, 0, 0, 0),
  (13, .aload_n 0, 1, 0, 0, 0, 0),
  (14, .iconst 0, 1, 20, 0, 0, 0),
  (15, .invokevirtual 112, 3, 3, 169, 0, 5172),
  (18, .ifCond .ne 12, 3, 0, 0, 0, 0),
  (21, .iload_n 3, 1, 0, 0, 0, 0),
  (22, .bipush 9, 2, 20, 9, 0, 0),
  (24, .imul, 1, 0, 0, 0, 0),
  (25, .iload_n 2, 1, 0, 0, 0, 0),
  (26, .iconst 3, 1, 20, 3, 0, 0),
  (27, .iadd, 1, 0, 0, 0, 0),
  (28, .idiv, 1, 0, 0, 0, 0),
  (29, .ireturn, 1, 0, 0, 0, 0),
  (30, .aload_n 0, 1, 0, 0, 0, 0),
  (31, .getfield 22, 3, 0, 11, 14, 5054),
  (34, .bipush 114, 2, 20, 114, 0, 0),
  (36, .iload_n 2, 1, 0, 0, 0, 0),
  (37, .iastore, 1, 0, 0, 0, 0),
  (38, .aload_n 0, 1, 0, 0, 0, 0),
  (39, .getfield 22, 3, 0, 11, 14, 5054),
  (42, .bipush 115, 2, 20, 115, 0, 0),
  (44, .iload_n 3, 1, 0, 0, 0, 0),
  (45, .iastore, 1, 0, 0, 0, 0),
  (46, .aload_n 0, 1, 0, 0, 0, 0),
  (47, .getfield 22, 3, 0, 11, 14, 5054),
  (50, .bipush 110, 2, 20, 110, 0, 0),
  (52, .aload_n 0, 1, 0, 0, 0, 0),
  (53, .getfield 106, 3, 0, 11, 8, 5048),
  (56, .iastore, 1, 0, 0, 0, 0),
  (57, .aload_n 0, 1, 0, 0, 0, 0),
  (58, .iconst 0, 1, 20, 0, 0, 0),
  (59, .invokevirtual 115, 3, 3, 173, 0, 5176),
  (62, .sipush (-999), 3, 21, 999, 0, 0),
  (65, .sipush 999, 3, 20, 999, 0, 0),
  (68, .invokestatic 118, 3, 2, 130, 0, 5183),
  (71, .ireturn, 1, 0, 0, 0, 0)]
/-- ThreeMagnetsModel.plainPull(I)I -/
def mz_r149 : mz_R := (11, yX11_plainPull, cX11_plainPull, 4, (some .int), false, 2, mz_k149)
def mz_k150 : mz_K := [
  (0, .aload_n 0, 1, 0, 0, 0, 0),
  (1, .iload_n 1, 1, 0, 0, 0, 0),
  (2, .invokevirtual 122, 3, 3, 149, 0, 5168),
  (5, .istore_n 2, 1, 0, 0, 0, 0),
  (6, .aload_n 0, 1, 0, 0, 0, 0),
  (7, .iload_n 1, 1, 0, 0, 0, 0),
  (8, .iconst 0, 1, 20, 0, 0, 0),
  (9, .invokevirtual 74, 3, 3, 133, 0, 5149),
  (12, .tableswitch 109 1 6 #[40, 44, 48, 63, 81, 103], 40, 0, 0, 0, 0),
  (52, .iload_n 2, 1, 0, 0, 0, 0),
  (53, .iconst 2, 1, 20, 2, 0, 0),
  (54, .idiv, 1, 0, 0, 0, 0),
  (55, .ireturn, 1, 0, 0, 0, 0),
  (56, .iconst 0, 1, 20, 0, 0, 0),
  (57, .iload_n 2, 1, 0, 0, 0, 0),
  (58, .isub, 1, 0, 0, 0, 0),
  (59, .ireturn, 1, 0, 0, 0, 0),
  (60, .aload_n 0, 1, 0, 0, 0, 0),
  (61, .getfield 106, 3, 0, 11, 8, 5048),
  (64, .iconst 2, 1, 20, 2, 0, 0),
  (65, .irem, 1, 0, 0, 0, 0),
  (66, .ifCond .ne 7, 3, 0, 0, 0, 0),
  (69, .iload_n 2, 1, 0, 0, 0, 0),
  (70, .goto 4, 3, 0, 0, 0, 0),
  (73, .iconst 0, 1, 20, 0, 0, 0),
  (74, .ireturn, 1, 0, 0, 0, 0),
  (75, .aload_n 0, 1, 0, 0, 0, 0),
  (76, .iload_n 1, 1, 0, 0, 0, 0),
  (77, .invokevirtual 81, 3, 3, 147, 0, 5157),
  (80, .bipush 20, 2, 20, 20, 0, 0),
  (82, .if_icmp .gt 9, 3, 0, 0, 0, 0),
  (85, .iload_n 2, 1, 0, 0, 0, 0),
  (86, .iconst 2, 1, 20, 2, 0, 0),
  (87, .idiv, 1, 0, 0, 0, 0),
  (88, .goto 4, 3, 0, 0, 0, 0),
  (91, .iconst 0, 1, 20, 0, 0, 0),
  (92, .ireturn, 1, 0, 0, 0, 0),
  (93, .aload_n 0, 1, 0, 0, 0, 0),
  (94, .getfield 106, 3, 0, 11, 8, 5048),
  (97, .iconst 2, 1, 20, 2, 0, 0),
  (98, .irem, 1, 0, 0, 0, 0),
  (99, .ifCond .ne 14, 3, 0, 0, 0, 0),
  (102, .iload_n 2, 1, 0, 0, 0, 0),
  (103, .iconst 3, 1, 20, 3, 0, 0),
  (104, .if_icmp .le 9, 3, 0, 0, 0, 0),
  (107, .iload_n 2, 1, 0, 0, 0, 0),
  (108, .iconst 3, 1, 20, 3, 0, 0),
  (109, .isub, 1, 0, 0, 0, 0),
  (110, .goto 4, 3, 0, 0, 0, 0),
  (113, .iconst 0, 1, 20, 0, 0, 0),
  (114, .ireturn, 1, 0, 0, 0, 0),
  (115, .iconst 0, 1, 20, 0, 0, 0),
  (116, .iconst 2, 1, 20, 2, 0, 0),
  (117, .iload_n 2, 1, 0, 0, 0, 0),
  (118, .imul, 1, 0, 0, 0, 0),
  (119, .isub, 1, 0, 0, 0, 0),
  (120, .ireturn, 1, 0, 0, 0, 0),
  (121, .iload_n 2, 1, 0, 0, 0, 0),
  (122, .ireturn, 1, 0, 0, 0, 0)]
/-- ThreeMagnetsModel.pull(I)I -/
def mz_r150 : mz_R := (11, yX11_pull, cX11_pull, 3, (some .int), false, 2, mz_k150)
def mz_k151 : mz_K := [
  (0, .aload_n 0, 1, 0, 0, 0, 0),
  (1, .iconst 1, 1, 20, 1, 0, 0),
  (2, .invokevirtual 112, 3, 3, 169, 0, 5172),
  (5, .ifCond .ne 11, 3, 0, 0, 0, 0),
  (8, .aload_n 0, 1, 0, 0, 0, 0),
  (9, .getfield 7, 3, 0, 11, 0, 5040),
  (12, .bipush 11, 2, 20, 11, 0, 0),
  (14, .iaload, 1, 0, 0, 0, 0),
  (15, .ireturn, 1, 0, 0, 0, 0),
  (16, .aload_n 0, 1, 0, 0, 0, 0),
  (17, .iconst 1, 1, 20, 1, 0, 0),
  (18, .invokevirtual 125, 3, 3, 148, 0, 5216),
  (21, .istore_n 1, 1, 0, 0, 0, 0),
  (22, .aload_n 0, 1, 0, 0, 0, 0),
  (23, .getfield 22, 3, 0, 11, 14, 5054),
  (26, .bipush 118, 2, 20, 118, 0, 0),
  (28, .aload_n 0, 1, 0, 0, 0, 0),
  (29, .getfield 100, 3, 0, 11, 6, 5046),
  (32, .invokestatic 109, 3, 2, 129, 0, 5161),
  (35, .aload_n 0, 1, 0, 0, 0, 0),
  (36, .getfield 103, 3, 0, 11, 7, 5047),
  (39, .invokestatic 109, 3, 2, 129, 0, 5161),
  (42, .iadd, 1, 0, 0, 0, 0),
  (43, .iastore, 1, 0, 0, 0, 0),
  (44, .aload_n 0, 1, 0, 0, 0, 0),
  (45, .getfield 22, 3, 0, 11, 14, 5054),
  (48, .bipush 114, 2, 20, 114, 0, 0),
  (50, .iload_n 1, 1, 0, 0, 0, 0),
  (51, .ifCond .ge 9, 3, 0, 0, 0, 0),
  (54, .sipush 999, 3, 20, 999, 0, 0),
  (57, .goto 8, 3, 0, 0, 0, 0),
  (60, .aload_n 0, 1, 0, 0, 0, 0),
  (61, .iload_n 1, 1, 0, 0, 0, 0),
  (62, .invokevirtual 81, 3, 3, 147, 0, 5157),
  (65, .iastore, 1, 0, 0, 0, 0),
  (66, .aload_n 0, 1, 0, 0, 0, 0),
  (67, .getfield 22, 3, 0, 11, 14, 5054),
  (70, .bipush 110, 2, 20, 110, 0, 0),
  (72, .aload_n 0, 1, 0, 0, 0, 0),
  (73, .getfield 106, 3, 0, 11, 8, 5048),
  (76, .iastore, 1, 0, 0, 0, 0),
  (77, .aload_n 0, 1, 0, 0, 0, 0),
  (78, .iconst 1, 1, 20, 1, 0, 0),
  (79, .invokevirtual 115, 3, 3, 173, 0, 5176),
  (82, .iconst 0, 1, 20, 0, 0, 0),
  (83, .bipush 99, 2, 20, 99, 0, 0),
  (85, .invokestatic 118, 3, 2, 130, 0, 5183),
  (88, .ireturn, 1, 0, 0, 0, 0)]
/-- ThreeMagnetsModel.rubs()I -/
def mz_r151 : mz_R := (11, yX11_rubs, cX11_rubs, 2, (some .int), false, 1, mz_k151)
def mz_k152 : mz_K := [
  (0, .iconst 0, 1, 20, 0, 0, 0),
  (1, .istore_n 2, 1, 0, 0, 0, 0),
  (2, .iload_n 2, 1, 0, 0, 0, 0),
  (3, .aload_n 0, 1, 0, 0, 0, 0),
  (4, .getfield 7, 3, 0, 11, 0, 5040),
  (7, .iconst 0, 1, 20, 0, 0, 0),
  (8, .iaload, 1, 0, 0, 0, 0),
  (9, .if_icmp .ge 87, 3, 0, 0, 0, 0),
  (12, .aload_n 0, 1, 0, 0, 0, 0),
  (13, .iload_n 2, 1, 0, 0, 0, 0),
  (14, .invokevirtual 84, 3, 3, 150, 0, 5164),
  (17, .istore_n 3, 1, 0, 0, 0, 0),
  (18, .bipush 16, 2, 20, 16, 0, 0),
  (20, .aload_n 0, 1, 0, 0, 0, 0),
  (21, .iload_n 2, 1, 0, 0, 0, 0),
  (22, .invokevirtual 81, 3, 3, 147, 0, 5157),
  (25, .iconst 1, 1, 20, 1, 0, 0),
  (26, .iadd, 1, 0, 0, 0, 0),
  (27, .imul, 1, 0, 0, 0, 0),
  (28, .istore 4, 2, 0, 0, 0, 0),
  (30, .aload_n 0, 1, 0, 0, 0, 0),
  (31, .dup, 1, 0, 0, 0, 0),
  (32, .getfield 100, 3, 0, 11, 6, 5046),
  (35, .bipush 16, 2, 20, 16, 0, 0),
  (37, .aload_n 0, 1, 0, 0, 0, 0),
  (38, .iload_n 2, 1, 0, 0, 0, 0),
  (39, .iconst 1, 1, 20, 1, 0, 0),
  (40, .invokevirtual 74, 3, 3, 133, 0, 5149),
  (43, .imul, 1, 0, 0, 0, 0),
  (44, .aload_n 0, 1, 0, 0, 0, 0),
  (45, .getfield 93, 3, 0, 11, 4, 5044),
  (48, .isub, 1, 0, 0, 0, 0),
  (49, .iload_n 3, 1, 0, 0, 0, 0),
  (50, .imul, 1, 0, 0, 0, 0),
  (51, .iload 4, 2, 0, 0, 0, 0),
  (53, .idiv, 1, 0, 0, 0, 0),
  (54, .iload_n 1, 1, 0, 0, 0, 0),
  (55, .idiv, 1, 0, 0, 0, 0),
  (56, .iadd, 1, 0, 0, 0, 0),
  (57, .putfield 100, 3, 0, 11, 6, 5046),
  (60, .aload_n 0, 1, 0, 0, 0, 0),
  (61, .dup, 1, 0, 0, 0, 0),
  (62, .getfield 103, 3, 0, 11, 7, 5047),
  (65, .bipush 16, 2, 20, 16, 0, 0),
  (67, .aload_n 0, 1, 0, 0, 0, 0),
  (68, .iload_n 2, 1, 0, 0, 0, 0),
  (69, .iconst 2, 1, 20, 2, 0, 0),
  (70, .invokevirtual 74, 3, 3, 133, 0, 5149),
  (73, .imul, 1, 0, 0, 0, 0),
  (74, .aload_n 0, 1, 0, 0, 0, 0),
  (75, .getfield 97, 3, 0, 11, 5, 5045),
  (78, .isub, 1, 0, 0, 0, 0),
  (79, .iload_n 3, 1, 0, 0, 0, 0),
  (80, .imul, 1, 0, 0, 0, 0),
  (81, .iload 4, 2, 0, 0, 0, 0),
  (83, .idiv, 1, 0, 0, 0, 0),
  (84, .iload_n 1, 1, 0, 0, 0, 0),
  (85, .idiv, 1, 0, 0, 0, 0),
  (86, .iadd, 1, 0, 0, 0, 0),
  (87, .putfield 103, 3, 0, 11, 7, 5047),
  (90, .iinc 2 1, 3, 20, 1, 0, 0),
  (93, .goto (-91), 3, 0, 0, 0, 0),
  (96, .aload_n 0, 1, 0, 0, 0, 0),
  (97, .dup, 1, 0, 0, 0, 0),
  (98, .getfield 100, 3, 0, 11, 6, 5046),
  (101, .aload_n 0, 1, 0, 0, 0, 0),
  (102, .getfield 93, 3, 0, 11, 4, 5044),
  (105, .aload_n 0, 1, 0, 0, 0, 0),
  (106, .getfield 7, 3, 0, 11, 0, 5040),
  (109, .bipush 10, 2, 20, 10, 0, 0),
  (111, .iaload, 1, 0, 0, 0, 0),
  (112, .imul, 1, 0, 0, 0, 0),
  (113, .sipush 1600, 3, 20, 1600, 0, 0),
  (116, .idiv, 1, 0, 0, 0, 0),
  (117, .iload_n 1, 1, 0, 0, 0, 0),
  (118, .idiv, 1, 0, 0, 0, 0),
  (119, .isub, 1, 0, 0, 0, 0),
  (120, .putfield 100, 3, 0, 11, 6, 5046),
  (123, .aload_n 0, 1, 0, 0, 0, 0),
  (124, .dup, 1, 0, 0, 0, 0),
  (125, .getfield 103, 3, 0, 11, 7, 5047),
  (128, .aload_n 0, 1, 0, 0, 0, 0),
  (129, .getfield 97, 3, 0, 11, 5, 5045),
  (132, .aload_n 0, 1, 0, 0, 0, 0),
  (133, .getfield 7, 3, 0, 11, 0, 5040),
  (136, .bipush 10, 2, 20, 10, 0, 0),
  (138, .iaload, 1, 0, 0, 0, 0),
  (139, .imul, 1, 0, 0, 0, 0),
  (140, .sipush 1600, 3, 20, 1600, 0, 0),
  (143, .idiv, 1, 0, 0, 0, 0),
  (144, .iload_n 1, 1, 0, 0, 0, 0),
  (145, .idiv, 1, 0, 0, 0, 0),
  (146, .isub, 1, 0, 0, 0, 0),
  (147, .putfield 103, 3, 0, 11, 7, 5047),
  (150, .aload_n 0, 1, 0, 0, 0, 0),
  (151, .invokevirtual 129, 3, 3, 151, 0, 6060),
  (154, .istore_n 2, 1, 0, 0, 0, 0),
  (155, .aload_n 0, 1, 0, 0, 0, 0),
  (156, .dup, 1, 0, 0, 0, 0),
  (157, .getfield 100, 3, 0, 11, 6, 5046),
  (160, .aload_n 0, 1, 0, 0, 0, 0),
  (161, .getfield 100, 3, 0, 11, 6, 5046),
  (164, .iload_n 2, 1, 0, 0, 0, 0),
  (165, .imul, 1, 0, 0, 0, 0),
  (166, .bipush 100, 2, 20, 100, 0, 0),
  (168, .idiv, 1, 0, 0, 0, 0),
  (169, .iload_n 1, 1, 0, 0, 0, 0),
  (170, .idiv, 1, 0, 0, 0, 0),
  (171, .isub, 1, 0, 0, 0, 0),
  (172, .putfield 100, 3, 0, 11, 6, 5046),
  (175, .aload_n 0, 1, 0, 0, 0, 0),
  (176, .dup, 1, 0, 0, 0, 0),
  (177, .getfield 103, 3, 0, 11, 7, 5047),
  (180, .aload_n 0, 1, 0, 0, 0, 0),
  (181, .getfield 103, 3, 0, 11, 7, 5047),
  (184, .iload_n 2, 1, 0, 0, 0, 0),
  (185, .imul, 1, 0, 0, 0, 0),
  (186, .bipush 100, 2, 20, 100, 0, 0),
  (188, .idiv, 1, 0, 0, 0, 0),
  (189, .iload_n 1, 1, 0, 0, 0, 0),
  (190, .idiv, 1, 0, 0, 0, 0),
  (191, .isub, 1, 0, 0, 0, 0),
  (192, .putfield 103, 3, 0, 11, 7, 5047),
  (195, .aload_n 0, 1, 0, 0, 0, 0),
  (196, .getfield 93, 3, 0, 11, 4, 5044),
  (199, .aload_n 0, 1, 0, 0, 0, 0),
  (200, .getfield 100, 3, 0, 11, 6, 5046),
  (203, .iload_n 1, 1, 0, 0, 0, 0),
  (204, .idiv, 1, 0, 0, 0, 0),
  (205, .iadd, 1, 0, 0, 0, 0),
  (206, .istore_n 3, 1, 0, 0, 0, 0),
  (207, .aload_n 0, 1, 0, 0, 0, 0),
  (208, .getfield 97, 3, 0, 11, 5, 5045),
  (211, .aload_n 0, 1, 0, 0, 0, 0),
  (212, .getfield 103, 3, 0, 11, 7, 5047),
  (215, .iload_n 1, 1, 0, 0, 0, 0),
  (216, .idiv, 1, 0, 0, 0, 0),
  (217, .iadd, 1, 0, 0, 0, 0),
  (218, .istore 4, 2, 0, 0, 0, 0),
  (220, .aload_n 0, 1, 0, 0, 0, 0),
  (221, .iload_n 3, 1, 0, 0, 0, 0),
  (222, .sipush (-1600), 3, 21, 1600, 0, 0),
  (225, .sipush 1600, 3, 20, 1600, 0, 0),
  (228, .invokestatic 118, 3, 2, 130, 0, 5183),
  (231, .putfield 93, 3, 0, 11, 4, 5044),
  (234, .aload_n 0, 1, 0, 0, 0, 0),
  (235, .iload 4, 2, 0, 0, 0, 0),
  (237, .sipush (-1600), 3, 21, 1600, 0, 0),
  (240, .sipush 1600, 3, 20, 1600, 0, 0),
  (243, .invokestatic 118, 3, 2, 130, 0, 5183),
  (246, .putfield 97, 3, 0, 11, 5, 5045),
  (249, .aload_n 0, 1, 0, 0, 0, 0),
  (250, .aload_n 0, 1, 0, 0, 0, 0),
  (251, .getfield 93, 3, 0, 11, 4, 5044),
  (254, .iload_n 3, 1, 0, 0, 0, 0),
  (255, .if_icmp .ne 10, 3, 0, 0, 0, 0),
  (258, .aload_n 0, 1, 0, 0, 0, 0),
  (259, .getfield 100, 3, 0, 11, 6, 5046),
  (262, .goto 4, 3, 0, 0, 0, 0),
  (265, .iconst 0, 1, 20, 0, 0, 0),
  (266, .putfield 100, 3, 0, 11, 6, 5046),
  (269, .aload_n 0, 1, 0, 0, 0, 0),
  (270, .aload_n 0, 1, 0, 0, 0, 0),
  (271, .getfield 97, 3, 0, 11, 5, 5045),
  (274, .iload 4, 2, 0, 0, 0, 0),
  (276, .if_icmp .ne 10, 3, 0, 0, 0, 0),
  (279, .aload_n 0, 1, 0, 0, 0, 0),
  (280, .getfield 103, 3, 0, 11, 7, 5047),
  (283, .goto 4, 3, 0, 0, 0, 0),
  (286, .iconst 0, 1, 20, 0, 0, 0),
  (287, .putfield 103, 3, 0, 11, 7, 5047),
  (290, .aload_n 0, 1, 0, 0, 0, 0),
  (291, .dup, 1, 0, 0, 0, 0),
  (292, .getfield 106, 3, 0, 11, 8, 5048),
  (295, .iconst 1, 1, 20, 1, 0, 0),
  (296, .iadd, 1, 0, 0, 0, 0),
  (297, .putfield 106, 3, 0, 11, 8, 5048),
  (300, .return_, 1, 0, 0, 0, 0)]
/-- ThreeMagnetsModel.tick1(I)V -/
def mz_r152 : mz_R := (11, yX11_tick1, cX11_tick1, 5, none, false, 2, mz_k152)
def mz_k153 : mz_K := [
  (0, .aload_n 0, 1, 0, 0, 0, 0),
  (1, .getfield 100, 3, 0, 11, 6, 5046),
  (4, .invokestatic 109, 3, 2, 129, 0, 5161),
  (7, .aload_n 0, 1, 0, 0, 0, 0),
  (8, .getfield 103, 3, 0, 11, 7, 5047),
  (11, .invokestatic 109, 3, 2, 129, 0, 5161),
  (14, .iadd, 1, 0, 0, 0, 0),
  (15, .aload_n 0, 1, 0, 0, 0, 0),
  (16, .getfield 7, 3, 0, 11, 0, 5040),
  (19, .bipush 13, 2, 20, 13, 0, 0),
  (21, .iaload, 1, 0, 0, 0, 0),
  (22, .if_icmp .le 6, 3, 0, 0, 0, 0),
  (25, .bipush 9, 2, 20, 9, 0, 0),
  (27, .ireturn, 1, 0, 0, 0, 0),
  (28, .aload_n 0, 1, 0, 0, 0, 0),
  (29, .iconst 0, 1, 20, 0, 0, 0),
  (30, .invokevirtual 125, 3, 3, 148, 0, 5216),
  (33, .istore_n 1, 1, 0, 0, 0, 0),
  (34, .iload_n 1, 1, 0, 0, 0, 0),
  (35, .ifCond .lt 22, 3, 0, 0, 0, 0),
  (38, .aload_n 0, 1, 0, 0, 0, 0),
  (39, .iload_n 1, 1, 0, 0, 0, 0),
  (40, .invokevirtual 81, 3, 3, 147, 0, 5157),
  (43, .aload_n 0, 1, 0, 0, 0, 0),
  (44, .getfield 7, 3, 0, 11, 0, 5040),
  (47, .bipush 14, 2, 20, 14, 0, 0),
  (49, .iaload, 1, 0, 0, 0, 0),
  (50, .if_icmp .gt 7, 3, 0, 0, 0, 0),
  (53, .iload_n 1, 1, 0, 0, 0, 0),
  (54, .goto 5, 3, 0, 0, 0, 0),
  (57, .bipush 9, 2, 20, 9, 0, 0),
  (59, .ireturn, 1, 0, 0, 0, 0)]
/-- ThreeMagnetsModel.restsAt()I -/
def mz_r153 : mz_R := (11, yX11_restsAt, cX11_restsAt, 2, (some .int), false, 1, mz_k153)
def mz_k154 : mz_K := [
  (0, .aload_n 0, 1, 0, 0, 0, 0),
  (1, .getfield 7, 3, 0, 11, 0, 5040),
  (4, .bipush 12, 2, 20, 12, 0, 0),
  (6, .iaload, 1, 0, 0, 0, 0),
  (7, .iload_n 1, 1, 0, 0, 0, 0),
  (8, .imul, 1, 0, 0, 0, 0),
  (9, .istore_n 2, 1, 0, 0, 0, 0),
  (10, .aload_n 0, 1, 0, 0, 0, 0),
  (11, .invokevirtual 133, 3, 3, 153, 0, 6068),
  (14, .istore_n 3, 1, 0, 0, 0, 0),
  (15, .iload_n 3, 1, 0, 0, 0, 0),
  (16, .bipush 9, 2, 20, 9, 0, 0),
  (18, .if_icmp .ne 24, 3, 0, 0, 0, 0),
  (21, .aload_n 0, 1, 0, 0, 0, 0),
  (22, .getfield 106, 3, 0, 11, 8, 5048),
  (25, .iload_n 2, 1, 0, 0, 0, 0),
  (26, .if_icmp .ge 16, 3, 0, 0, 0, 0),
  (29, .aload_n 0, 1, 0, 0, 0, 0),
  (30, .iload_n 1, 1, 0, 0, 0, 0),
  (31, .invokevirtual 136, 3, 3, 152, 0, 6056),
  (34, .aload_n 0, 1, 0, 0, 0, 0),
  (35, .invokevirtual 133, 3, 3, 153, 0, 6068),
  (38, .istore_n 3, 1, 0, 0, 0, 0),
  (39, .goto (-24), 3, 0, 0, 0, 0),
  (42, .iload_n 3, 1, 0, 0, 0, 0),
  (43, .ireturn, 1, 0, 0, 0, 0)]
/-- ThreeMagnetsModel.runs(I)I -/
def mz_r154 : mz_R := (11, yX11_runs, cX11_runs, 4, (some .int), false, 2, mz_k154)
def mz_k155 : mz_K := [
  (0, .aload_n 0, 1, 0, 0, 0, 0),
  (1, .iload_n 1, 1, 0, 0, 0, 0),
  (2, .iload_n 2, 1, 0, 0, 0, 0),
  (3, .iconst 0, 1, 20, 0, 0, 0),
  (4, .iconst 0, 1, 20, 0, 0, 0),
  (5, .invokevirtual 140, 3, 3, 144, 0, 5212),
  (8, .aload_n 0, 1, 0, 0, 0, 0),
  (9, .iload_n 3, 1, 0, 0, 0, 0),
  (10, .invokevirtual 144, 3, 3, 154, 0, 6076),
  (13, .ireturn, 1, 0, 0, 0, 0)]
/-- ThreeMagnetsModel.endsFrom(III)I -/
def mz_r155 : mz_R := (11, yX11_endsFrom, cX11_endsFrom, 4, (some .int), false, 4, mz_k155)
def mz_k156 : mz_K := [
  (0, .aload_n 0, 1, 0, 0, 0, 0),
  (1, .getfield 7, 3, 0, 11, 0, 5040),
  (4, .bipush 15, 2, 20, 15, 0, 0),
  (6, .iaload, 1, 0, 0, 0, 0),
  (7, .ireturn, 1, 0, 0, 0, 0)]
/-- ThreeMagnetsModel.fine()I -/
def mz_r156 : mz_R := (11, yX11_fine, cX11_fine, 1, (some .int), false, 1, mz_k156)
def mz_k157 : mz_K := [
  (0, .iload_n 1, 1, 0, 0, 0, 0),
  (1, .iload_n 2, 1, 0, 0, 0, 0),
  (2, .invokestatic 54, 3, 2, 131, 0, 5129),
  (5, .ifCond .eq 12, 3, 0, 0, 0, 0),
  (8, .iload_n 3, 1, 0, 0, 0, 0),
  (9, .iconst 0, 1, 20, 0, 0, 0),
  (10, .iconst 1, 1, 20, 1, 0, 0),
  (11, .invokestatic 50, 3, 2, 128, 0, 5126),
  (14, .ifCond .ne 9, 3, 0, 0, 0, 0),
  (17, .aload_n 0, 1, 0, 0, 0, 0),
  (18, .iconst 1, 1, 20, 1, 0, 0),
  (19, .invokevirtual 62, 3, 3, 127, 0, 5132),
  (22, .ireturn, 1, 0, 0, 0, 0),
  (23, .aload_n 0, 1, 0, 0, 0, 0),
  (24, .iload_n 1, 1, 0, 0, 0, 0),
  (25, .iload_n 2, 1, 0, 0, 0, 0),
  (26, .iconst 0, 1, 20, 0, 0, 0),
  (27, .iconst 0, 1, 20, 0, 0, 0),
  (28, .invokevirtual 140, 3, 3, 144, 0, 5212),
  (31, .aload_n 0, 1, 0, 0, 0, 0),
  (32, .iconst 1, 1, 20, 1, 0, 0),
  (33, .invokevirtual 125, 3, 3, 148, 0, 5216),
  (36, .istore 4, 2, 0, 0, 0, 0),
  (38, .iload 4, 2, 0, 0, 0, 0),
  (40, .ifCond .ge 11, 3, 0, 0, 0, 0),
  (43, .aload_n 0, 1, 0, 0, 0, 0),
  (44, .iconst 2, 1, 20, 2, 0, 0),
  (45, .invokevirtual 62, 3, 3, 127, 0, 5132),
  (48, .goto 18, 3, 0, 0, 0, 0),
  (51, .iload_n 3, 1, 0, 0, 0, 0),
  (52, .ifCond .ne 8, 3, 0, 0, 0, 0),
  (55, .iload 4, 2, 0, 0, 0, 0),
  (57, .goto 9, 3, 0, 0, 0, 0),
  (60, .aload_n 0, 1, 0, 0, 0, 0),
  (61, .iload 4, 2, 0, 0, 0, 0),
  (63, .invokevirtual 81, 3, 3, 147, 0, 5157),
  (66, .ireturn, 1, 0, 0, 0, 0)]
/-- ThreeMagnetsModel.nearest(III)I -/
def mz_r157 : mz_R := (11, yX11_nearest, cX11_nearest, 5, (some .int), false, 4, mz_k157)
def mz_k158 : mz_K := [
  (0, .iload_n 3, 1, 0, 0, 0, 0),
  (1, .iconst 1, 1, 20, 1, 0, 0),
  (2, .bipush 8, 2, 20, 8, 0, 0),
  (4, .invokestatic 50, 3, 2, 128, 0, 5126),
  (7, .ifCond .ne 9, 3, 0, 0, 0, 0),
  (10, .aload_n 0, 1, 0, 0, 0, 0),
  (11, .iconst 1, 1, 20, 1, 0, 0),
  (12, .invokevirtual 62, 3, 3, 127, 0, 5132),
  (15, .ireturn, 1, 0, 0, 0, 0),
  (16, .aload_n 0, 1, 0, 0, 0, 0),
  (17, .getfield 7, 3, 0, 11, 0, 5040),
  (20, .iconst 1, 1, 20, 1, 0, 0),
  (21, .iaload, 1, 0, 0, 0, 0),
  (22, .iload_n 3, 1, 0, 0, 0, 0),
  (23, .iadd, 1, 0, 0, 0, 0),
  (24, .bipush 60, 2, 20, 60, 0, 0),
  (26, .if_icmp .le 9, 3, 0, 0, 0, 0),
  (29, .aload_n 0, 1, 0, 0, 0, 0),
  (30, .iconst 4, 1, 20, 4, 0, 0),
  (31, .invokevirtual 62, 3, 3, 127, 0, 5132),
  (34, .ireturn, 1, 0, 0, 0, 0),
  (35, .iconst 0, 1, 20, 0, 0, 0),
  (36, .istore 4, 2, 0, 0, 0, 0),
  (38, .iload 4, 2, 0, 0, 0, 0),
  (40, .iload_n 3, 1, 0, 0, 0, 0),
  (41, .if_icmp .ge 46, 3, 0, 0, 0, 0),
  (44, .aload_n 0, 1, 0, 0, 0, 0),
  (45, .getfield 7, 3, 0, 11, 0, 5040),
  (48, .sipush 550, 3, 20, 550, 0, 0),
  (51, .aload_n 0, 1, 0, 0, 0, 0),
  (52, .getfield 7, 3, 0, 11, 0, 5040),
  (55, .iconst 1, 1, 20, 1, 0, 0),
  (56, .iaload, 1, 0, 0, 0, 0),
  (57, .iadd, 1, 0, 0, 0, 0),
  (58, .lload_n 1, 1, 0, 0, 0, 0),
  (59, .bipush 8, 2, 20, 8, 0, 0),
  (61, .iload 4, 2, 0, 0, 0, 0),
  (63, .imul, 1, 0, 0, 0, 0),
  (64, .lshr, 1, 0, 0, 0, 0),
  (65, .ldc2_w 147, 3, 23, 255, 0, 5224),
  (68, .land, 1, 0, 0, 0, 0),
  (69, .l2i, 1, 0, 0, 0, 0),
  (70, .iastore, 1, 0, 0, 0, 0),
  (71, .aload_n 0, 1, 0, 0, 0, 0),
  (72, .getfield 7, 3, 0, 11, 0, 5040),
  (75, .iconst 1, 1, 20, 1, 0, 0),
  (76, .dup2, 1, 0, 0, 0, 0),
  (77, .iaload, 1, 0, 0, 0, 0),
  (78, .iconst 1, 1, 20, 1, 0, 0),
  (79, .iadd, 1, 0, 0, 0, 0),
  (80, .iastore, 1, 0, 0, 0, 0),
  (81, .iinc 4 1, 3, 20, 1, 0, 0),
  (84, .goto (-46), 3, 0, 0, 0, 0),
  (87, .aload_n 0, 1, 0, 0, 0, 0),
  (88, .getfield 7, 3, 0, 11, 0, 5040),
  (91, .iconst 1, 1, 20, 1, 0, 0),
  (92, .iaload, 1, 0, 0, 0, 0),
  (93, .ireturn, 1, 0, 0, 0, 0)]
/-- ThreeMagnetsModel.feed(JI)I -/
def mz_r158 : mz_R := (11, yX11_feed, cX11_feed, 5, (some .int), false, 3, mz_k158)
def mz_k159 : mz_K := [
  (0, .aload_n 0, 1, 0, 0, 0, 0),
  (1, .getfield 149, 3, 0, 11, 9, 5049),
  (4, .aload_n 0, 1, 0, 0, 0, 0),
  (5, .getfield 7, 3, 0, 11, 0, 5040),
  (8, .iconst 1, 1, 20, 1, 0, 0),
  (9, .iaload, 1, 0, 0, 0, 0),
  (10, .if_icmp .ge 19, 3, 0, 0, 0, 0),
  (13, .aload_n 0, 1, 0, 0, 0, 0),
  (14, .getfield 7, 3, 0, 11, 0, 5040),
  (17, .sipush 550, 3, 20, 550, 0, 0),
  (20, .aload_n 0, 1, 0, 0, 0, 0),
  (21, .getfield 149, 3, 0, 11, 9, 5049),
  (24, .iadd, 1, 0, 0, 0, 0),
  (25, .iaload, 1, 0, 0, 0, 0),
  (26, .goto 4, 3, 0, 0, 0, 0),
  (29, .iconst (-1), 1, 21, 1, 0, 0),
  (30, .ireturn, 1, 0, 0, 0, 0)]
/-- ThreeMagnetsModel.look()I -/
def mz_r159 : mz_R := (11, yX11_look, cX11_look, 1, (some .int), false, 1, mz_k159)
def mz_k160 : mz_K := [
  (0, .aload_n 0, 1, 0, 0, 0, 0),
  (1, .getfield 152, 3, 0, 11, 12, 5052),
  (4, .ifCond .ne 27, 3, 0, 0, 0, 0),
  (7, .iload_n 1, 1, 0, 0, 0, 0),
  (8, .bipush 114, 2, 20, 114, 0, 0),
  (10, .if_icmp .eq 15, 3, 0, 0, 0, 0),
  (13, .iload_n 1, 1, 0, 0, 0, 0),
  (14, .bipush 115, 2, 20, 115, 0, 0),
  (16, .if_icmp .eq 9, 3, 0, 0, 0, 0),
  (19, .iload_n 1, 1, 0, 0, 0, 0),
  (20, .bipush 110, 2, 20, 110, 0, 0),
  (22, .if_icmp .ne 7, 3, 0, 0, 0, 0),
  (25, .iconst 1, 1, 20, 1, 0, 0),
  (26, .goto 4, 3, 0, 0, 0, 0),
  (29, .iconst 0, 1, 20, 0, 0, 0),
  (30, .ireturn, 1, 0, 0, 0, 0),
  (31, .aload_n 0, 1, 0, 0, 0, 0),
  (32, .getfield 152, 3, 0, 11, 12, 5052),
  (35, .iconst 1, 1, 20, 1, 0, 0),
  (36, .if_icmp .ne 27, 3, 0, 0, 0, 0),
  (39, .iload_n 1, 1, 0, 0, 0, 0),
  (40, .bipush 118, 2, 20, 118, 0, 0),
  (42, .if_icmp .eq 15, 3, 0, 0, 0, 0),
  (45, .iload_n 1, 1, 0, 0, 0, 0),
  (46, .bipush 114, 2, 20, 114, 0, 0),
  (48, .if_icmp .eq 9, 3, 0, 0, 0, 0),
  (51, .iload_n 1, 1, 0, 0, 0, 0),
  (52, .bipush 110, 2, 20, 110, 0, 0),
  (54, .if_icmp .ne 7, 3, 0, 0, 0, 0),
  (57, .iconst 1, 1, 20, 1, 0, 0),
  (58, .goto 4, 3, 0, 0, 0, 0),
  (61, .iconst 0, 1, 20, 0, 0, 0),
  (62, .ireturn, 1, 0, 0, 0, 0),
  (63, .iload_n 1, 1, 0, 0, 0, 0),
  (64, .bipush 99, 2, 20, 99, 0, 0),
  (66, .if_icmp .eq 27, 3, 0, 0, 0, 0),
  (69, .iload_n 1, 1, 0, 0, 0, 0),
  (70, .bipush 108, 2, 20, 108, 0, 0),
  (72, .if_icmp .eq 21, 3, 0, 0, 0, 0),
  (75, .iload_n 1, 1, 0, 0, 0, 0),
  (76, .bipush 120, 2, 20, 120, 0, 0),
  (78, .if_icmp .eq 15, 3, 0, 0, 0, 0),
  (81, .iload_n 1, 1, 0, 0, 0, 0),
  (82, .bipush 121, 2, 20, 121, 0, 0),
  (84, .if_icmp .eq 9, 3, 0, 0, 0, 0),
  (87, .iload_n 1, 1, 0, 0, 0, 0),
  (88, .bipush 101, 2, 20, 101, 0, 0),
  (90, .if_icmp .ne 7, 3, 0, 0, 0, 0),
  (93, .iconst 1, 1, 20, 1, 0, 0),
  (94, .goto 4, 3, 0, 0, 0, 0),
  (97, .iconst 0, 1, 20, 0, 0, 0),
  (98, .ireturn, 1, 0, 0, 0, 0)]
/-- ThreeMagnetsModel.isName(I)Z -/
def mz_r160 : mz_R := (11, yX11_isName, cX11_isName, 2, (some .boolean), false, 2, mz_k160)
def mz_k161 : mz_K := [
  (0, .aload_n 0, 1, 0, 0, 0, 0),
  (1, .getfield 19, 3, 0, 11, 13, 5053),
  (4, .iconst 2, 1, 20, 2, 0, 0),
  (5, .aload_n 0, 1, 0, 0, 0, 0),
  (6, .getfield 155, 3, 0, 11, 11, 5051),
  (9, .imul, 1, 0, 0, 0, 0),
  (10, .iload_n 1, 1, 0, 0, 0, 0),
  (11, .iastore, 1, 0, 0, 0, 0),
  (12, .aload_n 0, 1, 0, 0, 0, 0),
  (13, .getfield 19, 3, 0, 11, 13, 5053),
  (16, .iconst 2, 1, 20, 2, 0, 0),
  (17, .aload_n 0, 1, 0, 0, 0, 0),
  (18, .getfield 155, 3, 0, 11, 11, 5051),
  (21, .imul, 1, 0, 0, 0, 0),
  (22, .iconst 1, 1, 20, 1, 0, 0),
  (23, .iadd, 1, 0, 0, 0, 0),
  (24, .iload_n 2, 1, 0, 0, 0, 0),
  (25, .iastore, 1, 0, 0, 0, 0),
  (26, .aload_n 0, 1, 0, 0, 0, 0),
  (27, .dup, 1, 0, 0, 0, 0),
  (28, .getfield 155, 3, 0, 11, 11, 5051),
  (31, .iconst 1, 1, 20, 1, 0, 0),
  (32, .iadd, 1, 0, 0, 0, 0),
  (33, .putfield 155, 3, 0, 11, 11, 5051),
  (36, .return_, 1, 0, 0, 0, 0)]
/-- ThreeMagnetsModel.lay(II)V -/
def mz_r161 : mz_R := (11, yX11_lay, cX11_lay, 3, none, false, 3, mz_k161)
def mz_k162 : mz_K := [
  (0, .aload_n 0, 1, 0, 0, 0, 0),
  (1, .invokevirtual 158, 3, 3, 163, 0, 5233),
  (4, .ifCond .ne 5, 3, 0, 0, 0, 0),
  (7, .iconst 0, 1, 20, 0, 0, 0),
  (8, .ireturn, 1, 0, 0, 0, 0),
  (9, .aload_n 0, 1, 0, 0, 0, 0),
  (10, .invokevirtual 162, 3, 3, 159, 0, 6013),
  (13, .bipush 124, 2, 20, 124, 0, 0),
  (15, .if_icmp .ne 32, 3, 0, 0, 0, 0),
  (18, .aload_n 0, 1, 0, 0, 0, 0),
  (19, .dup, 1, 0, 0, 0, 0),
  (20, .getfield 149, 3, 0, 11, 9, 5049),
  (23, .iconst 1, 1, 20, 1, 0, 0),
  (24, .iadd, 1, 0, 0, 0, 0),
  (25, .putfield 149, 3, 0, 11, 9, 5049),
  (28, .aload_n 0, 1, 0, 0, 0, 0),
  (29, .invokevirtual 158, 3, 3, 163, 0, 5233),
  (32, .ifCond .ne 5, 3, 0, 0, 0, 0),
  (35, .iconst 0, 1, 20, 0, 0, 0),
  (36, .ireturn, 1, 0, 0, 0, 0),
  (37, .aload_n 0, 1, 0, 0, 0, 0),
  (38, .iconst 3, 1, 20, 3, 0, 0),
  (39, .bipush 124, 2, 20, 124, 0, 0),
  (41, .invokevirtual 165, 3, 3, 161, 0, 6021),
  (44, .goto (-35), 3, 0, 0, 0, 0),
  (47, .iconst 1, 1, 20, 1, 0, 0),
  (48, .ireturn, 1, 0, 0, 0, 0)]
/-- ThreeMagnetsModel.whole()Z -/
def mz_r162 : mz_R := (11, yX11_whole, cX11_whole, 1, (some .boolean), false, 1, mz_k162)
def mz_k163 : mz_K := [
  (0, .aload_n 0, 1, 0, 0, 0, 0),
  (1, .invokevirtual 169, 3, 3, 164, 0, 5237),
  (4, .ifCond .ne 5, 3, 0, 0, 0, 0),
  (7, .iconst 0, 1, 20, 0, 0, 0),
  (8, .ireturn, 1, 0, 0, 0, 0),
  (9, .aload_n 0, 1, 0, 0, 0, 0),
  (10, .invokevirtual 162, 3, 3, 159, 0, 6013),
  (13, .bipush 38, 2, 20, 38, 0, 0),
  (15, .if_icmp .ne 32, 3, 0, 0, 0, 0),
  (18, .aload_n 0, 1, 0, 0, 0, 0),
  (19, .dup, 1, 0, 0, 0, 0),
  (20, .getfield 149, 3, 0, 11, 9, 5049),
  (23, .iconst 1, 1, 20, 1, 0, 0),
  (24, .iadd, 1, 0, 0, 0, 0),
  (25, .putfield 149, 3, 0, 11, 9, 5049),
  (28, .aload_n 0, 1, 0, 0, 0, 0),
  (29, .invokevirtual 169, 3, 3, 164, 0, 5237),
  (32, .ifCond .ne 5, 3, 0, 0, 0, 0),
  (35, .iconst 0, 1, 20, 0, 0, 0),
  (36, .ireturn, 1, 0, 0, 0, 0),
  (37, .aload_n 0, 1, 0, 0, 0, 0),
  (38, .iconst 3, 1, 20, 3, 0, 0),
  (39, .bipush 38, 2, 20, 38, 0, 0),
  (41, .invokevirtual 165, 3, 3, 161, 0, 6021),
  (44, .goto (-35), 3, 0, 0, 0, 0),
  (47, .iconst 1, 1, 20, 1, 0, 0),
  (48, .ireturn, 1, 0, 0, 0, 0)]
/-- ThreeMagnetsModel.both()Z -/
def mz_r163 : mz_R := (11, yX11_both, cX11_both, 1, (some .boolean), false, 1, mz_k163)
def mz_k164 : mz_K := [
  (0, .aload_n 0, 1, 0, 0, 0, 0),
  (1, .invokevirtual 172, 3, 3, 165, 0, 6001),
  (4, .ifCond .ne 5, 3, 0, 0, 0, 0),
  (7, .iconst 0, 1, 20, 0, 0, 0),
  (8, .ireturn, 1, 0, 0, 0, 0),
  (9, .aload_n 0, 1, 0, 0, 0, 0),
  (10, .invokevirtual 162, 3, 3, 159, 0, 6013),
  (13, .istore_n 1, 1, 0, 0, 0, 0),
  (14, .iload_n 1, 1, 0, 0, 0, 0),
  (15, .bipush 60, 2, 20, 60, 0, 0),
  (17, .if_icmp .eq 17, 3, 0, 0, 0, 0),
  (20, .iload_n 1, 1, 0, 0, 0, 0),
  (21, .bipush 61, 2, 20, 61, 0, 0),
  (23, .if_icmp .eq 11, 3, 0, 0, 0, 0),
  (26, .iload_n 1, 1, 0, 0, 0, 0),
  (27, .bipush 62, 2, 20, 62, 0, 0),
  (29, .if_icmp .eq 5, 3, 0, 0, 0, 0),
  (32, .iconst 1, 1, 20, 1, 0, 0),
  (33, .ireturn, 1, 0, 0, 0, 0),
  (34, .aload_n 0, 1, 0, 0, 0, 0),
  (35, .dup, 1, 0, 0, 0, 0),
  (36, .getfield 149, 3, 0, 11, 9, 5049),
  (39, .iconst 1, 1, 20, 1, 0, 0),
  (40, .iadd, 1, 0, 0, 0, 0),
  (41, .putfield 149, 3, 0, 11, 9, 5049),
  (44, .aload_n 0, 1, 0, 0, 0, 0),
  (45, .invokevirtual 172, 3, 3, 165, 0, 6001),
  (48, .ifCond .ne 5, 3, 0, 0, 0, 0),
  (51, .iconst 0, 1, 20, 0, 0, 0),
  (52, .ireturn, 1, 0, 0, 0, 0),
  (53, .aload_n 0, 1, 0, 0, 0, 0),
  (54, .iconst 3, 1, 20, 3, 0, 0),
  (55, .iload_n 1, 1, 0, 0, 0, 0),
  (56, .invokevirtual 165, 3, 3, 161, 0, 6021),
  (59, .iconst 1, 1, 20, 1, 0, 0),
  (60, .ireturn, 1, 0, 0, 0, 0)]
/-- ThreeMagnetsModel.compared()Z -/
def mz_r164 : mz_R := (11, yX11_compared, cX11_compared, 2, (some .boolean), false, 1, mz_k164)
def mz_k165 : mz_K := [
  (0, .aload_n 0, 1, 0, 0, 0, 0),
  (1, .invokevirtual 175, 3, 3, 166, 0, 6005),
  (4, .ifCond .ne 5, 3, 0, 0, 0, 0),
  (7, .iconst 0, 1, 20, 0, 0, 0),
  (8, .ireturn, 1, 0, 0, 0, 0),
  (9, .aload_n 0, 1, 0, 0, 0, 0),
  (10, .invokevirtual 162, 3, 3, 159, 0, 6013),
  (13, .bipush 43, 2, 20, 43, 0, 0),
  (15, .if_icmp .eq 12, 3, 0, 0, 0, 0),
  (18, .aload_n 0, 1, 0, 0, 0, 0),
  (19, .invokevirtual 162, 3, 3, 159, 0, 6013),
  (22, .bipush 45, 2, 20, 45, 0, 0),
  (24, .if_icmp .ne 36, 3, 0, 0, 0, 0),
  (27, .aload_n 0, 1, 0, 0, 0, 0),
  (28, .invokevirtual 162, 3, 3, 159, 0, 6013),
  (31, .istore_n 1, 1, 0, 0, 0, 0),
  (32, .aload_n 0, 1, 0, 0, 0, 0),
  (33, .dup, 1, 0, 0, 0, 0),
  (34, .getfield 149, 3, 0, 11, 9, 5049),
  (37, .iconst 1, 1, 20, 1, 0, 0),
  (38, .iadd, 1, 0, 0, 0, 0),
  (39, .putfield 149, 3, 0, 11, 9, 5049),
  (42, .aload_n 0, 1, 0, 0, 0, 0),
  (43, .invokevirtual 175, 3, 3, 166, 0, 6005),
  (46, .ifCond .ne 5, 3, 0, 0, 0, 0),
  (49, .iconst 0, 1, 20, 0, 0, 0),
  (50, .ireturn, 1, 0, 0, 0, 0),
  (51, .aload_n 0, 1, 0, 0, 0, 0),
  (52, .iconst 3, 1, 20, 3, 0, 0),
  (53, .iload_n 1, 1, 0, 0, 0, 0),
  (54, .invokevirtual 165, 3, 3, 161, 0, 6021),
  (57, .goto (-48), 3, 0, 0, 0, 0),
  (60, .iconst 1, 1, 20, 1, 0, 0),
  (61, .ireturn, 1, 0, 0, 0, 0)]
/-- ThreeMagnetsModel.sum()Z -/
def mz_r165 : mz_R := (11, yX11_sum, cX11_sum, 2, (some .boolean), false, 1, mz_k165)
def mz_k166 : mz_K := [
  (0, .aload_n 0, 1, 0, 0, 0, 0),
  (1, .invokevirtual 178, 3, 3, 168, 0, 6009),
  (4, .ifCond .ne 5, 3, 0, 0, 0, 0),
  (7, .iconst 0, 1, 20, 0, 0, 0),
  (8, .ireturn, 1, 0, 0, 0, 0),
  (9, .aload_n 0, 1, 0, 0, 0, 0),
  (10, .invokevirtual 162, 3, 3, 159, 0, 6013),
  (13, .bipush 42, 2, 20, 42, 0, 0),
  (15, .if_icmp .eq 21, 3, 0, 0, 0, 0),
  (18, .aload_n 0, 1, 0, 0, 0, 0),
  (19, .invokevirtual 162, 3, 3, 159, 0, 6013),
  (22, .bipush 47, 2, 20, 47, 0, 0),
  (24, .if_icmp .eq 12, 3, 0, 0, 0, 0),
  (27, .aload_n 0, 1, 0, 0, 0, 0),
  (28, .invokevirtual 162, 3, 3, 159, 0, 6013),
  (31, .bipush 37, 2, 20, 37, 0, 0),
  (33, .if_icmp .ne 36, 3, 0, 0, 0, 0),
  (36, .aload_n 0, 1, 0, 0, 0, 0),
  (37, .invokevirtual 162, 3, 3, 159, 0, 6013),
  (40, .istore_n 1, 1, 0, 0, 0, 0),
  (41, .aload_n 0, 1, 0, 0, 0, 0),
  (42, .dup, 1, 0, 0, 0, 0),
  (43, .getfield 149, 3, 0, 11, 9, 5049),
  (46, .iconst 1, 1, 20, 1, 0, 0),
  (47, .iadd, 1, 0, 0, 0, 0),
  (48, .putfield 149, 3, 0, 11, 9, 5049),
  (51, .aload_n 0, 1, 0, 0, 0, 0),
  (52, .invokevirtual 178, 3, 3, 168, 0, 6009),
  (55, .ifCond .ne 5, 3, 0, 0, 0, 0),
  (58, .iconst 0, 1, 20, 0, 0, 0),
  (59, .ireturn, 1, 0, 0, 0, 0),
  (60, .aload_n 0, 1, 0, 0, 0, 0),
  (61, .iconst 3, 1, 20, 3, 0, 0),
  (62, .iload_n 1, 1, 0, 0, 0, 0),
  (63, .invokevirtual 165, 3, 3, 161, 0, 6021),
  (66, .goto (-57), 3, 0, 0, 0, 0),
  (69, .iconst 1, 1, 20, 1, 0, 0),
  (70, .ireturn, 1, 0, 0, 0, 0)]
/-- ThreeMagnetsModel.product()Z -/
def mz_r166 : mz_R := (11, yX11_product, cX11_product, 2, (some .boolean), false, 1, mz_k166)
def mz_k167 : mz_K := [
  (0, .aload_n 0, 1, 0, 0, 0, 0),
  (1, .getfield 181, 3, 0, 11, 10, 5050),
  (4, .iconst 5, 1, 20, 5, 0, 0),
  (5, .if_icmp .ne 5, 3, 0, 0, 0, 0),
  (8, .iconst 0, 1, 20, 0, 0, 0),
  (9, .ireturn, 1, 0, 0, 0, 0),
  (10, .aload_n 0, 1, 0, 0, 0, 0),
  (11, .dup, 1, 0, 0, 0, 0),
  (12, .getfield 181, 3, 0, 11, 10, 5050),
  (15, .iconst 1, 1, 20, 1, 0, 0),
  (16, .iadd, 1, 0, 0, 0, 0),
  (17, .putfield 181, 3, 0, 11, 10, 5050),
  (20, .aload_n 0, 1, 0, 0, 0, 0),
  (21, .dup, 1, 0, 0, 0, 0),
  (22, .getfield 149, 3, 0, 11, 9, 5049),
  (25, .iconst 1, 1, 20, 1, 0, 0),
  (26, .iadd, 1, 0, 0, 0, 0),
  (27, .putfield 149, 3, 0, 11, 9, 5049),
  (30, .iconst 1, 1, 20, 1, 0, 0),
  (31, .ireturn, 1, 0, 0, 0, 0)]
/-- ThreeMagnetsModel.opens()Z -/
def mz_r167 : mz_R := (11, yX11_opens, cX11_opens, 1, (some .boolean), false, 1, mz_k167)
def mz_k168 : mz_K := [
  (0, .aload_n 0, 1, 0, 0, 0, 0),
  (1, .invokevirtual 162, 3, 3, 159, 0, 6013),
  (4, .istore_n 1, 1, 0, 0, 0, 0),
  (5, .aload_n 0, 1, 0, 0, 0, 0),
  (6, .iload_n 1, 1, 0, 0, 0, 0),
  (7, .invokevirtual 184, 3, 3, 160, 0, 6017),
  (10, .ifCond .eq 21, 3, 0, 0, 0, 0),
  (13, .aload_n 0, 1, 0, 0, 0, 0),
  (14, .dup, 1, 0, 0, 0, 0),
  (15, .getfield 149, 3, 0, 11, 9, 5049),
  (18, .iconst 1, 1, 20, 1, 0, 0),
  (19, .iadd, 1, 0, 0, 0, 0),
  (20, .putfield 149, 3, 0, 11, 9, 5049),
  (23, .aload_n 0, 1, 0, 0, 0, 0),
  (24, .iconst 1, 1, 20, 1, 0, 0),
  (25, .iload_n 1, 1, 0, 0, 0, 0),
  (26, .invokevirtual 165, 3, 3, 161, 0, 6021),
  (29, .iconst 1, 1, 20, 1, 0, 0),
  (30, .ireturn, 1, 0, 0, 0, 0),
  (31, .iload_n 1, 1, 0, 0, 0, 0),
  (32, .bipush 48, 2, 20, 48, 0, 0),
  (34, .bipush 57, 2, 20, 57, 0, 0),
  (36, .invokestatic 50, 3, 2, 128, 0, 5126),
  (39, .ifCond .eq 63, 3, 0, 0, 0, 0),
  (42, .iconst 0, 1, 20, 0, 0, 0),
  (43, .istore_n 2, 1, 0, 0, 0, 0),
  (44, .iconst 0, 1, 20, 0, 0, 0),
  (45, .istore_n 3, 1, 0, 0, 0, 0),
  (46, .iload_n 3, 1, 0, 0, 0, 0),
  (47, .iconst 4, 1, 20, 4, 0, 0),
  (48, .if_icmp .ge 46, 3, 0, 0, 0, 0),
  (51, .aload_n 0, 1, 0, 0, 0, 0),
  (52, .invokevirtual 162, 3, 3, 159, 0, 6013),
  (55, .bipush 48, 2, 20, 48, 0, 0),
  (57, .bipush 57, 2, 20, 57, 0, 0),
  (59, .invokestatic 50, 3, 2, 128, 0, 5126),
  (62, .ifCond .eq 32, 3, 0, 0, 0, 0),
  (65, .bipush 10, 2, 20, 10, 0, 0),
  (67, .iload_n 2, 1, 0, 0, 0, 0),
  (68, .imul, 1, 0, 0, 0, 0),
  (69, .aload_n 0, 1, 0, 0, 0, 0),
  (70, .invokevirtual 162, 3, 3, 159, 0, 6013),
  (73, .iadd, 1, 0, 0, 0, 0),
  (74, .bipush 48, 2, 20, 48, 0, 0),
  (76, .isub, 1, 0, 0, 0, 0),
  (77, .istore_n 2, 1, 0, 0, 0, 0),
  (78, .aload_n 0, 1, 0, 0, 0, 0),
  (79, .dup, 1, 0, 0, 0, 0),
  (80, .getfield 149, 3, 0, 11, 9, 5049),
  (83, .iconst 1, 1, 20, 1, 0, 0),
  (84, .iadd, 1, 0, 0, 0, 0),
  (85, .putfield 149, 3, 0, 11, 9, 5049),
  (88, .iinc 3 1, 3, 20, 1, 0, 0),
  (91, .goto (-45), 3, 0, 0, 0, 0),
  (94, .aload_n 0, 1, 0, 0, 0, 0),
  (95, .iconst 0, 1, 20, 0, 0, 0),
  (96, .iload_n 2, 1, 0, 0, 0, 0),
  (97, .invokevirtual 165, 3, 3, 161, 0, 6021),
  (100, .iconst 1, 1, 20, 1, 0, 0),
  (101, .ireturn, 1, 0, 0, 0, 0),
  (102, .iload_n 1, 1, 0, 0, 0, 0),
  (103, .bipush 33, 2, 20, 33, 0, 0),
  (105, .if_icmp .ne 37, 3, 0, 0, 0, 0),
  (108, .aload_n 0, 1, 0, 0, 0, 0),
  (109, .invokevirtual 187, 3, 3, 167, 0, 6025),
  (112, .ifCond .eq 10, 3, 0, 0, 0, 0),
  (115, .aload_n 0, 1, 0, 0, 0, 0),
  (116, .invokevirtual 178, 3, 3, 168, 0, 6009),
  (119, .ifCond .ne 5, 3, 0, 0, 0, 0),
  (122, .iconst 0, 1, 20, 0, 0, 0),
  (123, .ireturn, 1, 0, 0, 0, 0),
  (124, .aload_n 0, 1, 0, 0, 0, 0),
  (125, .dup, 1, 0, 0, 0, 0),
  (126, .getfield 181, 3, 0, 11, 10, 5050),
  (129, .iconst 1, 1, 20, 1, 0, 0),
  (130, .isub, 1, 0, 0, 0, 0),
  (131, .putfield 181, 3, 0, 11, 10, 5050),
  (134, .aload_n 0, 1, 0, 0, 0, 0),
  (135, .iconst 2, 1, 20, 2, 0, 0),
  (136, .iconst 0, 1, 20, 0, 0, 0),
  (137, .invokevirtual 165, 3, 3, 161, 0, 6021),
  (140, .iconst 1, 1, 20, 1, 0, 0),
  (141, .ireturn, 1, 0, 0, 0, 0),
  (142, .iload_n 1, 1, 0, 0, 0, 0),
  (143, .bipush 40, 2, 20, 40, 0, 0),
  (145, .if_icmp .ne 26, 3, 0, 0, 0, 0),
  (148, .aload_n 0, 1, 0, 0, 0, 0),
  (149, .invokevirtual 187, 3, 3, 167, 0, 6025),
  (152, .ifCond .eq 19, 3, 0, 0, 0, 0),
  (155, .aload_n 0, 1, 0, 0, 0, 0),
  (156, .invokevirtual 190, 3, 3, 162, 0, 5229),
  (159, .ifCond .eq 12, 3, 0, 0, 0, 0),
  (162, .aload_n 0, 1, 0, 0, 0, 0),
  (163, .invokevirtual 162, 3, 3, 159, 0, 6013),
  (166, .bipush 41, 2, 20, 41, 0, 0),
  (168, .if_icmp .eq 5, 3, 0, 0, 0, 0),
  (171, .iconst 0, 1, 20, 0, 0, 0),
  (172, .ireturn, 1, 0, 0, 0, 0),
  (173, .aload_n 0, 1, 0, 0, 0, 0),
  (174, .dup, 1, 0, 0, 0, 0),
  (175, .getfield 149, 3, 0, 11, 9, 5049),
  (178, .iconst 1, 1, 20, 1, 0, 0),
  (179, .iadd, 1, 0, 0, 0, 0),
  (180, .putfield 149, 3, 0, 11, 9, 5049),
  (183, .aload_n 0, 1, 0, 0, 0, 0),
  (184, .dup, 1, 0, 0, 0, 0),
  (185, .getfield 181, 3, 0, 11, 10, 5050),
  (188, .iconst 1, 1, 20, 1, 0, 0),
  (189, .isub, 1, 0, 0, 0, 0),
  (190, .putfield 181, 3, 0, 11, 10, 5050),
  (193, .iconst 1, 1, 20, 1, 0, 0),
  (194, .ireturn, 1, 0, 0, 0, 0)]
/-- ThreeMagnetsModel.one()Z -/
def mz_r168 : mz_R := (11, yX11_one, cX11_one, 4, (some .boolean), false, 1, mz_k168)
def mz_k169 : mz_K := [
  (0, .aload_n 0, 1, 0, 0, 0, 0),
  (1, .getfield 7, 3, 0, 11, 0, 5040),
  (4, .sipush 170, 3, 20, 170, 0, 0),
  (7, .bipush 125, 2, 20, 125, 0, 0),
  (9, .iload_n 1, 1, 0, 0, 0, 0),
  (10, .imul, 1, 0, 0, 0, 0),
  (11, .iadd, 1, 0, 0, 0, 0),
  (12, .iaload, 1, 0, 0, 0, 0),
  (13, .ifCond .le 7, 3, 0, 0, 0, 0),
  (16, .iconst 1, 1, 20, 1, 0, 0),
  (17, .goto 4, 3, 0, 0, 0, 0),
  (20, .iconst 0, 1, 20, 0, 0, 0),
  (21, .ireturn, 1, 0, 0, 0, 0)]
/-- ThreeMagnetsModel.hasText(I)Z -/
def mz_r169 : mz_R := (11, yX11_hasText, cX11_hasText, 2, (some .boolean), false, 2, mz_k169)
def mz_k170 : mz_K := [
  (0, .iload_n 1, 1, 0, 0, 0, 0),
  (1, .iconst 0, 1, 20, 0, 0, 0),
  (2, .iconst 2, 1, 20, 2, 0, 0),
  (3, .invokestatic 50, 3, 2, 128, 0, 5126),
  (6, .ifCond .ne 9, 3, 0, 0, 0, 0),
  (9, .aload_n 0, 1, 0, 0, 0, 0),
  (10, .iconst 1, 1, 20, 1, 0, 0),
  (11, .invokevirtual 62, 3, 3, 127, 0, 5132),
  (14, .ireturn, 1, 0, 0, 0, 0),
  (15, .aload_n 0, 1, 0, 0, 0, 0),
  (16, .iload_n 1, 1, 0, 0, 0, 0),
  (17, .putfield 152, 3, 0, 11, 12, 5052),
  (20, .aload_n 0, 1, 0, 0, 0, 0),
  (21, .iconst 0, 1, 20, 0, 0, 0),
  (22, .putfield 149, 3, 0, 11, 9, 5049),
  (25, .aload_n 0, 1, 0, 0, 0, 0),
  (26, .iconst 0, 1, 20, 0, 0, 0),
  (27, .putfield 181, 3, 0, 11, 10, 5050),
  (30, .aload_n 0, 1, 0, 0, 0, 0),
  (31, .iconst 0, 1, 20, 0, 0, 0),
  (32, .putfield 155, 3, 0, 11, 11, 5051),
  (35, .aload_n 0, 1, 0, 0, 0, 0),
  (36, .invokevirtual 190, 3, 3, 162, 0, 5229),
  (39, .ifCond .eq 20, 3, 0, 0, 0, 0),
  (42, .aload_n 0, 1, 0, 0, 0, 0),
  (43, .getfield 149, 3, 0, 11, 9, 5049),
  (46, .aload_n 0, 1, 0, 0, 0, 0),
  (47, .getfield 7, 3, 0, 11, 0, 5040),
  (50, .iconst 1, 1, 20, 1, 0, 0),
  (51, .iaload, 1, 0, 0, 0, 0),
  (52, .if_icmp .ne 7, 3, 0, 0, 0, 0),
  (55, .iconst 1, 1, 20, 1, 0, 0),
  (56, .goto 4, 3, 0, 0, 0, 0),
  (59, .iconst 0, 1, 20, 0, 0, 0),
  (60, .istore_n 2, 1, 0, 0, 0, 0),
  (61, .aload_n 0, 1, 0, 0, 0, 0),
  (62, .getfield 7, 3, 0, 11, 0, 5040),
  (65, .iconst 1, 1, 20, 1, 0, 0),
  (66, .iconst 0, 1, 20, 0, 0, 0),
  (67, .iastore, 1, 0, 0, 0, 0),
  (68, .iload_n 2, 1, 0, 0, 0, 0),
  (69, .ifCond .ne 11, 3, 0, 0, 0, 0),
  (72, .bipush (-10), 2, 21, 10, 0, 0),
  (74, .aload_n 0, 1, 0, 0, 0, 0),
  (75, .getfield 149, 3, 0, 11, 9, 5049),
  (78, .isub, 1, 0, 0, 0, 0),
  (79, .ireturn, 1, 0, 0, 0, 0),
  (80, .sipush 170, 3, 20, 170, 0, 0),
  (83, .bipush 125, 2, 20, 125, 0, 0),
  (85, .iload_n 1, 1, 0, 0, 0, 0),
  (86, .imul, 1, 0, 0, 0, 0),
  (87, .iadd, 1, 0, 0, 0, 0),
  (88, .istore_n 3, 1, 0, 0, 0, 0),
  (89, .aload_n 0, 1, 0, 0, 0, 0),
  (90, .getfield 7, 3, 0, 11, 0, 5040),
  (93, .iload_n 3, 1, 0, 0, 0, 0),
  (94, .aload_n 0, 1, 0, 0, 0, 0),
  (95, .getfield 155, 3, 0, 11, 11, 5051),
  (98, .iastore, 1, 0, 0, 0, 0),
  (99, .iconst 0, 1, 20, 0, 0, 0),
  (100, .istore 4, 2, 0, 0, 0, 0),
  (102, .iload 4, 2, 0, 0, 0, 0),
  (104, .iconst 2, 1, 20, 2, 0, 0),
  (105, .aload_n 0, 1, 0, 0, 0, 0),
  (106, .getfield 155, 3, 0, 11, 11, 5051),
  (109, .imul, 1, 0, 0, 0, 0),
  (110, .if_icmp .ge 27, 3, 0, 0, 0, 0),
  (113, .aload_n 0, 1, 0, 0, 0, 0),
  (114, .getfield 7, 3, 0, 11, 0, 5040),
  (117, .iload_n 3, 1, 0, 0, 0, 0),
  (118, .iconst 1, 1, 20, 1, 0, 0),
  (119, .iadd, 1, 0, 0, 0, 0),
  (120, .iload 4, 2, 0, 0, 0, 0),
  (122, .iadd, 1, 0, 0, 0, 0),
  (123, .aload_n 0, 1, 0, 0, 0, 0),
  (124, .getfield 19, 3, 0, 11, 13, 5053),
  (127, .iload 4, 2, 0, 0, 0, 0),
  (129, .iaload, 1, 0, 0, 0, 0),
  (130, .iastore, 1, 0, 0, 0, 0),
  (131, .iinc 4 1, 3, 20, 1, 0, 0),
  (134, .goto (-32), 3, 0, 0, 0, 0),
  (137, .iconst 1, 1, 20, 1, 0, 0),
  (138, .ireturn, 1, 0, 0, 0, 0)]
/-- ThreeMagnetsModel.text(I)I -/
def mz_r170 : mz_R := (11, yX11_text, cX11_text, 5, (some .int), false, 2, mz_k170)
def mz_k171 : mz_K := [
  (0, .iload_n 1, 1, 0, 0, 0, 0),
  (1, .iconst 0, 1, 20, 0, 0, 0),
  (2, .iconst 2, 1, 20, 2, 0, 0),
  (3, .invokestatic 50, 3, 2, 128, 0, 5126),
  (6, .ifCond .ne 9, 3, 0, 0, 0, 0),
  (9, .aload_n 0, 1, 0, 0, 0, 0),
  (10, .iconst 1, 1, 20, 1, 0, 0),
  (11, .invokevirtual 62, 3, 3, 127, 0, 5132),
  (14, .ireturn, 1, 0, 0, 0, 0),
  (15, .aload_n 0, 1, 0, 0, 0, 0),
  (16, .iload_n 1, 1, 0, 0, 0, 0),
  (17, .invokevirtual 112, 3, 3, 169, 0, 5172),
  (20, .ifCond .eq 7, 3, 0, 0, 0, 0),
  (23, .iconst 1, 1, 20, 1, 0, 0),
  (24, .goto 4, 3, 0, 0, 0, 0),
  (27, .iconst 0, 1, 20, 0, 0, 0),
  (28, .istore_n 2, 1, 0, 0, 0, 0),
  (29, .aload_n 0, 1, 0, 0, 0, 0),
  (30, .getfield 7, 3, 0, 11, 0, 5040),
  (33, .sipush 170, 3, 20, 170, 0, 0),
  (36, .bipush 125, 2, 20, 125, 0, 0),
  (38, .iload_n 1, 1, 0, 0, 0, 0),
  (39, .imul, 1, 0, 0, 0, 0),
  (40, .iadd, 1, 0, 0, 0, 0),
  (41, .iconst 0, 1, 20, 0, 0, 0),
  (42, .iastore, 1, 0, 0, 0, 0),
  (43, .iload_n 2, 1, 0, 0, 0, 0),
  (44, .ireturn, 1, 0, 0, 0, 0)]
/-- ThreeMagnetsModel.untell(I)I -/
def mz_r171 : mz_R := (11, yX11_untell, cX11_untell, 3, (some .int), false, 2, mz_k171)
def mz_k172 : mz_K := [
  (0, .iload_n 0, 1, 0, 0, 0, 0),
  (1, .tableswitch 217 37 62 #[153, 203, 217, 217, 217, 127, 119, 217, 123, 217, 131, 217, 217, 217, 217, 217, 217, 217, 217, 217, 217, 217, 217, 170, 192, 181], 119, 0, 0, 0, 0),
  (120, .iload_n 1, 1, 0, 0, 0, 0),
  (121, .iload_n 2, 1, 0, 0, 0, 0),
  (122, .iadd, 1, 0, 0, 0, 0),
  (123, .ireturn, 1, 0, 0, 0, 0),
  (124, .iload_n 1, 1, 0, 0, 0, 0),
  (125, .iload_n 2, 1, 0, 0, 0, 0),
  (126, .isub, 1, 0, 0, 0, 0),
  (127, .ireturn, 1, 0, 0, 0, 0),
  (128, .iload_n 1, 1, 0, 0, 0, 0),
  (129, .iload_n 2, 1, 0, 0, 0, 0),
  (130, .imul, 1, 0, 0, 0, 0),
  (131, .ireturn, 1, 0, 0, 0, 0),
  (132, .iload_n 2, 1, 0, 0, 0, 0),
  (133, .ifCond .ne 7, 3, 0, 0, 0, 0),
  (136, .iconst 0, 1, 20, 0, 0, 0),
  (137, .goto 16, 3, 0, 0, 0, 0),
  (140, .iload_n 2, 1, 0, 0, 0, 0),
  (141, .iconst (-1), 1, 21, 1, 0, 0),
  (142, .if_icmp .ne 8, 3, 0, 0, 0, 0),
  (145, .iload_n 1, 1, 0, 0, 0, 0),
  (146, .ineg, 1, 0, 0, 0, 0),
  (147, .goto 6, 3, 0, 0, 0, 0),
  (150, .iload_n 1, 1, 0, 0, 0, 0),
  (151, .iload_n 2, 1, 0, 0, 0, 0),
  (152, .idiv, 1, 0, 0, 0, 0),
  (153, .ireturn, 1, 0, 0, 0, 0),
  (154, .iload_n 2, 1, 0, 0, 0, 0),
  (155, .ifCond .eq 8, 3, 0, 0, 0, 0),
  (158, .iload_n 2, 1, 0, 0, 0, 0),
  (159, .iconst (-1), 1, 21, 1, 0, 0),
  (160, .if_icmp .ne 7, 3, 0, 0, 0, 0),
  (163, .iconst 0, 1, 20, 0, 0, 0),
  (164, .goto 6, 3, 0, 0, 0, 0),
  (167, .iload_n 1, 1, 0, 0, 0, 0),
  (168, .iload_n 2, 1, 0, 0, 0, 0),
  (169, .irem, 1, 0, 0, 0, 0),
  (170, .ireturn, 1, 0, 0, 0, 0),
  (171, .iload_n 1, 1, 0, 0, 0, 0),
  (172, .iload_n 2, 1, 0, 0, 0, 0),
  (173, .if_icmp .ge 7, 3, 0, 0, 0, 0),
  (176, .iconst 1, 1, 20, 1, 0, 0),
  (177, .goto 4, 3, 0, 0, 0, 0),
  (180, .iconst 0, 1, 20, 0, 0, 0),
  (181, .ireturn, 1, 0, 0, 0, 0),
  (182, .iload_n 1, 1, 0, 0, 0, 0),
  (183, .iload_n 2, 1, 0, 0, 0, 0),
  (184, .if_icmp .le 7, 3, 0, 0, 0, 0),
  (187, .iconst 1, 1, 20, 1, 0, 0),
  (188, .goto 4, 3, 0, 0, 0, 0),
  (191, .iconst 0, 1, 20, 0, 0, 0),
  (192, .ireturn, 1, 0, 0, 0, 0),
  (193, .iload_n 1, 1, 0, 0, 0, 0),
  (194, .iload_n 2, 1, 0, 0, 0, 0),
  (195, .if_icmp .ne 7, 3, 0, 0, 0, 0),
  (198, .iconst 1, 1, 20, 1, 0, 0),
  (199, .goto 4, 3, 0, 0, 0, 0),
  (202, .iconst 0, 1, 20, 0, 0, 0),
  (203, .ireturn, 1, 0, 0, 0, 0),
  (204, .iload_n 1, 1, 0, 0, 0, 0),
  (205, .ifCond .eq 11, 3, 0, 0, 0, 0),
  (208, .iload_n 2, 1, 0, 0, 0, 0),
  (209, .ifCond .eq 7, 3, 0, 0, 0, 0),
  (212, .iconst 1, 1, 20, 1, 0, 0),
  (213, .goto 4, 3, 0, 0, 0, 0),
  (216, .iconst 0, 1, 20, 0, 0, 0),
  (217, .ireturn, 1, 0, 0, 0, 0),
  (218, .iload_n 1, 1, 0, 0, 0, 0),
  (219, .ifCond .ne 7, 3, 0, 0, 0, 0),
  (222, .iload_n 2, 1, 0, 0, 0, 0),
  (223, .ifCond .eq 7, 3, 0, 0, 0, 0),
  (226, .iconst 1, 1, 20, 1, 0, 0),
  (227, .goto 4, 3, 0, 0, 0, 0),
  (230, .iconst 0, 1, 20, 0, 0, 0),
  (231, .ireturn, 1, 0, 0, 0, 0)]
/-- ThreeMagnetsModel.joined(III)I -/
def mz_r172 : mz_R := (11, yX11_joined, cX11_joined, 3, (some .int), true, 3, mz_k172)
def mz_k173 : mz_K := [
  (0, .sipush 170, 3, 20, 170, 0, 0),
  (3, .bipush 125, 2, 20, 125, 0, 0),
  (5, .iload_n 1, 1, 0, 0, 0, 0),
  (6, .imul, 1, 0, 0, 0, 0),
  (7, .iadd, 1, 0, 0, 0, 0),
  (8, .istore_n 2, 1, 0, 0, 0, 0),
  (9, .iconst 0, 1, 20, 0, 0, 0),
  (10, .istore_n 3, 1, 0, 0, 0, 0),
  (11, .iconst 0, 1, 20, 0, 0, 0),
  (12, .istore 4, 2, 0, 0, 0, 0),
  (14, .iload 4, 2, 0, 0, 0, 0),
  (16, .aload_n 0, 1, 0, 0, 0, 0),
  (17, .getfield 7, 3, 0, 11, 0, 5040),
  (20, .iload_n 2, 1, 0, 0, 0, 0),
  (21, .iaload, 1, 0, 0, 0, 0),
  (22, .if_icmp .ge 142, 3, 0, 0, 0, 0),
  (25, .aload_n 0, 1, 0, 0, 0, 0),
  (26, .getfield 7, 3, 0, 11, 0, 5040),
  (29, .iload_n 2, 1, 0, 0, 0, 0),
  (30, .iconst 1, 1, 20, 1, 0, 0),
  (31, .iadd, 1, 0, 0, 0, 0),
  (32, .iconst 2, 1, 20, 2, 0, 0),
  (33, .iload 4, 2, 0, 0, 0, 0),
  (35, .imul, 1, 0, 0, 0, 0),
  (36, .iadd, 1, 0, 0, 0, 0),
  (37, .iaload, 1, 0, 0, 0, 0),
  (38, .istore 5, 2, 0, 0, 0, 0),
  (40, .aload_n 0, 1, 0, 0, 0, 0),
  (41, .getfield 7, 3, 0, 11, 0, 5040),
  (44, .iload_n 2, 1, 0, 0, 0, 0),
  (45, .iconst 2, 1, 20, 2, 0, 0),
  (46, .iadd, 1, 0, 0, 0, 0),
  (47, .iconst 2, 1, 20, 2, 0, 0),
  (48, .iload 4, 2, 0, 0, 0, 0),
  (50, .imul, 1, 0, 0, 0, 0),
  (51, .iadd, 1, 0, 0, 0, 0),
  (52, .iaload, 1, 0, 0, 0, 0),
  (53, .istore 6, 2, 0, 0, 0, 0),
  (55, .iload 5, 2, 0, 0, 0, 0),
  (57, .ifCond .eq 9, 3, 0, 0, 0, 0),
  (60, .iload 5, 2, 0, 0, 0, 0),
  (62, .iconst 1, 1, 20, 1, 0, 0),
  (63, .if_icmp .ne 32, 3, 0, 0, 0, 0),
  (66, .aload_n 0, 1, 0, 0, 0, 0),
  (67, .getfield 25, 3, 0, 11, 15, 5055),
  (70, .iload_n 3, 1, 0, 0, 0, 0),
  (71, .iload 5, 2, 0, 0, 0, 0),
  (73, .ifCond .ne 8, 3, 0, 0, 0, 0),
  (76, .iload 6, 2, 0, 0, 0, 0),
  (78, .goto 10, 3, 0, 0, 0, 0),
  (81, .aload_n 0, 1, 0, 0, 0, 0),
  (82, .getfield 22, 3, 0, 11, 14, 5054),
  (85, .iload 6, 2, 0, 0, 0, 0),
  (87, .iaload, 1, 0, 0, 0, 0),
  (88, .iastore, 1, 0, 0, 0, 0),
  (89, .iinc 3 1, 3, 20, 1, 0, 0),
  (92, .goto 66, 3, 0, 0, 0, 0),
  (95, .iload 5, 2, 0, 0, 0, 0),
  (97, .iconst 2, 1, 20, 2, 0, 0),
  (98, .if_icmp .ne 30, 3, 0, 0, 0, 0),
  (101, .aload_n 0, 1, 0, 0, 0, 0),
  (102, .getfield 25, 3, 0, 11, 15, 5055),
  (105, .iload_n 3, 1, 0, 0, 0, 0),
  (106, .iconst 1, 1, 20, 1, 0, 0),
  (107, .isub, 1, 0, 0, 0, 0),
  (108, .aload_n 0, 1, 0, 0, 0, 0),
  (109, .getfield 25, 3, 0, 11, 15, 5055),
  (112, .iload_n 3, 1, 0, 0, 0, 0),
  (113, .iconst 1, 1, 20, 1, 0, 0),
  (114, .isub, 1, 0, 0, 0, 0),
  (115, .iaload, 1, 0, 0, 0, 0),
  (116, .ifCond .ne 7, 3, 0, 0, 0, 0),
  (119, .iconst 1, 1, 20, 1, 0, 0),
  (120, .goto 4, 3, 0, 0, 0, 0),
  (123, .iconst 0, 1, 20, 0, 0, 0),
  (124, .iastore, 1, 0, 0, 0, 0),
  (125, .goto 33, 3, 0, 0, 0, 0),
  (128, .iinc 3 (-1), 3, 21, 1, 0, 0),
  (131, .aload_n 0, 1, 0, 0, 0, 0),
  (132, .getfield 25, 3, 0, 11, 15, 5055),
  (135, .iload_n 3, 1, 0, 0, 0, 0),
  (136, .iconst 1, 1, 20, 1, 0, 0),
  (137, .isub, 1, 0, 0, 0, 0),
  (138, .iload 6, 2, 0, 0, 0, 0),
  (140, .aload_n 0, 1, 0, 0, 0, 0),
  (141, .getfield 25, 3, 0, 11, 15, 5055),
  (144, .iload_n 3, 1, 0, 0, 0, 0),
  (145, .iconst 1, 1, 20, 1, 0, 0),
  (146, .isub, 1, 0, 0, 0, 0),
  (147, .iaload, 1, 0, 0, 0, 0),
  (148, .aload_n 0, 1, 0, 0, 0, 0),
  (149, .getfield 25, 3, 0, 11, 15, 5055),
  (152, .iload_n 3, 1, 0, 0, 0, 0),
  (153, .iaload, 1, 0, 0, 0, 0),
  (154, .invokestatic 193, 3, 2, 172, 0, 5180),
  (157, .iastore, 1, 0, 0, 0, 0),
  (158, .iinc 4 1, 3, 20, 1, 0, 0),
  (161, .goto (-147), 3, 0, 0, 0, 0),
  (164, .aload_n 0, 1, 0, 0, 0, 0),
  (165, .getfield 25, 3, 0, 11, 15, 5055),
  (168, .iconst 0, 1, 20, 0, 0, 0),
  (169, .iaload, 1, 0, 0, 0, 0),
  (170, .ireturn, 1, 0, 0, 0, 0)]
/-- ThreeMagnetsModel.worked(I)I -/
def mz_r173 : mz_R := (11, yX11_worked, cX11_worked, 7, (some .int), false, 2, mz_k173)
def mz_k174 : mz_K := [
  (0, .iload_n 1, 1, 0, 0, 0, 0),
  (1, .iload_n 2, 1, 0, 0, 0, 0),
  (2, .invokestatic 54, 3, 2, 131, 0, 5129),
  (5, .ifCond .ne 9, 3, 0, 0, 0, 0),
  (8, .aload_n 0, 1, 0, 0, 0, 0),
  (9, .iconst 1, 1, 20, 1, 0, 0),
  (10, .invokevirtual 62, 3, 3, 127, 0, 5132),
  (13, .ireturn, 1, 0, 0, 0, 0),
  (14, .aload_n 0, 1, 0, 0, 0, 0),
  (15, .iload_n 1, 1, 0, 0, 0, 0),
  (16, .iload_n 2, 1, 0, 0, 0, 0),
  (17, .iconst 0, 1, 20, 0, 0, 0),
  (18, .iconst 0, 1, 20, 0, 0, 0),
  (19, .invokevirtual 140, 3, 3, 144, 0, 5212),
  (22, .aload_n 0, 1, 0, 0, 0, 0),
  (23, .invokevirtual 196, 3, 3, 146, 0, 6037),
  (26, .iconst 1, 1, 20, 1, 0, 0),
  (27, .ireturn, 1, 0, 0, 0, 0)]
/-- ThreeMagnetsModel.let(II)I -/
def mz_r174 : mz_R := (11, yX11_let, cX11_let, 3, (some .int), false, 3, mz_k174)
def mz_k175 : mz_K := [
  (0, .iload_n 0, 1, 0, 0, 0, 0),
  (1, .sipush (-9999), 3, 21, 9999, 0, 0),
  (4, .sipush 9999, 3, 20, 9999, 0, 0),
  (7, .invokestatic 50, 3, 2, 128, 0, 5126),
  (10, .ifCond .eq 20, 3, 0, 0, 0, 0),
  (13, .iload_n 1, 1, 0, 0, 0, 0),
  (14, .sipush (-9999), 3, 21, 9999, 0, 0),
  (17, .sipush 9999, 3, 20, 9999, 0, 0),
  (20, .invokestatic 50, 3, 2, 128, 0, 5126),
  (23, .ifCond .eq 7, 3, 0, 0, 0, 0),
  (26, .iconst 1, 1, 20, 1, 0, 0),
  (27, .goto 4, 3, 0, 0, 0, 0),
  (30, .iconst 0, 1, 20, 0, 0, 0),
  (31, .ireturn, 1, 0, 0, 0, 0)]
/-- ThreeMagnetsModel.isQuick(II)Z -/
def mz_r175 : mz_R := (11, yX11_isQuick, cX11_isQuick, 2, (some .boolean), true, 2, mz_k175)
def mz_k176 : mz_K := [
  (0, .iload_n 1, 1, 0, 0, 0, 0),
  (1, .iload_n 2, 1, 0, 0, 0, 0),
  (2, .invokestatic 199, 3, 2, 175, 0, 6045),
  (5, .ifCond .ne 9, 3, 0, 0, 0, 0),
  (8, .aload_n 0, 1, 0, 0, 0, 0),
  (9, .iconst 1, 1, 20, 1, 0, 0),
  (10, .invokevirtual 62, 3, 3, 127, 0, 5132),
  (13, .ireturn, 1, 0, 0, 0, 0),
  (14, .aload_n 0, 1, 0, 0, 0, 0),
  (15, .getfield 7, 3, 0, 11, 0, 5040),
  (18, .bipush 22, 2, 20, 22, 0, 0),
  (20, .iload_n 1, 1, 0, 0, 0, 0),
  (21, .iastore, 1, 0, 0, 0, 0),
  (22, .aload_n 0, 1, 0, 0, 0, 0),
  (23, .getfield 7, 3, 0, 11, 0, 5040),
  (26, .bipush 23, 2, 20, 23, 0, 0),
  (28, .iload_n 2, 1, 0, 0, 0, 0),
  (29, .iastore, 1, 0, 0, 0, 0),
  (30, .iconst 1, 1, 20, 1, 0, 0),
  (31, .ireturn, 1, 0, 0, 0, 0)]
/-- ThreeMagnetsModel.push(II)I -/
def mz_r176 : mz_R := (11, yX11_push, cX11_push, 3, (some .int), false, 3, mz_k176)
def mz_k177 : mz_K := [
  (0, .iload_n 1, 1, 0, 0, 0, 0),
  (1, .iconst 1, 1, 20, 1, 0, 0),
  (2, .sipush 200, 3, 20, 200, 0, 0),
  (5, .invokestatic 50, 3, 2, 128, 0, 5126),
  (8, .ifCond .ne 9, 3, 0, 0, 0, 0),
  (11, .aload_n 0, 1, 0, 0, 0, 0),
  (12, .iconst 1, 1, 20, 1, 0, 0),
  (13, .invokevirtual 62, 3, 3, 127, 0, 5132),
  (16, .ireturn, 1, 0, 0, 0, 0),
  (17, .aload_n 0, 1, 0, 0, 0, 0),
  (18, .getfield 7, 3, 0, 11, 0, 5040),
  (21, .bipush 24, 2, 20, 24, 0, 0),
  (23, .iaload, 1, 0, 0, 0, 0),
  (24, .iload_n 1, 1, 0, 0, 0, 0),
  (25, .iadd, 1, 0, 0, 0, 0),
  (26, .sipush 9999, 3, 20, 9999, 0, 0),
  (29, .if_icmp .le 9, 3, 0, 0, 0, 0),
  (32, .aload_n 0, 1, 0, 0, 0, 0),
  (33, .iconst 3, 1, 20, 3, 0, 0),
  (34, .invokevirtual 62, 3, 3, 127, 0, 5132),
  (37, .ireturn, 1, 0, 0, 0, 0),
  (38, .aload_n 0, 1, 0, 0, 0, 0),
  (39, .invokevirtual 78, 3, 3, 145, 0, 5153),
  (42, .iconst 0, 1, 20, 0, 0, 0),
  (43, .istore_n 2, 1, 0, 0, 0, 0),
  (44, .iload_n 2, 1, 0, 0, 0, 0),
  (45, .iload_n 1, 1, 0, 0, 0, 0),
  (46, .if_icmp .ge 17, 3, 0, 0, 0, 0),
  (49, .aload_n 0, 1, 0, 0, 0, 0),
  (50, .aload_n 0, 1, 0, 0, 0, 0),
  (51, .invokevirtual 202, 3, 3, 156, 0, 6052),
  (54, .invokevirtual 136, 3, 3, 152, 0, 6056),
  (57, .iinc 2 1, 3, 20, 1, 0, 0),
  (60, .goto (-16), 3, 0, 0, 0, 0),
  (63, .aload_n 0, 1, 0, 0, 0, 0),
  (64, .invokevirtual 196, 3, 3, 146, 0, 6037),
  (67, .aload_n 0, 1, 0, 0, 0, 0),
  (68, .getfield 106, 3, 0, 11, 8, 5048),
  (71, .ireturn, 1, 0, 0, 0, 0)]
/-- ThreeMagnetsModel.tick(I)I -/
def mz_r177 : mz_R := (11, yX11_tick, cX11_tick, 3, (some .int), false, 2, mz_k177)
def mz_k178 : mz_K := [
  (0, .iload_n 1, 1, 0, 0, 0, 0),
  (1, .iconst 0, 1, 20, 0, 0, 0),
  (2, .iconst 5, 1, 20, 5, 0, 0),
  (3, .invokestatic 50, 3, 2, 128, 0, 5126),
  (6, .ifCond .ne 9, 3, 0, 0, 0, 0),
  (9, .aload_n 0, 1, 0, 0, 0, 0),
  (10, .iconst 1, 1, 20, 1, 0, 0),
  (11, .invokevirtual 62, 3, 3, 127, 0, 5132),
  (14, .ireturn, 1, 0, 0, 0, 0),
  (15, .aload_n 0, 1, 0, 0, 0, 0),
  (16, .invokevirtual 78, 3, 3, 145, 0, 5153),
  (19, .iload_n 1, 1, 0, 0, 0, 0),
  (20, .iconst 5, 1, 20, 5, 0, 0),
  (21, .if_icmp .ge 15, 3, 0, 0, 0, 0),
  (24, .aload_n 0, 1, 0, 0, 0, 0),
  (25, .getfield 7, 3, 0, 11, 0, 5040),
  (28, .bipush 20, 2, 20, 20, 0, 0),
  (30, .iload_n 1, 1, 0, 0, 0, 0),
  (31, .iadd, 1, 0, 0, 0, 0),
  (32, .iaload, 1, 0, 0, 0, 0),
  (33, .goto 7, 3, 0, 0, 0, 0),
  (36, .aload_n 0, 1, 0, 0, 0, 0),
  (37, .invokevirtual 133, 3, 3, 153, 0, 6068),
  (40, .ireturn, 1, 0, 0, 0, 0)]
/-- ThreeMagnetsModel.bob(I)I -/
def mz_r178 : mz_R := (11, yX11_bob, cX11_bob, 2, (some .int), false, 2, mz_k178)
def mz_k179 : mz_K := [
  (0, .iload_n 1, 1, 0, 0, 0, 0),
  (1, .iload_n 2, 1, 0, 0, 0, 0),
  (2, .invokestatic 54, 3, 2, 131, 0, 5129),
  (5, .ifCond .eq 12, 3, 0, 0, 0, 0),
  (8, .iload_n 3, 1, 0, 0, 0, 0),
  (9, .iload 4, 2, 0, 0, 0, 0),
  (11, .invokestatic 199, 3, 2, 175, 0, 6045),
  (14, .ifCond .ne 9, 3, 0, 0, 0, 0),
  (17, .aload_n 0, 1, 0, 0, 0, 0),
  (18, .iconst 1, 1, 20, 1, 0, 0),
  (19, .invokevirtual 62, 3, 3, 127, 0, 5132),
  (22, .ireturn, 1, 0, 0, 0, 0),
  (23, .aload_n 0, 1, 0, 0, 0, 0),
  (24, .iload_n 1, 1, 0, 0, 0, 0),
  (25, .iload_n 2, 1, 0, 0, 0, 0),
  (26, .iload_n 3, 1, 0, 0, 0, 0),
  (27, .iload 4, 2, 0, 0, 0, 0),
  (29, .invokevirtual 140, 3, 3, 144, 0, 5212),
  (32, .aload_n 0, 1, 0, 0, 0, 0),
  (33, .aload_n 0, 1, 0, 0, 0, 0),
  (34, .invokevirtual 202, 3, 3, 156, 0, 6052),
  (37, .invokevirtual 144, 3, 3, 154, 0, 6076),
  (40, .ireturn, 1, 0, 0, 0, 0)]
/-- ThreeMagnetsModel.ends(IIII)I -/
def mz_r179 : mz_R := (11, yX11_ends, cX11_ends, 5, (some .int), false, 5, mz_k179)
def mz_k180 : mz_K := [
  (0, .iload_n 1, 1, 0, 0, 0, 0),
  (1, .iload_n 2, 1, 0, 0, 0, 0),
  (2, .invokestatic 54, 3, 2, 131, 0, 5129),
  (5, .ifCond .ne 9, 3, 0, 0, 0, 0),
  (8, .aload_n 0, 1, 0, 0, 0, 0),
  (9, .iconst 1, 1, 20, 1, 0, 0),
  (10, .invokevirtual 62, 3, 3, 127, 0, 5132),
  (13, .ireturn, 1, 0, 0, 0, 0),
  (14, .aload_n 0, 1, 0, 0, 0, 0),
  (15, .iload_n 1, 1, 0, 0, 0, 0),
  (16, .iload_n 2, 1, 0, 0, 0, 0),
  (17, .aload_n 0, 1, 0, 0, 0, 0),
  (18, .invokevirtual 202, 3, 3, 156, 0, 6052),
  (21, .invokevirtual 205, 3, 3, 155, 0, 6084),
  (24, .istore_n 3, 1, 0, 0, 0, 0),
  (25, .aload_n 0, 1, 0, 0, 0, 0),
  (26, .getfield 106, 3, 0, 11, 8, 5048),
  (29, .ireturn, 1, 0, 0, 0, 0)]
/-- ThreeMagnetsModel.length(II)I -/
def mz_r180 : mz_R := (11, yX11_length, cX11_length, 4, (some .int), false, 3, mz_k180)
def mz_k181 : mz_K := [
  (0, .iload_n 1, 1, 0, 0, 0, 0),
  (1, .iload_n 2, 1, 0, 0, 0, 0),
  (2, .invokestatic 54, 3, 2, 131, 0, 5129),
  (5, .ifCond .ne 9, 3, 0, 0, 0, 0),
  (8, .aload_n 0, 1, 0, 0, 0, 0),
  (9, .iconst 1, 1, 20, 1, 0, 0),
  (10, .invokevirtual 62, 3, 3, 127, 0, 5132),
  (13, .ireturn, 1, 0, 0, 0, 0),
  (14, .aload_n 0, 1, 0, 0, 0, 0),
  (15, .iload_n 1, 1, 0, 0, 0, 0),
  (16, .iload_n 2, 1, 0, 0, 0, 0),
  (17, .aload_n 0, 1, 0, 0, 0, 0),
  (18, .invokevirtual 202, 3, 3, 156, 0, 6052),
  (21, .invokevirtual 205, 3, 3, 155, 0, 6084),
  (24, .aload_n 0, 1, 0, 0, 0, 0),
  (25, .iload_n 1, 1, 0, 0, 0, 0),
  (26, .iload_n 2, 1, 0, 0, 0, 0),
  (27, .iconst 2, 1, 20, 2, 0, 0),
  (28, .aload_n 0, 1, 0, 0, 0, 0),
  (29, .invokevirtual 202, 3, 3, 156, 0, 6052),
  (32, .imul, 1, 0, 0, 0, 0),
  (33, .invokevirtual 205, 3, 3, 155, 0, 6084),
  (36, .if_icmp .ne 7, 3, 0, 0, 0, 0),
  (39, .iconst 0, 1, 20, 0, 0, 0),
  (40, .goto 4, 3, 0, 0, 0, 0),
  (43, .iconst 1, 1, 20, 1, 0, 0),
  (44, .ireturn, 1, 0, 0, 0, 0)]
/-- ThreeMagnetsModel.doubt(II)I -/
def mz_r181 : mz_R := (11, yX11_doubt, cX11_doubt, 3, (some .int), false, 3, mz_k181)
def mz_k182 : mz_K := [
  (0, .aload_n 0, 1, 0, 0, 0, 0),
  (1, .iload_n 1, 1, 0, 0, 0, 0),
  (2, .invokevirtual 70, 3, 3, 132, 0, 5145),
  (5, .ifCond .eq 14, 3, 0, 0, 0, 0),
  (8, .iload_n 2, 1, 0, 0, 0, 0),
  (9, .iconst 0, 1, 20, 0, 0, 0),
  (10, .sipush 999, 3, 20, 999, 0, 0),
  (13, .invokestatic 50, 3, 2, 128, 0, 5126),
  (16, .ifCond .ne 9, 3, 0, 0, 0, 0),
  (19, .aload_n 0, 1, 0, 0, 0, 0),
  (20, .iconst 1, 1, 20, 1, 0, 0),
  (21, .invokevirtual 62, 3, 3, 127, 0, 5132),
  (24, .ireturn, 1, 0, 0, 0, 0),
  (25, .iconst 0, 1, 20, 0, 0, 0),
  (26, .istore_n 3, 1, 0, 0, 0, 0),
  (27, .iconst 0, 1, 20, 0, 0, 0),
  (28, .istore 4, 2, 0, 0, 0, 0),
  (30, .iload 4, 2, 0, 0, 0, 0),
  (32, .iconst 4, 1, 20, 4, 0, 0),
  (33, .if_icmp .ge 84, 3, 0, 0, 0, 0),
  (36, .iload 4, 2, 0, 0, 0, 0),
  (38, .iconst 2, 1, 20, 2, 0, 0),
  (39, .irem, 1, 0, 0, 0, 0),
  (40, .ifCond .ne 7, 3, 0, 0, 0, 0),
  (43, .iload_n 2, 1, 0, 0, 0, 0),
  (44, .goto 5, 3, 0, 0, 0, 0),
  (47, .iload_n 2, 1, 0, 0, 0, 0),
  (48, .ineg, 1, 0, 0, 0, 0),
  (49, .istore 5, 2, 0, 0, 0, 0),
  (51, .aload_n 0, 1, 0, 0, 0, 0),
  (52, .aload_n 0, 1, 0, 0, 0, 0),
  (53, .iload_n 1, 1, 0, 0, 0, 0),
  (54, .iconst 1, 1, 20, 1, 0, 0),
  (55, .invokevirtual 74, 3, 3, 133, 0, 5149),
  (58, .aload_n 0, 1, 0, 0, 0, 0),
  (59, .iload_n 1, 1, 0, 0, 0, 0),
  (60, .iconst 2, 1, 20, 2, 0, 0),
  (61, .invokevirtual 74, 3, 3, 133, 0, 5149),
  (64, .iload 4, 2, 0, 0, 0, 0),
  (66, .iconst 2, 1, 20, 2, 0, 0),
  (67, .if_icmp .ge 8, 3, 0, 0, 0, 0),
  (70, .iload 5, 2, 0, 0, 0, 0),
  (72, .goto 4, 3, 0, 0, 0, 0),
  (75, .iconst 0, 1, 20, 0, 0, 0),
  (76, .iload 4, 2, 0, 0, 0, 0),
  (78, .iconst 2, 1, 20, 2, 0, 0),
  (79, .if_icmp .ge 7, 3, 0, 0, 0, 0),
  (82, .iconst 0, 1, 20, 0, 0, 0),
  (83, .goto 5, 3, 0, 0, 0, 0),
  (86, .iload 5, 2, 0, 0, 0, 0),
  (88, .invokevirtual 140, 3, 3, 144, 0, 5212),
  (91, .iload_n 3, 1, 0, 0, 0, 0),
  (92, .aload_n 0, 1, 0, 0, 0, 0),
  (93, .aload_n 0, 1, 0, 0, 0, 0),
  (94, .invokevirtual 202, 3, 3, 156, 0, 6052),
  (97, .invokevirtual 144, 3, 3, 154, 0, 6076),
  (100, .iload_n 1, 1, 0, 0, 0, 0),
  (101, .if_icmp .ne 7, 3, 0, 0, 0, 0),
  (104, .iconst 1, 1, 20, 1, 0, 0),
  (105, .goto 4, 3, 0, 0, 0, 0),
  (108, .iconst 0, 1, 20, 0, 0, 0),
  (109, .iadd, 1, 0, 0, 0, 0),
  (110, .istore_n 3, 1, 0, 0, 0, 0),
  (111, .iinc 4 1, 3, 20, 1, 0, 0),
  (114, .goto (-84), 3, 0, 0, 0, 0),
  (117, .iload_n 3, 1, 0, 0, 0, 0),
  (118, .ireturn, 1, 0, 0, 0, 0)]
/-- ThreeMagnetsModel.holds(II)I -/
def mz_r182 : mz_R := (11, yX11_holds, cX11_holds, 6, (some .int), false, 3, mz_k182)
def mz_k183 : mz_K := [
  (0, .aload_n 0, 1, 0, 0, 0, 0),
  (1, .getfield 7, 3, 0, 11, 0, 5040),
  (4, .bipush 60, 2, 20, 60, 0, 0),
  (6, .iaload, 1, 0, 0, 0, 0),
  (7, .ireturn, 1, 0, 0, 0, 0)]
/-- ThreeMagnetsModel.wide()I -/
def mz_r183 : mz_R := (11, yX11_wide, cX11_wide, 1, (some .int), false, 1, mz_k183)
def mz_k184 : mz_K := [
  (0, .aload_n 0, 1, 0, 0, 0, 0),
  (1, .getfield 7, 3, 0, 11, 0, 5040),
  (4, .bipush 61, 2, 20, 61, 0, 0),
  (6, .iaload, 1, 0, 0, 0, 0),
  (7, .ireturn, 1, 0, 0, 0, 0)]
/-- ThreeMagnetsModel.high()I -/
def mz_r184 : mz_R := (11, yX11_high, cX11_high, 1, (some .int), false, 1, mz_k184)
def mz_k185 : mz_K := [
  (0, .aload_n 0, 1, 0, 0, 0, 0),
  (1, .invokevirtual 208, 3, 3, 183, 0, 6116),
  (4, .ifCond .le 7, 3, 0, 0, 0, 0),
  (7, .iconst 1, 1, 20, 1, 0, 0),
  (8, .goto 4, 3, 0, 0, 0, 0),
  (11, .iconst 0, 1, 20, 0, 0, 0),
  (12, .ireturn, 1, 0, 0, 0, 0)]
/-- ThreeMagnetsModel.isPicture()Z -/
def mz_r185 : mz_R := (11, yX11_isPicture, cX11_isPicture, 1, (some .boolean), false, 1, mz_k185)
def mz_k186 : mz_K := [
  (0, .aload_n 0, 1, 0, 0, 0, 0),
  (1, .getfield 7, 3, 0, 11, 0, 5040),
  (4, .bipush 70, 2, 20, 70, 0, 0),
  (6, .bipush 6, 2, 20, 6, 0, 0),
  (8, .iload_n 2, 1, 0, 0, 0, 0),
  (9, .imul, 1, 0, 0, 0, 0),
  (10, .iadd, 1, 0, 0, 0, 0),
  (11, .iload_n 1, 1, 0, 0, 0, 0),
  (12, .iadd, 1, 0, 0, 0, 0),
  (13, .iaload, 1, 0, 0, 0, 0),
  (14, .ireturn, 1, 0, 0, 0, 0)]
/-- ThreeMagnetsModel.colour(II)I -/
def mz_r186 : mz_R := (11, yX11_colour, cX11_colour, 3, (some .int), false, 3, mz_k186)
def mz_k187 : mz_K := [
  (0, .iload_n 1, 1, 0, 0, 0, 0),
  (1, .iconst 0, 1, 20, 0, 0, 0),
  (2, .aload_n 0, 1, 0, 0, 0, 0),
  (3, .invokevirtual 208, 3, 3, 183, 0, 6116),
  (6, .iconst 1, 1, 20, 1, 0, 0),
  (7, .isub, 1, 0, 0, 0, 0),
  (8, .invokestatic 50, 3, 2, 128, 0, 5126),
  (11, .ifCond .eq 21, 3, 0, 0, 0, 0),
  (14, .iload_n 2, 1, 0, 0, 0, 0),
  (15, .iconst 0, 1, 20, 0, 0, 0),
  (16, .aload_n 0, 1, 0, 0, 0, 0),
  (17, .invokevirtual 211, 3, 3, 184, 0, 6124),
  (20, .iconst 1, 1, 20, 1, 0, 0),
  (21, .isub, 1, 0, 0, 0, 0),
  (22, .invokestatic 50, 3, 2, 128, 0, 5126),
  (25, .ifCond .eq 7, 3, 0, 0, 0, 0),
  (28, .iconst 1, 1, 20, 1, 0, 0),
  (29, .goto 4, 3, 0, 0, 0, 0),
  (32, .iconst 0, 1, 20, 0, 0, 0),
  (33, .ireturn, 1, 0, 0, 0, 0)]
/-- ThreeMagnetsModel.isCell(II)Z -/
def mz_r187 : mz_R := (11, yX11_isCell, cX11_isCell, 3, (some .boolean), false, 3, mz_k187)
def mz_k188 : mz_K := [
  (0, .iload_n 0, 1, 0, 0, 0, 0),
  (1, .iconst 0, 1, 20, 0, 0, 0),
  (2, .iconst 5, 1, 20, 5, 0, 0),
  (3, .invokestatic 50, 3, 2, 128, 0, 5126),
  (6, .ifCond .ne 9, 3, 0, 0, 0, 0),
  (9, .iload_n 0, 1, 0, 0, 0, 0),
  (10, .bipush 9, 2, 20, 9, 0, 0),
  (12, .if_icmp .ne 7, 3, 0, 0, 0, 0),
  (15, .iconst 1, 1, 20, 1, 0, 0),
  (16, .goto 4, 3, 0, 0, 0, 0),
  (19, .iconst 0, 1, 20, 0, 0, 0),
  (20, .ireturn, 1, 0, 0, 0, 0)]
/-- ThreeMagnetsModel.isColour(I)Z -/
def mz_r188 : mz_R := (11, yX11_isColour, cX11_isColour, 1, (some .boolean), true, 1, mz_k188)
def mz_k189 : mz_K := [
  (0, .iconst 0, 1, 20, 0, 0, 0),
  (1, .istore 5, 2, 0, 0, 0, 0),
  (3, .iconst 0, 1, 20, 0, 0, 0),
  (4, .istore 6, 2, 0, 0, 0, 0),
  (6, .iload 6, 2, 0, 0, 0, 0),
  (8, .iload_n 3, 1, 0, 0, 0, 0),
  (9, .if_icmp .ge 44, 3, 0, 0, 0, 0),
  (12, .iconst 0, 1, 20, 0, 0, 0),
  (13, .istore 7, 2, 0, 0, 0, 0),
  (15, .iload 7, 2, 0, 0, 0, 0),
  (17, .iload 4, 2, 0, 0, 0, 0),
  (19, .if_icmp .ge 28, 3, 0, 0, 0, 0),
  (22, .iload 5, 2, 0, 0, 0, 0),
  (24, .iconst 1, 1, 20, 1, 0, 0),
  (25, .aload_n 0, 1, 0, 0, 0, 0),
  (26, .iload_n 1, 1, 0, 0, 0, 0),
  (27, .iload 6, 2, 0, 0, 0, 0),
  (29, .iadd, 1, 0, 0, 0, 0),
  (30, .iload_n 2, 1, 0, 0, 0, 0),
  (31, .iload 7, 2, 0, 0, 0, 0),
  (33, .iadd, 1, 0, 0, 0, 0),
  (34, .invokevirtual 214, 3, 3, 186, 0, 6104),
  (37, .ishl, 1, 0, 0, 0, 0),
  (38, .ior, 1, 0, 0, 0, 0),
  (39, .istore 5, 2, 0, 0, 0, 0),
  (41, .iinc 7 1, 3, 20, 1, 0, 0),
  (44, .goto (-29), 3, 0, 0, 0, 0),
  (47, .iinc 6 1, 3, 20, 1, 0, 0),
  (50, .goto (-44), 3, 0, 0, 0, 0),
  (53, .iconst 0, 1, 20, 0, 0, 0),
  (54, .istore 6, 2, 0, 0, 0, 0),
  (56, .iload 5, 2, 0, 0, 0, 0),
  (58, .ifCond .eq 18, 3, 0, 0, 0, 0),
  (61, .iinc 6 1, 3, 20, 1, 0, 0),
  (64, .iload 5, 2, 0, 0, 0, 0),
  (66, .iload 5, 2, 0, 0, 0, 0),
  (68, .iconst 1, 1, 20, 1, 0, 0),
  (69, .isub, 1, 0, 0, 0, 0),
  (70, .iand, 1, 0, 0, 0, 0),
  (71, .istore 5, 2, 0, 0, 0, 0),
  (73, .goto (-17), 3, 0, 0, 0, 0),
  (76, .iload 6, 2, 0, 0, 0, 0),
  (78, .ireturn, 1, 0, 0, 0, 0)]
/-- ThreeMagnetsModel.coloursIn(IIII)I -/
def mz_r189 : mz_R := (11, yX11_coloursIn, cX11_coloursIn, 8, (some .int), false, 5, mz_k189)
def mz_k190 : mz_K := [
  (0, .iload_n 3, 1, 0, 0, 0, 0),
  (1, .bipush 10, 2, 20, 10, 0, 0),
  (3, .idiv, 1, 0, 0, 0, 0),
  (4, .istore 5, 2, 0, 0, 0, 0),
  (6, .iload_n 3, 1, 0, 0, 0, 0),
  (7, .bipush 10, 2, 20, 10, 0, 0),
  (9, .irem, 1, 0, 0, 0, 0),
  (10, .istore 6, 2, 0, 0, 0, 0),
  (12, .iload_n 1, 1, 0, 0, 0, 0),
  (13, .iload_n 2, 1, 0, 0, 0, 0),
  (14, .invokestatic 54, 3, 2, 131, 0, 5129),
  (17, .ifCond .eq 40, 3, 0, 0, 0, 0),
  (20, .iload 5, 2, 0, 0, 0, 0),
  (22, .iconst 1, 1, 20, 1, 0, 0),
  (23, .bipush 6, 2, 20, 6, 0, 0),
  (25, .invokestatic 50, 3, 2, 128, 0, 5126),
  (28, .ifCond .eq 29, 3, 0, 0, 0, 0),
  (31, .iload 6, 2, 0, 0, 0, 0),
  (33, .iconst 1, 1, 20, 1, 0, 0),
  (34, .bipush 6, 2, 20, 6, 0, 0),
  (36, .invokestatic 50, 3, 2, 128, 0, 5126),
  (39, .ifCond .eq 18, 3, 0, 0, 0, 0),
  (42, .iload 4, 2, 0, 0, 0, 0),
  (44, .iconst 1, 1, 20, 1, 0, 0),
  (45, .bipush 40, 2, 20, 40, 0, 0),
  (47, .invokestatic 50, 3, 2, 128, 0, 5126),
  (50, .ifCond .eq 7, 3, 0, 0, 0, 0),
  (53, .iconst 1, 1, 20, 1, 0, 0),
  (54, .goto 4, 3, 0, 0, 0, 0),
  (57, .iconst 0, 1, 20, 0, 0, 0),
  (58, .istore 7, 2, 0, 0, 0, 0),
  (60, .iload 7, 2, 0, 0, 0, 0),
  (62, .ifCond .eq 27, 3, 0, 0, 0, 0),
  (65, .iload_n 1, 1, 0, 0, 0, 0),
  (66, .iload 5, 2, 0, 0, 0, 0),
  (68, .iconst 1, 1, 20, 1, 0, 0),
  (69, .isub, 1, 0, 0, 0, 0),
  (70, .iload 4, 2, 0, 0, 0, 0),
  (72, .imul, 1, 0, 0, 0, 0),
  (73, .iadd, 1, 0, 0, 0, 0),
  (74, .iload_n 2, 1, 0, 0, 0, 0),
  (75, .iload 6, 2, 0, 0, 0, 0),
  (77, .iconst 1, 1, 20, 1, 0, 0),
  (78, .isub, 1, 0, 0, 0, 0),
  (79, .iload 4, 2, 0, 0, 0, 0),
  (81, .imul, 1, 0, 0, 0, 0),
  (82, .iadd, 1, 0, 0, 0, 0),
  (83, .invokestatic 54, 3, 2, 131, 0, 5129),
  (86, .ifCond .ne 9, 3, 0, 0, 0, 0),
  (89, .aload_n 0, 1, 0, 0, 0, 0),
  (90, .iconst 1, 1, 20, 1, 0, 0),
  (91, .invokevirtual 62, 3, 3, 127, 0, 5132),
  (94, .ireturn, 1, 0, 0, 0, 0),
  (95, .aload_n 0, 1, 0, 0, 0, 0),
  (96, .getfield 7, 3, 0, 11, 0, 5040),
  (99, .bipush 60, 2, 20, 60, 0, 0),
  (101, .iload 5, 2, 0, 0, 0, 0),
  (103, .iastore, 1, 0, 0, 0, 0),
  (104, .aload_n 0, 1, 0, 0, 0, 0),
  (105, .getfield 7, 3, 0, 11, 0, 5040),
  (108, .bipush 61, 2, 20, 61, 0, 0),
  (110, .iload 6, 2, 0, 0, 0, 0),
  (112, .iastore, 1, 0, 0, 0, 0),
  (113, .aload_n 0, 1, 0, 0, 0, 0),
  (114, .getfield 7, 3, 0, 11, 0, 5040),
  (117, .bipush 62, 2, 20, 62, 0, 0),
  (119, .iload_n 1, 1, 0, 0, 0, 0),
  (120, .iastore, 1, 0, 0, 0, 0),
  (121, .aload_n 0, 1, 0, 0, 0, 0),
  (122, .getfield 7, 3, 0, 11, 0, 5040),
  (125, .bipush 63, 2, 20, 63, 0, 0),
  (127, .iload_n 2, 1, 0, 0, 0, 0),
  (128, .iastore, 1, 0, 0, 0, 0),
  (129, .aload_n 0, 1, 0, 0, 0, 0),
  (130, .getfield 7, 3, 0, 11, 0, 5040),
  (133, .bipush 64, 2, 20, 64, 0, 0),
  (135, .iload 4, 2, 0, 0, 0, 0),
  (137, .iastore, 1, 0, 0, 0, 0),
  (138, .iconst 0, 1, 20, 0, 0, 0),
  (139, .istore 8, 2, 0, 0, 0, 0),
  (141, .iload 8, 2, 0, 0, 0, 0),
  (143, .iload 5, 2, 0, 0, 0, 0),
  (145, .iload 6, 2, 0, 0, 0, 0),
  (147, .imul, 1, 0, 0, 0, 0),
  (148, .if_icmp .ge 77, 3, 0, 0, 0, 0),
  (151, .bipush 6, 2, 20, 6, 0, 0),
  (153, .iload 8, 2, 0, 0, 0, 0),
  (155, .iload 5, 2, 0, 0, 0, 0),
  (157, .idiv, 1, 0, 0, 0, 0),
  (158, .imul, 1, 0, 0, 0, 0),
  (159, .iload 8, 2, 0, 0, 0, 0),
  (161, .iload 5, 2, 0, 0, 0, 0),
  (163, .irem, 1, 0, 0, 0, 0),
  (164, .iadd, 1, 0, 0, 0, 0),
  (165, .istore 9, 2, 0, 0, 0, 0),
  (167, .aload_n 0, 1, 0, 0, 0, 0),
  (168, .getfield 7, 3, 0, 11, 0, 5040),
  (171, .bipush 70, 2, 20, 70, 0, 0),
  (173, .iload 9, 2, 0, 0, 0, 0),
  (175, .iadd, 1, 0, 0, 0, 0),
  (176, .aload_n 0, 1, 0, 0, 0, 0),
  (177, .iload_n 1, 1, 0, 0, 0, 0),
  (178, .iload 8, 2, 0, 0, 0, 0),
  (180, .iload 5, 2, 0, 0, 0, 0),
  (182, .irem, 1, 0, 0, 0, 0),
  (183, .iload 4, 2, 0, 0, 0, 0),
  (185, .imul, 1, 0, 0, 0, 0),
  (186, .iadd, 1, 0, 0, 0, 0),
  (187, .iload_n 2, 1, 0, 0, 0, 0),
  (188, .iload 8, 2, 0, 0, 0, 0),
  (190, .iload 5, 2, 0, 0, 0, 0),
  (192, .idiv, 1, 0, 0, 0, 0),
  (193, .iload 4, 2, 0, 0, 0, 0),
  (195, .imul, 1, 0, 0, 0, 0),
  (196, .iadd, 1, 0, 0, 0, 0),
  (197, .aload_n 0, 1, 0, 0, 0, 0),
  (198, .invokevirtual 202, 3, 3, 156, 0, 6052),
  (201, .invokevirtual 205, 3, 3, 155, 0, 6084),
  (204, .iastore, 1, 0, 0, 0, 0),
  (205, .aload_n 0, 1, 0, 0, 0, 0),
  (206, .getfield 7, 3, 0, 11, 0, 5040),
  (209, .bipush 110, 2, 20, 110, 0, 0),
  (211, .iload 9, 2, 0, 0, 0, 0),
  (213, .iadd, 1, 0, 0, 0, 0),
  (214, .aload_n 0, 1, 0, 0, 0, 0),
  (215, .getfield 106, 3, 0, 11, 8, 5048),
  (218, .iastore, 1, 0, 0, 0, 0),
  (219, .iinc 8 1, 3, 20, 1, 0, 0),
  (222, .goto (-81), 3, 0, 0, 0, 0),
  (225, .aload_n 0, 1, 0, 0, 0, 0),
  (226, .iconst 0, 1, 20, 0, 0, 0),
  (227, .iconst 0, 1, 20, 0, 0, 0),
  (228, .iload 5, 2, 0, 0, 0, 0),
  (230, .iload 6, 2, 0, 0, 0, 0),
  (232, .invokevirtual 217, 3, 3, 189, 0, 6100),
  (235, .ireturn, 1, 0, 0, 0, 0)]
/-- ThreeMagnetsModel.picture(IIII)I -/
def mz_r190 : mz_R := (11, yX11_picture, cX11_picture, 10, (some .int), false, 5, mz_k190)
def mz_k191 : mz_K := [
  (0, .aload_n 0, 1, 0, 0, 0, 0),
  (1, .invokevirtual 220, 3, 3, 185, 0, 6112),
  (4, .ifCond .ne 9, 3, 0, 0, 0, 0),
  (7, .aload_n 0, 1, 0, 0, 0, 0),
  (8, .iconst 2, 1, 20, 2, 0, 0),
  (9, .invokevirtual 62, 3, 3, 127, 0, 5132),
  (12, .ireturn, 1, 0, 0, 0, 0),
  (13, .aload_n 0, 1, 0, 0, 0, 0),
  (14, .iload_n 1, 1, 0, 0, 0, 0),
  (15, .iload_n 2, 1, 0, 0, 0, 0),
  (16, .invokevirtual 223, 3, 3, 187, 0, 6120),
  (19, .ifCond .eq 12, 3, 0, 0, 0, 0),
  (22, .aload_n 0, 1, 0, 0, 0, 0),
  (23, .iload_n 1, 1, 0, 0, 0, 0),
  (24, .iload_n 2, 1, 0, 0, 0, 0),
  (25, .invokevirtual 214, 3, 3, 186, 0, 6104),
  (28, .goto 8, 3, 0, 0, 0, 0),
  (31, .aload_n 0, 1, 0, 0, 0, 0),
  (32, .iconst 1, 1, 20, 1, 0, 0),
  (33, .invokevirtual 62, 3, 3, 127, 0, 5132),
  (36, .ireturn, 1, 0, 0, 0, 0)]
/-- ThreeMagnetsModel.cell(II)I -/
def mz_r191 : mz_R := (11, yX11_cell, cX11_cell, 3, (some .int), false, 3, mz_k191)
def mz_k192 : mz_K := [
  (0, .iconst 0, 1, 20, 0, 0, 0),
  (1, .istore 5, 2, 0, 0, 0, 0),
  (3, .iload_n 2, 1, 0, 0, 0, 0),
  (4, .iload 4, 2, 0, 0, 0, 0),
  (6, .isub, 1, 0, 0, 0, 0),
  (7, .istore 6, 2, 0, 0, 0, 0),
  (9, .iload 6, 2, 0, 0, 0, 0),
  (11, .iload_n 2, 1, 0, 0, 0, 0),
  (12, .iload 4, 2, 0, 0, 0, 0),
  (14, .iadd, 1, 0, 0, 0, 0),
  (15, .if_icmp .gt 63, 3, 0, 0, 0, 0),
  (18, .iload_n 3, 1, 0, 0, 0, 0),
  (19, .iload 4, 2, 0, 0, 0, 0),
  (21, .isub, 1, 0, 0, 0, 0),
  (22, .istore 7, 2, 0, 0, 0, 0),
  (24, .iload 7, 2, 0, 0, 0, 0),
  (26, .iload_n 3, 1, 0, 0, 0, 0),
  (27, .iload 4, 2, 0, 0, 0, 0),
  (29, .iadd, 1, 0, 0, 0, 0),
  (30, .if_icmp .gt 42, 3, 0, 0, 0, 0),
  (33, .iload 5, 2, 0, 0, 0, 0),
  (35, .aload_n 0, 1, 0, 0, 0, 0),
  (36, .iload 6, 2, 0, 0, 0, 0),
  (38, .iload 7, 2, 0, 0, 0, 0),
  (40, .invokevirtual 223, 3, 3, 187, 0, 6120),
  (43, .ifCond .eq 19, 3, 0, 0, 0, 0),
  (46, .aload_n 0, 1, 0, 0, 0, 0),
  (47, .iload 6, 2, 0, 0, 0, 0),
  (49, .iload 7, 2, 0, 0, 0, 0),
  (51, .invokevirtual 214, 3, 3, 186, 0, 6104),
  (54, .iload_n 1, 1, 0, 0, 0, 0),
  (55, .if_icmp .ne 7, 3, 0, 0, 0, 0),
  (58, .iconst 1, 1, 20, 1, 0, 0),
  (59, .goto 4, 3, 0, 0, 0, 0),
  (62, .iconst 0, 1, 20, 0, 0, 0),
  (63, .iadd, 1, 0, 0, 0, 0),
  (64, .istore 5, 2, 0, 0, 0, 0),
  (66, .iinc 7 1, 3, 20, 1, 0, 0),
  (69, .goto (-45), 3, 0, 0, 0, 0),
  (72, .iinc 6 1, 3, 20, 1, 0, 0),
  (75, .goto (-66), 3, 0, 0, 0, 0),
  (78, .iload 5, 2, 0, 0, 0, 0),
  (80, .ireturn, 1, 0, 0, 0, 0)]
/-- ThreeMagnetsModel.around(IIII)I -/
def mz_r192 : mz_R := (11, yX11_around, cX11_around, 8, (some .int), false, 5, mz_k192)
def mz_k193 : mz_K := [
  (0, .aload_n 0, 1, 0, 0, 0, 0),
  (1, .iload_n 1, 1, 0, 0, 0, 0),
  (2, .iconst 0, 1, 20, 0, 0, 0),
  (3, .iconst 0, 1, 20, 0, 0, 0),
  (4, .bipush 6, 2, 20, 6, 0, 0),
  (6, .invokevirtual 226, 3, 3, 192, 0, 6139),
  (9, .ireturn, 1, 0, 0, 0, 0)]
/-- ThreeMagnetsModel.shareOf(I)I -/
def mz_r193 : mz_R := (11, yX11_shareOf, cX11_shareOf, 2, (some .int), false, 2, mz_k193)
def mz_k194 : mz_K := [
  (0, .iload_n 1, 1, 0, 0, 0, 0),
  (1, .invokestatic 229, 3, 2, 188, 0, 6132),
  (4, .ifCond .ne 9, 3, 0, 0, 0, 0),
  (7, .aload_n 0, 1, 0, 0, 0, 0),
  (8, .iconst 1, 1, 20, 1, 0, 0),
  (9, .invokevirtual 62, 3, 3, 127, 0, 5132),
  (12, .ireturn, 1, 0, 0, 0, 0),
  (13, .aload_n 0, 1, 0, 0, 0, 0),
  (14, .invokevirtual 220, 3, 3, 185, 0, 6112),
  (17, .ifCond .eq 11, 3, 0, 0, 0, 0),
  (20, .aload_n 0, 1, 0, 0, 0, 0),
  (21, .iload_n 1, 1, 0, 0, 0, 0),
  (22, .invokevirtual 232, 3, 3, 193, 0, 6135),
  (25, .goto 8, 3, 0, 0, 0, 0),
  (28, .aload_n 0, 1, 0, 0, 0, 0),
  (29, .iconst 2, 1, 20, 2, 0, 0),
  (30, .invokevirtual 62, 3, 3, 127, 0, 5132),
  (33, .ireturn, 1, 0, 0, 0, 0)]
/-- ThreeMagnetsModel.share(I)I -/
def mz_r194 : mz_R := (11, yX11_share, cX11_share, 2, (some .int), false, 2, mz_k194)
def mz_k195 : mz_K := [
  (0, .aload_n 0, 1, 0, 0, 0, 0),
  (1, .iload_n 1, 1, 0, 0, 0, 0),
  (2, .iload_n 2, 1, 0, 0, 0, 0),
  (3, .invokevirtual 223, 3, 3, 187, 0, 6120),
  (6, .ifCond .eq 17, 3, 0, 0, 0, 0),
  (9, .aload_n 0, 1, 0, 0, 0, 0),
  (10, .iload_n 1, 1, 0, 0, 0, 0),
  (11, .iload_n 2, 1, 0, 0, 0, 0),
  (12, .invokevirtual 214, 3, 3, 186, 0, 6104),
  (15, .iload_n 3, 1, 0, 0, 0, 0),
  (16, .if_icmp .eq 7, 3, 0, 0, 0, 0),
  (19, .iconst 1, 1, 20, 1, 0, 0),
  (20, .goto 4, 3, 0, 0, 0, 0),
  (23, .iconst 0, 1, 20, 0, 0, 0),
  (24, .ireturn, 1, 0, 0, 0, 0)]
/-- ThreeMagnetsModel.isOther(III)Z -/
def mz_r195 : mz_R := (11, yX11_isOther, cX11_isOther, 4, (some .boolean), false, 4, mz_k195)
def mz_k196 : mz_K := [
  (0, .aload_n 0, 1, 0, 0, 0, 0),
  (1, .iload_n 1, 1, 0, 0, 0, 0),
  (2, .iload_n 2, 1, 0, 0, 0, 0),
  (3, .invokevirtual 214, 3, 3, 186, 0, 6104),
  (6, .istore_n 3, 1, 0, 0, 0, 0),
  (7, .aload_n 0, 1, 0, 0, 0, 0),
  (8, .iload_n 1, 1, 0, 0, 0, 0),
  (9, .iconst 1, 1, 20, 1, 0, 0),
  (10, .isub, 1, 0, 0, 0, 0),
  (11, .iload_n 2, 1, 0, 0, 0, 0),
  (12, .iload_n 3, 1, 0, 0, 0, 0),
  (13, .invokevirtual 235, 3, 3, 195, 0, 6151),
  (16, .ifCond .ne 39, 3, 0, 0, 0, 0),
  (19, .aload_n 0, 1, 0, 0, 0, 0),
  (20, .iload_n 1, 1, 0, 0, 0, 0),
  (21, .iconst 1, 1, 20, 1, 0, 0),
  (22, .iadd, 1, 0, 0, 0, 0),
  (23, .iload_n 2, 1, 0, 0, 0, 0),
  (24, .iload_n 3, 1, 0, 0, 0, 0),
  (25, .invokevirtual 235, 3, 3, 195, 0, 6151),
  (28, .ifCond .ne 27, 3, 0, 0, 0, 0),
  (31, .aload_n 0, 1, 0, 0, 0, 0),
  (32, .iload_n 1, 1, 0, 0, 0, 0),
  (33, .iload_n 2, 1, 0, 0, 0, 0),
  (34, .iconst 1, 1, 20, 1, 0, 0),
  (35, .isub, 1, 0, 0, 0, 0),
  (36, .iload_n 3, 1, 0, 0, 0, 0),
  (37, .invokevirtual 235, 3, 3, 195, 0, 6151),
  (40, .ifCond .ne 15, 3, 0, 0, 0, 0),
  (43, .aload_n 0, 1, 0, 0, 0, 0),
  (44, .iload_n 1, 1, 0, 0, 0, 0),
  (45, .iload_n 2, 1, 0, 0, 0, 0),
  (46, .iconst 1, 1, 20, 1, 0, 0),
  (47, .iadd, 1, 0, 0, 0, 0),
  (48, .iload_n 3, 1, 0, 0, 0, 0),
  (49, .invokevirtual 235, 3, 3, 195, 0, 6151),
  (52, .ifCond .eq 7, 3, 0, 0, 0, 0),
  (55, .iconst 1, 1, 20, 1, 0, 0),
  (56, .goto 4, 3, 0, 0, 0, 0),
  (59, .iconst 0, 1, 20, 0, 0, 0),
  (60, .ireturn, 1, 0, 0, 0, 0)]
/-- ThreeMagnetsModel.isEdge(II)Z -/
def mz_r196 : mz_R := (11, yX11_isEdge, cX11_isEdge, 4, (some .boolean), false, 3, mz_k196)
def mz_k197 : mz_K := [
  (0, .aload_n 0, 1, 0, 0, 0, 0),
  (1, .invokevirtual 220, 3, 3, 185, 0, 6112),
  (4, .ifCond .ne 9, 3, 0, 0, 0, 0),
  (7, .aload_n 0, 1, 0, 0, 0, 0),
  (8, .iconst 2, 1, 20, 2, 0, 0),
  (9, .invokevirtual 62, 3, 3, 127, 0, 5132),
  (12, .ireturn, 1, 0, 0, 0, 0),
  (13, .aload_n 0, 1, 0, 0, 0, 0),
  (14, .iload_n 1, 1, 0, 0, 0, 0),
  (15, .iload_n 2, 1, 0, 0, 0, 0),
  (16, .invokevirtual 223, 3, 3, 187, 0, 6120),
  (19, .ifCond .ne 11, 3, 0, 0, 0, 0),
  (22, .aload_n 0, 1, 0, 0, 0, 0),
  (23, .iconst 1, 1, 20, 1, 0, 0),
  (24, .invokevirtual 62, 3, 3, 127, 0, 5132),
  (27, .goto 17, 3, 0, 0, 0, 0),
  (30, .aload_n 0, 1, 0, 0, 0, 0),
  (31, .iload_n 1, 1, 0, 0, 0, 0),
  (32, .iload_n 2, 1, 0, 0, 0, 0),
  (33, .invokevirtual 238, 3, 3, 196, 0, 6147),
  (36, .ifCond .eq 7, 3, 0, 0, 0, 0),
  (39, .iconst 1, 1, 20, 1, 0, 0),
  (40, .goto 4, 3, 0, 0, 0, 0),
  (43, .iconst 0, 1, 20, 0, 0, 0),
  (44, .ireturn, 1, 0, 0, 0, 0)]
/-- ThreeMagnetsModel.edge(II)I -/
def mz_r197 : mz_R := (11, yX11_edge, cX11_edge, 3, (some .int), false, 3, mz_k197)
def mz_k198 : mz_K := [
  (0, .aload_n 0, 1, 0, 0, 0, 0),
  (1, .getfield 7, 3, 0, 11, 0, 5040),
  (4, .bipush 64, 2, 20, 64, 0, 0),
  (6, .iaload, 1, 0, 0, 0, 0),
  (7, .iconst 2, 1, 20, 2, 0, 0),
  (8, .idiv, 1, 0, 0, 0, 0),
  (9, .istore_n 3, 1, 0, 0, 0, 0),
  (10, .aload_n 0, 1, 0, 0, 0, 0),
  (11, .getfield 7, 3, 0, 11, 0, 5040),
  (14, .bipush 62, 2, 20, 62, 0, 0),
  (16, .iaload, 1, 0, 0, 0, 0),
  (17, .iload_n 1, 1, 0, 0, 0, 0),
  (18, .aload_n 0, 1, 0, 0, 0, 0),
  (19, .getfield 7, 3, 0, 11, 0, 5040),
  (22, .bipush 64, 2, 20, 64, 0, 0),
  (24, .iaload, 1, 0, 0, 0, 0),
  (25, .imul, 1, 0, 0, 0, 0),
  (26, .iadd, 1, 0, 0, 0, 0),
  (27, .istore 4, 2, 0, 0, 0, 0),
  (29, .aload_n 0, 1, 0, 0, 0, 0),
  (30, .getfield 7, 3, 0, 11, 0, 5040),
  (33, .bipush 63, 2, 20, 63, 0, 0),
  (35, .iaload, 1, 0, 0, 0, 0),
  (36, .iload_n 2, 1, 0, 0, 0, 0),
  (37, .aload_n 0, 1, 0, 0, 0, 0),
  (38, .getfield 7, 3, 0, 11, 0, 5040),
  (41, .bipush 64, 2, 20, 64, 0, 0),
  (43, .iaload, 1, 0, 0, 0, 0),
  (44, .imul, 1, 0, 0, 0, 0),
  (45, .iadd, 1, 0, 0, 0, 0),
  (46, .istore 5, 2, 0, 0, 0, 0),
  (48, .iconst 0, 1, 20, 0, 0, 0),
  (49, .istore 6, 2, 0, 0, 0, 0),
  (51, .iconst 1, 1, 20, 1, 0, 0),
  (52, .istore 7, 2, 0, 0, 0, 0),
  (54, .iload 7, 2, 0, 0, 0, 0),
  (56, .iconst 4, 1, 20, 4, 0, 0),
  (57, .if_icmp .ge 82, 3, 0, 0, 0, 0),
  (60, .iload 4, 2, 0, 0, 0, 0),
  (62, .iload 7, 2, 0, 0, 0, 0),
  (64, .iconst 2, 1, 20, 2, 0, 0),
  (65, .if_icmp .ne 7, 3, 0, 0, 0, 0),
  (68, .iconst 0, 1, 20, 0, 0, 0),
  (69, .goto 4, 3, 0, 0, 0, 0),
  (72, .iload_n 3, 1, 0, 0, 0, 0),
  (73, .iadd, 1, 0, 0, 0, 0),
  (74, .istore 8, 2, 0, 0, 0, 0),
  (76, .iload 5, 2, 0, 0, 0, 0),
  (78, .iload 7, 2, 0, 0, 0, 0),
  (80, .iconst 1, 1, 20, 1, 0, 0),
  (81, .if_icmp .ne 7, 3, 0, 0, 0, 0),
  (84, .iconst 0, 1, 20, 0, 0, 0),
  (85, .goto 4, 3, 0, 0, 0, 0),
  (88, .iload_n 3, 1, 0, 0, 0, 0),
  (89, .iadd, 1, 0, 0, 0, 0),
  (90, .istore 9, 2, 0, 0, 0, 0),
  (92, .iload 6, 2, 0, 0, 0, 0),
  (94, .iload 8, 2, 0, 0, 0, 0),
  (96, .iload 9, 2, 0, 0, 0, 0),
  (98, .invokestatic 54, 3, 2, 131, 0, 5129),
  (101, .ifCond .eq 28, 3, 0, 0, 0, 0),
  (104, .aload_n 0, 1, 0, 0, 0, 0),
  (105, .iload 8, 2, 0, 0, 0, 0),
  (107, .iload 9, 2, 0, 0, 0, 0),
  (109, .aload_n 0, 1, 0, 0, 0, 0),
  (110, .invokevirtual 202, 3, 3, 156, 0, 6052),
  (113, .invokevirtual 205, 3, 3, 155, 0, 6084),
  (116, .aload_n 0, 1, 0, 0, 0, 0),
  (117, .iload_n 1, 1, 0, 0, 0, 0),
  (118, .iload_n 2, 1, 0, 0, 0, 0),
  (119, .invokevirtual 214, 3, 3, 186, 0, 6104),
  (122, .if_icmp .eq 7, 3, 0, 0, 0, 0),
  (125, .iconst 1, 1, 20, 1, 0, 0),
  (126, .goto 4, 3, 0, 0, 0, 0),
  (129, .iconst 0, 1, 20, 0, 0, 0),
  (130, .iadd, 1, 0, 0, 0, 0),
  (131, .istore 6, 2, 0, 0, 0, 0),
  (133, .iinc 7 1, 3, 20, 1, 0, 0),
  (136, .goto (-82), 3, 0, 0, 0, 0),
  (139, .iload 6, 2, 0, 0, 0, 0),
  (141, .ireturn, 1, 0, 0, 0, 0)]
/-- ThreeMagnetsModel.finerOf(II)I -/
def mz_r198 : mz_R := (11, yX11_finerOf, cX11_finerOf, 10, (some .int), false, 3, mz_k198)
def mz_k199 : mz_K := [
  (0, .iload_n 1, 1, 0, 0, 0, 0),
  (1, .iconst 0, 1, 20, 0, 0, 0),
  (2, .iconst 3, 1, 20, 3, 0, 0),
  (3, .invokestatic 50, 3, 2, 128, 0, 5126),
  (6, .ifCond .ne 9, 3, 0, 0, 0, 0),
  (9, .aload_n 0, 1, 0, 0, 0, 0),
  (10, .iconst 1, 1, 20, 1, 0, 0),
  (11, .invokevirtual 62, 3, 3, 127, 0, 5132),
  (14, .ireturn, 1, 0, 0, 0, 0),
  (15, .aload_n 0, 1, 0, 0, 0, 0),
  (16, .invokevirtual 220, 3, 3, 185, 0, 6112),
  (19, .ifCond .ne 9, 3, 0, 0, 0, 0),
  (22, .aload_n 0, 1, 0, 0, 0, 0),
  (23, .iconst 2, 1, 20, 2, 0, 0),
  (24, .invokevirtual 62, 3, 3, 127, 0, 5132),
  (27, .ireturn, 1, 0, 0, 0, 0),
  (28, .iconst 0, 1, 20, 0, 0, 0),
  (29, .istore_n 2, 1, 0, 0, 0, 0),
  (30, .iconst 0, 1, 20, 0, 0, 0),
  (31, .istore_n 3, 1, 0, 0, 0, 0),
  (32, .iload_n 3, 1, 0, 0, 0, 0),
  (33, .aload_n 0, 1, 0, 0, 0, 0),
  (34, .invokevirtual 208, 3, 3, 183, 0, 6116),
  (37, .if_icmp .ge 128, 3, 0, 0, 0, 0),
  (40, .iconst 0, 1, 20, 0, 0, 0),
  (41, .istore 4, 2, 0, 0, 0, 0),
  (43, .iload 4, 2, 0, 0, 0, 0),
  (45, .aload_n 0, 1, 0, 0, 0, 0),
  (46, .invokevirtual 211, 3, 3, 184, 0, 6124),
  (49, .if_icmp .ge 110, 3, 0, 0, 0, 0),
  (52, .iload_n 1, 1, 0, 0, 0, 0),
  (53, .iconst 1, 1, 20, 1, 0, 0),
  (54, .if_icmp .ne 41, 3, 0, 0, 0, 0),
  (57, .iload_n 2, 1, 0, 0, 0, 0),
  (58, .aload_n 0, 1, 0, 0, 0, 0),
  (59, .iload_n 3, 1, 0, 0, 0, 0),
  (60, .iconst 1, 1, 20, 1, 0, 0),
  (61, .iadd, 1, 0, 0, 0, 0),
  (62, .iload 4, 2, 0, 0, 0, 0),
  (64, .iconst 1, 1, 20, 1, 0, 0),
  (65, .iadd, 1, 0, 0, 0, 0),
  (66, .invokevirtual 223, 3, 3, 187, 0, 6120),
  (69, .ifCond .eq 20, 3, 0, 0, 0, 0),
  (72, .aload_n 0, 1, 0, 0, 0, 0),
  (73, .iload_n 3, 1, 0, 0, 0, 0),
  (74, .iload 4, 2, 0, 0, 0, 0),
  (76, .iconst 2, 1, 20, 2, 0, 0),
  (77, .iconst 2, 1, 20, 2, 0, 0),
  (78, .invokevirtual 217, 3, 3, 189, 0, 6100),
  (81, .iconst 2, 1, 20, 2, 0, 0),
  (82, .if_icmp .le 7, 3, 0, 0, 0, 0),
  (85, .iconst 1, 1, 20, 1, 0, 0),
  (86, .goto 4, 3, 0, 0, 0, 0),
  (89, .iconst 0, 1, 20, 0, 0, 0),
  (90, .iadd, 1, 0, 0, 0, 0),
  (91, .istore_n 2, 1, 0, 0, 0, 0),
  (92, .goto 61, 3, 0, 0, 0, 0),
  (95, .iload_n 1, 1, 0, 0, 0, 0),
  (96, .iconst 3, 1, 20, 3, 0, 0),
  (97, .if_icmp .ne 24, 3, 0, 0, 0, 0),
  (100, .iload_n 2, 1, 0, 0, 0, 0),
  (101, .aload_n 0, 1, 0, 0, 0, 0),
  (102, .getfield 7, 3, 0, 11, 0, 5040),
  (105, .bipush 110, 2, 20, 110, 0, 0),
  (107, .bipush 6, 2, 20, 6, 0, 0),
  (109, .iload 4, 2, 0, 0, 0, 0),
  (111, .imul, 1, 0, 0, 0, 0),
  (112, .iadd, 1, 0, 0, 0, 0),
  (113, .iload_n 3, 1, 0, 0, 0, 0),
  (114, .iadd, 1, 0, 0, 0, 0),
  (115, .iaload, 1, 0, 0, 0, 0),
  (116, .iadd, 1, 0, 0, 0, 0),
  (117, .istore_n 2, 1, 0, 0, 0, 0),
  (118, .goto 35, 3, 0, 0, 0, 0),
  (121, .iload_n 2, 1, 0, 0, 0, 0),
  (122, .aload_n 0, 1, 0, 0, 0, 0),
  (123, .iload_n 3, 1, 0, 0, 0, 0),
  (124, .iload 4, 2, 0, 0, 0, 0),
  (126, .invokevirtual 238, 3, 3, 196, 0, 6147),
  (129, .ifCond .ne 7, 3, 0, 0, 0, 0),
  (132, .iconst 0, 1, 20, 0, 0, 0),
  (133, .goto 18, 3, 0, 0, 0, 0),
  (136, .iload_n 1, 1, 0, 0, 0, 0),
  (137, .ifCond .ne 7, 3, 0, 0, 0, 0),
  (140, .iconst 1, 1, 20, 1, 0, 0),
  (141, .goto 10, 3, 0, 0, 0, 0),
  (144, .aload_n 0, 1, 0, 0, 0, 0),
  (145, .iload_n 3, 1, 0, 0, 0, 0),
  (146, .iload 4, 2, 0, 0, 0, 0),
  (148, .invokevirtual 241, 3, 3, 198, 0, 6159),
  (151, .iadd, 1, 0, 0, 0, 0),
  (152, .istore_n 2, 1, 0, 0, 0, 0),
  (153, .iinc 4 1, 3, 20, 1, 0, 0),
  (156, .goto (-113), 3, 0, 0, 0, 0),
  (159, .iinc 3 1, 3, 20, 1, 0, 0),
  (162, .goto (-130), 3, 0, 0, 0, 0),
  (165, .iload_n 2, 1, 0, 0, 0, 0),
  (166, .ireturn, 1, 0, 0, 0, 0)]
/-- ThreeMagnetsModel.seen(I)I -/
def mz_r199 : mz_R := (11, yX11_seen, cX11_seen, 5, (some .int), false, 2, mz_k199)
def mz_k200 : mz_K := [
  (0, .iload_n 1, 1, 0, 0, 0, 0),
  (1, .invokestatic 229, 3, 2, 188, 0, 6132),
  (4, .ifCond .eq 21, 3, 0, 0, 0, 0),
  (7, .iload_n 2, 1, 0, 0, 0, 0),
  (8, .iconst 0, 1, 20, 0, 0, 0),
  (9, .iconst 5, 1, 20, 5, 0, 0),
  (10, .invokestatic 50, 3, 2, 128, 0, 5126),
  (13, .ifCond .eq 12, 3, 0, 0, 0, 0),
  (16, .iload_n 3, 1, 0, 0, 0, 0),
  (17, .iconst 0, 1, 20, 0, 0, 0),
  (18, .iconst 1, 1, 20, 1, 0, 0),
  (19, .invokestatic 50, 3, 2, 128, 0, 5126),
  (22, .ifCond .ne 9, 3, 0, 0, 0, 0),
  (25, .aload_n 0, 1, 0, 0, 0, 0),
  (26, .iconst 1, 1, 20, 1, 0, 0),
  (27, .invokevirtual 62, 3, 3, 127, 0, 5132),
  (30, .ireturn, 1, 0, 0, 0, 0),
  (31, .aload_n 0, 1, 0, 0, 0, 0),
  (32, .invokevirtual 220, 3, 3, 185, 0, 6112),
  (35, .ifCond .ne 9, 3, 0, 0, 0, 0),
  (38, .aload_n 0, 1, 0, 0, 0, 0),
  (39, .iconst 2, 1, 20, 2, 0, 0),
  (40, .invokevirtual 62, 3, 3, 127, 0, 5132),
  (43, .ireturn, 1, 0, 0, 0, 0),
  (44, .iconst (-1), 1, 21, 1, 0, 0),
  (45, .istore 4, 2, 0, 0, 0, 0),
  (47, .iconst 0, 1, 20, 0, 0, 0),
  (48, .istore 5, 2, 0, 0, 0, 0),
  (50, .iconst 0, 1, 20, 0, 0, 0),
  (51, .istore 6, 2, 0, 0, 0, 0),
  (53, .iload 6, 2, 0, 0, 0, 0),
  (55, .aload_n 0, 1, 0, 0, 0, 0),
  (56, .invokevirtual 211, 3, 3, 184, 0, 6124),
  (59, .if_icmp .ge 77, 3, 0, 0, 0, 0),
  (62, .iconst 0, 1, 20, 0, 0, 0),
  (63, .istore 7, 2, 0, 0, 0, 0),
  (65, .iload 7, 2, 0, 0, 0, 0),
  (67, .aload_n 0, 1, 0, 0, 0, 0),
  (68, .invokevirtual 208, 3, 3, 183, 0, 6116),
  (71, .if_icmp .ge 59, 3, 0, 0, 0, 0),
  (74, .aload_n 0, 1, 0, 0, 0, 0),
  (75, .iload_n 1, 1, 0, 0, 0, 0),
  (76, .iload 7, 2, 0, 0, 0, 0),
  (78, .iload 6, 2, 0, 0, 0, 0),
  (80, .iload_n 2, 1, 0, 0, 0, 0),
  (81, .invokevirtual 226, 3, 3, 192, 0, 6139),
  (84, .istore 8, 2, 0, 0, 0, 0),
  (86, .iload 8, 2, 0, 0, 0, 0),
  (88, .iload 4, 2, 0, 0, 0, 0),
  (90, .if_icmp .le 14, 3, 0, 0, 0, 0),
  (93, .bipush 10, 2, 20, 10, 0, 0),
  (95, .iload 7, 2, 0, 0, 0, 0),
  (97, .imul, 1, 0, 0, 0, 0),
  (98, .iload 6, 2, 0, 0, 0, 0),
  (100, .iadd, 1, 0, 0, 0, 0),
  (101, .goto 5, 3, 0, 0, 0, 0),
  (104, .iload 5, 2, 0, 0, 0, 0),
  (106, .istore 5, 2, 0, 0, 0, 0),
  (108, .iload 8, 2, 0, 0, 0, 0),
  (110, .iload 4, 2, 0, 0, 0, 0),
  (112, .if_icmp .le 8, 3, 0, 0, 0, 0),
  (115, .iload 8, 2, 0, 0, 0, 0),
  (117, .goto 5, 3, 0, 0, 0, 0),
  (120, .iload 4, 2, 0, 0, 0, 0),
  (122, .istore 4, 2, 0, 0, 0, 0),
  (124, .iinc 7 1, 3, 20, 1, 0, 0),
  (127, .goto (-62), 3, 0, 0, 0, 0),
  (130, .iinc 6 1, 3, 20, 1, 0, 0),
  (133, .goto (-80), 3, 0, 0, 0, 0),
  (136, .iload_n 3, 1, 0, 0, 0, 0),
  (137, .ifCond .ne 8, 3, 0, 0, 0, 0),
  (140, .iload 5, 2, 0, 0, 0, 0),
  (142, .goto 5, 3, 0, 0, 0, 0),
  (145, .iload 4, 2, 0, 0, 0, 0),
  (147, .ireturn, 1, 0, 0, 0, 0)]
/-- ThreeMagnetsModel.sure(III)I -/
def mz_r200 : mz_R := (11, yX11_sure, cX11_sure, 9, (some .int), false, 4, mz_k200)
def mz_k201 : mz_K := [
  (0, .iload_n 1, 1, 0, 0, 0, 0),
  (1, .iconst 0, 1, 20, 0, 0, 0),
  (2, .iconst 3, 1, 20, 3, 0, 0),
  (3, .invokestatic 50, 3, 2, 128, 0, 5126),
  (6, .ifCond .ne 9, 3, 0, 0, 0, 0),
  (9, .aload_n 0, 1, 0, 0, 0, 0),
  (10, .iconst 1, 1, 20, 1, 0, 0),
  (11, .invokevirtual 62, 3, 3, 127, 0, 5132),
  (14, .ireturn, 1, 0, 0, 0, 0),
  (15, .aload_n 0, 1, 0, 0, 0, 0),
  (16, .invokevirtual 220, 3, 3, 185, 0, 6112),
  (19, .ifCond .ne 9, 3, 0, 0, 0, 0),
  (22, .aload_n 0, 1, 0, 0, 0, 0),
  (23, .iconst 2, 1, 20, 2, 0, 0),
  (24, .invokevirtual 62, 3, 3, 127, 0, 5132),
  (27, .ireturn, 1, 0, 0, 0, 0),
  (28, .aload_n 0, 1, 0, 0, 0, 0),
  (29, .invokevirtual 208, 3, 3, 183, 0, 6116),
  (32, .aload_n 0, 1, 0, 0, 0, 0),
  (33, .invokevirtual 211, 3, 3, 184, 0, 6124),
  (36, .if_icmp .eq 9, 3, 0, 0, 0, 0),
  (39, .aload_n 0, 1, 0, 0, 0, 0),
  (40, .iconst 3, 1, 20, 3, 0, 0),
  (41, .invokevirtual 62, 3, 3, 127, 0, 5132),
  (44, .ireturn, 1, 0, 0, 0, 0),
  (45, .iconst 0, 1, 20, 0, 0, 0),
  (46, .istore_n 2, 1, 0, 0, 0, 0),
  (47, .iload_n 2, 1, 0, 0, 0, 0),
  (48, .bipush 10, 2, 20, 10, 0, 0),
  (50, .if_icmp .ge 23, 3, 0, 0, 0, 0),
  (53, .aload_n 0, 1, 0, 0, 0, 0),
  (54, .getfield 28, 3, 0, 11, 16, 5056),
  (57, .iload_n 2, 1, 0, 0, 0, 0),
  (58, .iconst (-1), 1, 21, 1, 0, 0),
  (59, .iastore, 1, 0, 0, 0, 0),
  (60, .aload_n 0, 1, 0, 0, 0, 0),
  (61, .getfield 31, 3, 0, 11, 17, 5057),
  (64, .iload_n 2, 1, 0, 0, 0, 0),
  (65, .iconst (-1), 1, 21, 1, 0, 0),
  (66, .iastore, 1, 0, 0, 0, 0),
  (67, .iinc 2 1, 3, 20, 1, 0, 0),
  (70, .goto (-23), 3, 0, 0, 0, 0),
  (73, .iconst 1, 1, 20, 1, 0, 0),
  (74, .istore_n 2, 1, 0, 0, 0, 0),
  (75, .iconst 0, 1, 20, 0, 0, 0),
  (76, .istore_n 3, 1, 0, 0, 0, 0),
  (77, .iload_n 3, 1, 0, 0, 0, 0),
  (78, .aload_n 0, 1, 0, 0, 0, 0),
  (79, .invokevirtual 208, 3, 3, 183, 0, 6116),
  (82, .if_icmp .ge 159, 3, 0, 0, 0, 0),
  (85, .iconst 0, 1, 20, 0, 0, 0),
  (86, .istore 4, 2, 0, 0, 0, 0),
  (88, .iload 4, 2, 0, 0, 0, 0),
  (90, .aload_n 0, 1, 0, 0, 0, 0),
  (91, .invokevirtual 208, 3, 3, 183, 0, 6116),
  (94, .if_icmp .ge 141, 3, 0, 0, 0, 0),
  (97, .iload_n 3, 1, 0, 0, 0, 0),
  (98, .istore 5, 2, 0, 0, 0, 0),
  (100, .iload 4, 2, 0, 0, 0, 0),
  (102, .istore 6, 2, 0, 0, 0, 0),
  (104, .iconst 0, 1, 20, 0, 0, 0),
  (105, .istore 7, 2, 0, 0, 0, 0),
  (107, .iload 7, 2, 0, 0, 0, 0),
  (109, .iload_n 1, 1, 0, 0, 0, 0),
  (110, .if_icmp .ge 28, 3, 0, 0, 0, 0),
  (113, .iload 5, 2, 0, 0, 0, 0),
  (115, .istore 8, 2, 0, 0, 0, 0),
  (117, .aload_n 0, 1, 0, 0, 0, 0),
  (118, .invokevirtual 208, 3, 3, 183, 0, 6116),
  (121, .iconst 1, 1, 20, 1, 0, 0),
  (122, .isub, 1, 0, 0, 0, 0),
  (123, .iload 6, 2, 0, 0, 0, 0),
  (125, .isub, 1, 0, 0, 0, 0),
  (126, .istore 5, 2, 0, 0, 0, 0),
  (128, .iload 8, 2, 0, 0, 0, 0),
  (130, .istore 6, 2, 0, 0, 0, 0),
  (132, .iinc 7 1, 3, 20, 1, 0, 0),
  (135, .goto (-28), 3, 0, 0, 0, 0),
  (138, .aload_n 0, 1, 0, 0, 0, 0),
  (139, .iload_n 3, 1, 0, 0, 0, 0),
  (140, .iload 4, 2, 0, 0, 0, 0),
  (142, .invokevirtual 214, 3, 3, 186, 0, 6104),
  (145, .istore 7, 2, 0, 0, 0, 0),
  (147, .aload_n 0, 1, 0, 0, 0, 0),
  (148, .iload 5, 2, 0, 0, 0, 0),
  (150, .iload 6, 2, 0, 0, 0, 0),
  (152, .invokevirtual 214, 3, 3, 186, 0, 6104),
  (155, .istore 8, 2, 0, 0, 0, 0),
  (157, .iload_n 2, 1, 0, 0, 0, 0),
  (158, .ifCond .eq 51, 3, 0, 0, 0, 0),
  (161, .aload_n 0, 1, 0, 0, 0, 0),
  (162, .getfield 28, 3, 0, 11, 16, 5056),
  (165, .iload 7, 2, 0, 0, 0, 0),
  (167, .iaload, 1, 0, 0, 0, 0),
  (168, .ifCond .lt 15, 3, 0, 0, 0, 0),
  (171, .aload_n 0, 1, 0, 0, 0, 0),
  (172, .getfield 28, 3, 0, 11, 16, 5056),
  (175, .iload 7, 2, 0, 0, 0, 0),
  (177, .iaload, 1, 0, 0, 0, 0),
  (178, .iload 8, 2, 0, 0, 0, 0),
  (180, .if_icmp .ne 29, 3, 0, 0, 0, 0),
  (183, .aload_n 0, 1, 0, 0, 0, 0),
  (184, .getfield 31, 3, 0, 11, 17, 5057),
  (187, .iload 8, 2, 0, 0, 0, 0),
  (189, .iaload, 1, 0, 0, 0, 0),
  (190, .ifCond .lt 15, 3, 0, 0, 0, 0),
  (193, .aload_n 0, 1, 0, 0, 0, 0),
  (194, .getfield 31, 3, 0, 11, 17, 5057),
  (197, .iload 8, 2, 0, 0, 0, 0),
  (199, .iaload, 1, 0, 0, 0, 0),
  (200, .iload 7, 2, 0, 0, 0, 0),
  (202, .if_icmp .ne 7, 3, 0, 0, 0, 0),
  (205, .iconst 1, 1, 20, 1, 0, 0),
  (206, .goto 4, 3, 0, 0, 0, 0),
  (209, .iconst 0, 1, 20, 0, 0, 0),
  (210, .istore_n 2, 1, 0, 0, 0, 0),
  (211, .aload_n 0, 1, 0, 0, 0, 0),
  (212, .getfield 28, 3, 0, 11, 16, 5056),
  (215, .iload 7, 2, 0, 0, 0, 0),
  (217, .iload 8, 2, 0, 0, 0, 0),
  (219, .iastore, 1, 0, 0, 0, 0),
  (220, .aload_n 0, 1, 0, 0, 0, 0),
  (221, .getfield 31, 3, 0, 11, 17, 5057),
  (224, .iload 8, 2, 0, 0, 0, 0),
  (226, .iload 7, 2, 0, 0, 0, 0),
  (228, .iastore, 1, 0, 0, 0, 0),
  (229, .iinc 4 1, 3, 20, 1, 0, 0),
  (232, .goto (-144), 3, 0, 0, 0, 0),
  (235, .iinc 3 1, 3, 20, 1, 0, 0),
  (238, .goto (-161), 3, 0, 0, 0, 0),
  (241, .iload_n 2, 1, 0, 0, 0, 0),
  (242, .ifCond .eq 7, 3, 0, 0, 0, 0),
  (245, .iconst 1, 1, 20, 1, 0, 0),
  (246, .goto 4, 3, 0, 0, 0, 0),
  (249, .iconst 0, 1, 20, 0, 0, 0),
  (250, .ireturn, 1, 0, 0, 0, 0)]
/-- ThreeMagnetsModel.turned(I)I -/
def mz_r201 : mz_R := (11, yX11_turned, cX11_turned, 9, (some .int), false, 2, mz_k201)
def mz_k202 : mz_K := [
  (0, .iload_n 1, 1, 0, 0, 0, 0),
  (1, .iconst 0, 1, 20, 0, 0, 0),
  (2, .iconst 1, 1, 20, 1, 0, 0),
  (3, .invokestatic 50, 3, 2, 128, 0, 5126),
  (6, .ifCond .ne 9, 3, 0, 0, 0, 0),
  (9, .aload_n 0, 1, 0, 0, 0, 0),
  (10, .iconst 1, 1, 20, 1, 0, 0),
  (11, .invokevirtual 62, 3, 3, 127, 0, 5132),
  (14, .ireturn, 1, 0, 0, 0, 0),
  (15, .aload_n 0, 1, 0, 0, 0, 0),
  (16, .invokevirtual 220, 3, 3, 185, 0, 6112),
  (19, .ifCond .eq 12, 3, 0, 0, 0, 0),
  (22, .aload_n 0, 1, 0, 0, 0, 0),
  (23, .getfield 7, 3, 0, 11, 0, 5040),
  (26, .iconst 0, 1, 20, 0, 0, 0),
  (27, .iaload, 1, 0, 0, 0, 0),
  (28, .ifCond .ne 9, 3, 0, 0, 0, 0),
  (31, .aload_n 0, 1, 0, 0, 0, 0),
  (32, .iconst 2, 1, 20, 2, 0, 0),
  (33, .invokevirtual 62, 3, 3, 127, 0, 5132),
  (36, .ireturn, 1, 0, 0, 0, 0),
  (37, .iconst 0, 1, 20, 0, 0, 0),
  (38, .istore_n 2, 1, 0, 0, 0, 0),
  (39, .bipush 99, 2, 20, 99, 0, 0),
  (41, .istore_n 3, 1, 0, 0, 0, 0),
  (42, .iconst 0, 1, 20, 0, 0, 0),
  (43, .istore 4, 2, 0, 0, 0, 0),
  (45, .iload 4, 2, 0, 0, 0, 0),
  (47, .aload_n 0, 1, 0, 0, 0, 0),
  (48, .getfield 7, 3, 0, 11, 0, 5040),
  (51, .iconst 0, 1, 20, 0, 0, 0),
  (52, .iaload, 1, 0, 0, 0, 0),
  (53, .if_icmp .ge 43, 3, 0, 0, 0, 0),
  (56, .aload_n 0, 1, 0, 0, 0, 0),
  (57, .iload 4, 2, 0, 0, 0, 0),
  (59, .invokevirtual 232, 3, 3, 193, 0, 6135),
  (62, .istore 5, 2, 0, 0, 0, 0),
  (64, .iload 5, 2, 0, 0, 0, 0),
  (66, .iload_n 2, 1, 0, 0, 0, 0),
  (67, .if_icmp .le 8, 3, 0, 0, 0, 0),
  (70, .iload 5, 2, 0, 0, 0, 0),
  (72, .goto 4, 3, 0, 0, 0, 0),
  (75, .iload_n 2, 1, 0, 0, 0, 0),
  (76, .istore_n 2, 1, 0, 0, 0, 0),
  (77, .iload 5, 2, 0, 0, 0, 0),
  (79, .iload_n 3, 1, 0, 0, 0, 0),
  (80, .if_icmp .ge 8, 3, 0, 0, 0, 0),
  (83, .iload 5, 2, 0, 0, 0, 0),
  (85, .goto 4, 3, 0, 0, 0, 0),
  (88, .iload_n 3, 1, 0, 0, 0, 0),
  (89, .istore_n 3, 1, 0, 0, 0, 0),
  (90, .iinc 4 1, 3, 20, 1, 0, 0),
  (93, .goto (-48), 3, 0, 0, 0, 0),
  (96, .iload_n 2, 1, 0, 0, 0, 0),
  (97, .iload_n 3, 1, 0, 0, 0, 0),
  (98, .isub, 1, 0, 0, 0, 0),
  (99, .istore 4, 2, 0, 0, 0, 0),
  (101, .aload_n 0, 1, 0, 0, 0, 0),
  (102, .invokevirtual 208, 3, 3, 183, 0, 6116),
  (105, .aload_n 0, 1, 0, 0, 0, 0),
  (106, .invokevirtual 211, 3, 3, 184, 0, 6124),
  (109, .imul, 1, 0, 0, 0, 0),
  (110, .istore 5, 2, 0, 0, 0, 0),
  (112, .iload 5, 2, 0, 0, 0, 0),
  (114, .ifCond .eq 21, 3, 0, 0, 0, 0),
  (117, .iload 4, 2, 0, 0, 0, 0),
  (119, .iload 5, 2, 0, 0, 0, 0),
  (121, .irem, 1, 0, 0, 0, 0),
  (122, .istore 6, 2, 0, 0, 0, 0),
  (124, .iload 5, 2, 0, 0, 0, 0),
  (126, .istore 4, 2, 0, 0, 0, 0),
  (128, .iload 6, 2, 0, 0, 0, 0),
  (130, .istore 5, 2, 0, 0, 0, 0),
  (132, .goto (-20), 3, 0, 0, 0, 0),
  (135, .iload_n 1, 1, 0, 0, 0, 0),
  (136, .ifCond .ne 9, 3, 0, 0, 0, 0),
  (139, .iload_n 2, 1, 0, 0, 0, 0),
  (140, .iload_n 3, 1, 0, 0, 0, 0),
  (141, .isub, 1, 0, 0, 0, 0),
  (142, .goto 12, 3, 0, 0, 0, 0),
  (145, .aload_n 0, 1, 0, 0, 0, 0),
  (146, .invokevirtual 208, 3, 3, 183, 0, 6116),
  (149, .aload_n 0, 1, 0, 0, 0, 0),
  (150, .invokevirtual 211, 3, 3, 184, 0, 6124),
  (153, .imul, 1, 0, 0, 0, 0),
  (154, .iload 4, 2, 0, 0, 0, 0),
  (156, .idiv, 1, 0, 0, 0, 0),
  (157, .ireturn, 1, 0, 0, 0, 0)]
/-- ThreeMagnetsModel.fair(I)I -/
def mz_r202 : mz_R := (11, yX11_fair, cX11_fair, 7, (some .int), false, 2, mz_k202)
def mz_k203 : mz_K := [
  (0, .aload_n 0, 1, 0, 0, 0, 0),
  (1, .iconst 2, 1, 20, 2, 0, 0),
  (2, .invokevirtual 112, 3, 3, 169, 0, 5172),
  (5, .ifCond .ne 5, 3, 0, 0, 0, 0),
  (8, .iconst 0, 1, 20, 0, 0, 0),
  (9, .ireturn, 1, 0, 0, 0, 0),
  (10, .aload_n 0, 1, 0, 0, 0, 0),
  (11, .getfield 22, 3, 0, 11, 14, 5054),
  (14, .bipush 99, 2, 20, 99, 0, 0),
  (16, .aload_n 0, 1, 0, 0, 0, 0),
  (17, .iload_n 1, 1, 0, 0, 0, 0),
  (18, .iload_n 2, 1, 0, 0, 0, 0),
  (19, .invokevirtual 214, 3, 3, 186, 0, 6104),
  (22, .iastore, 1, 0, 0, 0, 0),
  (23, .aload_n 0, 1, 0, 0, 0, 0),
  (24, .getfield 22, 3, 0, 11, 14, 5054),
  (27, .bipush 108, 2, 20, 108, 0, 0),
  (29, .aload_n 0, 1, 0, 0, 0, 0),
  (30, .getfield 7, 3, 0, 11, 0, 5040),
  (33, .bipush 110, 2, 20, 110, 0, 0),
  (35, .bipush 6, 2, 20, 6, 0, 0),
  (37, .iload_n 2, 1, 0, 0, 0, 0),
  (38, .imul, 1, 0, 0, 0, 0),
  (39, .iadd, 1, 0, 0, 0, 0),
  (40, .iload_n 1, 1, 0, 0, 0, 0),
  (41, .iadd, 1, 0, 0, 0, 0),
  (42, .iaload, 1, 0, 0, 0, 0),
  (43, .iastore, 1, 0, 0, 0, 0),
  (44, .aload_n 0, 1, 0, 0, 0, 0),
  (45, .getfield 22, 3, 0, 11, 14, 5054),
  (48, .bipush 120, 2, 20, 120, 0, 0),
  (50, .aload_n 0, 1, 0, 0, 0, 0),
  (51, .getfield 7, 3, 0, 11, 0, 5040),
  (54, .bipush 62, 2, 20, 62, 0, 0),
  (56, .iaload, 1, 0, 0, 0, 0),
  (57, .iload_n 1, 1, 0, 0, 0, 0),
  (58, .aload_n 0, 1, 0, 0, 0, 0),
  (59, .getfield 7, 3, 0, 11, 0, 5040),
  (62, .bipush 64, 2, 20, 64, 0, 0),
  (64, .iaload, 1, 0, 0, 0, 0),
  (65, .imul, 1, 0, 0, 0, 0),
  (66, .iadd, 1, 0, 0, 0, 0),
  (67, .iastore, 1, 0, 0, 0, 0),
  (68, .aload_n 0, 1, 0, 0, 0, 0),
  (69, .getfield 22, 3, 0, 11, 14, 5054),
  (72, .bipush 121, 2, 20, 121, 0, 0),
  (74, .aload_n 0, 1, 0, 0, 0, 0),
  (75, .getfield 7, 3, 0, 11, 0, 5040),
  (78, .bipush 63, 2, 20, 63, 0, 0),
  (80, .iaload, 1, 0, 0, 0, 0),
  (81, .iload_n 2, 1, 0, 0, 0, 0),
  (82, .aload_n 0, 1, 0, 0, 0, 0),
  (83, .getfield 7, 3, 0, 11, 0, 5040),
  (86, .bipush 64, 2, 20, 64, 0, 0),
  (88, .iaload, 1, 0, 0, 0, 0),
  (89, .imul, 1, 0, 0, 0, 0),
  (90, .iadd, 1, 0, 0, 0, 0),
  (91, .iastore, 1, 0, 0, 0, 0),
  (92, .aload_n 0, 1, 0, 0, 0, 0),
  (93, .getfield 22, 3, 0, 11, 14, 5054),
  (96, .bipush 101, 2, 20, 101, 0, 0),
  (98, .aload_n 0, 1, 0, 0, 0, 0),
  (99, .iload_n 1, 1, 0, 0, 0, 0),
  (100, .iload_n 2, 1, 0, 0, 0, 0),
  (101, .invokevirtual 238, 3, 3, 196, 0, 6147),
  (104, .ifCond .eq 7, 3, 0, 0, 0, 0),
  (107, .iconst 1, 1, 20, 1, 0, 0),
  (108, .goto 4, 3, 0, 0, 0, 0),
  (111, .iconst 0, 1, 20, 0, 0, 0),
  (112, .iastore, 1, 0, 0, 0, 0),
  (113, .aload_n 0, 1, 0, 0, 0, 0),
  (114, .iconst 2, 1, 20, 2, 0, 0),
  (115, .invokevirtual 115, 3, 3, 173, 0, 5176),
  (118, .ireturn, 1, 0, 0, 0, 0)]
/-- ThreeMagnetsModel.wantOf(II)I -/
def mz_r203 : mz_R := (11, yX11_wantOf, cX11_wantOf, 3, (some .int), false, 3, mz_k203)
def mz_k204 : mz_K := [
  (0, .iload_n 1, 1, 0, 0, 0, 0),
  (1, .iconst 0, 1, 20, 0, 0, 0),
  (2, .iconst 1, 1, 20, 1, 0, 0),
  (3, .invokestatic 50, 3, 2, 128, 0, 5126),
  (6, .ifCond .ne 9, 3, 0, 0, 0, 0),
  (9, .aload_n 0, 1, 0, 0, 0, 0),
  (10, .iconst 1, 1, 20, 1, 0, 0),
  (11, .invokevirtual 62, 3, 3, 127, 0, 5132),
  (14, .ireturn, 1, 0, 0, 0, 0),
  (15, .aload_n 0, 1, 0, 0, 0, 0),
  (16, .invokevirtual 220, 3, 3, 185, 0, 6112),
  (19, .ifCond .ne 9, 3, 0, 0, 0, 0),
  (22, .aload_n 0, 1, 0, 0, 0, 0),
  (23, .iconst 2, 1, 20, 2, 0, 0),
  (24, .invokevirtual 62, 3, 3, 127, 0, 5132),
  (27, .ireturn, 1, 0, 0, 0, 0),
  (28, .iconst 0, 1, 20, 0, 0, 0),
  (29, .istore_n 2, 1, 0, 0, 0, 0),
  (30, .aload_n 0, 1, 0, 0, 0, 0),
  (31, .iconst 0, 1, 20, 0, 0, 0),
  (32, .iconst 0, 1, 20, 0, 0, 0),
  (33, .invokevirtual 244, 3, 3, 203, 0, 6179),
  (36, .istore_n 3, 1, 0, 0, 0, 0),
  (37, .iconst 1, 1, 20, 1, 0, 0),
  (38, .istore 4, 2, 0, 0, 0, 0),
  (40, .iload 4, 2, 0, 0, 0, 0),
  (42, .aload_n 0, 1, 0, 0, 0, 0),
  (43, .invokevirtual 208, 3, 3, 183, 0, 6116),
  (46, .aload_n 0, 1, 0, 0, 0, 0),
  (47, .invokevirtual 211, 3, 3, 184, 0, 6124),
  (50, .imul, 1, 0, 0, 0, 0),
  (51, .if_icmp .ge 71, 3, 0, 0, 0, 0),
  (54, .aload_n 0, 1, 0, 0, 0, 0),
  (55, .iload 4, 2, 0, 0, 0, 0),
  (57, .aload_n 0, 1, 0, 0, 0, 0),
  (58, .invokevirtual 208, 3, 3, 183, 0, 6116),
  (61, .irem, 1, 0, 0, 0, 0),
  (62, .iload 4, 2, 0, 0, 0, 0),
  (64, .aload_n 0, 1, 0, 0, 0, 0),
  (65, .invokevirtual 208, 3, 3, 183, 0, 6116),
  (68, .idiv, 1, 0, 0, 0, 0),
  (69, .invokevirtual 244, 3, 3, 203, 0, 6179),
  (72, .istore 5, 2, 0, 0, 0, 0),
  (74, .iload 5, 2, 0, 0, 0, 0),
  (76, .iload_n 3, 1, 0, 0, 0, 0),
  (77, .if_icmp .le 24, 3, 0, 0, 0, 0),
  (80, .bipush 10, 2, 20, 10, 0, 0),
  (82, .iload 4, 2, 0, 0, 0, 0),
  (84, .aload_n 0, 1, 0, 0, 0, 0),
  (85, .invokevirtual 208, 3, 3, 183, 0, 6116),
  (88, .irem, 1, 0, 0, 0, 0),
  (89, .imul, 1, 0, 0, 0, 0),
  (90, .iload 4, 2, 0, 0, 0, 0),
  (92, .aload_n 0, 1, 0, 0, 0, 0),
  (93, .invokevirtual 208, 3, 3, 183, 0, 6116),
  (96, .idiv, 1, 0, 0, 0, 0),
  (97, .iadd, 1, 0, 0, 0, 0),
  (98, .goto 4, 3, 0, 0, 0, 0),
  (101, .iload_n 2, 1, 0, 0, 0, 0),
  (102, .istore_n 2, 1, 0, 0, 0, 0),
  (103, .iload 5, 2, 0, 0, 0, 0),
  (105, .iload_n 3, 1, 0, 0, 0, 0),
  (106, .if_icmp .le 8, 3, 0, 0, 0, 0),
  (109, .iload 5, 2, 0, 0, 0, 0),
  (111, .goto 4, 3, 0, 0, 0, 0),
  (114, .iload_n 3, 1, 0, 0, 0, 0),
  (115, .istore_n 3, 1, 0, 0, 0, 0),
  (116, .iinc 4 1, 3, 20, 1, 0, 0),
  (119, .goto (-79), 3, 0, 0, 0, 0),
  (122, .iload_n 1, 1, 0, 0, 0, 0),
  (123, .ifCond .ne 7, 3, 0, 0, 0, 0),
  (126, .iload_n 2, 1, 0, 0, 0, 0),
  (127, .goto 4, 3, 0, 0, 0, 0),
  (130, .iload_n 3, 1, 0, 0, 0, 0),
  (131, .ireturn, 1, 0, 0, 0, 0)]
/-- ThreeMagnetsModel.want(I)I -/
def mz_r204 : mz_R := (11, yX11_want, cX11_want, 6, (some .int), false, 2, mz_k204)
def mz_k205 : mz_K := [
  (0, .aload_n 0, 1, 0, 0, 0, 0),
  (1, .getfield 7, 3, 0, 11, 0, 5040),
  (4, .iconst 3, 1, 20, 3, 0, 0),
  (5, .aload_n 0, 1, 0, 0, 0, 0),
  (6, .getfield 7, 3, 0, 11, 0, 5040),
  (9, .iconst 3, 1, 20, 3, 0, 0),
  (10, .iaload, 1, 0, 0, 0, 0),
  (11, .ldc 247, 2, 20, 1103515245, 0, 6191),
  (13, .imul, 1, 0, 0, 0, 0),
  (14, .sipush 12345, 3, 20, 12345, 0, 0),
  (17, .iadd, 1, 0, 0, 0, 0),
  (18, .iastore, 1, 0, 0, 0, 0),
  (19, .aload_n 0, 1, 0, 0, 0, 0),
  (20, .getfield 7, 3, 0, 11, 0, 5040),
  (23, .iconst 3, 1, 20, 3, 0, 0),
  (24, .iaload, 1, 0, 0, 0, 0),
  (25, .bipush 8, 2, 20, 8, 0, 0),
  (27, .iushr, 1, 0, 0, 0, 0),
  (28, .ireturn, 1, 0, 0, 0, 0)]
/-- ThreeMagnetsModel.draw()I -/
def mz_r205 : mz_R := (11, yX11_draw, cX11_draw, 1, (some .int), false, 1, mz_k205)
def mz_k206 : mz_K := [
  (0, .iload_n 1, 1, 0, 0, 0, 0),
  (1, .iload_n 2, 1, 0, 0, 0, 0),
  (2, .invokestatic 54, 3, 2, 131, 0, 5129),
  (5, .ifCond .eq 24, 3, 0, 0, 0, 0),
  (8, .iload_n 3, 1, 0, 0, 0, 0),
  (9, .iconst 0, 1, 20, 0, 0, 0),
  (10, .bipush 50, 2, 20, 50, 0, 0),
  (12, .invokestatic 50, 3, 2, 128, 0, 5126),
  (15, .ifCond .eq 14, 3, 0, 0, 0, 0),
  (18, .iload 4, 2, 0, 0, 0, 0),
  (20, .iconst 1, 1, 20, 1, 0, 0),
  (21, .bipush 40, 2, 20, 40, 0, 0),
  (23, .invokestatic 50, 3, 2, 128, 0, 5126),
  (26, .ifCond .ne 9, 3, 0, 0, 0, 0),
  (29, .aload_n 0, 1, 0, 0, 0, 0),
  (30, .iconst 1, 1, 20, 1, 0, 0),
  (31, .invokevirtual 62, 3, 3, 127, 0, 5132),
  (34, .ireturn, 1, 0, 0, 0, 0),
  (35, .iconst 0, 1, 20, 0, 0, 0),
  (36, .istore 5, 2, 0, 0, 0, 0),
  (38, .iload 5, 2, 0, 0, 0, 0),
  (40, .bipush 10, 2, 20, 10, 0, 0),
  (42, .if_icmp .ge 21, 3, 0, 0, 0, 0),
  (45, .aload_n 0, 1, 0, 0, 0, 0),
  (46, .getfield 7, 3, 0, 11, 0, 5040),
  (49, .sipush 150, 3, 20, 150, 0, 0),
  (52, .iload 5, 2, 0, 0, 0, 0),
  (54, .iadd, 1, 0, 0, 0, 0),
  (55, .iconst 0, 1, 20, 0, 0, 0),
  (56, .iastore, 1, 0, 0, 0, 0),
  (57, .iinc 5 1, 3, 20, 1, 0, 0),
  (60, .goto (-22), 3, 0, 0, 0, 0),
  (63, .aload_n 0, 1, 0, 0, 0, 0),
  (64, .getfield 7, 3, 0, 11, 0, 5040),
  (67, .sipush 160, 3, 20, 160, 0, 0),
  (70, .iconst 1, 1, 20, 1, 0, 0),
  (71, .iastore, 1, 0, 0, 0, 0),
  (72, .iconst 0, 1, 20, 0, 0, 0),
  (73, .istore 5, 2, 0, 0, 0, 0),
  (75, .iconst 0, 1, 20, 0, 0, 0),
  (76, .istore 6, 2, 0, 0, 0, 0),
  (78, .iload 6, 2, 0, 0, 0, 0),
  (80, .iload 4, 2, 0, 0, 0, 0),
  (82, .if_icmp .ge 101, 3, 0, 0, 0, 0),
  (85, .iload_n 1, 1, 0, 0, 0, 0),
  (86, .aload_n 0, 1, 0, 0, 0, 0),
  (87, .invokevirtual 248, 3, 3, 205, 0, 6187),
  (90, .iconst 2, 1, 20, 2, 0, 0),
  (91, .iload_n 3, 1, 0, 0, 0, 0),
  (92, .imul, 1, 0, 0, 0, 0),
  (93, .iconst 1, 1, 20, 1, 0, 0),
  (94, .iadd, 1, 0, 0, 0, 0),
  (95, .irem, 1, 0, 0, 0, 0),
  (96, .iadd, 1, 0, 0, 0, 0),
  (97, .iload_n 3, 1, 0, 0, 0, 0),
  (98, .isub, 1, 0, 0, 0, 0),
  (99, .istore 7, 2, 0, 0, 0, 0),
  (101, .iload_n 2, 1, 0, 0, 0, 0),
  (102, .aload_n 0, 1, 0, 0, 0, 0),
  (103, .invokevirtual 248, 3, 3, 205, 0, 6187),
  (106, .iconst 2, 1, 20, 2, 0, 0),
  (107, .iload_n 3, 1, 0, 0, 0, 0),
  (108, .imul, 1, 0, 0, 0, 0),
  (109, .iconst 1, 1, 20, 1, 0, 0),
  (110, .iadd, 1, 0, 0, 0, 0),
  (111, .irem, 1, 0, 0, 0, 0),
  (112, .iadd, 1, 0, 0, 0, 0),
  (113, .iload_n 3, 1, 0, 0, 0, 0),
  (114, .isub, 1, 0, 0, 0, 0),
  (115, .istore 8, 2, 0, 0, 0, 0),
  (117, .aload_n 0, 1, 0, 0, 0, 0),
  (118, .iload 7, 2, 0, 0, 0, 0),
  (120, .bipush (-100), 2, 21, 100, 0, 0),
  (122, .bipush 100, 2, 20, 100, 0, 0),
  (124, .invokestatic 118, 3, 2, 130, 0, 5183),
  (127, .iload 8, 2, 0, 0, 0, 0),
  (129, .bipush (-100), 2, 21, 100, 0, 0),
  (131, .bipush 100, 2, 20, 100, 0, 0),
  (133, .invokestatic 118, 3, 2, 130, 0, 5183),
  (136, .aload_n 0, 1, 0, 0, 0, 0),
  (137, .invokevirtual 202, 3, 3, 156, 0, 6052),
  (140, .invokevirtual 205, 3, 3, 155, 0, 6084),
  (143, .istore 9, 2, 0, 0, 0, 0),
  (145, .aload_n 0, 1, 0, 0, 0, 0),
  (146, .getfield 7, 3, 0, 11, 0, 5040),
  (149, .sipush 150, 3, 20, 150, 0, 0),
  (152, .iload 9, 2, 0, 0, 0, 0),
  (154, .iadd, 1, 0, 0, 0, 0),
  (155, .dup2, 1, 0, 0, 0, 0),
  (156, .iaload, 1, 0, 0, 0, 0),
  (157, .iconst 1, 1, 20, 1, 0, 0),
  (158, .iadd, 1, 0, 0, 0, 0),
  (159, .iastore, 1, 0, 0, 0, 0),
  (160, .iload 5, 2, 0, 0, 0, 0),
  (162, .iload 9, 2, 0, 0, 0, 0),
  (164, .bipush 9, 2, 20, 9, 0, 0),
  (166, .if_icmp .ne 7, 3, 0, 0, 0, 0),
  (169, .iconst 0, 1, 20, 0, 0, 0),
  (170, .goto 4, 3, 0, 0, 0, 0),
  (173, .iconst 1, 1, 20, 1, 0, 0),
  (174, .iadd, 1, 0, 0, 0, 0),
  (175, .istore 5, 2, 0, 0, 0, 0),
  (177, .iinc 6 1, 3, 20, 1, 0, 0),
  (180, .goto (-102), 3, 0, 0, 0, 0),
  (183, .iload 5, 2, 0, 0, 0, 0),
  (185, .ireturn, 1, 0, 0, 0, 0)]
/-- ThreeMagnetsModel.throwsOf(IIII)I -/
def mz_r206 : mz_R := (11, yX11_throwsOf, cX11_throwsOf, 10, (some .int), false, 5, mz_k206)
def mz_k207 : mz_K := [
  (0, .iload_n 1, 1, 0, 0, 0, 0),
  (1, .invokestatic 229, 3, 2, 188, 0, 6132),
  (4, .ifCond .ne 9, 3, 0, 0, 0, 0),
  (7, .aload_n 0, 1, 0, 0, 0, 0),
  (8, .iconst 1, 1, 20, 1, 0, 0),
  (9, .invokevirtual 62, 3, 3, 127, 0, 5132),
  (12, .ireturn, 1, 0, 0, 0, 0),
  (13, .aload_n 0, 1, 0, 0, 0, 0),
  (14, .getfield 7, 3, 0, 11, 0, 5040),
  (17, .sipush 160, 3, 20, 160, 0, 0),
  (20, .iaload, 1, 0, 0, 0, 0),
  (21, .ifCond .ne 11, 3, 0, 0, 0, 0),
  (24, .aload_n 0, 1, 0, 0, 0, 0),
  (25, .iconst 2, 1, 20, 2, 0, 0),
  (26, .invokevirtual 62, 3, 3, 127, 0, 5132),
  (29, .goto 13, 3, 0, 0, 0, 0),
  (32, .aload_n 0, 1, 0, 0, 0, 0),
  (33, .getfield 7, 3, 0, 11, 0, 5040),
  (36, .sipush 150, 3, 20, 150, 0, 0),
  (39, .iload_n 1, 1, 0, 0, 0, 0),
  (40, .iadd, 1, 0, 0, 0, 0),
  (41, .iaload, 1, 0, 0, 0, 0),
  (42, .ireturn, 1, 0, 0, 0, 0)]
/-- ThreeMagnetsModel.thrownAt(I)I -/
def mz_r207 : mz_R := (11, yX11_thrownAt, cX11_thrownAt, 2, (some .int), false, 2, mz_k207)
def mz_k208 : mz_K := [
  (0, .aload_n 0, 1, 0, 0, 0, 0),
  (1, .getfield 7, 3, 0, 11, 0, 5040),
  (4, .iconst 3, 1, 20, 3, 0, 0),
  (5, .iaload, 1, 0, 0, 0, 0),
  (6, .istore_n 2, 1, 0, 0, 0, 0),
  (7, .aload_n 0, 1, 0, 0, 0, 0),
  (8, .getfield 7, 3, 0, 11, 0, 5040),
  (11, .iconst 3, 1, 20, 3, 0, 0),
  (12, .iload_n 1, 1, 0, 0, 0, 0),
  (13, .iastore, 1, 0, 0, 0, 0),
  (14, .iload_n 2, 1, 0, 0, 0, 0),
  (15, .ireturn, 1, 0, 0, 0, 0)]
/-- ThreeMagnetsModel.seed(I)I -/
def mz_r208 : mz_R := (11, yX11_seed, cX11_seed, 3, (some .int), false, 2, mz_k208)
def mz_k209 : mz_K := [
  (0, .aload_n 0, 1, 0, 0, 0, 0),
  (1, .getfield 251, 3, 0, 11, 19, 5059),
  (4, .bipush 30, 2, 20, 30, 0, 0),
  (6, .if_icmp .ge 23, 3, 0, 0, 0, 0),
  (9, .aload_n 0, 1, 0, 0, 0, 0),
  (10, .getfield 34, 3, 0, 11, 18, 5058),
  (13, .aload_n 0, 1, 0, 0, 0, 0),
  (14, .getfield 251, 3, 0, 11, 19, 5059),
  (17, .iload_n 1, 1, 0, 0, 0, 0),
  (18, .iastore, 1, 0, 0, 0, 0),
  (19, .aload_n 0, 1, 0, 0, 0, 0),
  (20, .dup, 1, 0, 0, 0, 0),
  (21, .getfield 251, 3, 0, 11, 19, 5059),
  (24, .iconst 1, 1, 20, 1, 0, 0),
  (25, .iadd, 1, 0, 0, 0, 0),
  (26, .putfield 251, 3, 0, 11, 19, 5059),
  (29, .return_, 1, 0, 0, 0, 0)]
/-- ThreeMagnetsModel.begins(I)V -/
def mz_r209 : mz_R := (11, yX11_begins, cX11_begins, 2, none, false, 2, mz_k209)
def mz_k210 : mz_K := [
  (0, .iload_n 0, 1, 0, 0, 0, 0),
  (1, .iconst 4, 1, 20, 4, 0, 0),
  (2, .if_icmp .ne 7, 3, 0, 0, 0, 0),
  (5, .iconst 1, 1, 20, 1, 0, 0),
  (6, .goto 23, 3, 0, 0, 0, 0),
  (9, .iload_n 0, 1, 0, 0, 0, 0),
  (10, .iconst 5, 1, 20, 5, 0, 0),
  (11, .if_icmp .ne 7, 3, 0, 0, 0, 0),
  (14, .iconst 3, 1, 20, 3, 0, 0),
  (15, .goto 14, 3, 0, 0, 0, 0),
  (18, .iload_n 0, 1, 0, 0, 0, 0),
  (19, .bipush 6, 2, 20, 6, 0, 0),
  (21, .if_icmp .ne 7, 3, 0, 0, 0, 0),
  (24, .iconst 2, 1, 20, 2, 0, 0),
  (25, .goto 4, 3, 0, 0, 0, 0),
  (28, .iconst 0, 1, 20, 0, 0, 0),
  (29, .ireturn, 1, 0, 0, 0, 0)]
/-- ThreeMagnetsModel.above(I)I -/
def mz_r210 : mz_R := (11, yX11_above, cX11_above, 1, (some .int), true, 1, mz_k210)
def mz_k211 : mz_K := [
  (0, .aload_n 0, 1, 0, 0, 0, 0),
  (1, .aload_n 0, 1, 0, 0, 0, 0),
  (2, .getfield 254, 3, 0, 11, 20, 5060),
  (5, .iconst 0, 1, 20, 0, 0, 0),
  (6, .invokevirtual 74, 3, 3, 133, 0, 5149),
  (9, .ireturn, 1, 0, 0, 0, 0)]
/-- ThreeMagnetsModel.kindNow()I -/
def mz_r211 : mz_R := (11, yX11_kindNow, cX11_kindNow, 1, (some .int), false, 1, mz_k211)
def mz_k212 : mz_K := [
  (0, .aload_n 0, 1, 0, 0, 0, 0),
  (1, .aload_n 0, 1, 0, 0, 0, 0),
  (2, .getfield 254, 3, 0, 11, 20, 5060),
  (5, .iconst 3, 1, 20, 3, 0, 0),
  (6, .invokevirtual 74, 3, 3, 133, 0, 5149),
  (9, .ireturn, 1, 0, 0, 0, 0)]
/-- ThreeMagnetsModel.strengthNow()I -/
def mz_r212 : mz_R := (11, yX11_strengthNow, cX11_strengthNow, 1, (some .int), false, 1, mz_k212)
def mz_k213 : mz_K := [
  (0, .iload_n 1, 1, 0, 0, 0, 0),
  (1, .tableswitch 100 0 6 #[43, 56, 100, 100, 74, 100, 92], 43, 0, 0, 0, 0),
  (44, .aload_n 0, 1, 0, 0, 0, 0),
  (45, .bipush 10, 2, 20, 10, 0, 0),
  (47, .invokevirtual 257, 3, 3, 209, 0, 6212),
  (50, .iload_n 2, 1, 0, 0, 0, 0),
  (51, .aload_n 0, 1, 0, 0, 0, 0),
  (52, .invokevirtual 260, 3, 3, 212, 0, 6216),
  (55, .iadd, 1, 0, 0, 0, 0),
  (56, .ireturn, 1, 0, 0, 0, 0),
  (57, .aload_n 0, 1, 0, 0, 0, 0),
  (58, .bipush 20, 2, 20, 20, 0, 0),
  (60, .invokevirtual 257, 3, 3, 209, 0, 6212),
  (63, .aload_n 0, 1, 0, 0, 0, 0),
  (64, .iconst 1, 1, 20, 1, 0, 0),
  (65, .invokestatic 263, 3, 2, 210, 0, 6220),
  (68, .iload_n 2, 1, 0, 0, 0, 0),
  (69, .invokevirtual 266, 3, 3, 213, 0, 6208),
  (72, .iconst 1, 1, 20, 1, 0, 0),
  (73, .isub, 1, 0, 0, 0, 0),
  (74, .ireturn, 1, 0, 0, 0, 0),
  (75, .aload_n 0, 1, 0, 0, 0, 0),
  (76, .bipush 50, 2, 20, 50, 0, 0),
  (78, .invokevirtual 257, 3, 3, 209, 0, 6212),
  (81, .aload_n 0, 1, 0, 0, 0, 0),
  (82, .iconst 4, 1, 20, 4, 0, 0),
  (83, .invokestatic 263, 3, 2, 210, 0, 6220),
  (86, .iload_n 2, 1, 0, 0, 0, 0),
  (87, .iconst 2, 1, 20, 2, 0, 0),
  (88, .idiv, 1, 0, 0, 0, 0),
  (89, .invokevirtual 266, 3, 3, 213, 0, 6208),
  (92, .ireturn, 1, 0, 0, 0, 0),
  (93, .aload_n 0, 1, 0, 0, 0, 0),
  (94, .bipush 71, 2, 20, 71, 0, 0),
  (96, .invokevirtual 257, 3, 3, 209, 0, 6212),
  (99, .iconst 5, 1, 20, 5, 0, 0),
  (100, .ireturn, 1, 0, 0, 0, 0),
  (101, .aload_n 0, 1, 0, 0, 0, 0),
  (102, .iload_n 1, 1, 0, 0, 0, 0),
  (103, .invokestatic 263, 3, 2, 210, 0, 6220),
  (106, .iload_n 2, 1, 0, 0, 0, 0),
  (107, .invokevirtual 266, 3, 3, 213, 0, 6208),
  (110, .ireturn, 1, 0, 0, 0, 0)]
/-- ThreeMagnetsModel.pulls(II)I -/
def mz_r213 : mz_R := (11, yX11_pulls, cX11_pulls, 3, (some .int), false, 3, mz_k213)
def mz_k214 : mz_K := [
  (0, .iload_n 1, 1, 0, 0, 0, 0),
  (1, .tableswitch 119 0 6 #[43, 119, 61, 119, 119, 79, 100], 43, 0, 0, 0, 0),
  (44, .aload_n 0, 1, 0, 0, 0, 0),
  (45, .bipush 11, 2, 20, 11, 0, 0),
  (47, .invokevirtual 257, 3, 3, 209, 0, 6212),
  (50, .aload_n 0, 1, 0, 0, 0, 0),
  (51, .aload_n 0, 1, 0, 0, 0, 0),
  (52, .invokevirtual 269, 3, 3, 211, 0, 6204),
  (55, .iload_n 2, 1, 0, 0, 0, 0),
  (56, .invokevirtual 266, 3, 3, 213, 0, 6208),
  (59, .iconst 2, 1, 20, 2, 0, 0),
  (60, .imul, 1, 0, 0, 0, 0),
  (61, .ireturn, 1, 0, 0, 0, 0),
  (62, .aload_n 0, 1, 0, 0, 0, 0),
  (63, .bipush 30, 2, 20, 30, 0, 0),
  (65, .invokevirtual 257, 3, 3, 209, 0, 6212),
  (68, .iconst 0, 1, 20, 0, 0, 0),
  (69, .aload_n 0, 1, 0, 0, 0, 0),
  (70, .iconst 2, 1, 20, 2, 0, 0),
  (71, .invokestatic 263, 3, 2, 210, 0, 6220),
  (74, .iload_n 2, 1, 0, 0, 0, 0),
  (75, .invokevirtual 272, 3, 3, 214, 0, 6223),
  (78, .isub, 1, 0, 0, 0, 0),
  (79, .ireturn, 1, 0, 0, 0, 0),
  (80, .aload_n 0, 1, 0, 0, 0, 0),
  (81, .bipush 61, 2, 20, 61, 0, 0),
  (83, .invokevirtual 257, 3, 3, 209, 0, 6212),
  (86, .aload_n 0, 1, 0, 0, 0, 0),
  (87, .iconst 5, 1, 20, 5, 0, 0),
  (88, .invokestatic 263, 3, 2, 210, 0, 6220),
  (91, .iload_n 2, 1, 0, 0, 0, 0),
  (92, .invokevirtual 272, 3, 3, 214, 0, 6223),
  (95, .aload_n 0, 1, 0, 0, 0, 0),
  (96, .getfield 254, 3, 0, 11, 20, 5060),
  (99, .iadd, 1, 0, 0, 0, 0),
  (100, .ireturn, 1, 0, 0, 0, 0),
  (101, .aload_n 0, 1, 0, 0, 0, 0),
  (102, .bipush 70, 2, 20, 70, 0, 0),
  (104, .invokevirtual 257, 3, 3, 209, 0, 6212),
  (107, .aload_n 0, 1, 0, 0, 0, 0),
  (108, .bipush 6, 2, 20, 6, 0, 0),
  (110, .invokestatic 263, 3, 2, 210, 0, 6220),
  (113, .iload_n 2, 1, 0, 0, 0, 0),
  (114, .invokevirtual 272, 3, 3, 214, 0, 6223),
  (117, .iconst 2, 1, 20, 2, 0, 0),
  (118, .imul, 1, 0, 0, 0, 0),
  (119, .ireturn, 1, 0, 0, 0, 0),
  (120, .aload_n 0, 1, 0, 0, 0, 0),
  (121, .iload_n 1, 1, 0, 0, 0, 0),
  (122, .invokestatic 263, 3, 2, 210, 0, 6220),
  (125, .iload_n 2, 1, 0, 0, 0, 0),
  (126, .invokevirtual 272, 3, 3, 214, 0, 6223),
  (129, .ireturn, 1, 0, 0, 0, 0)]
/-- ThreeMagnetsModel.stays(II)I -/
def mz_r214 : mz_R := (11, yX11_stays, cX11_stays, 3, (some .int), false, 3, mz_k214)
def mz_k215 : mz_K := [
  (0, .iload_n 1, 1, 0, 0, 0, 0),
  (1, .tableswitch 117 0 5 #[39, 60, 117, 81, 117, 99], 39, 0, 0, 0, 0),
  (40, .aload_n 0, 1, 0, 0, 0, 0),
  (41, .bipush 12, 2, 20, 12, 0, 0),
  (43, .invokevirtual 257, 3, 3, 209, 0, 6212),
  (46, .aload_n 0, 1, 0, 0, 0, 0),
  (47, .aload_n 0, 1, 0, 0, 0, 0),
  (48, .invokevirtual 269, 3, 3, 211, 0, 6204),
  (51, .iload_n 2, 1, 0, 0, 0, 0),
  (52, .invokevirtual 272, 3, 3, 214, 0, 6223),
  (55, .aload_n 0, 1, 0, 0, 0, 0),
  (56, .getfield 254, 3, 0, 11, 20, 5060),
  (59, .isub, 1, 0, 0, 0, 0),
  (60, .ireturn, 1, 0, 0, 0, 0),
  (61, .aload_n 0, 1, 0, 0, 0, 0),
  (62, .bipush 21, 2, 20, 21, 0, 0),
  (64, .invokevirtual 257, 3, 3, 209, 0, 6212),
  (67, .aload_n 0, 1, 0, 0, 0, 0),
  (68, .iconst 1, 1, 20, 1, 0, 0),
  (69, .invokestatic 263, 3, 2, 210, 0, 6220),
  (72, .iload_n 2, 1, 0, 0, 0, 0),
  (73, .invokevirtual 275, 3, 3, 215, 0, 6227),
  (76, .aload_n 0, 1, 0, 0, 0, 0),
  (77, .invokevirtual 260, 3, 3, 212, 0, 6216),
  (80, .ixor, 1, 0, 0, 0, 0),
  (81, .ireturn, 1, 0, 0, 0, 0),
  (82, .aload_n 0, 1, 0, 0, 0, 0),
  (83, .bipush 40, 2, 20, 40, 0, 0),
  (85, .invokevirtual 257, 3, 3, 209, 0, 6212),
  (88, .aload_n 0, 1, 0, 0, 0, 0),
  (89, .iconst 3, 1, 20, 3, 0, 0),
  (90, .invokestatic 263, 3, 2, 210, 0, 6220),
  (93, .iload_n 2, 1, 0, 0, 0, 0),
  (94, .iconst 2, 1, 20, 2, 0, 0),
  (95, .iadd, 1, 0, 0, 0, 0),
  (96, .invokevirtual 275, 3, 3, 215, 0, 6227),
  (99, .ireturn, 1, 0, 0, 0, 0),
  (100, .aload_n 0, 1, 0, 0, 0, 0),
  (101, .bipush 60, 2, 20, 60, 0, 0),
  (103, .invokevirtual 257, 3, 3, 209, 0, 6212),
  (106, .aload_n 0, 1, 0, 0, 0, 0),
  (107, .iconst 5, 1, 20, 5, 0, 0),
  (108, .invokestatic 263, 3, 2, 210, 0, 6220),
  (111, .iload_n 2, 1, 0, 0, 0, 0),
  (112, .invokevirtual 275, 3, 3, 215, 0, 6227),
  (115, .iconst 3, 1, 20, 3, 0, 0),
  (116, .imul, 1, 0, 0, 0, 0),
  (117, .ireturn, 1, 0, 0, 0, 0),
  (118, .aload_n 0, 1, 0, 0, 0, 0),
  (119, .iload_n 1, 1, 0, 0, 0, 0),
  (120, .invokestatic 263, 3, 2, 210, 0, 6220),
  (123, .iload_n 2, 1, 0, 0, 0, 0),
  (124, .invokevirtual 275, 3, 3, 215, 0, 6227),
  (127, .ireturn, 1, 0, 0, 0, 0)]
/-- ThreeMagnetsModel.parts(II)I -/
def mz_r215 : mz_R := (11, yX11_parts, cX11_parts, 3, (some .int), false, 3, mz_k215)
def mz_k216 : mz_K := [
  (0, .iconst 0, 1, 20, 0, 0, 0),
  (1, .istore_n 3, 1, 0, 0, 0, 0),
  (2, .iload_n 1, 1, 0, 0, 0, 0),
  (3, .tableswitch 167 0 4 #[33, 167, 89, 167, 128], 33, 0, 0, 0, 0),
  (36, .aload_n 0, 1, 0, 0, 0, 0),
  (37, .bipush 13, 2, 20, 13, 0, 0),
  (39, .invokevirtual 257, 3, 3, 209, 0, 6212),
  (42, .aload_n 0, 1, 0, 0, 0, 0),
  (43, .invokevirtual 260, 3, 3, 212, 0, 6216),
  (46, .aload_n 0, 1, 0, 0, 0, 0),
  (47, .getfield 254, 3, 0, 11, 20, 5060),
  (50, .isub, 1, 0, 0, 0, 0),
  (51, .istore 4, 2, 0, 0, 0, 0),
  (53, .aload_n 0, 1, 0, 0, 0, 0),
  (54, .iload 4, 2, 0, 0, 0, 0),
  (56, .ifCond .ne 7, 3, 0, 0, 0, 0),
  (59, .iconst 1, 1, 20, 1, 0, 0),
  (60, .goto 4, 3, 0, 0, 0, 0),
  (63, .iconst 0, 1, 20, 0, 0, 0),
  (64, .putfield 278, 3, 0, 11, 21, 5061),
  (67, .iload 4, 2, 0, 0, 0, 0),
  (69, .ifCond .ne 7, 3, 0, 0, 0, 0),
  (72, .iconst 0, 1, 20, 0, 0, 0),
  (73, .goto 18, 3, 0, 0, 0, 0),
  (76, .iload 4, 2, 0, 0, 0, 0),
  (78, .iconst (-1), 1, 21, 1, 0, 0),
  (79, .if_icmp .ne 8, 3, 0, 0, 0, 0),
  (82, .iload_n 2, 1, 0, 0, 0, 0),
  (83, .ineg, 1, 0, 0, 0, 0),
  (84, .goto 7, 3, 0, 0, 0, 0),
  (87, .iload_n 2, 1, 0, 0, 0, 0),
  (88, .iload 4, 2, 0, 0, 0, 0),
  (90, .idiv, 1, 0, 0, 0, 0),
  (91, .ireturn, 1, 0, 0, 0, 0),
  (92, .aload_n 0, 1, 0, 0, 0, 0),
  (93, .bipush 31, 2, 20, 31, 0, 0),
  (95, .invokevirtual 257, 3, 3, 209, 0, 6212),
  (98, .aload_n 0, 1, 0, 0, 0, 0),
  (99, .iconst 2, 1, 20, 2, 0, 0),
  (100, .invokestatic 263, 3, 2, 210, 0, 6220),
  (103, .iload_n 2, 1, 0, 0, 0, 0),
  (104, .invokevirtual 282, 3, 3, 216, 0, 6231),
  (107, .istore_n 3, 1, 0, 0, 0, 0),
  (108, .aload_n 0, 1, 0, 0, 0, 0),
  (109, .getfield 278, 3, 0, 11, 21, 5061),
  (112, .ifCond .eq 7, 3, 0, 0, 0, 0),
  (115, .iconst 0, 1, 20, 0, 0, 0),
  (116, .goto 14, 3, 0, 0, 0, 0),
  (119, .iload_n 3, 1, 0, 0, 0, 0),
  (120, .aload_n 0, 1, 0, 0, 0, 0),
  (121, .aload_n 0, 1, 0, 0, 0, 0),
  (122, .invokevirtual 269, 3, 3, 211, 0, 6204),
  (125, .iconst 1, 1, 20, 1, 0, 0),
  (126, .invokevirtual 266, 3, 3, 213, 0, 6208),
  (129, .iadd, 1, 0, 0, 0, 0),
  (130, .ireturn, 1, 0, 0, 0, 0),
  (131, .aload_n 0, 1, 0, 0, 0, 0),
  (132, .bipush 51, 2, 20, 51, 0, 0),
  (134, .invokevirtual 257, 3, 3, 209, 0, 6212),
  (137, .aload_n 0, 1, 0, 0, 0, 0),
  (138, .iconst 4, 1, 20, 4, 0, 0),
  (139, .invokestatic 263, 3, 2, 210, 0, 6220),
  (142, .iload_n 2, 1, 0, 0, 0, 0),
  (143, .invokevirtual 282, 3, 3, 216, 0, 6231),
  (146, .istore_n 3, 1, 0, 0, 0, 0),
  (147, .aload_n 0, 1, 0, 0, 0, 0),
  (148, .getfield 278, 3, 0, 11, 21, 5061),
  (151, .ifCond .eq 7, 3, 0, 0, 0, 0),
  (154, .iconst 0, 1, 20, 0, 0, 0),
  (155, .goto 14, 3, 0, 0, 0, 0),
  (158, .iload_n 3, 1, 0, 0, 0, 0),
  (159, .aload_n 0, 1, 0, 0, 0, 0),
  (160, .aload_n 0, 1, 0, 0, 0, 0),
  (161, .invokevirtual 269, 3, 3, 211, 0, 6204),
  (164, .iconst 0, 1, 20, 0, 0, 0),
  (165, .invokevirtual 275, 3, 3, 215, 0, 6227),
  (168, .isub, 1, 0, 0, 0, 0),
  (169, .ireturn, 1, 0, 0, 0, 0),
  (170, .aload_n 0, 1, 0, 0, 0, 0),
  (171, .iload_n 1, 1, 0, 0, 0, 0),
  (172, .invokestatic 263, 3, 2, 210, 0, 6220),
  (175, .iload_n 2, 1, 0, 0, 0, 0),
  (176, .invokevirtual 282, 3, 3, 216, 0, 6231),
  (179, .ireturn, 1, 0, 0, 0, 0)]
/-- ThreeMagnetsModel.tells(II)I -/
def mz_r216 : mz_R := (11, yX11_tells, cX11_tells, 5, (some .int), false, 3, mz_k216)
def mz_k217 : mz_K := [
  (0, .aload_n 0, 1, 0, 0, 0, 0),
  (1, .iload_n 1, 1, 0, 0, 0, 0),
  (2, .invokevirtual 70, 3, 3, 132, 0, 5145),
  (5, .ifCond .eq 12, 3, 0, 0, 0, 0),
  (8, .iload_n 2, 1, 0, 0, 0, 0),
  (9, .iconst 0, 1, 20, 0, 0, 0),
  (10, .iconst 3, 1, 20, 3, 0, 0),
  (11, .invokestatic 50, 3, 2, 128, 0, 5126),
  (14, .ifCond .ne 9, 3, 0, 0, 0, 0),
  (17, .aload_n 0, 1, 0, 0, 0, 0),
  (18, .iconst 1, 1, 20, 1, 0, 0),
  (19, .invokevirtual 62, 3, 3, 127, 0, 5132),
  (22, .ireturn, 1, 0, 0, 0, 0),
  (23, .aload_n 0, 1, 0, 0, 0, 0),
  (24, .iconst 0, 1, 20, 0, 0, 0),
  (25, .putfield 251, 3, 0, 11, 19, 5059),
  (28, .aload_n 0, 1, 0, 0, 0, 0),
  (29, .iload_n 1, 1, 0, 0, 0, 0),
  (30, .putfield 254, 3, 0, 11, 20, 5060),
  (33, .aload_n 0, 1, 0, 0, 0, 0),
  (34, .iconst 0, 1, 20, 0, 0, 0),
  (35, .putfield 278, 3, 0, 11, 21, 5061),
  (38, .aload_n 0, 1, 0, 0, 0, 0),
  (39, .invokevirtual 269, 3, 3, 211, 0, 6204),
  (42, .istore 4, 2, 0, 0, 0, 0),
  (44, .iload_n 2, 1, 0, 0, 0, 0),
  (45, .ifCond .ne 13, 3, 0, 0, 0, 0),
  (48, .aload_n 0, 1, 0, 0, 0, 0),
  (49, .iload 4, 2, 0, 0, 0, 0),
  (51, .iload_n 3, 1, 0, 0, 0, 0),
  (52, .invokevirtual 266, 3, 3, 213, 0, 6208),
  (55, .goto 40, 3, 0, 0, 0, 0),
  (58, .iload_n 2, 1, 0, 0, 0, 0),
  (59, .iconst 1, 1, 20, 1, 0, 0),
  (60, .if_icmp .ne 13, 3, 0, 0, 0, 0),
  (63, .aload_n 0, 1, 0, 0, 0, 0),
  (64, .iload 4, 2, 0, 0, 0, 0),
  (66, .iload_n 3, 1, 0, 0, 0, 0),
  (67, .invokevirtual 272, 3, 3, 214, 0, 6223),
  (70, .goto 25, 3, 0, 0, 0, 0),
  (73, .iload_n 2, 1, 0, 0, 0, 0),
  (74, .iconst 2, 1, 20, 2, 0, 0),
  (75, .if_icmp .ne 13, 3, 0, 0, 0, 0),
  (78, .aload_n 0, 1, 0, 0, 0, 0),
  (79, .iload 4, 2, 0, 0, 0, 0),
  (81, .iload_n 3, 1, 0, 0, 0, 0),
  (82, .invokevirtual 275, 3, 3, 215, 0, 6227),
  (85, .goto 10, 3, 0, 0, 0, 0),
  (88, .aload_n 0, 1, 0, 0, 0, 0),
  (89, .iload 4, 2, 0, 0, 0, 0),
  (91, .iload_n 3, 1, 0, 0, 0, 0),
  (92, .invokevirtual 282, 3, 3, 216, 0, 6231),
  (95, .istore 5, 2, 0, 0, 0, 0),
  (97, .aload_n 0, 1, 0, 0, 0, 0),
  (98, .getfield 278, 3, 0, 11, 21, 5061),
  (101, .ifCond .eq 12, 3, 0, 0, 0, 0),
  (104, .aload_n 0, 1, 0, 0, 0, 0),
  (105, .bipush 6, 2, 20, 6, 0, 0),
  (107, .invokevirtual 62, 3, 3, 127, 0, 5132),
  (110, .goto 5, 3, 0, 0, 0, 0),
  (113, .iload 5, 2, 0, 0, 0, 0),
  (115, .ireturn, 1, 0, 0, 0, 0)]
/-- ThreeMagnetsModel.voice(III)I -/
def mz_r217 : mz_R := (11, yX11_voice, cX11_voice, 6, (some .int), false, 4, mz_k217)
def mz_k218 : mz_K := [
  (0, .iload_n 1, 1, 0, 0, 0, 0),
  (1, .iconst 0, 1, 20, 0, 0, 0),
  (2, .aload_n 0, 1, 0, 0, 0, 0),
  (3, .getfield 251, 3, 0, 11, 19, 5059),
  (6, .iconst 1, 1, 20, 1, 0, 0),
  (7, .isub, 1, 0, 0, 0, 0),
  (8, .invokestatic 50, 3, 2, 128, 0, 5126),
  (11, .ifCond .eq 12, 3, 0, 0, 0, 0),
  (14, .aload_n 0, 1, 0, 0, 0, 0),
  (15, .getfield 34, 3, 0, 11, 18, 5058),
  (18, .iload_n 1, 1, 0, 0, 0, 0),
  (19, .iaload, 1, 0, 0, 0, 0),
  (20, .goto 8, 3, 0, 0, 0, 0),
  (23, .aload_n 0, 1, 0, 0, 0, 0),
  (24, .iconst 2, 1, 20, 2, 0, 0),
  (25, .invokevirtual 62, 3, 3, 127, 0, 5132),
  (28, .ireturn, 1, 0, 0, 0, 0)]
/-- ThreeMagnetsModel.body(I)I -/
def mz_r218 : mz_R := (11, yX11_body, cX11_body, 2, (some .int), false, 2, mz_k218)
def mz_k219 : mz_K := [
  (0, .iload_n 0, 1, 0, 0, 0, 0),
  (1, .iconst 0, 1, 20, 0, 0, 0),
  (2, .iconst 3, 1, 20, 3, 0, 0),
  (3, .invokestatic 50, 3, 2, 128, 0, 5126),
  (6, .ireturn, 1, 0, 0, 0, 0)]
/-- ThreeMagnetsModel.isSheet(I)Z -/
def mz_r219 : mz_R := (11, yX11_isSheet, cX11_isSheet, 1, (some .boolean), true, 1, mz_k219)
def mz_k220 : mz_K := [
  (0, .iload_n 1, 1, 0, 0, 0, 0),
  (1, .invokestatic 285, 3, 2, 219, 0, 7003),
  (4, .ifCond .eq 25, 3, 0, 0, 0, 0),
  (7, .iload_n 2, 1, 0, 0, 0, 0),
  (8, .ifCond .eq 27, 3, 0, 0, 0, 0),
  (11, .iload_n 2, 1, 0, 0, 0, 0),
  (12, .bipush 8, 2, 20, 8, 0, 0),
  (14, .if_icmp .eq 21, 3, 0, 0, 0, 0),
  (17, .iload_n 2, 1, 0, 0, 0, 0),
  (18, .bipush 16, 2, 20, 16, 0, 0),
  (20, .if_icmp .eq 15, 3, 0, 0, 0, 0),
  (23, .iload_n 2, 1, 0, 0, 0, 0),
  (24, .bipush 32, 2, 20, 32, 0, 0),
  (26, .if_icmp .eq 9, 3, 0, 0, 0, 0),
  (29, .aload_n 0, 1, 0, 0, 0, 0),
  (30, .iconst 1, 1, 20, 1, 0, 0),
  (31, .invokevirtual 62, 3, 3, 127, 0, 5132),
  (34, .ireturn, 1, 0, 0, 0, 0),
  (35, .iload_n 2, 1, 0, 0, 0, 0),
  (36, .ifCond .eq 13, 3, 0, 0, 0, 0),
  (39, .iload_n 3, 1, 0, 0, 0, 0),
  (40, .ifCond .ge 9, 3, 0, 0, 0, 0),
  (43, .aload_n 0, 1, 0, 0, 0, 0),
  (44, .iconst 3, 1, 20, 3, 0, 0),
  (45, .invokevirtual 62, 3, 3, 127, 0, 5132),
  (48, .ireturn, 1, 0, 0, 0, 0),
  (49, .iload_n 2, 1, 0, 0, 0, 0),
  (50, .ifCond .eq 15, 3, 0, 0, 0, 0),
  (53, .iload_n 3, 1, 0, 0, 0, 0),
  (54, .bipush 24, 2, 20, 24, 0, 0),
  (56, .if_icmp .le 9, 3, 0, 0, 0, 0),
  (59, .aload_n 0, 1, 0, 0, 0, 0),
  (60, .iconst 1, 1, 20, 1, 0, 0),
  (61, .invokevirtual 62, 3, 3, 127, 0, 5132),
  (64, .ireturn, 1, 0, 0, 0, 0),
  (65, .aload_n 0, 1, 0, 0, 0, 0),
  (66, .getfield 37, 3, 0, 11, 22, 5062),
  (69, .iload_n 1, 1, 0, 0, 0, 0),
  (70, .iload_n 2, 1, 0, 0, 0, 0),
  (71, .iastore, 1, 0, 0, 0, 0),
  (72, .aload_n 0, 1, 0, 0, 0, 0),
  (73, .getfield 40, 3, 0, 11, 23, 5063),
  (76, .iload_n 1, 1, 0, 0, 0, 0),
  (77, .iload_n 2, 1, 0, 0, 0, 0),
  (78, .ifCond .ne 7, 3, 0, 0, 0, 0),
  (81, .iconst 0, 1, 20, 0, 0, 0),
  (82, .goto 4, 3, 0, 0, 0, 0),
  (85, .iload_n 3, 1, 0, 0, 0, 0),
  (86, .iastore, 1, 0, 0, 0, 0),
  (87, .iconst 0, 1, 20, 0, 0, 0),
  (88, .istore 4, 2, 0, 0, 0, 0),
  (90, .iload 4, 2, 0, 0, 0, 0),
  (92, .bipush 24, 2, 20, 24, 0, 0),
  (94, .if_icmp .ge 22, 3, 0, 0, 0, 0),
  (97, .aload_n 0, 1, 0, 0, 0, 0),
  (98, .getfield 43, 3, 0, 11, 24, 5064),
  (101, .bipush 24, 2, 20, 24, 0, 0),
  (103, .iload_n 1, 1, 0, 0, 0, 0),
  (104, .imul, 1, 0, 0, 0, 0),
  (105, .iload 4, 2, 0, 0, 0, 0),
  (107, .iadd, 1, 0, 0, 0, 0),
  (108, .iconst 0, 1, 20, 0, 0, 0),
  (109, .iastore, 1, 0, 0, 0, 0),
  (110, .iinc 4 1, 3, 20, 1, 0, 0),
  (113, .goto (-23), 3, 0, 0, 0, 0),
  (116, .iconst 1, 1, 20, 1, 0, 0),
  (117, .ireturn, 1, 0, 0, 0, 0)]
/-- ThreeMagnetsModel.sheet(III)I -/
def mz_r220 : mz_R := (11, yX11_sheet, cX11_sheet, 5, (some .int), false, 4, mz_k220)
def mz_k221 : mz_K := [
  (0, .iload_n 1, 1, 0, 0, 0, 0),
  (1, .invokestatic 285, 3, 2, 219, 0, 7003),
  (4, .ifCond .ne 9, 3, 0, 0, 0, 0),
  (7, .aload_n 0, 1, 0, 0, 0, 0),
  (8, .iconst 1, 1, 20, 1, 0, 0),
  (9, .invokevirtual 62, 3, 3, 127, 0, 5132),
  (12, .ireturn, 1, 0, 0, 0, 0),
  (13, .aload_n 0, 1, 0, 0, 0, 0),
  (14, .getfield 37, 3, 0, 11, 22, 5062),
  (17, .iload_n 1, 1, 0, 0, 0, 0),
  (18, .iaload, 1, 0, 0, 0, 0),
  (19, .ifCond .ne 9, 3, 0, 0, 0, 0),
  (22, .aload_n 0, 1, 0, 0, 0, 0),
  (23, .iconst 2, 1, 20, 2, 0, 0),
  (24, .invokevirtual 62, 3, 3, 127, 0, 5132),
  (27, .ireturn, 1, 0, 0, 0, 0),
  (28, .iload_n 2, 1, 0, 0, 0, 0),
  (29, .iconst 0, 1, 20, 0, 0, 0),
  (30, .aload_n 0, 1, 0, 0, 0, 0),
  (31, .getfield 40, 3, 0, 11, 23, 5063),
  (34, .iload_n 1, 1, 0, 0, 0, 0),
  (35, .iaload, 1, 0, 0, 0, 0),
  (36, .iconst 1, 1, 20, 1, 0, 0),
  (37, .isub, 1, 0, 0, 0, 0),
  (38, .invokestatic 50, 3, 2, 128, 0, 5126),
  (41, .ifCond .ne 9, 3, 0, 0, 0, 0),
  (44, .aload_n 0, 1, 0, 0, 0, 0),
  (45, .iconst 1, 1, 20, 1, 0, 0),
  (46, .invokevirtual 62, 3, 3, 127, 0, 5132),
  (49, .ireturn, 1, 0, 0, 0, 0),
  (50, .bipush 32, 2, 20, 32, 0, 0),
  (52, .aload_n 0, 1, 0, 0, 0, 0),
  (53, .getfield 37, 3, 0, 11, 22, 5062),
  (56, .iload_n 1, 1, 0, 0, 0, 0),
  (57, .iaload, 1, 0, 0, 0, 0),
  (58, .isub, 1, 0, 0, 0, 0),
  (59, .istore 4, 2, 0, 0, 0, 0),
  (61, .aload_n 0, 1, 0, 0, 0, 0),
  (62, .getfield 43, 3, 0, 11, 24, 5064),
  (65, .bipush 24, 2, 20, 24, 0, 0),
  (67, .iload_n 1, 1, 0, 0, 0, 0),
  (68, .imul, 1, 0, 0, 0, 0),
  (69, .iload_n 2, 1, 0, 0, 0, 0),
  (70, .iadd, 1, 0, 0, 0, 0),
  (71, .iload_n 3, 1, 0, 0, 0, 0),
  (72, .iload 4, 2, 0, 0, 0, 0),
  (74, .ishl, 1, 0, 0, 0, 0),
  (75, .iload 4, 2, 0, 0, 0, 0),
  (77, .ishr, 1, 0, 0, 0, 0),
  (78, .iastore, 1, 0, 0, 0, 0),
  (79, .iconst 1, 1, 20, 1, 0, 0),
  (80, .ireturn, 1, 0, 0, 0, 0)]
/-- ThreeMagnetsModel.put(III)I -/
def mz_r221 : mz_R := (11, yX11_put, cX11_put, 5, (some .int), false, 4, mz_k221)
def mz_k222 : mz_K := [
  (0, .iload_n 1, 1, 0, 0, 0, 0),
  (1, .invokestatic 285, 3, 2, 219, 0, 7003),
  (4, .ifCond .eq 10, 3, 0, 0, 0, 0),
  (7, .iload_n 3, 1, 0, 0, 0, 0),
  (8, .invokestatic 285, 3, 2, 219, 0, 7003),
  (11, .ifCond .ne 9, 3, 0, 0, 0, 0),
  (14, .aload_n 0, 1, 0, 0, 0, 0),
  (15, .iconst 1, 1, 20, 1, 0, 0),
  (16, .invokevirtual 62, 3, 3, 127, 0, 5132),
  (19, .ireturn, 1, 0, 0, 0, 0),
  (20, .aload_n 0, 1, 0, 0, 0, 0),
  (21, .getfield 37, 3, 0, 11, 22, 5062),
  (24, .iload_n 1, 1, 0, 0, 0, 0),
  (25, .iaload, 1, 0, 0, 0, 0),
  (26, .ifCond .eq 12, 3, 0, 0, 0, 0),
  (29, .aload_n 0, 1, 0, 0, 0, 0),
  (30, .getfield 37, 3, 0, 11, 22, 5062),
  (33, .iload_n 3, 1, 0, 0, 0, 0),
  (34, .iaload, 1, 0, 0, 0, 0),
  (35, .ifCond .ne 9, 3, 0, 0, 0, 0),
  (38, .aload_n 0, 1, 0, 0, 0, 0),
  (39, .iconst 2, 1, 20, 2, 0, 0),
  (40, .invokevirtual 62, 3, 3, 127, 0, 5132),
  (43, .ireturn, 1, 0, 0, 0, 0),
  (44, .aload_n 0, 1, 0, 0, 0, 0),
  (45, .getfield 37, 3, 0, 11, 22, 5062),
  (48, .iload_n 1, 1, 0, 0, 0, 0),
  (49, .iaload, 1, 0, 0, 0, 0),
  (50, .aload_n 0, 1, 0, 0, 0, 0),
  (51, .getfield 37, 3, 0, 11, 22, 5062),
  (54, .iload_n 3, 1, 0, 0, 0, 0),
  (55, .iaload, 1, 0, 0, 0, 0),
  (56, .if_icmp .eq 9, 3, 0, 0, 0, 0),
  (59, .aload_n 0, 1, 0, 0, 0, 0),
  (60, .iconst 5, 1, 20, 5, 0, 0),
  (61, .invokevirtual 62, 3, 3, 127, 0, 5132),
  (64, .ireturn, 1, 0, 0, 0, 0),
  (65, .iload 5, 2, 0, 0, 0, 0),
  (67, .ifCond .lt 39, 3, 0, 0, 0, 0),
  (70, .iload_n 2, 1, 0, 0, 0, 0),
  (71, .ifCond .lt 35, 3, 0, 0, 0, 0),
  (74, .iload 4, 2, 0, 0, 0, 0),
  (76, .ifCond .lt 30, 3, 0, 0, 0, 0),
  (79, .iload_n 2, 1, 0, 0, 0, 0),
  (80, .aload_n 0, 1, 0, 0, 0, 0),
  (81, .getfield 40, 3, 0, 11, 23, 5063),
  (84, .iload_n 1, 1, 0, 0, 0, 0),
  (85, .iaload, 1, 0, 0, 0, 0),
  (86, .iload 5, 2, 0, 0, 0, 0),
  (88, .isub, 1, 0, 0, 0, 0),
  (89, .if_icmp .gt 17, 3, 0, 0, 0, 0),
  (92, .iload 4, 2, 0, 0, 0, 0),
  (94, .aload_n 0, 1, 0, 0, 0, 0),
  (95, .getfield 40, 3, 0, 11, 23, 5063),
  (98, .iload_n 3, 1, 0, 0, 0, 0),
  (99, .iaload, 1, 0, 0, 0, 0),
  (100, .iload 5, 2, 0, 0, 0, 0),
  (102, .isub, 1, 0, 0, 0, 0),
  (103, .if_icmp .le 9, 3, 0, 0, 0, 0),
  (106, .aload_n 0, 1, 0, 0, 0, 0),
  (107, .iconst 1, 1, 20, 1, 0, 0),
  (108, .invokevirtual 62, 3, 3, 127, 0, 5132),
  (111, .ireturn, 1, 0, 0, 0, 0),
  (112, .iconst 0, 1, 20, 0, 0, 0),
  (113, .istore 6, 2, 0, 0, 0, 0),
  (115, .iload 6, 2, 0, 0, 0, 0),
  (117, .iload 5, 2, 0, 0, 0, 0),
  (119, .if_icmp .ge 30, 3, 0, 0, 0, 0),
  (122, .aload_n 0, 1, 0, 0, 0, 0),
  (123, .getfield 46, 3, 0, 11, 25, 5065),
  (126, .iload 6, 2, 0, 0, 0, 0),
  (128, .aload_n 0, 1, 0, 0, 0, 0),
  (129, .getfield 43, 3, 0, 11, 24, 5064),
  (132, .bipush 24, 2, 20, 24, 0, 0),
  (134, .iload_n 1, 1, 0, 0, 0, 0),
  (135, .imul, 1, 0, 0, 0, 0),
  (136, .iload_n 2, 1, 0, 0, 0, 0),
  (137, .iadd, 1, 0, 0, 0, 0),
  (138, .iload 6, 2, 0, 0, 0, 0),
  (140, .iadd, 1, 0, 0, 0, 0),
  (141, .iaload, 1, 0, 0, 0, 0),
  (142, .iastore, 1, 0, 0, 0, 0),
  (143, .iinc 6 1, 3, 20, 1, 0, 0),
  (146, .goto (-31), 3, 0, 0, 0, 0),
  (149, .iconst 0, 1, 20, 0, 0, 0),
  (150, .istore 6, 2, 0, 0, 0, 0),
  (152, .iload 6, 2, 0, 0, 0, 0),
  (154, .iload 5, 2, 0, 0, 0, 0),
  (156, .if_icmp .ge 31, 3, 0, 0, 0, 0),
  (159, .aload_n 0, 1, 0, 0, 0, 0),
  (160, .getfield 43, 3, 0, 11, 24, 5064),
  (163, .bipush 24, 2, 20, 24, 0, 0),
  (165, .iload_n 3, 1, 0, 0, 0, 0),
  (166, .imul, 1, 0, 0, 0, 0),
  (167, .iload 4, 2, 0, 0, 0, 0),
  (169, .iadd, 1, 0, 0, 0, 0),
  (170, .iload 6, 2, 0, 0, 0, 0),
  (172, .iadd, 1, 0, 0, 0, 0),
  (173, .aload_n 0, 1, 0, 0, 0, 0),
  (174, .getfield 46, 3, 0, 11, 25, 5065),
  (177, .iload 6, 2, 0, 0, 0, 0),
  (179, .iaload, 1, 0, 0, 0, 0),
  (180, .iastore, 1, 0, 0, 0, 0),
  (181, .iinc 6 1, 3, 20, 1, 0, 0),
  (184, .goto (-32), 3, 0, 0, 0, 0),
  (187, .iload 5, 2, 0, 0, 0, 0),
  (189, .ireturn, 1, 0, 0, 0, 0)]
/-- ThreeMagnetsModel.move(IIIII)I -/
def mz_r222 : mz_R := (11, yX11_move, cX11_move, 7, (some .int), false, 6, mz_k222)
def mz_k223 : mz_K := [
  (0, .iload_n 1, 1, 0, 0, 0, 0),
  (1, .invokestatic 285, 3, 2, 219, 0, 7003),
  (4, .ifCond .ne 9, 3, 0, 0, 0, 0),
  (7, .aload_n 0, 1, 0, 0, 0, 0),
  (8, .iconst 1, 1, 20, 1, 0, 0),
  (9, .invokevirtual 62, 3, 3, 127, 0, 5132),
  (12, .ireturn, 1, 0, 0, 0, 0),
  (13, .aload_n 0, 1, 0, 0, 0, 0),
  (14, .getfield 37, 3, 0, 11, 22, 5062),
  (17, .iload_n 1, 1, 0, 0, 0, 0),
  (18, .iaload, 1, 0, 0, 0, 0),
  (19, .ifCond .ne 9, 3, 0, 0, 0, 0),
  (22, .aload_n 0, 1, 0, 0, 0, 0),
  (23, .iconst 2, 1, 20, 2, 0, 0),
  (24, .invokevirtual 62, 3, 3, 127, 0, 5132),
  (27, .ireturn, 1, 0, 0, 0, 0),
  (28, .iconst 0, 1, 20, 0, 0, 0),
  (29, .istore_n 2, 1, 0, 0, 0, 0),
  (30, .bipush 24, 2, 20, 24, 0, 0),
  (32, .iload_n 1, 1, 0, 0, 0, 0),
  (33, .imul, 1, 0, 0, 0, 0),
  (34, .istore_n 3, 1, 0, 0, 0, 0),
  (35, .iconst 4, 1, 20, 4, 0, 0),
  (36, .iload_n 2, 1, 0, 0, 0, 0),
  (37, .imul, 1, 0, 0, 0, 0),
  (38, .iconst 3, 1, 20, 3, 0, 0),
  (39, .iadd, 1, 0, 0, 0, 0),
  (40, .aload_n 0, 1, 0, 0, 0, 0),
  (41, .getfield 40, 3, 0, 11, 23, 5063),
  (44, .iload_n 1, 1, 0, 0, 0, 0),
  (45, .iaload, 1, 0, 0, 0, 0),
  (46, .if_icmp .ge 124, 3, 0, 0, 0, 0),
  (49, .aload_n 0, 1, 0, 0, 0, 0),
  (50, .getfield 7, 3, 0, 11, 0, 5040),
  (53, .iconst 0, 1, 20, 0, 0, 0),
  (54, .iaload, 1, 0, 0, 0, 0),
  (55, .bipush 6, 2, 20, 6, 0, 0),
  (57, .if_icmp .ge 113, 3, 0, 0, 0, 0),
  (60, .aload_n 0, 1, 0, 0, 0, 0),
  (61, .getfield 43, 3, 0, 11, 24, 5064),
  (64, .iload_n 3, 1, 0, 0, 0, 0),
  (65, .iconst 4, 1, 20, 4, 0, 0),
  (66, .iload_n 2, 1, 0, 0, 0, 0),
  (67, .imul, 1, 0, 0, 0, 0),
  (68, .iadd, 1, 0, 0, 0, 0),
  (69, .iaload, 1, 0, 0, 0, 0),
  (70, .aload_n 0, 1, 0, 0, 0, 0),
  (71, .getfield 43, 3, 0, 11, 24, 5064),
  (74, .iload_n 3, 1, 0, 0, 0, 0),
  (75, .iconst 4, 1, 20, 4, 0, 0),
  (76, .iload_n 2, 1, 0, 0, 0, 0),
  (77, .imul, 1, 0, 0, 0, 0),
  (78, .iadd, 1, 0, 0, 0, 0),
  (79, .iconst 1, 1, 20, 1, 0, 0),
  (80, .iadd, 1, 0, 0, 0, 0),
  (81, .iaload, 1, 0, 0, 0, 0),
  (82, .aload_n 0, 1, 0, 0, 0, 0),
  (83, .getfield 43, 3, 0, 11, 24, 5064),
  (86, .iload_n 3, 1, 0, 0, 0, 0),
  (87, .iconst 4, 1, 20, 4, 0, 0),
  (88, .iload_n 2, 1, 0, 0, 0, 0),
  (89, .imul, 1, 0, 0, 0, 0),
  (90, .iadd, 1, 0, 0, 0, 0),
  (91, .iconst 2, 1, 20, 2, 0, 0),
  (92, .iadd, 1, 0, 0, 0, 0),
  (93, .iaload, 1, 0, 0, 0, 0),
  (94, .aload_n 0, 1, 0, 0, 0, 0),
  (95, .getfield 43, 3, 0, 11, 24, 5064),
  (98, .iload_n 3, 1, 0, 0, 0, 0),
  (99, .iconst 4, 1, 20, 4, 0, 0),
  (100, .iload_n 2, 1, 0, 0, 0, 0),
  (101, .imul, 1, 0, 0, 0, 0),
  (102, .iadd, 1, 0, 0, 0, 0),
  (103, .iconst 3, 1, 20, 3, 0, 0),
  (104, .iadd, 1, 0, 0, 0, 0),
  (105, .iaload, 1, 0, 0, 0, 0),
  (106, .invokestatic 58, 3, 2, 135, 0, 5123),
  (109, .ifCond .eq 61, 3, 0, 0, 0, 0),
  (112, .aload_n 0, 1, 0, 0, 0, 0),
  (113, .aload_n 0, 1, 0, 0, 0, 0),
  (114, .getfield 43, 3, 0, 11, 24, 5064),
  (117, .iload_n 3, 1, 0, 0, 0, 0),
  (118, .iconst 4, 1, 20, 4, 0, 0),
  (119, .iload_n 2, 1, 0, 0, 0, 0),
  (120, .imul, 1, 0, 0, 0, 0),
  (121, .iadd, 1, 0, 0, 0, 0),
  (122, .iaload, 1, 0, 0, 0, 0),
  (123, .aload_n 0, 1, 0, 0, 0, 0),
  (124, .getfield 43, 3, 0, 11, 24, 5064),
  (127, .iload_n 3, 1, 0, 0, 0, 0),
  (128, .iconst 4, 1, 20, 4, 0, 0),
  (129, .iload_n 2, 1, 0, 0, 0, 0),
  (130, .imul, 1, 0, 0, 0, 0),
  (131, .iadd, 1, 0, 0, 0, 0),
  (132, .iconst 1, 1, 20, 1, 0, 0),
  (133, .iadd, 1, 0, 0, 0, 0),
  (134, .iaload, 1, 0, 0, 0, 0),
  (135, .aload_n 0, 1, 0, 0, 0, 0),
  (136, .getfield 43, 3, 0, 11, 24, 5064),
  (139, .iload_n 3, 1, 0, 0, 0, 0),
  (140, .iconst 4, 1, 20, 4, 0, 0),
  (141, .iload_n 2, 1, 0, 0, 0, 0),
  (142, .imul, 1, 0, 0, 0, 0),
  (143, .iadd, 1, 0, 0, 0, 0),
  (144, .iconst 2, 1, 20, 2, 0, 0),
  (145, .iadd, 1, 0, 0, 0, 0),
  (146, .iaload, 1, 0, 0, 0, 0),
  (147, .aload_n 0, 1, 0, 0, 0, 0),
  (148, .getfield 43, 3, 0, 11, 24, 5064),
  (151, .iload_n 3, 1, 0, 0, 0, 0),
  (152, .iconst 4, 1, 20, 4, 0, 0),
  (153, .iload_n 2, 1, 0, 0, 0, 0),
  (154, .imul, 1, 0, 0, 0, 0),
  (155, .iadd, 1, 0, 0, 0, 0),
  (156, .iconst 3, 1, 20, 3, 0, 0),
  (157, .iadd, 1, 0, 0, 0, 0),
  (158, .iaload, 1, 0, 0, 0, 0),
  (159, .invokevirtual 66, 3, 3, 136, 0, 5137),
  (162, .istore 4, 2, 0, 0, 0, 0),
  (164, .iinc 2 1, 3, 20, 1, 0, 0),
  (167, .goto (-132), 3, 0, 0, 0, 0),
  (170, .iload_n 2, 1, 0, 0, 0, 0),
  (171, .ireturn, 1, 0, 0, 0, 0)]
/-- ThreeMagnetsModel.magnets(I)I -/
def mz_r223 : mz_R := (11, yX11_magnets, cX11_magnets, 5, (some .int), false, 2, mz_k223)
def mz_k224 : mz_K := [
  (0, .iconst 0, 1, 20, 0, 0, 0),
  (1, .istore_n 1, 1, 0, 0, 0, 0),
  (2, .iload_n 1, 1, 0, 0, 0, 0),
  (3, .sipush 650, 3, 20, 650, 0, 0),
  (6, .if_icmp .ge 21, 3, 0, 0, 0, 0),
  (9, .aload_n 0, 1, 0, 0, 0, 0),
  (10, .getfield 13, 3, 0, 11, 1, 5041),
  (13, .iload_n 1, 1, 0, 0, 0, 0),
  (14, .aload_n 0, 1, 0, 0, 0, 0),
  (15, .getfield 7, 3, 0, 11, 0, 5040),
  (18, .iload_n 1, 1, 0, 0, 0, 0),
  (19, .iaload, 1, 0, 0, 0, 0),
  (20, .iastore, 1, 0, 0, 0, 0),
  (21, .iinc 1 1, 3, 20, 1, 0, 0),
  (24, .goto (-22), 3, 0, 0, 0, 0),
  (27, .aload_n 0, 1, 0, 0, 0, 0),
  (28, .dup, 1, 0, 0, 0, 0),
  (29, .getfield 288, 3, 0, 11, 2, 5042),
  (32, .iconst 1, 1, 20, 1, 0, 0),
  (33, .iadd, 1, 0, 0, 0, 0),
  (34, .putfield 288, 3, 0, 11, 2, 5042),
  (37, .aload_n 0, 1, 0, 0, 0, 0),
  (38, .getfield 288, 3, 0, 11, 2, 5042),
  (41, .ireturn, 1, 0, 0, 0, 0)]
/-- ThreeMagnetsModel.image()I -/
def mz_r224 : mz_R := (11, yX11_image, cX11_image, 2, (some .int), false, 1, mz_k224)
def mz_k225 : mz_K := [
  (0, .aload_n 0, 1, 0, 0, 0, 0),
  (1, .getfield 288, 3, 0, 11, 2, 5042),
  (4, .ifCond .ne 9, 3, 0, 0, 0, 0),
  (7, .aload_n 0, 1, 0, 0, 0, 0),
  (8, .iconst 2, 1, 20, 2, 0, 0),
  (9, .invokevirtual 62, 3, 3, 127, 0, 5132),
  (12, .ireturn, 1, 0, 0, 0, 0),
  (13, .iconst 0, 1, 20, 0, 0, 0),
  (14, .istore_n 1, 1, 0, 0, 0, 0),
  (15, .iload_n 1, 1, 0, 0, 0, 0),
  (16, .sipush 650, 3, 20, 650, 0, 0),
  (19, .if_icmp .ge 21, 3, 0, 0, 0, 0),
  (22, .aload_n 0, 1, 0, 0, 0, 0),
  (23, .getfield 7, 3, 0, 11, 0, 5040),
  (26, .iload_n 1, 1, 0, 0, 0, 0),
  (27, .aload_n 0, 1, 0, 0, 0, 0),
  (28, .getfield 13, 3, 0, 11, 1, 5041),
  (31, .iload_n 1, 1, 0, 0, 0, 0),
  (32, .iaload, 1, 0, 0, 0, 0),
  (33, .iastore, 1, 0, 0, 0, 0),
  (34, .iinc 1 1, 3, 20, 1, 0, 0),
  (37, .goto (-22), 3, 0, 0, 0, 0),
  (40, .aload_n 0, 1, 0, 0, 0, 0),
  (41, .getfield 7, 3, 0, 11, 0, 5040),
  (44, .iconst 0, 1, 20, 0, 0, 0),
  (45, .iaload, 1, 0, 0, 0, 0),
  (46, .ireturn, 1, 0, 0, 0, 0)]
/-- ThreeMagnetsModel.restore()I -/
def mz_r225 : mz_R := (11, yX11_restore, cX11_restore, 2, (some .int), false, 1, mz_k225)
def mz_k226 : mz_K := [
  (0, .aload_n 0, 1, 0, 0, 0, 0),
  (1, .getfield 7, 3, 0, 11, 0, 5040),
  (4, .iconst 2, 1, 20, 2, 0, 0),
  (5, .iaload, 1, 0, 0, 0, 0),
  (6, .bipush 24, 2, 20, 24, 0, 0),
  (8, .if_icmp .ne 9, 3, 0, 0, 0, 0),
  (11, .aload_n 0, 1, 0, 0, 0, 0),
  (12, .iconst 4, 1, 20, 4, 0, 0),
  (13, .invokevirtual 62, 3, 3, 127, 0, 5132),
  (16, .ireturn, 1, 0, 0, 0, 0),
  (17, .aload_n 0, 1, 0, 0, 0, 0),
  (18, .getfield 7, 3, 0, 11, 0, 5040),
  (21, .sipush 620, 3, 20, 620, 0, 0),
  (24, .aload_n 0, 1, 0, 0, 0, 0),
  (25, .getfield 7, 3, 0, 11, 0, 5040),
  (28, .iconst 2, 1, 20, 2, 0, 0),
  (29, .iaload, 1, 0, 0, 0, 0),
  (30, .iadd, 1, 0, 0, 0, 0),
  (31, .iload_n 1, 1, 0, 0, 0, 0),
  (32, .iastore, 1, 0, 0, 0, 0),
  (33, .aload_n 0, 1, 0, 0, 0, 0),
  (34, .getfield 7, 3, 0, 11, 0, 5040),
  (37, .iconst 2, 1, 20, 2, 0, 0),
  (38, .dup2, 1, 0, 0, 0, 0),
  (39, .iaload, 1, 0, 0, 0, 0),
  (40, .iconst 1, 1, 20, 1, 0, 0),
  (41, .iadd, 1, 0, 0, 0, 0),
  (42, .iastore, 1, 0, 0, 0, 0),
  (43, .aload_n 0, 1, 0, 0, 0, 0),
  (44, .getfield 7, 3, 0, 11, 0, 5040),
  (47, .iconst 2, 1, 20, 2, 0, 0),
  (48, .iaload, 1, 0, 0, 0, 0),
  (49, .ireturn, 1, 0, 0, 0, 0)]
/-- ThreeMagnetsModel.tell(I)I -/
def mz_r226 : mz_R := (11, yX11_tell, cX11_tell, 2, (some .int), false, 2, mz_k226)
def mz_k227 : mz_K := [
  (0, .aload_n 0, 1, 0, 0, 0, 0),
  (1, .getfield 7, 3, 0, 11, 0, 5040),
  (4, .iconst 2, 1, 20, 2, 0, 0),
  (5, .iaload, 1, 0, 0, 0, 0),
  (6, .istore_n 2, 1, 0, 0, 0, 0),
  (7, .aload_n 0, 1, 0, 0, 0, 0),
  (8, .getfield 7, 3, 0, 11, 0, 5040),
  (11, .iconst 2, 1, 20, 2, 0, 0),
  (12, .iconst 0, 1, 20, 0, 0, 0),
  (13, .iastore, 1, 0, 0, 0, 0),
  (14, .aload_n 0, 1, 0, 0, 0, 0),
  (15, .invokevirtual 220, 3, 3, 185, 0, 6112),
  (18, .ifCond .ne 9, 3, 0, 0, 0, 0),
  (21, .aload_n 0, 1, 0, 0, 0, 0),
  (22, .iconst 2, 1, 20, 2, 0, 0),
  (23, .invokevirtual 62, 3, 3, 127, 0, 5132),
  (26, .ireturn, 1, 0, 0, 0, 0),
  (27, .iload_n 1, 1, 0, 0, 0, 0),
  (28, .iconst 0, 1, 20, 0, 0, 0),
  (29, .aload_n 0, 1, 0, 0, 0, 0),
  (30, .invokevirtual 211, 3, 3, 184, 0, 6124),
  (33, .iconst 1, 1, 20, 1, 0, 0),
  (34, .isub, 1, 0, 0, 0, 0),
  (35, .invokestatic 50, 3, 2, 128, 0, 5126),
  (38, .ifCond .ne 9, 3, 0, 0, 0, 0),
  (41, .aload_n 0, 1, 0, 0, 0, 0),
  (42, .iconst 1, 1, 20, 1, 0, 0),
  (43, .invokevirtual 62, 3, 3, 127, 0, 5132),
  (46, .ireturn, 1, 0, 0, 0, 0),
  (47, .iconst 0, 1, 20, 0, 0, 0),
  (48, .istore_n 3, 1, 0, 0, 0, 0),
  (49, .iload_n 3, 1, 0, 0, 0, 0),
  (50, .iload_n 2, 1, 0, 0, 0, 0),
  (51, .if_icmp .ge 36, 3, 0, 0, 0, 0),
  (54, .iload_n 3, 1, 0, 0, 0, 0),
  (55, .aload_n 0, 1, 0, 0, 0, 0),
  (56, .invokevirtual 208, 3, 3, 183, 0, 6116),
  (59, .if_icmp .ge 28, 3, 0, 0, 0, 0),
  (62, .aload_n 0, 1, 0, 0, 0, 0),
  (63, .getfield 7, 3, 0, 11, 0, 5040),
  (66, .sipush 620, 3, 20, 620, 0, 0),
  (69, .iload_n 3, 1, 0, 0, 0, 0),
  (70, .iadd, 1, 0, 0, 0, 0),
  (71, .iaload, 1, 0, 0, 0, 0),
  (72, .aload_n 0, 1, 0, 0, 0, 0),
  (73, .iload_n 3, 1, 0, 0, 0, 0),
  (74, .iload_n 1, 1, 0, 0, 0, 0),
  (75, .invokevirtual 214, 3, 3, 186, 0, 6104),
  (78, .if_icmp .ne 9, 3, 0, 0, 0, 0),
  (81, .iinc 3 1, 3, 20, 1, 0, 0),
  (84, .goto (-35), 3, 0, 0, 0, 0),
  (87, .iload_n 3, 1, 0, 0, 0, 0),
  (88, .iload_n 2, 1, 0, 0, 0, 0),
  (89, .if_icmp .ne 15, 3, 0, 0, 0, 0),
  (92, .iload_n 3, 1, 0, 0, 0, 0),
  (93, .aload_n 0, 1, 0, 0, 0, 0),
  (94, .invokevirtual 208, 3, 3, 183, 0, 6116),
  (97, .if_icmp .ne 7, 3, 0, 0, 0, 0),
  (100, .iconst 0, 1, 20, 0, 0, 0),
  (101, .goto 6, 3, 0, 0, 0, 0),
  (104, .iconst 1, 1, 20, 1, 0, 0),
  (105, .iload_n 3, 1, 0, 0, 0, 0),
  (106, .iadd, 1, 0, 0, 0, 0),
  (107, .ireturn, 1, 0, 0, 0, 0)]
/-- ThreeMagnetsModel.check(I)I -/
def mz_r227 : mz_R := (11, yX11_check, cX11_check, 4, (some .int), false, 2, mz_k227)
def mz_k228 : mz_K := [
  (0, .iload_n 1, 1, 0, 0, 0, 0),
  (1, .tableswitch 82 0 5 #[39, 46, 56, 63, 70, 75], 39, 0, 0, 0, 0),
  (40, .aload_n 0, 1, 0, 0, 0, 0),
  (41, .getfield 7, 3, 0, 11, 0, 5040),
  (44, .iconst 0, 1, 20, 0, 0, 0),
  (45, .iaload, 1, 0, 0, 0, 0),
  (46, .ireturn, 1, 0, 0, 0, 0),
  (47, .aload_n 0, 1, 0, 0, 0, 0),
  (48, .invokevirtual 208, 3, 3, 183, 0, 6116),
  (51, .aload_n 0, 1, 0, 0, 0, 0),
  (52, .invokevirtual 211, 3, 3, 184, 0, 6124),
  (55, .imul, 1, 0, 0, 0, 0),
  (56, .ireturn, 1, 0, 0, 0, 0),
  (57, .aload_n 0, 1, 0, 0, 0, 0),
  (58, .getfield 7, 3, 0, 11, 0, 5040),
  (61, .iconst 1, 1, 20, 1, 0, 0),
  (62, .iaload, 1, 0, 0, 0, 0),
  (63, .ireturn, 1, 0, 0, 0, 0),
  (64, .aload_n 0, 1, 0, 0, 0, 0),
  (65, .getfield 7, 3, 0, 11, 0, 5040),
  (68, .iconst 2, 1, 20, 2, 0, 0),
  (69, .iaload, 1, 0, 0, 0, 0),
  (70, .ireturn, 1, 0, 0, 0, 0),
  (71, .aload_n 0, 1, 0, 0, 0, 0),
  (72, .getfield 251, 3, 0, 11, 19, 5059),
  (75, .ireturn, 1, 0, 0, 0, 0),
  (76, .aload_n 0, 1, 0, 0, 0, 0),
  (77, .getfield 7, 3, 0, 11, 0, 5040),
  (80, .iconst 3, 1, 20, 3, 0, 0),
  (81, .iaload, 1, 0, 0, 0, 0),
  (82, .ireturn, 1, 0, 0, 0, 0),
  (83, .aload_n 0, 1, 0, 0, 0, 0),
  (84, .iconst 1, 1, 20, 1, 0, 0),
  (85, .invokevirtual 62, 3, 3, 127, 0, 5132),
  (88, .ireturn, 1, 0, 0, 0, 0)]
/-- ThreeMagnetsModel.count(I)I -/
def mz_r228 : mz_R := (11, yX11_count, cX11_count, 2, (some .int), false, 2, mz_k228)
def mz_k229 : mz_K := [
  (0, .iload_n 1, 1, 0, 0, 0, 0),
  (1, .iconst 1, 1, 20, 1, 0, 0),
  (2, .bipush 6, 2, 20, 6, 0, 0),
  (4, .invokestatic 50, 3, 2, 128, 0, 5126),
  (7, .ifCond .eq 12, 3, 0, 0, 0, 0),
  (10, .aload_n 0, 1, 0, 0, 0, 0),
  (11, .getfield 16, 3, 0, 11, 3, 5043),
  (14, .iload_n 1, 1, 0, 0, 0, 0),
  (15, .iaload, 1, 0, 0, 0, 0),
  (16, .goto 8, 3, 0, 0, 0, 0),
  (19, .aload_n 0, 1, 0, 0, 0, 0),
  (20, .iconst 1, 1, 20, 1, 0, 0),
  (21, .invokevirtual 62, 3, 3, 127, 0, 5132),
  (24, .ireturn, 1, 0, 0, 0, 0)]
/-- ThreeMagnetsModel.told(I)I -/
def mz_r229 : mz_R := (11, yX11_told, cX11_told, 2, (some .int), false, 2, mz_k229)
def mz_k230 : mz_K := [
  (0, .aload_n 0, 1, 0, 0, 0, 0),
  (1, .iload_n 1, 1, 0, 0, 0, 0),
  (2, .iconst 0, 1, 20, 0, 0, 0),
  (3, .invokevirtual 633, 3, 3, 231, 0, 3055),
  (6, .ireturn, 1, 0, 0, 0, 0)]
/-- java/lang/String.indexOf(I)I -/
def mz_r230 : mz_R := (12, (⟨"java/lang/String", "indexOf", "(I)I"⟩ : MethodName), prog_17_method_79_code, 2, (some .int), false, 2, mz_k230)
def mz_k231 : mz_K := [
  (0, .aload_n 0, 1, 0, 0, 0, 0),
  (1, .invokevirtual 492, 3, 3, 232, 0, 3059),
  (4, .ifCond .eq 19, 3, 0, 0, 0, 0),
  (7, .aload_n 0, 1, 0, 0, 0, 0),
  (8, .getfield 9, 3, 5, 0, 0, 7044),
  (11, .iload_n 1, 1, 0, 0, 0, 0),
  (12, .iload_n 2, 1, 0, 0, 0, 0),
  (13, .aload_n 0, 1, 0, 0, 0, 0),
  (14, .invokevirtual 505, 3, 3, 233, 0, 3065),
  (17, .invokestatic 637, 3, 2, 235, 0, 3073),
  (20, .goto 16, 3, 0, 0, 0, 0),
  (23, .aload_n 0, 1, 0, 0, 0, 0),
  (24, .getfield 9, 3, 5, 0, 0, 7044),
  (27, .iload_n 1, 1, 0, 0, 0, 0),
  (28, .iload_n 2, 1, 0, 0, 0, 0),
  (29, .aload_n 0, 1, 0, 0, 0, 0),
  (30, .invokevirtual 505, 3, 3, 233, 0, 3065),
  (33, .invokestatic 640, 3, 99, 0, 0, 0),
  (36, .ireturn, 1, 0, 0, 0, 0)]
/-- java/lang/String.indexOf(II)I -/
def mz_r231 : mz_R := (12, (⟨"java/lang/String", "indexOf", "(II)I"⟩ : MethodName), prog_17_method_80_code, 3, (some .int), false, 3, mz_k231)
def mz_k232 : mz_K := [
  (0, .getstatic 38, 3, 6, 0, 0, 3063),
  (3, .ifCond .eq 14, 3, 0, 0, 0, 0),
  (6, .aload_n 0, 1, 0, 0, 0, 0),
  (7, .getfield 15, 3, 5, 1, 0, 7043),
  (10, .ifCond .ne 7, 3, 0, 0, 0, 0),
  (13, .iconst 1, 1, 20, 1, 0, 0),
  (14, .goto 4, 3, 0, 0, 0, 0),
  (17, .iconst 0, 1, 20, 0, 0, 0),
  (18, .ireturn, 1, 0, 0, 0, 0)]
/-- java/lang/String.isLatin1()Z -/
def mz_r232 : mz_R := (12, (⟨"java/lang/String", "isLatin1", "()Z"⟩ : MethodName), prog_17_method_154_code, 1, (some .boolean), false, 1, mz_k232)
def mz_k233 : mz_K := [
  (0, .aload_n 0, 1, 0, 0, 0, 0),
  (1, .getfield 9, 3, 5, 0, 0, 7044),
  (4, .arraylength, 1, 0, 0, 0, 0),
  (5, .aload_n 0, 1, 0, 0, 0, 0),
  (6, .invokevirtual 335, 3, 3, 234, 0, 3069),
  (9, .ishr, 1, 0, 0, 0, 0),
  (10, .ireturn, 1, 0, 0, 0, 0)]
/-- java/lang/String.length()I -/
def mz_r233 : mz_R := (12, (⟨"java/lang/String", "length", "()I"⟩ : MethodName), prog_17_method_54_code, 1, (some .int), false, 1, mz_k233)
def mz_k234 : mz_K := [
  (0, .getstatic 38, 3, 6, 0, 0, 3063),
  (3, .ifCond .eq 10, 3, 0, 0, 0, 0),
  (6, .aload_n 0, 1, 0, 0, 0, 0),
  (7, .getfield 15, 3, 5, 1, 0, 7043),
  (10, .goto 4, 3, 0, 0, 0, 0),
  (13, .iconst 1, 1, 20, 1, 0, 0),
  (14, .ireturn, 1, 0, 0, 0, 0)]
/-- java/lang/String.coder()B -/
def mz_r234 : mz_R := (12, (⟨"java/lang/String", "coder", "()B"⟩ : MethodName), prog_17_method_152_code, 1, (some .byte), false, 1, mz_k234)
def mz_k235 : mz_K := [
  (0, .iload_n 1, 1, 0, 0, 0, 0),
  (1, .invokestatic 88, 3, 2, 236, 0, 3076),
  (4, .ifCond .ne 5, 3, 0, 0, 0, 0),
  (7, .iconst (-1), 1, 21, 1, 0, 0),
  (8, .ireturn, 1, 0, 0, 0, 0),
  (9, .iload_n 2, 1, 0, 0, 0, 0),
  (10, .iconst 0, 1, 20, 0, 0, 0),
  (11, .invokestatic 92, 3, 9, 0, 0, 3079),
  (14, .istore_n 2, 1, 0, 0, 0, 0),
  (15, .iload_n 3, 1, 0, 0, 0, 0),
  (16, .aload_n 0, 1, 0, 0, 0, 0),
  (17, .arraylength, 1, 0, 0, 0, 0),
  (18, .invokestatic 38, 3, 10, 0, 0, 3080),
  (21, .istore_n 3, 1, 0, 0, 0, 0),
  (22, .iload_n 2, 1, 0, 0, 0, 0),
  (23, .iload_n 3, 1, 0, 0, 0, 0),
  (24, .if_icmp .lt 5, 3, 0, 0, 0, 0),
  (27, .iconst (-1), 1, 21, 1, 0, 0),
  (28, .ireturn, 1, 0, 0, 0, 0),
  (29, .aload_n 0, 1, 0, 0, 0, 0),
  (30, .iload_n 1, 1, 0, 0, 0, 0),
  (31, .iload_n 2, 1, 0, 0, 0, 0),
  (32, .iload_n 3, 1, 0, 0, 0, 0),
  (33, .invokestatic 95, 3, 2, 237, 0, 3081),
  (36, .ireturn, 1, 0, 0, 0, 0)]
/-- java/lang/StringLatin1.indexOf([BIII)I -/
def mz_r235 : mz_R := (13, (⟨"java/lang/StringLatin1", "indexOf", "([BIII)I"⟩ : MethodName), prog_18_method_22_code, 4, (some .int), true, 4, mz_k235)
def mz_k236 : mz_K := [
  (0, .iload_n 0, 1, 0, 0, 0, 0),
  (1, .ifCond .lt 14, 3, 0, 0, 0, 0),
  (4, .iload_n 0, 1, 0, 0, 0, 0),
  (5, .sipush 255, 3, 20, 255, 0, 0),
  (8, .if_icmp .gt 7, 3, 0, 0, 0, 0),
  (11, .iconst 1, 1, 20, 1, 0, 0),
  (12, .goto 4, 3, 0, 0, 0, 0),
  (15, .iconst 0, 1, 20, 0, 0, 0),
  (16, .ireturn, 1, 0, 0, 0, 0)]
/-- java/lang/StringLatin1.canEncode(I)Z -/
def mz_r236 : mz_R := (13, (⟨"java/lang/StringLatin1", "canEncode", "(I)Z"⟩ : MethodName), prog_18_method_4_code, 1, (some .boolean), true, 1, mz_k236)
def mz_k237 : mz_K := [
  (0, .iload_n 1, 1, 0, 0, 0, 0),
  (1, .i2b, 1, 0, 0, 0, 0),
  (2, .istore 4, 2, 0, 0, 0, 0),
  (4, .iload_n 2, 1, 0, 0, 0, 0),
  (5, .istore 5, 2, 0, 0, 0, 0),
  (7, .iload 5, 2, 0, 0, 0, 0),
  (9, .iload_n 3, 1, 0, 0, 0, 0),
  (10, .if_icmp .ge 21, 3, 0, 0, 0, 0),
  (13, .aload_n 0, 1, 0, 0, 0, 0),
  (14, .iload 5, 2, 0, 0, 0, 0),
  (16, .baload, 1, 0, 0, 0, 0),
  (17, .iload 4, 2, 0, 0, 0, 0),
  (19, .if_icmp .ne 6, 3, 0, 0, 0, 0),
  (22, .iload 5, 2, 0, 0, 0, 0),
  (24, .ireturn, 1, 0, 0, 0, 0),
  (25, .iinc 5 1, 3, 20, 1, 0, 0),
  (28, .goto (-21), 3, 0, 0, 0, 0),
  (31, .iconst (-1), 1, 21, 1, 0, 0),
  (32, .ireturn, 1, 0, 0, 0, 0)]
/-- java/lang/StringLatin1.indexOfChar([BIII)I -/
def mz_r237 : mz_R := (13, (⟨"java/lang/StringLatin1", "indexOfChar", "([BIII)I"⟩ : MethodName), prog_18_method_23_code, 6, (some .int), true, 4, mz_k237)
def mz_T_0 : List mz_R := [mz_r0, mz_r1, mz_r2, mz_r3, mz_r4, mz_r5, mz_r6, mz_r7, mz_r8, mz_r9, mz_r10, mz_r11, mz_r12, mz_r13, mz_r14, mz_r15, mz_r16, mz_r17, mz_r18, mz_r19, mz_r20, mz_r21, mz_r22, mz_r23, mz_r24, mz_r25, mz_r26, mz_r27, mz_r28, mz_r29, mz_r30, mz_r31, mz_r32, mz_r33, mz_r34, mz_r35, mz_r36, mz_r37, mz_r38, mz_r39]
def mz_T_1 : List mz_R := [mz_r40, mz_r41, mz_r42, mz_r43, mz_r44, mz_r45, mz_r46, mz_r47, mz_r48, mz_r49, mz_r50, mz_r51, mz_r52, mz_r53, mz_r54, mz_r55, mz_r56, mz_r57, mz_r58, mz_r59, mz_r60, mz_r61, mz_r62, mz_r63, mz_r64, mz_r65, mz_r66, mz_r67, mz_r68, mz_r69, mz_r70, mz_r71, mz_r72, mz_r73, mz_r74, mz_r75, mz_r76, mz_r77, mz_r78, mz_r79]
def mz_T_2 : List mz_R := [mz_r80, mz_r81, mz_r82, mz_r83, mz_r84, mz_r85, mz_r86, mz_r87, mz_r88, mz_r89, mz_r90, mz_r91, mz_r92, mz_r93, mz_r94, mz_r95, mz_r96, mz_r97, mz_r98, mz_r99, mz_r100, mz_r101, mz_r102, mz_r103, mz_r104, mz_r105, mz_r106, mz_r107, mz_r108, mz_r109, mz_r110, mz_r111, mz_r112, mz_r113, mz_r114, mz_r115, mz_r116, mz_r117, mz_r118, mz_r119]
def mz_T_3 : List mz_R := [mz_r120, mz_r121, mz_r122, mz_r123, mz_r124, mz_r125, mz_r126, mz_r127, mz_r128, mz_r129, mz_r130, mz_r131, mz_r132, mz_r133, mz_r134, mz_r135, mz_r136, mz_r137, mz_r138, mz_r139, mz_r140, mz_r141, mz_r142, mz_r143, mz_r144, mz_r145, mz_r146, mz_r147, mz_r148, mz_r149, mz_r150, mz_r151, mz_r152, mz_r153, mz_r154, mz_r155, mz_r156, mz_r157, mz_r158, mz_r159]
def mz_T_4 : List mz_R := [mz_r160, mz_r161, mz_r162, mz_r163, mz_r164, mz_r165, mz_r166, mz_r167, mz_r168, mz_r169, mz_r170, mz_r171, mz_r172, mz_r173, mz_r174, mz_r175, mz_r176, mz_r177, mz_r178, mz_r179, mz_r180, mz_r181, mz_r182, mz_r183, mz_r184, mz_r185, mz_r186, mz_r187, mz_r188, mz_r189, mz_r190, mz_r191, mz_r192, mz_r193, mz_r194, mz_r195, mz_r196, mz_r197, mz_r198, mz_r199]
def mz_T_5 : List mz_R := [mz_r200, mz_r201, mz_r202, mz_r203, mz_r204, mz_r205, mz_r206, mz_r207, mz_r208, mz_r209, mz_r210, mz_r211, mz_r212, mz_r213, mz_r214, mz_r215, mz_r216, mz_r217, mz_r218, mz_r219, mz_r220, mz_r221, mz_r222, mz_r223, mz_r224, mz_r225, mz_r226, mz_r227, mz_r228, mz_r229, mz_r230, mz_r231, mz_r232, mz_r233, mz_r234, mz_r235, mz_r236, mz_r237]
def mz_T : List mz_R := mz_T_0 ++ (mz_T_1 ++ (mz_T_2 ++ (mz_T_3 ++ (mz_T_4 ++ (mz_T_5)))))
def mz_kL : mz_K := [
  (0, .new 7, 3, 30, 10, 0, 1020),
  (3, .dup, 1, 0, 0, 0, 0),
  (4, .invokespecial 9, 3, 32, 10, 0, 1022),
  (7, .astore_n 1, 1, 0, 0, 0, 0),
  (8, .new 10, 3, 30, 11, 0, 5034),
  (11, .dup, 1, 0, 0, 0, 0),
  (12, .invokespecial 12, 3, 32, 11, 0, 5036),
  (15, .astore_n 2, 1, 0, 0, 0, 0),
  (16, .iconst 0, 1, 20, 0, 0, 0),
  (17, .istore_n 3, 1, 0, 0, 0, 0),
  (18, .iload_n 3, 1, 0, 0, 0, 0),
  (19, .aload_n 0, 1, 0, 0, 0, 0),
  (20, .arraylength, 1, 0, 0, 0, 0),
  (21, .bipush 6, 2, 20, 6, 0, 0),
  (23, .isub, 1, 0, 0, 0, 0),
  (24, .if_icmp .gt 1564, 3, 0, 0, 0, 0),
  (27, .aload_n 0, 1, 0, 0, 0, 0),
  (28, .iload_n 3, 1, 0, 0, 0, 0),
  (29, .iaload, 1, 0, 0, 0, 0),
  (30, .bipush 63, 2, 20, 63, 0, 0),
  (32, .iand, 1, 0, 0, 0, 0),
  (33, .tableswitch 1549 0 41 #[183, 236, 269, 302, 355, 368, 401, 444, 507, 530, 553, 586, 619, 642, 665, 718, 751, 784, 817, 870, 903, 926, 959, 982, 1025, 1048, 1071, 1094, 1147, 1170, 1193, 1236, 1259, 1302, 1345, 1408, 1431, 1444, 1457, 1480, 1503, 1526], 183, 0, 0, 0, 0),
  (216, .aload_n 1, 1, 0, 0, 0, 0),
  (217, .aload_n 0, 1, 0, 0, 0, 0),
  (218, .iload_n 3, 1, 0, 0, 0, 0),
  (219, .iconst 1, 1, 20, 1, 0, 0),
  (220, .iadd, 1, 0, 0, 0, 0),
  (221, .iaload, 1, 0, 0, 0, 0),
  (222, .aload_n 0, 1, 0, 0, 0, 0),
  (223, .iload_n 3, 1, 0, 0, 0, 0),
  (224, .iconst 2, 1, 20, 2, 0, 0),
  (225, .iadd, 1, 0, 0, 0, 0),
  (226, .iaload, 1, 0, 0, 0, 0),
  (227, .aload_n 0, 1, 0, 0, 0, 0),
  (228, .iload_n 3, 1, 0, 0, 0, 0),
  (229, .iconst 3, 1, 20, 3, 0, 0),
  (230, .iadd, 1, 0, 0, 0, 0),
  (231, .iaload, 1, 0, 0, 0, 0),
  (232, .aload_n 0, 1, 0, 0, 0, 0),
  (233, .iload_n 3, 1, 0, 0, 0, 0),
  (234, .iconst 4, 1, 20, 4, 0, 0),
  (235, .iadd, 1, 0, 0, 0, 0),
  (236, .iaload, 1, 0, 0, 0, 0),
  (237, .invokevirtual 13, 3, 3, 67, 0, 2122),
  (240, .aload_n 2, 1, 0, 0, 0, 0),
  (241, .aload_n 0, 1, 0, 0, 0, 0),
  (242, .iload_n 3, 1, 0, 0, 0, 0),
  (243, .iconst 1, 1, 20, 1, 0, 0),
  (244, .iadd, 1, 0, 0, 0, 0),
  (245, .iaload, 1, 0, 0, 0, 0),
  (246, .aload_n 0, 1, 0, 0, 0, 0),
  (247, .iload_n 3, 1, 0, 0, 0, 0),
  (248, .iconst 2, 1, 20, 2, 0, 0),
  (249, .iadd, 1, 0, 0, 0, 0),
  (250, .iaload, 1, 0, 0, 0, 0),
  (251, .aload_n 0, 1, 0, 0, 0, 0),
  (252, .iload_n 3, 1, 0, 0, 0, 0),
  (253, .iconst 3, 1, 20, 3, 0, 0),
  (254, .iadd, 1, 0, 0, 0, 0),
  (255, .iaload, 1, 0, 0, 0, 0),
  (256, .aload_n 0, 1, 0, 0, 0, 0),
  (257, .iload_n 3, 1, 0, 0, 0, 0),
  (258, .iconst 4, 1, 20, 4, 0, 0),
  (259, .iadd, 1, 0, 0, 0, 0),
  (260, .iaload, 1, 0, 0, 0, 0),
  (261, .invokevirtual 17, 3, 3, 137, 0, 5119),
  (264, .if_icmp .eq 1318, 3, 0, 0, 0, 0),
  (267, .iconst 0, 1, 20, 0, 0, 0),
  (268, .ireturn, 1, 0, 0, 0, 0),
  (269, .aload_n 1, 1, 0, 0, 0, 0),
  (270, .aload_n 0, 1, 0, 0, 0, 0),
  (271, .iload_n 3, 1, 0, 0, 0, 0),
  (272, .iconst 1, 1, 20, 1, 0, 0),
  (273, .iadd, 1, 0, 0, 0, 0),
  (274, .iaload, 1, 0, 0, 0, 0),
  (275, .aload_n 0, 1, 0, 0, 0, 0),
  (276, .iload_n 3, 1, 0, 0, 0, 0),
  (277, .iconst 2, 1, 20, 2, 0, 0),
  (278, .iadd, 1, 0, 0, 0, 0),
  (279, .iaload, 1, 0, 0, 0, 0),
  (280, .invokevirtual 18, 3, 3, 68, 0, 2152),
  (283, .aload_n 2, 1, 0, 0, 0, 0),
  (284, .aload_n 0, 1, 0, 0, 0, 0),
  (285, .iload_n 3, 1, 0, 0, 0, 0),
  (286, .iconst 1, 1, 20, 1, 0, 0),
  (287, .iadd, 1, 0, 0, 0, 0),
  (288, .iaload, 1, 0, 0, 0, 0),
  (289, .aload_n 0, 1, 0, 0, 0, 0),
  (290, .iload_n 3, 1, 0, 0, 0, 0),
  (291, .iconst 2, 1, 20, 2, 0, 0),
  (292, .iadd, 1, 0, 0, 0, 0),
  (293, .iaload, 1, 0, 0, 0, 0),
  (294, .invokevirtual 22, 3, 3, 138, 0, 5141),
  (297, .if_icmp .eq 1285, 3, 0, 0, 0, 0),
  (300, .iconst 0, 1, 20, 0, 0, 0),
  (301, .ireturn, 1, 0, 0, 0, 0),
  (302, .aload_n 1, 1, 0, 0, 0, 0),
  (303, .aload_n 0, 1, 0, 0, 0, 0),
  (304, .iload_n 3, 1, 0, 0, 0, 0),
  (305, .iconst 1, 1, 20, 1, 0, 0),
  (306, .iadd, 1, 0, 0, 0, 0),
  (307, .iaload, 1, 0, 0, 0, 0),
  (308, .aload_n 0, 1, 0, 0, 0, 0),
  (309, .iload_n 3, 1, 0, 0, 0, 0),
  (310, .iconst 2, 1, 20, 2, 0, 0),
  (311, .iadd, 1, 0, 0, 0, 0),
  (312, .iaload, 1, 0, 0, 0, 0),
  (313, .invokevirtual 23, 3, 3, 69, 0, 2201),
  (316, .aload_n 2, 1, 0, 0, 0, 0),
  (317, .aload_n 0, 1, 0, 0, 0, 0),
  (318, .iload_n 3, 1, 0, 0, 0, 0),
  (319, .iconst 1, 1, 20, 1, 0, 0),
  (320, .iadd, 1, 0, 0, 0, 0),
  (321, .iaload, 1, 0, 0, 0, 0),
  (322, .aload_n 0, 1, 0, 0, 0, 0),
  (323, .iload_n 3, 1, 0, 0, 0, 0),
  (324, .iconst 2, 1, 20, 2, 0, 0),
  (325, .iadd, 1, 0, 0, 0, 0),
  (326, .iaload, 1, 0, 0, 0, 0),
  (327, .invokevirtual 26, 3, 3, 139, 0, 5186),
  (330, .if_icmp .eq 1252, 3, 0, 0, 0, 0),
  (333, .iconst 0, 1, 20, 0, 0, 0),
  (334, .ireturn, 1, 0, 0, 0, 0),
  (335, .aload_n 1, 1, 0, 0, 0, 0),
  (336, .aload_n 0, 1, 0, 0, 0, 0),
  (337, .iload_n 3, 1, 0, 0, 0, 0),
  (338, .iconst 1, 1, 20, 1, 0, 0),
  (339, .iadd, 1, 0, 0, 0, 0),
  (340, .iaload, 1, 0, 0, 0, 0),
  (341, .aload_n 0, 1, 0, 0, 0, 0),
  (342, .iload_n 3, 1, 0, 0, 0, 0),
  (343, .iconst 2, 1, 20, 2, 0, 0),
  (344, .iadd, 1, 0, 0, 0, 0),
  (345, .iaload, 1, 0, 0, 0, 0),
  (346, .aload_n 0, 1, 0, 0, 0, 0),
  (347, .iload_n 3, 1, 0, 0, 0, 0),
  (348, .iconst 3, 1, 20, 3, 0, 0),
  (349, .iadd, 1, 0, 0, 0, 0),
  (350, .iaload, 1, 0, 0, 0, 0),
  (351, .aload_n 0, 1, 0, 0, 0, 0),
  (352, .iload_n 3, 1, 0, 0, 0, 0),
  (353, .iconst 4, 1, 20, 4, 0, 0),
  (354, .iadd, 1, 0, 0, 0, 0),
  (355, .iaload, 1, 0, 0, 0, 0),
  (356, .invokevirtual 27, 3, 3, 70, 0, 2210),
  (359, .aload_n 2, 1, 0, 0, 0, 0),
  (360, .aload_n 0, 1, 0, 0, 0, 0),
  (361, .iload_n 3, 1, 0, 0, 0, 0),
  (362, .iconst 1, 1, 20, 1, 0, 0),
  (363, .iadd, 1, 0, 0, 0, 0),
  (364, .iaload, 1, 0, 0, 0, 0),
  (365, .aload_n 0, 1, 0, 0, 0, 0),
  (366, .iload_n 3, 1, 0, 0, 0, 0),
  (367, .iconst 2, 1, 20, 2, 0, 0),
  (368, .iadd, 1, 0, 0, 0, 0),
  (369, .iaload, 1, 0, 0, 0, 0),
  (370, .aload_n 0, 1, 0, 0, 0, 0),
  (371, .iload_n 3, 1, 0, 0, 0, 0),
  (372, .iconst 3, 1, 20, 3, 0, 0),
  (373, .iadd, 1, 0, 0, 0, 0),
  (374, .iaload, 1, 0, 0, 0, 0),
  (375, .aload_n 0, 1, 0, 0, 0, 0),
  (376, .iload_n 3, 1, 0, 0, 0, 0),
  (377, .iconst 4, 1, 20, 4, 0, 0),
  (378, .iadd, 1, 0, 0, 0, 0),
  (379, .iaload, 1, 0, 0, 0, 0),
  (380, .invokevirtual 30, 3, 3, 140, 0, 5193),
  (383, .if_icmp .eq 1199, 3, 0, 0, 0, 0),
  (386, .iconst 0, 1, 20, 0, 0, 0),
  (387, .ireturn, 1, 0, 0, 0, 0),
  (388, .aload_n 1, 1, 0, 0, 0, 0),
  (389, .invokevirtual 31, 3, 3, 71, 0, 2214),
  (392, .aload_n 2, 1, 0, 0, 0, 0),
  (393, .invokevirtual 35, 3, 3, 141, 0, 5197),
  (396, .if_icmp .eq 1186, 3, 0, 0, 0, 0),
  (399, .iconst 0, 1, 20, 0, 0, 0),
  (400, .ireturn, 1, 0, 0, 0, 0),
  (401, .aload_n 1, 1, 0, 0, 0, 0),
  (402, .aload_n 0, 1, 0, 0, 0, 0),
  (403, .iload_n 3, 1, 0, 0, 0, 0),
  (404, .iconst 1, 1, 20, 1, 0, 0),
  (405, .iadd, 1, 0, 0, 0, 0),
  (406, .iaload, 1, 0, 0, 0, 0),
  (407, .aload_n 0, 1, 0, 0, 0, 0),
  (408, .iload_n 3, 1, 0, 0, 0, 0),
  (409, .iconst 2, 1, 20, 2, 0, 0),
  (410, .iadd, 1, 0, 0, 0, 0),
  (411, .iaload, 1, 0, 0, 0, 0),
  (412, .invokevirtual 36, 3, 3, 72, 0, 2218),
  (415, .aload_n 2, 1, 0, 0, 0, 0),
  (416, .aload_n 0, 1, 0, 0, 0, 0),
  (417, .iload_n 3, 1, 0, 0, 0, 0),
  (418, .iconst 1, 1, 20, 1, 0, 0),
  (419, .iadd, 1, 0, 0, 0, 0),
  (420, .iaload, 1, 0, 0, 0, 0),
  (421, .aload_n 0, 1, 0, 0, 0, 0),
  (422, .iload_n 3, 1, 0, 0, 0, 0),
  (423, .iconst 2, 1, 20, 2, 0, 0),
  (424, .iadd, 1, 0, 0, 0, 0),
  (425, .iaload, 1, 0, 0, 0, 0),
  (426, .invokevirtual 39, 3, 3, 143, 0, 5201),
  (429, .if_icmp .eq 1153, 3, 0, 0, 0, 0),
  (432, .iconst 0, 1, 20, 0, 0, 0),
  (433, .ireturn, 1, 0, 0, 0, 0),
  (434, .aload_n 1, 1, 0, 0, 0, 0),
  (435, .aload_n 0, 1, 0, 0, 0, 0),
  (436, .iload_n 3, 1, 0, 0, 0, 0),
  (437, .iconst 1, 1, 20, 1, 0, 0),
  (438, .iadd, 1, 0, 0, 0, 0),
  (439, .iaload, 1, 0, 0, 0, 0),
  (440, .aload_n 0, 1, 0, 0, 0, 0),
  (441, .iload_n 3, 1, 0, 0, 0, 0),
  (442, .iconst 2, 1, 20, 2, 0, 0),
  (443, .iadd, 1, 0, 0, 0, 0),
  (444, .iaload, 1, 0, 0, 0, 0),
  (445, .aload_n 0, 1, 0, 0, 0, 0),
  (446, .iload_n 3, 1, 0, 0, 0, 0),
  (447, .iconst 3, 1, 20, 3, 0, 0),
  (448, .iadd, 1, 0, 0, 0, 0),
  (449, .iaload, 1, 0, 0, 0, 0),
  (450, .invokevirtual 40, 3, 3, 73, 0, 2226),
  (453, .aload_n 2, 1, 0, 0, 0, 0),
  (454, .aload_n 0, 1, 0, 0, 0, 0),
  (455, .iload_n 3, 1, 0, 0, 0, 0),
  (456, .iconst 1, 1, 20, 1, 0, 0),
  (457, .iadd, 1, 0, 0, 0, 0),
  (458, .iaload, 1, 0, 0, 0, 0),
  (459, .aload_n 0, 1, 0, 0, 0, 0),
  (460, .iload_n 3, 1, 0, 0, 0, 0),
  (461, .iconst 2, 1, 20, 2, 0, 0),
  (462, .iadd, 1, 0, 0, 0, 0),
  (463, .iaload, 1, 0, 0, 0, 0),
  (464, .aload_n 0, 1, 0, 0, 0, 0),
  (465, .iload_n 3, 1, 0, 0, 0, 0),
  (466, .iconst 3, 1, 20, 3, 0, 0),
  (467, .iadd, 1, 0, 0, 0, 0),
  (468, .iaload, 1, 0, 0, 0, 0),
  (469, .invokevirtual 44, 3, 3, 157, 0, 5208),
  (472, .if_icmp .eq 1110, 3, 0, 0, 0, 0),
  (475, .iconst 0, 1, 20, 0, 0, 0),
  (476, .ireturn, 1, 0, 0, 0, 0),
  (477, .aload_n 1, 1, 0, 0, 0, 0),
  (478, .aload_n 0, 1, 0, 0, 0, 0),
  (479, .iload_n 3, 1, 0, 0, 0, 0),
  (480, .iconst 1, 1, 20, 1, 0, 0),
  (481, .iadd, 1, 0, 0, 0, 0),
  (482, .iaload, 1, 0, 0, 0, 0),
  (483, .i2l, 1, 0, 0, 0, 0),
  (484, .bipush 32, 2, 20, 32, 0, 0),
  (486, .lshl, 1, 0, 0, 0, 0),
  (487, .aload_n 0, 1, 0, 0, 0, 0),
  (488, .iload_n 3, 1, 0, 0, 0, 0),
  (489, .iconst 2, 1, 20, 2, 0, 0),
  (490, .iadd, 1, 0, 0, 0, 0),
  (491, .iaload, 1, 0, 0, 0, 0),
  (492, .i2l, 1, 0, 0, 0, 0),
  (493, .ldc2_w 45, 3, 23, 4294967295, 0, 7042),
  (496, .land, 1, 0, 0, 0, 0),
  (497, .lor, 1, 0, 0, 0, 0),
  (498, .aload_n 0, 1, 0, 0, 0, 0),
  (499, .iload_n 3, 1, 0, 0, 0, 0),
  (500, .iconst 3, 1, 20, 3, 0, 0),
  (501, .iadd, 1, 0, 0, 0, 0),
  (502, .iaload, 1, 0, 0, 0, 0),
  (503, .invokevirtual 47, 3, 3, 74, 0, 2239),
  (506, .aload_n 2, 1, 0, 0, 0, 0),
  (507, .aload_n 0, 1, 0, 0, 0, 0),
  (508, .iload_n 3, 1, 0, 0, 0, 0),
  (509, .iconst 1, 1, 20, 1, 0, 0),
  (510, .iadd, 1, 0, 0, 0, 0),
  (511, .iaload, 1, 0, 0, 0, 0),
  (512, .i2l, 1, 0, 0, 0, 0),
  (513, .bipush 32, 2, 20, 32, 0, 0),
  (515, .lshl, 1, 0, 0, 0, 0),
  (516, .aload_n 0, 1, 0, 0, 0, 0),
  (517, .iload_n 3, 1, 0, 0, 0, 0),
  (518, .iconst 2, 1, 20, 2, 0, 0),
  (519, .iadd, 1, 0, 0, 0, 0),
  (520, .iaload, 1, 0, 0, 0, 0),
  (521, .i2l, 1, 0, 0, 0, 0),
  (522, .ldc2_w 45, 3, 23, 4294967295, 0, 7042),
  (525, .land, 1, 0, 0, 0, 0),
  (526, .lor, 1, 0, 0, 0, 0),
  (527, .aload_n 0, 1, 0, 0, 0, 0),
  (528, .iload_n 3, 1, 0, 0, 0, 0),
  (529, .iconst 3, 1, 20, 3, 0, 0),
  (530, .iadd, 1, 0, 0, 0, 0),
  (531, .iaload, 1, 0, 0, 0, 0),
  (532, .invokevirtual 51, 3, 3, 158, 0, 5220),
  (535, .if_icmp .eq 1047, 3, 0, 0, 0, 0),
  (538, .iconst 0, 1, 20, 0, 0, 0),
  (539, .ireturn, 1, 0, 0, 0, 0),
  (540, .aload_n 1, 1, 0, 0, 0, 0),
  (541, .aload_n 0, 1, 0, 0, 0, 0),
  (542, .iload_n 3, 1, 0, 0, 0, 0),
  (543, .iconst 1, 1, 20, 1, 0, 0),
  (544, .iadd, 1, 0, 0, 0, 0),
  (545, .iaload, 1, 0, 0, 0, 0),
  (546, .invokevirtual 52, 3, 3, 75, 0, 3003),
  (549, .aload_n 2, 1, 0, 0, 0, 0),
  (550, .aload_n 0, 1, 0, 0, 0, 0),
  (551, .iload_n 3, 1, 0, 0, 0, 0),
  (552, .iconst 1, 1, 20, 1, 0, 0),
  (553, .iadd, 1, 0, 0, 0, 0),
  (554, .iaload, 1, 0, 0, 0, 0),
  (555, .invokevirtual 56, 3, 3, 170, 0, 5225),
  (558, .if_icmp .eq 1024, 3, 0, 0, 0, 0),
  (561, .iconst 0, 1, 20, 0, 0, 0),
  (562, .ireturn, 1, 0, 0, 0, 0),
  (563, .aload_n 1, 1, 0, 0, 0, 0),
  (564, .aload_n 0, 1, 0, 0, 0, 0),
  (565, .iload_n 3, 1, 0, 0, 0, 0),
  (566, .iconst 1, 1, 20, 1, 0, 0),
  (567, .iadd, 1, 0, 0, 0, 0),
  (568, .iaload, 1, 0, 0, 0, 0),
  (569, .invokevirtual 57, 3, 3, 76, 0, 3150),
  (572, .aload_n 2, 1, 0, 0, 0, 0),
  (573, .aload_n 0, 1, 0, 0, 0, 0),
  (574, .iload_n 3, 1, 0, 0, 0, 0),
  (575, .iconst 1, 1, 20, 1, 0, 0),
  (576, .iadd, 1, 0, 0, 0, 0),
  (577, .iaload, 1, 0, 0, 0, 0),
  (578, .invokevirtual 60, 3, 3, 171, 0, 6029),
  (581, .if_icmp .eq 1001, 3, 0, 0, 0, 0),
  (584, .iconst 0, 1, 20, 0, 0, 0),
  (585, .ireturn, 1, 0, 0, 0, 0),
  (586, .aload_n 1, 1, 0, 0, 0, 0),
  (587, .aload_n 0, 1, 0, 0, 0, 0),
  (588, .iload_n 3, 1, 0, 0, 0, 0),
  (589, .iconst 1, 1, 20, 1, 0, 0),
  (590, .iadd, 1, 0, 0, 0, 0),
  (591, .iaload, 1, 0, 0, 0, 0),
  (592, .aload_n 0, 1, 0, 0, 0, 0),
  (593, .iload_n 3, 1, 0, 0, 0, 0),
  (594, .iconst 2, 1, 20, 2, 0, 0),
  (595, .iadd, 1, 0, 0, 0, 0),
  (596, .iaload, 1, 0, 0, 0, 0),
  (597, .invokevirtual 61, 3, 3, 77, 0, 3154),
  (600, .aload_n 2, 1, 0, 0, 0, 0),
  (601, .aload_n 0, 1, 0, 0, 0, 0),
  (602, .iload_n 3, 1, 0, 0, 0, 0),
  (603, .iconst 1, 1, 20, 1, 0, 0),
  (604, .iadd, 1, 0, 0, 0, 0),
  (605, .iaload, 1, 0, 0, 0, 0),
  (606, .aload_n 0, 1, 0, 0, 0, 0),
  (607, .iload_n 3, 1, 0, 0, 0, 0),
  (608, .iconst 2, 1, 20, 2, 0, 0),
  (609, .iadd, 1, 0, 0, 0, 0),
  (610, .iaload, 1, 0, 0, 0, 0),
  (611, .invokevirtual 64, 3, 3, 174, 0, 6033),
  (614, .if_icmp .eq 968, 3, 0, 0, 0, 0),
  (617, .iconst 0, 1, 20, 0, 0, 0),
  (618, .ireturn, 1, 0, 0, 0, 0),
  (619, .aload_n 1, 1, 0, 0, 0, 0),
  (620, .aload_n 0, 1, 0, 0, 0, 0),
  (621, .iload_n 3, 1, 0, 0, 0, 0),
  (622, .iconst 1, 1, 20, 1, 0, 0),
  (623, .iadd, 1, 0, 0, 0, 0),
  (624, .iaload, 1, 0, 0, 0, 0),
  (625, .aload_n 0, 1, 0, 0, 0, 0),
  (626, .iload_n 3, 1, 0, 0, 0, 0),
  (627, .iconst 2, 1, 20, 2, 0, 0),
  (628, .iadd, 1, 0, 0, 0, 0),
  (629, .iaload, 1, 0, 0, 0, 0),
  (630, .invokevirtual 65, 3, 3, 78, 0, 3162),
  (633, .aload_n 2, 1, 0, 0, 0, 0),
  (634, .aload_n 0, 1, 0, 0, 0, 0),
  (635, .iload_n 3, 1, 0, 0, 0, 0),
  (636, .iconst 1, 1, 20, 1, 0, 0),
  (637, .iadd, 1, 0, 0, 0, 0),
  (638, .iaload, 1, 0, 0, 0, 0),
  (639, .aload_n 0, 1, 0, 0, 0, 0),
  (640, .iload_n 3, 1, 0, 0, 0, 0),
  (641, .iconst 2, 1, 20, 2, 0, 0),
  (642, .iadd, 1, 0, 0, 0, 0),
  (643, .iaload, 1, 0, 0, 0, 0),
  (644, .invokevirtual 68, 3, 3, 176, 0, 6041),
  (647, .if_icmp .eq 935, 3, 0, 0, 0, 0),
  (650, .iconst 0, 1, 20, 0, 0, 0),
  (651, .ireturn, 1, 0, 0, 0, 0),
  (652, .aload_n 1, 1, 0, 0, 0, 0),
  (653, .aload_n 0, 1, 0, 0, 0, 0),
  (654, .iload_n 3, 1, 0, 0, 0, 0),
  (655, .iconst 1, 1, 20, 1, 0, 0),
  (656, .iadd, 1, 0, 0, 0, 0),
  (657, .iaload, 1, 0, 0, 0, 0),
  (658, .invokevirtual 69, 3, 3, 79, 0, 3169),
  (661, .aload_n 2, 1, 0, 0, 0, 0),
  (662, .aload_n 0, 1, 0, 0, 0, 0),
  (663, .iload_n 3, 1, 0, 0, 0, 0),
  (664, .iconst 1, 1, 20, 1, 0, 0),
  (665, .iadd, 1, 0, 0, 0, 0),
  (666, .iaload, 1, 0, 0, 0, 0),
  (667, .invokevirtual 72, 3, 3, 177, 0, 6048),
  (670, .if_icmp .eq 912, 3, 0, 0, 0, 0),
  (673, .iconst 0, 1, 20, 0, 0, 0),
  (674, .ireturn, 1, 0, 0, 0, 0),
  (675, .aload_n 1, 1, 0, 0, 0, 0),
  (676, .aload_n 0, 1, 0, 0, 0, 0),
  (677, .iload_n 3, 1, 0, 0, 0, 0),
  (678, .iconst 1, 1, 20, 1, 0, 0),
  (679, .iadd, 1, 0, 0, 0, 0),
  (680, .iaload, 1, 0, 0, 0, 0),
  (681, .invokevirtual 73, 3, 3, 80, 0, 3187),
  (684, .aload_n 2, 1, 0, 0, 0, 0),
  (685, .aload_n 0, 1, 0, 0, 0, 0),
  (686, .iload_n 3, 1, 0, 0, 0, 0),
  (687, .iconst 1, 1, 20, 1, 0, 0),
  (688, .iadd, 1, 0, 0, 0, 0),
  (689, .iaload, 1, 0, 0, 0, 0),
  (690, .invokevirtual 76, 3, 3, 178, 0, 6064),
  (693, .if_icmp .eq 889, 3, 0, 0, 0, 0),
  (696, .iconst 0, 1, 20, 0, 0, 0),
  (697, .ireturn, 1, 0, 0, 0, 0),
  (698, .aload_n 1, 1, 0, 0, 0, 0),
  (699, .aload_n 0, 1, 0, 0, 0, 0),
  (700, .iload_n 3, 1, 0, 0, 0, 0),
  (701, .iconst 1, 1, 20, 1, 0, 0),
  (702, .iadd, 1, 0, 0, 0, 0),
  (703, .iaload, 1, 0, 0, 0, 0),
  (704, .aload_n 0, 1, 0, 0, 0, 0),
  (705, .iload_n 3, 1, 0, 0, 0, 0),
  (706, .iconst 2, 1, 20, 2, 0, 0),
  (707, .iadd, 1, 0, 0, 0, 0),
  (708, .iaload, 1, 0, 0, 0, 0),
  (709, .aload_n 0, 1, 0, 0, 0, 0),
  (710, .iload_n 3, 1, 0, 0, 0, 0),
  (711, .iconst 3, 1, 20, 3, 0, 0),
  (712, .iadd, 1, 0, 0, 0, 0),
  (713, .iaload, 1, 0, 0, 0, 0),
  (714, .aload_n 0, 1, 0, 0, 0, 0),
  (715, .iload_n 3, 1, 0, 0, 0, 0),
  (716, .iconst 4, 1, 20, 4, 0, 0),
  (717, .iadd, 1, 0, 0, 0, 0),
  (718, .iaload, 1, 0, 0, 0, 0),
  (719, .invokevirtual 77, 3, 3, 81, 0, 3195),
  (722, .aload_n 2, 1, 0, 0, 0, 0),
  (723, .aload_n 0, 1, 0, 0, 0, 0),
  (724, .iload_n 3, 1, 0, 0, 0, 0),
  (725, .iconst 1, 1, 20, 1, 0, 0),
  (726, .iadd, 1, 0, 0, 0, 0),
  (727, .iaload, 1, 0, 0, 0, 0),
  (728, .aload_n 0, 1, 0, 0, 0, 0),
  (729, .iload_n 3, 1, 0, 0, 0, 0),
  (730, .iconst 2, 1, 20, 2, 0, 0),
  (731, .iadd, 1, 0, 0, 0, 0),
  (732, .iaload, 1, 0, 0, 0, 0),
  (733, .aload_n 0, 1, 0, 0, 0, 0),
  (734, .iload_n 3, 1, 0, 0, 0, 0),
  (735, .iconst 3, 1, 20, 3, 0, 0),
  (736, .iadd, 1, 0, 0, 0, 0),
  (737, .iaload, 1, 0, 0, 0, 0),
  (738, .aload_n 0, 1, 0, 0, 0, 0),
  (739, .iload_n 3, 1, 0, 0, 0, 0),
  (740, .iconst 4, 1, 20, 4, 0, 0),
  (741, .iadd, 1, 0, 0, 0, 0),
  (742, .iaload, 1, 0, 0, 0, 0),
  (743, .invokevirtual 80, 3, 3, 179, 0, 6072),
  (746, .if_icmp .eq 836, 3, 0, 0, 0, 0),
  (749, .iconst 0, 1, 20, 0, 0, 0),
  (750, .ireturn, 1, 0, 0, 0, 0),
  (751, .aload_n 1, 1, 0, 0, 0, 0),
  (752, .aload_n 0, 1, 0, 0, 0, 0),
  (753, .iload_n 3, 1, 0, 0, 0, 0),
  (754, .iconst 1, 1, 20, 1, 0, 0),
  (755, .iadd, 1, 0, 0, 0, 0),
  (756, .iaload, 1, 0, 0, 0, 0),
  (757, .aload_n 0, 1, 0, 0, 0, 0),
  (758, .iload_n 3, 1, 0, 0, 0, 0),
  (759, .iconst 2, 1, 20, 2, 0, 0),
  (760, .iadd, 1, 0, 0, 0, 0),
  (761, .iaload, 1, 0, 0, 0, 0),
  (762, .invokevirtual 81, 3, 3, 82, 0, 3206),
  (765, .aload_n 2, 1, 0, 0, 0, 0),
  (766, .aload_n 0, 1, 0, 0, 0, 0),
  (767, .iload_n 3, 1, 0, 0, 0, 0),
  (768, .iconst 1, 1, 20, 1, 0, 0),
  (769, .iadd, 1, 0, 0, 0, 0),
  (770, .iaload, 1, 0, 0, 0, 0),
  (771, .aload_n 0, 1, 0, 0, 0, 0),
  (772, .iload_n 3, 1, 0, 0, 0, 0),
  (773, .iconst 2, 1, 20, 2, 0, 0),
  (774, .iadd, 1, 0, 0, 0, 0),
  (775, .iaload, 1, 0, 0, 0, 0),
  (776, .invokevirtual 84, 3, 3, 180, 0, 6080),
  (779, .if_icmp .eq 803, 3, 0, 0, 0, 0),
  (782, .iconst 0, 1, 20, 0, 0, 0),
  (783, .ireturn, 1, 0, 0, 0, 0),
  (784, .aload_n 1, 1, 0, 0, 0, 0),
  (785, .aload_n 0, 1, 0, 0, 0, 0),
  (786, .iload_n 3, 1, 0, 0, 0, 0),
  (787, .iconst 1, 1, 20, 1, 0, 0),
  (788, .iadd, 1, 0, 0, 0, 0),
  (789, .iaload, 1, 0, 0, 0, 0),
  (790, .aload_n 0, 1, 0, 0, 0, 0),
  (791, .iload_n 3, 1, 0, 0, 0, 0),
  (792, .iconst 2, 1, 20, 2, 0, 0),
  (793, .iadd, 1, 0, 0, 0, 0),
  (794, .iaload, 1, 0, 0, 0, 0),
  (795, .invokevirtual 85, 3, 3, 83, 0, 3210),
  (798, .aload_n 2, 1, 0, 0, 0, 0),
  (799, .aload_n 0, 1, 0, 0, 0, 0),
  (800, .iload_n 3, 1, 0, 0, 0, 0),
  (801, .iconst 1, 1, 20, 1, 0, 0),
  (802, .iadd, 1, 0, 0, 0, 0),
  (803, .iaload, 1, 0, 0, 0, 0),
  (804, .aload_n 0, 1, 0, 0, 0, 0),
  (805, .iload_n 3, 1, 0, 0, 0, 0),
  (806, .iconst 2, 1, 20, 2, 0, 0),
  (807, .iadd, 1, 0, 0, 0, 0),
  (808, .iaload, 1, 0, 0, 0, 0),
  (809, .invokevirtual 88, 3, 3, 181, 0, 6088),
  (812, .if_icmp .eq 770, 3, 0, 0, 0, 0),
  (815, .iconst 0, 1, 20, 0, 0, 0),
  (816, .ireturn, 1, 0, 0, 0, 0),
  (817, .aload_n 1, 1, 0, 0, 0, 0),
  (818, .aload_n 0, 1, 0, 0, 0, 0),
  (819, .iload_n 3, 1, 0, 0, 0, 0),
  (820, .iconst 1, 1, 20, 1, 0, 0),
  (821, .iadd, 1, 0, 0, 0, 0),
  (822, .iaload, 1, 0, 0, 0, 0),
  (823, .aload_n 0, 1, 0, 0, 0, 0),
  (824, .iload_n 3, 1, 0, 0, 0, 0),
  (825, .iconst 2, 1, 20, 2, 0, 0),
  (826, .iadd, 1, 0, 0, 0, 0),
  (827, .iaload, 1, 0, 0, 0, 0),
  (828, .invokevirtual 89, 3, 3, 84, 0, 3214),
  (831, .aload_n 2, 1, 0, 0, 0, 0),
  (832, .aload_n 0, 1, 0, 0, 0, 0),
  (833, .iload_n 3, 1, 0, 0, 0, 0),
  (834, .iconst 1, 1, 20, 1, 0, 0),
  (835, .iadd, 1, 0, 0, 0, 0),
  (836, .iaload, 1, 0, 0, 0, 0),
  (837, .aload_n 0, 1, 0, 0, 0, 0),
  (838, .iload_n 3, 1, 0, 0, 0, 0),
  (839, .iconst 2, 1, 20, 2, 0, 0),
  (840, .iadd, 1, 0, 0, 0, 0),
  (841, .iaload, 1, 0, 0, 0, 0),
  (842, .invokevirtual 92, 3, 3, 182, 0, 6092),
  (845, .if_icmp .eq 737, 3, 0, 0, 0, 0),
  (848, .iconst 0, 1, 20, 0, 0, 0),
  (849, .ireturn, 1, 0, 0, 0, 0),
  (850, .aload_n 1, 1, 0, 0, 0, 0),
  (851, .aload_n 0, 1, 0, 0, 0, 0),
  (852, .iload_n 3, 1, 0, 0, 0, 0),
  (853, .iconst 1, 1, 20, 1, 0, 0),
  (854, .iadd, 1, 0, 0, 0, 0),
  (855, .iaload, 1, 0, 0, 0, 0),
  (856, .aload_n 0, 1, 0, 0, 0, 0),
  (857, .iload_n 3, 1, 0, 0, 0, 0),
  (858, .iconst 2, 1, 20, 2, 0, 0),
  (859, .iadd, 1, 0, 0, 0, 0),
  (860, .iaload, 1, 0, 0, 0, 0),
  (861, .aload_n 0, 1, 0, 0, 0, 0),
  (862, .iload_n 3, 1, 0, 0, 0, 0),
  (863, .iconst 3, 1, 20, 3, 0, 0),
  (864, .iadd, 1, 0, 0, 0, 0),
  (865, .iaload, 1, 0, 0, 0, 0),
  (866, .aload_n 0, 1, 0, 0, 0, 0),
  (867, .iload_n 3, 1, 0, 0, 0, 0),
  (868, .iconst 4, 1, 20, 4, 0, 0),
  (869, .iadd, 1, 0, 0, 0, 0),
  (870, .iaload, 1, 0, 0, 0, 0),
  (871, .invokevirtual 93, 3, 3, 85, 0, 3218),
  (874, .aload_n 2, 1, 0, 0, 0, 0),
  (875, .aload_n 0, 1, 0, 0, 0, 0),
  (876, .iload_n 3, 1, 0, 0, 0, 0),
  (877, .iconst 1, 1, 20, 1, 0, 0),
  (878, .iadd, 1, 0, 0, 0, 0),
  (879, .iaload, 1, 0, 0, 0, 0),
  (880, .aload_n 0, 1, 0, 0, 0, 0),
  (881, .iload_n 3, 1, 0, 0, 0, 0),
  (882, .iconst 2, 1, 20, 2, 0, 0),
  (883, .iadd, 1, 0, 0, 0, 0),
  (884, .iaload, 1, 0, 0, 0, 0),
  (885, .aload_n 0, 1, 0, 0, 0, 0),
  (886, .iload_n 3, 1, 0, 0, 0, 0),
  (887, .iconst 3, 1, 20, 3, 0, 0),
  (888, .iadd, 1, 0, 0, 0, 0),
  (889, .iaload, 1, 0, 0, 0, 0),
  (890, .aload_n 0, 1, 0, 0, 0, 0),
  (891, .iload_n 3, 1, 0, 0, 0, 0),
  (892, .iconst 4, 1, 20, 4, 0, 0),
  (893, .iadd, 1, 0, 0, 0, 0),
  (894, .iaload, 1, 0, 0, 0, 0),
  (895, .invokevirtual 96, 3, 3, 190, 0, 6096),
  (898, .if_icmp .eq 684, 3, 0, 0, 0, 0),
  (901, .iconst 0, 1, 20, 0, 0, 0),
  (902, .ireturn, 1, 0, 0, 0, 0),
  (903, .aload_n 1, 1, 0, 0, 0, 0),
  (904, .aload_n 0, 1, 0, 0, 0, 0),
  (905, .iload_n 3, 1, 0, 0, 0, 0),
  (906, .iconst 1, 1, 20, 1, 0, 0),
  (907, .iadd, 1, 0, 0, 0, 0),
  (908, .iaload, 1, 0, 0, 0, 0),
  (909, .aload_n 0, 1, 0, 0, 0, 0),
  (910, .iload_n 3, 1, 0, 0, 0, 0),
  (911, .iconst 2, 1, 20, 2, 0, 0),
  (912, .iadd, 1, 0, 0, 0, 0),
  (913, .iaload, 1, 0, 0, 0, 0),
  (914, .invokevirtual 97, 3, 3, 86, 0, 4010),
  (917, .aload_n 2, 1, 0, 0, 0, 0),
  (918, .aload_n 0, 1, 0, 0, 0, 0),
  (919, .iload_n 3, 1, 0, 0, 0, 0),
  (920, .iconst 1, 1, 20, 1, 0, 0),
  (921, .iadd, 1, 0, 0, 0, 0),
  (922, .iaload, 1, 0, 0, 0, 0),
  (923, .aload_n 0, 1, 0, 0, 0, 0),
  (924, .iload_n 3, 1, 0, 0, 0, 0),
  (925, .iconst 2, 1, 20, 2, 0, 0),
  (926, .iadd, 1, 0, 0, 0, 0),
  (927, .iaload, 1, 0, 0, 0, 0),
  (928, .invokevirtual 100, 3, 3, 191, 0, 6108),
  (931, .if_icmp .eq 651, 3, 0, 0, 0, 0),
  (934, .iconst 0, 1, 20, 0, 0, 0),
  (935, .ireturn, 1, 0, 0, 0, 0),
  (936, .aload_n 1, 1, 0, 0, 0, 0),
  (937, .aload_n 0, 1, 0, 0, 0, 0),
  (938, .iload_n 3, 1, 0, 0, 0, 0),
  (939, .iconst 1, 1, 20, 1, 0, 0),
  (940, .iadd, 1, 0, 0, 0, 0),
  (941, .iaload, 1, 0, 0, 0, 0),
  (942, .invokevirtual 101, 3, 3, 87, 0, 4020),
  (945, .aload_n 2, 1, 0, 0, 0, 0),
  (946, .aload_n 0, 1, 0, 0, 0, 0),
  (947, .iload_n 3, 1, 0, 0, 0, 0),
  (948, .iconst 1, 1, 20, 1, 0, 0),
  (949, .iadd, 1, 0, 0, 0, 0),
  (950, .iaload, 1, 0, 0, 0, 0),
  (951, .invokevirtual 104, 3, 3, 194, 0, 6128),
  (954, .if_icmp .eq 628, 3, 0, 0, 0, 0),
  (957, .iconst 0, 1, 20, 0, 0, 0),
  (958, .ireturn, 1, 0, 0, 0, 0),
  (959, .aload_n 1, 1, 0, 0, 0, 0),
  (960, .aload_n 0, 1, 0, 0, 0, 0),
  (961, .iload_n 3, 1, 0, 0, 0, 0),
  (962, .iconst 1, 1, 20, 1, 0, 0),
  (963, .iadd, 1, 0, 0, 0, 0),
  (964, .iaload, 1, 0, 0, 0, 0),
  (965, .aload_n 0, 1, 0, 0, 0, 0),
  (966, .iload_n 3, 1, 0, 0, 0, 0),
  (967, .iconst 2, 1, 20, 2, 0, 0),
  (968, .iadd, 1, 0, 0, 0, 0),
  (969, .iaload, 1, 0, 0, 0, 0),
  (970, .invokevirtual 105, 3, 3, 88, 0, 4028),
  (973, .aload_n 2, 1, 0, 0, 0, 0),
  (974, .aload_n 0, 1, 0, 0, 0, 0),
  (975, .iload_n 3, 1, 0, 0, 0, 0),
  (976, .iconst 1, 1, 20, 1, 0, 0),
  (977, .iadd, 1, 0, 0, 0, 0),
  (978, .iaload, 1, 0, 0, 0, 0),
  (979, .aload_n 0, 1, 0, 0, 0, 0),
  (980, .iload_n 3, 1, 0, 0, 0, 0),
  (981, .iconst 2, 1, 20, 2, 0, 0),
  (982, .iadd, 1, 0, 0, 0, 0),
  (983, .iaload, 1, 0, 0, 0, 0),
  (984, .invokevirtual 108, 3, 3, 197, 0, 6143),
  (987, .if_icmp .eq 595, 3, 0, 0, 0, 0),
  (990, .iconst 0, 1, 20, 0, 0, 0),
  (991, .ireturn, 1, 0, 0, 0, 0),
  (992, .aload_n 1, 1, 0, 0, 0, 0),
  (993, .aload_n 0, 1, 0, 0, 0, 0),
  (994, .iload_n 3, 1, 0, 0, 0, 0),
  (995, .iconst 1, 1, 20, 1, 0, 0),
  (996, .iadd, 1, 0, 0, 0, 0),
  (997, .iaload, 1, 0, 0, 0, 0),
  (998, .invokevirtual 109, 3, 3, 89, 0, 4040),
  (1001, .aload_n 2, 1, 0, 0, 0, 0),
  (1002, .aload_n 0, 1, 0, 0, 0, 0),
  (1003, .iload_n 3, 1, 0, 0, 0, 0),
  (1004, .iconst 1, 1, 20, 1, 0, 0),
  (1005, .iadd, 1, 0, 0, 0, 0),
  (1006, .iaload, 1, 0, 0, 0, 0),
  (1007, .invokevirtual 112, 3, 3, 199, 0, 6155),
  (1010, .if_icmp .eq 572, 3, 0, 0, 0, 0),
  (1013, .iconst 0, 1, 20, 0, 0, 0),
  (1014, .ireturn, 1, 0, 0, 0, 0),
  (1015, .aload_n 1, 1, 0, 0, 0, 0),
  (1016, .aload_n 0, 1, 0, 0, 0, 0),
  (1017, .iload_n 3, 1, 0, 0, 0, 0),
  (1018, .iconst 1, 1, 20, 1, 0, 0),
  (1019, .iadd, 1, 0, 0, 0, 0),
  (1020, .iaload, 1, 0, 0, 0, 0),
  (1021, .aload_n 0, 1, 0, 0, 0, 0),
  (1022, .iload_n 3, 1, 0, 0, 0, 0),
  (1023, .iconst 2, 1, 20, 2, 0, 0),
  (1024, .iadd, 1, 0, 0, 0, 0),
  (1025, .iaload, 1, 0, 0, 0, 0),
  (1026, .aload_n 0, 1, 0, 0, 0, 0),
  (1027, .iload_n 3, 1, 0, 0, 0, 0),
  (1028, .iconst 3, 1, 20, 3, 0, 0),
  (1029, .iadd, 1, 0, 0, 0, 0),
  (1030, .iaload, 1, 0, 0, 0, 0),
  (1031, .invokevirtual 113, 3, 3, 90, 0, 4069),
  (1034, .aload_n 2, 1, 0, 0, 0, 0),
  (1035, .aload_n 0, 1, 0, 0, 0, 0),
  (1036, .iload_n 3, 1, 0, 0, 0, 0),
  (1037, .iconst 1, 1, 20, 1, 0, 0),
  (1038, .iadd, 1, 0, 0, 0, 0),
  (1039, .iaload, 1, 0, 0, 0, 0),
  (1040, .aload_n 0, 1, 0, 0, 0, 0),
  (1041, .iload_n 3, 1, 0, 0, 0, 0),
  (1042, .iconst 2, 1, 20, 2, 0, 0),
  (1043, .iadd, 1, 0, 0, 0, 0),
  (1044, .iaload, 1, 0, 0, 0, 0),
  (1045, .aload_n 0, 1, 0, 0, 0, 0),
  (1046, .iload_n 3, 1, 0, 0, 0, 0),
  (1047, .iconst 3, 1, 20, 3, 0, 0),
  (1048, .iadd, 1, 0, 0, 0, 0),
  (1049, .iaload, 1, 0, 0, 0, 0),
  (1050, .invokevirtual 116, 3, 3, 200, 0, 6163),
  (1053, .if_icmp .eq 529, 3, 0, 0, 0, 0),
  (1056, .iconst 0, 1, 20, 0, 0, 0),
  (1057, .ireturn, 1, 0, 0, 0, 0),
  (1058, .aload_n 1, 1, 0, 0, 0, 0),
  (1059, .aload_n 0, 1, 0, 0, 0, 0),
  (1060, .iload_n 3, 1, 0, 0, 0, 0),
  (1061, .iconst 1, 1, 20, 1, 0, 0),
  (1062, .iadd, 1, 0, 0, 0, 0),
  (1063, .iaload, 1, 0, 0, 0, 0),
  (1064, .invokevirtual 117, 3, 3, 91, 0, 4074),
  (1067, .aload_n 2, 1, 0, 0, 0, 0),
  (1068, .aload_n 0, 1, 0, 0, 0, 0),
  (1069, .iload_n 3, 1, 0, 0, 0, 0),
  (1070, .iconst 1, 1, 20, 1, 0, 0),
  (1071, .iadd, 1, 0, 0, 0, 0),
  (1072, .iaload, 1, 0, 0, 0, 0),
  (1073, .invokevirtual 120, 3, 3, 201, 0, 6167),
  (1076, .if_icmp .eq 506, 3, 0, 0, 0, 0),
  (1079, .iconst 0, 1, 20, 0, 0, 0),
  (1080, .ireturn, 1, 0, 0, 0, 0),
  (1081, .aload_n 1, 1, 0, 0, 0, 0),
  (1082, .aload_n 0, 1, 0, 0, 0, 0),
  (1083, .iload_n 3, 1, 0, 0, 0, 0),
  (1084, .iconst 1, 1, 20, 1, 0, 0),
  (1085, .iadd, 1, 0, 0, 0, 0),
  (1086, .iaload, 1, 0, 0, 0, 0),
  (1087, .invokevirtual 121, 3, 3, 92, 0, 4090),
  (1090, .aload_n 2, 1, 0, 0, 0, 0),
  (1091, .aload_n 0, 1, 0, 0, 0, 0),
  (1092, .iload_n 3, 1, 0, 0, 0, 0),
  (1093, .iconst 1, 1, 20, 1, 0, 0),
  (1094, .iadd, 1, 0, 0, 0, 0),
  (1095, .iaload, 1, 0, 0, 0, 0),
  (1096, .invokevirtual 124, 3, 3, 202, 0, 6171),
  (1099, .if_icmp .eq 483, 3, 0, 0, 0, 0),
  (1102, .iconst 0, 1, 20, 0, 0, 0),
  (1103, .ireturn, 1, 0, 0, 0, 0),
  (1104, .aload_n 1, 1, 0, 0, 0, 0),
  (1105, .aload_n 0, 1, 0, 0, 0, 0),
  (1106, .iload_n 3, 1, 0, 0, 0, 0),
  (1107, .iconst 1, 1, 20, 1, 0, 0),
  (1108, .iadd, 1, 0, 0, 0, 0),
  (1109, .iaload, 1, 0, 0, 0, 0),
  (1110, .invokevirtual 125, 3, 3, 93, 0, 4099),
  (1113, .aload_n 2, 1, 0, 0, 0, 0),
  (1114, .aload_n 0, 1, 0, 0, 0, 0),
  (1115, .iload_n 3, 1, 0, 0, 0, 0),
  (1116, .iconst 1, 1, 20, 1, 0, 0),
  (1117, .iadd, 1, 0, 0, 0, 0),
  (1118, .iaload, 1, 0, 0, 0, 0),
  (1119, .invokevirtual 128, 3, 3, 204, 0, 6175),
  (1122, .if_icmp .eq 460, 3, 0, 0, 0, 0),
  (1125, .iconst 0, 1, 20, 0, 0, 0),
  (1126, .ireturn, 1, 0, 0, 0, 0),
  (1127, .aload_n 1, 1, 0, 0, 0, 0),
  (1128, .aload_n 0, 1, 0, 0, 0, 0),
  (1129, .iload_n 3, 1, 0, 0, 0, 0),
  (1130, .iconst 1, 1, 20, 1, 0, 0),
  (1131, .iadd, 1, 0, 0, 0, 0),
  (1132, .iaload, 1, 0, 0, 0, 0),
  (1133, .aload_n 0, 1, 0, 0, 0, 0),
  (1134, .iload_n 3, 1, 0, 0, 0, 0),
  (1135, .iconst 2, 1, 20, 2, 0, 0),
  (1136, .iadd, 1, 0, 0, 0, 0),
  (1137, .iaload, 1, 0, 0, 0, 0),
  (1138, .aload_n 0, 1, 0, 0, 0, 0),
  (1139, .iload_n 3, 1, 0, 0, 0, 0),
  (1140, .iconst 3, 1, 20, 3, 0, 0),
  (1141, .iadd, 1, 0, 0, 0, 0),
  (1142, .iaload, 1, 0, 0, 0, 0),
  (1143, .aload_n 0, 1, 0, 0, 0, 0),
  (1144, .iload_n 3, 1, 0, 0, 0, 0),
  (1145, .iconst 4, 1, 20, 4, 0, 0),
  (1146, .iadd, 1, 0, 0, 0, 0),
  (1147, .iaload, 1, 0, 0, 0, 0),
  (1148, .invokevirtual 129, 3, 3, 94, 0, 4110),
  (1151, .aload_n 2, 1, 0, 0, 0, 0),
  (1152, .aload_n 0, 1, 0, 0, 0, 0),
  (1153, .iload_n 3, 1, 0, 0, 0, 0),
  (1154, .iconst 1, 1, 20, 1, 0, 0),
  (1155, .iadd, 1, 0, 0, 0, 0),
  (1156, .iaload, 1, 0, 0, 0, 0),
  (1157, .aload_n 0, 1, 0, 0, 0, 0),
  (1158, .iload_n 3, 1, 0, 0, 0, 0),
  (1159, .iconst 2, 1, 20, 2, 0, 0),
  (1160, .iadd, 1, 0, 0, 0, 0),
  (1161, .iaload, 1, 0, 0, 0, 0),
  (1162, .aload_n 0, 1, 0, 0, 0, 0),
  (1163, .iload_n 3, 1, 0, 0, 0, 0),
  (1164, .iconst 3, 1, 20, 3, 0, 0),
  (1165, .iadd, 1, 0, 0, 0, 0),
  (1166, .iaload, 1, 0, 0, 0, 0),
  (1167, .aload_n 0, 1, 0, 0, 0, 0),
  (1168, .iload_n 3, 1, 0, 0, 0, 0),
  (1169, .iconst 4, 1, 20, 4, 0, 0),
  (1170, .iadd, 1, 0, 0, 0, 0),
  (1171, .iaload, 1, 0, 0, 0, 0),
  (1172, .invokevirtual 132, 3, 3, 206, 0, 6183),
  (1175, .if_icmp .eq 407, 3, 0, 0, 0, 0),
  (1178, .iconst 0, 1, 20, 0, 0, 0),
  (1179, .ireturn, 1, 0, 0, 0, 0),
  (1180, .aload_n 1, 1, 0, 0, 0, 0),
  (1181, .aload_n 0, 1, 0, 0, 0, 0),
  (1182, .iload_n 3, 1, 0, 0, 0, 0),
  (1183, .iconst 1, 1, 20, 1, 0, 0),
  (1184, .iadd, 1, 0, 0, 0, 0),
  (1185, .iaload, 1, 0, 0, 0, 0),
  (1186, .invokevirtual 133, 3, 3, 95, 0, 4123),
  (1189, .aload_n 2, 1, 0, 0, 0, 0),
  (1190, .aload_n 0, 1, 0, 0, 0, 0),
  (1191, .iload_n 3, 1, 0, 0, 0, 0),
  (1192, .iconst 1, 1, 20, 1, 0, 0),
  (1193, .iadd, 1, 0, 0, 0, 0),
  (1194, .iaload, 1, 0, 0, 0, 0),
  (1195, .invokevirtual 136, 3, 3, 207, 0, 6192),
  (1198, .if_icmp .eq 384, 3, 0, 0, 0, 0),
  (1201, .iconst 0, 1, 20, 0, 0, 0),
  (1202, .ireturn, 1, 0, 0, 0, 0),
  (1203, .aload_n 1, 1, 0, 0, 0, 0),
  (1204, .aload_n 0, 1, 0, 0, 0, 0),
  (1205, .iload_n 3, 1, 0, 0, 0, 0),
  (1206, .iconst 1, 1, 20, 1, 0, 0),
  (1207, .iadd, 1, 0, 0, 0, 0),
  (1208, .iaload, 1, 0, 0, 0, 0),
  (1209, .invokevirtual 137, 3, 3, 96, 0, 4127),
  (1212, .aload_n 2, 1, 0, 0, 0, 0),
  (1213, .aload_n 0, 1, 0, 0, 0, 0),
  (1214, .iload_n 3, 1, 0, 0, 0, 0),
  (1215, .iconst 1, 1, 20, 1, 0, 0),
  (1216, .iadd, 1, 0, 0, 0, 0),
  (1217, .iaload, 1, 0, 0, 0, 0),
  (1218, .invokevirtual 140, 3, 3, 208, 0, 6196),
  (1221, .if_icmp .eq 361, 3, 0, 0, 0, 0),
  (1224, .iconst 0, 1, 20, 0, 0, 0),
  (1225, .ireturn, 1, 0, 0, 0, 0),
  (1226, .aload_n 1, 1, 0, 0, 0, 0),
  (1227, .aload_n 0, 1, 0, 0, 0, 0),
  (1228, .iload_n 3, 1, 0, 0, 0, 0),
  (1229, .iconst 1, 1, 20, 1, 0, 0),
  (1230, .iadd, 1, 0, 0, 0, 0),
  (1231, .iaload, 1, 0, 0, 0, 0),
  (1232, .aload_n 0, 1, 0, 0, 0, 0),
  (1233, .iload_n 3, 1, 0, 0, 0, 0),
  (1234, .iconst 2, 1, 20, 2, 0, 0),
  (1235, .iadd, 1, 0, 0, 0, 0),
  (1236, .iaload, 1, 0, 0, 0, 0),
  (1237, .aload_n 0, 1, 0, 0, 0, 0),
  (1238, .iload_n 3, 1, 0, 0, 0, 0),
  (1239, .iconst 3, 1, 20, 3, 0, 0),
  (1240, .iadd, 1, 0, 0, 0, 0),
  (1241, .iaload, 1, 0, 0, 0, 0),
  (1242, .invokevirtual 141, 3, 3, 97, 0, 4131),
  (1245, .aload_n 2, 1, 0, 0, 0, 0),
  (1246, .aload_n 0, 1, 0, 0, 0, 0),
  (1247, .iload_n 3, 1, 0, 0, 0, 0),
  (1248, .iconst 1, 1, 20, 1, 0, 0),
  (1249, .iadd, 1, 0, 0, 0, 0),
  (1250, .iaload, 1, 0, 0, 0, 0),
  (1251, .aload_n 0, 1, 0, 0, 0, 0),
  (1252, .iload_n 3, 1, 0, 0, 0, 0),
  (1253, .iconst 2, 1, 20, 2, 0, 0),
  (1254, .iadd, 1, 0, 0, 0, 0),
  (1255, .iaload, 1, 0, 0, 0, 0),
  (1256, .aload_n 0, 1, 0, 0, 0, 0),
  (1257, .iload_n 3, 1, 0, 0, 0, 0),
  (1258, .iconst 3, 1, 20, 3, 0, 0),
  (1259, .iadd, 1, 0, 0, 0, 0),
  (1260, .iaload, 1, 0, 0, 0, 0),
  (1261, .invokevirtual 144, 3, 3, 217, 0, 6200),
  (1264, .if_icmp .eq 318, 3, 0, 0, 0, 0),
  (1267, .iconst 0, 1, 20, 0, 0, 0),
  (1268, .ireturn, 1, 0, 0, 0, 0),
  (1269, .aload_n 1, 1, 0, 0, 0, 0),
  (1270, .aload_n 0, 1, 0, 0, 0, 0),
  (1271, .iload_n 3, 1, 0, 0, 0, 0),
  (1272, .iconst 1, 1, 20, 1, 0, 0),
  (1273, .iadd, 1, 0, 0, 0, 0),
  (1274, .iaload, 1, 0, 0, 0, 0),
  (1275, .invokevirtual 145, 3, 3, 98, 0, 4168),
  (1278, .aload_n 2, 1, 0, 0, 0, 0),
  (1279, .aload_n 0, 1, 0, 0, 0, 0),
  (1280, .iload_n 3, 1, 0, 0, 0, 0),
  (1281, .iconst 1, 1, 20, 1, 0, 0),
  (1282, .iadd, 1, 0, 0, 0, 0),
  (1283, .iaload, 1, 0, 0, 0, 0),
  (1284, .invokevirtual 148, 3, 3, 218, 0, 6235),
  (1287, .if_icmp .eq 295, 3, 0, 0, 0, 0),
  (1290, .iconst 0, 1, 20, 0, 0, 0),
  (1291, .ireturn, 1, 0, 0, 0, 0),
  (1292, .aload_n 1, 1, 0, 0, 0, 0),
  (1293, .aload_n 0, 1, 0, 0, 0, 0),
  (1294, .iload_n 3, 1, 0, 0, 0, 0),
  (1295, .iconst 1, 1, 20, 1, 0, 0),
  (1296, .iadd, 1, 0, 0, 0, 0),
  (1297, .iaload, 1, 0, 0, 0, 0),
  (1298, .aload_n 0, 1, 0, 0, 0, 0),
  (1299, .iload_n 3, 1, 0, 0, 0, 0),
  (1300, .iconst 2, 1, 20, 2, 0, 0),
  (1301, .iadd, 1, 0, 0, 0, 0),
  (1302, .iaload, 1, 0, 0, 0, 0),
  (1303, .aload_n 0, 1, 0, 0, 0, 0),
  (1304, .iload_n 3, 1, 0, 0, 0, 0),
  (1305, .iconst 3, 1, 20, 3, 0, 0),
  (1306, .iadd, 1, 0, 0, 0, 0),
  (1307, .iaload, 1, 0, 0, 0, 0),
  (1308, .invokevirtual 149, 3, 3, 99, 0, 4172),
  (1311, .aload_n 2, 1, 0, 0, 0, 0),
  (1312, .aload_n 0, 1, 0, 0, 0, 0),
  (1313, .iload_n 3, 1, 0, 0, 0, 0),
  (1314, .iconst 1, 1, 20, 1, 0, 0),
  (1315, .iadd, 1, 0, 0, 0, 0),
  (1316, .iaload, 1, 0, 0, 0, 0),
  (1317, .aload_n 0, 1, 0, 0, 0, 0),
  (1318, .iload_n 3, 1, 0, 0, 0, 0),
  (1319, .iconst 2, 1, 20, 2, 0, 0),
  (1320, .iadd, 1, 0, 0, 0, 0),
  (1321, .iaload, 1, 0, 0, 0, 0),
  (1322, .aload_n 0, 1, 0, 0, 0, 0),
  (1323, .iload_n 3, 1, 0, 0, 0, 0),
  (1324, .iconst 3, 1, 20, 3, 0, 0),
  (1325, .iadd, 1, 0, 0, 0, 0),
  (1326, .iaload, 1, 0, 0, 0, 0),
  (1327, .invokevirtual 152, 3, 3, 220, 0, 6239),
  (1330, .if_icmp .eq 252, 3, 0, 0, 0, 0),
  (1333, .iconst 0, 1, 20, 0, 0, 0),
  (1334, .ireturn, 1, 0, 0, 0, 0),
  (1335, .aload_n 1, 1, 0, 0, 0, 0),
  (1336, .aload_n 0, 1, 0, 0, 0, 0),
  (1337, .iload_n 3, 1, 0, 0, 0, 0),
  (1338, .iconst 1, 1, 20, 1, 0, 0),
  (1339, .iadd, 1, 0, 0, 0, 0),
  (1340, .iaload, 1, 0, 0, 0, 0),
  (1341, .aload_n 0, 1, 0, 0, 0, 0),
  (1342, .iload_n 3, 1, 0, 0, 0, 0),
  (1343, .iconst 2, 1, 20, 2, 0, 0),
  (1344, .iadd, 1, 0, 0, 0, 0),
  (1345, .iaload, 1, 0, 0, 0, 0),
  (1346, .aload_n 0, 1, 0, 0, 0, 0),
  (1347, .iload_n 3, 1, 0, 0, 0, 0),
  (1348, .iconst 3, 1, 20, 3, 0, 0),
  (1349, .iadd, 1, 0, 0, 0, 0),
  (1350, .iaload, 1, 0, 0, 0, 0),
  (1351, .invokevirtual 153, 3, 3, 100, 0, 4186),
  (1354, .aload_n 2, 1, 0, 0, 0, 0),
  (1355, .aload_n 0, 1, 0, 0, 0, 0),
  (1356, .iload_n 3, 1, 0, 0, 0, 0),
  (1357, .iconst 1, 1, 20, 1, 0, 0),
  (1358, .iadd, 1, 0, 0, 0, 0),
  (1359, .iaload, 1, 0, 0, 0, 0),
  (1360, .aload_n 0, 1, 0, 0, 0, 0),
  (1361, .iload_n 3, 1, 0, 0, 0, 0),
  (1362, .iconst 2, 1, 20, 2, 0, 0),
  (1363, .iadd, 1, 0, 0, 0, 0),
  (1364, .iaload, 1, 0, 0, 0, 0),
  (1365, .aload_n 0, 1, 0, 0, 0, 0),
  (1366, .iload_n 3, 1, 0, 0, 0, 0),
  (1367, .iconst 3, 1, 20, 3, 0, 0),
  (1368, .iadd, 1, 0, 0, 0, 0),
  (1369, .iaload, 1, 0, 0, 0, 0),
  (1370, .invokevirtual 156, 3, 3, 221, 0, 7006),
  (1373, .if_icmp .eq 209, 3, 0, 0, 0, 0),
  (1376, .iconst 0, 1, 20, 0, 0, 0),
  (1377, .ireturn, 1, 0, 0, 0, 0),
  (1378, .aload_n 1, 1, 0, 0, 0, 0),
  (1379, .aload_n 0, 1, 0, 0, 0, 0),
  (1380, .iload_n 3, 1, 0, 0, 0, 0),
  (1381, .iconst 1, 1, 20, 1, 0, 0),
  (1382, .iadd, 1, 0, 0, 0, 0),
  (1383, .iaload, 1, 0, 0, 0, 0),
  (1384, .aload_n 0, 1, 0, 0, 0, 0),
  (1385, .iload_n 3, 1, 0, 0, 0, 0),
  (1386, .iconst 2, 1, 20, 2, 0, 0),
  (1387, .iadd, 1, 0, 0, 0, 0),
  (1388, .iaload, 1, 0, 0, 0, 0),
  (1389, .aload_n 0, 1, 0, 0, 0, 0),
  (1390, .iload_n 3, 1, 0, 0, 0, 0),
  (1391, .iconst 3, 1, 20, 3, 0, 0),
  (1392, .iadd, 1, 0, 0, 0, 0),
  (1393, .iaload, 1, 0, 0, 0, 0),
  (1394, .aload_n 0, 1, 0, 0, 0, 0),
  (1395, .iload_n 3, 1, 0, 0, 0, 0),
  (1396, .iconst 4, 1, 20, 4, 0, 0),
  (1397, .iadd, 1, 0, 0, 0, 0),
  (1398, .iaload, 1, 0, 0, 0, 0),
  (1399, .aload_n 0, 1, 0, 0, 0, 0),
  (1400, .iload_n 3, 1, 0, 0, 0, 0),
  (1401, .iconst 5, 1, 20, 5, 0, 0),
  (1402, .iadd, 1, 0, 0, 0, 0),
  (1403, .iaload, 1, 0, 0, 0, 0),
  (1404, .invokevirtual 157, 3, 3, 101, 0, 4202),
  (1407, .aload_n 2, 1, 0, 0, 0, 0),
  (1408, .aload_n 0, 1, 0, 0, 0, 0),
  (1409, .iload_n 3, 1, 0, 0, 0, 0),
  (1410, .iconst 1, 1, 20, 1, 0, 0),
  (1411, .iadd, 1, 0, 0, 0, 0),
  (1412, .iaload, 1, 0, 0, 0, 0),
  (1413, .aload_n 0, 1, 0, 0, 0, 0),
  (1414, .iload_n 3, 1, 0, 0, 0, 0),
  (1415, .iconst 2, 1, 20, 2, 0, 0),
  (1416, .iadd, 1, 0, 0, 0, 0),
  (1417, .iaload, 1, 0, 0, 0, 0),
  (1418, .aload_n 0, 1, 0, 0, 0, 0),
  (1419, .iload_n 3, 1, 0, 0, 0, 0),
  (1420, .iconst 3, 1, 20, 3, 0, 0),
  (1421, .iadd, 1, 0, 0, 0, 0),
  (1422, .iaload, 1, 0, 0, 0, 0),
  (1423, .aload_n 0, 1, 0, 0, 0, 0),
  (1424, .iload_n 3, 1, 0, 0, 0, 0),
  (1425, .iconst 4, 1, 20, 4, 0, 0),
  (1426, .iadd, 1, 0, 0, 0, 0),
  (1427, .iaload, 1, 0, 0, 0, 0),
  (1428, .aload_n 0, 1, 0, 0, 0, 0),
  (1429, .iload_n 3, 1, 0, 0, 0, 0),
  (1430, .iconst 5, 1, 20, 5, 0, 0),
  (1431, .iadd, 1, 0, 0, 0, 0),
  (1432, .iaload, 1, 0, 0, 0, 0),
  (1433, .invokevirtual 161, 3, 3, 222, 0, 7010),
  (1436, .if_icmp .eq 146, 3, 0, 0, 0, 0),
  (1439, .iconst 0, 1, 20, 0, 0, 0),
  (1440, .ireturn, 1, 0, 0, 0, 0),
  (1441, .aload_n 1, 1, 0, 0, 0, 0),
  (1442, .aload_n 0, 1, 0, 0, 0, 0),
  (1443, .iload_n 3, 1, 0, 0, 0, 0),
  (1444, .iconst 1, 1, 20, 1, 0, 0),
  (1445, .iadd, 1, 0, 0, 0, 0),
  (1446, .iaload, 1, 0, 0, 0, 0),
  (1447, .invokevirtual 162, 3, 3, 102, 0, 4212),
  (1450, .aload_n 2, 1, 0, 0, 0, 0),
  (1451, .aload_n 0, 1, 0, 0, 0, 0),
  (1452, .iload_n 3, 1, 0, 0, 0, 0),
  (1453, .iconst 1, 1, 20, 1, 0, 0),
  (1454, .iadd, 1, 0, 0, 0, 0),
  (1455, .iaload, 1, 0, 0, 0, 0),
  (1456, .invokevirtual 165, 3, 3, 223, 0, 7014),
  (1459, .if_icmp .eq 123, 3, 0, 0, 0, 0),
  (1462, .iconst 0, 1, 20, 0, 0, 0),
  (1463, .ireturn, 1, 0, 0, 0, 0),
  (1464, .aload_n 1, 1, 0, 0, 0, 0),
  (1465, .invokevirtual 166, 3, 3, 103, 0, 4224),
  (1468, .aload_n 2, 1, 0, 0, 0, 0),
  (1469, .invokevirtual 169, 3, 3, 224, 0, 7018),
  (1472, .if_icmp .eq 110, 3, 0, 0, 0, 0),
  (1475, .iconst 0, 1, 20, 0, 0, 0),
  (1476, .ireturn, 1, 0, 0, 0, 0),
  (1477, .aload_n 1, 1, 0, 0, 0, 0),
  (1478, .invokevirtual 170, 3, 3, 104, 0, 5014),
  (1481, .aload_n 2, 1, 0, 0, 0, 0),
  (1482, .invokevirtual 173, 3, 3, 225, 0, 7022),
  (1485, .if_icmp .eq 97, 3, 0, 0, 0, 0),
  (1488, .iconst 0, 1, 20, 0, 0, 0),
  (1489, .ireturn, 1, 0, 0, 0, 0),
  (1490, .aload_n 1, 1, 0, 0, 0, 0),
  (1491, .aload_n 0, 1, 0, 0, 0, 0),
  (1492, .iload_n 3, 1, 0, 0, 0, 0),
  (1493, .iconst 1, 1, 20, 1, 0, 0),
  (1494, .iadd, 1, 0, 0, 0, 0),
  (1495, .iaload, 1, 0, 0, 0, 0),
  (1496, .invokevirtual 174, 3, 3, 105, 0, 5018),
  (1499, .aload_n 2, 1, 0, 0, 0, 0),
  (1500, .aload_n 0, 1, 0, 0, 0, 0),
  (1501, .iload_n 3, 1, 0, 0, 0, 0),
  (1502, .iconst 1, 1, 20, 1, 0, 0),
  (1503, .iadd, 1, 0, 0, 0, 0),
  (1504, .iaload, 1, 0, 0, 0, 0),
  (1505, .invokevirtual 177, 3, 3, 226, 0, 7026),
  (1508, .if_icmp .eq 74, 3, 0, 0, 0, 0),
  (1511, .iconst 0, 1, 20, 0, 0, 0),
  (1512, .ireturn, 1, 0, 0, 0, 0),
  (1513, .aload_n 1, 1, 0, 0, 0, 0),
  (1514, .aload_n 0, 1, 0, 0, 0, 0),
  (1515, .iload_n 3, 1, 0, 0, 0, 0),
  (1516, .iconst 1, 1, 20, 1, 0, 0),
  (1517, .iadd, 1, 0, 0, 0, 0),
  (1518, .iaload, 1, 0, 0, 0, 0),
  (1519, .invokevirtual 178, 3, 3, 106, 0, 5022),
  (1522, .aload_n 2, 1, 0, 0, 0, 0),
  (1523, .aload_n 0, 1, 0, 0, 0, 0),
  (1524, .iload_n 3, 1, 0, 0, 0, 0),
  (1525, .iconst 1, 1, 20, 1, 0, 0),
  (1526, .iadd, 1, 0, 0, 0, 0),
  (1527, .iaload, 1, 0, 0, 0, 0),
  (1528, .invokevirtual 181, 3, 3, 227, 0, 7030),
  (1531, .if_icmp .eq 51, 3, 0, 0, 0, 0),
  (1534, .iconst 0, 1, 20, 0, 0, 0),
  (1535, .ireturn, 1, 0, 0, 0, 0),
  (1536, .aload_n 1, 1, 0, 0, 0, 0),
  (1537, .aload_n 0, 1, 0, 0, 0, 0),
  (1538, .iload_n 3, 1, 0, 0, 0, 0),
  (1539, .iconst 1, 1, 20, 1, 0, 0),
  (1540, .iadd, 1, 0, 0, 0, 0),
  (1541, .iaload, 1, 0, 0, 0, 0),
  (1542, .invokevirtual 182, 3, 3, 107, 0, 5026),
  (1545, .aload_n 2, 1, 0, 0, 0, 0),
  (1546, .aload_n 0, 1, 0, 0, 0, 0),
  (1547, .iload_n 3, 1, 0, 0, 0, 0),
  (1548, .iconst 1, 1, 20, 1, 0, 0),
  (1549, .iadd, 1, 0, 0, 0, 0),
  (1550, .iaload, 1, 0, 0, 0, 0),
  (1551, .invokevirtual 185, 3, 3, 228, 0, 7034),
  (1554, .if_icmp .eq 28, 3, 0, 0, 0, 0),
  (1557, .iconst 0, 1, 20, 0, 0, 0),
  (1558, .ireturn, 1, 0, 0, 0, 0),
  (1559, .aload_n 1, 1, 0, 0, 0, 0),
  (1560, .aload_n 0, 1, 0, 0, 0, 0),
  (1561, .iload_n 3, 1, 0, 0, 0, 0),
  (1562, .iconst 1, 1, 20, 1, 0, 0),
  (1563, .iadd, 1, 0, 0, 0, 0),
  (1564, .iaload, 1, 0, 0, 0, 0),
  (1565, .invokevirtual 186, 3, 3, 108, 0, 5030),
  (1568, .aload_n 2, 1, 0, 0, 0, 0),
  (1569, .aload_n 0, 1, 0, 0, 0, 0),
  (1570, .iload_n 3, 1, 0, 0, 0, 0),
  (1571, .iconst 1, 1, 20, 1, 0, 0),
  (1572, .iadd, 1, 0, 0, 0, 0),
  (1573, .iaload, 1, 0, 0, 0, 0),
  (1574, .invokevirtual 189, 3, 3, 229, 0, 7038),
  (1577, .if_icmp .eq 5, 3, 0, 0, 0, 0),
  (1580, .iconst 0, 1, 20, 0, 0, 0),
  (1581, .ireturn, 1, 0, 0, 0, 0),
  (1582, .iinc 3 6, 3, 20, 6, 0, 0),
  (1585, .goto (-1567), 3, 0, 0, 0, 0),
  (1588, .iconst 1, 1, 20, 1, 0, 0),
  (1589, .ireturn, 1, 0, 0, 0, 0)]
def zz_k0 : mz_K := [
  (0, .aload_n 0, 1, 0, 0, 0, 0),
  (1, .invokespecial 3, 3, 31, 0, 0, 1117),
  (4, .aload_n 0, 1, 0, 0, 0, 0),
  (5, .iconst 0, 1, 20, 0, 0, 0),
  (6, .putfield 9, 3, 0, 0, 0, 1118),
  (9, .aload_n 0, 1, 0, 0, 0, 0),
  (10, .iconst 0, 1, 20, 0, 0, 0),
  (11, .putfield 15, 3, 0, 0, 1, 1121),
  (14, .aload_n 0, 1, 0, 0, 0, 0),
  (15, .iconst 0, 1, 20, 0, 0, 0),
  (16, .putfield 18, 3, 0, 0, 2, 1124),
  (19, .aload_n 0, 1, 0, 0, 0, 0),
  (20, .iconst 0, 1, 20, 0, 0, 0),
  (21, .putfield 21, 3, 0, 0, 3, 1127),
  (24, .aload_n 0, 1, 0, 0, 0, 0),
  (25, .iconst 0, 1, 20, 0, 0, 0),
  (26, .putfield 24, 3, 0, 0, 4, 1130),
  (29, .return_, 1, 0, 0, 0, 0)]
/-- ThreeMagnets$Bob.<init>()V -/
def zz_r0 : zz_R := (yX0_init, cX0_init, 1, 1, zz_k0, 29)
def zz_k1 : mz_K := [
  (0, .aload_n 0, 1, 0, 0, 0, 0),
  (1, .invokespecial 3, 3, 31, 0, 0, 1149),
  (4, .aload_n 0, 1, 0, 0, 0, 0),
  (5, .iconst 0, 1, 20, 0, 0, 0),
  (6, .putfield 9, 3, 0, 1, 0, 1150),
  (9, .aload_n 0, 1, 0, 0, 0, 0),
  (10, .iconst 0, 1, 20, 0, 0, 0),
  (11, .putfield 15, 3, 0, 1, 1, 1153),
  (14, .aload_n 0, 1, 0, 0, 0, 0),
  (15, .iconst 0, 1, 20, 0, 0, 0),
  (16, .putfield 18, 3, 0, 1, 2, 1156),
  (19, .aload_n 0, 1, 0, 0, 0, 0),
  (20, .iconst 0, 1, 20, 0, 0, 0),
  (21, .putfield 21, 3, 0, 1, 3, 1158),
  (24, .aload_n 0, 1, 0, 0, 0, 0),
  (25, .iconst 0, 1, 20, 0, 0, 0),
  (26, .putfield 24, 3, 0, 1, 4, 1160),
  (29, .aload_n 0, 1, 0, 0, 0, 0),
  (30, .bipush 36, 2, 20, 36, 0, 0),
  (32, .newarray .int, 2, 0, 0, 0, 0),
  (34, .putfield 27, 3, 0, 1, 5, 1163),
  (37, .aload_n 0, 1, 0, 0, 0, 0),
  (38, .bipush 36, 2, 20, 36, 0, 0),
  (40, .newarray .int, 2, 0, 0, 0, 0),
  (42, .putfield 31, 3, 0, 1, 6, 1164),
  (45, .return_, 1, 0, 0, 0, 0)]
/-- ThreeMagnets$Picture.<init>()V -/
def zz_r1 : zz_R := (yX1_init, cX1_init, 1, 1, zz_k1, 45)
def zz_k2 : mz_K := [
  (0, .aload_n 0, 1, 0, 0, 0, 0),
  (1, .invokespecial 3, 3, 31, 0, 0, 1039),
  (4, .aload_n 0, 1, 0, 0, 0, 0),
  (5, .bipush 6, 2, 20, 6, 0, 0),
  (7, .newarray .int, 2, 0, 0, 0, 0),
  (9, .putfield 9, 3, 0, 2, 0, 1040),
  (12, .aload_n 0, 1, 0, 0, 0, 0),
  (13, .bipush 6, 2, 20, 6, 0, 0),
  (15, .newarray .int, 2, 0, 0, 0, 0),
  (17, .putfield 15, 3, 0, 2, 1, 1044),
  (20, .aload_n 0, 1, 0, 0, 0, 0),
  (21, .bipush 6, 2, 20, 6, 0, 0),
  (23, .newarray .int, 2, 0, 0, 0, 0),
  (25, .putfield 18, 3, 0, 2, 2, 1047),
  (28, .aload_n 0, 1, 0, 0, 0, 0),
  (29, .bipush 6, 2, 20, 6, 0, 0),
  (31, .newarray .int, 2, 0, 0, 0, 0),
  (33, .putfield 21, 3, 0, 2, 3, 1050),
  (36, .aload_n 0, 1, 0, 0, 0, 0),
  (37, .iconst 0, 1, 20, 0, 0, 0),
  (38, .putfield 24, 3, 0, 2, 4, 1054),
  (41, .return_, 1, 0, 0, 0, 0)]
/-- ThreeMagnets$Plate.<init>()V -/
def zz_r2 : zz_R := (yX2_init, cX2_init, 1, 1, zz_k2, 41)
def zz_k3 : mz_K := [
  (0, .aload_n 0, 1, 0, 0, 0, 0),
  (1, .invokespecial 3, 3, 31, 0, 0, 2023),
  (4, .aload_n 0, 1, 0, 0, 0, 0),
  (5, .new 9, 3, 30, 8, 0, 2024),
  (8, .dup, 1, 0, 0, 0, 0),
  (9, .invokespecial 11, 3, 33, 8, 0, 2025),
  (12, .putfield 12, 3, 0, 3, 0, 2027),
  (15, .aload_n 0, 1, 0, 0, 0, 0),
  (16, .ldc 18, 2, 22, 0, 0, 2026),
  (18, .putfield 20, 3, 0, 3, 2, 2030),
  (21, .aload_n 0, 1, 0, 0, 0, 0),
  (22, .iconst 0, 1, 20, 0, 0, 0),
  (23, .putfield 24, 3, 0, 3, 3, 2031),
  (26, .aload_n 0, 1, 0, 0, 0, 0),
  (27, .iconst 1, 1, 20, 1, 0, 0),
  (28, .putfield 28, 3, 0, 3, 4, 2032),
  (31, .aload_n 0, 1, 0, 0, 0, 0),
  (32, .aload_n 1, 1, 0, 0, 0, 0),
  (33, .putfield 32, 3, 0, 3, 1, 2029),
  (36, .return_, 1, 0, 0, 0, 0)]
/-- ThreeMagnets$Reader.<init>(LThreeMagnets$Tape;)V -/
def zz_r3 : zz_R := (yX3_init, cX3_init, 2, 2, zz_k3, 36)
def zz_k4 : mz_K := [
  (0, .aload_n 0, 1, 0, 0, 0, 0),
  (1, .invokespecial 3, 3, 31, 0, 0, 2001),
  (4, .aload_n 0, 1, 0, 0, 0, 0),
  (5, .new 9, 3, 30, 0, 0, 2002),
  (8, .dup, 1, 0, 0, 0, 0),
  (9, .invokespecial 11, 3, 33, 0, 0, 2003),
  (12, .putfield 12, 3, 0, 4, 1, 2005),
  (15, .aload_n 0, 1, 0, 0, 0, 0),
  (16, .iconst 5, 1, 20, 5, 0, 0),
  (17, .newarray .int, 2, 0, 0, 0, 0),
  (19, .putfield 18, 3, 0, 4, 2, 2007),
  (22, .aload_n 0, 1, 0, 0, 0, 0),
  (23, .bipush 60, 2, 20, 60, 0, 0),
  (25, .newarray .int, 2, 0, 0, 0, 0),
  (27, .putfield 22, 3, 0, 4, 3, 2008),
  (30, .aload_n 0, 1, 0, 0, 0, 0),
  (31, .aload_n 1, 1, 0, 0, 0, 0),
  (32, .putfield 25, 3, 0, 4, 0, 2004),
  (35, .return_, 1, 0, 0, 0, 0)]
/-- ThreeMagnets$Runner.<init>(LThreeMagnets$State;)V -/
def zz_r4 : zz_R := (yX4_init, cX4_init, 2, 2, zz_k4, 35)
def zz_k5 : mz_K := [
  (0, .aload_n 0, 1, 0, 0, 0, 0),
  (1, .invokespecial 3, 3, 31, 0, 0, 2084),
  (4, .aload_n 0, 1, 0, 0, 0, 0),
  (5, .iconst 4, 1, 20, 4, 0, 0),
  (6, .newarray .int, 2, 0, 0, 0, 0),
  (8, .putfield 9, 3, 0, 5, 0, 2085),
  (11, .aload_n 0, 1, 0, 0, 0, 0),
  (12, .iconst 4, 1, 20, 4, 0, 0),
  (13, .newarray .int, 2, 0, 0, 0, 0),
  (15, .putfield 15, 3, 0, 5, 1, 2087),
  (18, .aload_n 0, 1, 0, 0, 0, 0),
  (19, .bipush 96, 2, 20, 96, 0, 0),
  (21, .newarray .int, 2, 0, 0, 0, 0),
  (23, .putfield 18, 3, 0, 5, 2, 2089),
  (26, .return_, 1, 0, 0, 0, 0)]
/-- ThreeMagnets$Sheets.<init>()V -/
def zz_r5 : zz_R := (yX5_init, cX5_init, 1, 1, zz_k5, 26)
def zz_k6 : mz_K := [
  (0, .aload_n 0, 1, 0, 0, 0, 0),
  (1, .invokespecial 3, 3, 31, 0, 0, 1033),
  (4, .aload_n 0, 1, 0, 0, 0, 0),
  (5, .new 9, 3, 30, 2, 0, 1034),
  (8, .dup, 1, 0, 0, 0, 0),
  (9, .invokespecial 11, 3, 33, 2, 0, 1036),
  (12, .putfield 12, 3, 0, 6, 0, 1180),
  (15, .aload_n 0, 1, 0, 0, 0, 0),
  (16, .getstatic 18, 3, 1, 4, 1, 1068),
  (19, .invokevirtual 22, 3, 34, 0, 0, 1070),
  (22, .checkcast 23, 3, 35, 0, 0, 1076),
  (25, .putfield 27, 3, 0, 6, 1, 1183),
  (28, .aload_n 0, 1, 0, 0, 0, 0),
  (29, .new 30, 3, 30, 7, 0, 1077),
  (32, .dup, 1, 0, 0, 0, 0),
  (33, .invokespecial 32, 3, 33, 7, 0, 1079),
  (36, .putfield 33, 3, 0, 6, 2, 1186),
  (39, .aload_n 0, 1, 0, 0, 0, 0),
  (40, .new 37, 3, 30, 8, 0, 1093),
  (43, .dup, 1, 0, 0, 0, 0),
  (44, .invokespecial 39, 3, 33, 8, 0, 1095),
  (47, .putfield 40, 3, 0, 6, 3, 1188),
  (50, .aload_n 0, 1, 0, 0, 0, 0),
  (51, .new 37, 3, 30, 8, 0, 1093),
  (54, .dup, 1, 0, 0, 0, 0),
  (55, .invokespecial 39, 3, 33, 8, 0, 1095),
  (58, .putfield 44, 3, 0, 6, 4, 1190),
  (61, .aload_n 0, 1, 0, 0, 0, 0),
  (62, .new 37, 3, 30, 8, 0, 1093),
  (65, .dup, 1, 0, 0, 0, 0),
  (66, .invokespecial 39, 3, 33, 8, 0, 1095),
  (69, .putfield 47, 3, 0, 6, 5, 1192),
  (72, .aload_n 0, 1, 0, 0, 0, 0),
  (73, .new 50, 3, 30, 0, 0, 1112),
  (76, .dup, 1, 0, 0, 0, 0),
  (77, .invokespecial 52, 3, 33, 0, 0, 1114),
  (80, .putfield 53, 3, 0, 6, 6, 1194),
  (83, .aload_n 0, 1, 0, 0, 0, 0),
  (84, .new 57, 3, 30, 1, 0, 1144),
  (87, .dup, 1, 0, 0, 0, 0),
  (88, .invokespecial 59, 3, 33, 1, 0, 1146),
  (91, .putfield 60, 3, 0, 6, 7, 1196),
  (94, .aload_n 0, 1, 0, 0, 0, 0),
  (95, .bipush 10, 2, 20, 10, 0, 0),
  (97, .newarray .int, 2, 0, 0, 0, 0),
  (99, .putfield 64, 3, 0, 6, 8, 1199),
  (102, .aload_n 0, 1, 0, 0, 0, 0),
  (103, .iconst 0, 1, 20, 0, 0, 0),
  (104, .putfield 67, 3, 0, 6, 9, 1201),
  (107, .aload_n 0, 1, 0, 0, 0, 0),
  (108, .bipush 24, 2, 20, 24, 0, 0),
  (110, .newarray .int, 2, 0, 0, 0, 0),
  (112, .putfield 71, 3, 0, 6, 10, 1203),
  (115, .aload_n 0, 1, 0, 0, 0, 0),
  (116, .iconst 0, 1, 20, 0, 0, 0),
  (117, .putfield 74, 3, 0, 6, 11, 1205),
  (120, .aload_n 0, 1, 0, 0, 0, 0),
  (121, .iconst 1, 1, 20, 1, 0, 0),
  (122, .putfield 78, 3, 0, 6, 12, 1207),
  (125, .return_, 1, 0, 0, 0, 0)]
/-- ThreeMagnets$State.<init>()V -/
def zz_r6 : zz_R := (yX6_init, cX6_init, 1, 1, zz_k6, 125)
def zz_k7 : mz_K := [
  (0, .aload_n 0, 1, 0, 0, 0, 0),
  (1, .invokespecial 3, 3, 31, 0, 0, 1082),
  (4, .aload_n 0, 1, 0, 0, 0, 0),
  (5, .bipush 60, 2, 20, 60, 0, 0),
  (7, .newarray .int, 2, 0, 0, 0, 0),
  (9, .putfield 9, 3, 0, 7, 0, 1083),
  (12, .aload_n 0, 1, 0, 0, 0, 0),
  (13, .iconst 0, 1, 20, 0, 0, 0),
  (14, .putfield 15, 3, 0, 7, 1, 1085),
  (17, .return_, 1, 0, 0, 0, 0)]
/-- ThreeMagnets$Tape.<init>()V -/
def zz_r7 : zz_R := (yX7_init, cX7_init, 1, 1, zz_k7, 17)
def zz_k8 : mz_K := [
  (0, .aload_n 0, 1, 0, 0, 0, 0),
  (1, .invokespecial 3, 3, 31, 0, 0, 1098),
  (4, .aload_n 0, 1, 0, 0, 0, 0),
  (5, .bipush 60, 2, 20, 60, 0, 0),
  (7, .newarray .int, 2, 0, 0, 0, 0),
  (9, .putfield 9, 3, 0, 8, 0, 1099),
  (12, .aload_n 0, 1, 0, 0, 0, 0),
  (13, .bipush 60, 2, 20, 60, 0, 0),
  (15, .newarray .int, 2, 0, 0, 0, 0),
  (17, .putfield 15, 3, 0, 8, 1, 1100),
  (20, .aload_n 0, 1, 0, 0, 0, 0),
  (21, .iconst 0, 1, 20, 0, 0, 0),
  (22, .putfield 18, 3, 0, 8, 2, 1101),
  (25, .return_, 1, 0, 0, 0, 0)]
/-- ThreeMagnets$Text.<init>()V -/
def zz_r8 : zz_R := (yX8_init, cX8_init, 1, 1, zz_k8, 25)
def zz_k9 : mz_K := [
  (0, .aload_n 0, 1, 0, 0, 0, 0),
  (1, .invokespecial 3, 3, 31, 0, 0, 2050),
  (4, .aload_n 0, 1, 0, 0, 0, 0),
  (5, .bipush 30, 2, 20, 30, 0, 0),
  (7, .newarray .int, 2, 0, 0, 0, 0),
  (9, .putfield 9, 3, 0, 9, 0, 2051),
  (12, .aload_n 0, 1, 0, 0, 0, 0),
  (13, .iconst 0, 1, 20, 0, 0, 0),
  (14, .putfield 15, 3, 0, 9, 1, 2053),
  (17, .aload_n 0, 1, 0, 0, 0, 0),
  (18, .iconst 0, 1, 20, 0, 0, 0),
  (19, .putfield 19, 3, 0, 9, 2, 2055),
  (22, .aload_n 0, 1, 0, 0, 0, 0),
  (23, .bipush 30, 2, 20, 30, 0, 0),
  (25, .newarray .int, 2, 0, 0, 0, 0),
  (27, .putfield 23, 3, 0, 9, 3, 2057),
  (30, .aload_n 0, 1, 0, 0, 0, 0),
  (31, .iconst 0, 1, 20, 0, 0, 0),
  (32, .putfield 26, 3, 0, 9, 4, 2058),
  (35, .aload_n 0, 1, 0, 0, 0, 0),
  (36, .iconst 0, 1, 20, 0, 0, 0),
  (37, .putfield 29, 3, 0, 9, 5, 2059),
  (40, .aload_n 0, 1, 0, 0, 0, 0),
  (41, .iconst 0, 1, 20, 0, 0, 0),
  (42, .putfield 32, 3, 0, 9, 6, 2060),
  (45, .aload_n 0, 1, 0, 0, 0, 0),
  (46, .iconst 0, 1, 20, 0, 0, 0),
  (47, .putfield 35, 3, 0, 9, 7, 2061),
  (50, .return_, 1, 0, 0, 0, 0)]
/-- ThreeMagnets$Voices.<init>()V -/
def zz_r9 : zz_R := (yX9_init, cX9_init, 1, 1, zz_k9, 50)
def zz_k10 : mz_K := [
  (0, .aload_n 0, 1, 0, 0, 0, 0),
  (1, .invokespecial 3, 3, 31, 0, 0, 1025),
  (4, .new 9, 3, 30, 6, 0, 1028),
  (7, .dup, 1, 0, 0, 0, 0),
  (8, .invokespecial 11, 3, 33, 6, 0, 1030),
  (11, .astore_n 1, 1, 0, 0, 0, 0),
  (12, .aload_n 0, 1, 0, 0, 0, 0),
  (13, .aload_n 1, 1, 0, 0, 0, 0),
  (14, .putfield 12, 3, 0, 10, 0, 2097),
  (17, .aload_n 0, 1, 0, 0, 0, 0),
  (18, .new 9, 3, 30, 6, 0, 1028),
  (21, .dup, 1, 0, 0, 0, 0),
  (22, .invokespecial 11, 3, 33, 6, 0, 1030),
  (25, .putfield 16, 3, 0, 10, 1, 2098),
  (28, .aload_n 0, 1, 0, 0, 0, 0),
  (29, .new 19, 3, 30, 4, 0, 1236),
  (32, .dup, 1, 0, 0, 0, 0),
  (33, .aload_n 1, 1, 0, 0, 0, 0),
  (34, .invokespecial 21, 3, 32, 4, 0, 1238),
  (37, .putfield 24, 3, 0, 10, 2, 2099),
  (40, .aload_n 0, 1, 0, 0, 0, 0),
  (41, .new 28, 3, 30, 3, 0, 2018),
  (44, .dup, 1, 0, 0, 0, 0),
  (45, .aload_n 1, 1, 0, 0, 0, 0),
  (46, .getfield 30, 3, 0, 6, 2, 1187),
  (49, .invokespecial 34, 3, 32, 3, 0, 2020),
  (52, .putfield 37, 3, 0, 10, 3, 2100),
  (55, .aload_n 0, 1, 0, 0, 0, 0),
  (56, .new 41, 3, 30, 9, 0, 2045),
  (59, .dup, 1, 0, 0, 0, 0),
  (60, .invokespecial 43, 3, 33, 9, 0, 2047),
  (63, .putfield 44, 3, 0, 10, 4, 2101),
  (66, .aload_n 0, 1, 0, 0, 0, 0),
  (67, .new 48, 3, 30, 5, 0, 2079),
  (70, .dup, 1, 0, 0, 0, 0),
  (71, .invokespecial 50, 3, 33, 5, 0, 2081),
  (74, .putfield 51, 3, 0, 10, 5, 2102),
  (77, .aload_n 0, 1, 0, 0, 0, 0),
  (78, .bipush 7, 2, 20, 7, 0, 0),
  (80, .newarray .int, 2, 0, 0, 0, 0),
  (82, .putfield 55, 3, 0, 10, 6, 2103),
  (85, .aload_n 0, 1, 0, 0, 0, 0),
  (86, .iconst 0, 1, 20, 0, 0, 0),
  (87, .putfield 59, 3, 0, 10, 7, 2104),
  (90, .return_, 1, 0, 0, 0, 0)]
/-- ThreeMagnets.<init>()V -/
def zz_r10 : zz_R := (yX10_init, cX10_init, 2, 1, zz_k10, 90)
def zz_k11 : mz_K := [
  (0, .aload_n 0, 1, 0, 0, 0, 0),
  (1, .invokespecial 1, 3, 31, 0, 0, 5039),
  (4, .aload_n 0, 1, 0, 0, 0, 0),
  (5, .sipush 650, 3, 20, 650, 0, 0),
  (8, .newarray .int, 2, 0, 0, 0, 0),
  (10, .putfield 7, 3, 0, 11, 0, 5040),
  (13, .aload_n 0, 1, 0, 0, 0, 0),
  (14, .sipush 650, 3, 20, 650, 0, 0),
  (17, .newarray .int, 2, 0, 0, 0, 0),
  (19, .putfield 13, 3, 0, 11, 1, 5041),
  (22, .aload_n 0, 1, 0, 0, 0, 0),
  (23, .bipush 7, 2, 20, 7, 0, 0),
  (25, .newarray .int, 2, 0, 0, 0, 0),
  (27, .putfield 16, 3, 0, 11, 3, 5043),
  (30, .aload_n 0, 1, 0, 0, 0, 0),
  (31, .bipush 124, 2, 20, 124, 0, 0),
  (33, .newarray .int, 2, 0, 0, 0, 0),
  (35, .putfield 19, 3, 0, 11, 13, 5053),
  (38, .aload_n 0, 1, 0, 0, 0, 0),
  (39, .sipush 128, 3, 20, 128, 0, 0),
  (42, .newarray .int, 2, 0, 0, 0, 0),
  (44, .putfield 22, 3, 0, 11, 14, 5054),
  (47, .aload_n 0, 1, 0, 0, 0, 0),
  (48, .bipush 64, 2, 20, 64, 0, 0),
  (50, .newarray .int, 2, 0, 0, 0, 0),
  (52, .putfield 25, 3, 0, 11, 15, 5055),
  (55, .aload_n 0, 1, 0, 0, 0, 0),
  (56, .bipush 10, 2, 20, 10, 0, 0),
  (58, .newarray .int, 2, 0, 0, 0, 0),
  (60, .putfield 28, 3, 0, 11, 16, 5056),
  (63, .aload_n 0, 1, 0, 0, 0, 0),
  (64, .bipush 10, 2, 20, 10, 0, 0),
  (66, .newarray .int, 2, 0, 0, 0, 0),
  (68, .putfield 31, 3, 0, 11, 17, 5057),
  (71, .aload_n 0, 1, 0, 0, 0, 0),
  (72, .bipush 30, 2, 20, 30, 0, 0),
  (74, .newarray .int, 2, 0, 0, 0, 0),
  (76, .putfield 34, 3, 0, 11, 18, 5058),
  (79, .aload_n 0, 1, 0, 0, 0, 0),
  (80, .iconst 4, 1, 20, 4, 0, 0),
  (81, .newarray .int, 2, 0, 0, 0, 0),
  (83, .putfield 37, 3, 0, 11, 22, 5062),
  (86, .aload_n 0, 1, 0, 0, 0, 0),
  (87, .iconst 4, 1, 20, 4, 0, 0),
  (88, .newarray .int, 2, 0, 0, 0, 0),
  (90, .putfield 40, 3, 0, 11, 23, 5063),
  (93, .aload_n 0, 1, 0, 0, 0, 0),
  (94, .bipush 96, 2, 20, 96, 0, 0),
  (96, .newarray .int, 2, 0, 0, 0, 0),
  (98, .putfield 43, 3, 0, 11, 24, 5064),
  (101, .aload_n 0, 1, 0, 0, 0, 0),
  (102, .bipush 24, 2, 20, 24, 0, 0),
  (104, .newarray .int, 2, 0, 0, 0, 0),
  (106, .putfield 46, 3, 0, 11, 25, 5065),
  (109, .aload_n 0, 1, 0, 0, 0, 0),
  (110, .getfield 7, 3, 0, 11, 0, 5040),
  (113, .iconst 3, 1, 20, 3, 0, 0),
  (114, .iconst 1, 1, 20, 1, 0, 0),
  (115, .iastore, 1, 0, 0, 0, 0),
  (116, .aload_n 0, 1, 0, 0, 0, 0),
  (117, .getfield 7, 3, 0, 11, 0, 5040),
  (120, .bipush 10, 2, 20, 10, 0, 0),
  (122, .iconst 5, 1, 20, 5, 0, 0),
  (123, .iastore, 1, 0, 0, 0, 0),
  (124, .aload_n 0, 1, 0, 0, 0, 0),
  (125, .getfield 7, 3, 0, 11, 0, 5040),
  (128, .bipush 11, 2, 20, 11, 0, 0),
  (130, .bipush 10, 2, 20, 10, 0, 0),
  (132, .iastore, 1, 0, 0, 0, 0),
  (133, .aload_n 0, 1, 0, 0, 0, 0),
  (134, .getfield 7, 3, 0, 11, 0, 5040),
  (137, .bipush 12, 2, 20, 12, 0, 0),
  (139, .bipush 60, 2, 20, 60, 0, 0),
  (141, .iastore, 1, 0, 0, 0, 0),
  (142, .aload_n 0, 1, 0, 0, 0, 0),
  (143, .getfield 7, 3, 0, 11, 0, 5040),
  (146, .bipush 13, 2, 20, 13, 0, 0),
  (148, .bipush 8, 2, 20, 8, 0, 0),
  (150, .iastore, 1, 0, 0, 0, 0),
  (151, .aload_n 0, 1, 0, 0, 0, 0),
  (152, .getfield 7, 3, 0, 11, 0, 5040),
  (155, .bipush 14, 2, 20, 14, 0, 0),
  (157, .iconst 4, 1, 20, 4, 0, 0),
  (158, .iastore, 1, 0, 0, 0, 0),
  (159, .aload_n 0, 1, 0, 0, 0, 0),
  (160, .getfield 7, 3, 0, 11, 0, 5040),
  (163, .bipush 15, 2, 20, 15, 0, 0),
  (165, .iconst 1, 1, 20, 1, 0, 0),
  (166, .iastore, 1, 0, 0, 0, 0),
  (167, .return_, 1, 0, 0, 0, 0)]
/-- ThreeMagnetsModel.<init>()V -/
def zz_r11 : zz_R := (yX11_init, cX11_init, 1, 1, zz_k11, 167)
def zz_CT : List zz_R := [zz_r0, zz_r1, zz_r2, zz_r3, zz_r4, zz_r5, zz_r6, zz_r7, zz_r8, zz_r9, zz_r10, zz_r11]
def zz_kL : mz_K := mz_kL.take 10
end
section
/-! the tables are in order: by counting -/
def mz_chk (T : List mz_R) (cl : List vw_C) (NM : List String) (ST : List (String × Nat × String)) (gt : Nat → Option Jvm.Cond) (r : mz_R) (ps : Nat × Nat × Nat × Nat) : Bool :=
  plainName r.2.1.cls && (r.2.1.cls != "java/lang/invoke/MethodHandle" && r.2.1.cls != "java/lang/invoke/VarHandle") && decide ((parseMethodDescriptor r.2.1.desc).map (fun d => d.parameters.length) = some (cond r.2.2.2.2.2.1 r.2.2.2.2.2.2.1 (r.2.2.2.2.2.2.1 - 1))) && decide (r.2.2.2.1 ≤ 45) &&
  decide (gt ps.1 = some (Jvm.Cond.code r.2.1 r.2.2.1 r.2.2.2.1 r.2.2.2.2.1)) && decide (gt ps.2.1 = some (Jvm.Cond.initialized r.2.1.cls)) &&
  cond r.2.2.2.2.2.1 (decide (gt ps.2.2.1 = some (Jvm.Cond.static r.2.1))) (decide (gt ps.2.2.1 = some (Jvm.Cond.instanceMethod r.2.1)) && decide (gt ps.2.2.2 = some (Jvm.Cond.selects r.2.1.cls r.2.1 r.2.1)) && cond (r.1 == 12) (r.2.1.cls == "java/lang/String") (match cl[r.1]? with
    | some q => q.1 == r.2.1.cls
    | none => false)) &&
  (mz_wk r.2.2.1 r.2.2.2.2.2.2.2 0 (mz_bs r.2.2.1) && r.2.2.2.2.2.2.2.all (fun q => (q.2.2.1 == mz_ln q.2.1 || mz_sw q.2.1) && mz_lk T cl NM ST gt r.2.1.cls q.2.1 q.2.2.2))
theorem mz_chk_ok {T : List mz_R} {cl : List vw_C} {NM : List String} {ST : List (String × Nat × String)} {G0 : List Jvm.Cond} {gt : Nat → Option Jvm.Cond} {r : mz_R} (hgt : ∀ (i : Nat) (w : Jvm.Cond), gt i = some w → w ∈ G0) (ps : Nat × Nat × Nat × Nat) (h : mz_chk T cl NM ST gt r ps = true) : mz_Rok T cl NM ST G0 gt r := by
  unfold mz_chk at h
  simp only [Bool.and_eq_true, bne_iff_ne, ne_eq, decide_eq_true_eq] at h
  obtain ⟨⟨⟨⟨⟨⟨⟨h1, h2⟩, h3⟩, h4⟩, h5⟩, h6⟩, h7⟩, h8, h9⟩ := h
  refine ⟨⟨h1, h2, h3, h4⟩, ⟨mz_G_in (hgt _ _ h5) rfl, mz_G_in (hgt _ _ h6) rfl⟩, fun hs => ?_, fun hs => ?_, fun q hq => by
    have h10 := List.all_eq_true.mp h9 q hq
    rw [Bool.and_eq_true] at h10
    unfold mz_eok
    rw [decide_eq_true (mz_dec_ok h8 q hq), h10.1, h10.2]
    rfl⟩
  · rw [hs] at h7
    exact mz_G_in (hgt _ _ (of_decide_eq_true h7)) rfl
  · rw [hs] at h7
    simp only [cond_false, Bool.and_eq_true, decide_eq_true_eq] at h7
    obtain ⟨⟨a1, a2⟩, a3⟩ := h7
    refine ⟨mz_G_in (hgt _ _ a1) rfl, mz_G_in (hgt _ _ a2) rfl, ?_⟩
    cases hb : (r.1 == 12) with
    | true =>
      rw [hb] at a3
      exact Or.inl ⟨by simpa using hb, by simpa using a3⟩
    | false =>
      rw [hb] at a3
      simp only [cond_false] at a3
      split at a3
      · rename_i q hq
        exact Or.inr ⟨by simpa using hb, q, hq, by simpa using a3⟩
      · cases a3
def mz_sokb (S0 : mz_Sh) (cl : List vw_C) : Bool := S0.all fun s => match s with
  | .inl _ => true
  | .inr (c, fs) => match cl[c]? with
    | some q => fs.length == q.2.2 && (List.range fs.length).all fun k => match fs[k]? with
      | some 0 => !(q.2.1 k).2.2.2 && decide (parseFieldDescriptor (q.2.1 k).2.2.1 = some .int)
      | some 1 => !(q.2.1 k).2.2.2 && decide (parseFieldDescriptor (q.2.1 k).2.2.1 = some .boolean)
      | some 2 => !(q.2.1 k).2.2.2 && decide (parseFieldDescriptor (q.2.1 k).2.2.1 = some (.object "java/lang/String"))
      | _ => true
    | none => false
theorem mz_sokb_ok {S0 : mz_Sh} {cl : List vw_C} (h : mz_sokb S0 cl = true) : mz_sok S0 cl := by
  intro i c fs hi
  have h1 := List.all_eq_true.mp h _ (List.mem_of_getElem? hi)
  simp only at h1
  split at h1
  · rename_i q hq
    rw [Bool.and_eq_true] at h1
    refine ⟨q, hq, by simpa using h1.1, fun k f hk => ?_⟩
    have hlt : k < fs.length := (List.getElem?_eq_some_iff.mp hk).1
    have h2 := List.all_eq_true.mp h1.2 k (List.mem_range.mpr hlt)
    rw [hk] at h2
    refine ⟨fun e => ?_, fun e => ?_, fun e => ?_⟩
    all_goals
      subst e
      simpa using h2
  · cases h1
def mz_cokb (gt : Nat → Option Jvm.Cond) (q : vw_C) (ps : List Nat) : Bool := decide ((u_ws q.1 q.2.1 q.2.2).map some = ps.map gt) && (u_ws q.1 q.2.1 q.2.2).all goodWord
theorem mz_cokb_ok {G0 : List Jvm.Cond} {gt : Nat → Option Jvm.Cond} {q : vw_C} (hgt : ∀ (i : Nat) (w : Jvm.Cond), gt i = some w → w ∈ G0) (ps : List Nat) (h : mz_cokb gt q ps = true) (hn : ∀ a, a < q.2.2 → ∀ b, b < q.2.2 → a ≠ b → (q.2.1 a).2.1 ≠ (q.2.1 b).2.1) (ty : Nat → FieldType) (ht : ∀ k, k < q.2.2 → parseFieldDescriptor (q.2.1 k).2.2.1 = some (ty k)) : mz_cok G0 q := by
  unfold mz_cokb at h
  rw [Bool.and_eq_true] at h
  refine ⟨fun w hw => ?_, hn, ty, ht⟩
  have h1 := of_decide_eq_true h.1
  have h2 : some w ∈ ps.map gt := by
    rw [← h1]
    exact List.mem_map.mpr ⟨w, hw, rfl⟩
  obtain ⟨i, -, hi⟩ := List.mem_map.mp h2
  exact mz_G_in (hgt _ _ hi) (List.all_eq_true.mp h.2 w hw)

def mz_NM : List String := ["ABOVE", "BODIES", "RULE_LEAST", "RULE_MOST", "RULE_FIRST"]
def mz_ST : List (String × Nat × String) := [("ThreeMagnets$Reader", 18, ""), ("ThreeMagnets", 374, "rsn"), ("ThreeMagnets", 376, "vrn"), ("ThreeMagnets", 378, "clxye")]
def mz_gt (i : Nat) : Option Jvm.Cond := match i / 1000 with
  | 0 => (k2_sels lw_privs)[i % 1000]?
  | 1 => tables_1_1[i % 1000]?
  | 2 => tables_1_2[i % 1000]?
  | 3 => tables_1_3[i % 1000]?
  | 4 => tables_1_4[i % 1000]?
  | 5 => tables_1_5[i % 1000]?
  | 6 => tables_1_6[i % 1000]?
  | 7 => tables_1_7[i % 1000]?
  | _ => none
theorem mz_gtA (i : Nat) (w : Jvm.Cond) (h : mz_gt i = some w) : w ∈ lw_tbl := by
  unfold mz_gt at h
  show w ∈ k2_sels lw_privs ++ (tables_1_1 ++ (tables_1_2 ++ (tables_1_3 ++ (tables_1_4 ++ (tables_1_5 ++ (tables_1_6 ++ (tables_1_7)))))))
  split at h
  · exact List.mem_append_left _ (List.mem_of_getElem? h)
  · exact List.mem_append_right _ (List.mem_append_left _ (List.mem_of_getElem? h))
  · exact List.mem_append_right _ (List.mem_append_right _ (List.mem_append_left _ (List.mem_of_getElem? h)))
  · exact List.mem_append_right _ (List.mem_append_right _ (List.mem_append_right _ (List.mem_append_left _ (List.mem_of_getElem? h))))
  · exact List.mem_append_right _ (List.mem_append_right _ (List.mem_append_right _ (List.mem_append_right _ (List.mem_append_left _ (List.mem_of_getElem? h)))))
  · exact List.mem_append_right _ (List.mem_append_right _ (List.mem_append_right _ (List.mem_append_right _ (List.mem_append_right _ (List.mem_append_left _ (List.mem_of_getElem? h))))))
  · exact List.mem_append_right _ (List.mem_append_right _ (List.mem_append_right _ (List.mem_append_right _ (List.mem_append_right _ (List.mem_append_right _ (List.mem_append_left _ (List.mem_of_getElem? h)))))))
  · exact List.mem_append_right _ (List.mem_append_right _ (List.mem_append_right _ (List.mem_append_right _ (List.mem_append_right _ (List.mem_append_right _ (List.mem_append_right _ (List.mem_of_getElem? h)))))))
  · cases h
abbrev mz_Rg (r : mz_R) : Prop := mz_Rok mz_T vwCl mz_NM mz_ST lw_tbl mz_gt r
set_option maxRecDepth 100000 in
theorem mz_ok0 : mz_Rg mz_r0 := mz_chk_ok mz_gtA (3161, 1006, 3159, 3160) (by decide +kernel)
set_option maxRecDepth 100000 in
theorem mz_ok1 : mz_Rg mz_r1 := mz_chk_ok mz_gtA (5007, 1006, 5005, 5006) (by decide +kernel)
set_option maxRecDepth 100000 in
theorem mz_ok2 : mz_Rg mz_r2 := mz_chk_ok mz_gtA (4017, 1007, 4015, 4016) (by decide +kernel)
set_option maxRecDepth 100000 in
theorem mz_ok3 : mz_Rg mz_r3 := mz_chk_ok mz_gtA (4085, 1007, 4083, 4084) (by decide +kernel)
set_option maxRecDepth 100000 in
theorem mz_ok4 : mz_Rg mz_r4 := mz_chk_ok mz_gtA (3233, 1007, 3231, 3232) (by decide +kernel)
set_option maxRecDepth 100000 in
theorem mz_ok5 : mz_Rg mz_r5 := mz_chk_ok mz_gtA (3225, 1007, 3223, 3224) (by decide +kernel)
set_option maxRecDepth 100000 in
theorem mz_ok6 : mz_Rg mz_r6 := mz_chk_ok mz_gtA (3229, 1007, 3227, 3228) (by decide +kernel)
set_option maxRecDepth 100000 in
theorem mz_ok7 : mz_Rg mz_r7 := mz_chk_ok mz_gtA (4009, 1007, 4007, 4008) (by decide +kernel)
set_option maxRecDepth 100000 in
theorem mz_ok8 : mz_Rg mz_r8 := mz_chk_ok mz_gtA (4068, 1007, 4066, 4067) (by decide +kernel)
set_option maxRecDepth 100000 in
theorem mz_ok9 : mz_Rg mz_r9 := mz_chk_ok mz_gtA (4001, 1007, 3239, 4000) (by decide +kernel)
set_option maxRecDepth 100000 in
theorem mz_ok10 : mz_Rg mz_r10 := mz_chk_ok mz_gtA (4005, 1007, 4003, 4004) (by decide +kernel)
set_option maxRecDepth 100000 in
theorem mz_ok11 : mz_Rg mz_r11 := mz_chk_ok mz_gtA (3237, 1007, 3235, 3236) (by decide +kernel)
set_option maxRecDepth 100000 in
theorem mz_ok12 : mz_Rg mz_r12 := mz_chk_ok mz_gtA (4035, 1007, 4033, 4034) (by decide +kernel)
set_option maxRecDepth 100000 in
theorem mz_ok13 : mz_Rg mz_r13 := mz_chk_ok mz_gtA (4039, 1007, 4038, 9) (by decide +kernel)
set_option maxRecDepth 100000 in
theorem mz_ok14 : mz_Rg mz_r14 := mz_chk_ok mz_gtA (4047, 1007, 4045, 4046) (by decide +kernel)
set_option maxRecDepth 100000 in
theorem mz_ok15 : mz_Rg mz_r15 := mz_chk_ok mz_gtA (4052, 1007, 4050, 4051) (by decide +kernel)
set_option maxRecDepth 100000 in
theorem mz_ok16 : mz_Rg mz_r16 := mz_chk_ok mz_gtA (4056, 1007, 4055, 10) (by decide +kernel)
set_option maxRecDepth 100000 in
theorem mz_ok17 : mz_Rg mz_r17 := mz_chk_ok mz_gtA (4064, 1007, 4062, 4063) (by decide +kernel)
set_option maxRecDepth 100000 in
theorem mz_ok18 : mz_Rg mz_r18 := mz_chk_ok mz_gtA (4081, 1007, 4079, 4080) (by decide +kernel)
set_option maxRecDepth 100000 in
theorem mz_ok19 : mz_Rg mz_r19 := mz_chk_ok mz_gtA (4089, 1007, 4088, 12) (by decide +kernel)
set_option maxRecDepth 100000 in
theorem mz_ok20 : mz_Rg mz_r20 := mz_chk_ok mz_gtA (5011, 1007, 5009, 5010) (by decide +kernel)
set_option maxRecDepth 100000 in
theorem mz_ok21 : mz_Rg mz_r21 := mz_chk_ok mz_gtA (2159, 1003, 2157, 2158) (by decide +kernel)
set_option maxRecDepth 100000 in
theorem mz_ok22 : mz_Rg mz_r22 := mz_chk_ok mz_gtA (2146, 1003, 2144, 2145) (by decide +kernel)
set_option maxRecDepth 100000 in
theorem mz_ok23 : mz_Rg mz_r23 := mz_chk_ok mz_gtA (2150, 1003, 2148, 2149) (by decide +kernel)
set_option maxRecDepth 100000 in
theorem mz_ok24 : mz_Rg mz_r24 := mz_chk_ok mz_gtA (2163, 1003, 2161, 2162) (by decide +kernel)
set_option maxRecDepth 100000 in
theorem mz_ok25 : mz_Rg mz_r25 := mz_chk_ok mz_gtA (2233, 1003, 2231, 2232) (by decide +kernel)
set_option maxRecDepth 100000 in
theorem mz_ok26 : mz_Rg mz_r26 := mz_chk_ok mz_gtA (2238, 1003, 2237, 2) (by decide +kernel)
set_option maxRecDepth 100000 in
theorem mz_ok27 : mz_Rg mz_r27 := mz_chk_ok mz_gtA (4235, 1003, 4233, 4234) (by decide +kernel)
set_option maxRecDepth 100000 in
theorem mz_ok28 : mz_Rg mz_r28 := mz_chk_ok mz_gtA (3019, 1009, 3017, 3018) (by decide +kernel)
set_option maxRecDepth 100000 in
theorem mz_ok29 : mz_Rg mz_r29 := mz_chk_ok mz_gtA (3023, 1009, 3022, 3) (by decide +kernel)
set_option maxRecDepth 100000 in
theorem mz_ok30 : mz_Rg mz_r30 := mz_chk_ok mz_gtA (3135, 1009, 3134, 0) (by decide +kernel)
set_option maxRecDepth 100000 in
theorem mz_ok31 : mz_Rg mz_r31 := mz_chk_ok mz_gtA (3027, 1009, 3026, 4) (by decide +kernel)
set_option maxRecDepth 100000 in
theorem mz_ok32 : mz_Rg mz_r32 := mz_chk_ok mz_gtA (3046, 1009, 3045, 6) (by decide +kernel)
set_option maxRecDepth 100000 in
theorem mz_ok33 : mz_Rg mz_r33 := mz_chk_ok mz_gtA (3038, 1009, 3037, 5) (by decide +kernel)
set_option maxRecDepth 100000 in
theorem mz_ok34 : mz_Rg mz_r34 := mz_chk_ok mz_gtA (3050, 1009, 3049, 7) (by decide +kernel)
set_option maxRecDepth 100000 in
theorem mz_ok35 : mz_Rg mz_r35 := mz_chk_ok mz_gtA (3034, 1009, 3033, 0) (by decide +kernel)
set_option maxRecDepth 100000 in
theorem mz_ok36 : mz_Rg mz_r36 := mz_chk_ok mz_gtA (3202, 1008, 3200, 3201) (by decide +kernel)
set_option maxRecDepth 100000 in
theorem mz_ok37 : mz_Rg mz_r37 := mz_chk_ok mz_gtA (3194, 1008, 3192, 3193) (by decide +kernel)
set_option maxRecDepth 100000 in
theorem mz_ok38 : mz_Rg mz_r38 := mz_chk_ok mz_gtA (3176, 1008, 3174, 3175) (by decide +kernel)
set_option maxRecDepth 100000 in
theorem mz_ok39 : mz_Rg mz_r39 := mz_chk_ok mz_gtA (3186, 1008, 3185, 0) (by decide +kernel)
set_option maxRecDepth 100000 in
theorem mz_ok40 : mz_Rg mz_r40 := mz_chk_ok mz_gtA (2171, 1008, 2169, 2170) (by decide +kernel)
set_option maxRecDepth 100000 in
theorem mz_ok41 : mz_Rg mz_r41 := mz_chk_ok mz_gtA (2199, 1008, 2198, 0) (by decide +kernel)
set_option maxRecDepth 100000 in
theorem mz_ok42 : mz_Rg mz_r42 := mz_chk_ok mz_gtA (2176, 1008, 2175, 1) (by decide +kernel)
set_option maxRecDepth 100000 in
theorem mz_ok43 : mz_Rg mz_r43 := mz_chk_ok mz_gtA (3181, 1008, 3180, 8) (by decide +kernel)
set_option maxRecDepth 100000 in
theorem mz_ok44 : mz_Rg mz_r44 := mz_chk_ok mz_gtA (4106, 1008, 4104, 4105) (by decide +kernel)
set_option maxRecDepth 100000 in
theorem mz_ok45 : mz_Rg mz_r45 := mz_chk_ok mz_gtA (4179, 1011, 4177, 4178) (by decide +kernel)
set_option maxRecDepth 100000 in
theorem mz_ok46 : mz_Rg mz_r46 := mz_chk_ok mz_gtA (4193, 1011, 4191, 4192) (by decide +kernel)
set_option maxRecDepth 100000 in
theorem mz_ok47 : mz_Rg mz_r47 := mz_chk_ok mz_gtA (4183, 1011, 4181, 4182) (by decide +kernel)
set_option maxRecDepth 100000 in
theorem mz_ok48 : mz_Rg mz_r48 := mz_chk_ok mz_gtA (4201, 1011, 4199, 4200) (by decide +kernel)
set_option maxRecDepth 100000 in
theorem mz_ok49 : mz_Rg mz_r49 := mz_chk_ok mz_gtA (4223, 1011, 4221, 4222) (by decide +kernel)
set_option maxRecDepth 100000 in
theorem mz_ok50 : mz_Rg mz_r50 := mz_chk_ok mz_gtA (4197, 1011, 4195, 4196) (by decide +kernel)
set_option maxRecDepth 100000 in
theorem mz_ok51 : mz_Rg mz_r51 := mz_chk_ok mz_gtA (4210, 1011, 4208, 4209) (by decide +kernel)
set_option maxRecDepth 100000 in
theorem mz_ok52 : mz_Rg mz_r52 := mz_chk_ok mz_gtA (3139, 1002, 3137, 3138) (by decide +kernel)
set_option maxRecDepth 100000 in
theorem mz_ok53 : mz_Rg mz_r53 := mz_chk_ok mz_gtA (4231, 1002, 4229, 4230) (by decide +kernel)
set_option maxRecDepth 100000 in
theorem mz_ok54 : mz_Rg mz_r54 := mz_chk_ok mz_gtA (3031, 1004, 3029, 3030) (by decide +kernel)
set_option maxRecDepth 100000 in
theorem mz_ok55 : mz_Rg mz_r55 := mz_chk_ok mz_gtA (5001, 1004, 4239, 5000) (by decide +kernel)
set_option maxRecDepth 100000 in
theorem mz_ok56 : mz_Rg mz_r56 := mz_chk_ok mz_gtA (3042, 1005, 3040, 3041) (by decide +kernel)
set_option maxRecDepth 100000 in
theorem mz_ok57 : mz_Rg mz_r57 := mz_chk_ok mz_gtA (2183, 1005, 2181, 2182) (by decide +kernel)
set_option maxRecDepth 100000 in
theorem mz_ok58 : mz_Rg mz_r58 := mz_chk_ok mz_gtA (2187, 1005, 2186, 0) (by decide +kernel)
set_option maxRecDepth 100000 in
theorem mz_ok59 : mz_Rg mz_r59 := mz_chk_ok mz_gtA (3143, 1005, 3141, 3142) (by decide +kernel)
set_option maxRecDepth 100000 in
theorem mz_ok60 : mz_Rg mz_r60 := mz_chk_ok mz_gtA (4138, 1010, 4136, 4137) (by decide +kernel)
set_option maxRecDepth 100000 in
theorem mz_ok61 : mz_Rg mz_r61 := mz_chk_ok mz_gtA (4166, 1010, 4164, 4165) (by decide +kernel)
set_option maxRecDepth 100000 in
theorem mz_ok62 : mz_Rg mz_r62 := mz_chk_ok mz_gtA (4143, 1010, 4142, 14) (by decide +kernel)
set_option maxRecDepth 100000 in
theorem mz_ok63 : mz_Rg mz_r63 := mz_chk_ok mz_gtA (4158, 1010, 4157, 15) (by decide +kernel)
set_option maxRecDepth 100000 in
theorem mz_ok64 : mz_Rg mz_r64 := mz_chk_ok mz_gtA (4162, 1010, 4161, 16) (by decide +kernel)
set_option maxRecDepth 100000 in
theorem mz_ok65 : mz_Rg mz_r65 := mz_chk_ok mz_gtA (4146, 1010, 4145, 0) (by decide +kernel)
set_option maxRecDepth 100000 in
theorem mz_ok66 : mz_Rg mz_r66 := mz_chk_ok mz_gtA (4150, 1010, 4149, 0) (by decide +kernel)
set_option maxRecDepth 100000 in
theorem mz_ok67 : mz_Rg mz_r67 := mz_chk_ok mz_gtA (2125, 1001, 2123, 2124) (by decide +kernel)
set_option maxRecDepth 100000 in
theorem mz_ok68 : mz_Rg mz_r68 := mz_chk_ok mz_gtA (2155, 1001, 2153, 2154) (by decide +kernel)
set_option maxRecDepth 100000 in
theorem mz_ok69 : mz_Rg mz_r69 := mz_chk_ok mz_gtA (2204, 1001, 2202, 2203) (by decide +kernel)
set_option maxRecDepth 100000 in
theorem mz_ok70 : mz_Rg mz_r70 := mz_chk_ok mz_gtA (2213, 1001, 2211, 2212) (by decide +kernel)
set_option maxRecDepth 100000 in
theorem mz_ok71 : mz_Rg mz_r71 := mz_chk_ok mz_gtA (2217, 1001, 2215, 2216) (by decide +kernel)
set_option maxRecDepth 100000 in
theorem mz_ok72 : mz_Rg mz_r72 := mz_chk_ok mz_gtA (2221, 1001, 2219, 2220) (by decide +kernel)
set_option maxRecDepth 100000 in
theorem mz_ok73 : mz_Rg mz_r73 := mz_chk_ok mz_gtA (2229, 1001, 2227, 2228) (by decide +kernel)
set_option maxRecDepth 100000 in
theorem mz_ok74 : mz_Rg mz_r74 := mz_chk_ok mz_gtA (3002, 1001, 3000, 3001) (by decide +kernel)
set_option maxRecDepth 100000 in
theorem mz_ok75 : mz_Rg mz_r75 := mz_chk_ok mz_gtA (3006, 1001, 3004, 3005) (by decide +kernel)
set_option maxRecDepth 100000 in
theorem mz_ok76 : mz_Rg mz_r76 := mz_chk_ok mz_gtA (3153, 1001, 3151, 3152) (by decide +kernel)
set_option maxRecDepth 100000 in
theorem mz_ok77 : mz_Rg mz_r77 := mz_chk_ok mz_gtA (3157, 1001, 3155, 3156) (by decide +kernel)
set_option maxRecDepth 100000 in
theorem mz_ok78 : mz_Rg mz_r78 := mz_chk_ok mz_gtA (3165, 1001, 3163, 3164) (by decide +kernel)
set_option maxRecDepth 100000 in
theorem mz_ok79 : mz_Rg mz_r79 := mz_chk_ok mz_gtA (3172, 1001, 3170, 3171) (by decide +kernel)
set_option maxRecDepth 100000 in
theorem mz_ok80 : mz_Rg mz_r80 := mz_chk_ok mz_gtA (3190, 1001, 3188, 3189) (by decide +kernel)
set_option maxRecDepth 100000 in
theorem mz_ok81 : mz_Rg mz_r81 := mz_chk_ok mz_gtA (3198, 1001, 3196, 3197) (by decide +kernel)
set_option maxRecDepth 100000 in
theorem mz_ok82 : mz_Rg mz_r82 := mz_chk_ok mz_gtA (3209, 1001, 3207, 3208) (by decide +kernel)
set_option maxRecDepth 100000 in
theorem mz_ok83 : mz_Rg mz_r83 := mz_chk_ok mz_gtA (3213, 1001, 3211, 3212) (by decide +kernel)
set_option maxRecDepth 100000 in
theorem mz_ok84 : mz_Rg mz_r84 := mz_chk_ok mz_gtA (3217, 1001, 3215, 3216) (by decide +kernel)
set_option maxRecDepth 100000 in
theorem mz_ok85 : mz_Rg mz_r85 := mz_chk_ok mz_gtA (3221, 1001, 3219, 3220) (by decide +kernel)
set_option maxRecDepth 100000 in
theorem mz_ok86 : mz_Rg mz_r86 := mz_chk_ok mz_gtA (4013, 1001, 4011, 4012) (by decide +kernel)
set_option maxRecDepth 100000 in
theorem mz_ok87 : mz_Rg mz_r87 := mz_chk_ok mz_gtA (4023, 1001, 4021, 4022) (by decide +kernel)
set_option maxRecDepth 100000 in
theorem mz_ok88 : mz_Rg mz_r88 := mz_chk_ok mz_gtA (4031, 1001, 4029, 4030) (by decide +kernel)
set_option maxRecDepth 100000 in
theorem mz_ok89 : mz_Rg mz_r89 := mz_chk_ok mz_gtA (4043, 1001, 4041, 4042) (by decide +kernel)
set_option maxRecDepth 100000 in
theorem mz_ok90 : mz_Rg mz_r90 := mz_chk_ok mz_gtA (4072, 1001, 4070, 4071) (by decide +kernel)
set_option maxRecDepth 100000 in
theorem mz_ok91 : mz_Rg mz_r91 := mz_chk_ok mz_gtA (4077, 1001, 4075, 4076) (by decide +kernel)
set_option maxRecDepth 100000 in
theorem mz_ok92 : mz_Rg mz_r92 := mz_chk_ok mz_gtA (4093, 1001, 4091, 4092) (by decide +kernel)
set_option maxRecDepth 100000 in
theorem mz_ok93 : mz_Rg mz_r93 := mz_chk_ok mz_gtA (4102, 1001, 4100, 4101) (by decide +kernel)
set_option maxRecDepth 100000 in
theorem mz_ok94 : mz_Rg mz_r94 := mz_chk_ok mz_gtA (4113, 1001, 4111, 4112) (by decide +kernel)
set_option maxRecDepth 100000 in
theorem mz_ok95 : mz_Rg mz_r95 := mz_chk_ok mz_gtA (4126, 1001, 4124, 4125) (by decide +kernel)
set_option maxRecDepth 100000 in
theorem mz_ok96 : mz_Rg mz_r96 := mz_chk_ok mz_gtA (4130, 1001, 4128, 4129) (by decide +kernel)
set_option maxRecDepth 100000 in
theorem mz_ok97 : mz_Rg mz_r97 := mz_chk_ok mz_gtA (4134, 1001, 4132, 4133) (by decide +kernel)
set_option maxRecDepth 100000 in
theorem mz_ok98 : mz_Rg mz_r98 := mz_chk_ok mz_gtA (4171, 1001, 4169, 4170) (by decide +kernel)
set_option maxRecDepth 100000 in
theorem mz_ok99 : mz_Rg mz_r99 := mz_chk_ok mz_gtA (4175, 1001, 4173, 4174) (by decide +kernel)
set_option maxRecDepth 100000 in
theorem mz_ok100 : mz_Rg mz_r100 := mz_chk_ok mz_gtA (4189, 1001, 4187, 4188) (by decide +kernel)
set_option maxRecDepth 100000 in
theorem mz_ok101 : mz_Rg mz_r101 := mz_chk_ok mz_gtA (4205, 1001, 4203, 4204) (by decide +kernel)
set_option maxRecDepth 100000 in
theorem mz_ok102 : mz_Rg mz_r102 := mz_chk_ok mz_gtA (4215, 1001, 4213, 4214) (by decide +kernel)
set_option maxRecDepth 100000 in
theorem mz_ok103 : mz_Rg mz_r103 := mz_chk_ok mz_gtA (4227, 1001, 4225, 4226) (by decide +kernel)
set_option maxRecDepth 100000 in
theorem mz_ok104 : mz_Rg mz_r104 := mz_chk_ok mz_gtA (5017, 1001, 5015, 5016) (by decide +kernel)
set_option maxRecDepth 100000 in
theorem mz_ok105 : mz_Rg mz_r105 := mz_chk_ok mz_gtA (5021, 1001, 5019, 5020) (by decide +kernel)
set_option maxRecDepth 100000 in
theorem mz_ok106 : mz_Rg mz_r106 := mz_chk_ok mz_gtA (5025, 1001, 5023, 5024) (by decide +kernel)
set_option maxRecDepth 100000 in
theorem mz_ok107 : mz_Rg mz_r107 := mz_chk_ok mz_gtA (5029, 1001, 5027, 5028) (by decide +kernel)
set_option maxRecDepth 100000 in
theorem mz_ok108 : mz_Rg mz_r108 := mz_chk_ok mz_gtA (5033, 1001, 5031, 5032) (by decide +kernel)
set_option maxRecDepth 100000 in
theorem mz_ok109 : mz_Rg mz_r109 := mz_chk_ok mz_gtA (2141, 1001, 2140, 0) (by decide +kernel)
set_option maxRecDepth 100000 in
theorem mz_ok110 : mz_Rg mz_r110 := mz_chk_ok mz_gtA (4060, 1001, 4059, 11) (by decide +kernel)
set_option maxRecDepth 100000 in
theorem mz_ok111 : mz_Rg mz_r111 := mz_chk_ok mz_gtA (4120, 1001, 4119, 13) (by decide +kernel)
set_option maxRecDepth 100000 in
theorem mz_ok112 : mz_Rg mz_r112 := mz_chk_ok mz_gtA (4219, 1001, 4218, 17) (by decide +kernel)
set_option maxRecDepth 100000 in
theorem mz_ok113 : mz_Rg mz_r113 := mz_chk_ok mz_gtA (2128, 1001, 2127, 0) (by decide +kernel)
set_option maxRecDepth 100000 in
theorem mz_ok114 : mz_Rg mz_r114 := mz_chk_ok mz_gtA (2131, 1001, 2130, 0) (by decide +kernel)
set_option maxRecDepth 100000 in
theorem mz_ok115 : mz_Rg mz_r115 := mz_chk_ok mz_gtA (2207, 1001, 2206, 0) (by decide +kernel)
set_option maxRecDepth 100000 in
theorem mz_ok116 : mz_Rg mz_r116 := mz_chk_ok mz_gtA (2137, 1001, 2136, 0) (by decide +kernel)
set_option maxRecDepth 100000 in
theorem mz_ok117 : mz_Rg mz_r117 := mz_chk_ok mz_gtA (3168, 1001, 3167, 0) (by decide +kernel)
set_option maxRecDepth 100000 in
theorem mz_ok118 : mz_Rg mz_r118 := mz_chk_ok mz_gtA (4026, 1001, 4025, 0) (by decide +kernel)
set_option maxRecDepth 100000 in
theorem mz_ok119 : mz_Rg mz_r119 := mz_chk_ok mz_gtA (3009, 1001, 3008, 0) (by decide +kernel)
set_option maxRecDepth 100000 in
theorem mz_ok120 : mz_Rg mz_r120 := mz_chk_ok mz_gtA (3012, 1001, 3011, 0) (by decide +kernel)
set_option maxRecDepth 100000 in
theorem mz_ok121 : mz_Rg mz_r121 := mz_chk_ok mz_gtA (2134, 1001, 2133, 0) (by decide +kernel)
set_option maxRecDepth 100000 in
theorem mz_ok122 : mz_Rg mz_r122 := mz_chk_ok mz_gtA (2190, 1001, 2189, 0) (by decide +kernel)
set_option maxRecDepth 100000 in
theorem mz_ok123 : mz_Rg mz_r123 := mz_chk_ok mz_gtA (2179, 1001, 2178, 0) (by decide +kernel)
set_option maxRecDepth 100000 in
theorem mz_ok124 : mz_Rg mz_r124 := mz_chk_ok mz_gtA (4097, 1001, 4096, 0) (by decide +kernel)
set_option maxRecDepth 100000 in
theorem mz_ok125 : mz_Rg mz_r125 := mz_chk_ok mz_gtA (4116, 1001, 4115, 0) (by decide +kernel)
set_option maxRecDepth 100000 in
theorem mz_ok126 : mz_Rg mz_r126 := mz_chk_ok mz_gtA (3146, 1001, 3145, 0) (by decide +kernel)
set_option maxRecDepth 100000 in
theorem mz_ok127 : mz_Rg mz_r127 := mz_chk_ok mz_gtA (5135, 1012, 5134, 18) (by decide +kernel)
set_option maxRecDepth 100000 in
theorem mz_ok128 : mz_Rg mz_r128 := mz_chk_ok mz_gtA (5128, 1012, 5127, 0) (by decide +kernel)
set_option maxRecDepth 100000 in
theorem mz_ok129 : mz_Rg mz_r129 := mz_chk_ok mz_gtA (5163, 1012, 5162, 0) (by decide +kernel)
set_option maxRecDepth 100000 in
theorem mz_ok130 : mz_Rg mz_r130 := mz_chk_ok mz_gtA (5185, 1012, 5184, 0) (by decide +kernel)
set_option maxRecDepth 100000 in
theorem mz_ok131 : mz_Rg mz_r131 := mz_chk_ok mz_gtA (5131, 1012, 5130, 0) (by decide +kernel)
set_option maxRecDepth 100000 in
theorem mz_ok132 : mz_Rg mz_r132 := mz_chk_ok mz_gtA (5148, 1012, 5147, 20) (by decide +kernel)
set_option maxRecDepth 100000 in
theorem mz_ok133 : mz_Rg mz_r133 := mz_chk_ok mz_gtA (5152, 1012, 5151, 21) (by decide +kernel)
set_option maxRecDepth 100000 in
theorem mz_ok134 : mz_Rg mz_r134 := mz_chk_ok mz_gtA (5192, 1012, 5191, 0) (by decide +kernel)
set_option maxRecDepth 100000 in
theorem mz_ok135 : mz_Rg mz_r135 := mz_chk_ok mz_gtA (5125, 1012, 5124, 0) (by decide +kernel)
set_option maxRecDepth 100000 in
theorem mz_ok136 : mz_Rg mz_r136 := mz_chk_ok mz_gtA (5140, 1012, 5139, 19) (by decide +kernel)
set_option maxRecDepth 100000 in
theorem mz_ok137 : mz_Rg mz_r137 := mz_chk_ok mz_gtA (5122, 1012, 5120, 5121) (by decide +kernel)
set_option maxRecDepth 100000 in
theorem mz_ok138 : mz_Rg mz_r138 := mz_chk_ok mz_gtA (5144, 1012, 5142, 5143) (by decide +kernel)
set_option maxRecDepth 100000 in
theorem mz_ok139 : mz_Rg mz_r139 := mz_chk_ok mz_gtA (5189, 1012, 5187, 5188) (by decide +kernel)
set_option maxRecDepth 100000 in
theorem mz_ok140 : mz_Rg mz_r140 := mz_chk_ok mz_gtA (5196, 1012, 5194, 5195) (by decide +kernel)
set_option maxRecDepth 100000 in
theorem mz_ok141 : mz_Rg mz_r141 := mz_chk_ok mz_gtA (5200, 1012, 5198, 5199) (by decide +kernel)
set_option maxRecDepth 100000 in
theorem mz_ok142 : mz_Rg mz_r142 := mz_chk_ok mz_gtA (5207, 1012, 5206, 0) (by decide +kernel)
set_option maxRecDepth 100000 in
theorem mz_ok143 : mz_Rg mz_r143 := mz_chk_ok mz_gtA (5204, 1012, 5202, 5203) (by decide +kernel)
set_option maxRecDepth 100000 in
theorem mz_ok144 : mz_Rg mz_r144 := mz_chk_ok mz_gtA (5215, 1012, 5214, 28) (by decide +kernel)
set_option maxRecDepth 100000 in
theorem mz_ok145 : mz_Rg mz_r145 := mz_chk_ok mz_gtA (5156, 1012, 5155, 22) (by decide +kernel)
set_option maxRecDepth 100000 in
theorem mz_ok146 : mz_Rg mz_r146 := mz_chk_ok mz_gtA (6040, 1012, 6039, 40) (by decide +kernel)
set_option maxRecDepth 100000 in
theorem mz_ok147 : mz_Rg mz_r147 := mz_chk_ok mz_gtA (5160, 1012, 5159, 23) (by decide +kernel)
set_option maxRecDepth 100000 in
theorem mz_ok148 : mz_Rg mz_r148 := mz_chk_ok mz_gtA (5219, 1012, 5218, 29) (by decide +kernel)
set_option maxRecDepth 100000 in
theorem mz_ok149 : mz_Rg mz_r149 := mz_chk_ok mz_gtA (5171, 1012, 5170, 25) (by decide +kernel)
set_option maxRecDepth 100000 in
theorem mz_ok150 : mz_Rg mz_r150 := mz_chk_ok mz_gtA (5167, 1012, 5166, 24) (by decide +kernel)
set_option maxRecDepth 100000 in
theorem mz_ok151 : mz_Rg mz_r151 := mz_chk_ok mz_gtA (6063, 1012, 6062, 43) (by decide +kernel)
set_option maxRecDepth 100000 in
theorem mz_ok152 : mz_Rg mz_r152 := mz_chk_ok mz_gtA (6059, 1012, 6058, 42) (by decide +kernel)
set_option maxRecDepth 100000 in
theorem mz_ok153 : mz_Rg mz_r153 := mz_chk_ok mz_gtA (6071, 1012, 6070, 44) (by decide +kernel)
set_option maxRecDepth 100000 in
theorem mz_ok154 : mz_Rg mz_r154 := mz_chk_ok mz_gtA (6079, 1012, 6078, 45) (by decide +kernel)
set_option maxRecDepth 100000 in
theorem mz_ok155 : mz_Rg mz_r155 := mz_chk_ok mz_gtA (6087, 1012, 6086, 46) (by decide +kernel)
set_option maxRecDepth 100000 in
theorem mz_ok156 : mz_Rg mz_r156 := mz_chk_ok mz_gtA (6055, 1012, 6054, 41) (by decide +kernel)
set_option maxRecDepth 100000 in
theorem mz_ok157 : mz_Rg mz_r157 := mz_chk_ok mz_gtA (5211, 1012, 5209, 5210) (by decide +kernel)
set_option maxRecDepth 100000 in
theorem mz_ok158 : mz_Rg mz_r158 := mz_chk_ok mz_gtA (5223, 1012, 5221, 5222) (by decide +kernel)
set_option maxRecDepth 100000 in
theorem mz_ok159 : mz_Rg mz_r159 := mz_chk_ok mz_gtA (6016, 1012, 6015, 36) (by decide +kernel)
set_option maxRecDepth 100000 in
theorem mz_ok160 : mz_Rg mz_r160 := mz_chk_ok mz_gtA (6020, 1012, 6019, 37) (by decide +kernel)
set_option maxRecDepth 100000 in
theorem mz_ok161 : mz_Rg mz_r161 := mz_chk_ok mz_gtA (6024, 1012, 6023, 38) (by decide +kernel)
set_option maxRecDepth 100000 in
theorem mz_ok162 : mz_Rg mz_r162 := mz_chk_ok mz_gtA (5232, 1012, 5231, 30) (by decide +kernel)
set_option maxRecDepth 100000 in
theorem mz_ok163 : mz_Rg mz_r163 := mz_chk_ok mz_gtA (5236, 1012, 5235, 31) (by decide +kernel)
set_option maxRecDepth 100000 in
theorem mz_ok164 : mz_Rg mz_r164 := mz_chk_ok mz_gtA (6000, 1012, 5239, 32) (by decide +kernel)
set_option maxRecDepth 100000 in
theorem mz_ok165 : mz_Rg mz_r165 := mz_chk_ok mz_gtA (6004, 1012, 6003, 33) (by decide +kernel)
set_option maxRecDepth 100000 in
theorem mz_ok166 : mz_Rg mz_r166 := mz_chk_ok mz_gtA (6008, 1012, 6007, 34) (by decide +kernel)
set_option maxRecDepth 100000 in
theorem mz_ok167 : mz_Rg mz_r167 := mz_chk_ok mz_gtA (6028, 1012, 6027, 39) (by decide +kernel)
set_option maxRecDepth 100000 in
theorem mz_ok168 : mz_Rg mz_r168 := mz_chk_ok mz_gtA (6012, 1012, 6011, 35) (by decide +kernel)
set_option maxRecDepth 100000 in
theorem mz_ok169 : mz_Rg mz_r169 := mz_chk_ok mz_gtA (5175, 1012, 5174, 26) (by decide +kernel)
set_option maxRecDepth 100000 in
theorem mz_ok170 : mz_Rg mz_r170 := mz_chk_ok mz_gtA (5228, 1012, 5226, 5227) (by decide +kernel)
set_option maxRecDepth 100000 in
theorem mz_ok171 : mz_Rg mz_r171 := mz_chk_ok mz_gtA (6032, 1012, 6030, 6031) (by decide +kernel)
set_option maxRecDepth 100000 in
theorem mz_ok172 : mz_Rg mz_r172 := mz_chk_ok mz_gtA (5182, 1012, 5181, 0) (by decide +kernel)
set_option maxRecDepth 100000 in
theorem mz_ok173 : mz_Rg mz_r173 := mz_chk_ok mz_gtA (5179, 1012, 5178, 27) (by decide +kernel)
set_option maxRecDepth 100000 in
theorem mz_ok174 : mz_Rg mz_r174 := mz_chk_ok mz_gtA (6036, 1012, 6034, 6035) (by decide +kernel)
set_option maxRecDepth 100000 in
theorem mz_ok175 : mz_Rg mz_r175 := mz_chk_ok mz_gtA (6047, 1012, 6046, 0) (by decide +kernel)
set_option maxRecDepth 100000 in
theorem mz_ok176 : mz_Rg mz_r176 := mz_chk_ok mz_gtA (6044, 1012, 6042, 6043) (by decide +kernel)
set_option maxRecDepth 100000 in
theorem mz_ok177 : mz_Rg mz_r177 := mz_chk_ok mz_gtA (6051, 1012, 6049, 6050) (by decide +kernel)
set_option maxRecDepth 100000 in
theorem mz_ok178 : mz_Rg mz_r178 := mz_chk_ok mz_gtA (6067, 1012, 6065, 6066) (by decide +kernel)
set_option maxRecDepth 100000 in
theorem mz_ok179 : mz_Rg mz_r179 := mz_chk_ok mz_gtA (6075, 1012, 6073, 6074) (by decide +kernel)
set_option maxRecDepth 100000 in
theorem mz_ok180 : mz_Rg mz_r180 := mz_chk_ok mz_gtA (6083, 1012, 6081, 6082) (by decide +kernel)
set_option maxRecDepth 100000 in
theorem mz_ok181 : mz_Rg mz_r181 := mz_chk_ok mz_gtA (6091, 1012, 6089, 6090) (by decide +kernel)
set_option maxRecDepth 100000 in
theorem mz_ok182 : mz_Rg mz_r182 := mz_chk_ok mz_gtA (6095, 1012, 6093, 6094) (by decide +kernel)
set_option maxRecDepth 100000 in
theorem mz_ok183 : mz_Rg mz_r183 := mz_chk_ok mz_gtA (6119, 1012, 6118, 50) (by decide +kernel)
set_option maxRecDepth 100000 in
theorem mz_ok184 : mz_Rg mz_r184 := mz_chk_ok mz_gtA (6127, 1012, 6126, 52) (by decide +kernel)
set_option maxRecDepth 100000 in
theorem mz_ok185 : mz_Rg mz_r185 := mz_chk_ok mz_gtA (6115, 1012, 6114, 49) (by decide +kernel)
set_option maxRecDepth 100000 in
theorem mz_ok186 : mz_Rg mz_r186 := mz_chk_ok mz_gtA (6107, 1012, 6106, 48) (by decide +kernel)
set_option maxRecDepth 100000 in
theorem mz_ok187 : mz_Rg mz_r187 := mz_chk_ok mz_gtA (6123, 1012, 6122, 51) (by decide +kernel)
set_option maxRecDepth 100000 in
theorem mz_ok188 : mz_Rg mz_r188 := mz_chk_ok mz_gtA (6134, 1012, 6133, 0) (by decide +kernel)
set_option maxRecDepth 100000 in
theorem mz_ok189 : mz_Rg mz_r189 := mz_chk_ok mz_gtA (6103, 1012, 6102, 47) (by decide +kernel)
set_option maxRecDepth 100000 in
theorem mz_ok190 : mz_Rg mz_r190 := mz_chk_ok mz_gtA (6099, 1012, 6097, 6098) (by decide +kernel)
set_option maxRecDepth 100000 in
theorem mz_ok191 : mz_Rg mz_r191 := mz_chk_ok mz_gtA (6111, 1012, 6109, 6110) (by decide +kernel)
set_option maxRecDepth 100000 in
theorem mz_ok192 : mz_Rg mz_r192 := mz_chk_ok mz_gtA (6142, 1012, 6141, 54) (by decide +kernel)
set_option maxRecDepth 100000 in
theorem mz_ok193 : mz_Rg mz_r193 := mz_chk_ok mz_gtA (6138, 1012, 6137, 53) (by decide +kernel)
set_option maxRecDepth 100000 in
theorem mz_ok194 : mz_Rg mz_r194 := mz_chk_ok mz_gtA (6131, 1012, 6129, 6130) (by decide +kernel)
set_option maxRecDepth 100000 in
theorem mz_ok195 : mz_Rg mz_r195 := mz_chk_ok mz_gtA (6154, 1012, 6153, 56) (by decide +kernel)
set_option maxRecDepth 100000 in
theorem mz_ok196 : mz_Rg mz_r196 := mz_chk_ok mz_gtA (6150, 1012, 6149, 55) (by decide +kernel)
set_option maxRecDepth 100000 in
theorem mz_ok197 : mz_Rg mz_r197 := mz_chk_ok mz_gtA (6146, 1012, 6144, 6145) (by decide +kernel)
set_option maxRecDepth 100000 in
theorem mz_ok198 : mz_Rg mz_r198 := mz_chk_ok mz_gtA (6162, 1012, 6161, 57) (by decide +kernel)
set_option maxRecDepth 100000 in
theorem mz_ok199 : mz_Rg mz_r199 := mz_chk_ok mz_gtA (6158, 1012, 6156, 6157) (by decide +kernel)
set_option maxRecDepth 100000 in
theorem mz_ok200 : mz_Rg mz_r200 := mz_chk_ok mz_gtA (6166, 1012, 6164, 6165) (by decide +kernel)
set_option maxRecDepth 100000 in
theorem mz_ok201 : mz_Rg mz_r201 := mz_chk_ok mz_gtA (6170, 1012, 6168, 6169) (by decide +kernel)
set_option maxRecDepth 100000 in
theorem mz_ok202 : mz_Rg mz_r202 := mz_chk_ok mz_gtA (6174, 1012, 6172, 6173) (by decide +kernel)
set_option maxRecDepth 100000 in
theorem mz_ok203 : mz_Rg mz_r203 := mz_chk_ok mz_gtA (6182, 1012, 6181, 58) (by decide +kernel)
set_option maxRecDepth 100000 in
theorem mz_ok204 : mz_Rg mz_r204 := mz_chk_ok mz_gtA (6178, 1012, 6176, 6177) (by decide +kernel)
set_option maxRecDepth 100000 in
theorem mz_ok205 : mz_Rg mz_r205 := mz_chk_ok mz_gtA (6190, 1012, 6189, 59) (by decide +kernel)
set_option maxRecDepth 100000 in
theorem mz_ok206 : mz_Rg mz_r206 := mz_chk_ok mz_gtA (6186, 1012, 6184, 6185) (by decide +kernel)
set_option maxRecDepth 100000 in
theorem mz_ok207 : mz_Rg mz_r207 := mz_chk_ok mz_gtA (6195, 1012, 6193, 6194) (by decide +kernel)
set_option maxRecDepth 100000 in
theorem mz_ok208 : mz_Rg mz_r208 := mz_chk_ok mz_gtA (6199, 1012, 6197, 6198) (by decide +kernel)
set_option maxRecDepth 100000 in
theorem mz_ok209 : mz_Rg mz_r209 := mz_chk_ok mz_gtA (6215, 1012, 6214, 62) (by decide +kernel)
set_option maxRecDepth 100000 in
theorem mz_ok210 : mz_Rg mz_r210 := mz_chk_ok mz_gtA (6222, 1012, 6221, 0) (by decide +kernel)
set_option maxRecDepth 100000 in
theorem mz_ok211 : mz_Rg mz_r211 := mz_chk_ok mz_gtA (6207, 1012, 6206, 60) (by decide +kernel)
set_option maxRecDepth 100000 in
theorem mz_ok212 : mz_Rg mz_r212 := mz_chk_ok mz_gtA (6219, 1012, 6218, 63) (by decide +kernel)
set_option maxRecDepth 100000 in
theorem mz_ok213 : mz_Rg mz_r213 := mz_chk_ok mz_gtA (6211, 1012, 6210, 61) (by decide +kernel)
set_option maxRecDepth 100000 in
theorem mz_ok214 : mz_Rg mz_r214 := mz_chk_ok mz_gtA (6226, 1012, 6225, 64) (by decide +kernel)
set_option maxRecDepth 100000 in
theorem mz_ok215 : mz_Rg mz_r215 := mz_chk_ok mz_gtA (6230, 1012, 6229, 65) (by decide +kernel)
set_option maxRecDepth 100000 in
theorem mz_ok216 : mz_Rg mz_r216 := mz_chk_ok mz_gtA (6234, 1012, 6233, 66) (by decide +kernel)
set_option maxRecDepth 100000 in
theorem mz_ok217 : mz_Rg mz_r217 := mz_chk_ok mz_gtA (6203, 1012, 6201, 6202) (by decide +kernel)
set_option maxRecDepth 100000 in
theorem mz_ok218 : mz_Rg mz_r218 := mz_chk_ok mz_gtA (6238, 1012, 6236, 6237) (by decide +kernel)
set_option maxRecDepth 100000 in
theorem mz_ok219 : mz_Rg mz_r219 := mz_chk_ok mz_gtA (7005, 1012, 7004, 0) (by decide +kernel)
set_option maxRecDepth 100000 in
theorem mz_ok220 : mz_Rg mz_r220 := mz_chk_ok mz_gtA (7002, 1012, 7000, 7001) (by decide +kernel)
set_option maxRecDepth 100000 in
theorem mz_ok221 : mz_Rg mz_r221 := mz_chk_ok mz_gtA (7009, 1012, 7007, 7008) (by decide +kernel)
set_option maxRecDepth 100000 in
theorem mz_ok222 : mz_Rg mz_r222 := mz_chk_ok mz_gtA (7013, 1012, 7011, 7012) (by decide +kernel)
set_option maxRecDepth 100000 in
theorem mz_ok223 : mz_Rg mz_r223 := mz_chk_ok mz_gtA (7017, 1012, 7015, 7016) (by decide +kernel)
set_option maxRecDepth 100000 in
theorem mz_ok224 : mz_Rg mz_r224 := mz_chk_ok mz_gtA (7021, 1012, 7019, 7020) (by decide +kernel)
set_option maxRecDepth 100000 in
theorem mz_ok225 : mz_Rg mz_r225 := mz_chk_ok mz_gtA (7025, 1012, 7023, 7024) (by decide +kernel)
set_option maxRecDepth 100000 in
theorem mz_ok226 : mz_Rg mz_r226 := mz_chk_ok mz_gtA (7029, 1012, 7027, 7028) (by decide +kernel)
set_option maxRecDepth 100000 in
theorem mz_ok227 : mz_Rg mz_r227 := mz_chk_ok mz_gtA (7033, 1012, 7031, 7032) (by decide +kernel)
set_option maxRecDepth 100000 in
theorem mz_ok228 : mz_Rg mz_r228 := mz_chk_ok mz_gtA (7037, 1012, 7035, 7036) (by decide +kernel)
set_option maxRecDepth 100000 in
theorem mz_ok229 : mz_Rg mz_r229 := mz_chk_ok mz_gtA (7041, 1012, 7039, 7040) (by decide +kernel)
set_option maxRecDepth 100000 in
theorem mz_ok230 : mz_Rg mz_r230 := mz_chk_ok mz_gtA (3054, 1014, 3052, 3053) (by decide +kernel)
set_option maxRecDepth 100000 in
theorem mz_ok231 : mz_Rg mz_r231 := mz_chk_ok mz_gtA (3058, 1014, 3056, 3057) (by decide +kernel)
set_option maxRecDepth 100000 in
theorem mz_ok232 : mz_Rg mz_r232 := mz_chk_ok mz_gtA (3062, 1014, 3060, 3061) (by decide +kernel)
set_option maxRecDepth 100000 in
theorem mz_ok233 : mz_Rg mz_r233 := mz_chk_ok mz_gtA (3068, 1014, 3066, 3067) (by decide +kernel)
set_option maxRecDepth 100000 in
theorem mz_ok234 : mz_Rg mz_r234 := mz_chk_ok mz_gtA (3072, 1014, 3070, 3071) (by decide +kernel)
set_option maxRecDepth 100000 in
theorem mz_ok235 : mz_Rg mz_r235 := mz_chk_ok mz_gtA (3075, 1015, 3074, 0) (by decide +kernel)
set_option maxRecDepth 100000 in
theorem mz_ok236 : mz_Rg mz_r236 := mz_chk_ok mz_gtA (3078, 1015, 3077, 0) (by decide +kernel)
set_option maxRecDepth 100000 in
theorem mz_ok237 : mz_Rg mz_r237 := mz_chk_ok mz_gtA (3083, 1015, 3082, 0) (by decide +kernel)
set_option maxRecDepth 100000 in
theorem mz_okT_0 : ∀ r ∈ mz_T_0, mz_Rg r := List.forall_mem_cons.mpr ⟨mz_ok0, List.forall_mem_cons.mpr ⟨mz_ok1, List.forall_mem_cons.mpr ⟨mz_ok2, List.forall_mem_cons.mpr ⟨mz_ok3, List.forall_mem_cons.mpr ⟨mz_ok4, List.forall_mem_cons.mpr ⟨mz_ok5, List.forall_mem_cons.mpr ⟨mz_ok6, List.forall_mem_cons.mpr ⟨mz_ok7, List.forall_mem_cons.mpr ⟨mz_ok8, List.forall_mem_cons.mpr ⟨mz_ok9, List.forall_mem_cons.mpr ⟨mz_ok10, List.forall_mem_cons.mpr ⟨mz_ok11, List.forall_mem_cons.mpr ⟨mz_ok12, List.forall_mem_cons.mpr ⟨mz_ok13, List.forall_mem_cons.mpr ⟨mz_ok14, List.forall_mem_cons.mpr ⟨mz_ok15, List.forall_mem_cons.mpr ⟨mz_ok16, List.forall_mem_cons.mpr ⟨mz_ok17, List.forall_mem_cons.mpr ⟨mz_ok18, List.forall_mem_cons.mpr ⟨mz_ok19, List.forall_mem_cons.mpr ⟨mz_ok20, List.forall_mem_cons.mpr ⟨mz_ok21, List.forall_mem_cons.mpr ⟨mz_ok22, List.forall_mem_cons.mpr ⟨mz_ok23, List.forall_mem_cons.mpr ⟨mz_ok24, List.forall_mem_cons.mpr ⟨mz_ok25, List.forall_mem_cons.mpr ⟨mz_ok26, List.forall_mem_cons.mpr ⟨mz_ok27, List.forall_mem_cons.mpr ⟨mz_ok28, List.forall_mem_cons.mpr ⟨mz_ok29, List.forall_mem_cons.mpr ⟨mz_ok30, List.forall_mem_cons.mpr ⟨mz_ok31, List.forall_mem_cons.mpr ⟨mz_ok32, List.forall_mem_cons.mpr ⟨mz_ok33, List.forall_mem_cons.mpr ⟨mz_ok34, List.forall_mem_cons.mpr ⟨mz_ok35, List.forall_mem_cons.mpr ⟨mz_ok36, List.forall_mem_cons.mpr ⟨mz_ok37, List.forall_mem_cons.mpr ⟨mz_ok38, List.forall_mem_cons.mpr ⟨mz_ok39, fun _ h => absurd h List.not_mem_nil⟩⟩⟩⟩⟩⟩⟩⟩⟩⟩⟩⟩⟩⟩⟩⟩⟩⟩⟩⟩⟩⟩⟩⟩⟩⟩⟩⟩⟩⟩⟩⟩⟩⟩⟩⟩⟩⟩⟩⟩
set_option maxRecDepth 100000 in
theorem mz_okT_1 : ∀ r ∈ mz_T_1, mz_Rg r := List.forall_mem_cons.mpr ⟨mz_ok40, List.forall_mem_cons.mpr ⟨mz_ok41, List.forall_mem_cons.mpr ⟨mz_ok42, List.forall_mem_cons.mpr ⟨mz_ok43, List.forall_mem_cons.mpr ⟨mz_ok44, List.forall_mem_cons.mpr ⟨mz_ok45, List.forall_mem_cons.mpr ⟨mz_ok46, List.forall_mem_cons.mpr ⟨mz_ok47, List.forall_mem_cons.mpr ⟨mz_ok48, List.forall_mem_cons.mpr ⟨mz_ok49, List.forall_mem_cons.mpr ⟨mz_ok50, List.forall_mem_cons.mpr ⟨mz_ok51, List.forall_mem_cons.mpr ⟨mz_ok52, List.forall_mem_cons.mpr ⟨mz_ok53, List.forall_mem_cons.mpr ⟨mz_ok54, List.forall_mem_cons.mpr ⟨mz_ok55, List.forall_mem_cons.mpr ⟨mz_ok56, List.forall_mem_cons.mpr ⟨mz_ok57, List.forall_mem_cons.mpr ⟨mz_ok58, List.forall_mem_cons.mpr ⟨mz_ok59, List.forall_mem_cons.mpr ⟨mz_ok60, List.forall_mem_cons.mpr ⟨mz_ok61, List.forall_mem_cons.mpr ⟨mz_ok62, List.forall_mem_cons.mpr ⟨mz_ok63, List.forall_mem_cons.mpr ⟨mz_ok64, List.forall_mem_cons.mpr ⟨mz_ok65, List.forall_mem_cons.mpr ⟨mz_ok66, List.forall_mem_cons.mpr ⟨mz_ok67, List.forall_mem_cons.mpr ⟨mz_ok68, List.forall_mem_cons.mpr ⟨mz_ok69, List.forall_mem_cons.mpr ⟨mz_ok70, List.forall_mem_cons.mpr ⟨mz_ok71, List.forall_mem_cons.mpr ⟨mz_ok72, List.forall_mem_cons.mpr ⟨mz_ok73, List.forall_mem_cons.mpr ⟨mz_ok74, List.forall_mem_cons.mpr ⟨mz_ok75, List.forall_mem_cons.mpr ⟨mz_ok76, List.forall_mem_cons.mpr ⟨mz_ok77, List.forall_mem_cons.mpr ⟨mz_ok78, List.forall_mem_cons.mpr ⟨mz_ok79, fun _ h => absurd h List.not_mem_nil⟩⟩⟩⟩⟩⟩⟩⟩⟩⟩⟩⟩⟩⟩⟩⟩⟩⟩⟩⟩⟩⟩⟩⟩⟩⟩⟩⟩⟩⟩⟩⟩⟩⟩⟩⟩⟩⟩⟩⟩
set_option maxRecDepth 100000 in
theorem mz_okT_2 : ∀ r ∈ mz_T_2, mz_Rg r := List.forall_mem_cons.mpr ⟨mz_ok80, List.forall_mem_cons.mpr ⟨mz_ok81, List.forall_mem_cons.mpr ⟨mz_ok82, List.forall_mem_cons.mpr ⟨mz_ok83, List.forall_mem_cons.mpr ⟨mz_ok84, List.forall_mem_cons.mpr ⟨mz_ok85, List.forall_mem_cons.mpr ⟨mz_ok86, List.forall_mem_cons.mpr ⟨mz_ok87, List.forall_mem_cons.mpr ⟨mz_ok88, List.forall_mem_cons.mpr ⟨mz_ok89, List.forall_mem_cons.mpr ⟨mz_ok90, List.forall_mem_cons.mpr ⟨mz_ok91, List.forall_mem_cons.mpr ⟨mz_ok92, List.forall_mem_cons.mpr ⟨mz_ok93, List.forall_mem_cons.mpr ⟨mz_ok94, List.forall_mem_cons.mpr ⟨mz_ok95, List.forall_mem_cons.mpr ⟨mz_ok96, List.forall_mem_cons.mpr ⟨mz_ok97, List.forall_mem_cons.mpr ⟨mz_ok98, List.forall_mem_cons.mpr ⟨mz_ok99, List.forall_mem_cons.mpr ⟨mz_ok100, List.forall_mem_cons.mpr ⟨mz_ok101, List.forall_mem_cons.mpr ⟨mz_ok102, List.forall_mem_cons.mpr ⟨mz_ok103, List.forall_mem_cons.mpr ⟨mz_ok104, List.forall_mem_cons.mpr ⟨mz_ok105, List.forall_mem_cons.mpr ⟨mz_ok106, List.forall_mem_cons.mpr ⟨mz_ok107, List.forall_mem_cons.mpr ⟨mz_ok108, List.forall_mem_cons.mpr ⟨mz_ok109, List.forall_mem_cons.mpr ⟨mz_ok110, List.forall_mem_cons.mpr ⟨mz_ok111, List.forall_mem_cons.mpr ⟨mz_ok112, List.forall_mem_cons.mpr ⟨mz_ok113, List.forall_mem_cons.mpr ⟨mz_ok114, List.forall_mem_cons.mpr ⟨mz_ok115, List.forall_mem_cons.mpr ⟨mz_ok116, List.forall_mem_cons.mpr ⟨mz_ok117, List.forall_mem_cons.mpr ⟨mz_ok118, List.forall_mem_cons.mpr ⟨mz_ok119, fun _ h => absurd h List.not_mem_nil⟩⟩⟩⟩⟩⟩⟩⟩⟩⟩⟩⟩⟩⟩⟩⟩⟩⟩⟩⟩⟩⟩⟩⟩⟩⟩⟩⟩⟩⟩⟩⟩⟩⟩⟩⟩⟩⟩⟩⟩
set_option maxRecDepth 100000 in
theorem mz_okT_3 : ∀ r ∈ mz_T_3, mz_Rg r := List.forall_mem_cons.mpr ⟨mz_ok120, List.forall_mem_cons.mpr ⟨mz_ok121, List.forall_mem_cons.mpr ⟨mz_ok122, List.forall_mem_cons.mpr ⟨mz_ok123, List.forall_mem_cons.mpr ⟨mz_ok124, List.forall_mem_cons.mpr ⟨mz_ok125, List.forall_mem_cons.mpr ⟨mz_ok126, List.forall_mem_cons.mpr ⟨mz_ok127, List.forall_mem_cons.mpr ⟨mz_ok128, List.forall_mem_cons.mpr ⟨mz_ok129, List.forall_mem_cons.mpr ⟨mz_ok130, List.forall_mem_cons.mpr ⟨mz_ok131, List.forall_mem_cons.mpr ⟨mz_ok132, List.forall_mem_cons.mpr ⟨mz_ok133, List.forall_mem_cons.mpr ⟨mz_ok134, List.forall_mem_cons.mpr ⟨mz_ok135, List.forall_mem_cons.mpr ⟨mz_ok136, List.forall_mem_cons.mpr ⟨mz_ok137, List.forall_mem_cons.mpr ⟨mz_ok138, List.forall_mem_cons.mpr ⟨mz_ok139, List.forall_mem_cons.mpr ⟨mz_ok140, List.forall_mem_cons.mpr ⟨mz_ok141, List.forall_mem_cons.mpr ⟨mz_ok142, List.forall_mem_cons.mpr ⟨mz_ok143, List.forall_mem_cons.mpr ⟨mz_ok144, List.forall_mem_cons.mpr ⟨mz_ok145, List.forall_mem_cons.mpr ⟨mz_ok146, List.forall_mem_cons.mpr ⟨mz_ok147, List.forall_mem_cons.mpr ⟨mz_ok148, List.forall_mem_cons.mpr ⟨mz_ok149, List.forall_mem_cons.mpr ⟨mz_ok150, List.forall_mem_cons.mpr ⟨mz_ok151, List.forall_mem_cons.mpr ⟨mz_ok152, List.forall_mem_cons.mpr ⟨mz_ok153, List.forall_mem_cons.mpr ⟨mz_ok154, List.forall_mem_cons.mpr ⟨mz_ok155, List.forall_mem_cons.mpr ⟨mz_ok156, List.forall_mem_cons.mpr ⟨mz_ok157, List.forall_mem_cons.mpr ⟨mz_ok158, List.forall_mem_cons.mpr ⟨mz_ok159, fun _ h => absurd h List.not_mem_nil⟩⟩⟩⟩⟩⟩⟩⟩⟩⟩⟩⟩⟩⟩⟩⟩⟩⟩⟩⟩⟩⟩⟩⟩⟩⟩⟩⟩⟩⟩⟩⟩⟩⟩⟩⟩⟩⟩⟩⟩
set_option maxRecDepth 100000 in
theorem mz_okT_4 : ∀ r ∈ mz_T_4, mz_Rg r := List.forall_mem_cons.mpr ⟨mz_ok160, List.forall_mem_cons.mpr ⟨mz_ok161, List.forall_mem_cons.mpr ⟨mz_ok162, List.forall_mem_cons.mpr ⟨mz_ok163, List.forall_mem_cons.mpr ⟨mz_ok164, List.forall_mem_cons.mpr ⟨mz_ok165, List.forall_mem_cons.mpr ⟨mz_ok166, List.forall_mem_cons.mpr ⟨mz_ok167, List.forall_mem_cons.mpr ⟨mz_ok168, List.forall_mem_cons.mpr ⟨mz_ok169, List.forall_mem_cons.mpr ⟨mz_ok170, List.forall_mem_cons.mpr ⟨mz_ok171, List.forall_mem_cons.mpr ⟨mz_ok172, List.forall_mem_cons.mpr ⟨mz_ok173, List.forall_mem_cons.mpr ⟨mz_ok174, List.forall_mem_cons.mpr ⟨mz_ok175, List.forall_mem_cons.mpr ⟨mz_ok176, List.forall_mem_cons.mpr ⟨mz_ok177, List.forall_mem_cons.mpr ⟨mz_ok178, List.forall_mem_cons.mpr ⟨mz_ok179, List.forall_mem_cons.mpr ⟨mz_ok180, List.forall_mem_cons.mpr ⟨mz_ok181, List.forall_mem_cons.mpr ⟨mz_ok182, List.forall_mem_cons.mpr ⟨mz_ok183, List.forall_mem_cons.mpr ⟨mz_ok184, List.forall_mem_cons.mpr ⟨mz_ok185, List.forall_mem_cons.mpr ⟨mz_ok186, List.forall_mem_cons.mpr ⟨mz_ok187, List.forall_mem_cons.mpr ⟨mz_ok188, List.forall_mem_cons.mpr ⟨mz_ok189, List.forall_mem_cons.mpr ⟨mz_ok190, List.forall_mem_cons.mpr ⟨mz_ok191, List.forall_mem_cons.mpr ⟨mz_ok192, List.forall_mem_cons.mpr ⟨mz_ok193, List.forall_mem_cons.mpr ⟨mz_ok194, List.forall_mem_cons.mpr ⟨mz_ok195, List.forall_mem_cons.mpr ⟨mz_ok196, List.forall_mem_cons.mpr ⟨mz_ok197, List.forall_mem_cons.mpr ⟨mz_ok198, List.forall_mem_cons.mpr ⟨mz_ok199, fun _ h => absurd h List.not_mem_nil⟩⟩⟩⟩⟩⟩⟩⟩⟩⟩⟩⟩⟩⟩⟩⟩⟩⟩⟩⟩⟩⟩⟩⟩⟩⟩⟩⟩⟩⟩⟩⟩⟩⟩⟩⟩⟩⟩⟩⟩
set_option maxRecDepth 100000 in
theorem mz_okT_5 : ∀ r ∈ mz_T_5, mz_Rg r := List.forall_mem_cons.mpr ⟨mz_ok200, List.forall_mem_cons.mpr ⟨mz_ok201, List.forall_mem_cons.mpr ⟨mz_ok202, List.forall_mem_cons.mpr ⟨mz_ok203, List.forall_mem_cons.mpr ⟨mz_ok204, List.forall_mem_cons.mpr ⟨mz_ok205, List.forall_mem_cons.mpr ⟨mz_ok206, List.forall_mem_cons.mpr ⟨mz_ok207, List.forall_mem_cons.mpr ⟨mz_ok208, List.forall_mem_cons.mpr ⟨mz_ok209, List.forall_mem_cons.mpr ⟨mz_ok210, List.forall_mem_cons.mpr ⟨mz_ok211, List.forall_mem_cons.mpr ⟨mz_ok212, List.forall_mem_cons.mpr ⟨mz_ok213, List.forall_mem_cons.mpr ⟨mz_ok214, List.forall_mem_cons.mpr ⟨mz_ok215, List.forall_mem_cons.mpr ⟨mz_ok216, List.forall_mem_cons.mpr ⟨mz_ok217, List.forall_mem_cons.mpr ⟨mz_ok218, List.forall_mem_cons.mpr ⟨mz_ok219, List.forall_mem_cons.mpr ⟨mz_ok220, List.forall_mem_cons.mpr ⟨mz_ok221, List.forall_mem_cons.mpr ⟨mz_ok222, List.forall_mem_cons.mpr ⟨mz_ok223, List.forall_mem_cons.mpr ⟨mz_ok224, List.forall_mem_cons.mpr ⟨mz_ok225, List.forall_mem_cons.mpr ⟨mz_ok226, List.forall_mem_cons.mpr ⟨mz_ok227, List.forall_mem_cons.mpr ⟨mz_ok228, List.forall_mem_cons.mpr ⟨mz_ok229, List.forall_mem_cons.mpr ⟨mz_ok230, List.forall_mem_cons.mpr ⟨mz_ok231, List.forall_mem_cons.mpr ⟨mz_ok232, List.forall_mem_cons.mpr ⟨mz_ok233, List.forall_mem_cons.mpr ⟨mz_ok234, List.forall_mem_cons.mpr ⟨mz_ok235, List.forall_mem_cons.mpr ⟨mz_ok236, List.forall_mem_cons.mpr ⟨mz_ok237, fun _ h => absurd h List.not_mem_nil⟩⟩⟩⟩⟩⟩⟩⟩⟩⟩⟩⟩⟩⟩⟩⟩⟩⟩⟩⟩⟩⟩⟩⟩⟩⟩⟩⟩⟩⟩⟩⟩⟩⟩⟩⟩⟩⟩
theorem mz_okT : ∀ r ∈ mz_T, mz_Rg r := List.forall_mem_append.mpr ⟨mz_okT_0, List.forall_mem_append.mpr ⟨mz_okT_1, List.forall_mem_append.mpr ⟨mz_okT_2, List.forall_mem_append.mpr ⟨mz_okT_3, List.forall_mem_append.mpr ⟨mz_okT_4, mz_okT_5⟩⟩⟩⟩⟩
theorem mz_okA : ∀ (a : Nat) (rc : mz_R), mz_T[a]? = some rc → mz_Rok mz_T vwCl mz_NM mz_ST lw_tbl mz_gt rc := fun a rc h => mz_okT rc (List.mem_of_getElem? h)
set_option maxRecDepth 100000 in
theorem mz_c0 : mz_cok lw_tbl (RX0, TX0, 5) := mz_cokb_ok mz_gtA [1133, 1135, 1137, 1139, 1141] (by decide +kernel) nmX0 tyX0 tyX0_ok
set_option maxRecDepth 100000 in
theorem mz_c1 : mz_cok lw_tbl (RX1, TX1, 7) := mz_cokb_ok mz_gtA [1165, 1167, 1169, 1171, 1173, 1175, 1177] (by decide +kernel) nmX1 tyX1 tyX1_ok
set_option maxRecDepth 100000 in
theorem mz_c2 : mz_cok lw_tbl (RX2, TX2, 5) := mz_cokb_ok mz_gtA [1056, 1058, 1060, 1062, 1064] (by decide +kernel) nmX2 tyX2 tyX2_ok
set_option maxRecDepth 100000 in
theorem mz_c3 : mz_cok lw_tbl (RX3, TX3, 5) := mz_cokb_ok mz_gtA [2033, 2035, 2037, 2039, 2041] (by decide +kernel) nmX3 tyX3 tyX3_ok
set_option maxRecDepth 100000 in
theorem mz_c4 : mz_cok lw_tbl (RX4, TX4, 4) := mz_cokb_ok mz_gtA [2009, 2011, 2013, 2015] (by decide +kernel) nmX4 tyX4 tyX4_ok
set_option maxRecDepth 100000 in
theorem mz_c5 : mz_cok lw_tbl (RX5, TX5, 3) := mz_cokb_ok mz_gtA [2090, 2092, 2094] (by decide +kernel) nmX5 tyX5 tyX5_ok
set_option maxRecDepth 100000 in
theorem mz_c6 : mz_cok lw_tbl (RX6, TX6, 13) := mz_cokb_ok mz_gtA [1209, 1211, 1213, 1215, 1217, 1219, 1221, 1223, 1225, 1227, 1229, 1231, 1233] (by decide +kernel) nmX6 tyX6 tyX6_ok
set_option maxRecDepth 100000 in
theorem mz_c7 : mz_cok lw_tbl (RX7, TX7, 2) := mz_cokb_ok mz_gtA [1088, 1090] (by decide +kernel) nmX7 tyX7 tyX7_ok
set_option maxRecDepth 100000 in
theorem mz_c8 : mz_cok lw_tbl (RX8, TX8, 3) := mz_cokb_ok mz_gtA [1105, 1107, 1109] (by decide +kernel) nmX8 tyX8 tyX8_ok
set_option maxRecDepth 100000 in
theorem mz_c9 : mz_cok lw_tbl (RX9, TX9, 8) := mz_cokb_ok mz_gtA [2062, 2064, 2066, 2068, 2070, 2072, 2074, 2076] (by decide +kernel) nmX9 tyX9 tyX9_ok
set_option maxRecDepth 100000 in
theorem mz_c10 : mz_cok lw_tbl (RX10, TX10, 8) := mz_cokb_ok mz_gtA [2105, 2107, 2109, 2111, 2113, 2115, 2117, 2119] (by decide +kernel) nmX10 tyX10 tyX10_ok
set_option maxRecDepth 100000 in
theorem mz_c11 : mz_cok lw_tbl (RX11, TX11, 26) := mz_cokb_ok mz_gtA [5066, 5068, 5070, 5072, 5074, 5076, 5078, 5080, 5082, 5084, 5086, 5088, 5090, 5092, 5094, 5096, 5098, 5100, 5102, 5104, 5106, 5108, 5110, 5112, 5114, 5116] (by decide +kernel) nmX11 tyX11 tyX11_ok
theorem mz_cA : ∀ (k : Nat) (q : vw_C), vwCl[k]? = some q → mz_cok lw_tbl q := by
  intro k q h
  match k, h with
  | 0, h => cases h; exact mz_c0
  | 1, h => cases h; exact mz_c1
  | 2, h => cases h; exact mz_c2
  | 3, h => cases h; exact mz_c3
  | 4, h => cases h; exact mz_c4
  | 5, h => cases h; exact mz_c5
  | 6, h => cases h; exact mz_c6
  | 7, h => cases h; exact mz_c7
  | 8, h => cases h; exact mz_c8
  | 9, h => cases h; exact mz_c9
  | 10, h => cases h; exact mz_c10
  | 11, h => cases h; exact mz_c11
  | k + 12, h => simp [vwCl] at h
theorem mz_sA : mz_sok mz_S vwCl := mz_sokb_ok (by decide +kernel)
set_option maxRecDepth 100000 in
theorem mz_pA : ∀ w ∈ mz_pw, w ∈ mz_G lw_tbl := by
  have h1 : mz_pw.map some = [2166, 2195, 2192, 1013, 2167, 2196, 2193, 3149, 3148, 1019].map mz_gt := by decide +kernel
  have h2 : mz_pw.all goodWord = true := by decide +kernel
  intro w hw
  have h3 : some w ∈ [2166, 2195, 2192, 1013, 2167, 2196, 2193, 3149, 3148, 1019].map mz_gt := by
    rw [← h1]
    exact List.mem_map.mpr ⟨w, hw, rfl⟩
  obtain ⟨i, -, hi⟩ := List.mem_map.mp h3
  exact mz_G_in (mz_gtA _ _ hi) (List.all_eq_true.mp h2 w hw)
theorem mz_EE : (∀ (k : Nat) (q : vw_C), vwCl[k]? = some q → mz_cok lw_tbl q) ∧ mz_sok mz_S vwCl ∧ (∀ w ∈ mz_pw, w ∈ mz_G lw_tbl) ∧ mz_S.length ≤ 1000 ∧ mz_NM.length = mz_T0.length ∧ mz_T0.length ≤ 1000 ∧ ∀ (i : Nat) (w : Jvm.Cond), mz_gt i = some w → w ∈ lw_tbl := ⟨mz_cA, mz_sA, mz_pA, by decide +kernel, by decide +kernel, by decide +kernel, mz_gtA⟩
theorem mz_RunA (n : Nat) : mz_Run mz_S mz_T0 mz_T vwCl mz_NM mz_ST lw_tbl mz_gt n := mz_run_all mz_okA n
end
section
/-! runs of the machine, as a relation -/
section mzx
variable {S0 : mz_Sh} {T0 : List (List Int32)} {T : List mz_R}
theorem mz_x_next {n d pc : Nat} {K : mz_K} {L : List (Option Value)} {S : List Value} {m : mz_M} {e : mz_E} {c1 : mz_C} (he : mz_fetch K pc = some e) (hs : mz_step S0 T0 e.2.1 e.2.2.2 pc L S m = some (.inl c1)) : mz_x S0 T0 T (n + 1) d K (pc, L, S, m) = mz_x S0 T0 T n d K c1 := by
  rw [mz_x, he]
  simp only [hs]
theorem mz_x_end {n d pc : Nat} {K : mz_K} {L : List (Option Value)} {S : List Value} {m : mz_M} {e : mz_E} {r1 : Option Value} (he : mz_fetch K pc = some e) (hs : mz_step S0 T0 e.2.1 e.2.2.2 pc L S m = some (.inr (.inl r1))) : mz_x S0 T0 T (n + 1) d K (pc, L, S, m) = some (r1, m) := by
  rw [mz_x, he]
  simp only [hs]
theorem mz_x_call {n d pc : Nat} {K : mz_K} {L : List (Option Value)} {S : List Value} {m : mz_M} {e : mz_E} {a : Nat} {R : mz_R} {r1 : Option Value} {m1 : mz_M} (he : mz_fetch K pc = some e) (hs : mz_step S0 T0 e.2.1 e.2.2.2 pc L S m = some (.inr (.inr a))) (hR : T[a]? = some R) (hc : mz_cal S0 R S = true) (h1 : mz_x S0 T0 T n d R.2.2.2.2.2.2.2 (0, mz_ent (S.take R.2.2.2.2.2.2.1).reverse R.2.2.2.1, [], m) = some (r1, m1)) (hf : mz_fit R.2.2.2.2.1 r1 = true) : mz_x S0 T0 T (n + 1) (d + 1) K (pc, L, S, m) = mz_x S0 T0 T n (d + 1) K (pc + 3, L, r1.toList ++ S.drop R.2.2.2.2.2.2.1, m1) := by
  rw [mz_x, he]
  simp only [hs, hR, hc, h1, hf, cond_true]
theorem mz_x_inv {n d pc : Nat} {K : mz_K} {L : List (Option Value)} {S : List Value} {m : mz_M} {r : Option Value × mz_M} (h : mz_x S0 T0 T (n + 1) d K (pc, L, S, m) = some r) : ∃ e, mz_fetch K pc = some e ∧ ((∃ c1, mz_step S0 T0 e.2.1 e.2.2.2 pc L S m = some (.inl c1) ∧ mz_x S0 T0 T n d K c1 = some r) ∨ (mz_step S0 T0 e.2.1 e.2.2.2 pc L S m = some (.inr (.inl r.1)) ∧ r.2 = m) ∨ (∃ a R d1 r1 m1, mz_step S0 T0 e.2.1 e.2.2.2 pc L S m = some (.inr (.inr a)) ∧ T[a]? = some R ∧ d = d1 + 1 ∧ mz_cal S0 R S = true ∧ mz_x S0 T0 T n d1 R.2.2.2.2.2.2.2 (0, mz_ent (S.take R.2.2.2.2.2.2.1).reverse R.2.2.2.1, [], m) = some (r1, m1) ∧ mz_fit R.2.2.2.2.1 r1 = true ∧ mz_x S0 T0 T n d K (pc + 3, L, r1.toList ++ S.drop R.2.2.2.2.2.2.1, m1) = some r)) := by
  rw [mz_x] at h
  split at h
  · cases h
  · rename_i e he
    refine ⟨e, he, ?_⟩
    split at h
    · cases h
    · rename_i c1 hs
      exact Or.inl ⟨c1, hs, h⟩
    · rename_i r1 hs
      cases h
      exact Or.inr (Or.inl ⟨hs, rfl⟩)
    · rename_i a hs
      split at h
      · rename_i R d1 hR
        obtain ⟨hc, h2⟩ := mz_cond h
        split at h2
        · rename_i r1 m1 h1
          obtain ⟨hf, h3⟩ := mz_cond h2
          exact Or.inr (Or.inr ⟨a, R, d1, r1, m1, hs, hR, rfl, hc, h1, hf, h3⟩)
        · cases h2
      · cases h
theorem mz_x_mono : ∀ {n d : Nat} {K : mz_K} {c : mz_C} {r : Option Value × mz_M} {n' d' : Nat}, mz_x S0 T0 T n d K c = some r → n ≤ n' → d ≤ d' → mz_x S0 T0 T n' d' K c = some r := by
  intro n
  induction n with
  | zero =>
    intro d K c r n' d' h
    cases h
  | succ n ih =>
    intro d K c r n' d' h hn hd
    obtain ⟨k, rfl⟩ : ∃ k, n' = k + 1 := ⟨n' - 1, by omega⟩
    obtain ⟨pc, L, S, m⟩ := c
    obtain ⟨e, he, ⟨c1, hs, h1⟩ | ⟨hs, hm⟩ | ⟨a, R, d1, r1, m1, hs, hR, rfl, hc, h1, hf, h2⟩⟩ := mz_x_inv h
    · rw [mz_x_next he hs]
      exact ih h1 (by omega) hd
    · rw [mz_x_end he hs, ← hm]
    · obtain ⟨d2, rfl⟩ : ∃ d2, d' = d2 + 1 := ⟨d' - 1, by omega⟩
      rw [mz_x_call he hs hR hc (ih h1 (by omega) (by omega)) hf]
      exact ih h2 (by omega) hd
end mzx
def mz_Ex (d : Nat) (K : mz_K) (c : mz_C) (r : Option Value × mz_M) : Prop := ∃ n, mz_x mz_S mz_T0 mz_T n d K c = some r
def mz_Me (d : Nat) (R : mz_R) (as : List Value) (m : mz_M) (r : Option Value) (m' : mz_M) : Prop := mz_Ex d R.2.2.2.2.2.2.2 (0, mz_ent as R.2.2.2.1, [], m) (r, m') ∧ mz_fit R.2.2.2.2.1 r = true
theorem mz_Ex.deep {d d' : Nat} {K : mz_K} {c : mz_C} {r : Option Value × mz_M} (h : mz_Ex d K c r) (hd : d ≤ d') : mz_Ex d' K c r := by
  obtain ⟨n, h⟩ := h
  exact ⟨n, mz_x_mono h (Nat.le_refl n) hd⟩
theorem mz_Me.deep {d d' : Nat} {R : mz_R} {as : List Value} {m m' : mz_M} {r : Option Value} (h : mz_Me d R as m r m') (hd : d ≤ d') : mz_Me d' R as m r m' := ⟨h.1.deep hd, h.2⟩
/-- k steps without a call -/
def mz_sts (K : mz_K) : Nat → mz_C → Option mz_C
  | 0, c => some c
  | k + 1, (pc, L, S, m) => match mz_fetch K pc with
    | some e => match mz_step mz_S mz_T0 e.2.1 e.2.2.2 pc L S m with
      | some (.inl c) => mz_sts K k c
      | _ => none
    | none => none
theorem mz_go {d : Nat} {K : mz_K} {r : Option Value × mz_M} : ∀ (k : Nat) {c c' : mz_C}, mz_sts K k c = some c' → mz_Ex d K c' r → mz_Ex d K c r := by
  intro k
  induction k with
  | zero =>
    intro c c' h E
    cases h
    exact E
  | succ k ih =>
    intro c c' h E
    obtain ⟨pc, L, S, m⟩ := c
    unfold mz_sts at h
    split at h
    · rename_i e he
      split at h
      · rename_i c1 hs
        obtain ⟨n, hn⟩ := ih h E
        exact ⟨n + 1, (mz_x_next he hs).trans hn⟩
      · cases h
    · cases h
/-- the end -/
def mz_fin (K : mz_K) (c : mz_C) : Option (Option Value × mz_M) := match mz_fetch K c.1 with
  | some e => match mz_step mz_S mz_T0 e.2.1 e.2.2.2 c.1 c.2.1 c.2.2.1 c.2.2.2 with
    | some (.inr (.inl r)) => some (r, c.2.2.2)
    | _ => none
  | none => none
theorem mz_ret {d : Nat} {K : mz_K} {r : Option Value × mz_M} {c : mz_C} (h : mz_fin K c = some r) : mz_Ex d K c r := by
  obtain ⟨pc, L, S, m⟩ := c
  unfold mz_fin at h
  refine ⟨1, ?_⟩
  split at h
  · rename_i e he
    split at h
    · rename_i r1 hs
      exact (mz_x_end he hs).trans h
    · cases h
  · cases h
/-- a call: which method, with what, what is left -/
def mz_cl (K : mz_K) (c : mz_C) : Option (mz_R × List Value × List Value) := match mz_fetch K c.1 with
  | some e => match mz_step mz_S mz_T0 e.2.1 e.2.2.2 c.1 c.2.1 c.2.2.1 c.2.2.2 with
    | some (.inr (.inr a)) => match mz_T[a]? with
      | some R => cond (mz_cal mz_S R c.2.2.1) (some (R, (c.2.2.1.take R.2.2.2.2.2.2.1).reverse, c.2.2.1.drop R.2.2.2.2.2.2.1)) none
      | none => none
    | _ => none
  | none => none
theorem mz_do {d : Nat} {K : mz_K} {r : Option Value × mz_M} {pc : Nat} {L : List (Option Value)} {S : List Value} {m : mz_M} {R : mz_R} {as rest : List Value} {r1 : Option Value} {m1 : mz_M} (h : mz_cl K (pc, L, S, m) = some (R, as, rest)) (hM : mz_Me d R as m r1 m1) (E : mz_Ex (d + 1) K (pc + 3, L, r1.toList ++ rest, m1) r) : mz_Ex (d + 1) K (pc, L, S, m) r := by
  unfold mz_cl at h
  split at h
  · rename_i e he
    split at h
    · rename_i a hs
      split at h
      · rename_i R' hR
        obtain ⟨hc, h⟩ := mz_cond h
        cases h
        obtain ⟨⟨n1, h1⟩, hf⟩ := hM
        obtain ⟨n2, h2⟩ := E
        refine ⟨max n1 n2 + 1, ?_⟩
        exact (mz_x_call he hs hR hc (mz_x_mono h1 (Nat.le_max_left n1 n2) (Nat.le_refl d)) hf).trans (mz_x_mono h2 (Nat.le_max_right n1 n2) (Nat.le_refl _))
      · cases h
    · cases h
  · cases h
theorem mz_if {d : Nat} {K : mz_K} {r : Option Value × mz_M} {c : Prop} [Decidable c] {t f : Nat} {L : List (Option Value)} {S : List Value} {m : mz_M} (ht : c → mz_Ex d K (t, L, S, m) r) (hf : ¬ c → mz_Ex d K (f, L, S, m) r) : mz_Ex d K (if c then t else f, L, S, m) r := by
  by_cases h : c
  · rw [if_pos h]; exact ht h
  · rw [if_neg h]; exact hf h
end
section
/-! rules of runs: known branches, places in arrays, divisions, switches -/
theorem mz_ifT {d : Nat} {K : mz_K} {r : Option Value × mz_M} {c : Prop} [Decidable c] {t f : Nat} {L : List (Option Value)} {S : List Value} {m : mz_M} (h : c) (E : mz_Ex d K (t, L, S, m) r) : mz_Ex d K (if c then t else f, L, S, m) r := by rw [if_pos h]; exact E
theorem mz_ifF {d : Nat} {K : mz_K} {r : Option Value × mz_M} {c : Prop} [Decidable c] {t f : Nat} {L : List (Option Value)} {S : List Value} {m : mz_M} (h : ¬ c) (E : mz_Ex d K (f, L, S, m) r) : mz_Ex d K (if c then t else f, L, S, m) r := by rw [if_neg h]; exact E
/-- an array's place that isn't known to be within -/
def mz_stA (K : mz_K) (c : mz_C) : Option (Nat × Int32 × mz_C) := match mz_fetch K c.1 with
  | some e => match e.2.1, c.2.2.1 with
    | .iaload, .int j :: .ref i :: S => cond (mz_isR i) none (match mz_len mz_S mz_T0 c.2.2.2 i with
      | some n => some (n, j, (c.1 + 1, c.2.1, .int (mz_val mz_T0 c.2.2.2 i j.toNatClampNeg) :: S, c.2.2.2))
      | none => none)
    | .iastore, .int x :: .int j :: .ref i :: S => match mz_S[i]? with
      | some (.inl n) => some (n, j, (c.1 + 1, c.2.1, S, mz_up c.2.2.2 i j.toNatClampNeg x))
      | _ => none
    | _, _ => none
  | none => none
theorem mz_arr {d : Nat} {K : mz_K} {r : Option Value × mz_M} {c c' : mz_C} {n : Nat} {j : Int32} (h : mz_stA K c = some (n, j, c')) (hin : mz_in j n = true) (E : mz_Ex d K c' r) : mz_Ex d K c r := by
  obtain ⟨k, hk⟩ := E
  obtain ⟨pc, L, S, m⟩ := c
  unfold mz_stA at h
  split at h
  · rename_i e he
    split at h
    · rename_i j1 i S1 hi hS
      obtain ⟨hr, h⟩ := mz_condn h
      split at h
      · rename_i n1 hn
        cases h
        simp only at hS hr hn he
        subst hS
        refine ⟨k + 1, (mz_x_next he ?_).trans hk⟩
        rw [hi]
        simp only [mz_step, hr, hn, cond_false, hin, cond_true, mz_next]
      · cases h
    · rename_i x j1 i S1 hi hS
      split at h
      · rename_i n1 hn
        cases h
        simp only at hS hn he
        subst hS
        refine ⟨k + 1, (mz_x_next he ?_).trans hk⟩
        rw [hi]
        simp only [mz_step, hn, hin, cond_true, mz_next]
      · cases h
    · cases h
  · cases h
def mz_stD (K : mz_K) (c : mz_C) : Option (Int32 × mz_C) := match mz_fetch K c.1 with
  | some e => match e.2.1, c.2.2.1 with
    | .idiv, .int y :: .int x :: S => some (y, (c.1 + 1, c.2.1, .int (x / y) :: S, c.2.2.2))
    | .irem, .int y :: .int x :: S => some (y, (c.1 + 1, c.2.1, .int (x - x / y * y) :: S, c.2.2.2))
    | _, _ => none
  | none => none
theorem mz_div {d : Nat} {K : mz_K} {r : Option Value × mz_M} {c c' : mz_C} {y : Int32} (h : mz_stD K c = some (y, c')) (hy : ¬ y = 0) (E : mz_Ex d K c' r) : mz_Ex d K c r := by
  obtain ⟨k, hk⟩ := E
  obtain ⟨pc, L, S, m⟩ := c
  have hb : (y == 0) = false := by simpa using hy
  unfold mz_stD at h
  split at h
  · rename_i e he
    split at h
    · rename_i y1 x S1 hi hS
      cases h
      simp only at hS he
      subst hS
      refine ⟨k + 1, (mz_x_next he ?_).trans hk⟩
      rw [hi]
      simp only [mz_step, hb, cond_false, mz_next]
    · rename_i y1 x S1 hi hS
      cases h
      simp only at hS he
      subst hS
      refine ⟨k + 1, (mz_x_next he ?_).trans hk⟩
      rw [hi]
      simp only [mz_step, hb, cond_false, mz_next]
    · cases h
  · cases h
def mz_stW (K : mz_K) (c : mz_C) : Option (Int × Int × Int32 × mz_C) := match mz_fetch K c.1 with
  | some e => match e.2.1, c.2.2.1 with
    | .tableswitch dd lo hi _, .int x :: S => cond (mz_ok c.1 dd) (some (lo, hi, x, (mz_tg c.1 dd, c.2.1, S, c.2.2.2))) none
    | _, _ => none
  | none => none
theorem mz_swd {d : Nat} {K : mz_K} {r : Option Value × mz_M} {c c' : mz_C} {lo hi : Int} {x : Int32} (h : mz_stW K c = some (lo, hi, x, c')) (hx : x.toInt < lo ∨ hi < x.toInt) (E : mz_Ex d K c' r) : mz_Ex d K c r := by
  obtain ⟨k, hk⟩ := E
  obtain ⟨pc, L, S, m⟩ := c
  unfold mz_stW at h
  split at h
  · rename_i e he
    split at h
    · rename_i dd lo1 hi1 os x1 S1 hi2 hS
      obtain ⟨hok, h⟩ := mz_cond h
      cases h
      simp only at hS he hok
      subst hS
      refine ⟨k + 1, (mz_x_next he ?_).trans hk⟩
      rw [hi2]
      have hb : (decide (x.toInt < lo) || decide (hi < x.toInt)) = true := by simpa using hx
      simp only [mz_step, hb, hok, cond_true, mz_next]
    · cases h
  · cases h
theorem mz_inH {j : Int32} {n : Nat} (h0 : ¬ j < 0) (h1 : j < Int32.ofNat n) (hn : n < 2 ^ 31) : mz_in j n = true := by
  unfold mz_in
  have h2 : ¬ n ≤ j.toNatClampNeg := by
    obtain ⟨k, hk, rfl⟩ := nI_of h0
    rw [nI_clamp hk]
    have h3 : k < n := (nI_ltI hk hn).mp h1
    omega
  simp [h0, h2]
/-- a row anew -/
def mz_set (m : mz_M) (i : Nat) (f : Nat → Int32) : mz_M := fun a b => cond (a == i) (f b) (m a b)
/-- the memory of a new object and a new reference; the script's ints -/
def mz_i (xs : Nat → Int32) (Ln : Nat) : mz_M := fun i k =>
  cond (i == 3000) (xs k) (cond (i == 3001) (cond (k == 0) (nI Ln) 0) (cond (i == 7 || i == 31) ([5, 10, 60, 8, 4, 1].getD k 0) (cond (i == 1 || i == 25) (cond (k == 12) 1 0) (cond (i == 53) (cond (k == 4) 1 (cond (k == 2) 2000 0)) (cond (i == 66) (cond (k == 3) 1 (cond (k == 10) 5 (cond (k == 11) 10 (cond (k == 12) 60 (cond (k == 13) 8 (cond (k == 14) 4 (cond (k == 15) 1 0))))))) 0)))))
end
section
/-! the constructors' tables are in order: by counting -/
def zz_ret (K : mz_K) (pe : Nat) : Bool := match mz_fetch K pe with
  | some (_, .return_, 1, _) => true
  | _ => false
def zz_chk (cl : List vw_C) (NM : List String) (ST : List (String × Nat × String)) (gt : Nat → Option Jvm.Cond) (CT : List zz_R) (r : zz_R) (ps : Nat × Nat × Nat) : Bool :=
  plainName r.1.cls && (r.1.cls != "java/lang/invoke/MethodHandle" && r.1.cls != "java/lang/invoke/VarHandle") && decide ((parseMethodDescriptor r.1.desc).map (fun d => d.parameters.length) = some (r.2.2.2.1 - 1)) && decide (r.2.2.1 ≤ 45) && decide (r.1.name = "<init>") &&
  decide (gt ps.1 = some (Jvm.Cond.code r.1 r.2.1 r.2.2.1 none)) && decide (gt ps.2.1 = some (Jvm.Cond.initialized r.1.cls)) && decide (gt ps.2.2 = some (Jvm.Cond.instanceMethod r.1)) && zz_ret r.2.2.2.2.1 r.2.2.2.2.2 &&
  (mz_wk r.2.1 r.2.2.2.2.1 0 (mz_bs r.2.1) && r.2.2.2.2.1.all (fun q => (q.2.2.1 == mz_ln q.2.1) && zz_lk cl NM ST gt CT r.1.cls q.2.1 q.2.2.2))
theorem zz_chk_ok {cl : List vw_C} {NM : List String} {ST : List (String × Nat × String)} {G0 : List Jvm.Cond} {gt : Nat → Option Jvm.Cond} {CT : List zz_R} {r : zz_R} (hgt : ∀ (i : Nat) (w : Jvm.Cond), gt i = some w → w ∈ G0) (ps : Nat × Nat × Nat) (h : zz_chk cl NM ST gt CT r ps = true) : zz_Rok cl NM ST G0 gt CT r := by
  unfold zz_chk at h
  simp only [Bool.and_eq_true, bne_iff_ne, ne_eq, decide_eq_true_eq] at h
  obtain ⟨⟨⟨⟨⟨⟨⟨⟨⟨h1, h2⟩, h3⟩, h4⟩, h5⟩, h6⟩, h7⟩, h8⟩, h9⟩, h10, h11⟩ := h
  refine ⟨⟨h1, h2, h3, h4, h5⟩, ⟨mz_G_in (hgt _ _ h6) rfl, mz_G_in (hgt _ _ h7) rfl, mz_G_in (hgt _ _ h8) rfl⟩, ?_, fun q hq => ?_⟩
  · unfold zz_ret at h9
    split at h9
    · rename_i p f hf
      obtain ⟨a1, a2⟩ := mz_fetch_in hf
      have a3 := mz_dec_ok h10 _ a1
      rw [← a2]
      exact a3
    · cases h9
  · have h12 := List.all_eq_true.mp h11 q hq
    rw [Bool.and_eq_true] at h12
    unfold zz_eok
    rw [decide_eq_true (mz_dec_ok h10 q hq), h12.1, h12.2]
    simp
def zz_rt (t : Option FieldType) : Bool := match t with
  | some (.object _) => true
  | some (.array _) => true
  | _ => false
def zz_sokb (S0 : mz_Sh) (cl : List vw_C) : Bool := S0.all fun s => match s with
  | .inl _ => true
  | .inr (c, fs) => match cl[c]? with
    | some q => fs.length == q.2.2 && (List.range fs.length).all fun k => match fs[k]? with
      | some (_ + 3) => zz_rt (parseFieldDescriptor (q.2.1 k).2.2.1)
      | _ => true
    | none => false
theorem zz_sokb_ok {S0 : mz_Sh} {cl : List vw_C} (h : zz_sokb S0 cl = true) : zz_sok S0 cl := by
  intro i c fs hi
  have h1 := List.all_eq_true.mp h _ (List.mem_of_getElem? hi)
  simp only at h1
  split at h1
  · rename_i q hq
    rw [Bool.and_eq_true] at h1
    refine ⟨q, hq, by simpa using h1.1, fun k r hk => ?_⟩
    have hlt : k < fs.length := (List.getElem?_eq_some_iff.mp hk).1
    have h2 := List.all_eq_true.mp h1.2 k (List.mem_range.mpr hlt)
    rw [hk] at h2
    simp only at h2
    unfold zz_rt at h2
    split at h2
    · rename_i n hn
      exact ⟨_, hn, fun _ => rfl, fun _ => rfl, rfl⟩
    · rename_i n hn
      exact ⟨_, hn, fun _ => rfl, fun _ => rfl, rfl⟩
    · cases h2
  · cases h1
/-- what the constructors leave is what the machine starts from -/
def zz_ck (S0 : mz_Sh) (m1 : mz_M) (z : Nat → Nat → Bool) (m : mz_M) : Bool := (List.range S0.length).all fun i => match S0[i]? with
  | some (.inl n) => (List.range n).all fun k => m i k == m1 i k
  | some (.inr (_, fs)) => (List.range fs.length).all fun k => match fs[k]? with
    | some 0 => m i k == m1 i k
    | some 1 => m i k == m1 i k
    | some 2 => z i k && m i k == m1 i k
    | _ => z i k
  | none => true
theorem zz_ck_w {S0 : mz_Sh} {cl : List vw_C} {D : va_G} {cI : ClassId} {ad : Nat → Nat} {z : Nat → Nat → Bool} {m m1 m2 : mz_M} {H : Heap} (h12 : ∀ i, i < S0.length → m2 i = m1 i) (h : zz_ck S0 m1 z m = true) (h2 : va_P D cl (zz_w S0 cI ad z m S0.length) H) : va_P D cl (mz_w S0 cI ad m2) H := by
  intro i q hq
  obtain ⟨hi, rfl⟩ := mz_w_in hq
  have h3 := h2 i _ (zz_w_at hi)
  have h4 := List.all_eq_true.mp h i (List.mem_range.mpr hi)
  have h5 : S0[i]? = some S0[i] := List.getElem?_eq_getElem hi
  have h6 := h12 i hi
  rcases hs : S0[i] with n | ⟨c, fs⟩
  · rw [hs] at h5
    rw [h5] at h4
    simp only at h4
    have h7 : zz_cell S0 cI ad z m i = .inl (cI, n, .inl (m i)) := by rw [zz_cell, h5]
    have h8 : mz_cell S0 cI ad m2 i = .inl (cI, n, .inl (m2 i)) := by rw [mz_cell, h5]
    rw [h7] at h3
    rw [h8]
    have h9 : vp_cell cI (n, .inl (m i)) = vp_cell cI (n, .inl (m2 i)) := by
      rw [vp_cell_i, vp_cell_i]
      have : (fun k : Fin n => Value.int (m i k.val)) = fun k : Fin n => .int (m2 i k.val) := by
        funext k
        have := List.all_eq_true.mp h4 k.val (List.mem_range.mpr k.isLt)
        have e : m i k.val = m1 i k.val := by simpa using this
        rw [e, h6]
      show ({ cls := cI, slots := Array.ofFn fun k : Fin n => Value.int (m i k.val), vm := .none } : Cell) = { cls := cI, slots := Array.ofFn fun k : Fin n => Value.int (m2 i k.val), vm := .none }
      rw [this]
    show H[ad i]? = some (vp_cell cI (n, .inl (m2 i)))
    rw [← h9]
    exact h3
  · rw [hs] at h5
    rw [h5] at h4
    simp only at h4
    have h7 : zz_cell S0 cI ad z m i = .inr (c, fs.mapIdx (zz_fv ad z m i)) := by rw [zz_cell, h5]
    have h8 : mz_cell S0 cI ad m2 i = .inr (c, fs.mapIdx (mz_fv ad m2 i)) := by rw [mz_cell, h5]
    rw [h7] at h3
    rw [h8]
    have h9 : fs.mapIdx (zz_fv ad z m i) = fs.mapIdx (mz_fv ad m2 i) := by
      apply List.ext_getElem?
      intro k
      rw [List.getElem?_mapIdx, List.getElem?_mapIdx]
      cases hk : fs[k]? with
      | none => rfl
      | some f =>
        have hlt : k < fs.length := (List.getElem?_eq_some_iff.mp hk).1
        have h10 := List.all_eq_true.mp h4 k (List.mem_range.mpr hlt)
        rw [hk] at h10
        show some (zz_fv ad z m i k f) = some (mz_fv ad m2 i k f)
        match f, h10 with
        | 0, h10 =>
          have e : m i k = m1 i k := by simpa using h10
          simp [zz_fv, mz_fv, e, h6]
        | 1, h10 =>
          have e : m i k = m1 i k := by simpa using h10
          simp [zz_fv, mz_fv, e, h6]
        | 2, h10 =>
          simp only [Bool.and_eq_true] at h10
          have e : m i k = m1 i k := by simpa using h10.2
          simp [zz_fv, mz_fv, e, h6, h10.1]
        | r + 3, h10 =>
          have e : z i k = true := h10
          simp [zz_fv, mz_fv, e]
    rw [← h9]
    exact h3

set_option maxRecDepth 100000 in
theorem zz_ok0 : zz_Rok vwCl mz_NM mz_ST lw_tbl mz_gt zz_CT zz_r0 := zz_chk_ok mz_gtA (1116, 1006, 1115) (by decide +kernel)
set_option maxRecDepth 100000 in
theorem zz_ok1 : zz_Rok vwCl mz_NM mz_ST lw_tbl mz_gt zz_CT zz_r1 := zz_chk_ok mz_gtA (1148, 1007, 1147) (by decide +kernel)
set_option maxRecDepth 100000 in
theorem zz_ok2 : zz_Rok vwCl mz_NM mz_ST lw_tbl mz_gt zz_CT zz_r2 := zz_chk_ok mz_gtA (1038, 1003, 1037) (by decide +kernel)
set_option maxRecDepth 100000 in
theorem zz_ok3 : zz_Rok vwCl mz_NM mz_ST lw_tbl mz_gt zz_CT zz_r3 := zz_chk_ok mz_gtA (2022, 1009, 2021) (by decide +kernel)
set_option maxRecDepth 100000 in
theorem zz_ok4 : zz_Rok vwCl mz_NM mz_ST lw_tbl mz_gt zz_CT zz_r4 := zz_chk_ok mz_gtA (2000, 1008, 1239) (by decide +kernel)
set_option maxRecDepth 100000 in
theorem zz_ok5 : zz_Rok vwCl mz_NM mz_ST lw_tbl mz_gt zz_CT zz_r5 := zz_chk_ok mz_gtA (2083, 1011, 2082) (by decide +kernel)
set_option maxRecDepth 100000 in
theorem zz_ok6 : zz_Rok vwCl mz_NM mz_ST lw_tbl mz_gt zz_CT zz_r6 := zz_chk_ok mz_gtA (1032, 1002, 1031) (by decide +kernel)
set_option maxRecDepth 100000 in
theorem zz_ok7 : zz_Rok vwCl mz_NM mz_ST lw_tbl mz_gt zz_CT zz_r7 := zz_chk_ok mz_gtA (1081, 1004, 1080) (by decide +kernel)
set_option maxRecDepth 100000 in
theorem zz_ok8 : zz_Rok vwCl mz_NM mz_ST lw_tbl mz_gt zz_CT zz_r8 := zz_chk_ok mz_gtA (1097, 1005, 1096) (by decide +kernel)
set_option maxRecDepth 100000 in
theorem zz_ok9 : zz_Rok vwCl mz_NM mz_ST lw_tbl mz_gt zz_CT zz_r9 := zz_chk_ok mz_gtA (2049, 1010, 2048) (by decide +kernel)
set_option maxRecDepth 100000 in
theorem zz_ok10 : zz_Rok vwCl mz_NM mz_ST lw_tbl mz_gt zz_CT zz_r10 := zz_chk_ok mz_gtA (1024, 1001, 1023) (by decide +kernel)
set_option maxRecDepth 100000 in
theorem zz_ok11 : zz_Rok vwCl mz_NM mz_ST lw_tbl mz_gt zz_CT zz_r11 := zz_chk_ok mz_gtA (5038, 1012, 5037) (by decide +kernel)
theorem zz_okA : ∀ (a : Nat) (rc : zz_R), zz_CT[a]? = some rc → zz_Rok vwCl mz_NM mz_ST lw_tbl mz_gt zz_CT rc := by
  intro a rc h
  match a, h with
  | 0, h => cases h; exact zz_ok0
  | 1, h => cases h; exact zz_ok1
  | 2, h => cases h; exact zz_ok2
  | 3, h => cases h; exact zz_ok3
  | 4, h => cases h; exact zz_ok4
  | 5, h => cases h; exact zz_ok5
  | 6, h => cases h; exact zz_ok6
  | 7, h => cases h; exact zz_ok7
  | 8, h => cases h; exact zz_ok8
  | 9, h => cases h; exact zz_ok9
  | 10, h => cases h; exact zz_ok10
  | 11, h => cases h; exact zz_ok11
  | a + 12, h => simp [zz_CT] at h
set_option maxRecDepth 100000 in
theorem zz_pA : ∀ w ∈ zz_pw, w ∈ mz_G lw_tbl := by
  have h1 : zz_pw.map some = [1067, 1026, 1027, 1071, 1072, 1073, 1074].map mz_gt := by decide +kernel
  have h2 : zz_pw.all goodWord = true := by decide +kernel
  intro w hw
  have h3 : some w ∈ [1067, 1026, 1027, 1071, 1072, 1073, 1074].map mz_gt := by
    rw [← h1]
    exact List.mem_map.mpr ⟨w, hw, rfl⟩
  obtain ⟨i, -, hi⟩ := List.mem_map.mp h3
  exact mz_G_in (mz_gtA _ _ hi) (List.all_eq_true.mp h2 w hw)
theorem zz_sA : zz_sok mz_S vwCl := zz_sokb_ok (by decide +kernel)
theorem zz_ci0 : Jvm.Cond.instantiable RX0 5 ∈ mz_G lw_tbl ∧ Jvm.Cond.initialized RX0 ∈ mz_G lw_tbl := ⟨mz_G_in (mz_gtA 1113 _ (by decide +kernel)) rfl, mz_G_in (mz_gtA 1006 _ (by decide +kernel)) rfl⟩
theorem zz_ci1 : Jvm.Cond.instantiable RX1 7 ∈ mz_G lw_tbl ∧ Jvm.Cond.initialized RX1 ∈ mz_G lw_tbl := ⟨mz_G_in (mz_gtA 1145 _ (by decide +kernel)) rfl, mz_G_in (mz_gtA 1007 _ (by decide +kernel)) rfl⟩
theorem zz_ci2 : Jvm.Cond.instantiable RX2 5 ∈ mz_G lw_tbl ∧ Jvm.Cond.initialized RX2 ∈ mz_G lw_tbl := ⟨mz_G_in (mz_gtA 1035 _ (by decide +kernel)) rfl, mz_G_in (mz_gtA 1003 _ (by decide +kernel)) rfl⟩
theorem zz_ci3 : Jvm.Cond.instantiable RX3 5 ∈ mz_G lw_tbl ∧ Jvm.Cond.initialized RX3 ∈ mz_G lw_tbl := ⟨mz_G_in (mz_gtA 2019 _ (by decide +kernel)) rfl, mz_G_in (mz_gtA 1009 _ (by decide +kernel)) rfl⟩
theorem zz_ci4 : Jvm.Cond.instantiable RX4 4 ∈ mz_G lw_tbl ∧ Jvm.Cond.initialized RX4 ∈ mz_G lw_tbl := ⟨mz_G_in (mz_gtA 1237 _ (by decide +kernel)) rfl, mz_G_in (mz_gtA 1008 _ (by decide +kernel)) rfl⟩
theorem zz_ci5 : Jvm.Cond.instantiable RX5 3 ∈ mz_G lw_tbl ∧ Jvm.Cond.initialized RX5 ∈ mz_G lw_tbl := ⟨mz_G_in (mz_gtA 2080 _ (by decide +kernel)) rfl, mz_G_in (mz_gtA 1011 _ (by decide +kernel)) rfl⟩
theorem zz_ci6 : Jvm.Cond.instantiable RX6 13 ∈ mz_G lw_tbl ∧ Jvm.Cond.initialized RX6 ∈ mz_G lw_tbl := ⟨mz_G_in (mz_gtA 1029 _ (by decide +kernel)) rfl, mz_G_in (mz_gtA 1002 _ (by decide +kernel)) rfl⟩
theorem zz_ci7 : Jvm.Cond.instantiable RX7 2 ∈ mz_G lw_tbl ∧ Jvm.Cond.initialized RX7 ∈ mz_G lw_tbl := ⟨mz_G_in (mz_gtA 1078 _ (by decide +kernel)) rfl, mz_G_in (mz_gtA 1004 _ (by decide +kernel)) rfl⟩
theorem zz_ci8 : Jvm.Cond.instantiable RX8 3 ∈ mz_G lw_tbl ∧ Jvm.Cond.initialized RX8 ∈ mz_G lw_tbl := ⟨mz_G_in (mz_gtA 1094 _ (by decide +kernel)) rfl, mz_G_in (mz_gtA 1005 _ (by decide +kernel)) rfl⟩
theorem zz_ci9 : Jvm.Cond.instantiable RX9 8 ∈ mz_G lw_tbl ∧ Jvm.Cond.initialized RX9 ∈ mz_G lw_tbl := ⟨mz_G_in (mz_gtA 2046 _ (by decide +kernel)) rfl, mz_G_in (mz_gtA 1010 _ (by decide +kernel)) rfl⟩
theorem zz_ci10 : Jvm.Cond.instantiable RX10 8 ∈ mz_G lw_tbl ∧ Jvm.Cond.initialized RX10 ∈ mz_G lw_tbl := ⟨mz_G_in (mz_gtA 1021 _ (by decide +kernel)) rfl, mz_G_in (mz_gtA 1001 _ (by decide +kernel)) rfl⟩
theorem zz_ci11 : Jvm.Cond.instantiable RX11 26 ∈ mz_G lw_tbl ∧ Jvm.Cond.initialized RX11 ∈ mz_G lw_tbl := ⟨mz_G_in (mz_gtA 5035 _ (by decide +kernel)) rfl, mz_G_in (mz_gtA 1012 _ (by decide +kernel)) rfl⟩
theorem zz_cA : zz_cin vwCl lw_tbl := by
  intro k q h
  match k, h with
  | 0, h => cases h; exact zz_ci0
  | 1, h => cases h; exact zz_ci1
  | 2, h => cases h; exact zz_ci2
  | 3, h => cases h; exact zz_ci3
  | 4, h => cases h; exact zz_ci4
  | 5, h => cases h; exact zz_ci5
  | 6, h => cases h; exact zz_ci6
  | 7, h => cases h; exact zz_ci7
  | 8, h => cases h; exact zz_ci8
  | 9, h => cases h; exact zz_ci9
  | 10, h => cases h; exact zz_ci10
  | 11, h => cases h; exact zz_ci11
  | k + 12, h => simp [vwCl] at h
theorem zz_EE : (∀ (k : Nat) (q : vw_C), vwCl[k]? = some q → mz_cok lw_tbl q) ∧ (mz_sok mz_S vwCl ∧ zz_sok mz_S vwCl) ∧ (∀ w ∈ zz_pw, w ∈ mz_G lw_tbl) ∧ mz_S.length ≤ 1000 ∧ zz_cin vwCl lw_tbl ∧ mz_NM.length = mz_T0.length ∧ (∀ (i : Nat) (w : Jvm.Cond), mz_gt i = some w → w ∈ lw_tbl) ∧ Jvm.Cond.castable "[I" "java/lang/Cloneable" ∈ lw_tbl := ⟨mz_cA, ⟨mz_sA, zz_sA⟩, zz_pA, by decide +kernel, zz_cA, by decide +kernel, mz_gtA, mz_gtA 1075 _ (by decide +kernel)⟩
theorem zz_RunA (n : Nat) : zz_Run mz_S mz_T0 vwCl mz_NM mz_ST lw_tbl mz_gt zz_CT n := zz_run_all zz_okA n
/-! the law's own code, and its run to place 18 -/
set_option maxRecDepth 100000 in
theorem mz_wL : mz_wk code mz_kL 0 (mz_bs code) = true := by decide +kernel
set_option maxRecDepth 100000 in
theorem mz_lL : mz_kL.all (fun q => (q.2.2.1 == mz_ln q.2.1 || mz_sw q.2.1) && mz_lk mz_T vwCl mz_NM mz_ST mz_gt "ThreeMagnetsLaw" q.2.1 q.2.2.2) = true := by decide +kernel
set_option maxRecDepth 100000 in
theorem zz_lL : zz_kL.all (fun q => (q.2.2.1 == mz_ln q.2.1 && (!zz_isP q.2.1 || false)) && zz_lk vwCl mz_NM mz_ST mz_gt zz_CT "ThreeMagnetsLaw" q.2.1 q.2.2.2) = true := by decide +kernel
theorem mz_eL : ∀ q ∈ mz_kL, mz_eok mz_T vwCl mz_NM mz_ST mz_gt "ThreeMagnetsLaw" code q = true := by
  intro q hq
  have h := List.all_eq_true.mp mz_lL q hq
  rw [Bool.and_eq_true] at h
  unfold mz_eok
  rw [decide_eq_true (mz_dec_ok mz_wL q hq), h.1, h.2]
  rfl
theorem zz_eL : ∀ q ∈ zz_kL, zz_eok vwCl mz_NM mz_ST mz_gt zz_CT false "ThreeMagnetsLaw" code q = true := by
  intro q hq
  have h := List.all_eq_true.mp zz_lL q hq
  rw [Bool.and_eq_true] at h
  unfold zz_eok
  rw [decide_eq_true (mz_dec_ok mz_wL q (List.mem_of_mem_take hq)), h.1, h.2]
  rfl
def zz_end : Option zz_C := zz_x mz_S mz_T0 zz_CT 100000 10 18 zz_kL (0, [some (.ref 3000), none, none, none], [], 0, fun _ _ => false, fun _ _ => 0)
def zz_good : Bool := match zz_end with
  | some (p, L, S, n, z, m) => decide (p = 18) && decide (L = [some (.ref 3000), some (.ref 0), some (.ref 65), some (.int 0)]) && decide (S = []) && decide (n = mz_S.length) && zz_ck mz_S (mz_i (fun _ => 0) 0) z m
  | none => false
set_option maxRecDepth 100000 in
theorem zz_goodE : zz_good = true := by decide +kernel
theorem zz_endE : ∃ (z : Nat → Nat → Bool) (m : mz_M), zz_end = some (18, [some (.ref 3000), some (.ref 0), some (.ref 65), some (.int 0)], [], mz_S.length, z, m) ∧ zz_ck mz_S (mz_i (fun _ => 0) 0) z m = true := by
  have h := zz_goodE
  unfold zz_good at h
  split at h
  · rename_i p L S n z m he
    simp only [Bool.and_eq_true, decide_eq_true_eq] at h
    obtain ⟨⟨⟨⟨rfl, rfl⟩, rfl⟩, rfl⟩, h5⟩ := h
    exact ⟨z, m, he, h5⟩
  · cases h
end
section
/-! THE CLAIM OUT OF ONE WALK OF THE LAW'S BODY. Your part is whole_start (and what it stands on); all else here is the same for every law, but numbers. -/
def R_law : String := "ThreeMagnetsLaw"
def lw_P (b : Addr) (xs : List Int32) (args : Array Value) (s : State) : Prop := args = #[.ref b] ∧ s.IntsAt b xs ∧ xs.length ≤ 6 ∧ (Jvm.Cond.and given_1 narrow_1).before args s = true
def lw_Q (_ : Array Value) (s : State) (o : Outcome) (t : State) : Prop := o = .returned (some (.int 1)) ∧ Framed s o t [] 600000 7302250
def lw_Z (below : List Frame) (a : Array Value) (s : State) : State → Prop := fun t => ∃ o, t.status = .running ∧ Ended t below o ∧ lw_Q a s o t
/-- the law's own end, with 1 on the stack, nothing written that was there before, its room as the claim has it -/
theorem lw_ret {p : Program} {l : Launch} {e : Env} {s : State} {m : MethodId} {below : List Frame} {meth : Method} {c : Code} {b : Nat} (hx : p.tables.exec = Jvm.exec) (hb : c.code = code) (hr : meth.sig.returnType = ret) (hlocks : meth.locks = false) {pc : Nat} {H : Heap} {ls : Array Slot} (hdg : decode code pc = .ok (.ireturn, 1)) : W p l e room_1 s m #[Value.ref b] below meth c H [] 600000 7302250 (lw_Z below #[Value.ref b] s) (F0 m pc ls [.int 1]) := by
  intro T hT X
  obtain ⟨fs, hret, hrun, hended, hW, hframe⟩ := X.leave (v := some (.int 1)) (hlocks := hlocks) (fun h => by rw [hr] at h; cases h)
  have hmeth' : T.vm.method? m = some meth := X.method'
  refine ⟨T.setFrames fs, ?_, .returned (some (.int 1)), hrun, hended, rfl, ⟨_, rfl⟩, hW, hframe⟩
  jvm_step X.here [X.here.top, hx, hb, hdg, hmeth', hr, ret, narrow_b1]
  (try refine ⟨rfl, ?_⟩); (try refine ⟨rfl, ?_⟩)
  first | (intro acts; rw [hret _ acts rfl rfl rfl]) | rw [hret _ _ rfl rfl rfl]
  exact Steps.refl _
/-- what holds at the law's entry: the machine, the code, the tables' words (any of lw_tbl by 'hts w (by decide +kernel)'), the script of L ints xs at the cell b, what the Statement gives of the start (any of its parts by flat_of_before) -/
def lw_At (p : Program) (s : State) (m : MethodId) (meth : Method) (c : Code) (b L : Nat) (xs : Nat → Int32) : Prop :=
  p.tables.exec = Jvm.exec ∧ c.code = code ∧ meth.sig.returnType = ret ∧ c.maxLocals = 4 ∧ s.vm.findClass R_law = some m.cls ∧ (∀ w ∈ lw_tbl, w.before #[Value.ref b] s = true) ∧ va_X b L xs s s.heap ∧ b < s.heap.size ∧ meth.locks = false ∧ (Jvm.Cond.and given_1 narrow_1).before #[Value.ref b] s = true
end
section
/-! the law's start: what stands outside, and the walk from a run -/
theorem lw_len {args : Array Value} {s : State} {t : Term} {v : Value} (h : (Term.length t).eval args s none [] s = some v) : ∃ (a : Nat) (cell : Cell), t.eval args s none [] s = some (.ref a) ∧ s.arrayAt? a = some cell ∧ v = .int cell.slots.size.toInt32 ∧ cell.slots.size < 2 ^ 31 := by
  obtain ⟨a, cell, h1, h2, h3⟩ := Term.length_spec h
  refine ⟨a, cell, h1, h2, h3, ?_⟩
  simp only [Term.eval, h1, h2, Option.bind_eq_bind, Option.bind_some] at h
  by_cases hn : cell.slots.size < 2 ^ 31
  · exact hn
  · simp [hn] at h
def lw_flat : List Jvm.Cond := flatC (Jvm.Cond.and given_1 narrow_1)
def lw_tm (j : Nat) : Term := .static "ThreeMagnets" (mz_NM.getD j "") "[I"
def lw_sm (j : Nat) : Term := match mz_ST[j]? with
  | some q => .string q.1 q.2.1
  | none => .string "" 0
set_option maxRecDepth 100000 in
theorem lw_f1 : ∀ j, j < 5 → Cond.arrayOf (lw_tm j) .int ∈ lw_flat ∧ Cond.eq (.length (lw_tm j)) (.int (Int32.ofNat (mz_T0.getD j []).length)) ∈ lw_flat ∧ Cond.exactly (lw_tm j) "[I" ∈ lw_flat ∧ ∀ k, k < (mz_T0.getD j []).length → Cond.eq (.elem (lw_tm j) (.int (Int32.ofNat k))) (.int ((mz_T0.getD j []).getD k 0)) ∈ lw_flat := by decide +kernel
set_option maxRecDepth 100000 in
theorem lw_f2 : ∀ j, j < 5 → Cond.laysStatic "ThreeMagnets" (mz_NM.getD j "") "[I" ∈ lw_tbl := by decide +kernel
set_option maxRecDepth 100000 in
theorem lw_f3 : ∀ i, i < 4 → Cond.exactly (lw_sm i) "java/lang/String" ∈ lw_flat ∧ Cond.eq (.field (lw_sm i) "java/lang/String" "coder" "B") (.int 0) ∈ lw_flat ∧ Cond.arrayOf (.field (lw_sm i) "java/lang/String" "value" "[B") .byte ∈ lw_flat ∧ Cond.eq (.length (.field (lw_sm i) "java/lang/String" "value" "[B")) (.int (Int32.ofNat ((mz_by.map List.length).getD i 0))) ∈ lw_flat ∧ ∀ j, j < (mz_by.map List.length).getD i 0 → Cond.eq (.elem (.field (lw_sm i) "java/lang/String" "value" "[B") (.int (Int32.ofNat j))) (.int ((mz_by.getD i []).getD j 0)) ∈ lw_flat := by decide +kernel
set_option maxRecDepth 100000 in
theorem lw_f4 : ∀ i, i < 4 → ∀ j, j < 4 → i ≠ j → Cond.not (Cond.eq (lw_sm i) (lw_sm j)) ∈ lw_flat ∨ Cond.not (Cond.eq (lw_sm j) (lw_sm i)) ∈ lw_flat := by decide +kernel
set_option maxRecDepth 100000 in
theorem lw_f5 : Cond.laysStatic "java/lang/String" "COMPACT_STRINGS" "Z" ∈ lw_tbl ∧ Cond.initialized "java/lang/String" ∈ lw_tbl ∧ Cond.eq (.static "java/lang/String" "COMPACT_STRINGS" "Z") (.int 1) ∈ lw_flat ∧ Cond.initialized "ThreeMagnets" ∈ lw_tbl ∧ Cond.arrayClass .int ∈ lw_tbl := by decide +kernel
set_option maxRecDepth 100000 in
theorem lw_f6 : ∀ q ∈ mz_ST, Cond.stringRef q.1 q.2.1 q.2.2 ∈ lw_tbl := by decide +kernel
set_option maxHeartbeats 1000000 in
theorem lw_rok {s : State} {b L : Nat} {xs : Nat → Int32} (hgv : (Jvm.Cond.and given_1 narrow_1).before #[Value.ref b] s = true) (hts : ∀ w ∈ lw_tbl, w.before #[Value.ref b] s = true) (hX : va_X b L xs s s.heap) (hbl : b < s.heap.size) : ∃ ad : Nat → Nat, (∀ i, i < 1000 → ad i = s.heap.size + i) ∧ ad 3000 = b ∧ mz_rok mz_T0 mz_NM mz_ST lw_tbl ad L xs (zz_A s.heap.size) s s.heap ∧ zz_rf mz_T0 (ad 1004) (zz_A s.heap.size) s s.heap := by
  have hs : ∀ w ∈ lw_flat, w.before #[Value.ref b] s = true := flat_of_before _ hgv
  have hA : ∀ a : Nat, a < s.heap.size → ¬ zz_A s.heap.size a := fun a h => Nat.not_le.mpr h
  have h0 : ∀ j : Nat, ∃ t : Nat, j < 5 → (lw_tm j).eval #[Value.ref b] s none [] s = some (.ref t) ∧ va_T .int t (mz_T0.getD j []).length (fun k => .int ((mz_T0.getD j []).getD k 0)) (zz_A s.heap.size) s s.heap := by
    intro j
    by_cases hj : j < 5
    · obtain ⟨a1, a2, -, a4⟩ := lw_f1 j hj
      have hN : (mz_T0.getD j []).length < 2 ^ 31 := by
        have : ∀ j, j < 5 → (mz_T0.getD j []).length < 2 ^ 31 := by decide +kernel
        exact this j hj
      obtain ⟨t, ht, hT⟩ := va_Tof (f := fun k => .int ((mz_T0.getD j []).getD k 0)) (A := zz_A s.heap.size) hN (hs _ a1) (va_eqt (hs _ a2)) (fun k hk => va_eqt (hs _ (a4 k hk))) hA
      exact ⟨t, fun _ => ⟨ht, hT⟩⟩
    · exact ⟨0, fun h => absurd h hj⟩
  obtain ⟨tS, htS⟩ := Classical.axiomOfChoice h0
  obtain ⟨adK, adV, hK, hKe⟩ := vk_Sof (args := #[Value.ref b]) (s := s) (N := 4) (tm := lw_sm) (len := mz_by.map List.length) (byt := mz_by) (A := zz_A s.heap.size) (by decide +kernel) (fun i hi => hs _ (lw_f3 i hi).1) (fun i hi => hs _ (lw_f3 i hi).2.1) (fun i hi => hs _ (lw_f3 i hi).2.2.1) (fun i hi => hs _ (lw_f3 i hi).2.2.2.1) (fun i hi j hj => hs _ ((lw_f3 i hi).2.2.2.2 j hj)) (fun i j hi hj hij => (lw_f4 i hi j hj hij).imp (hs _) (hs _)) hA
  let ad : Nat → Nat := fun i => if i < 1000 then s.heap.size + i else if i < 2000 then tS (i - 1000) else if i < 2100 then adK (i - 2000) else if i < 3000 then adV (i - 2100) else b
  have d0 : ∀ i, i < 1000 → ad i = s.heap.size + i := fun i hi => if_pos hi
  have d1 : ∀ j, j < 1000 → ad (1000 + j) = tS j := fun j hj => by
    show (if 1000 + j < 1000 then _ else if 1000 + j < 2000 then tS (1000 + j - 1000) else _) = _
    rw [if_neg (by omega), if_pos (by omega), Nat.add_sub_cancel_left]
  have d2 : ∀ j, j < 100 → ad (2000 + j) = adK j := fun j hj => by
    show (if 2000 + j < 1000 then _ else if 2000 + j < 2000 then _ else if 2000 + j < 2100 then adK (2000 + j - 2000) else _) = _
    rw [if_neg (by omega), if_neg (by omega), if_pos (by omega), Nat.add_sub_cancel_left]
  have d3 : ∀ j, j < 100 → ad (2100 + j) = adV j := fun j hj => by
    show (if 2100 + j < 1000 then _ else if 2100 + j < 2000 then _ else if 2100 + j < 2100 then _ else if 2100 + j < 3000 then adV (2100 + j - 2100) else _) = _
    rw [if_neg (by omega), if_neg (by omega), if_neg (by omega), if_pos (by omega), Nat.add_sub_cancel_left]
  have d4 : ad 3000 = b := rfl
  clear_value ad
  have hnm : ∀ (j : Nat) (n : String), mz_NM[j]? = some n → j < 5 ∧ mz_NM.getD j "" = n := by
    intro j n h
    refine ⟨(List.getElem?_eq_some_iff.mp h).1, ?_⟩
    rw [List.getD_eq_getElem?_getD, h]
    rfl
  have htt : ∀ (j : Nat) (t : List Int32), mz_T0[j]? = some t → j < 5 ∧ mz_T0.getD j [] = t := by
    intro j n h
    refine ⟨(List.getElem?_eq_some_iff.mp h).1, ?_⟩
    rw [List.getD_eq_getElem?_getD, h]
    rfl
  have hst : ∀ (j : Nat) (q : String × Nat × String), mz_ST[j]? = some q → j < 4 ∧ lw_sm j = .string q.1 q.2.1 ∧ q ∈ mz_ST := by
    intro j q h
    refine ⟨(List.getElem?_eq_some_iff.mp h).1, ?_, List.mem_of_getElem? h⟩
    unfold lw_sm
    rw [h]
  refine ⟨ad, d0, d4, ⟨fun j n h => ?_, fun j t h => ?_, fun j q h => ?_, ⟨fun i hi => ?_, fun i j hi hj e => ?_⟩, ?_, fun w hw hn => ?_, ?_⟩, ?_⟩
  · obtain ⟨hj, rfl⟩ := hnm j n h
    rw [d1 j (by omega)]
    exact va_Zof (hts _ (lw_f2 j hj)) (hts _ lw_f5.2.2.2.1) (htS j hj).1 hA
  · obtain ⟨hj, rfl⟩ := htt j t h
    rw [d1 j (by omega)]
    exact (htS j hj).2
  · obtain ⟨hj, e1, hm⟩ := hst j q h
    rw [d2 j (by omega)]
    have h5 := hKe j hj
    rw [e1] at h5
    exact vk_R.of (hts _ (lw_f6 q hm)) h5
  · show va_O "java/lang/String" (ad (2000 + i)) _ s s.heap ∧ va_OF "java/lang/String" "coder" "B" (.int 0) (ad (2000 + i)) _ s s.heap ∧ va_OF "java/lang/String" "value" "[B" (.ref (ad (2100 + i))) (ad (2000 + i)) _ s s.heap ∧ va_T .byte (ad (2100 + i)) _ _ _ s s.heap
    rw [d2 i (by omega), d3 i (by omega)]
    exact hK.1 i hi
  · have e2 : ad (2000 + i) = ad (2000 + j) := e
    rw [d2 i (by omega), d2 j (by omega)] at e2
    exact hK.2 i j hi hj e2
  · exact va_Zof (hts _ lw_f5.1) (hts _ lw_f5.2.1) (va_eqt (hs _ lw_f5.2.2.1)) hA
  · have h9 := hts w hw
    cases w <;> first | exact (Bool.false_ne_true hn).elim | exact va_Nw.of rfl h9
  · rw [d4]
    exact ⟨hX, hbl, Nat.not_le.mpr hbl⟩
  · rw [d1 4 (by omega)]
    obtain ⟨a1, a2, a3, a4⟩ := lw_f1 4 (by omega)
    obtain ⟨a, cell, e1, e2, e3, e4⟩ := lw_len (va_eqt (hs _ a2))
    have hta : tS 4 = a := Value.ref.inj (Option.some.inj ((htS 4 (by omega)).1.symm.trans e1))
    obtain ⟨c1, c2, c3, -⟩ := State.arrayAt?_spec e2
    obtain ⟨a', c, cell', k, x1, x2, x3, -, x5, x6, -⟩ := Cond.exactly_spec (hs _ a3)
    have haa : a' = a := Value.ref.inj (Option.some.inj (x1.symm.trans e1))
    subst haa
    obtain rfl : cell' = cell := Option.some.inj (x3.symm.trans c1)
    obtain ⟨cell2, y1, -, -, y4, -, y6, y7⟩ := (htS 4 (by omega)).2
    rw [hta] at y1 y7 ⊢
    obtain rfl : cell2 = cell' := Option.some.inj (y1.symm.trans c1)
    have hsz : cell2.slots.size = 6 := by
      have h7 : (Int32.ofNat (mz_T0.getD 4 []).length) = cell2.slots.size.toInt32 := Value.int.inj e3
      have h8 : Int32.ofNat 6 = Int32.ofNat cell2.slots.size := h7
      have h9 : (nI 6).toNatClampNeg = (nI cell2.slots.size).toNatClampNeg := congrArg Int32.toNatClampNeg h8
      rw [nI_clamp (show 6 < 2 ^ 31 by decide), nI_clamp e4] at h9
      exact h9.symm
    exact ⟨cell2, [5, 10, 60, 8, 4, 1], rfl, y1, c3, c2, by rw [x6]; exact x2, hsz, y6, y7⟩
theorem lw_known {s : State} {b : Nat} (hts : ∀ w ∈ lw_tbl, w.before #[Value.ref b] s = true) : ∃ (D : va_G) (cI : ClassId), va_K D vwCl [(cI, .int)] s := by
  obtain ⟨cI, kA, comp, h1, h2, h3⟩ := Cond.arrayClass_spec (hts _ lw_f5.2.2.2.2)
  have h : ∀ k : Nat, ∃ r : ClassId × (Nat → Nat), ∀ q : vw_C, vwCl[k]? = some q → u_Kn s q.1 q.2.1 q.2.2 r.1 r.2 := by
    intro k
    cases hq : vwCl[k]? with
    | none => exact ⟨(cI, fun _ => 0), fun q h => by cases h⟩
    | some q =>
      obtain ⟨cC, iS, hk⟩ := u_known (C := q.1) (T := q.2.1) (N := q.2.2) (n := q.2.2) hts (fun w hw => (List.mem_filter.mp ((mz_cA k q hq).1 w hw)).1) (hts _ (List.mem_filter.mp (zz_cA k q hq).1).1)
      exact ⟨(cC, iS), fun q' h => by cases h; exact hk⟩
  obtain ⟨r, hr⟩ := Classical.axiomOfChoice h
  refine ⟨(fun k => (r k).1, fun k => (r k).2), cI, fun k q hq => hr k q hq, fun k q hq => ?_⟩
  match k, hq with
  | 0, hq =>
    cases hq
    exact ⟨fun n z => ⟨fun k h => (by cases h), kA, h2, comp, h3⟩, h1⟩
  | k + 1, hq => simp at hq
theorem lw_D {S0 : mz_Sh} {cI : ClassId} {ad : Nat → Nat} {sz : Nat} {m : mz_M} (had : ∀ i, i < 1000 → ad i = sz + i) (hn : S0.length ≤ 1000) : va_D (zz_A sz) (mz_w S0 cI ad m) := by
  refine ⟨fun i j x y hi hj he => ?_, fun k q hk => ?_⟩
  · obtain ⟨a1, rfl⟩ := mz_w_in hi
    obtain ⟨a2, rfl⟩ := mz_w_in hj
    have h1 : ad i = ad j := he
    rw [had i (by omega), had j (by omega)] at h1
    omega
  · obtain ⟨a1, rfl⟩ := mz_w_in hk
    show sz ≤ ad k
    rw [had k (by omega)]
    omega
theorem lw_mi {xs : Nat → Int32} {L i : Nat} (hi : i < mz_S.length) : mz_i xs L i = mz_i (fun _ => 0) 0 i := by
  have h79 : mz_S.length = 79 := by decide +kernel
  have h1 : (i == 3000) = false := by simp; omega
  have h2 : (i == 3001) = false := by simp; omega
  funext k
  simp only [mz_i, h1, h2, cond_false]
abbrev lw_c (xs : Nat → Int32) (L : Nat) : mz_C := (18, [some (.ref 3000), some (.ref 0), some (.ref 65), some (.int 0)], [], mz_i xs L)
set_option maxHeartbeats 4000000 in
set_option maxRecDepth 100000 in
/-- THE LAW'S WALK, from a run of the machine -/
theorem lw_go {p : Program} {e : Env} {s : State} {m : MethodId} {below : List Frame} {meth : Method} {c : Code} (l : Launch) {b L : Nat} {xs : Nat → Int32} (hL : L ≤ 6) (C0 : lw_At p s m meth c b L xs) (hlaw : ∃ m', mz_Ex 100 mz_kL (lw_c xs L) (some (.int 1), m')) : W p l e room_1 s m #[Value.ref b] below meth c s.heap [] 0 0 (lw_Z below #[Value.ref b] s) (entryFrame m ([Value.ref b] : List Value).toArray 4) := by
  obtain ⟨hx, hb, hr, hml, hown, hts, hX, hbl, hlocks, hgv⟩ := C0
  obtain ⟨ad, had, h3000, hRo, hrf⟩ := lw_rok hgv hts hX hbl
  obtain ⟨D, cI, hK⟩ := lw_known hts
  obtain ⟨z, mm, hend, hck⟩ := zz_endE
  have F : zz_Fix p room_1 s m #[Value.ref b] meth c mz_S mz_T0 vwCl mz_NM mz_ST lw_tbl mz_gt zz_CT D cI ad 4 L s.heap.size 0 mz_S.length xs "ThreeMagnetsLaw" code :=
    ⟨⟨hx, hb, hml, hown, fun w hw => hts w (List.mem_filter.mp hw).1⟩, ⟨hK, rfl, had, hRo, hrf⟩, ⟨by decide +kernel, by decide +kernel, by decide +kernel, by decide +kernel⟩, zz_EE⟩
  have Fm : mz_Fix p room_1 s m #[Value.ref b] c (mz_S.length - 0) (zz_sl mz_S mz_S.length - zz_sl mz_S 0) mz_S mz_T0 mz_T vwCl mz_NM mz_ST lw_tbl mz_gt D cI ad (zz_A s.heap.size) 4 L xs "ThreeMagnetsLaw" code :=
    ⟨F.1, ⟨hK, fun _ => lw_D had (by decide +kernel), fun q h => h, hRo⟩, ⟨by decide +kernel, by decide +kernel, by decide +kernel, by decide +kernel⟩, mz_EE⟩
  have hls := mz_entry (ad := ad) (as := [.ref 3000]) (n := 4) rfl
  have hv : ([Value.ref 3000] : List Value).map (mz_cvv ad) = [.ref b] := by
    show [Value.ref (ad 3000)] = _
    rw [h3000]
  rw [hv] at hls
  rw [lg_entry_eq]
  refine zz_RunA 100000 10 18 F ⟨by decide +kernel, by decide +kernel⟩ zz_kL false (fun h => by cases h) zz_eL 0 [some (.ref 3000), none, none, none] [] 0 (fun _ _ => false) (fun _ _ => 0) _ (Nat.le_refl _) (Nat.zero_le _) (Nat.le_refl _) hend ?_ _ s.heap [] hls (fun k q h => by simp [zz_w] at h) va_S.rf
  intro ls H locs h1 h2 h3
  have h2' : va_P D vwCl (mz_w mz_S cI ad (mz_i xs L)) H := zz_ck_w (m1 := mz_i (fun _ => 0) 0) (fun i hi => lw_mi hi) hck h2
  obtain ⟨m', n, hrun⟩ := hlaw
  have hscr : mz_scr xs L (mz_i xs L) := ⟨fun j => rfl, rfl, by omega⟩
  refine mz_RunA n 100 Fm ⟨by decide +kernel, by decide +kernel⟩ mz_kL mz_eL 18 _ [] (mz_i xs L) (some (.int 1)) m' hrun ?_ ls H locs h1 h2' h3 hscr
  intro ins pc' L' S' hdec hen ls1 H1 locs1 g1 g2 g3 g4
  rcases hen with ⟨rfl, x, rfl, hx1⟩ | ⟨rfl, x, rfl, hx1⟩ | ⟨rfl, rfl, hx1⟩
  · cases hx1
    exact va_forget (fun q hq => g3.2.2 q hq) (W.widen (k := 600000) (n := 7302250) (by decide +kernel) (by decide +kernel) (lw_ret hx hb hr hlocks hdec))
  · cases hx1
  · cases hx1
end
