section
/-! A SMALL MACHINE: the claim's methods over one memory of ints (object or array number, place), all cells made before; calls by number -/
abbrev mz_M : Type := Nat → Nat → Int32
def mz_up (m : mz_M) (i k : Nat) (v : Int32) : mz_M := fun a b => cond (a == i && b == k) v (m a b)
def mz_cp (m : mz_M) (i j sp dp n : Nat) : mz_M := fun a b => cond (a == i && (decide (dp ≤ b) && decide (b < dp + n))) (m j (sp + (b - dp))) (m a b)
/-- a word of an instruction: kind, two numbers, its place among the tables' words -/
abbrev mz_I : Type := Nat × Nat × Nat × Nat
/-- place, instruction, length, word -/
abbrev mz_E : Type := Nat × Instr × Nat × mz_I
abbrev mz_K : Type := List mz_E
/-- place, locals, stack, memory -/
abbrev mz_C : Type := Nat × List (Option Value) × List Value × mz_M
/-- on; or the end with an answer; or a call -/
abbrev mz_O : Type := mz_C ⊕ (Option Value ⊕ Nat)
def mz_fetch : mz_K → Nat → Option mz_E
  | [], _ => none
  | e :: r, pc => cond (e.1 == pc) (some e) (mz_fetch r pc)
/-- the cells: an int array of a length, or an object of a class with fields: 0 int, 1 boolean, 2 text, r + 3 the cell r -/
abbrev mz_Sh : Type := List (Nat ⊕ (Nat × List Nat))
/-- cells beyond the shapes: the tables of ints (1000 ..), the four texts (2000 ..), their bytes (2100 ..), the script (3000; its length at 3001) -/
def mz_by : List (List Int32) := [[], [114, 115, 110], [118, 114, 110], [99, 108, 120, 121, 101]]
def mz_ro (T : List (List Int32)) (i : Nat) : List Int32 := T.getD (i - 1000) []
def mz_isT (i : Nat) : Bool := decide (2000 ≤ i) && decide (i < 2004)
def mz_isB (i : Nat) : Bool := decide (2100 ≤ i) && decide (i < 2104)
def mz_isR (i : Nat) : Bool := decide (2000 ≤ i) && decide (i < 3000)
section mzdefs
variable (S0 : mz_Sh) (T0 : List (List Int32))
def mz_len (m : mz_M) (i : Nat) : Option Nat := cond (decide (i < 1000)) (match S0[i]? with
  | some (.inl n) => some n
  | _ => none) (cond (decide (i < 1000 + T0.length)) (some (mz_ro T0 i).length) (cond (mz_isB i) (some (mz_by.getD (i - 2100) []).length) (cond (i == 3000) (some (m 3001 0).toNatClampNeg) none)))
def mz_val (m : mz_M) (i k : Nat) : Int32 := cond (decide (i < 1000)) (m i k) (cond (decide (i < 1000 + T0.length)) ((mz_ro T0 i).getD k 0) (m 3000 k))
def mz_in (j : Int32) (n : Nat) : Bool := !(decide (j < 0) || decide (n ≤ j.toNatClampNeg))
def mz_get (m : mz_M) (ci k i : Nat) : Option Value := match S0[i]? with
  | some (.inr (c, fs)) => cond (c == ci) (match fs[k]? with
    | some 0 => some (.int (m i k))
    | some 1 => some (.int (m i k))
    | some 2 => some (.ref (m i k).toNatClampNeg)
    | some (r + 3) => some (.ref r)
    | none => none) none
  | _ => none
def mz_put (m : mz_M) (ci k i : Nat) (v : Value) : Option mz_M := match S0[i]? with
  | some (.inr (c, fs)) => cond (c == ci) (match fs[k]?, v with
    | some 0, .int x => some (mz_up m i k x)
    | some 1, .int x => cond (x == 0 || x == 1) (some (mz_up m i k x)) none
    | some 2, .ref r => cond (mz_isT r) (some (mz_up m i k (Int32.ofNat r))) none
    | _, _ => none) none
  | _ => none
def mz_long : Option (Option Value) → Bool
  | some (some v) => v.category == 2
  | _ => false
def mz_st (L : List (Option Value)) (i : Nat) (v : Value) : List (Option Value) := match i with
  | 0 => L.set 0 (some v)
  | j + 1 => (cond (mz_long L[j]?) (L.set j none) L).set (j + 1) (some v)
def mz_cv (f : mz_I) : Option Value := match f.1 with
  | 20 => some (.int (Int32.ofNat f.2.1))
  | 21 => some (.int (-(Int32.ofNat f.2.1)))
  | 22 => some (.ref (2000 + f.2.1))
  | _ => none
def mz_tg (pc : Nat) (off : Int) : Nat := ((pc : Int) + off).toNat
def mz_ok (pc : Nat) (off : Int) : Bool := decide (0 ≤ (pc : Int) + off)
def mz_cat (S : List Value) : Nat := (S.map fun v => v.category).sum
def mz_next (pc : Nat) (L : List (Option Value)) (S : List Value) (m : mz_M) : Option mz_O := some (.inl (pc, L, S, m))
def mz_jump (ok : Bool) (t f : Nat) (c : Prop) [Decidable c] (L : List (Option Value)) (S : List Value) (m : mz_M) : Option mz_O := cond ok (some (.inl (if c then t else f, L, S, m))) none
def mz_ld (L : List (Option Value)) (i : Nat) : Option Value := match L[i]? with
  | some (some v) => some v
  | _ => none
def mz_ln : Instr → Nat
  | .iload _ => 2
  | .aload _ => 2
  | .istore _ => 2
  | .astore _ => 2
  | .bipush _ => 2
  | .ldc _ => 2
  | .sipush _ => 3
  | .ldc_w _ => 3
  | .ldc2_w _ => 3
  | .iinc _ _ => 3
  | .getfield _ => 3
  | .putfield _ => 3
  | .getstatic _ => 3
  | .invokevirtual _ => 3
  | .invokestatic _ => 3
  | .ifCond _ _ => 3
  | .if_icmp _ _ => 3
  | .goto _ => 3
  | .new _ => 3
  | .invokespecial _ => 3
  | .checkcast _ => 3
  | .newarray _ => 2
  | .tableswitch _ _ _ _ => 0
  | .lookupswitch _ _ => 0
  | _ => 1
def mz_step (ins : Instr) (f : mz_I) (pc : Nat) (L : List (Option Value)) (S : List Value) (m : mz_M) : Option mz_O := match ins with
  | .iconst _ => match mz_cv f with
    | some v => mz_next (pc + 1) L (v :: S) m
    | none => none
  | .bipush _ => match mz_cv f with
    | some v => mz_next (pc + 2) L (v :: S) m
    | none => none
  | .sipush _ => match mz_cv f with
    | some v => mz_next (pc + 3) L (v :: S) m
    | none => none
  | .ldc _ => match mz_cv f with
    | some v => mz_next (pc + 2) L (v :: S) m
    | none => none
  | .ldc_w _ => match mz_cv f with
    | some v => mz_next (pc + 3) L (v :: S) m
    | none => none
  | .ldc2_w _ => mz_next (pc + 3) L (.long (Int64.ofNat f.2.1) :: S) m
  | .iload_n k => match mz_ld L k.val with
    | some (.int x) => mz_next (pc + 1) L (.int x :: S) m
    | _ => none
  | .iload k => match mz_ld L k with
    | some (.int x) => mz_next (pc + 2) L (.int x :: S) m
    | _ => none
  | .aload_n k => match mz_ld L k.val with
    | some (.ref x) => mz_next (pc + 1) L (.ref x :: S) m
    | _ => none
  | .aload k => match mz_ld L k with
    | some (.ref x) => mz_next (pc + 2) L (.ref x :: S) m
    | _ => none
  | .lload_n k => match mz_ld L k.val with
    | some (.long x) => mz_next (pc + 1) L (.long x :: S) m
    | _ => none
  | .istore_n k => match S with
    | .int x :: S => cond (decide (k.val < L.length)) (mz_next (pc + 1) (mz_st L k.val (.int x)) S m) none
    | _ => none
  | .istore k => match S with
    | .int x :: S => cond (decide (k < L.length)) (mz_next (pc + 2) (mz_st L k (.int x)) S m) none
    | _ => none
  | .astore_n k => match S with
    | .ref x :: S => cond (decide (k.val < L.length)) (mz_next (pc + 1) (mz_st L k.val (.ref x)) S m) none
    | _ => none
  | .astore k => match S with
    | .ref x :: S => cond (decide (k < L.length)) (mz_next (pc + 2) (mz_st L k (.ref x)) S m) none
    | _ => none
  | .iinc k _ => match mz_ld L k, mz_cv f with
    | some (.int x), some (.int y) => mz_next (pc + 3) (mz_st L k (.int (x + y))) S m
    | _, _ => none
  | .iadd => match S with
    | .int y :: .int x :: S => mz_next (pc + 1) L (.int (x + y) :: S) m
    | _ => none
  | .isub => match S with
    | .int y :: .int x :: S => mz_next (pc + 1) L (.int (x - y) :: S) m
    | _ => none
  | .imul => match S with
    | .int y :: .int x :: S => mz_next (pc + 1) L (.int (x * y) :: S) m
    | _ => none
  | .idiv => match S with
    | .int y :: .int x :: S => cond (y == 0) none (mz_next (pc + 1) L (.int (x / y) :: S) m)
    | _ => none
  | .irem => match S with
    | .int y :: .int x :: S => cond (y == 0) none (mz_next (pc + 1) L (.int (x - x / y * y) :: S) m)
    | _ => none
  | .ineg => match S with
    | .int x :: S => mz_next (pc + 1) L (.int (-x) :: S) m
    | _ => none
  | .iand => match S with
    | .int y :: .int x :: S => mz_next (pc + 1) L (.int (x &&& y) :: S) m
    | _ => none
  | .ior => match S with
    | .int y :: .int x :: S => mz_next (pc + 1) L (.int (x ||| y) :: S) m
    | _ => none
  | .ixor => match S with
    | .int y :: .int x :: S => mz_next (pc + 1) L (.int (x ^^^ y) :: S) m
    | _ => none
  | .ishl => match S with
    | .int y :: .int x :: S => mz_next (pc + 1) L (.int (x <<< (y &&& 31)) :: S) m
    | _ => none
  | .ishr => match S with
    | .int y :: .int x :: S => mz_next (pc + 1) L (.int (x >>> (y &&& 31)) :: S) m
    | _ => none
  | .iushr => match S with
    | .int y :: .int x :: S => mz_next (pc + 1) L (.int (x.toUInt32 >>> (y.toUInt32 &&& Int32.toUInt32 31)).toInt32 :: S) m
    | _ => none
  | .land => match S with
    | .long y :: .long x :: S => mz_next (pc + 1) L (.long (x &&& y) :: S) m
    | _ => none
  | .lor => match S with
    | .long y :: .long x :: S => mz_next (pc + 1) L (.long (x ||| y) :: S) m
    | _ => none
  | .lshl => match S with
    | .int y :: .long x :: S => mz_next (pc + 1) L (.long (x <<< (y.toInt64 &&& 63)) :: S) m
    | _ => none
  | .lshr => match S with
    | .int y :: .long x :: S => mz_next (pc + 1) L (.long (x >>> (y.toInt64 &&& 63)) :: S) m
    | _ => none
  | .lushr => match S with
    | .int y :: .long x :: S => mz_next (pc + 1) L (.long (x.toUInt64 >>> (y.toInt64.toUInt64 &&& Int64.toUInt64 63)).toInt64 :: S) m
    | _ => none
  | .i2l => match S with
    | .int x :: S => mz_next (pc + 1) L (.long x.toInt64 :: S) m
    | _ => none
  | .l2i => match S with
    | .long x :: S => mz_next (pc + 1) L (.int x.toInt32 :: S) m
    | _ => none
  | .i2b => match S with
    | .int x :: S => mz_next (pc + 1) L (.int x.toInt8.toInt32 :: S) m
    | _ => none
  | .i2s => match S with
    | .int x :: S => mz_next (pc + 1) L (.int x.toInt16.toInt32 :: S) m
    | _ => none
  | .i2c => match S with
    | .int x :: S => mz_next (pc + 1) L (.int (x.toUInt32 % 65536).toInt32 :: S) m
    | _ => none
  | .dup => match S with
    | v :: S => cond (v.category == 1) (mz_next (pc + 1) L (v :: v :: S) m) none
    | _ => none
  | .dup_x1 => match S with
    | v :: w :: S => cond (v.category == 1 && w.category == 1) (mz_next (pc + 1) L (v :: w :: v :: S) m) none
    | _ => none
  | .dup2 => match S with
    | v :: w :: S => cond (v.category == 1 && w.category == 1) (mz_next (pc + 1) L (v :: w :: v :: w :: S) m) none
    | _ => none
  | .pop => match S with
    | v :: S => cond (v.category == 1) (mz_next (pc + 1) L S m) none
    | _ => none
  | .ifCond .eq o => match S with
    | .int x :: S => mz_jump (mz_ok pc o) (mz_tg pc o) (pc + 3) (x = 0) L S m
    | _ => none
  | .ifCond .ne o => match S with
    | .int x :: S => mz_jump (mz_ok pc o) (pc + 3) (mz_tg pc o) (x = 0) L S m
    | _ => none
  | .ifCond .lt o => match S with
    | .int x :: S => mz_jump (mz_ok pc o) (mz_tg pc o) (pc + 3) (x < 0) L S m
    | _ => none
  | .ifCond .ge o => match S with
    | .int x :: S => mz_jump (mz_ok pc o) (mz_tg pc o) (pc + 3) (0 ≤ x) L S m
    | _ => none
  | .ifCond .gt o => match S with
    | .int x :: S => mz_jump (mz_ok pc o) (mz_tg pc o) (pc + 3) (0 < x) L S m
    | _ => none
  | .ifCond .le o => match S with
    | .int x :: S => mz_jump (mz_ok pc o) (mz_tg pc o) (pc + 3) (x ≤ 0) L S m
    | _ => none
  | .if_icmp .eq o => match S with
    | .int y :: .int x :: S => mz_jump (mz_ok pc o) (mz_tg pc o) (pc + 3) (x = y) L S m
    | _ => none
  | .if_icmp .ne o => match S with
    | .int y :: .int x :: S => mz_jump (mz_ok pc o) (pc + 3) (mz_tg pc o) (x = y) L S m
    | _ => none
  | .if_icmp .lt o => match S with
    | .int y :: .int x :: S => mz_jump (mz_ok pc o) (mz_tg pc o) (pc + 3) (x < y) L S m
    | _ => none
  | .if_icmp .ge o => match S with
    | .int y :: .int x :: S => mz_jump (mz_ok pc o) (mz_tg pc o) (pc + 3) (y ≤ x) L S m
    | _ => none
  | .if_icmp .gt o => match S with
    | .int y :: .int x :: S => mz_jump (mz_ok pc o) (mz_tg pc o) (pc + 3) (y < x) L S m
    | _ => none
  | .if_icmp .le o => match S with
    | .int y :: .int x :: S => mz_jump (mz_ok pc o) (mz_tg pc o) (pc + 3) (x ≤ y) L S m
    | _ => none
  | .goto o => cond (mz_ok pc o) (mz_next (mz_tg pc o) L S m) none
  | .tableswitch d lo hi offs => match S with
    | .int x :: S => cond (decide (x.toInt < lo) || decide (hi < x.toInt)) (cond (mz_ok pc d) (mz_next (mz_tg pc d) L S m) none) (match offs[(x.toInt - lo).toNat]? with
      | some o => cond (mz_ok pc o) (mz_next (mz_tg pc o) L S m) none
      | none => none)
    | _ => none
  | .lookupswitch d ps => match S with
    | .int x :: S => cond ((ps.toList.zip (ps.toList.drop 1)).all (fun (a, next) => a.1 < next.1) && mz_ok pc (Op.lookupswitch.offset ps.toList d x.toInt)) (mz_next (mz_tg pc (Op.lookupswitch.offset ps.toList d x.toInt)) L S m) none
    | _ => none
  | .getfield _ => match S with
    | .ref i :: S => cond (f.1 == 5) (cond (mz_isT i) (mz_next (pc + 3) L ((cond (f.2.1 == 0) (.ref (i + 100)) (.int 0)) :: S) m) none) (match mz_get S0 m f.2.1 f.2.2.1 i with
      | some v => mz_next (pc + 3) L (v :: S) m
      | none => none)
    | _ => none
  | .putfield _ => match S with
    | v :: .ref i :: S => match mz_put S0 m f.2.1 f.2.2.1 i v with
      | some m' => mz_next (pc + 3) L S m'
      | none => none
    | _ => none
  | .getstatic _ => mz_next (pc + 3) L ((cond (f.1 == 6) (.int 1) (.ref (1000 + f.2.1))) :: S) m
  | .arraylength => match S with
    | .ref i :: S => match mz_len S0 T0 m i with
      | some n => mz_next (pc + 1) L (.int (Int32.ofNat n) :: S) m
      | none => none
    | _ => none
  | .iaload => match S with
    | .int j :: .ref i :: S => match cond (mz_isR i) none (mz_len S0 T0 m i) with
      | some n => cond (mz_in j n) (mz_next (pc + 1) L (.int (mz_val T0 m i j.toNatClampNeg) :: S) m) none
      | none => none
    | _ => none
  | .baload => match S with
    | .int j :: .ref i :: S => cond (mz_isB i && mz_in j (mz_by.getD (i - 2100) []).length) (mz_next (pc + 1) L (.int ((mz_by.getD (i - 2100) []).getD j.toNatClampNeg 0) :: S) m) none
    | _ => none
  | .iastore => match S with
    | .int x :: .int j :: .ref i :: S => match S0[i]? with
      | some (.inl n) => cond (mz_in j n) (mz_next (pc + 1) L S (mz_up m i j.toNatClampNeg x)) none
      | _ => none
    | _ => none
  | .ireturn => match S with
    | [.int x] => some (.inr (.inl (some (.int x))))
    | _ => none
  | .areturn => match S with
    | [.ref x] => some (.inr (.inl (some (.ref x))))
    | _ => none
  | .return_ => match S with
    | [] => some (.inr (.inl none))
    | _ => none
  | .invokevirtual _ => cond (f.1 == 3) (some (.inr (.inr f.2.1))) none
  | .invokestatic _ => match f.1 with
    | 2 => some (.inr (.inr f.2.1))
    | 4 => some (.inr (.inr f.2.1))
    | 8 => match S with
      | .int x :: S => cond (decide (mz_cat S ≤ 8)) (mz_next (pc + 3) L (.int (if 0 ≤ x then x else 0 - x) :: S) m) none
      | _ => none
    | 9 => match S with
      | .int y :: .int x :: S => cond (decide (mz_cat S ≤ 8)) (mz_next (pc + 3) L (.int (if x < y then y else x) :: S) m) none
      | _ => none
    | 10 => match S with
      | .int y :: .int x :: S => cond (decide (mz_cat S ≤ 8)) (mz_next (pc + 3) L (.int (if y < x then y else x) :: S) m) none
      | _ => none
    | 11 => match S with
      | .int n :: .int dp :: .ref i :: .int sp :: .ref j :: S => match S0[i]?, S0[j]? with
        | some (.inl ni), some (.inl nj) => cond (!decide (sp < 0) && !decide (dp < 0) && !decide (n < 0) && decide (sp.toNatClampNeg + n.toNatClampNeg ≤ nj) && decide (dp.toNatClampNeg + n.toNatClampNeg ≤ ni) && decide (mz_cat S ≤ 8)) (mz_next (pc + 3) L S (mz_cp m i j sp.toNatClampNeg dp.toNatClampNeg n.toNatClampNeg)) none
        | _, _ => none
      | _ => none
    | _ => none
  | _ => none
end mzdefs
/-- a method: its class's number, name, bytes, locals, answer; whether static; how many values it takes; its instructions -/
abbrev mz_R : Type := Nat × MethodName × ByteArray × Nat × Option FieldType × Bool × Nat × mz_K
def mz_ent (as : List Value) (n : Nat) : List (Option Value) :=
  let l := as.flatMap fun v => cond (v.category == 2) [some v, none] [some v]
  l ++ List.replicate (n - l.length) none
def mz_rcv (S0 : mz_Sh) (R : mz_R) (as : List Value) : Bool := cond R.2.2.2.2.2.1 true (match as with
  | .ref i :: _ => cond (R.1 == 12) (mz_isT i) (match S0[i]? with
    | some (.inr (c, _)) => c == R.1
    | _ => false)
  | _ => false)
/-- an answer fits the method's type -/
def mz_fit (t : Option FieldType) (r : Option Value) : Bool := match t, r with
  | none, none => true
  | some .int, some (.int _) => true
  | some .boolean, some (.int x) => x == 0 || x == 1
  | some .byte, some (.int x) => x == 0
  | some (.object _), some (.ref _) => true
  | _, _ => false
/-- a call can be made: enough values, few left, the receiver's class, the locals' room -/
def mz_cal (S0 : mz_Sh) (R : mz_R) (S : List Value) : Bool := decide (R.2.2.2.2.2.2.1 ≤ S.length) && decide (mz_cat (S.drop R.2.2.2.2.2.2.1) ≤ 8) && mz_rcv S0 R (S.take R.2.2.2.2.2.2.1).reverse && ((mz_ent (S.take R.2.2.2.2.2.2.1).reverse R.2.2.2.1).length == R.2.2.2.1)
section mzrun
variable (S0 : mz_Sh) (T0 : List (List Int32)) (T : List mz_R)
/-- fuel, depth -/
def mz_x : Nat → Nat → mz_K → mz_C → Option (Option Value × mz_M)
  | 0, _, _, _ => none
  | n + 1, d, K, (pc, L, S, m) => match mz_fetch K pc with
    | none => none
    | some e => match mz_step S0 T0 e.2.1 e.2.2.2 pc L S m with
      | none => none
      | some (.inl c) => mz_x n d K c
      | some (.inr (.inl r)) => some (r, m)
      | some (.inr (.inr a)) => match T[a]?, d with
        | some R, d + 1 => cond (mz_cal S0 R S) (match mz_x n d R.2.2.2.2.2.2.2 (0, mz_ent (S.take R.2.2.2.2.2.2.1).reverse R.2.2.2.1, [], m) with
          | some (r, m') => cond (mz_fit R.2.2.2.2.1 r) (mz_x n (d + 1) K (pc + 3, L, r.toList ++ S.drop R.2.2.2.2.2.2.1, m')) none
          | none => none) none
        | _, _ => none
end mzrun
end
section

/-! THE MACHINE'S STEPS HOLD OF THE JVM'S: a step of the small machine is a step of the real one, where its memory is laid out in the heap -/
def mz_cvv (ad : Nat → Nat) (v : Value) : Value := match v with
  | .ref i => .ref (ad i)
  | v => v
theorem mz_cvv_cat (ad : Nat → Nat) (v : Value) : (mz_cvv ad v).category = v.category := by cases v <;> rfl
def mz_fv (ad : Nat → Nat) (m : mz_M) (i k f : Nat) : Value := match f with
  | 0 => .int (m i k)
  | 1 => .int (m i k)
  | 2 => .ref (ad (m i k).toNatClampNeg)
  | r + 3 => .ref (ad r)
def mz_cell (S0 : mz_Sh) (cI : ClassId) (ad : Nat → Nat) (m : mz_M) (i : Nat) : va_E := match S0[i]? with
  | some (.inl n) => .inl (cI, n, .inl (m i))
  | some (.inr (c, fs)) => .inr (c, fs.mapIdx (mz_fv ad m i))
  | none => .inr (0, [])
def mz_w (S0 : mz_Sh) (cI : ClassId) (ad : Nat → Nat) (m : mz_M) : va_W := (List.range S0.length).map fun i => (ad i, mz_cell S0 cI ad m i)
theorem mz_w_len (S0 : mz_Sh) (cI : ClassId) (ad : Nat → Nat) (m : mz_M) : (mz_w S0 cI ad m).length = S0.length := by simp [mz_w]
theorem mz_w_at {S0 : mz_Sh} {cI : ClassId} {ad : Nat → Nat} {m : mz_M} {i : Nat} (h : i < S0.length) : (mz_w S0 cI ad m)[i]? = some (ad i, mz_cell S0 cI ad m i) := by
  simp [mz_w, h]
theorem mz_lt {S0 : mz_Sh} {i : Nat} {q : Nat ⊕ (Nat × List Nat)} (h : S0[i]? = some q) : i < S0.length := (List.getElem?_eq_some_iff.mp h).1
theorem mz_w_in {S0 : mz_Sh} {cI : ClassId} {ad : Nat → Nat} {m : mz_M} {k : Nat} {q : Nat × va_E} (h : (mz_w S0 cI ad m)[k]? = some q) : k < S0.length ∧ q = (ad k, mz_cell S0 cI ad m k) := by
  have hk : k < S0.length := by
    have := (List.getElem?_eq_some_iff.mp h).1
    rwa [mz_w_len] at this
  rw [mz_w_at hk] at h
  exact ⟨hk, (Option.some.inj h).symm⟩
theorem mz_w_set {S0 : mz_Sh} {cI : ClassId} {ad : Nat → Nat} {m m' : mz_M} {i : Nat} (h : i < S0.length) (e : va_E) (he : mz_cell S0 cI ad m' i = e) (ho : ∀ j, j ≠ i → mz_cell S0 cI ad m' j = mz_cell S0 cI ad m j) : (mz_w S0 cI ad m).set i (ad i, e) = mz_w S0 cI ad m' := by
  apply List.ext_getElem?
  intro j
  by_cases hj : j < S0.length
  · rw [mz_w_at hj]
    by_cases hij : i = j
    · subst hij
      rw [List.getElem?_set_self (by rw [mz_w_len]; exact h), he]
    · rw [List.getElem?_set_ne hij, mz_w_at hj, ho j (fun q => hij q.symm)]
  · rw [List.getElem?_eq_none (by rw [List.length_set, mz_w_len]; omega), List.getElem?_eq_none (by rw [mz_w_len]; omega)]
theorem mz_up_ne {m : mz_M} {i k j : Nat} {v : Int32} (h : j ≠ i) : mz_up m i k v j = m j := by
  funext b
  have h1 : (j == i) = false := by simpa using h
  simp only [mz_up, h1, Bool.false_and, cond_false]
theorem mz_up_eq {m : mz_M} {i k b : Nat} {v : Int32} : mz_up m i k v i b = if b = k then v else m i b := by
  simp only [mz_up, beq_self_eq_true, Bool.true_and]
  by_cases h : b = k
  · simp [h]
  · have h1 : (b == k) = false := by simpa using h
    rw [h1, if_neg h]
    rfl
theorem mz_cp_ne {m : mz_M} {i j sp dp n a : Nat} (h : a ≠ i) : mz_cp m i j sp dp n a = m a := by
  funext b
  have h1 : (a == i) = false := by simpa using h
  simp only [mz_cp, h1, Bool.false_and, cond_false]
theorem mz_cell_ne {S0 : mz_Sh} {cI : ClassId} {ad : Nat → Nat} {m m' : mz_M} {j : Nat} (h : m' j = m j) : mz_cell S0 cI ad m' j = mz_cell S0 cI ad m j := by
  have hf : mz_fv ad m' j = mz_fv ad m j := by
    funext k f
    unfold mz_fv
    rw [h]
  unfold mz_cell
  rw [h, hf]
/-- the addresses alone -/
theorem mz_D {S0 : mz_Sh} {cI : ClassId} {ad : Nat → Nat} {A : Nat → Prop} {m m' : mz_M} (h : va_D A (mz_w S0 cI ad m)) : va_D A (mz_w S0 cI ad m') := by
  refine ⟨fun i j p q hi hj he => ?_, fun k q hk => ?_⟩
  · obtain ⟨a1, rfl⟩ := mz_w_in hi
    obtain ⟨a2, rfl⟩ := mz_w_in hj
    exact h.1 i j _ _ (mz_w_at a1) (mz_w_at a2) he
  · obtain ⟨a1, rfl⟩ := mz_w_in hk
    exact h.2 k (ad k, mz_cell S0 cI ad m k) (mz_w_at a1)
/-- what stands outside: the tables of ints, the texts, words of nest mates, the script -/
def mz_isN : Jvm.Cond → Bool
  | .methodLinkNest _ _ _ _ => true
  | .fieldLinkNest _ _ _ _ _ _ => true
  | .castable _ _ => true
  | _ => false
def mz_rok (T0 : List (List Int32)) (NM : List String) (ST : List (String × Nat × String)) (G0 : List Jvm.Cond) (ad : Nat → Nat) (Ln : Nat) (xs : Nat → Int32) (A : Nat → Prop) (U : State) (H : Heap) : Prop :=
  (∀ (j : Nat) (n : String), NM[j]? = some n → va_Z "ThreeMagnets" n "[I" (.ref (ad (1000 + j))) A U H) ∧
  (∀ (j : Nat) (t : List Int32), T0[j]? = some t → va_T .int (ad (1000 + j)) t.length (fun k => .int (t.getD k 0)) A U H) ∧
  (∀ (j : Nat) (q : String × Nat × String), ST[j]? = some q → vk_R q.1 q.2.1 q.2.2 (ad (2000 + j)) U) ∧
  vk_S 4 (mz_by.map List.length) mz_by (fun i => ad (2000 + i)) (fun i => ad (2100 + i)) A U H ∧
  va_Z "java/lang/String" "COMPACT_STRINGS" "Z" (.int 1) A U H ∧
  (∀ w ∈ G0, mz_isN w = true → va_Nw w U) ∧
  (va_X (ad 3000) Ln xs U H ∧ ad 3000 < H.size ∧ ¬ A (ad 3000))
theorem mz_rok.same {T0 : List (List Int32)} {NM : List String} {ST : List (String × Nat × String)} {G0 : List Jvm.Cond} {ad : Nat → Nat} {Ln : Nat} {xs : Nat → Int32} {A : Nat → Prop} {u U : State} {H : Heap} (hv : u.vm = U.vm) (h : mz_rok T0 NM ST G0 ad Ln xs A u H) : mz_rok T0 NM ST G0 ad Ln xs A U H := by
  have ha : u.vm.Alike U.vm := hv ▸ Vm.Alike.refl u.vm
  obtain ⟨h1, h2, h3, h4, h5, h6, h7, h8⟩ := h
  refine ⟨fun j n hj => (h1 j n hj).moved ha, fun j t hj => (h2 j t hj).moved ha, fun j q hj => vk_R.same hv.symm (h3 j q hj), h4.moved ha, h5.moved ha, fun w hw hn => ?_, h7.moved ha, h8⟩
  have h9 := h6 w hw hn
  cases w <;> first | exact (Bool.false_ne_true hn).elim | exact va_Nw.same rfl hv h9
theorem mz_rok.warm {T0 : List (List Int32)} {NM : List String} {ST : List (String × Nat × String)} {G0 : List Jvm.Cond} {ad : Nat → Nat} {Ln : Nat} {xs : Nat → Int32} {A : Nat → Prop} {s U : State} {H : Heap} (hW : s.WarmedH U.vm) (h : mz_rok T0 NM ST G0 ad Ln xs A s H) : mz_rok T0 NM ST G0 ad Ln xs A U H := by
  have ha : s.vm.Alike U.vm := hW.alike
  obtain ⟨h1, h2, h3, h4, h5, h6, h7, h8⟩ := h
  refine ⟨fun j n hj => (h1 j n hj).moved ha, fun j t hj => (h2 j t hj).moved ha, fun j q hj => vk_R.warm hW (h3 j q hj), h4.moved ha, h5.moved ha, fun w hw hn => ?_, h7.moved ha, h8⟩
  have h9 := h6 w hw hn
  cases w <;> first | exact (Bool.false_ne_true hn).elim | exact va_Nw.warmM hW h9 | exact va_Nw.warmF hW h9 | exact va_Nw.warmC hW h9
theorem mz_rok.kept {T0 : List (List Int32)} {NM : List String} {ST : List (String × Nat × String)} {G0 : List Jvm.Cond} {ad : Nat → Nat} {Ln : Nat} {xs : Nat → Int32} {A B : Nat → Prop} {U : State} {H H1 : Heap} (h : mz_rok T0 NM ST G0 ad Ln xs A U H) (hz : H.size ≤ H1.size) (hq : ∀ a : Nat, a < H.size → ¬ A a → H1[a]? = H[a]?) (hAB : ∀ q, B q → A q) : mz_rok T0 NM ST G0 ad Ln xs B U H1 := by
  obtain ⟨h1, h2, h3, h4, h5, h6, h7, h8, h9⟩ := h
  exact ⟨fun j n hj => ((h1 j n hj).kept hq).narrow hAB, fun j t hj => ((h2 j t hj).kept hq).narrow hAB, h3, (h4.kept hq).narrow hAB, (h5.kept hq).narrow hAB, h6, h7.kept (hq _ h8 h9), Nat.lt_of_lt_of_le h8 hz, fun q => h9 (hAB _ q)⟩
def mz_scr (xs : Nat → Int32) (Ln : Nat) (m : mz_M) : Prop := (∀ j, m 3000 j = xs j) ∧ m 3001 0 = nI Ln ∧ Ln < 2 ^ 31
/-- the tables' words that a method may use -/
def mz_G (G0 : List Jvm.Cond) : List Jvm.Cond := G0.filter goodWord
theorem mz_G_good {G0 : List Jvm.Cond} {w : Jvm.Cond} (h : w ∈ mz_G G0) : (w.onTables && w.keeps) = true ∨ ∃ ty, w = .arrayClass ty := good_of_word (List.mem_filter.mp h).2
theorem mz_G_in {G0 : List Jvm.Cond} {w : Jvm.Cond} (h : w ∈ G0) (hg : goodWord w = true) : w ∈ mz_G G0 := List.mem_filter.mpr ⟨h, hg⟩
/-- a class's tables are in order -/
def mz_cok (G0 : List Jvm.Cond) (q : vw_C) : Prop := (∀ w ∈ u_ws q.1 q.2.1 q.2.2, w ∈ mz_G G0) ∧ (∀ a, a < q.2.2 → ∀ b, b < q.2.2 → a ≠ b → (q.2.1 a).2.1 ≠ (q.2.1 b).2.1) ∧ ∃ ty : Nat → FieldType, ∀ k, k < q.2.2 → parseFieldDescriptor (q.2.1 k).2.2.1 = some (ty k)
/-- a shape is its class's -/
def mz_sok (S0 : mz_Sh) (cl : List vw_C) : Prop := ∀ (i c : Nat) (fs : List Nat), S0[i]? = some (.inr (c, fs)) → ∃ q, cl[c]? = some q ∧ fs.length = q.2.2 ∧ ∀ (k f : Nat), fs[k]? = some f → (f = 0 → (q.2.1 k).2.2.2 = false ∧ parseFieldDescriptor (q.2.1 k).2.2.1 = some .int) ∧ (f = 1 → (q.2.1 k).2.2.2 = false ∧ parseFieldDescriptor (q.2.1 k).2.2.1 = some .boolean) ∧ (f = 2 → (q.2.1 k).2.2.2 = false ∧ parseFieldDescriptor (q.2.1 k).2.2.1 = some (.object "java/lang/String"))
/-- the words of an instruction stand in the tables -/
def mz_lk (T : List mz_R) (cl : List vw_C) (NM : List String) (ST : List (String × Nat × String)) (gt : Nat → Option Jvm.Cond) (own : String) (ins : Instr) (f : mz_I) : Bool := match ins with
  | .iconst n => decide (mz_cv f = some (.int (Int32.ofInt n)))
  | .bipush n => decide (mz_cv f = some (.int (Int8.ofInt n).toInt32))
  | .sipush n => decide (mz_cv f = some (.int (Int16.ofInt n).toInt32))
  | .iinc _ n => decide (mz_cv f = some (.int (Int32.ofInt n)))
  | .ldc x => match mz_cv f with
    | some (.int v) => decide (gt f.2.2.2 = some (.constant own x v))
    | some (.ref _) => match ST[f.2.1]? with
      | some q => q.1 == own && q.2.1 == x && f.1 == 22
      | none => false
    | _ => false
  | .ldc_w x => match mz_cv f with
    | some (.int v) => decide (gt f.2.2.2 = some (.constant own x v))
    | some (.ref _) => match ST[f.2.1]? with
      | some q => q.1 == own && q.2.1 == x && f.1 == 22
      | none => false
    | _ => false
  | .ldc2_w x => decide (gt f.2.2.2 = some (.constantLong own x (Int64.ofNat f.2.1)))
  | .getfield x => cond (f.1 == 5) (cond (f.2.1 == 0) (decide (gt f.2.2.2 = some (.fieldLink own x "java/lang/String" "value" "[B"))) (decide (gt f.2.2.2 = some (.fieldLink own x "java/lang/String" "coder" "B")))) (match cl[f.2.1]? with
    | some q => decide (f.2.2.1 < q.2.2) && decide (gt f.2.2.2 = some (.fieldLink own x (q.2.1 f.2.2.1).1 (q.2.1 f.2.2.1).2.1 (q.2.1 f.2.2.1).2.2.1))
    | none => false)
  | .putfield x => match cl[f.2.1]? with
    | some q => decide (f.2.2.1 < q.2.2) && decide (gt f.2.2.2 = some (.fieldLink own x (q.2.1 f.2.2.1).1 (q.2.1 f.2.2.1).2.1 (q.2.1 f.2.2.1).2.2.1))
    | none => false
  | .getstatic x => cond (f.1 == 6) (decide (gt f.2.2.2 = some (.fieldLink own x "java/lang/String" "COMPACT_STRINGS" "Z"))) (match NM[f.2.1]? with
    | some n => cond (f.2.2.1 == 0) (decide (gt f.2.2.2 = some (.fieldLink own x "ThreeMagnets" n "[I"))) (decide (gt f.2.2.2 = some (.fieldLinkNest own x "ThreeMagnets" n "[I" "ThreeMagnets")))
    | none => false)
  | .invokevirtual x => match T[f.2.1]? with
    | some R => R.2.2.2.2.2.1 == false && decide (gt f.2.2.2 = some (.methodLink own x R.2.1))
    | none => false
  | .invokestatic x => match f.1 with
    | 2 => match T[f.2.1]? with
      | some R => R.2.2.2.2.2.1 == true && decide (gt f.2.2.2 = some (.methodLink own x R.2.1))
      | none => false
    | 4 => match T[f.2.1]? with
      | some R => R.2.2.2.2.2.1 == true && decide (gt f.2.2.2 = some (.methodLinkNest own x R.2.1 "ThreeMagnets"))
      | none => false
    | 8 => decide (gt f.2.2.2 = some (.methodLink own x Lib.Math.abs.name))
    | 9 => decide (gt f.2.2.2 = some (.methodLink own x Lib.Math.max.name))
    | 10 => decide (gt f.2.2.2 = some (.methodLink own x Lib.Math.min.name))
    | 11 => decide (gt f.2.2.2 = some (.methodLink own x arraycopyName))
    | _ => true
  | _ => true
def mz_sw : Instr → Bool
  | .tableswitch _ _ _ _ => true
  | .lookupswitch _ _ => true
  | _ => false
def mz_eok (T : List mz_R) (cl : List vw_C) (NM : List String) (ST : List (String × Nat × String)) (gt : Nat → Option Jvm.Cond) (own : String) (b : ByteArray) (q : mz_E) : Bool := decide (decode b q.1 = .ok (q.2.1, q.2.2.1)) && (q.2.2.1 == mz_ln q.2.1 || mz_sw q.2.1) && mz_lk T cl NM ST gt own q.2.1 q.2.2.2
/-- the library's own words: abs, max, min, arraycopy -/
def mz_pw : List Jvm.Cond := [.static Lib.Math.abs.name, .static Lib.Math.max.name, .static Lib.Math.min.name, .initialized "java/lang/Math", .code Lib.Math.abs.name Lib.Math.abs.code 1 (some .int), .code Lib.Math.max.name Lib.Math.max.code 2 (some .int), .code Lib.Math.min.name Lib.Math.min.code 2 (some .int), .native arraycopyName, .static arraycopyName, .initialized "java/lang/System"]
/-- what a frame stands on -/
def mz_Fix (p : Program) (R : Room) (s : State) (m : MethodId) (args : Array Value) (c : Code) (cells slots : Nat) (S0 : mz_Sh) (T0 : List (List Int32)) (T : List mz_R) (cl : List vw_C) (NM : List String) (ST : List (String × Nat × String)) (G0 : List Jvm.Cond) (gt : Nat → Option Jvm.Cond) (D : va_G) (cI : ClassId) (ad : Nat → Nat) (A : Nat → Prop) (nL Ln : Nat) (xs : Nat → Int32) (own : String) (cc : ByteArray) : Prop :=
  (p.tables.exec = Jvm.exec ∧ c.code = cc ∧ c.maxLocals = nL ∧ s.vm.findClass own = some m.cls ∧ (∀ w ∈ mz_G G0, w.before args s = true)) ∧
  (va_K D cl [(cI, .int)] s ∧ (∀ mm, va_D A (mz_w S0 cI ad mm)) ∧ (∀ q, s.heap.size ≤ q → A q) ∧ mz_rok T0 NM ST G0 ad Ln xs A s s.heap) ∧
  (1 ≤ R.frames ∧ 64 ≤ R.locals ∧ cells ≤ R.cells ∧ slots ≤ R.slots) ∧
  ((∀ (k : Nat) (q : vw_C), cl[k]? = some q → mz_cok G0 q) ∧ mz_sok S0 cl ∧ (∀ w ∈ mz_pw, w ∈ mz_G G0) ∧ S0.length ≤ 1000 ∧ NM.length = T0.length ∧ T0.length ≤ 1000 ∧ ∀ (i : Nat) (w : Jvm.Cond), gt i = some w → w ∈ G0)
theorem mz_Gi {p : Program} {R : Room} {s : State} {m : MethodId} {args : Array Value} {c : Code} {cells slots : Nat} {S0 : mz_Sh} {T0 : List (List Int32)} {T : List mz_R} {cl : List vw_C} {NM : List String} {ST : List (String × Nat × String)} {G0 : List Jvm.Cond} {gt : Nat → Option Jvm.Cond} {D : va_G} {cI : ClassId} {ad : Nat → Nat} {A : Nat → Prop} {nL Ln : Nat} {xs : Nat → Int32} {own : String} {cc : ByteArray} (F : mz_Fix p R s m args c cells slots S0 T0 T cl NM ST G0 gt D cI ad A nL Ln xs own cc) {w : Jvm.Cond} {i : Nat} (h : gt i = some w) (hg : goodWord w = true) : w ∈ mz_G G0 := mz_G_in (F.2.2.2.2.2.2.2.2.2 i w h) hg
/-- the locals -/
def mz_ls (ad : Nat → Nat) (L : List (Option Value)) (ls : Array Slot) (nL : Nat) : Prop := ls.size = nL ∧ lv_wf ls ∧ L.length = nL ∧ ∀ (i : Nat) (v : Value), L[i]? = some (some v) → ls[i]? = some (.val (mz_cvv ad v))
def mz_Z (p : Program) (l : Launch) (e : Env) (R : Room) (s : State) (m : MethodId) (args : Array Value) (below : List Frame) (meth : Method) (c : Code) (cells slots : Nat) (Q : State → Prop) (S0 : mz_Sh) (cl : List vw_C) (D : va_G) (cI : ClassId) (ad : Nat → Nat) (A : Nat → Prop) (nL Ln : Nat) (xs : Nat → Int32) (pc : Nat) (L : List (Option Value)) (S : List Value) (mem : mz_M) : Prop :=
  ∀ (ls : Array Slot) (H : Heap) (locs : List Loc), mz_ls ad L ls nL → va_P D cl (mz_w S0 cI ad mem) H → va_S A s.heap H locs → mz_scr xs Ln mem → W p l e R s m args below meth c H locs cells slots Q (F0 m pc ls (S.map (mz_cvv ad)))
theorem mz_ld_at {L : List (Option Value)} {i : Nat} {v : Value} (h : mz_ld L i = some v) : L[i]? = some (some v) := by
  unfold mz_ld at h
  split at h
  · rename_i w hw
    cases h
    exact hw
  · cases h
def mz_lv (ad : Nat → Nat) (L : List (Option Value)) : List (Nat × Value) := (L.zipIdx).filterMap fun q => q.1.map fun v => (q.2, mz_cvv ad v)
theorem mz_lv_mem {ad : Nat → Nat} {L : List (Option Value)} {i : Nat} {v : Value} : (i, v) ∈ mz_lv ad L ↔ ∃ w, L[i]? = some (some w) ∧ v = mz_cvv ad w := by
  unfold mz_lv
  rw [List.mem_filterMap]
  constructor
  · rintro ⟨⟨o, k⟩, hm, hq⟩
    rw [List.mem_zipIdx_iff_getElem?] at hm
    cases o with
    | none => simp at hq
    | some w =>
      simp at hq
      obtain ⟨rfl, rfl⟩ := hq
      exact ⟨w, hm, rfl⟩
  · rintro ⟨w, hw, rfl⟩
    exact ⟨(some w, i), List.mem_zipIdx_iff_getElem?.mpr hw, by simp⟩
theorem mz_ls_has {ad : Nat → Nat} {L : List (Option Value)} {ls : Array Slot} {nL : Nat} (h : mz_ls ad L ls nL) : lv_has ls nL (mz_lv ad L) := by
  refine ⟨h.1, h.2.1, fun q hq => ?_⟩
  obtain ⟨i, v⟩ := q
  obtain ⟨w, hw, rfl⟩ := mz_lv_mem.mp hq
  exact h.2.2.2 i w hw
theorem mz_ls_st {ad : Nat → Nat} {L : List (Option Value)} {ls ls' : Array Slot} {nL i : Nat} {v : Value} (h : mz_ls ad L ls nL) (hi : i < L.length) (h' : lv_has ls' nL ((i, mz_cvv ad v) :: (mz_lv ad L).filter (fun q => !(q.1 == i) && !(q.1 + 1 == i && q.2.category == 2)))) : mz_ls ad (mz_st L i v) ls' nL := by
  have hlen : (mz_st L i v).length = L.length := by
    unfold mz_st
    cases i with
    | zero => simp
    | succ j =>
      show ((cond (mz_long L[j]?) (L.set j none) L).set (j + 1) (some v)).length = L.length
      rw [List.length_set]
      cases mz_long L[j]?
      · rfl
      · exact List.length_set
  refine ⟨h'.1, h'.2.1, hlen.trans h.2.2.1, fun k w hk => ?_⟩
  by_cases hki : k = i
  · subst hki
    have hv : w = v := by
      unfold mz_st at hk
      cases k with
      | zero =>
        rw [List.getElem?_set_self hi] at hk
        exact (Option.some.inj (Option.some.inj hk)).symm
      | succ j =>
        rw [List.getElem?_set_self (by cases mz_long L[j]? <;> simpa using hi)] at hk
        exact (Option.some.inj (Option.some.inj hk)).symm
    subst hv
    exact h'.2.2 (k, mz_cvv ad w) List.mem_cons_self
  · have hL : L[k]? = some (some w) ∧ ¬ (k + 1 = i ∧ w.category = 2) := by
      unfold mz_st at hk
      cases i with
      | zero =>
        rw [List.getElem?_set_ne (fun q => hki q.symm)] at hk
        exact ⟨hk, fun q => by omega⟩
      | succ j =>
        rw [List.getElem?_set_ne (fun q => hki q.symm)] at hk
        cases hlg : mz_long L[j]? with
        | false =>
          rw [hlg] at hk
          refine ⟨hk, fun q => ?_⟩
          have hkj : k = j := by omega
          subst hkj
          rw [show L[k]? = some (some w) from hk] at hlg
          exact absurd q.2 (by simpa [mz_long] using hlg)
        | true =>
          rw [hlg] at hk
          simp only [cond_true] at hk
          by_cases hkj : k = j
          · subst hkj
            have hlt : k < L.length := by omega
            rw [List.getElem?_set_self hlt] at hk
            cases hk
          · rw [List.getElem?_set_ne (fun q => hkj q.symm)] at hk
            exact ⟨hk, fun q => hkj (by omega)⟩
    refine h'.2.2 (k, mz_cvv ad w) (List.mem_cons_of_mem _ (List.mem_filter.mpr ⟨mz_lv_mem.mpr ⟨w, hL.1, rfl⟩, ?_⟩))
    have h1 : (k == i) = false := by simpa using hki
    simp only [h1, Bool.not_false, Bool.true_and, mz_cvv_cat]
    by_cases h2 : k + 1 = i
    · have h3 : ¬ w.category = 2 := fun q => hL.2 ⟨h2, q⟩
      simp [h3]
    · simp [h2]

theorem mz_cond {α : Type} {b : Bool} {x : Option α} {y : α} (h : cond b x none = some y) : b = true ∧ x = some y := by
  cases b
  · cases h
  · exact ⟨rfl, h⟩
theorem mz_condn {α : Type} {b : Bool} {x : Option α} {y : α} (h : cond b none x = some y) : b = false ∧ x = some y := by
  cases b
  · exact ⟨rfl, h⟩
  · cases h
theorem mz_isT_spec {i : Nat} (h : mz_isT i = true) : 2000 ≤ i ∧ i < 2004 := by simpa [mz_isT] using h
theorem mz_isT_k {i : Nat} (h : mz_isT i = true) : ∃ j, j < 4 ∧ i = 2000 + j := ⟨i - 2000, by have := mz_isT_spec h; omega, by have := mz_isT_spec h; omega⟩
theorem mz_isB_k {i : Nat} (h : mz_isB i = true) : ∃ j, j < 4 ∧ i = 2100 + j := by
  have h1 : 2100 ≤ i ∧ i < 2104 := by simpa [mz_isB] using h
  exact ⟨i - 2100, by omega, by omega⟩
theorem mz_isR_no {j : Nat} (hj : j < 4) : mz_isR (2100 + j) = true := by
  simp [mz_isR]
  omega
theorem mz_tg_ok {pc : Nat} {off : Int} (h : mz_ok pc off = true) : (pc : Int) + off = ((mz_tg pc off : Nat) : Int) := by
  unfold mz_ok at h
  unfold mz_tg
  rw [Int.toNat_of_nonneg (of_decide_eq_true h)]
theorem mz_in_of {j : Int32} {n : Nat} (h : mz_in j n = true) : vp_in j n := by
  unfold mz_in at h
  unfold vp_in
  simpa using h
theorem mz_cat_map (ad : Nat → Nat) (S : List Value) : ((S.map (mz_cvv ad)).map fun v => v.category).sum = mz_cat S := by
  unfold mz_cat
  rw [List.map_map]
  congr 1
  apply List.map_congr_left
  intro v _
  exact mz_cvv_cat ad v
theorem mz_scr_up {xs : Nat → Int32} {Ln : Nat} {m : mz_M} {i k : Nat} {v : Int32} (hi : i < 1000) (h : mz_scr xs Ln m) : mz_scr xs Ln (mz_up m i k v) := by
  refine ⟨fun j => ?_, ?_, h.2.2⟩
  · rw [mz_up_ne (by omega)]; exact h.1 j
  · rw [mz_up_ne (by omega)]; exact h.2.1
theorem mz_scr_cp {xs : Nat → Int32} {Ln : Nat} {m : mz_M} {i j sp dp n : Nat} (hi : i < 1000) (h : mz_scr xs Ln m) : mz_scr xs Ln (mz_cp m i j sp dp n) := by
  refine ⟨fun j => ?_, ?_, h.2.2⟩
  · rw [mz_cp_ne (by omega)]; exact h.1 j
  · rw [mz_cp_ne (by omega)]; exact h.2.1
theorem mz_w_arr {S0 : mz_Sh} {cI : ClassId} {ad : Nat → Nat} {m : mz_M} {i n : Nat} (h : S0[i]? = some (.inl n)) : (mz_w S0 cI ad m)[i]? = some (ad i, .inl (cI, n, .inl (m i))) := by
  rw [mz_w_at (mz_lt h), mz_cell, h]
theorem mz_w_obj {S0 : mz_Sh} {cI : ClassId} {ad : Nat → Nat} {m : mz_M} {i c : Nat} {fs : List Nat} (h : S0[i]? = some (.inr (c, fs))) : (mz_w S0 cI ad m)[i]? = some (ad i, .inr (c, fs.mapIdx (mz_fv ad m i))) := by
  rw [mz_w_at (mz_lt h), mz_cell, h]
theorem mz_get_spec {S0 : mz_Sh} {ad : Nat → Nat} {m : mz_M} {ci k i : Nat} {v : Value} (h : mz_get S0 m ci k i = some v) : ∃ fs, S0[i]? = some (.inr (ci, fs)) ∧ (fs.mapIdx (mz_fv ad m i))[k]? = some (mz_cvv ad v) := by
  unfold mz_get at h
  split at h
  · rename_i c fs hq
    obtain ⟨hb, h2⟩ := mz_cond h
    clear h
    have hc : c = ci := by simpa using hb
    subst hc
    refine ⟨fs, hq, ?_⟩
    rw [List.getElem?_mapIdx]
    split at h2
    · rename_i hk; rw [hk]; cases h2; rfl
    · rename_i hk; rw [hk]; cases h2; rfl
    · rename_i hk; rw [hk]; cases h2; rfl
    · rename_i hk; rw [hk]; cases h2; rfl
    · cases h2
  · cases h
theorem mz_put_spec {S0 : mz_Sh} {m m' : mz_M} {ci k i : Nat} {v : Value} (h : mz_put S0 m ci k i v = some m') : ∃ fs f x, S0[i]? = some (.inr (ci, fs)) ∧ fs[k]? = some f ∧ m' = mz_up m i k x ∧ ((f = 0 ∧ v = .int x) ∨ (f = 1 ∧ v = .int x ∧ (x = 0 ∨ x = 1)) ∨ (f = 2 ∧ ∃ r : Nat, v = .ref r ∧ r < 2004 ∧ x = nI r)) := by
  unfold mz_put at h
  split at h
  · rename_i c fs hq
    obtain ⟨hb, h2⟩ := mz_cond h
    clear h
    have hc : c = ci := by simpa using hb
    subst hc
    split at h2
    · rename_i x hk
      cases h2
      exact ⟨fs, 0, x, hq, hk, rfl, Or.inl ⟨rfl, rfl⟩⟩
    · rename_i x hk
      obtain ⟨hb2, h3⟩ := mz_cond h2
      clear h2
      cases h3
      exact ⟨fs, 1, x, hq, hk, rfl, Or.inr (Or.inl ⟨rfl, rfl, by simpa using hb2⟩)⟩
    · rename_i r hk
      obtain ⟨hb2, h3⟩ := mz_cond h2
      clear h2
      cases h3
      exact ⟨fs, 2, _, hq, hk, rfl, Or.inr (Or.inr ⟨rfl, r, rfl, (mz_isT_spec hb2).2, rfl⟩)⟩
    · cases h2
  · cases h
theorem mz_put_cell {S0 : mz_Sh} {cI : ClassId} {ad : Nat → Nat} {m : mz_M} {i ci k f : Nat} {fs : List Nat} {x : Int32} (h : S0[i]? = some (.inr (ci, fs))) (hk : fs[k]? = some f) : (mz_w S0 cI ad m).set i (ad i, .inr (ci, (fs.mapIdx (mz_fv ad m i)).set k (mz_fv ad (mz_up m i k x) i k f))) = mz_w S0 cI ad (mz_up m i k x) := by
  refine mz_w_set (mz_lt h) _ ?_ (fun j hj => mz_cell_ne (mz_up_ne hj))
  rw [mz_cell, h]
  refine congrArg (fun z => (Sum.inr (ci, z) : va_E)) ?_
  apply List.ext_getElem?
  intro j
  rw [List.getElem?_mapIdx]
  by_cases hj : k = j
  · subst hj
    rw [hk, List.getElem?_set_self (by rw [List.length_mapIdx]; exact (List.getElem?_eq_some_iff.mp hk).1)]
    rfl
  · rw [List.getElem?_set_ne hj, List.getElem?_mapIdx]
    congr 1
    funext g
    unfold mz_fv
    rw [mz_up_eq, if_neg (fun q => hj q.symm)]
theorem mz_arr_cell {S0 : mz_Sh} {cI : ClassId} {ad : Nat → Nat} {m m' : mz_M} {i n : Nat} {g : Nat → Int32} (h : S0[i]? = some (.inl n)) (hg : m' i = g) (ho : ∀ j, j ≠ i → m' j = m j) : (mz_w S0 cI ad m).set i (ad i, .inl (cI, n, .inl g)) = mz_w S0 cI ad m' := by
  refine mz_w_set (mz_lt h) _ ?_ (fun j hj => mz_cell_ne (ho j hj))
  rw [mz_cell, h, hg]

/-- a text by the wide instruction -/
theorem mz_ldcwStr {p : Program} {l : Launch} {e : Env} {R : Room} {s : State} {m : MethodId} {args : Array Value} {below : List Frame} {meth : Method} {c : Code} {T : State} {locs : List Loc} {cells slots : Nat}
    (X : Stand p l e R s m args below meth c T locs cells slots) (hexec : p.tables.exec = Jvm.exec) {own text : String} {index : Nat} {a : Addr} (hown : s.vm.findClass own = some m.cls)
    (hconst : (Jvm.Cond.stringRef own index text).before args s = true) (hev : (Term.string own index).eval args s none [] s = some (.ref a)) {g : JFrame} (hg : g.method = m) (hdg : decode c.code g.pc = .ok (.ldc_w index, 3)) :
    ∀ target, Steps p.tables e below (T.setTop { g with pc := g.pc + 3, stack := .ref a :: g.stack }) target → Steps p.tables e below (T.setTop g) target := by
  obtain ⟨k, cf, i, a', hk, hcf, hcp, -, hr, hev'⟩ := Cond.stringRef_spec hown hconst
  cases hev.symm.trans hev'
  obtain ⟨k', hk', he⟩ := X.warmed.alike.2.2 _ _ hk
  have hr' : k'.resolved[index]? = some (some (.string a)) := by
    rcases X.warmed.entry hk hk' index with h | ⟨h, -⟩
    · rw [h]; exact hr
    · rw [hr] at h; cases h
  obtain ⟨units, hu⟩ : ∃ u : Array UInt16, True := ⟨#[], trivial⟩
  intro target hrest
  subst hg
  jvm_step X.here [hexec, hdg, ldc_w.wp_string (e := e) (s := T) (f := g) X.here.top hk' (by rw [he]; exact hcf) hcp hr']
  exact hrest
theorem mz_ldcwS {p : Program} {l : Launch} {e : Env} {R : Room} {s : State} {m : MethodId} {args : Array Value} {below : List Frame} {meth : Method} {c : Code} {H : Heap} {locs : List Loc} {cells slots : Nat} {Q : State → Prop} {cc : ByteArray} {pc : Nat} {ls : Array Slot} {rest : List Value} (hexec : p.tables.exec = Jvm.exec) (hb : c.code = cc) {own tx : String} {index q : Nat} (hown : s.vm.findClass own = some m.cls) (hZ : vk_R own index tx q s) (hdg : decode cc pc = .ok (.ldc_w index, 3))
    (k : W p l e R s m args below meth c H locs cells slots Q (F0 m (pc + 3) ls (.ref q :: rest))) : W p l e R s m args below meth c H locs cells slots Q (F0 m pc ls rest) := by
  intro T hT X
  obtain ⟨t, a1, b1⟩ := k T hT X
  exact ⟨t, mz_ldcwStr X hexec hown (text := tx) (a := q) hZ.1 hZ.2 (g := F0 m pc ls rest) rfl (by rw [hb]; exact hdg) t a1, b1⟩

set_option maxHeartbeats 1000000 in
theorem mz_w_iadd {p : Program} {l : Launch} {e : Env} {R : Room} {s : State} {m : MethodId} {args : Array Value} {below : List Frame} {meth : Method} {c : Code} {cells slots : Nat} {Q : State → Prop} {S0 : mz_Sh} {T0 : List (List Int32)} {T : List mz_R} {cl : List vw_C} {NM : List String} {ST : List (String × Nat × String)} {G0 : List Jvm.Cond} {gt : Nat → Option Jvm.Cond} {D : va_G} {cI : ClassId} {ad : Nat → Nat} {A : Nat → Prop} {nL Ln : Nat} {xs : Nat → Int32} {own : String} {cc : ByteArray} (F : mz_Fix p R s m args c cells slots S0 T0 T cl NM ST G0 gt D cI ad A nL Ln xs own cc) {pc : Nat} {L : List (Option Value)} {S : List Value} {mem : mz_M} {f : mz_I} {c1 : mz_C} (hd : decode cc pc = .ok (.iadd, 1)) (hl : mz_lk T cl NM ST gt own (.iadd) f = true) (hs : mz_step S0 T0 (.iadd) f pc L S mem = some (.inl c1)) (k : mz_Z p l e R s m args below meth c cells slots Q S0 cl D cI ad A nL Ln xs c1.1 c1.2.1 c1.2.2.1 c1.2.2.2) : mz_Z p l e R s m args below meth c cells slots Q S0 cl D cI ad A nL Ln xs pc L S mem := by
  simp only [mz_step, mz_next] at hs
  split at hs
  · cases hs
    exact fun ls H locs h1 h2 h3 h4 => lv_iadd F.1.1 F.1.2.1 hd (k ls H locs h1 h2 h3 h4)
  · cases hs

set_option maxHeartbeats 1000000 in
theorem mz_w_isub {p : Program} {l : Launch} {e : Env} {R : Room} {s : State} {m : MethodId} {args : Array Value} {below : List Frame} {meth : Method} {c : Code} {cells slots : Nat} {Q : State → Prop} {S0 : mz_Sh} {T0 : List (List Int32)} {T : List mz_R} {cl : List vw_C} {NM : List String} {ST : List (String × Nat × String)} {G0 : List Jvm.Cond} {gt : Nat → Option Jvm.Cond} {D : va_G} {cI : ClassId} {ad : Nat → Nat} {A : Nat → Prop} {nL Ln : Nat} {xs : Nat → Int32} {own : String} {cc : ByteArray} (F : mz_Fix p R s m args c cells slots S0 T0 T cl NM ST G0 gt D cI ad A nL Ln xs own cc) {pc : Nat} {L : List (Option Value)} {S : List Value} {mem : mz_M} {f : mz_I} {c1 : mz_C} (hd : decode cc pc = .ok (.isub, 1)) (hl : mz_lk T cl NM ST gt own (.isub) f = true) (hs : mz_step S0 T0 (.isub) f pc L S mem = some (.inl c1)) (k : mz_Z p l e R s m args below meth c cells slots Q S0 cl D cI ad A nL Ln xs c1.1 c1.2.1 c1.2.2.1 c1.2.2.2) : mz_Z p l e R s m args below meth c cells slots Q S0 cl D cI ad A nL Ln xs pc L S mem := by
  simp only [mz_step, mz_next] at hs
  split at hs
  · cases hs
    exact fun ls H locs h1 h2 h3 h4 => lv_isub F.1.1 F.1.2.1 hd (k ls H locs h1 h2 h3 h4)
  · cases hs

set_option maxHeartbeats 1000000 in
theorem mz_w_imul {p : Program} {l : Launch} {e : Env} {R : Room} {s : State} {m : MethodId} {args : Array Value} {below : List Frame} {meth : Method} {c : Code} {cells slots : Nat} {Q : State → Prop} {S0 : mz_Sh} {T0 : List (List Int32)} {T : List mz_R} {cl : List vw_C} {NM : List String} {ST : List (String × Nat × String)} {G0 : List Jvm.Cond} {gt : Nat → Option Jvm.Cond} {D : va_G} {cI : ClassId} {ad : Nat → Nat} {A : Nat → Prop} {nL Ln : Nat} {xs : Nat → Int32} {own : String} {cc : ByteArray} (F : mz_Fix p R s m args c cells slots S0 T0 T cl NM ST G0 gt D cI ad A nL Ln xs own cc) {pc : Nat} {L : List (Option Value)} {S : List Value} {mem : mz_M} {f : mz_I} {c1 : mz_C} (hd : decode cc pc = .ok (.imul, 1)) (hl : mz_lk T cl NM ST gt own (.imul) f = true) (hs : mz_step S0 T0 (.imul) f pc L S mem = some (.inl c1)) (k : mz_Z p l e R s m args below meth c cells slots Q S0 cl D cI ad A nL Ln xs c1.1 c1.2.1 c1.2.2.1 c1.2.2.2) : mz_Z p l e R s m args below meth c cells slots Q S0 cl D cI ad A nL Ln xs pc L S mem := by
  simp only [mz_step, mz_next] at hs
  split at hs
  · cases hs
    exact fun ls H locs h1 h2 h3 h4 => lv_imul F.1.1 F.1.2.1 hd (k ls H locs h1 h2 h3 h4)
  · cases hs

set_option maxHeartbeats 1000000 in
theorem mz_w_ineg {p : Program} {l : Launch} {e : Env} {R : Room} {s : State} {m : MethodId} {args : Array Value} {below : List Frame} {meth : Method} {c : Code} {cells slots : Nat} {Q : State → Prop} {S0 : mz_Sh} {T0 : List (List Int32)} {T : List mz_R} {cl : List vw_C} {NM : List String} {ST : List (String × Nat × String)} {G0 : List Jvm.Cond} {gt : Nat → Option Jvm.Cond} {D : va_G} {cI : ClassId} {ad : Nat → Nat} {A : Nat → Prop} {nL Ln : Nat} {xs : Nat → Int32} {own : String} {cc : ByteArray} (F : mz_Fix p R s m args c cells slots S0 T0 T cl NM ST G0 gt D cI ad A nL Ln xs own cc) {pc : Nat} {L : List (Option Value)} {S : List Value} {mem : mz_M} {f : mz_I} {c1 : mz_C} (hd : decode cc pc = .ok (.ineg, 1)) (hl : mz_lk T cl NM ST gt own (.ineg) f = true) (hs : mz_step S0 T0 (.ineg) f pc L S mem = some (.inl c1)) (k : mz_Z p l e R s m args below meth c cells slots Q S0 cl D cI ad A nL Ln xs c1.1 c1.2.1 c1.2.2.1 c1.2.2.2) : mz_Z p l e R s m args below meth c cells slots Q S0 cl D cI ad A nL Ln xs pc L S mem := by
  simp only [mz_step, mz_next] at hs
  split at hs
  · cases hs
    exact fun ls H locs h1 h2 h3 h4 => lv_ineg F.1.1 F.1.2.1 hd (k ls H locs h1 h2 h3 h4)
  · cases hs

set_option maxHeartbeats 1000000 in
theorem mz_w_iand {p : Program} {l : Launch} {e : Env} {R : Room} {s : State} {m : MethodId} {args : Array Value} {below : List Frame} {meth : Method} {c : Code} {cells slots : Nat} {Q : State → Prop} {S0 : mz_Sh} {T0 : List (List Int32)} {T : List mz_R} {cl : List vw_C} {NM : List String} {ST : List (String × Nat × String)} {G0 : List Jvm.Cond} {gt : Nat → Option Jvm.Cond} {D : va_G} {cI : ClassId} {ad : Nat → Nat} {A : Nat → Prop} {nL Ln : Nat} {xs : Nat → Int32} {own : String} {cc : ByteArray} (F : mz_Fix p R s m args c cells slots S0 T0 T cl NM ST G0 gt D cI ad A nL Ln xs own cc) {pc : Nat} {L : List (Option Value)} {S : List Value} {mem : mz_M} {f : mz_I} {c1 : mz_C} (hd : decode cc pc = .ok (.iand, 1)) (hl : mz_lk T cl NM ST gt own (.iand) f = true) (hs : mz_step S0 T0 (.iand) f pc L S mem = some (.inl c1)) (k : mz_Z p l e R s m args below meth c cells slots Q S0 cl D cI ad A nL Ln xs c1.1 c1.2.1 c1.2.2.1 c1.2.2.2) : mz_Z p l e R s m args below meth c cells slots Q S0 cl D cI ad A nL Ln xs pc L S mem := by
  simp only [mz_step, mz_next] at hs
  split at hs
  · cases hs
    exact fun ls H locs h1 h2 h3 h4 => lv_iand F.1.1 F.1.2.1 hd (k ls H locs h1 h2 h3 h4)
  · cases hs

set_option maxHeartbeats 1000000 in
theorem mz_w_ior {p : Program} {l : Launch} {e : Env} {R : Room} {s : State} {m : MethodId} {args : Array Value} {below : List Frame} {meth : Method} {c : Code} {cells slots : Nat} {Q : State → Prop} {S0 : mz_Sh} {T0 : List (List Int32)} {T : List mz_R} {cl : List vw_C} {NM : List String} {ST : List (String × Nat × String)} {G0 : List Jvm.Cond} {gt : Nat → Option Jvm.Cond} {D : va_G} {cI : ClassId} {ad : Nat → Nat} {A : Nat → Prop} {nL Ln : Nat} {xs : Nat → Int32} {own : String} {cc : ByteArray} (F : mz_Fix p R s m args c cells slots S0 T0 T cl NM ST G0 gt D cI ad A nL Ln xs own cc) {pc : Nat} {L : List (Option Value)} {S : List Value} {mem : mz_M} {f : mz_I} {c1 : mz_C} (hd : decode cc pc = .ok (.ior, 1)) (hl : mz_lk T cl NM ST gt own (.ior) f = true) (hs : mz_step S0 T0 (.ior) f pc L S mem = some (.inl c1)) (k : mz_Z p l e R s m args below meth c cells slots Q S0 cl D cI ad A nL Ln xs c1.1 c1.2.1 c1.2.2.1 c1.2.2.2) : mz_Z p l e R s m args below meth c cells slots Q S0 cl D cI ad A nL Ln xs pc L S mem := by
  simp only [mz_step, mz_next] at hs
  split at hs
  · cases hs
    exact fun ls H locs h1 h2 h3 h4 => lv_ior F.1.1 F.1.2.1 hd (k ls H locs h1 h2 h3 h4)
  · cases hs

set_option maxHeartbeats 1000000 in
theorem mz_w_ixor {p : Program} {l : Launch} {e : Env} {R : Room} {s : State} {m : MethodId} {args : Array Value} {below : List Frame} {meth : Method} {c : Code} {cells slots : Nat} {Q : State → Prop} {S0 : mz_Sh} {T0 : List (List Int32)} {T : List mz_R} {cl : List vw_C} {NM : List String} {ST : List (String × Nat × String)} {G0 : List Jvm.Cond} {gt : Nat → Option Jvm.Cond} {D : va_G} {cI : ClassId} {ad : Nat → Nat} {A : Nat → Prop} {nL Ln : Nat} {xs : Nat → Int32} {own : String} {cc : ByteArray} (F : mz_Fix p R s m args c cells slots S0 T0 T cl NM ST G0 gt D cI ad A nL Ln xs own cc) {pc : Nat} {L : List (Option Value)} {S : List Value} {mem : mz_M} {f : mz_I} {c1 : mz_C} (hd : decode cc pc = .ok (.ixor, 1)) (hl : mz_lk T cl NM ST gt own (.ixor) f = true) (hs : mz_step S0 T0 (.ixor) f pc L S mem = some (.inl c1)) (k : mz_Z p l e R s m args below meth c cells slots Q S0 cl D cI ad A nL Ln xs c1.1 c1.2.1 c1.2.2.1 c1.2.2.2) : mz_Z p l e R s m args below meth c cells slots Q S0 cl D cI ad A nL Ln xs pc L S mem := by
  simp only [mz_step, mz_next] at hs
  split at hs
  · cases hs
    exact fun ls H locs h1 h2 h3 h4 => lv_ixor F.1.1 F.1.2.1 hd (k ls H locs h1 h2 h3 h4)
  · cases hs

set_option maxHeartbeats 1000000 in
theorem mz_w_ishl {p : Program} {l : Launch} {e : Env} {R : Room} {s : State} {m : MethodId} {args : Array Value} {below : List Frame} {meth : Method} {c : Code} {cells slots : Nat} {Q : State → Prop} {S0 : mz_Sh} {T0 : List (List Int32)} {T : List mz_R} {cl : List vw_C} {NM : List String} {ST : List (String × Nat × String)} {G0 : List Jvm.Cond} {gt : Nat → Option Jvm.Cond} {D : va_G} {cI : ClassId} {ad : Nat → Nat} {A : Nat → Prop} {nL Ln : Nat} {xs : Nat → Int32} {own : String} {cc : ByteArray} (F : mz_Fix p R s m args c cells slots S0 T0 T cl NM ST G0 gt D cI ad A nL Ln xs own cc) {pc : Nat} {L : List (Option Value)} {S : List Value} {mem : mz_M} {f : mz_I} {c1 : mz_C} (hd : decode cc pc = .ok (.ishl, 1)) (hl : mz_lk T cl NM ST gt own (.ishl) f = true) (hs : mz_step S0 T0 (.ishl) f pc L S mem = some (.inl c1)) (k : mz_Z p l e R s m args below meth c cells slots Q S0 cl D cI ad A nL Ln xs c1.1 c1.2.1 c1.2.2.1 c1.2.2.2) : mz_Z p l e R s m args below meth c cells slots Q S0 cl D cI ad A nL Ln xs pc L S mem := by
  simp only [mz_step, mz_next] at hs
  split at hs
  · cases hs
    exact fun ls H locs h1 h2 h3 h4 => lv_ishl F.1.1 F.1.2.1 hd (k ls H locs h1 h2 h3 h4)
  · cases hs

set_option maxHeartbeats 1000000 in
theorem mz_w_ishr {p : Program} {l : Launch} {e : Env} {R : Room} {s : State} {m : MethodId} {args : Array Value} {below : List Frame} {meth : Method} {c : Code} {cells slots : Nat} {Q : State → Prop} {S0 : mz_Sh} {T0 : List (List Int32)} {T : List mz_R} {cl : List vw_C} {NM : List String} {ST : List (String × Nat × String)} {G0 : List Jvm.Cond} {gt : Nat → Option Jvm.Cond} {D : va_G} {cI : ClassId} {ad : Nat → Nat} {A : Nat → Prop} {nL Ln : Nat} {xs : Nat → Int32} {own : String} {cc : ByteArray} (F : mz_Fix p R s m args c cells slots S0 T0 T cl NM ST G0 gt D cI ad A nL Ln xs own cc) {pc : Nat} {L : List (Option Value)} {S : List Value} {mem : mz_M} {f : mz_I} {c1 : mz_C} (hd : decode cc pc = .ok (.ishr, 1)) (hl : mz_lk T cl NM ST gt own (.ishr) f = true) (hs : mz_step S0 T0 (.ishr) f pc L S mem = some (.inl c1)) (k : mz_Z p l e R s m args below meth c cells slots Q S0 cl D cI ad A nL Ln xs c1.1 c1.2.1 c1.2.2.1 c1.2.2.2) : mz_Z p l e R s m args below meth c cells slots Q S0 cl D cI ad A nL Ln xs pc L S mem := by
  simp only [mz_step, mz_next] at hs
  split at hs
  · cases hs
    exact fun ls H locs h1 h2 h3 h4 => lv_ishr F.1.1 F.1.2.1 hd (k ls H locs h1 h2 h3 h4)
  · cases hs

set_option maxHeartbeats 1000000 in
theorem mz_w_land {p : Program} {l : Launch} {e : Env} {R : Room} {s : State} {m : MethodId} {args : Array Value} {below : List Frame} {meth : Method} {c : Code} {cells slots : Nat} {Q : State → Prop} {S0 : mz_Sh} {T0 : List (List Int32)} {T : List mz_R} {cl : List vw_C} {NM : List String} {ST : List (String × Nat × String)} {G0 : List Jvm.Cond} {gt : Nat → Option Jvm.Cond} {D : va_G} {cI : ClassId} {ad : Nat → Nat} {A : Nat → Prop} {nL Ln : Nat} {xs : Nat → Int32} {own : String} {cc : ByteArray} (F : mz_Fix p R s m args c cells slots S0 T0 T cl NM ST G0 gt D cI ad A nL Ln xs own cc) {pc : Nat} {L : List (Option Value)} {S : List Value} {mem : mz_M} {f : mz_I} {c1 : mz_C} (hd : decode cc pc = .ok (.land, 1)) (hl : mz_lk T cl NM ST gt own (.land) f = true) (hs : mz_step S0 T0 (.land) f pc L S mem = some (.inl c1)) (k : mz_Z p l e R s m args below meth c cells slots Q S0 cl D cI ad A nL Ln xs c1.1 c1.2.1 c1.2.2.1 c1.2.2.2) : mz_Z p l e R s m args below meth c cells slots Q S0 cl D cI ad A nL Ln xs pc L S mem := by
  simp only [mz_step, mz_next] at hs
  split at hs
  · cases hs
    exact fun ls H locs h1 h2 h3 h4 => lv_land F.1.1 F.1.2.1 hd (k ls H locs h1 h2 h3 h4)
  · cases hs

set_option maxHeartbeats 1000000 in
theorem mz_w_lor {p : Program} {l : Launch} {e : Env} {R : Room} {s : State} {m : MethodId} {args : Array Value} {below : List Frame} {meth : Method} {c : Code} {cells slots : Nat} {Q : State → Prop} {S0 : mz_Sh} {T0 : List (List Int32)} {T : List mz_R} {cl : List vw_C} {NM : List String} {ST : List (String × Nat × String)} {G0 : List Jvm.Cond} {gt : Nat → Option Jvm.Cond} {D : va_G} {cI : ClassId} {ad : Nat → Nat} {A : Nat → Prop} {nL Ln : Nat} {xs : Nat → Int32} {own : String} {cc : ByteArray} (F : mz_Fix p R s m args c cells slots S0 T0 T cl NM ST G0 gt D cI ad A nL Ln xs own cc) {pc : Nat} {L : List (Option Value)} {S : List Value} {mem : mz_M} {f : mz_I} {c1 : mz_C} (hd : decode cc pc = .ok (.lor, 1)) (hl : mz_lk T cl NM ST gt own (.lor) f = true) (hs : mz_step S0 T0 (.lor) f pc L S mem = some (.inl c1)) (k : mz_Z p l e R s m args below meth c cells slots Q S0 cl D cI ad A nL Ln xs c1.1 c1.2.1 c1.2.2.1 c1.2.2.2) : mz_Z p l e R s m args below meth c cells slots Q S0 cl D cI ad A nL Ln xs pc L S mem := by
  simp only [mz_step, mz_next] at hs
  split at hs
  · cases hs
    exact fun ls H locs h1 h2 h3 h4 => lv_lor F.1.1 F.1.2.1 hd (k ls H locs h1 h2 h3 h4)
  · cases hs

set_option maxHeartbeats 1000000 in
theorem mz_w_iushr {p : Program} {l : Launch} {e : Env} {R : Room} {s : State} {m : MethodId} {args : Array Value} {below : List Frame} {meth : Method} {c : Code} {cells slots : Nat} {Q : State → Prop} {S0 : mz_Sh} {T0 : List (List Int32)} {T : List mz_R} {cl : List vw_C} {NM : List String} {ST : List (String × Nat × String)} {G0 : List Jvm.Cond} {gt : Nat → Option Jvm.Cond} {D : va_G} {cI : ClassId} {ad : Nat → Nat} {A : Nat → Prop} {nL Ln : Nat} {xs : Nat → Int32} {own : String} {cc : ByteArray} (F : mz_Fix p R s m args c cells slots S0 T0 T cl NM ST G0 gt D cI ad A nL Ln xs own cc) {pc : Nat} {L : List (Option Value)} {S : List Value} {mem : mz_M} {f : mz_I} {c1 : mz_C} (hd : decode cc pc = .ok (.iushr, 1)) (hl : mz_lk T cl NM ST gt own (.iushr) f = true) (hs : mz_step S0 T0 (.iushr) f pc L S mem = some (.inl c1)) (k : mz_Z p l e R s m args below meth c cells slots Q S0 cl D cI ad A nL Ln xs c1.1 c1.2.1 c1.2.2.1 c1.2.2.2) : mz_Z p l e R s m args below meth c cells slots Q S0 cl D cI ad A nL Ln xs pc L S mem := by
  simp only [mz_step, mz_next] at hs
  split at hs
  · cases hs
    exact fun ls H locs h1 h2 h3 h4 => lv_iushr F.1.1 F.1.2.1 hd rfl (k ls H locs h1 h2 h3 h4)
  · cases hs

set_option maxHeartbeats 1000000 in
theorem mz_w_lushr {p : Program} {l : Launch} {e : Env} {R : Room} {s : State} {m : MethodId} {args : Array Value} {below : List Frame} {meth : Method} {c : Code} {cells slots : Nat} {Q : State → Prop} {S0 : mz_Sh} {T0 : List (List Int32)} {T : List mz_R} {cl : List vw_C} {NM : List String} {ST : List (String × Nat × String)} {G0 : List Jvm.Cond} {gt : Nat → Option Jvm.Cond} {D : va_G} {cI : ClassId} {ad : Nat → Nat} {A : Nat → Prop} {nL Ln : Nat} {xs : Nat → Int32} {own : String} {cc : ByteArray} (F : mz_Fix p R s m args c cells slots S0 T0 T cl NM ST G0 gt D cI ad A nL Ln xs own cc) {pc : Nat} {L : List (Option Value)} {S : List Value} {mem : mz_M} {f : mz_I} {c1 : mz_C} (hd : decode cc pc = .ok (.lushr, 1)) (hl : mz_lk T cl NM ST gt own (.lushr) f = true) (hs : mz_step S0 T0 (.lushr) f pc L S mem = some (.inl c1)) (k : mz_Z p l e R s m args below meth c cells slots Q S0 cl D cI ad A nL Ln xs c1.1 c1.2.1 c1.2.2.1 c1.2.2.2) : mz_Z p l e R s m args below meth c cells slots Q S0 cl D cI ad A nL Ln xs pc L S mem := by
  simp only [mz_step, mz_next] at hs
  split at hs
  · cases hs
    exact fun ls H locs h1 h2 h3 h4 => lv_lushr F.1.1 F.1.2.1 hd rfl (k ls H locs h1 h2 h3 h4)
  · cases hs

set_option maxHeartbeats 1000000 in
theorem mz_w_lshl {p : Program} {l : Launch} {e : Env} {R : Room} {s : State} {m : MethodId} {args : Array Value} {below : List Frame} {meth : Method} {c : Code} {cells slots : Nat} {Q : State → Prop} {S0 : mz_Sh} {T0 : List (List Int32)} {T : List mz_R} {cl : List vw_C} {NM : List String} {ST : List (String × Nat × String)} {G0 : List Jvm.Cond} {gt : Nat → Option Jvm.Cond} {D : va_G} {cI : ClassId} {ad : Nat → Nat} {A : Nat → Prop} {nL Ln : Nat} {xs : Nat → Int32} {own : String} {cc : ByteArray} (F : mz_Fix p R s m args c cells slots S0 T0 T cl NM ST G0 gt D cI ad A nL Ln xs own cc) {pc : Nat} {L : List (Option Value)} {S : List Value} {mem : mz_M} {f : mz_I} {c1 : mz_C} (hd : decode cc pc = .ok (.lshl, 1)) (hl : mz_lk T cl NM ST gt own (.lshl) f = true) (hs : mz_step S0 T0 (.lshl) f pc L S mem = some (.inl c1)) (k : mz_Z p l e R s m args below meth c cells slots Q S0 cl D cI ad A nL Ln xs c1.1 c1.2.1 c1.2.2.1 c1.2.2.2) : mz_Z p l e R s m args below meth c cells slots Q S0 cl D cI ad A nL Ln xs pc L S mem := by
  simp only [mz_step, mz_next] at hs
  split at hs
  · cases hs
    exact fun ls H locs h1 h2 h3 h4 => lv_lshl F.1.1 F.1.2.1 hd rfl (k ls H locs h1 h2 h3 h4)
  · cases hs

set_option maxHeartbeats 1000000 in
theorem mz_w_lshr {p : Program} {l : Launch} {e : Env} {R : Room} {s : State} {m : MethodId} {args : Array Value} {below : List Frame} {meth : Method} {c : Code} {cells slots : Nat} {Q : State → Prop} {S0 : mz_Sh} {T0 : List (List Int32)} {T : List mz_R} {cl : List vw_C} {NM : List String} {ST : List (String × Nat × String)} {G0 : List Jvm.Cond} {gt : Nat → Option Jvm.Cond} {D : va_G} {cI : ClassId} {ad : Nat → Nat} {A : Nat → Prop} {nL Ln : Nat} {xs : Nat → Int32} {own : String} {cc : ByteArray} (F : mz_Fix p R s m args c cells slots S0 T0 T cl NM ST G0 gt D cI ad A nL Ln xs own cc) {pc : Nat} {L : List (Option Value)} {S : List Value} {mem : mz_M} {f : mz_I} {c1 : mz_C} (hd : decode cc pc = .ok (.lshr, 1)) (hl : mz_lk T cl NM ST gt own (.lshr) f = true) (hs : mz_step S0 T0 (.lshr) f pc L S mem = some (.inl c1)) (k : mz_Z p l e R s m args below meth c cells slots Q S0 cl D cI ad A nL Ln xs c1.1 c1.2.1 c1.2.2.1 c1.2.2.2) : mz_Z p l e R s m args below meth c cells slots Q S0 cl D cI ad A nL Ln xs pc L S mem := by
  simp only [mz_step, mz_next] at hs
  split at hs
  · cases hs
    exact fun ls H locs h1 h2 h3 h4 => lv_lshr F.1.1 F.1.2.1 hd rfl (k ls H locs h1 h2 h3 h4)
  · cases hs

set_option maxHeartbeats 1000000 in
theorem mz_w_i2l {p : Program} {l : Launch} {e : Env} {R : Room} {s : State} {m : MethodId} {args : Array Value} {below : List Frame} {meth : Method} {c : Code} {cells slots : Nat} {Q : State → Prop} {S0 : mz_Sh} {T0 : List (List Int32)} {T : List mz_R} {cl : List vw_C} {NM : List String} {ST : List (String × Nat × String)} {G0 : List Jvm.Cond} {gt : Nat → Option Jvm.Cond} {D : va_G} {cI : ClassId} {ad : Nat → Nat} {A : Nat → Prop} {nL Ln : Nat} {xs : Nat → Int32} {own : String} {cc : ByteArray} (F : mz_Fix p R s m args c cells slots S0 T0 T cl NM ST G0 gt D cI ad A nL Ln xs own cc) {pc : Nat} {L : List (Option Value)} {S : List Value} {mem : mz_M} {f : mz_I} {c1 : mz_C} (hd : decode cc pc = .ok (.i2l, 1)) (hl : mz_lk T cl NM ST gt own (.i2l) f = true) (hs : mz_step S0 T0 (.i2l) f pc L S mem = some (.inl c1)) (k : mz_Z p l e R s m args below meth c cells slots Q S0 cl D cI ad A nL Ln xs c1.1 c1.2.1 c1.2.2.1 c1.2.2.2) : mz_Z p l e R s m args below meth c cells slots Q S0 cl D cI ad A nL Ln xs pc L S mem := by
  simp only [mz_step, mz_next] at hs
  split at hs
  · cases hs
    exact fun ls H locs h1 h2 h3 h4 => lv_i2l F.1.1 F.1.2.1 hd rfl (k ls H locs h1 h2 h3 h4)
  · cases hs

set_option maxHeartbeats 1000000 in
theorem mz_w_l2i {p : Program} {l : Launch} {e : Env} {R : Room} {s : State} {m : MethodId} {args : Array Value} {below : List Frame} {meth : Method} {c : Code} {cells slots : Nat} {Q : State → Prop} {S0 : mz_Sh} {T0 : List (List Int32)} {T : List mz_R} {cl : List vw_C} {NM : List String} {ST : List (String × Nat × String)} {G0 : List Jvm.Cond} {gt : Nat → Option Jvm.Cond} {D : va_G} {cI : ClassId} {ad : Nat → Nat} {A : Nat → Prop} {nL Ln : Nat} {xs : Nat → Int32} {own : String} {cc : ByteArray} (F : mz_Fix p R s m args c cells slots S0 T0 T cl NM ST G0 gt D cI ad A nL Ln xs own cc) {pc : Nat} {L : List (Option Value)} {S : List Value} {mem : mz_M} {f : mz_I} {c1 : mz_C} (hd : decode cc pc = .ok (.l2i, 1)) (hl : mz_lk T cl NM ST gt own (.l2i) f = true) (hs : mz_step S0 T0 (.l2i) f pc L S mem = some (.inl c1)) (k : mz_Z p l e R s m args below meth c cells slots Q S0 cl D cI ad A nL Ln xs c1.1 c1.2.1 c1.2.2.1 c1.2.2.2) : mz_Z p l e R s m args below meth c cells slots Q S0 cl D cI ad A nL Ln xs pc L S mem := by
  simp only [mz_step, mz_next] at hs
  split at hs
  · cases hs
    exact fun ls H locs h1 h2 h3 h4 => lv_l2i F.1.1 F.1.2.1 hd rfl (k ls H locs h1 h2 h3 h4)
  · cases hs

set_option maxHeartbeats 1000000 in
theorem mz_w_i2b {p : Program} {l : Launch} {e : Env} {R : Room} {s : State} {m : MethodId} {args : Array Value} {below : List Frame} {meth : Method} {c : Code} {cells slots : Nat} {Q : State → Prop} {S0 : mz_Sh} {T0 : List (List Int32)} {T : List mz_R} {cl : List vw_C} {NM : List String} {ST : List (String × Nat × String)} {G0 : List Jvm.Cond} {gt : Nat → Option Jvm.Cond} {D : va_G} {cI : ClassId} {ad : Nat → Nat} {A : Nat → Prop} {nL Ln : Nat} {xs : Nat → Int32} {own : String} {cc : ByteArray} (F : mz_Fix p R s m args c cells slots S0 T0 T cl NM ST G0 gt D cI ad A nL Ln xs own cc) {pc : Nat} {L : List (Option Value)} {S : List Value} {mem : mz_M} {f : mz_I} {c1 : mz_C} (hd : decode cc pc = .ok (.i2b, 1)) (hl : mz_lk T cl NM ST gt own (.i2b) f = true) (hs : mz_step S0 T0 (.i2b) f pc L S mem = some (.inl c1)) (k : mz_Z p l e R s m args below meth c cells slots Q S0 cl D cI ad A nL Ln xs c1.1 c1.2.1 c1.2.2.1 c1.2.2.2) : mz_Z p l e R s m args below meth c cells slots Q S0 cl D cI ad A nL Ln xs pc L S mem := by
  simp only [mz_step, mz_next] at hs
  split at hs
  · cases hs
    exact fun ls H locs h1 h2 h3 h4 => lv_i2b F.1.1 F.1.2.1 hd rfl (k ls H locs h1 h2 h3 h4)
  · cases hs

set_option maxHeartbeats 1000000 in
theorem mz_w_i2s {p : Program} {l : Launch} {e : Env} {R : Room} {s : State} {m : MethodId} {args : Array Value} {below : List Frame} {meth : Method} {c : Code} {cells slots : Nat} {Q : State → Prop} {S0 : mz_Sh} {T0 : List (List Int32)} {T : List mz_R} {cl : List vw_C} {NM : List String} {ST : List (String × Nat × String)} {G0 : List Jvm.Cond} {gt : Nat → Option Jvm.Cond} {D : va_G} {cI : ClassId} {ad : Nat → Nat} {A : Nat → Prop} {nL Ln : Nat} {xs : Nat → Int32} {own : String} {cc : ByteArray} (F : mz_Fix p R s m args c cells slots S0 T0 T cl NM ST G0 gt D cI ad A nL Ln xs own cc) {pc : Nat} {L : List (Option Value)} {S : List Value} {mem : mz_M} {f : mz_I} {c1 : mz_C} (hd : decode cc pc = .ok (.i2s, 1)) (hl : mz_lk T cl NM ST gt own (.i2s) f = true) (hs : mz_step S0 T0 (.i2s) f pc L S mem = some (.inl c1)) (k : mz_Z p l e R s m args below meth c cells slots Q S0 cl D cI ad A nL Ln xs c1.1 c1.2.1 c1.2.2.1 c1.2.2.2) : mz_Z p l e R s m args below meth c cells slots Q S0 cl D cI ad A nL Ln xs pc L S mem := by
  simp only [mz_step, mz_next] at hs
  split at hs
  · cases hs
    exact fun ls H locs h1 h2 h3 h4 => lv_i2s F.1.1 F.1.2.1 hd rfl (k ls H locs h1 h2 h3 h4)
  · cases hs

set_option maxHeartbeats 1000000 in
theorem mz_w_i2c {p : Program} {l : Launch} {e : Env} {R : Room} {s : State} {m : MethodId} {args : Array Value} {below : List Frame} {meth : Method} {c : Code} {cells slots : Nat} {Q : State → Prop} {S0 : mz_Sh} {T0 : List (List Int32)} {T : List mz_R} {cl : List vw_C} {NM : List String} {ST : List (String × Nat × String)} {G0 : List Jvm.Cond} {gt : Nat → Option Jvm.Cond} {D : va_G} {cI : ClassId} {ad : Nat → Nat} {A : Nat → Prop} {nL Ln : Nat} {xs : Nat → Int32} {own : String} {cc : ByteArray} (F : mz_Fix p R s m args c cells slots S0 T0 T cl NM ST G0 gt D cI ad A nL Ln xs own cc) {pc : Nat} {L : List (Option Value)} {S : List Value} {mem : mz_M} {f : mz_I} {c1 : mz_C} (hd : decode cc pc = .ok (.i2c, 1)) (hl : mz_lk T cl NM ST gt own (.i2c) f = true) (hs : mz_step S0 T0 (.i2c) f pc L S mem = some (.inl c1)) (k : mz_Z p l e R s m args below meth c cells slots Q S0 cl D cI ad A nL Ln xs c1.1 c1.2.1 c1.2.2.1 c1.2.2.2) : mz_Z p l e R s m args below meth c cells slots Q S0 cl D cI ad A nL Ln xs pc L S mem := by
  simp only [mz_step, mz_next] at hs
  split at hs
  · cases hs
    exact fun ls H locs h1 h2 h3 h4 => lv_i2c F.1.1 F.1.2.1 hd rfl (k ls H locs h1 h2 h3 h4)
  · cases hs

set_option maxHeartbeats 1000000 in
theorem mz_w_idiv {p : Program} {l : Launch} {e : Env} {R : Room} {s : State} {m : MethodId} {args : Array Value} {below : List Frame} {meth : Method} {c : Code} {cells slots : Nat} {Q : State → Prop} {S0 : mz_Sh} {T0 : List (List Int32)} {T : List mz_R} {cl : List vw_C} {NM : List String} {ST : List (String × Nat × String)} {G0 : List Jvm.Cond} {gt : Nat → Option Jvm.Cond} {D : va_G} {cI : ClassId} {ad : Nat → Nat} {A : Nat → Prop} {nL Ln : Nat} {xs : Nat → Int32} {own : String} {cc : ByteArray} (F : mz_Fix p R s m args c cells slots S0 T0 T cl NM ST G0 gt D cI ad A nL Ln xs own cc) {pc : Nat} {L : List (Option Value)} {S : List Value} {mem : mz_M} {f : mz_I} {c1 : mz_C} (hd : decode cc pc = .ok (.idiv, 1)) (hl : mz_lk T cl NM ST gt own (.idiv) f = true) (hs : mz_step S0 T0 (.idiv) f pc L S mem = some (.inl c1)) (k : mz_Z p l e R s m args below meth c cells slots Q S0 cl D cI ad A nL Ln xs c1.1 c1.2.1 c1.2.2.1 c1.2.2.2) : mz_Z p l e R s m args below meth c cells slots Q S0 cl D cI ad A nL Ln xs pc L S mem := by
  simp only [mz_step, mz_next] at hs
  split at hs
  · obtain ⟨hb, hs⟩ := mz_condn hs
    cases hs
    exact fun ls H locs h1 h2 h3 h4 => lv_idiv F.1.1 F.1.2.1 hd (by simpa using hb) (k ls H locs h1 h2 h3 h4)
  · cases hs

set_option maxHeartbeats 1000000 in
theorem mz_w_irem {p : Program} {l : Launch} {e : Env} {R : Room} {s : State} {m : MethodId} {args : Array Value} {below : List Frame} {meth : Method} {c : Code} {cells slots : Nat} {Q : State → Prop} {S0 : mz_Sh} {T0 : List (List Int32)} {T : List mz_R} {cl : List vw_C} {NM : List String} {ST : List (String × Nat × String)} {G0 : List Jvm.Cond} {gt : Nat → Option Jvm.Cond} {D : va_G} {cI : ClassId} {ad : Nat → Nat} {A : Nat → Prop} {nL Ln : Nat} {xs : Nat → Int32} {own : String} {cc : ByteArray} (F : mz_Fix p R s m args c cells slots S0 T0 T cl NM ST G0 gt D cI ad A nL Ln xs own cc) {pc : Nat} {L : List (Option Value)} {S : List Value} {mem : mz_M} {f : mz_I} {c1 : mz_C} (hd : decode cc pc = .ok (.irem, 1)) (hl : mz_lk T cl NM ST gt own (.irem) f = true) (hs : mz_step S0 T0 (.irem) f pc L S mem = some (.inl c1)) (k : mz_Z p l e R s m args below meth c cells slots Q S0 cl D cI ad A nL Ln xs c1.1 c1.2.1 c1.2.2.1 c1.2.2.2) : mz_Z p l e R s m args below meth c cells slots Q S0 cl D cI ad A nL Ln xs pc L S mem := by
  simp only [mz_step, mz_next] at hs
  split at hs
  · obtain ⟨hb, hs⟩ := mz_condn hs
    cases hs
    exact fun ls H locs h1 h2 h3 h4 => lv_irem F.1.1 F.1.2.1 hd (by simpa using hb) (k ls H locs h1 h2 h3 h4)
  · cases hs

set_option maxHeartbeats 1000000 in
theorem mz_w_iconst {p : Program} {l : Launch} {e : Env} {R : Room} {s : State} {m : MethodId} {args : Array Value} {below : List Frame} {meth : Method} {c : Code} {cells slots : Nat} {Q : State → Prop} {S0 : mz_Sh} {T0 : List (List Int32)} {T : List mz_R} {cl : List vw_C} {NM : List String} {ST : List (String × Nat × String)} {G0 : List Jvm.Cond} {gt : Nat → Option Jvm.Cond} {D : va_G} {cI : ClassId} {ad : Nat → Nat} {A : Nat → Prop} {nL Ln : Nat} {xs : Nat → Int32} {own : String} {cc : ByteArray} (F : mz_Fix p R s m args c cells slots S0 T0 T cl NM ST G0 gt D cI ad A nL Ln xs own cc) {pc : Nat} {L : List (Option Value)} {S : List Value} {mem : mz_M} {f : mz_I} {c1 : mz_C} {n : Int} (hd : decode cc pc = .ok (.iconst n, 1)) (hl : mz_lk T cl NM ST gt own (.iconst n) f = true) (hs : mz_step S0 T0 (.iconst n) f pc L S mem = some (.inl c1)) (k : mz_Z p l e R s m args below meth c cells slots Q S0 cl D cI ad A nL Ln xs c1.1 c1.2.1 c1.2.2.1 c1.2.2.2) : mz_Z p l e R s m args below meth c cells slots Q S0 cl D cI ad A nL Ln xs pc L S mem := by
  have hl := of_decide_eq_true hl
  simp only [mz_step, mz_next] at hs
  rw [hl] at hs
  cases hs
  exact fun ls H locs h1 h2 h3 h4 => lv_iconst F.1.1 F.1.2.1 hd rfl (k ls H locs h1 h2 h3 h4)

set_option maxHeartbeats 1000000 in
theorem mz_w_bipush {p : Program} {l : Launch} {e : Env} {R : Room} {s : State} {m : MethodId} {args : Array Value} {below : List Frame} {meth : Method} {c : Code} {cells slots : Nat} {Q : State → Prop} {S0 : mz_Sh} {T0 : List (List Int32)} {T : List mz_R} {cl : List vw_C} {NM : List String} {ST : List (String × Nat × String)} {G0 : List Jvm.Cond} {gt : Nat → Option Jvm.Cond} {D : va_G} {cI : ClassId} {ad : Nat → Nat} {A : Nat → Prop} {nL Ln : Nat} {xs : Nat → Int32} {own : String} {cc : ByteArray} (F : mz_Fix p R s m args c cells slots S0 T0 T cl NM ST G0 gt D cI ad A nL Ln xs own cc) {pc : Nat} {L : List (Option Value)} {S : List Value} {mem : mz_M} {f : mz_I} {c1 : mz_C} {n : Int} (hd : decode cc pc = .ok (.bipush n, 2)) (hl : mz_lk T cl NM ST gt own (.bipush n) f = true) (hs : mz_step S0 T0 (.bipush n) f pc L S mem = some (.inl c1)) (k : mz_Z p l e R s m args below meth c cells slots Q S0 cl D cI ad A nL Ln xs c1.1 c1.2.1 c1.2.2.1 c1.2.2.2) : mz_Z p l e R s m args below meth c cells slots Q S0 cl D cI ad A nL Ln xs pc L S mem := by
  have hl := of_decide_eq_true hl
  simp only [mz_step, mz_next] at hs
  rw [hl] at hs
  cases hs
  exact fun ls H locs h1 h2 h3 h4 => lv_bipush F.1.1 F.1.2.1 hd rfl (k ls H locs h1 h2 h3 h4)

set_option maxHeartbeats 1000000 in
theorem mz_w_sipush {p : Program} {l : Launch} {e : Env} {R : Room} {s : State} {m : MethodId} {args : Array Value} {below : List Frame} {meth : Method} {c : Code} {cells slots : Nat} {Q : State → Prop} {S0 : mz_Sh} {T0 : List (List Int32)} {T : List mz_R} {cl : List vw_C} {NM : List String} {ST : List (String × Nat × String)} {G0 : List Jvm.Cond} {gt : Nat → Option Jvm.Cond} {D : va_G} {cI : ClassId} {ad : Nat → Nat} {A : Nat → Prop} {nL Ln : Nat} {xs : Nat → Int32} {own : String} {cc : ByteArray} (F : mz_Fix p R s m args c cells slots S0 T0 T cl NM ST G0 gt D cI ad A nL Ln xs own cc) {pc : Nat} {L : List (Option Value)} {S : List Value} {mem : mz_M} {f : mz_I} {c1 : mz_C} {n : Int} (hd : decode cc pc = .ok (.sipush n, 3)) (hl : mz_lk T cl NM ST gt own (.sipush n) f = true) (hs : mz_step S0 T0 (.sipush n) f pc L S mem = some (.inl c1)) (k : mz_Z p l e R s m args below meth c cells slots Q S0 cl D cI ad A nL Ln xs c1.1 c1.2.1 c1.2.2.1 c1.2.2.2) : mz_Z p l e R s m args below meth c cells slots Q S0 cl D cI ad A nL Ln xs pc L S mem := by
  have hl := of_decide_eq_true hl
  simp only [mz_step, mz_next] at hs
  rw [hl] at hs
  cases hs
  exact fun ls H locs h1 h2 h3 h4 => lv_sipush F.1.1 F.1.2.1 hd rfl (k ls H locs h1 h2 h3 h4)

set_option maxHeartbeats 1000000 in
theorem mz_w_ldc {p : Program} {l : Launch} {e : Env} {R : Room} {s : State} {m : MethodId} {args : Array Value} {below : List Frame} {meth : Method} {c : Code} {cells slots : Nat} {Q : State → Prop} {S0 : mz_Sh} {T0 : List (List Int32)} {T : List mz_R} {cl : List vw_C} {NM : List String} {ST : List (String × Nat × String)} {G0 : List Jvm.Cond} {gt : Nat → Option Jvm.Cond} {D : va_G} {cI : ClassId} {ad : Nat → Nat} {A : Nat → Prop} {nL Ln : Nat} {xs : Nat → Int32} {own : String} {cc : ByteArray} (F : mz_Fix p R s m args c cells slots S0 T0 T cl NM ST G0 gt D cI ad A nL Ln xs own cc) {pc : Nat} {L : List (Option Value)} {S : List Value} {mem : mz_M} {f : mz_I} {c1 : mz_C} {n : Nat} (hd : decode cc pc = .ok (.ldc n, 2)) (hl : mz_lk T cl NM ST gt own (.ldc n) f = true) (hs : mz_step S0 T0 (.ldc n) f pc L S mem = some (.inl c1)) (k : mz_Z p l e R s m args below meth c cells slots Q S0 cl D cI ad A nL Ln xs c1.1 c1.2.1 c1.2.2.1 c1.2.2.2) : mz_Z p l e R s m args below meth c cells slots Q S0 cl D cI ad A nL Ln xs pc L S mem := by
  simp only [mz_lk] at hl
  simp only [mz_step, mz_next] at hs
  split at hl
  · rename_i v hv
    rw [hv] at hs
    cases hs
    exact fun ls H locs h1 h2 h3 h4 => lv_ldc F.1.1 F.1.2.1 F.1.2.2.2.1 (F.1.2.2.2.2 _ (mz_Gi F (of_decide_eq_true hl) rfl)) hd (k ls H locs h1 h2 h3 h4)
  · rename_i r hv
    rw [hv] at hs
    cases hs
    split at hl
    · rename_i q hq
      simp only [Bool.and_eq_true, beq_iff_eq] at hl
      obtain ⟨⟨h5, h6⟩, h7⟩ := hl
      have hr : r = 2000 + f.2.1 := by
        have h8 : mz_cv f = some (.ref (2000 + f.2.1)) := by
          unfold mz_cv
          rw [h7]
          rfl
        rw [hv] at h8
        exact Value.ref.inj (Option.some.inj h8)
      subst hr
      have h9 := F.2.1.2.2.2.2.2.1 _ _ hq
      rw [h5, h6] at h9
      exact fun ls H locs h1 h2 h3 h4 => va_ldcS F.1.1 F.1.2.1 F.1.2.2.2.1 h9 hd (k ls H locs h1 h2 h3 h4)
    · cases hl
  · cases hl

set_option maxHeartbeats 1000000 in
theorem mz_w_ldc_w {p : Program} {l : Launch} {e : Env} {R : Room} {s : State} {m : MethodId} {args : Array Value} {below : List Frame} {meth : Method} {c : Code} {cells slots : Nat} {Q : State → Prop} {S0 : mz_Sh} {T0 : List (List Int32)} {T : List mz_R} {cl : List vw_C} {NM : List String} {ST : List (String × Nat × String)} {G0 : List Jvm.Cond} {gt : Nat → Option Jvm.Cond} {D : va_G} {cI : ClassId} {ad : Nat → Nat} {A : Nat → Prop} {nL Ln : Nat} {xs : Nat → Int32} {own : String} {cc : ByteArray} (F : mz_Fix p R s m args c cells slots S0 T0 T cl NM ST G0 gt D cI ad A nL Ln xs own cc) {pc : Nat} {L : List (Option Value)} {S : List Value} {mem : mz_M} {f : mz_I} {c1 : mz_C} {n : Nat} (hd : decode cc pc = .ok (.ldc_w n, 3)) (hl : mz_lk T cl NM ST gt own (.ldc_w n) f = true) (hs : mz_step S0 T0 (.ldc_w n) f pc L S mem = some (.inl c1)) (k : mz_Z p l e R s m args below meth c cells slots Q S0 cl D cI ad A nL Ln xs c1.1 c1.2.1 c1.2.2.1 c1.2.2.2) : mz_Z p l e R s m args below meth c cells slots Q S0 cl D cI ad A nL Ln xs pc L S mem := by
  simp only [mz_lk] at hl
  simp only [mz_step, mz_next] at hs
  split at hl
  · rename_i v hv
    rw [hv] at hs
    cases hs
    exact fun ls H locs h1 h2 h3 h4 => lv_ldcw F.1.1 F.1.2.1 F.1.2.2.2.1 (F.1.2.2.2.2 _ (mz_Gi F (of_decide_eq_true hl) rfl)) hd (k ls H locs h1 h2 h3 h4)
  · rename_i r hv
    rw [hv] at hs
    cases hs
    split at hl
    · rename_i q hq
      simp only [Bool.and_eq_true, beq_iff_eq] at hl
      obtain ⟨⟨h5, h6⟩, h7⟩ := hl
      have hr : r = 2000 + f.2.1 := by
        have h8 : mz_cv f = some (.ref (2000 + f.2.1)) := by
          unfold mz_cv
          rw [h7]
          rfl
        rw [hv] at h8
        exact Value.ref.inj (Option.some.inj h8)
      subst hr
      have h9 := F.2.1.2.2.2.2.2.1 _ _ hq
      rw [h5, h6] at h9
      exact fun ls H locs h1 h2 h3 h4 => mz_ldcwS F.1.1 F.1.2.1 F.1.2.2.2.1 h9 hd (k ls H locs h1 h2 h3 h4)
    · cases hl
  · cases hl

set_option maxHeartbeats 1000000 in
theorem mz_w_ldc2_w {p : Program} {l : Launch} {e : Env} {R : Room} {s : State} {m : MethodId} {args : Array Value} {below : List Frame} {meth : Method} {c : Code} {cells slots : Nat} {Q : State → Prop} {S0 : mz_Sh} {T0 : List (List Int32)} {T : List mz_R} {cl : List vw_C} {NM : List String} {ST : List (String × Nat × String)} {G0 : List Jvm.Cond} {gt : Nat → Option Jvm.Cond} {D : va_G} {cI : ClassId} {ad : Nat → Nat} {A : Nat → Prop} {nL Ln : Nat} {xs : Nat → Int32} {own : String} {cc : ByteArray} (F : mz_Fix p R s m args c cells slots S0 T0 T cl NM ST G0 gt D cI ad A nL Ln xs own cc) {pc : Nat} {L : List (Option Value)} {S : List Value} {mem : mz_M} {f : mz_I} {c1 : mz_C} {n : Nat} (hd : decode cc pc = .ok (.ldc2_w n, 3)) (hl : mz_lk T cl NM ST gt own (.ldc2_w n) f = true) (hs : mz_step S0 T0 (.ldc2_w n) f pc L S mem = some (.inl c1)) (k : mz_Z p l e R s m args below meth c cells slots Q S0 cl D cI ad A nL Ln xs c1.1 c1.2.1 c1.2.2.1 c1.2.2.2) : mz_Z p l e R s m args below meth c cells slots Q S0 cl D cI ad A nL Ln xs pc L S mem := by
  simp only [mz_lk] at hl
  simp only [mz_step, mz_next] at hs
  cases hs
  exact fun ls H locs h1 h2 h3 h4 => lv_ldc2 F.1.1 F.1.2.1 F.1.2.2.2.1 (F.1.2.2.2.2 _ (mz_Gi F (of_decide_eq_true hl) rfl)) hd (k ls H locs h1 h2 h3 h4)

set_option maxHeartbeats 1000000 in
theorem mz_w_iload_n {p : Program} {l : Launch} {e : Env} {R : Room} {s : State} {m : MethodId} {args : Array Value} {below : List Frame} {meth : Method} {c : Code} {cells slots : Nat} {Q : State → Prop} {S0 : mz_Sh} {T0 : List (List Int32)} {T : List mz_R} {cl : List vw_C} {NM : List String} {ST : List (String × Nat × String)} {G0 : List Jvm.Cond} {gt : Nat → Option Jvm.Cond} {D : va_G} {cI : ClassId} {ad : Nat → Nat} {A : Nat → Prop} {nL Ln : Nat} {xs : Nat → Int32} {own : String} {cc : ByteArray} (F : mz_Fix p R s m args c cells slots S0 T0 T cl NM ST G0 gt D cI ad A nL Ln xs own cc) {pc : Nat} {L : List (Option Value)} {S : List Value} {mem : mz_M} {f : mz_I} {c1 : mz_C} {n : Fin 4} (hd : decode cc pc = .ok (.iload_n n, 1)) (hl : mz_lk T cl NM ST gt own (.iload_n n) f = true) (hs : mz_step S0 T0 (.iload_n n) f pc L S mem = some (.inl c1)) (k : mz_Z p l e R s m args below meth c cells slots Q S0 cl D cI ad A nL Ln xs c1.1 c1.2.1 c1.2.2.1 c1.2.2.2) : mz_Z p l e R s m args below meth c cells slots Q S0 cl D cI ad A nL Ln xs pc L S mem := by
  simp only [mz_step, mz_next] at hs
  split at hs
  · rename_i x hx
    cases hs
    exact fun ls H locs h1 h2 h3 h4 => lv_iload_n F.1.1 F.1.2.1 hd rfl (h1.2.2.2 _ _ (mz_ld_at hx)) (k ls H locs h1 h2 h3 h4)
  · cases hs

set_option maxHeartbeats 1000000 in
theorem mz_w_iload {p : Program} {l : Launch} {e : Env} {R : Room} {s : State} {m : MethodId} {args : Array Value} {below : List Frame} {meth : Method} {c : Code} {cells slots : Nat} {Q : State → Prop} {S0 : mz_Sh} {T0 : List (List Int32)} {T : List mz_R} {cl : List vw_C} {NM : List String} {ST : List (String × Nat × String)} {G0 : List Jvm.Cond} {gt : Nat → Option Jvm.Cond} {D : va_G} {cI : ClassId} {ad : Nat → Nat} {A : Nat → Prop} {nL Ln : Nat} {xs : Nat → Int32} {own : String} {cc : ByteArray} (F : mz_Fix p R s m args c cells slots S0 T0 T cl NM ST G0 gt D cI ad A nL Ln xs own cc) {pc : Nat} {L : List (Option Value)} {S : List Value} {mem : mz_M} {f : mz_I} {c1 : mz_C} {n : Nat} (hd : decode cc pc = .ok (.iload n, 2)) (hl : mz_lk T cl NM ST gt own (.iload n) f = true) (hs : mz_step S0 T0 (.iload n) f pc L S mem = some (.inl c1)) (k : mz_Z p l e R s m args below meth c cells slots Q S0 cl D cI ad A nL Ln xs c1.1 c1.2.1 c1.2.2.1 c1.2.2.2) : mz_Z p l e R s m args below meth c cells slots Q S0 cl D cI ad A nL Ln xs pc L S mem := by
  simp only [mz_step, mz_next] at hs
  split at hs
  · rename_i x hx
    cases hs
    exact fun ls H locs h1 h2 h3 h4 => lv_iload F.1.1 F.1.2.1 hd (h1.2.2.2 _ _ (mz_ld_at hx)) (k ls H locs h1 h2 h3 h4)
  · cases hs

set_option maxHeartbeats 1000000 in
theorem mz_w_aload_n {p : Program} {l : Launch} {e : Env} {R : Room} {s : State} {m : MethodId} {args : Array Value} {below : List Frame} {meth : Method} {c : Code} {cells slots : Nat} {Q : State → Prop} {S0 : mz_Sh} {T0 : List (List Int32)} {T : List mz_R} {cl : List vw_C} {NM : List String} {ST : List (String × Nat × String)} {G0 : List Jvm.Cond} {gt : Nat → Option Jvm.Cond} {D : va_G} {cI : ClassId} {ad : Nat → Nat} {A : Nat → Prop} {nL Ln : Nat} {xs : Nat → Int32} {own : String} {cc : ByteArray} (F : mz_Fix p R s m args c cells slots S0 T0 T cl NM ST G0 gt D cI ad A nL Ln xs own cc) {pc : Nat} {L : List (Option Value)} {S : List Value} {mem : mz_M} {f : mz_I} {c1 : mz_C} {n : Fin 4} (hd : decode cc pc = .ok (.aload_n n, 1)) (hl : mz_lk T cl NM ST gt own (.aload_n n) f = true) (hs : mz_step S0 T0 (.aload_n n) f pc L S mem = some (.inl c1)) (k : mz_Z p l e R s m args below meth c cells slots Q S0 cl D cI ad A nL Ln xs c1.1 c1.2.1 c1.2.2.1 c1.2.2.2) : mz_Z p l e R s m args below meth c cells slots Q S0 cl D cI ad A nL Ln xs pc L S mem := by
  simp only [mz_step, mz_next] at hs
  split at hs
  · rename_i x hx
    cases hs
    exact fun ls H locs h1 h2 h3 h4 => lv_aload_n F.1.1 F.1.2.1 hd rfl (h1.2.2.2 _ _ (mz_ld_at hx)) (k ls H locs h1 h2 h3 h4)
  · cases hs

set_option maxHeartbeats 1000000 in
theorem mz_w_aload {p : Program} {l : Launch} {e : Env} {R : Room} {s : State} {m : MethodId} {args : Array Value} {below : List Frame} {meth : Method} {c : Code} {cells slots : Nat} {Q : State → Prop} {S0 : mz_Sh} {T0 : List (List Int32)} {T : List mz_R} {cl : List vw_C} {NM : List String} {ST : List (String × Nat × String)} {G0 : List Jvm.Cond} {gt : Nat → Option Jvm.Cond} {D : va_G} {cI : ClassId} {ad : Nat → Nat} {A : Nat → Prop} {nL Ln : Nat} {xs : Nat → Int32} {own : String} {cc : ByteArray} (F : mz_Fix p R s m args c cells slots S0 T0 T cl NM ST G0 gt D cI ad A nL Ln xs own cc) {pc : Nat} {L : List (Option Value)} {S : List Value} {mem : mz_M} {f : mz_I} {c1 : mz_C} {n : Nat} (hd : decode cc pc = .ok (.aload n, 2)) (hl : mz_lk T cl NM ST gt own (.aload n) f = true) (hs : mz_step S0 T0 (.aload n) f pc L S mem = some (.inl c1)) (k : mz_Z p l e R s m args below meth c cells slots Q S0 cl D cI ad A nL Ln xs c1.1 c1.2.1 c1.2.2.1 c1.2.2.2) : mz_Z p l e R s m args below meth c cells slots Q S0 cl D cI ad A nL Ln xs pc L S mem := by
  simp only [mz_step, mz_next] at hs
  split at hs
  · rename_i x hx
    cases hs
    exact fun ls H locs h1 h2 h3 h4 => lv_aload F.1.1 F.1.2.1 hd (h1.2.2.2 _ _ (mz_ld_at hx)) (k ls H locs h1 h2 h3 h4)
  · cases hs

set_option maxHeartbeats 1000000 in
theorem mz_w_lload_n {p : Program} {l : Launch} {e : Env} {R : Room} {s : State} {m : MethodId} {args : Array Value} {below : List Frame} {meth : Method} {c : Code} {cells slots : Nat} {Q : State → Prop} {S0 : mz_Sh} {T0 : List (List Int32)} {T : List mz_R} {cl : List vw_C} {NM : List String} {ST : List (String × Nat × String)} {G0 : List Jvm.Cond} {gt : Nat → Option Jvm.Cond} {D : va_G} {cI : ClassId} {ad : Nat → Nat} {A : Nat → Prop} {nL Ln : Nat} {xs : Nat → Int32} {own : String} {cc : ByteArray} (F : mz_Fix p R s m args c cells slots S0 T0 T cl NM ST G0 gt D cI ad A nL Ln xs own cc) {pc : Nat} {L : List (Option Value)} {S : List Value} {mem : mz_M} {f : mz_I} {c1 : mz_C} {n : Fin 4} (hd : decode cc pc = .ok (.lload_n n, 1)) (hl : mz_lk T cl NM ST gt own (.lload_n n) f = true) (hs : mz_step S0 T0 (.lload_n n) f pc L S mem = some (.inl c1)) (k : mz_Z p l e R s m args below meth c cells slots Q S0 cl D cI ad A nL Ln xs c1.1 c1.2.1 c1.2.2.1 c1.2.2.2) : mz_Z p l e R s m args below meth c cells slots Q S0 cl D cI ad A nL Ln xs pc L S mem := by
  simp only [mz_step, mz_next] at hs
  split at hs
  · rename_i x hx
    cases hs
    exact fun ls H locs h1 h2 h3 h4 => lv_lload_n F.1.1 F.1.2.1 hd rfl (h1.2.2.2 _ _ (mz_ld_at hx)) (k ls H locs h1 h2 h3 h4)
  · cases hs

set_option maxHeartbeats 1000000 in
theorem mz_w_istore_n {p : Program} {l : Launch} {e : Env} {R : Room} {s : State} {m : MethodId} {args : Array Value} {below : List Frame} {meth : Method} {c : Code} {cells slots : Nat} {Q : State → Prop} {S0 : mz_Sh} {T0 : List (List Int32)} {T : List mz_R} {cl : List vw_C} {NM : List String} {ST : List (String × Nat × String)} {G0 : List Jvm.Cond} {gt : Nat → Option Jvm.Cond} {D : va_G} {cI : ClassId} {ad : Nat → Nat} {A : Nat → Prop} {nL Ln : Nat} {xs : Nat → Int32} {own : String} {cc : ByteArray} (F : mz_Fix p R s m args c cells slots S0 T0 T cl NM ST G0 gt D cI ad A nL Ln xs own cc) {pc : Nat} {L : List (Option Value)} {S : List Value} {mem : mz_M} {f : mz_I} {c1 : mz_C} {n : Fin 4} (hd : decode cc pc = .ok (.istore_n n, 1)) (hl : mz_lk T cl NM ST gt own (.istore_n n) f = true) (hs : mz_step S0 T0 (.istore_n n) f pc L S mem = some (.inl c1)) (k : mz_Z p l e R s m args below meth c cells slots Q S0 cl D cI ad A nL Ln xs c1.1 c1.2.1 c1.2.2.1 c1.2.2.2) : mz_Z p l e R s m args below meth c cells slots Q S0 cl D cI ad A nL Ln xs pc L S mem := by
  simp only [mz_step, mz_next] at hs
  split at hs
  · obtain ⟨hb, hs⟩ := mz_cond hs
    cases hs
    exact fun ls H locs h1 h2 h3 h4 => lv_istore_n F.1.1 F.1.2.1 hd rfl (mz_ls_has h1) (h1.2.2.1 ▸ of_decide_eq_true hb) rfl (fun ls' h' => k ls' H locs (mz_ls_st h1 (of_decide_eq_true hb) h') h2 h3 h4)
  · cases hs

set_option maxHeartbeats 1000000 in
theorem mz_w_istore {p : Program} {l : Launch} {e : Env} {R : Room} {s : State} {m : MethodId} {args : Array Value} {below : List Frame} {meth : Method} {c : Code} {cells slots : Nat} {Q : State → Prop} {S0 : mz_Sh} {T0 : List (List Int32)} {T : List mz_R} {cl : List vw_C} {NM : List String} {ST : List (String × Nat × String)} {G0 : List Jvm.Cond} {gt : Nat → Option Jvm.Cond} {D : va_G} {cI : ClassId} {ad : Nat → Nat} {A : Nat → Prop} {nL Ln : Nat} {xs : Nat → Int32} {own : String} {cc : ByteArray} (F : mz_Fix p R s m args c cells slots S0 T0 T cl NM ST G0 gt D cI ad A nL Ln xs own cc) {pc : Nat} {L : List (Option Value)} {S : List Value} {mem : mz_M} {f : mz_I} {c1 : mz_C} {n : Nat} (hd : decode cc pc = .ok (.istore n, 2)) (hl : mz_lk T cl NM ST gt own (.istore n) f = true) (hs : mz_step S0 T0 (.istore n) f pc L S mem = some (.inl c1)) (k : mz_Z p l e R s m args below meth c cells slots Q S0 cl D cI ad A nL Ln xs c1.1 c1.2.1 c1.2.2.1 c1.2.2.2) : mz_Z p l e R s m args below meth c cells slots Q S0 cl D cI ad A nL Ln xs pc L S mem := by
  simp only [mz_step, mz_next] at hs
  split at hs
  · obtain ⟨hb, hs⟩ := mz_cond hs
    cases hs
    exact fun ls H locs h1 h2 h3 h4 => lv_istore F.1.1 F.1.2.1 hd (mz_ls_has h1) (h1.2.2.1 ▸ of_decide_eq_true hb) rfl (fun ls' h' => k ls' H locs (mz_ls_st h1 (of_decide_eq_true hb) h') h2 h3 h4)
  · cases hs

set_option maxHeartbeats 1000000 in
theorem mz_w_astore_n {p : Program} {l : Launch} {e : Env} {R : Room} {s : State} {m : MethodId} {args : Array Value} {below : List Frame} {meth : Method} {c : Code} {cells slots : Nat} {Q : State → Prop} {S0 : mz_Sh} {T0 : List (List Int32)} {T : List mz_R} {cl : List vw_C} {NM : List String} {ST : List (String × Nat × String)} {G0 : List Jvm.Cond} {gt : Nat → Option Jvm.Cond} {D : va_G} {cI : ClassId} {ad : Nat → Nat} {A : Nat → Prop} {nL Ln : Nat} {xs : Nat → Int32} {own : String} {cc : ByteArray} (F : mz_Fix p R s m args c cells slots S0 T0 T cl NM ST G0 gt D cI ad A nL Ln xs own cc) {pc : Nat} {L : List (Option Value)} {S : List Value} {mem : mz_M} {f : mz_I} {c1 : mz_C} {n : Fin 4} (hd : decode cc pc = .ok (.astore_n n, 1)) (hl : mz_lk T cl NM ST gt own (.astore_n n) f = true) (hs : mz_step S0 T0 (.astore_n n) f pc L S mem = some (.inl c1)) (k : mz_Z p l e R s m args below meth c cells slots Q S0 cl D cI ad A nL Ln xs c1.1 c1.2.1 c1.2.2.1 c1.2.2.2) : mz_Z p l e R s m args below meth c cells slots Q S0 cl D cI ad A nL Ln xs pc L S mem := by
  simp only [mz_step, mz_next] at hs
  split at hs
  · obtain ⟨hb, hs⟩ := mz_cond hs
    cases hs
    exact fun ls H locs h1 h2 h3 h4 => lv_astore_n F.1.1 F.1.2.1 hd rfl (mz_ls_has h1) (h1.2.2.1 ▸ of_decide_eq_true hb) rfl (fun ls' h' => k ls' H locs (mz_ls_st h1 (of_decide_eq_true hb) h') h2 h3 h4)
  · cases hs

set_option maxHeartbeats 1000000 in
theorem mz_w_astore {p : Program} {l : Launch} {e : Env} {R : Room} {s : State} {m : MethodId} {args : Array Value} {below : List Frame} {meth : Method} {c : Code} {cells slots : Nat} {Q : State → Prop} {S0 : mz_Sh} {T0 : List (List Int32)} {T : List mz_R} {cl : List vw_C} {NM : List String} {ST : List (String × Nat × String)} {G0 : List Jvm.Cond} {gt : Nat → Option Jvm.Cond} {D : va_G} {cI : ClassId} {ad : Nat → Nat} {A : Nat → Prop} {nL Ln : Nat} {xs : Nat → Int32} {own : String} {cc : ByteArray} (F : mz_Fix p R s m args c cells slots S0 T0 T cl NM ST G0 gt D cI ad A nL Ln xs own cc) {pc : Nat} {L : List (Option Value)} {S : List Value} {mem : mz_M} {f : mz_I} {c1 : mz_C} {n : Nat} (hd : decode cc pc = .ok (.astore n, 2)) (hl : mz_lk T cl NM ST gt own (.astore n) f = true) (hs : mz_step S0 T0 (.astore n) f pc L S mem = some (.inl c1)) (k : mz_Z p l e R s m args below meth c cells slots Q S0 cl D cI ad A nL Ln xs c1.1 c1.2.1 c1.2.2.1 c1.2.2.2) : mz_Z p l e R s m args below meth c cells slots Q S0 cl D cI ad A nL Ln xs pc L S mem := by
  simp only [mz_step, mz_next] at hs
  split at hs
  · obtain ⟨hb, hs⟩ := mz_cond hs
    cases hs
    exact fun ls H locs h1 h2 h3 h4 => lv_astore F.1.1 F.1.2.1 hd (mz_ls_has h1) (h1.2.2.1 ▸ of_decide_eq_true hb) rfl (fun ls' h' => k ls' H locs (mz_ls_st h1 (of_decide_eq_true hb) h') h2 h3 h4)
  · cases hs

set_option maxHeartbeats 1000000 in
theorem mz_w_iinc {p : Program} {l : Launch} {e : Env} {R : Room} {s : State} {m : MethodId} {args : Array Value} {below : List Frame} {meth : Method} {c : Code} {cells slots : Nat} {Q : State → Prop} {S0 : mz_Sh} {T0 : List (List Int32)} {T : List mz_R} {cl : List vw_C} {NM : List String} {ST : List (String × Nat × String)} {G0 : List Jvm.Cond} {gt : Nat → Option Jvm.Cond} {D : va_G} {cI : ClassId} {ad : Nat → Nat} {A : Nat → Prop} {nL Ln : Nat} {xs : Nat → Int32} {own : String} {cc : ByteArray} (F : mz_Fix p R s m args c cells slots S0 T0 T cl NM ST G0 gt D cI ad A nL Ln xs own cc) {pc : Nat} {L : List (Option Value)} {S : List Value} {mem : mz_M} {f : mz_I} {c1 : mz_C} {i : Nat} {n : Int} (hd : decode cc pc = .ok (.iinc i n, 3)) (hl : mz_lk T cl NM ST gt own (.iinc i n) f = true) (hs : mz_step S0 T0 (.iinc i n) f pc L S mem = some (.inl c1)) (k : mz_Z p l e R s m args below meth c cells slots Q S0 cl D cI ad A nL Ln xs c1.1 c1.2.1 c1.2.2.1 c1.2.2.2) : mz_Z p l e R s m args below meth c cells slots Q S0 cl D cI ad A nL Ln xs pc L S mem := by
  have hl := of_decide_eq_true hl
  simp only [mz_step, mz_next] at hs
  rw [hl] at hs
  split at hs
  · rename_i x y hx hy
    cases hy
    cases hs
    have hL := mz_ld_at hx
    have hi : i < L.length := (List.getElem?_eq_some_iff.mp hL).1
    obtain ⟨j, hj⟩ := List.getElem?_of_mem (mz_lv_mem (ad := ad).mpr ⟨_, hL, rfl⟩)
    exact fun ls H locs h1 h2 h3 h4 => lv_iinc F.1.1 F.1.2.1 hd (mz_ls_has h1) hj rfl (h1.2.2.1 ▸ hi) rfl (fun ls' h' => k ls' H locs (mz_ls_st h1 hi h') h2 h3 h4)
  · cases hs

set_option maxHeartbeats 1000000 in
theorem mz_w_dup {p : Program} {l : Launch} {e : Env} {R : Room} {s : State} {m : MethodId} {args : Array Value} {below : List Frame} {meth : Method} {c : Code} {cells slots : Nat} {Q : State → Prop} {S0 : mz_Sh} {T0 : List (List Int32)} {T : List mz_R} {cl : List vw_C} {NM : List String} {ST : List (String × Nat × String)} {G0 : List Jvm.Cond} {gt : Nat → Option Jvm.Cond} {D : va_G} {cI : ClassId} {ad : Nat → Nat} {A : Nat → Prop} {nL Ln : Nat} {xs : Nat → Int32} {own : String} {cc : ByteArray} (F : mz_Fix p R s m args c cells slots S0 T0 T cl NM ST G0 gt D cI ad A nL Ln xs own cc) {pc : Nat} {L : List (Option Value)} {S : List Value} {mem : mz_M} {f : mz_I} {c1 : mz_C} (hd : decode cc pc = .ok (.dup, 1)) (hl : mz_lk T cl NM ST gt own (.dup) f = true) (hs : mz_step S0 T0 (.dup) f pc L S mem = some (.inl c1)) (k : mz_Z p l e R s m args below meth c cells slots Q S0 cl D cI ad A nL Ln xs c1.1 c1.2.1 c1.2.2.1 c1.2.2.2) : mz_Z p l e R s m args below meth c cells slots Q S0 cl D cI ad A nL Ln xs pc L S mem := by
  simp only [mz_step, mz_next] at hs
  split at hs
  · obtain ⟨hb, hs⟩ := mz_cond hs
    cases hs
    exact fun ls H locs h1 h2 h3 h4 => lv_dup F.1.1 F.1.2.1 hd (by rw [mz_cvv_cat]; simpa using hb) (k ls H locs h1 h2 h3 h4)
  · cases hs

set_option maxHeartbeats 1000000 in
theorem mz_w_pop {p : Program} {l : Launch} {e : Env} {R : Room} {s : State} {m : MethodId} {args : Array Value} {below : List Frame} {meth : Method} {c : Code} {cells slots : Nat} {Q : State → Prop} {S0 : mz_Sh} {T0 : List (List Int32)} {T : List mz_R} {cl : List vw_C} {NM : List String} {ST : List (String × Nat × String)} {G0 : List Jvm.Cond} {gt : Nat → Option Jvm.Cond} {D : va_G} {cI : ClassId} {ad : Nat → Nat} {A : Nat → Prop} {nL Ln : Nat} {xs : Nat → Int32} {own : String} {cc : ByteArray} (F : mz_Fix p R s m args c cells slots S0 T0 T cl NM ST G0 gt D cI ad A nL Ln xs own cc) {pc : Nat} {L : List (Option Value)} {S : List Value} {mem : mz_M} {f : mz_I} {c1 : mz_C} (hd : decode cc pc = .ok (.pop, 1)) (hl : mz_lk T cl NM ST gt own (.pop) f = true) (hs : mz_step S0 T0 (.pop) f pc L S mem = some (.inl c1)) (k : mz_Z p l e R s m args below meth c cells slots Q S0 cl D cI ad A nL Ln xs c1.1 c1.2.1 c1.2.2.1 c1.2.2.2) : mz_Z p l e R s m args below meth c cells slots Q S0 cl D cI ad A nL Ln xs pc L S mem := by
  simp only [mz_step, mz_next] at hs
  split at hs
  · obtain ⟨hb, hs⟩ := mz_cond hs
    cases hs
    exact fun ls H locs h1 h2 h3 h4 => lv_pop F.1.1 F.1.2.1 hd (by rw [mz_cvv_cat]; simpa using hb) (k ls H locs h1 h2 h3 h4)
  · cases hs

set_option maxHeartbeats 1000000 in
theorem mz_w_dup_x1 {p : Program} {l : Launch} {e : Env} {R : Room} {s : State} {m : MethodId} {args : Array Value} {below : List Frame} {meth : Method} {c : Code} {cells slots : Nat} {Q : State → Prop} {S0 : mz_Sh} {T0 : List (List Int32)} {T : List mz_R} {cl : List vw_C} {NM : List String} {ST : List (String × Nat × String)} {G0 : List Jvm.Cond} {gt : Nat → Option Jvm.Cond} {D : va_G} {cI : ClassId} {ad : Nat → Nat} {A : Nat → Prop} {nL Ln : Nat} {xs : Nat → Int32} {own : String} {cc : ByteArray} (F : mz_Fix p R s m args c cells slots S0 T0 T cl NM ST G0 gt D cI ad A nL Ln xs own cc) {pc : Nat} {L : List (Option Value)} {S : List Value} {mem : mz_M} {f : mz_I} {c1 : mz_C} (hd : decode cc pc = .ok (.dup_x1, 1)) (hl : mz_lk T cl NM ST gt own (.dup_x1) f = true) (hs : mz_step S0 T0 (.dup_x1) f pc L S mem = some (.inl c1)) (k : mz_Z p l e R s m args below meth c cells slots Q S0 cl D cI ad A nL Ln xs c1.1 c1.2.1 c1.2.2.1 c1.2.2.2) : mz_Z p l e R s m args below meth c cells slots Q S0 cl D cI ad A nL Ln xs pc L S mem := by
  simp only [mz_step, mz_next] at hs
  split at hs
  · obtain ⟨hb, hs⟩ := mz_cond hs
    cases hs
    simp only [Bool.and_eq_true, beq_iff_eq] at hb
    exact fun ls H locs h1 h2 h3 h4 => lv_dup_x1 F.1.1 F.1.2.1 hd (by rw [mz_cvv_cat]; exact hb.1) (by rw [mz_cvv_cat]; exact hb.2) (k ls H locs h1 h2 h3 h4)
  · cases hs

set_option maxHeartbeats 1000000 in
theorem mz_w_dup2 {p : Program} {l : Launch} {e : Env} {R : Room} {s : State} {m : MethodId} {args : Array Value} {below : List Frame} {meth : Method} {c : Code} {cells slots : Nat} {Q : State → Prop} {S0 : mz_Sh} {T0 : List (List Int32)} {T : List mz_R} {cl : List vw_C} {NM : List String} {ST : List (String × Nat × String)} {G0 : List Jvm.Cond} {gt : Nat → Option Jvm.Cond} {D : va_G} {cI : ClassId} {ad : Nat → Nat} {A : Nat → Prop} {nL Ln : Nat} {xs : Nat → Int32} {own : String} {cc : ByteArray} (F : mz_Fix p R s m args c cells slots S0 T0 T cl NM ST G0 gt D cI ad A nL Ln xs own cc) {pc : Nat} {L : List (Option Value)} {S : List Value} {mem : mz_M} {f : mz_I} {c1 : mz_C} (hd : decode cc pc = .ok (.dup2, 1)) (hl : mz_lk T cl NM ST gt own (.dup2) f = true) (hs : mz_step S0 T0 (.dup2) f pc L S mem = some (.inl c1)) (k : mz_Z p l e R s m args below meth c cells slots Q S0 cl D cI ad A nL Ln xs c1.1 c1.2.1 c1.2.2.1 c1.2.2.2) : mz_Z p l e R s m args below meth c cells slots Q S0 cl D cI ad A nL Ln xs pc L S mem := by
  simp only [mz_step, mz_next] at hs
  split at hs
  · obtain ⟨hb, hs⟩ := mz_cond hs
    cases hs
    simp only [Bool.and_eq_true, beq_iff_eq] at hb
    exact fun ls H locs h1 h2 h3 h4 => lv_dup2_11 F.1.1 F.1.2.1 hd (by rw [mz_cvv_cat]; exact hb.1) (by rw [mz_cvv_cat]; exact hb.2) (k ls H locs h1 h2 h3 h4)
  · cases hs

set_option maxHeartbeats 1000000 in
theorem mz_w_if_eq {p : Program} {l : Launch} {e : Env} {R : Room} {s : State} {m : MethodId} {args : Array Value} {below : List Frame} {meth : Method} {c : Code} {cells slots : Nat} {Q : State → Prop} {S0 : mz_Sh} {T0 : List (List Int32)} {T : List mz_R} {cl : List vw_C} {NM : List String} {ST : List (String × Nat × String)} {G0 : List Jvm.Cond} {gt : Nat → Option Jvm.Cond} {D : va_G} {cI : ClassId} {ad : Nat → Nat} {A : Nat → Prop} {nL Ln : Nat} {xs : Nat → Int32} {own : String} {cc : ByteArray} (F : mz_Fix p R s m args c cells slots S0 T0 T cl NM ST G0 gt D cI ad A nL Ln xs own cc) {pc : Nat} {L : List (Option Value)} {S : List Value} {mem : mz_M} {f : mz_I} {c1 : mz_C} {o : Int} (hd : decode cc pc = .ok (.ifCond .eq o, 3)) (hl : mz_lk T cl NM ST gt own (.ifCond .eq o) f = true) (hs : mz_step S0 T0 (.ifCond .eq o) f pc L S mem = some (.inl c1)) (k : mz_Z p l e R s m args below meth c cells slots Q S0 cl D cI ad A nL Ln xs c1.1 c1.2.1 c1.2.2.1 c1.2.2.2) : mz_Z p l e R s m args below meth c cells slots Q S0 cl D cI ad A nL Ln xs pc L S mem := by
  simp only [mz_step, mz_jump] at hs
  split at hs
  · obtain ⟨hb, hs⟩ := mz_cond hs
    cases hs
    intro ls H locs h1 h2 h3 h4
    have hk := k ls H locs h1 h2 h3 h4
    refine lv_if_eq F.1.1 F.1.2.1 hd (mz_tg_ok hb) (fun q => ?_) (fun q => ?_)
    · rw [if_pos q] at hk
      exact hk
    · rw [if_neg q] at hk
      exact hk
  · cases hs

set_option maxHeartbeats 1000000 in
theorem mz_w_if_ne {p : Program} {l : Launch} {e : Env} {R : Room} {s : State} {m : MethodId} {args : Array Value} {below : List Frame} {meth : Method} {c : Code} {cells slots : Nat} {Q : State → Prop} {S0 : mz_Sh} {T0 : List (List Int32)} {T : List mz_R} {cl : List vw_C} {NM : List String} {ST : List (String × Nat × String)} {G0 : List Jvm.Cond} {gt : Nat → Option Jvm.Cond} {D : va_G} {cI : ClassId} {ad : Nat → Nat} {A : Nat → Prop} {nL Ln : Nat} {xs : Nat → Int32} {own : String} {cc : ByteArray} (F : mz_Fix p R s m args c cells slots S0 T0 T cl NM ST G0 gt D cI ad A nL Ln xs own cc) {pc : Nat} {L : List (Option Value)} {S : List Value} {mem : mz_M} {f : mz_I} {c1 : mz_C} {o : Int} (hd : decode cc pc = .ok (.ifCond .ne o, 3)) (hl : mz_lk T cl NM ST gt own (.ifCond .ne o) f = true) (hs : mz_step S0 T0 (.ifCond .ne o) f pc L S mem = some (.inl c1)) (k : mz_Z p l e R s m args below meth c cells slots Q S0 cl D cI ad A nL Ln xs c1.1 c1.2.1 c1.2.2.1 c1.2.2.2) : mz_Z p l e R s m args below meth c cells slots Q S0 cl D cI ad A nL Ln xs pc L S mem := by
  simp only [mz_step, mz_jump] at hs
  split at hs
  · obtain ⟨hb, hs⟩ := mz_cond hs
    cases hs
    intro ls H locs h1 h2 h3 h4
    have hk := k ls H locs h1 h2 h3 h4
    refine lv_if_ne F.1.1 F.1.2.1 hd (mz_tg_ok hb) (fun q => ?_) (fun q => ?_)
    · rw [if_neg q] at hk
      exact hk
    · rw [if_pos q] at hk
      exact hk
  · cases hs

set_option maxHeartbeats 1000000 in
theorem mz_w_if_lt {p : Program} {l : Launch} {e : Env} {R : Room} {s : State} {m : MethodId} {args : Array Value} {below : List Frame} {meth : Method} {c : Code} {cells slots : Nat} {Q : State → Prop} {S0 : mz_Sh} {T0 : List (List Int32)} {T : List mz_R} {cl : List vw_C} {NM : List String} {ST : List (String × Nat × String)} {G0 : List Jvm.Cond} {gt : Nat → Option Jvm.Cond} {D : va_G} {cI : ClassId} {ad : Nat → Nat} {A : Nat → Prop} {nL Ln : Nat} {xs : Nat → Int32} {own : String} {cc : ByteArray} (F : mz_Fix p R s m args c cells slots S0 T0 T cl NM ST G0 gt D cI ad A nL Ln xs own cc) {pc : Nat} {L : List (Option Value)} {S : List Value} {mem : mz_M} {f : mz_I} {c1 : mz_C} {o : Int} (hd : decode cc pc = .ok (.ifCond .lt o, 3)) (hl : mz_lk T cl NM ST gt own (.ifCond .lt o) f = true) (hs : mz_step S0 T0 (.ifCond .lt o) f pc L S mem = some (.inl c1)) (k : mz_Z p l e R s m args below meth c cells slots Q S0 cl D cI ad A nL Ln xs c1.1 c1.2.1 c1.2.2.1 c1.2.2.2) : mz_Z p l e R s m args below meth c cells slots Q S0 cl D cI ad A nL Ln xs pc L S mem := by
  simp only [mz_step, mz_jump] at hs
  split at hs
  · obtain ⟨hb, hs⟩ := mz_cond hs
    cases hs
    intro ls H locs h1 h2 h3 h4
    have hk := k ls H locs h1 h2 h3 h4
    refine lv_if_lt F.1.1 F.1.2.1 hd (mz_tg_ok hb) (fun q => ?_) (fun q => ?_)
    · rw [if_pos q] at hk
      exact hk
    · rw [if_neg q] at hk
      exact hk
  · cases hs

set_option maxHeartbeats 1000000 in
theorem mz_w_if_ge {p : Program} {l : Launch} {e : Env} {R : Room} {s : State} {m : MethodId} {args : Array Value} {below : List Frame} {meth : Method} {c : Code} {cells slots : Nat} {Q : State → Prop} {S0 : mz_Sh} {T0 : List (List Int32)} {T : List mz_R} {cl : List vw_C} {NM : List String} {ST : List (String × Nat × String)} {G0 : List Jvm.Cond} {gt : Nat → Option Jvm.Cond} {D : va_G} {cI : ClassId} {ad : Nat → Nat} {A : Nat → Prop} {nL Ln : Nat} {xs : Nat → Int32} {own : String} {cc : ByteArray} (F : mz_Fix p R s m args c cells slots S0 T0 T cl NM ST G0 gt D cI ad A nL Ln xs own cc) {pc : Nat} {L : List (Option Value)} {S : List Value} {mem : mz_M} {f : mz_I} {c1 : mz_C} {o : Int} (hd : decode cc pc = .ok (.ifCond .ge o, 3)) (hl : mz_lk T cl NM ST gt own (.ifCond .ge o) f = true) (hs : mz_step S0 T0 (.ifCond .ge o) f pc L S mem = some (.inl c1)) (k : mz_Z p l e R s m args below meth c cells slots Q S0 cl D cI ad A nL Ln xs c1.1 c1.2.1 c1.2.2.1 c1.2.2.2) : mz_Z p l e R s m args below meth c cells slots Q S0 cl D cI ad A nL Ln xs pc L S mem := by
  simp only [mz_step, mz_jump] at hs
  split at hs
  · obtain ⟨hb, hs⟩ := mz_cond hs
    cases hs
    intro ls H locs h1 h2 h3 h4
    have hk := k ls H locs h1 h2 h3 h4
    refine lv_if_ge F.1.1 F.1.2.1 hd (mz_tg_ok hb) (fun q => ?_) (fun q => ?_)
    · rw [if_pos q] at hk
      exact hk
    · rw [if_neg q] at hk
      exact hk
  · cases hs

set_option maxHeartbeats 1000000 in
theorem mz_w_if_gt {p : Program} {l : Launch} {e : Env} {R : Room} {s : State} {m : MethodId} {args : Array Value} {below : List Frame} {meth : Method} {c : Code} {cells slots : Nat} {Q : State → Prop} {S0 : mz_Sh} {T0 : List (List Int32)} {T : List mz_R} {cl : List vw_C} {NM : List String} {ST : List (String × Nat × String)} {G0 : List Jvm.Cond} {gt : Nat → Option Jvm.Cond} {D : va_G} {cI : ClassId} {ad : Nat → Nat} {A : Nat → Prop} {nL Ln : Nat} {xs : Nat → Int32} {own : String} {cc : ByteArray} (F : mz_Fix p R s m args c cells slots S0 T0 T cl NM ST G0 gt D cI ad A nL Ln xs own cc) {pc : Nat} {L : List (Option Value)} {S : List Value} {mem : mz_M} {f : mz_I} {c1 : mz_C} {o : Int} (hd : decode cc pc = .ok (.ifCond .gt o, 3)) (hl : mz_lk T cl NM ST gt own (.ifCond .gt o) f = true) (hs : mz_step S0 T0 (.ifCond .gt o) f pc L S mem = some (.inl c1)) (k : mz_Z p l e R s m args below meth c cells slots Q S0 cl D cI ad A nL Ln xs c1.1 c1.2.1 c1.2.2.1 c1.2.2.2) : mz_Z p l e R s m args below meth c cells slots Q S0 cl D cI ad A nL Ln xs pc L S mem := by
  simp only [mz_step, mz_jump] at hs
  split at hs
  · obtain ⟨hb, hs⟩ := mz_cond hs
    cases hs
    intro ls H locs h1 h2 h3 h4
    have hk := k ls H locs h1 h2 h3 h4
    refine lv_if_gt F.1.1 F.1.2.1 hd (mz_tg_ok hb) (fun q => ?_) (fun q => ?_)
    · rw [if_pos q] at hk
      exact hk
    · rw [if_neg q] at hk
      exact hk
  · cases hs

set_option maxHeartbeats 1000000 in
theorem mz_w_if_le {p : Program} {l : Launch} {e : Env} {R : Room} {s : State} {m : MethodId} {args : Array Value} {below : List Frame} {meth : Method} {c : Code} {cells slots : Nat} {Q : State → Prop} {S0 : mz_Sh} {T0 : List (List Int32)} {T : List mz_R} {cl : List vw_C} {NM : List String} {ST : List (String × Nat × String)} {G0 : List Jvm.Cond} {gt : Nat → Option Jvm.Cond} {D : va_G} {cI : ClassId} {ad : Nat → Nat} {A : Nat → Prop} {nL Ln : Nat} {xs : Nat → Int32} {own : String} {cc : ByteArray} (F : mz_Fix p R s m args c cells slots S0 T0 T cl NM ST G0 gt D cI ad A nL Ln xs own cc) {pc : Nat} {L : List (Option Value)} {S : List Value} {mem : mz_M} {f : mz_I} {c1 : mz_C} {o : Int} (hd : decode cc pc = .ok (.ifCond .le o, 3)) (hl : mz_lk T cl NM ST gt own (.ifCond .le o) f = true) (hs : mz_step S0 T0 (.ifCond .le o) f pc L S mem = some (.inl c1)) (k : mz_Z p l e R s m args below meth c cells slots Q S0 cl D cI ad A nL Ln xs c1.1 c1.2.1 c1.2.2.1 c1.2.2.2) : mz_Z p l e R s m args below meth c cells slots Q S0 cl D cI ad A nL Ln xs pc L S mem := by
  simp only [mz_step, mz_jump] at hs
  split at hs
  · obtain ⟨hb, hs⟩ := mz_cond hs
    cases hs
    intro ls H locs h1 h2 h3 h4
    have hk := k ls H locs h1 h2 h3 h4
    refine lv_if_le F.1.1 F.1.2.1 hd (mz_tg_ok hb) (fun q => ?_) (fun q => ?_)
    · rw [if_pos q] at hk
      exact hk
    · rw [if_neg q] at hk
      exact hk
  · cases hs

set_option maxHeartbeats 1000000 in
theorem mz_w_icmp_eq {p : Program} {l : Launch} {e : Env} {R : Room} {s : State} {m : MethodId} {args : Array Value} {below : List Frame} {meth : Method} {c : Code} {cells slots : Nat} {Q : State → Prop} {S0 : mz_Sh} {T0 : List (List Int32)} {T : List mz_R} {cl : List vw_C} {NM : List String} {ST : List (String × Nat × String)} {G0 : List Jvm.Cond} {gt : Nat → Option Jvm.Cond} {D : va_G} {cI : ClassId} {ad : Nat → Nat} {A : Nat → Prop} {nL Ln : Nat} {xs : Nat → Int32} {own : String} {cc : ByteArray} (F : mz_Fix p R s m args c cells slots S0 T0 T cl NM ST G0 gt D cI ad A nL Ln xs own cc) {pc : Nat} {L : List (Option Value)} {S : List Value} {mem : mz_M} {f : mz_I} {c1 : mz_C} {o : Int} (hd : decode cc pc = .ok (.if_icmp .eq o, 3)) (hl : mz_lk T cl NM ST gt own (.if_icmp .eq o) f = true) (hs : mz_step S0 T0 (.if_icmp .eq o) f pc L S mem = some (.inl c1)) (k : mz_Z p l e R s m args below meth c cells slots Q S0 cl D cI ad A nL Ln xs c1.1 c1.2.1 c1.2.2.1 c1.2.2.2) : mz_Z p l e R s m args below meth c cells slots Q S0 cl D cI ad A nL Ln xs pc L S mem := by
  simp only [mz_step, mz_jump] at hs
  split at hs
  · obtain ⟨hb, hs⟩ := mz_cond hs
    cases hs
    intro ls H locs h1 h2 h3 h4
    have hk := k ls H locs h1 h2 h3 h4
    refine lv_icmp_eq F.1.1 F.1.2.1 hd (mz_tg_ok hb) (fun q => ?_) (fun q => ?_)
    · rw [if_pos q] at hk
      exact hk
    · rw [if_neg q] at hk
      exact hk
  · cases hs

set_option maxHeartbeats 1000000 in
theorem mz_w_icmp_ne {p : Program} {l : Launch} {e : Env} {R : Room} {s : State} {m : MethodId} {args : Array Value} {below : List Frame} {meth : Method} {c : Code} {cells slots : Nat} {Q : State → Prop} {S0 : mz_Sh} {T0 : List (List Int32)} {T : List mz_R} {cl : List vw_C} {NM : List String} {ST : List (String × Nat × String)} {G0 : List Jvm.Cond} {gt : Nat → Option Jvm.Cond} {D : va_G} {cI : ClassId} {ad : Nat → Nat} {A : Nat → Prop} {nL Ln : Nat} {xs : Nat → Int32} {own : String} {cc : ByteArray} (F : mz_Fix p R s m args c cells slots S0 T0 T cl NM ST G0 gt D cI ad A nL Ln xs own cc) {pc : Nat} {L : List (Option Value)} {S : List Value} {mem : mz_M} {f : mz_I} {c1 : mz_C} {o : Int} (hd : decode cc pc = .ok (.if_icmp .ne o, 3)) (hl : mz_lk T cl NM ST gt own (.if_icmp .ne o) f = true) (hs : mz_step S0 T0 (.if_icmp .ne o) f pc L S mem = some (.inl c1)) (k : mz_Z p l e R s m args below meth c cells slots Q S0 cl D cI ad A nL Ln xs c1.1 c1.2.1 c1.2.2.1 c1.2.2.2) : mz_Z p l e R s m args below meth c cells slots Q S0 cl D cI ad A nL Ln xs pc L S mem := by
  simp only [mz_step, mz_jump] at hs
  split at hs
  · obtain ⟨hb, hs⟩ := mz_cond hs
    cases hs
    intro ls H locs h1 h2 h3 h4
    have hk := k ls H locs h1 h2 h3 h4
    refine lv_icmp_ne F.1.1 F.1.2.1 hd (mz_tg_ok hb) (fun q => ?_) (fun q => ?_)
    · rw [if_neg q] at hk
      exact hk
    · rw [if_pos q] at hk
      exact hk
  · cases hs

set_option maxHeartbeats 1000000 in
theorem mz_w_icmp_lt {p : Program} {l : Launch} {e : Env} {R : Room} {s : State} {m : MethodId} {args : Array Value} {below : List Frame} {meth : Method} {c : Code} {cells slots : Nat} {Q : State → Prop} {S0 : mz_Sh} {T0 : List (List Int32)} {T : List mz_R} {cl : List vw_C} {NM : List String} {ST : List (String × Nat × String)} {G0 : List Jvm.Cond} {gt : Nat → Option Jvm.Cond} {D : va_G} {cI : ClassId} {ad : Nat → Nat} {A : Nat → Prop} {nL Ln : Nat} {xs : Nat → Int32} {own : String} {cc : ByteArray} (F : mz_Fix p R s m args c cells slots S0 T0 T cl NM ST G0 gt D cI ad A nL Ln xs own cc) {pc : Nat} {L : List (Option Value)} {S : List Value} {mem : mz_M} {f : mz_I} {c1 : mz_C} {o : Int} (hd : decode cc pc = .ok (.if_icmp .lt o, 3)) (hl : mz_lk T cl NM ST gt own (.if_icmp .lt o) f = true) (hs : mz_step S0 T0 (.if_icmp .lt o) f pc L S mem = some (.inl c1)) (k : mz_Z p l e R s m args below meth c cells slots Q S0 cl D cI ad A nL Ln xs c1.1 c1.2.1 c1.2.2.1 c1.2.2.2) : mz_Z p l e R s m args below meth c cells slots Q S0 cl D cI ad A nL Ln xs pc L S mem := by
  simp only [mz_step, mz_jump] at hs
  split at hs
  · obtain ⟨hb, hs⟩ := mz_cond hs
    cases hs
    intro ls H locs h1 h2 h3 h4
    have hk := k ls H locs h1 h2 h3 h4
    refine lv_icmp_lt F.1.1 F.1.2.1 hd (mz_tg_ok hb) (fun q => ?_) (fun q => ?_)
    · rw [if_pos q] at hk
      exact hk
    · rw [if_neg q] at hk
      exact hk
  · cases hs

set_option maxHeartbeats 1000000 in
theorem mz_w_icmp_ge {p : Program} {l : Launch} {e : Env} {R : Room} {s : State} {m : MethodId} {args : Array Value} {below : List Frame} {meth : Method} {c : Code} {cells slots : Nat} {Q : State → Prop} {S0 : mz_Sh} {T0 : List (List Int32)} {T : List mz_R} {cl : List vw_C} {NM : List String} {ST : List (String × Nat × String)} {G0 : List Jvm.Cond} {gt : Nat → Option Jvm.Cond} {D : va_G} {cI : ClassId} {ad : Nat → Nat} {A : Nat → Prop} {nL Ln : Nat} {xs : Nat → Int32} {own : String} {cc : ByteArray} (F : mz_Fix p R s m args c cells slots S0 T0 T cl NM ST G0 gt D cI ad A nL Ln xs own cc) {pc : Nat} {L : List (Option Value)} {S : List Value} {mem : mz_M} {f : mz_I} {c1 : mz_C} {o : Int} (hd : decode cc pc = .ok (.if_icmp .ge o, 3)) (hl : mz_lk T cl NM ST gt own (.if_icmp .ge o) f = true) (hs : mz_step S0 T0 (.if_icmp .ge o) f pc L S mem = some (.inl c1)) (k : mz_Z p l e R s m args below meth c cells slots Q S0 cl D cI ad A nL Ln xs c1.1 c1.2.1 c1.2.2.1 c1.2.2.2) : mz_Z p l e R s m args below meth c cells slots Q S0 cl D cI ad A nL Ln xs pc L S mem := by
  simp only [mz_step, mz_jump] at hs
  split at hs
  · obtain ⟨hb, hs⟩ := mz_cond hs
    cases hs
    intro ls H locs h1 h2 h3 h4
    have hk := k ls H locs h1 h2 h3 h4
    refine lv_icmp_ge F.1.1 F.1.2.1 hd (mz_tg_ok hb) (fun q => ?_) (fun q => ?_)
    · rw [if_pos q] at hk
      exact hk
    · rw [if_neg q] at hk
      exact hk
  · cases hs

set_option maxHeartbeats 1000000 in
theorem mz_w_icmp_gt {p : Program} {l : Launch} {e : Env} {R : Room} {s : State} {m : MethodId} {args : Array Value} {below : List Frame} {meth : Method} {c : Code} {cells slots : Nat} {Q : State → Prop} {S0 : mz_Sh} {T0 : List (List Int32)} {T : List mz_R} {cl : List vw_C} {NM : List String} {ST : List (String × Nat × String)} {G0 : List Jvm.Cond} {gt : Nat → Option Jvm.Cond} {D : va_G} {cI : ClassId} {ad : Nat → Nat} {A : Nat → Prop} {nL Ln : Nat} {xs : Nat → Int32} {own : String} {cc : ByteArray} (F : mz_Fix p R s m args c cells slots S0 T0 T cl NM ST G0 gt D cI ad A nL Ln xs own cc) {pc : Nat} {L : List (Option Value)} {S : List Value} {mem : mz_M} {f : mz_I} {c1 : mz_C} {o : Int} (hd : decode cc pc = .ok (.if_icmp .gt o, 3)) (hl : mz_lk T cl NM ST gt own (.if_icmp .gt o) f = true) (hs : mz_step S0 T0 (.if_icmp .gt o) f pc L S mem = some (.inl c1)) (k : mz_Z p l e R s m args below meth c cells slots Q S0 cl D cI ad A nL Ln xs c1.1 c1.2.1 c1.2.2.1 c1.2.2.2) : mz_Z p l e R s m args below meth c cells slots Q S0 cl D cI ad A nL Ln xs pc L S mem := by
  simp only [mz_step, mz_jump] at hs
  split at hs
  · obtain ⟨hb, hs⟩ := mz_cond hs
    cases hs
    intro ls H locs h1 h2 h3 h4
    have hk := k ls H locs h1 h2 h3 h4
    refine lv_icmp_gt F.1.1 F.1.2.1 hd (mz_tg_ok hb) (fun q => ?_) (fun q => ?_)
    · rw [if_pos q] at hk
      exact hk
    · rw [if_neg q] at hk
      exact hk
  · cases hs

set_option maxHeartbeats 1000000 in
theorem mz_w_icmp_le {p : Program} {l : Launch} {e : Env} {R : Room} {s : State} {m : MethodId} {args : Array Value} {below : List Frame} {meth : Method} {c : Code} {cells slots : Nat} {Q : State → Prop} {S0 : mz_Sh} {T0 : List (List Int32)} {T : List mz_R} {cl : List vw_C} {NM : List String} {ST : List (String × Nat × String)} {G0 : List Jvm.Cond} {gt : Nat → Option Jvm.Cond} {D : va_G} {cI : ClassId} {ad : Nat → Nat} {A : Nat → Prop} {nL Ln : Nat} {xs : Nat → Int32} {own : String} {cc : ByteArray} (F : mz_Fix p R s m args c cells slots S0 T0 T cl NM ST G0 gt D cI ad A nL Ln xs own cc) {pc : Nat} {L : List (Option Value)} {S : List Value} {mem : mz_M} {f : mz_I} {c1 : mz_C} {o : Int} (hd : decode cc pc = .ok (.if_icmp .le o, 3)) (hl : mz_lk T cl NM ST gt own (.if_icmp .le o) f = true) (hs : mz_step S0 T0 (.if_icmp .le o) f pc L S mem = some (.inl c1)) (k : mz_Z p l e R s m args below meth c cells slots Q S0 cl D cI ad A nL Ln xs c1.1 c1.2.1 c1.2.2.1 c1.2.2.2) : mz_Z p l e R s m args below meth c cells slots Q S0 cl D cI ad A nL Ln xs pc L S mem := by
  simp only [mz_step, mz_jump] at hs
  split at hs
  · obtain ⟨hb, hs⟩ := mz_cond hs
    cases hs
    intro ls H locs h1 h2 h3 h4
    have hk := k ls H locs h1 h2 h3 h4
    refine lv_icmp_le F.1.1 F.1.2.1 hd (mz_tg_ok hb) (fun q => ?_) (fun q => ?_)
    · rw [if_pos q] at hk
      exact hk
    · rw [if_neg q] at hk
      exact hk
  · cases hs

set_option maxHeartbeats 1000000 in
theorem mz_w_goto {p : Program} {l : Launch} {e : Env} {R : Room} {s : State} {m : MethodId} {args : Array Value} {below : List Frame} {meth : Method} {c : Code} {cells slots : Nat} {Q : State → Prop} {S0 : mz_Sh} {T0 : List (List Int32)} {T : List mz_R} {cl : List vw_C} {NM : List String} {ST : List (String × Nat × String)} {G0 : List Jvm.Cond} {gt : Nat → Option Jvm.Cond} {D : va_G} {cI : ClassId} {ad : Nat → Nat} {A : Nat → Prop} {nL Ln : Nat} {xs : Nat → Int32} {own : String} {cc : ByteArray} (F : mz_Fix p R s m args c cells slots S0 T0 T cl NM ST G0 gt D cI ad A nL Ln xs own cc) {pc : Nat} {L : List (Option Value)} {S : List Value} {mem : mz_M} {f : mz_I} {c1 : mz_C} {o : Int} (hd : decode cc pc = .ok (.goto o, 3)) (hl : mz_lk T cl NM ST gt own (.goto o) f = true) (hs : mz_step S0 T0 (.goto o) f pc L S mem = some (.inl c1)) (k : mz_Z p l e R s m args below meth c cells slots Q S0 cl D cI ad A nL Ln xs c1.1 c1.2.1 c1.2.2.1 c1.2.2.2) : mz_Z p l e R s m args below meth c cells slots Q S0 cl D cI ad A nL Ln xs pc L S mem := by
  simp only [mz_step, mz_next] at hs
  obtain ⟨hb, hs⟩ := mz_cond hs
  cases hs
  exact fun ls H locs h1 h2 h3 h4 => lv_goto F.1.1 F.1.2.1 hd (mz_tg_ok hb) (k ls H locs h1 h2 h3 h4)

set_option maxHeartbeats 1000000 in
theorem mz_w_tableswitch {p : Program} {l : Launch} {e : Env} {R : Room} {s : State} {m : MethodId} {args : Array Value} {below : List Frame} {meth : Method} {c : Code} {cells slots : Nat} {Q : State → Prop} {S0 : mz_Sh} {T0 : List (List Int32)} {T : List mz_R} {cl : List vw_C} {NM : List String} {ST : List (String × Nat × String)} {G0 : List Jvm.Cond} {gt : Nat → Option Jvm.Cond} {D : va_G} {cI : ClassId} {ad : Nat → Nat} {A : Nat → Prop} {nL Ln : Nat} {xs : Nat → Int32} {own : String} {cc : ByteArray} (F : mz_Fix p R s m args c cells slots S0 T0 T cl NM ST G0 gt D cI ad A nL Ln xs own cc) {pc : Nat} {L : List (Option Value)} {S : List Value} {mem : mz_M} {f : mz_I} {c1 : mz_C} {d lo hi : Int} {offs : Array Int} {len : Nat} (hd : decode cc pc = .ok (.tableswitch d lo hi offs, len)) (hl : mz_lk T cl NM ST gt own (.tableswitch d lo hi offs) f = true) (hs : mz_step S0 T0 (.tableswitch d lo hi offs) f pc L S mem = some (.inl c1)) (k : mz_Z p l e R s m args below meth c cells slots Q S0 cl D cI ad A nL Ln xs c1.1 c1.2.1 c1.2.2.1 c1.2.2.2) : mz_Z p l e R s m args below meth c cells slots Q S0 cl D cI ad A nL Ln xs pc L S mem := by
  simp only [mz_step, mz_next] at hs
  split at hs
  · rename_i x S1
    cases hb : (decide (x.toInt < lo) || decide (hi < x.toInt)) with
    | true =>
      rw [hb] at hs
      obtain ⟨hb2, hs⟩ := mz_cond (x := some _) hs
      cases hs
      exact fun ls H locs h1 h2 h3 h4 => lv_tableOut F.1.1 F.1.2.1 hd (by simpa using hb) (mz_tg_ok hb2) (k ls H locs h1 h2 h3 h4)
    | false =>
      rw [hb] at hs
      simp only [cond_false] at hs
      split at hs
      · rename_i o ho
        obtain ⟨hb2, hs⟩ := mz_cond hs
        cases hs
        have hb3 : ¬ x.toInt < lo ∧ ¬ hi < x.toInt := by
          have := hb
          simp only [Bool.or_eq_false_iff, decide_eq_false_iff_not] at this
          exact this
        exact fun ls H locs h1 h2 h3 h4 => lv_tableIn F.1.1 F.1.2.1 hd hb3.1 hb3.2 ho (mz_tg_ok hb2) (k ls H locs h1 h2 h3 h4)
      · cases hs
  · cases hs

set_option maxHeartbeats 1000000 in
theorem mz_w_lookupswitch {p : Program} {l : Launch} {e : Env} {R : Room} {s : State} {m : MethodId} {args : Array Value} {below : List Frame} {meth : Method} {c : Code} {cells slots : Nat} {Q : State → Prop} {S0 : mz_Sh} {T0 : List (List Int32)} {T : List mz_R} {cl : List vw_C} {NM : List String} {ST : List (String × Nat × String)} {G0 : List Jvm.Cond} {gt : Nat → Option Jvm.Cond} {D : va_G} {cI : ClassId} {ad : Nat → Nat} {A : Nat → Prop} {nL Ln : Nat} {xs : Nat → Int32} {own : String} {cc : ByteArray} (F : mz_Fix p R s m args c cells slots S0 T0 T cl NM ST G0 gt D cI ad A nL Ln xs own cc) {pc : Nat} {L : List (Option Value)} {S : List Value} {mem : mz_M} {f : mz_I} {c1 : mz_C} {d : Int} {ps : Array (Int × Int)} {len : Nat} (hd : decode cc pc = .ok (.lookupswitch d ps, len)) (hl : mz_lk T cl NM ST gt own (.lookupswitch d ps) f = true) (hs : mz_step S0 T0 (.lookupswitch d ps) f pc L S mem = some (.inl c1)) (k : mz_Z p l e R s m args below meth c cells slots Q S0 cl D cI ad A nL Ln xs c1.1 c1.2.1 c1.2.2.1 c1.2.2.2) : mz_Z p l e R s m args below meth c cells slots Q S0 cl D cI ad A nL Ln xs pc L S mem := by
  simp only [mz_step, mz_next] at hs
  split at hs
  · obtain ⟨hb, hs⟩ := mz_cond hs
    cases hs
    rw [Bool.and_eq_true] at hb
    exact fun ls H locs h1 h2 h3 h4 => lv_lookup F.1.1 F.1.2.1 hd hb.1 rfl (mz_tg_ok hb.2) (k ls H locs h1 h2 h3 h4)
  · cases hs

set_option maxHeartbeats 1000000 in
theorem mz_w_getfield {p : Program} {l : Launch} {e : Env} {R : Room} {s : State} {m : MethodId} {args : Array Value} {below : List Frame} {meth : Method} {c : Code} {cells slots : Nat} {Q : State → Prop} {S0 : mz_Sh} {T0 : List (List Int32)} {T : List mz_R} {cl : List vw_C} {NM : List String} {ST : List (String × Nat × String)} {G0 : List Jvm.Cond} {gt : Nat → Option Jvm.Cond} {D : va_G} {cI : ClassId} {ad : Nat → Nat} {A : Nat → Prop} {nL Ln : Nat} {xs : Nat → Int32} {own : String} {cc : ByteArray} (F : mz_Fix p R s m args c cells slots S0 T0 T cl NM ST G0 gt D cI ad A nL Ln xs own cc) {pc : Nat} {L : List (Option Value)} {S : List Value} {mem : mz_M} {f : mz_I} {c1 : mz_C} {x : Nat} (hd : decode cc pc = .ok (.getfield x, 3)) (hl : mz_lk T cl NM ST gt own (.getfield x) f = true) (hs : mz_step S0 T0 (.getfield x) f pc L S mem = some (.inl c1)) (k : mz_Z p l e R s m args below meth c cells slots Q S0 cl D cI ad A nL Ln xs c1.1 c1.2.1 c1.2.2.1 c1.2.2.2) : mz_Z p l e R s m args below meth c cells slots Q S0 cl D cI ad A nL Ln xs pc L S mem := by
  simp only [mz_lk] at hl
  simp only [mz_step, mz_next] at hs
  split at hs
  · rename_i i S1
    cases hf : (f.1 == 5) with
    | true =>
      rw [hf] at hs hl
      obtain ⟨hb, hs⟩ := mz_cond (x := some _) hs
      cases hs
      obtain ⟨j, hj, rfl⟩ := mz_isT_k hb
      have hST := F.2.1.2.2.2.2.2.2.1.1 j hj
      dsimp only at hST
      rw [show 2100 + j = 2000 + j + 100 by omega] at hST
      cases hg : (f.2.1 == 0) with
      | true =>
        rw [hg] at hl
        exact fun ls H locs h1 h2 h3 h4 => vk_getf F.1.1 F.1.2.1 hST.2.2.1 h3 F.1.2.2.2.1 (F.1.2.2.2.2 _ (mz_Gi F (of_decide_eq_true hl) rfl)) (fun _ h => h) hd (by have hk := k ls H locs h1 h2 h3 h4; rw [hg] at hk; exact hk)
      | false =>
        rw [hg] at hl
        exact fun ls H locs h1 h2 h3 h4 => vk_getf F.1.1 F.1.2.1 hST.2.1 h3 F.1.2.2.2.1 (F.1.2.2.2.2 _ (mz_Gi F (of_decide_eq_true hl) rfl)) (fun _ h => h) hd (by have hk := k ls H locs h1 h2 h3 h4; rw [hg] at hk; exact hk)
    | false =>
      rw [hf] at hs hl
      simp only [cond_false] at hs hl
      split at hs
      · rename_i v hv
        cases hs
        split at hl
        · rename_i q hq
          rw [Bool.and_eq_true] at hl
          obtain ⟨fs, h5, h6⟩ := mz_get_spec (ad := ad) hv
          exact fun ls H locs h1 h2 h3 h4 => va_get (C := q.1) (T := q.2.1) (N := q.2.2) F.1.1 F.1.2.1 F.1.2.2.2.2 (F.2.2.2.1 _ _ hq).1 F.1.2.2.2.1 F.2.1.1 h2 i (mz_w_obj h5) hq f.2.2.1 (of_decide_eq_true hl.1) (F.1.2.2.2.2 _ (mz_Gi F (of_decide_eq_true hl.2) rfl)) (fun _ h => h) h6 hd (k ls H locs h1 h2 h3 h4)
        · cases hl
      · cases hs
  · cases hs

set_option maxHeartbeats 1000000 in
theorem mz_w_putfield {p : Program} {l : Launch} {e : Env} {R : Room} {s : State} {m : MethodId} {args : Array Value} {below : List Frame} {meth : Method} {c : Code} {cells slots : Nat} {Q : State → Prop} {S0 : mz_Sh} {T0 : List (List Int32)} {T : List mz_R} {cl : List vw_C} {NM : List String} {ST : List (String × Nat × String)} {G0 : List Jvm.Cond} {gt : Nat → Option Jvm.Cond} {D : va_G} {cI : ClassId} {ad : Nat → Nat} {A : Nat → Prop} {nL Ln : Nat} {xs : Nat → Int32} {own : String} {cc : ByteArray} (F : mz_Fix p R s m args c cells slots S0 T0 T cl NM ST G0 gt D cI ad A nL Ln xs own cc) {pc : Nat} {L : List (Option Value)} {S : List Value} {mem : mz_M} {f : mz_I} {c1 : mz_C} {x : Nat} (hd : decode cc pc = .ok (.putfield x, 3)) (hl : mz_lk T cl NM ST gt own (.putfield x) f = true) (hs : mz_step S0 T0 (.putfield x) f pc L S mem = some (.inl c1)) (k : mz_Z p l e R s m args below meth c cells slots Q S0 cl D cI ad A nL Ln xs c1.1 c1.2.1 c1.2.2.1 c1.2.2.2) : mz_Z p l e R s m args below meth c cells slots Q S0 cl D cI ad A nL Ln xs pc L S mem := by
  simp only [mz_lk] at hl
  simp only [mz_step, mz_next] at hs
  split at hs
  · rename_i v i S1
    split at hs
    · rename_i m1 hm
      cases hs
      split at hl
      · rename_i q hq
        rw [Bool.and_eq_true] at hl
        obtain ⟨fs, g, x1, h5, h6, rfl, h7⟩ := mz_put_spec hm
        obtain ⟨q1, hq1, hlen, hsh⟩ := F.2.2.2.2.1 _ _ _ h5
        have hqe : q1 = q := Option.some.inj (hq1.symm.trans hq)
        subst hqe
        obtain ⟨hin, hnm, ty0, hty⟩ := F.2.2.2.1 _ _ hq
        have hi : i < 1000 := Nat.lt_of_lt_of_le (mz_lt h5) F.2.2.2.2.2.2.1
        obtain ⟨t, ht1, ht2, ht3, ht4, ht5⟩ : ∃ t, (q1.2.1 f.2.2.1).2.2.2 = false ∧ parseFieldDescriptor (q1.2.1 f.2.2.1).2.2.1 = some t ∧ narrow t (mz_cvv ad v) = mz_cvv ad v ∧ fits t (mz_cvv ad v) = true ∧ mz_cvv ad v = mz_fv ad (mz_up mem i f.2.2.1 x1) i f.2.2.1 g := by
          rcases h7 with ⟨rfl, rfl⟩ | ⟨rfl, rfl, h8⟩ | ⟨rfl, r, rfl, h8, rfl⟩
          · exact ⟨.int, ((hsh _ _ h6).1 rfl).1, ((hsh _ _ h6).1 rfl).2, rfl, rfl, by simp [mz_cvv, mz_fv, mz_up_eq]⟩
          · refine ⟨.boolean, ((hsh _ _ h6).2.1 rfl).1, ((hsh _ _ h6).2.1 rfl).2, ?_, ?_, by simp [mz_cvv, mz_fv, mz_up_eq]⟩
            · rcases h8 with rfl | rfl <;> rfl
            · rcases h8 with rfl | rfl <;> rfl
          · exact ⟨_, ((hsh _ _ h6).2.2 rfl).1, ((hsh _ _ h6).2.2 rfl).2, rfl, rfl, by simp [mz_cvv, mz_fv, mz_up_eq, nI_clamp (show r < 2 ^ 31 by omega)]⟩
        intro ls H locs h1 h2 h3 h4
        refine va_put (C := q1.1) (T := q1.2.1) (N := q1.2.2) (ty := t) F.1.1 F.1.2.1 F.1.2.2.2.2 hin ty0 hty hnm F.1.2.2.2.1 F.2.1.1 h2 (F.2.1.2.1 mem) h3 i (mz_w_obj h5) hq f.2.2.1 (of_decide_eq_true hl.1) (F.1.2.2.2.2 _ (mz_Gi F (of_decide_eq_true hl.2) rfl)) (fun _ h => h) ht1 ht2 ht3 ht4 (by rw [List.length_mapIdx]; exact (List.getElem?_eq_some_iff.mp h6).1) hd (fun H1 locs1 a1 a2 a3 => ?_)
        rw [ht5, mz_put_cell h5 h6] at a1
        exact k ls H1 locs1 h1 a1 a3 (mz_scr_up hi h4)
      · cases hl
    · cases hs
  · cases hs

set_option maxHeartbeats 1000000 in
theorem mz_w_getstatic {p : Program} {l : Launch} {e : Env} {R : Room} {s : State} {m : MethodId} {args : Array Value} {below : List Frame} {meth : Method} {c : Code} {cells slots : Nat} {Q : State → Prop} {S0 : mz_Sh} {T0 : List (List Int32)} {T : List mz_R} {cl : List vw_C} {NM : List String} {ST : List (String × Nat × String)} {G0 : List Jvm.Cond} {gt : Nat → Option Jvm.Cond} {D : va_G} {cI : ClassId} {ad : Nat → Nat} {A : Nat → Prop} {nL Ln : Nat} {xs : Nat → Int32} {own : String} {cc : ByteArray} (F : mz_Fix p R s m args c cells slots S0 T0 T cl NM ST G0 gt D cI ad A nL Ln xs own cc) {pc : Nat} {L : List (Option Value)} {S : List Value} {mem : mz_M} {f : mz_I} {c1 : mz_C} {x : Nat} (hd : decode cc pc = .ok (.getstatic x, 3)) (hl : mz_lk T cl NM ST gt own (.getstatic x) f = true) (hs : mz_step S0 T0 (.getstatic x) f pc L S mem = some (.inl c1)) (k : mz_Z p l e R s m args below meth c cells slots Q S0 cl D cI ad A nL Ln xs c1.1 c1.2.1 c1.2.2.1 c1.2.2.2) : mz_Z p l e R s m args below meth c cells slots Q S0 cl D cI ad A nL Ln xs pc L S mem := by
  simp only [mz_lk] at hl
  simp only [mz_step, mz_next] at hs
  obtain rfl := Sum.inl.inj (Option.some.inj hs)
  cases hf : (f.1 == 6) with
  | true =>
    rw [hf] at hl
    exact fun ls H locs h1 h2 h3 h4 => va_gets F.1.1 F.1.2.1 F.2.1.2.2.2.2.2.2.2.1 h3 F.1.2.2.2.1 (F.1.2.2.2.2 _ (mz_Gi F (of_decide_eq_true hl) rfl)) (fun _ h => h) hd (by have hk := k ls H locs h1 h2 h3 h4; rw [hf] at hk; exact hk)
  | false =>
    rw [hf] at hl
    simp only [cond_false] at hl
    split at hl
    · rename_i n hn
      have hZ := F.2.1.2.2.2.1 _ _ hn
      cases hg : (f.2.2.1 == 0) with
      | true =>
        rw [hg] at hl
        exact fun ls H locs h1 h2 h3 h4 => va_gets F.1.1 F.1.2.1 hZ h3 F.1.2.2.2.1 (F.1.2.2.2.2 _ (mz_Gi F (of_decide_eq_true hl) rfl)) (fun _ h => h) hd (by have hk := k ls H locs h1 h2 h3 h4; rw [hf] at hk; exact hk)
      | false =>
        rw [hg] at hl
        exact fun ls H locs h1 h2 h3 h4 => va_getsN F.1.1 F.1.2.1 hZ h3 F.1.2.2.2.1 (va_Nw.use rfl (F.2.1.2.2.2.2.2.2.2.2.1 _ (F.2.2.2.2.2.2.2.2.2 _ _ (of_decide_eq_true hl)) rfl)) (fun _ h => h) hd (by have hk := k ls H locs h1 h2 h3 h4; rw [hf] at hk; exact hk)
    · cases hl

theorem mz_len_spec {S0 : mz_Sh} {T0 : List (List Int32)} {m : mz_M} {i n : Nat} (h : mz_len S0 T0 m i = some n) : (i < 1000 ∧ S0[i]? = some (.inl n)) ∨ (∃ j t, i = 1000 + j ∧ T0[j]? = some t ∧ n = t.length) ∨ (∃ j, j < 4 ∧ i = 2100 + j ∧ ¬ i < 1000 + T0.length ∧ n = (mz_by.getD j []).length) ∨ (i = 3000 ∧ ¬ i < 1000 + T0.length ∧ n = (m 3001 0).toNatClampNeg) := by
  unfold mz_len at h
  cases h1 : decide (i < 1000) with
  | true =>
    rw [h1] at h
    have h1 := of_decide_eq_true h1
    simp only [cond_true] at h
    split at h
    · rename_i z hz
      cases h
      exact Or.inl ⟨h1, hz⟩
    · cases h
  | false =>
    rw [h1] at h
    have h1 := of_decide_eq_false h1
    simp only [cond_false] at h
    cases h2 : decide (i < 1000 + T0.length) with
    | true =>
      rw [h2] at h
      have h2 := of_decide_eq_true h2
      simp only [cond_true] at h
      obtain rfl := Option.some.inj h
      have h3 : i - 1000 < T0.length := by omega
      exact Or.inr (Or.inl ⟨i - 1000, T0[i - 1000], by omega, List.getElem?_eq_getElem h3, by simp [mz_ro, List.getD, List.getElem?_eq_getElem h3]⟩)
    | false =>
      rw [h2] at h
      have h2 := of_decide_eq_false h2
      simp only [cond_false] at h
      cases h3 : mz_isB i with
      | true =>
        rw [h3] at h
        simp only [cond_true] at h
        obtain rfl := Option.some.inj h
        obtain ⟨j, hj, rfl⟩ := mz_isB_k h3
        exact Or.inr (Or.inr (Or.inl ⟨j, hj, rfl, h2, by rw [show 2100 + j - 2100 = j by omega]⟩))
      | false =>
        rw [h3] at h
        simp only [cond_false] at h
        obtain ⟨h4, h⟩ := mz_cond h
        obtain rfl := Option.some.inj h
        exact Or.inr (Or.inr (Or.inr ⟨by simpa using h4, h2, rfl⟩))

set_option maxHeartbeats 1000000 in
theorem mz_w_arraylength {p : Program} {l : Launch} {e : Env} {R : Room} {s : State} {m : MethodId} {args : Array Value} {below : List Frame} {meth : Method} {c : Code} {cells slots : Nat} {Q : State → Prop} {S0 : mz_Sh} {T0 : List (List Int32)} {T : List mz_R} {cl : List vw_C} {NM : List String} {ST : List (String × Nat × String)} {G0 : List Jvm.Cond} {gt : Nat → Option Jvm.Cond} {D : va_G} {cI : ClassId} {ad : Nat → Nat} {A : Nat → Prop} {nL Ln : Nat} {xs : Nat → Int32} {own : String} {cc : ByteArray} (F : mz_Fix p R s m args c cells slots S0 T0 T cl NM ST G0 gt D cI ad A nL Ln xs own cc) {pc : Nat} {L : List (Option Value)} {S : List Value} {mem : mz_M} {f : mz_I} {c1 : mz_C} (hd : decode cc pc = .ok (.arraylength, 1)) (hl : mz_lk T cl NM ST gt own (.arraylength) f = true) (hs : mz_step S0 T0 (.arraylength) f pc L S mem = some (.inl c1)) (k : mz_Z p l e R s m args below meth c cells slots Q S0 cl D cI ad A nL Ln xs c1.1 c1.2.1 c1.2.2.1 c1.2.2.2) : mz_Z p l e R s m args below meth c cells slots Q S0 cl D cI ad A nL Ln xs pc L S mem := by
  simp only [mz_step, mz_next] at hs
  split at hs
  · rename_i i S1
    split at hs
    · rename_i n hn
      cases hs
      intro ls H locs h1 h2 h3 h4
      have hk := k ls H locs h1 h2 h3 h4
      rcases mz_len_spec hn with ⟨h5, h6⟩ | ⟨i2, t, rfl, h6, rfl⟩ | ⟨j, h5, rfl, h6, rfl⟩ | ⟨rfl, h5, rfl⟩
      · exact va_alen F.1.1 F.1.2.1 F.2.1.1 h2 i 0 (mz_w_arr h6) rfl rfl hd hk
      · have hT := F.2.1.2.2.2.2.1 _ _ h6
        exact va_tlen F.1.1 F.1.2.1 hT h3 rfl hd hk
      · have hT := (F.2.1.2.2.2.2.2.2.1.1 j h5).2.2.2
        rcases (show j = 0 ∨ j = 1 ∨ j = 2 ∨ j = 3 by omega) with rfl | rfl | rfl | rfl <;> exact va_tlen F.1.1 F.1.2.1 hT h3 rfl hd hk
      · obtain ⟨hX, hX2, hX3⟩ := F.2.1.2.2.2.2.2.2.2.2.2
        refine va_slen F.1.1 F.1.2.1 hX hX2 hX3 h3 hd ?_
        rw [h4.2.1, nI_clamp h4.2.2] at hk
        exact hk
    · cases hs
  · cases hs

set_option maxHeartbeats 1000000 in
theorem mz_w_iaload {p : Program} {l : Launch} {e : Env} {R : Room} {s : State} {m : MethodId} {args : Array Value} {below : List Frame} {meth : Method} {c : Code} {cells slots : Nat} {Q : State → Prop} {S0 : mz_Sh} {T0 : List (List Int32)} {T : List mz_R} {cl : List vw_C} {NM : List String} {ST : List (String × Nat × String)} {G0 : List Jvm.Cond} {gt : Nat → Option Jvm.Cond} {D : va_G} {cI : ClassId} {ad : Nat → Nat} {A : Nat → Prop} {nL Ln : Nat} {xs : Nat → Int32} {own : String} {cc : ByteArray} (F : mz_Fix p R s m args c cells slots S0 T0 T cl NM ST G0 gt D cI ad A nL Ln xs own cc) {pc : Nat} {L : List (Option Value)} {S : List Value} {mem : mz_M} {f : mz_I} {c1 : mz_C} (hd : decode cc pc = .ok (.iaload, 1)) (hl : mz_lk T cl NM ST gt own (.iaload) f = true) (hs : mz_step S0 T0 (.iaload) f pc L S mem = some (.inl c1)) (k : mz_Z p l e R s m args below meth c cells slots Q S0 cl D cI ad A nL Ln xs c1.1 c1.2.1 c1.2.2.1 c1.2.2.2) : mz_Z p l e R s m args below meth c cells slots Q S0 cl D cI ad A nL Ln xs pc L S mem := by
  simp only [mz_step, mz_next] at hs
  split at hs
  · rename_i j i S1
    split at hs
    · rename_i n hn
      obtain ⟨hb, hs⟩ := mz_cond hs
      cases hs
      obtain ⟨hg, hn⟩ := mz_condn hn
      intro ls H locs h1 h2 h3 h4
      have hk := k ls H locs h1 h2 h3 h4
      rcases mz_len_spec hn with ⟨h5, h6⟩ | ⟨i2, t, rfl, h6, rfl⟩ | ⟨j2, h5, rfl, h6, rfl⟩ | ⟨rfl, h5, rfl⟩
      · refine va_iald F.1.1 F.1.2.1 F.2.1.1 h2 i 0 (mz_w_arr h6) rfl (mz_in_of hb) hd ?_
        have e : mz_val T0 mem i j.toNatClampNeg = mem i j.toNatClampNeg := by simp [mz_val, h5]
        rw [e] at hk
        exact hk
      · have hT := F.2.1.2.2.2.2.1 _ _ h6
        refine va_ti F.1.1 F.1.2.1 hT h3 (mz_in_of hb) rfl hd ?_
        have h7 : i2 < T0.length := (List.getElem?_eq_some_iff.mp h6).1
        have e : mz_val T0 mem (1000 + i2) j.toNatClampNeg = t.getD j.toNatClampNeg 0 := by
          simp only [mz_val, mz_ro]
          rw [show decide (1000 + i2 < 1000) = false from decide_eq_false (by omega), show decide (1000 + i2 < 1000 + T0.length) = true from decide_eq_true (by omega), show 1000 + i2 - 1000 = i2 by omega]
          simp [List.getD, h6]
        rw [e] at hk
        exact hk
      · rw [mz_isR_no h5] at hg
        cases hg
      · obtain ⟨hX, hX2, hX3⟩ := F.2.1.2.2.2.2.2.2.2.2.2
        rw [h4.2.1, nI_clamp h4.2.2] at hb
        refine va_sld F.1.1 F.1.2.1 hX hX2 hX3 h3 (mz_in_of hb) hd ?_
        have e : mz_val T0 mem 3000 j.toNatClampNeg = xs j.toNatClampNeg := by
          simp only [mz_val]
          rw [show decide (3000 < 1000) = false from rfl, show decide (3000 < 1000 + T0.length) = false from decide_eq_false h5]
          exact h4.1 _
        rw [e] at hk
        exact hk
    · cases hs
  · cases hs

set_option maxHeartbeats 1000000 in
theorem mz_w_iastore {p : Program} {l : Launch} {e : Env} {R : Room} {s : State} {m : MethodId} {args : Array Value} {below : List Frame} {meth : Method} {c : Code} {cells slots : Nat} {Q : State → Prop} {S0 : mz_Sh} {T0 : List (List Int32)} {T : List mz_R} {cl : List vw_C} {NM : List String} {ST : List (String × Nat × String)} {G0 : List Jvm.Cond} {gt : Nat → Option Jvm.Cond} {D : va_G} {cI : ClassId} {ad : Nat → Nat} {A : Nat → Prop} {nL Ln : Nat} {xs : Nat → Int32} {own : String} {cc : ByteArray} (F : mz_Fix p R s m args c cells slots S0 T0 T cl NM ST G0 gt D cI ad A nL Ln xs own cc) {pc : Nat} {L : List (Option Value)} {S : List Value} {mem : mz_M} {f : mz_I} {c1 : mz_C} (hd : decode cc pc = .ok (.iastore, 1)) (hl : mz_lk T cl NM ST gt own (.iastore) f = true) (hs : mz_step S0 T0 (.iastore) f pc L S mem = some (.inl c1)) (k : mz_Z p l e R s m args below meth c cells slots Q S0 cl D cI ad A nL Ln xs c1.1 c1.2.1 c1.2.2.1 c1.2.2.2) : mz_Z p l e R s m args below meth c cells slots Q S0 cl D cI ad A nL Ln xs pc L S mem := by
  simp only [mz_step, mz_next] at hs
  split at hs
  · rename_i x j i S1
    split at hs
    · rename_i n hn
      obtain ⟨hb, hs⟩ := mz_cond hs
      cases hs
      intro ls H locs h1 h2 h3 h4
      have hi : i < 1000 := Nat.lt_of_lt_of_le (mz_lt hn) F.2.2.2.2.2.2.1
      refine va_iast F.1.1 F.1.2.1 F.2.1.1 h2 (F.2.1.2.1 mem) h3 i 0 (mz_w_arr hn) rfl (mz_in_of hb) hd (fun H1 locs1 a1 a2 a3 => ?_)
      rw [mz_arr_cell (m' := mz_up mem i j.toNatClampNeg x) hn (by funext b; rw [mz_up_eq]; rfl) (fun j hj => mz_up_ne hj)] at a1
      exact k ls H1 locs1 h1 a1 a3 (mz_scr_up hi h4)
    · cases hs
  · cases hs

set_option maxHeartbeats 1000000 in
theorem mz_w_baload {p : Program} {l : Launch} {e : Env} {R : Room} {s : State} {m : MethodId} {args : Array Value} {below : List Frame} {meth : Method} {c : Code} {cells slots : Nat} {Q : State → Prop} {S0 : mz_Sh} {T0 : List (List Int32)} {T : List mz_R} {cl : List vw_C} {NM : List String} {ST : List (String × Nat × String)} {G0 : List Jvm.Cond} {gt : Nat → Option Jvm.Cond} {D : va_G} {cI : ClassId} {ad : Nat → Nat} {A : Nat → Prop} {nL Ln : Nat} {xs : Nat → Int32} {own : String} {cc : ByteArray} (F : mz_Fix p R s m args c cells slots S0 T0 T cl NM ST G0 gt D cI ad A nL Ln xs own cc) {pc : Nat} {L : List (Option Value)} {S : List Value} {mem : mz_M} {f : mz_I} {c1 : mz_C} (hd : decode cc pc = .ok (.baload, 1)) (hl : mz_lk T cl NM ST gt own (.baload) f = true) (hs : mz_step S0 T0 (.baload) f pc L S mem = some (.inl c1)) (k : mz_Z p l e R s m args below meth c cells slots Q S0 cl D cI ad A nL Ln xs c1.1 c1.2.1 c1.2.2.1 c1.2.2.2) : mz_Z p l e R s m args below meth c cells slots Q S0 cl D cI ad A nL Ln xs pc L S mem := by
  simp only [mz_step, mz_next] at hs
  split at hs
  · rename_i j i S1
    obtain ⟨hb, hs⟩ := mz_cond hs
    cases hs
    rw [Bool.and_eq_true] at hb
    obtain ⟨h5, h7⟩ := hb
    intro ls H locs h1 h2 h3 h4
    have hk := k ls H locs h1 h2 h3 h4
    obtain ⟨t, h8, rfl⟩ := mz_isB_k h5
    rw [show 2100 + t - 2100 = t by omega] at hk h7
    have hT := (F.2.1.2.2.2.2.2.2.1.1 t h8).2.2.2
    rcases (show t = 0 ∨ t = 1 ∨ t = 2 ∨ t = 3 by omega) with rfl | rfl | rfl | rfl <;> exact va_tb F.1.1 F.1.2.1 hT h3 (mz_in_of h7) rfl hd hk
  · cases hs

theorem mz_pw_at {p : Program} {R : Room} {s : State} {m : MethodId} {args : Array Value} {c : Code} {cells slots : Nat} {S0 : mz_Sh} {T0 : List (List Int32)} {T : List mz_R} {cl : List vw_C} {NM : List String} {ST : List (String × Nat × String)} {G0 : List Jvm.Cond} {gt : Nat → Option Jvm.Cond} {D : va_G} {cI : ClassId} {ad : Nat → Nat} {A : Nat → Prop} {nL Ln : Nat} {xs : Nat → Int32} {own : String} {cc : ByteArray} (F : mz_Fix p R s m args c cells slots S0 T0 T cl NM ST G0 gt D cI ad A nL Ln xs own cc) {w : Jvm.Cond} (h : w ∈ mz_pw) : w.before args s = true := F.1.2.2.2.2 _ (F.2.2.2.2.2.1 _ h)

set_option maxHeartbeats 1000000 in
theorem mz_w_invokestatic {p : Program} {l : Launch} {e : Env} {R : Room} {s : State} {m : MethodId} {args : Array Value} {below : List Frame} {meth : Method} {c : Code} {cells slots : Nat} {Q : State → Prop} {S0 : mz_Sh} {T0 : List (List Int32)} {T : List mz_R} {cl : List vw_C} {NM : List String} {ST : List (String × Nat × String)} {G0 : List Jvm.Cond} {gt : Nat → Option Jvm.Cond} {D : va_G} {cI : ClassId} {ad : Nat → Nat} {A : Nat → Prop} {nL Ln : Nat} {xs : Nat → Int32} {own : String} {cc : ByteArray} (F : mz_Fix p R s m args c cells slots S0 T0 T cl NM ST G0 gt D cI ad A nL Ln xs own cc) {pc : Nat} {L : List (Option Value)} {S : List Value} {mem : mz_M} {f : mz_I} {c1 : mz_C} {x : Nat} (hd : decode cc pc = .ok (.invokestatic x, 3)) (hl : mz_lk T cl NM ST gt own (.invokestatic x) f = true) (hs : mz_step S0 T0 (.invokestatic x) f pc L S mem = some (.inl c1)) (k : mz_Z p l e R s m args below meth c cells slots Q S0 cl D cI ad A nL Ln xs c1.1 c1.2.1 c1.2.2.1 c1.2.2.2) : mz_Z p l e R s m args below meth c cells slots Q S0 cl D cI ad A nL Ln xs pc L S mem := by
  simp only [mz_lk] at hl
  simp only [mz_step, mz_next] at hs
  split at hs
  · cases hs
  · cases hs
  · rename_i hf
    rw [hf] at hl
    split at hs
    · obtain ⟨hb, hs⟩ := mz_cond hs
      cases hs
      have hb := of_decide_eq_true hb
      exact fun ls H locs h1 h2 h3 h4 => va_mabs F.1.1 F.1.2.1 (F.1.2.2.1.trans h1.1.symm) F.1.2.2.2.1 (F.1.2.2.2.2 _ (mz_Gi F (of_decide_eq_true hl) rfl)) (mz_pw_at F (by simp [mz_pw])) (mz_pw_at F (by simp [mz_pw])) (mz_pw_at F (by simp [mz_pw])) F.2.2.1.1 (by rw [mz_cat_map]; have := F.2.2.1.2.1; omega) F.2.2.1.2.2.1 F.2.2.1.2.2.2 hd (k ls H locs h1 h2 h3 h4)
    · cases hs
  · rename_i hf
    rw [hf] at hl
    split at hs
    · obtain ⟨hb, hs⟩ := mz_cond hs
      cases hs
      have hb := of_decide_eq_true hb
      exact fun ls H locs h1 h2 h3 h4 => va_mmax F.1.1 F.1.2.1 (F.1.2.2.1.trans h1.1.symm) F.1.2.2.2.1 (F.1.2.2.2.2 _ (mz_Gi F (of_decide_eq_true hl) rfl)) (mz_pw_at F (by simp [mz_pw])) (mz_pw_at F (by simp [mz_pw])) (mz_pw_at F (by simp [mz_pw])) F.2.2.1.1 (by rw [mz_cat_map]; have := F.2.2.1.2.1; omega) F.2.2.1.2.2.1 F.2.2.1.2.2.2 hd (k ls H locs h1 h2 h3 h4)
    · cases hs
  · rename_i hf
    rw [hf] at hl
    split at hs
    · obtain ⟨hb, hs⟩ := mz_cond hs
      cases hs
      have hb := of_decide_eq_true hb
      exact fun ls H locs h1 h2 h3 h4 => va_mmin F.1.1 F.1.2.1 (F.1.2.2.1.trans h1.1.symm) F.1.2.2.2.1 (F.1.2.2.2.2 _ (mz_Gi F (of_decide_eq_true hl) rfl)) (mz_pw_at F (by simp [mz_pw])) (mz_pw_at F (by simp [mz_pw])) (mz_pw_at F (by simp [mz_pw])) F.2.2.1.1 (by rw [mz_cat_map]; have := F.2.2.1.2.1; omega) F.2.2.1.2.2.1 F.2.2.1.2.2.2 hd (k ls H locs h1 h2 h3 h4)
    · cases hs
  · rename_i hf
    rw [hf] at hl
    split at hs
    · rename_i n dp i sp j S1
      split at hs
      · rename_i ni nj hi hj
        obtain ⟨hb, hs⟩ := mz_cond hs
        cases hs
        simp only [Bool.and_eq_true, Bool.not_eq_true', decide_eq_false_iff_not, decide_eq_true_eq] at hb
        obtain ⟨⟨⟨⟨⟨b1, b2⟩, b3⟩, b4⟩, b5⟩, b6⟩ := hb
        intro ls H locs h1 h2 h3 h4
        have hi2 : i < 1000 := Nat.lt_of_lt_of_le (mz_lt hi) F.2.2.2.2.2.2.1
        refine va_copyi F.1.1 F.1.2.1 (F.1.2.2.1.trans h1.1.symm) F.1.2.2.2.1 (F.1.2.2.2.2 _ (mz_Gi F (of_decide_eq_true hl) rfl)) (mz_pw_at F (by simp [mz_pw])) (mz_pw_at F (by simp [mz_pw])) (mz_pw_at F (by simp [mz_pw])) F.2.1.1 h2 (F.2.1.2.1 mem) h3 j i 0 0 (mz_w_arr hj) (mz_w_arr hi) rfl rfl rfl b1 b2 b3 b4 b5 (fun _ _ => rfl) F.2.2.1.1 (by rw [mz_cat_map]; have h8 := F.2.2.1.2.1; have h9 : nativeFrameWords "java/lang/System" "arraycopy" 5 ≤ 40 := (by decide +kernel); omega) hd (fun H1 locs1 a1 a2 a3 => ?_)
        rw [mz_arr_cell (m' := mz_cp mem i j sp.toNatClampNeg dp.toNatClampNeg n.toNatClampNeg) hi (by
          funext b
          simp only [mz_cp, va_cpy, beq_self_eq_true, Bool.true_and]
          by_cases q1 : dp.toNatClampNeg ≤ b <;> by_cases q2 : b < dp.toNatClampNeg + n.toNatClampNeg <;> simp [q1, q2]) (fun j hj => mz_cp_ne hj)] at a1
        exact k ls H1 locs1 h1 a1 a3 (mz_scr_cp hi2 h4)
      · cases hs
    · cases hs
  · cases hs
end
section
/-! what the bytes say: an instruction's bytes, and that they are read so -/
def mz_b (code : ByteArray) (p : Nat) : Option Nat := if h : p < code.size then some code[p].toNat else none
theorem mz_u1 {code : ByteArray} {p v : Nat} (h : mz_b code p = some v) : (Reader.u1 : Reader DecodeError Nat) code p = .ok (v, p + 1) := by
  have h0 : (Reader.u1 : Reader DecodeError Nat) code p = (if h : p < code.size then .ok (code[p].toNat, p + 1) else .error (.truncated p)) := by
    unfold Reader.u1
    show (if h : p < code.size then _ else _ : Reader DecodeError Nat) code p = _
    split <;> rfl
  unfold mz_b at h
  split at h
  · rename_i hp
    cases h
    rw [h0, dif_pos hp]
  · cases h
theorem mz_else {α : Type} {a b : Int} {x y : Option α} (h : ¬ a = b) : cond (decide (a = b)) x y = y := by rw [decide_eq_false h]; rfl
def mz_sg (n : Nat) (o : Int) (k : Nat) : Option (List Nat) := cond (decide (Reader.signed 16 n = o)) (some [k, n / 256, n % 256]) none
def mz_sn (o : Int) : Nat := (o % 65536).toNat
def mz_enc : Instr → Option (List Nat)
  | .iaload => some [46]
  | .baload => some [51]
  | .iastore => some [79]
  | .pop => some [87]
  | .dup => some [89]
  | .dup_x1 => some [90]
  | .dup2 => some [92]
  | .iadd => some [96]
  | .isub => some [100]
  | .imul => some [104]
  | .idiv => some [108]
  | .irem => some [112]
  | .ineg => some [116]
  | .ishl => some [120]
  | .lshl => some [121]
  | .ishr => some [122]
  | .lshr => some [123]
  | .iushr => some [124]
  | .lushr => some [125]
  | .iand => some [126]
  | .land => some [127]
  | .ior => some [128]
  | .lor => some [129]
  | .ixor => some [130]
  | .i2l => some [133]
  | .l2i => some [136]
  | .i2b => some [145]
  | .i2c => some [146]
  | .i2s => some [147]
  | .ireturn => some [172]
  | .areturn => some [176]
  | .return_ => some [177]
  | .arraylength => some [190]
  | .iload_n 0 => some [26]
  | .iload_n 1 => some [27]
  | .iload_n 2 => some [28]
  | .iload_n 3 => some [29]
  | .lload_n 0 => some [30]
  | .lload_n 1 => some [31]
  | .lload_n 2 => some [32]
  | .lload_n 3 => some [33]
  | .aload_n 0 => some [42]
  | .aload_n 1 => some [43]
  | .aload_n 2 => some [44]
  | .aload_n 3 => some [45]
  | .istore_n 0 => some [59]
  | .istore_n 1 => some [60]
  | .istore_n 2 => some [61]
  | .istore_n 3 => some [62]
  | .astore_n 0 => some [75]
  | .astore_n 1 => some [76]
  | .astore_n 2 => some [77]
  | .astore_n 3 => some [78]
  | .iconst n => cond (decide (n = -1)) (some [2]) (cond (decide (n = 0)) (some [3]) (cond (decide (n = 1)) (some [4]) (cond (decide (n = 2)) (some [5]) (cond (decide (n = 3)) (some [6]) (cond (decide (n = 4)) (some [7]) (cond (decide (n = 5)) (some [8]) none))))))
  | .ldc x => some [18, x]
  | .iload x => some [21, x]
  | .aload x => some [25, x]
  | .istore x => some [54, x]
  | .astore x => some [58, x]
  | .bipush o => cond (decide (Reader.signed 8 (o % 256).toNat = o)) (some [16, (o % 256).toNat]) none
  | .ldc_w x => some [19, x / 256, x % 256]
  | .ldc2_w x => some [20, x / 256, x % 256]
  | .getstatic x => some [178, x / 256, x % 256]
  | .getfield x => some [180, x / 256, x % 256]
  | .putfield x => some [181, x / 256, x % 256]
  | .invokevirtual x => some [182, x / 256, x % 256]
  | .invokespecial x => some [183, x / 256, x % 256]
  | .invokestatic x => some [184, x / 256, x % 256]
  | .new x => some [187, x / 256, x % 256]
  | .checkcast x => some [192, x / 256, x % 256]
  | .sipush o => mz_sg (mz_sn o) o 17
  | .goto o => mz_sg (mz_sn o) o 167
  | .ifCond .eq o => mz_sg (mz_sn o) o 153
  | .ifCond .ne o => mz_sg (mz_sn o) o 154
  | .ifCond .lt o => mz_sg (mz_sn o) o 155
  | .ifCond .ge o => mz_sg (mz_sn o) o 156
  | .ifCond .gt o => mz_sg (mz_sn o) o 157
  | .ifCond .le o => mz_sg (mz_sn o) o 158
  | .if_icmp .eq o => mz_sg (mz_sn o) o 159
  | .if_icmp .ne o => mz_sg (mz_sn o) o 160
  | .if_icmp .lt o => mz_sg (mz_sn o) o 161
  | .if_icmp .ge o => mz_sg (mz_sn o) o 162
  | .if_icmp .gt o => mz_sg (mz_sn o) o 163
  | .if_icmp .le o => mz_sg (mz_sn o) o 164
  | .iinc x o => cond (decide (Reader.signed 8 (o % 256).toNat = o)) (some [132, x, (o % 256).toNat]) none
  | _ => none
set_option maxHeartbeats 4000000 in
theorem mz_enc_ok {ins : Instr} {l : List Nat} {code : ByteArray} {pc : Nat} (h : mz_enc ins = some l) (hb : ∀ (i v : Nat), l[i]? = some v → mz_b code (pc + i) = some v) : decode code pc = .ok (ins, l.length) := by
  cases ins with
  | iaload =>
    cases h
    have h0 := mz_u1 (p := pc) (hb 0 _ rfl)
    unfold decode Reader.runAt Decoder.instr
    show Except.bind (Except.bind ((Reader.u1 : Reader DecodeError Nat) code pc) _) _ = _
    rw [h0]
    show Except.ok (_, pc + 1 - pc) = _
    rw [Nat.add_sub_cancel_left]
    rfl
  | baload =>
    cases h
    have h0 := mz_u1 (p := pc) (hb 0 _ rfl)
    unfold decode Reader.runAt Decoder.instr
    show Except.bind (Except.bind ((Reader.u1 : Reader DecodeError Nat) code pc) _) _ = _
    rw [h0]
    show Except.ok (_, pc + 1 - pc) = _
    rw [Nat.add_sub_cancel_left]
    rfl
  | iastore =>
    cases h
    have h0 := mz_u1 (p := pc) (hb 0 _ rfl)
    unfold decode Reader.runAt Decoder.instr
    show Except.bind (Except.bind ((Reader.u1 : Reader DecodeError Nat) code pc) _) _ = _
    rw [h0]
    show Except.ok (_, pc + 1 - pc) = _
    rw [Nat.add_sub_cancel_left]
    rfl
  | pop =>
    cases h
    have h0 := mz_u1 (p := pc) (hb 0 _ rfl)
    unfold decode Reader.runAt Decoder.instr
    show Except.bind (Except.bind ((Reader.u1 : Reader DecodeError Nat) code pc) _) _ = _
    rw [h0]
    show Except.ok (_, pc + 1 - pc) = _
    rw [Nat.add_sub_cancel_left]
    rfl
  | dup =>
    cases h
    have h0 := mz_u1 (p := pc) (hb 0 _ rfl)
    unfold decode Reader.runAt Decoder.instr
    show Except.bind (Except.bind ((Reader.u1 : Reader DecodeError Nat) code pc) _) _ = _
    rw [h0]
    show Except.ok (_, pc + 1 - pc) = _
    rw [Nat.add_sub_cancel_left]
    rfl
  | dup_x1 =>
    cases h
    have h0 := mz_u1 (p := pc) (hb 0 _ rfl)
    unfold decode Reader.runAt Decoder.instr
    show Except.bind (Except.bind ((Reader.u1 : Reader DecodeError Nat) code pc) _) _ = _
    rw [h0]
    show Except.ok (_, pc + 1 - pc) = _
    rw [Nat.add_sub_cancel_left]
    rfl
  | dup2 =>
    cases h
    have h0 := mz_u1 (p := pc) (hb 0 _ rfl)
    unfold decode Reader.runAt Decoder.instr
    show Except.bind (Except.bind ((Reader.u1 : Reader DecodeError Nat) code pc) _) _ = _
    rw [h0]
    show Except.ok (_, pc + 1 - pc) = _
    rw [Nat.add_sub_cancel_left]
    rfl
  | iadd =>
    cases h
    have h0 := mz_u1 (p := pc) (hb 0 _ rfl)
    unfold decode Reader.runAt Decoder.instr
    show Except.bind (Except.bind ((Reader.u1 : Reader DecodeError Nat) code pc) _) _ = _
    rw [h0]
    show Except.ok (_, pc + 1 - pc) = _
    rw [Nat.add_sub_cancel_left]
    rfl
  | isub =>
    cases h
    have h0 := mz_u1 (p := pc) (hb 0 _ rfl)
    unfold decode Reader.runAt Decoder.instr
    show Except.bind (Except.bind ((Reader.u1 : Reader DecodeError Nat) code pc) _) _ = _
    rw [h0]
    show Except.ok (_, pc + 1 - pc) = _
    rw [Nat.add_sub_cancel_left]
    rfl
  | imul =>
    cases h
    have h0 := mz_u1 (p := pc) (hb 0 _ rfl)
    unfold decode Reader.runAt Decoder.instr
    show Except.bind (Except.bind ((Reader.u1 : Reader DecodeError Nat) code pc) _) _ = _
    rw [h0]
    show Except.ok (_, pc + 1 - pc) = _
    rw [Nat.add_sub_cancel_left]
    rfl
  | idiv =>
    cases h
    have h0 := mz_u1 (p := pc) (hb 0 _ rfl)
    unfold decode Reader.runAt Decoder.instr
    show Except.bind (Except.bind ((Reader.u1 : Reader DecodeError Nat) code pc) _) _ = _
    rw [h0]
    show Except.ok (_, pc + 1 - pc) = _
    rw [Nat.add_sub_cancel_left]
    rfl
  | irem =>
    cases h
    have h0 := mz_u1 (p := pc) (hb 0 _ rfl)
    unfold decode Reader.runAt Decoder.instr
    show Except.bind (Except.bind ((Reader.u1 : Reader DecodeError Nat) code pc) _) _ = _
    rw [h0]
    show Except.ok (_, pc + 1 - pc) = _
    rw [Nat.add_sub_cancel_left]
    rfl
  | ineg =>
    cases h
    have h0 := mz_u1 (p := pc) (hb 0 _ rfl)
    unfold decode Reader.runAt Decoder.instr
    show Except.bind (Except.bind ((Reader.u1 : Reader DecodeError Nat) code pc) _) _ = _
    rw [h0]
    show Except.ok (_, pc + 1 - pc) = _
    rw [Nat.add_sub_cancel_left]
    rfl
  | ishl =>
    cases h
    have h0 := mz_u1 (p := pc) (hb 0 _ rfl)
    unfold decode Reader.runAt Decoder.instr
    show Except.bind (Except.bind ((Reader.u1 : Reader DecodeError Nat) code pc) _) _ = _
    rw [h0]
    show Except.ok (_, pc + 1 - pc) = _
    rw [Nat.add_sub_cancel_left]
    rfl
  | lshl =>
    cases h
    have h0 := mz_u1 (p := pc) (hb 0 _ rfl)
    unfold decode Reader.runAt Decoder.instr
    show Except.bind (Except.bind ((Reader.u1 : Reader DecodeError Nat) code pc) _) _ = _
    rw [h0]
    show Except.ok (_, pc + 1 - pc) = _
    rw [Nat.add_sub_cancel_left]
    rfl
  | ishr =>
    cases h
    have h0 := mz_u1 (p := pc) (hb 0 _ rfl)
    unfold decode Reader.runAt Decoder.instr
    show Except.bind (Except.bind ((Reader.u1 : Reader DecodeError Nat) code pc) _) _ = _
    rw [h0]
    show Except.ok (_, pc + 1 - pc) = _
    rw [Nat.add_sub_cancel_left]
    rfl
  | lshr =>
    cases h
    have h0 := mz_u1 (p := pc) (hb 0 _ rfl)
    unfold decode Reader.runAt Decoder.instr
    show Except.bind (Except.bind ((Reader.u1 : Reader DecodeError Nat) code pc) _) _ = _
    rw [h0]
    show Except.ok (_, pc + 1 - pc) = _
    rw [Nat.add_sub_cancel_left]
    rfl
  | iushr =>
    cases h
    have h0 := mz_u1 (p := pc) (hb 0 _ rfl)
    unfold decode Reader.runAt Decoder.instr
    show Except.bind (Except.bind ((Reader.u1 : Reader DecodeError Nat) code pc) _) _ = _
    rw [h0]
    show Except.ok (_, pc + 1 - pc) = _
    rw [Nat.add_sub_cancel_left]
    rfl
  | lushr =>
    cases h
    have h0 := mz_u1 (p := pc) (hb 0 _ rfl)
    unfold decode Reader.runAt Decoder.instr
    show Except.bind (Except.bind ((Reader.u1 : Reader DecodeError Nat) code pc) _) _ = _
    rw [h0]
    show Except.ok (_, pc + 1 - pc) = _
    rw [Nat.add_sub_cancel_left]
    rfl
  | iand =>
    cases h
    have h0 := mz_u1 (p := pc) (hb 0 _ rfl)
    unfold decode Reader.runAt Decoder.instr
    show Except.bind (Except.bind ((Reader.u1 : Reader DecodeError Nat) code pc) _) _ = _
    rw [h0]
    show Except.ok (_, pc + 1 - pc) = _
    rw [Nat.add_sub_cancel_left]
    rfl
  | land =>
    cases h
    have h0 := mz_u1 (p := pc) (hb 0 _ rfl)
    unfold decode Reader.runAt Decoder.instr
    show Except.bind (Except.bind ((Reader.u1 : Reader DecodeError Nat) code pc) _) _ = _
    rw [h0]
    show Except.ok (_, pc + 1 - pc) = _
    rw [Nat.add_sub_cancel_left]
    rfl
  | ior =>
    cases h
    have h0 := mz_u1 (p := pc) (hb 0 _ rfl)
    unfold decode Reader.runAt Decoder.instr
    show Except.bind (Except.bind ((Reader.u1 : Reader DecodeError Nat) code pc) _) _ = _
    rw [h0]
    show Except.ok (_, pc + 1 - pc) = _
    rw [Nat.add_sub_cancel_left]
    rfl
  | lor =>
    cases h
    have h0 := mz_u1 (p := pc) (hb 0 _ rfl)
    unfold decode Reader.runAt Decoder.instr
    show Except.bind (Except.bind ((Reader.u1 : Reader DecodeError Nat) code pc) _) _ = _
    rw [h0]
    show Except.ok (_, pc + 1 - pc) = _
    rw [Nat.add_sub_cancel_left]
    rfl
  | ixor =>
    cases h
    have h0 := mz_u1 (p := pc) (hb 0 _ rfl)
    unfold decode Reader.runAt Decoder.instr
    show Except.bind (Except.bind ((Reader.u1 : Reader DecodeError Nat) code pc) _) _ = _
    rw [h0]
    show Except.ok (_, pc + 1 - pc) = _
    rw [Nat.add_sub_cancel_left]
    rfl
  | i2l =>
    cases h
    have h0 := mz_u1 (p := pc) (hb 0 _ rfl)
    unfold decode Reader.runAt Decoder.instr
    show Except.bind (Except.bind ((Reader.u1 : Reader DecodeError Nat) code pc) _) _ = _
    rw [h0]
    show Except.ok (_, pc + 1 - pc) = _
    rw [Nat.add_sub_cancel_left]
    rfl
  | l2i =>
    cases h
    have h0 := mz_u1 (p := pc) (hb 0 _ rfl)
    unfold decode Reader.runAt Decoder.instr
    show Except.bind (Except.bind ((Reader.u1 : Reader DecodeError Nat) code pc) _) _ = _
    rw [h0]
    show Except.ok (_, pc + 1 - pc) = _
    rw [Nat.add_sub_cancel_left]
    rfl
  | i2b =>
    cases h
    have h0 := mz_u1 (p := pc) (hb 0 _ rfl)
    unfold decode Reader.runAt Decoder.instr
    show Except.bind (Except.bind ((Reader.u1 : Reader DecodeError Nat) code pc) _) _ = _
    rw [h0]
    show Except.ok (_, pc + 1 - pc) = _
    rw [Nat.add_sub_cancel_left]
    rfl
  | i2c =>
    cases h
    have h0 := mz_u1 (p := pc) (hb 0 _ rfl)
    unfold decode Reader.runAt Decoder.instr
    show Except.bind (Except.bind ((Reader.u1 : Reader DecodeError Nat) code pc) _) _ = _
    rw [h0]
    show Except.ok (_, pc + 1 - pc) = _
    rw [Nat.add_sub_cancel_left]
    rfl
  | i2s =>
    cases h
    have h0 := mz_u1 (p := pc) (hb 0 _ rfl)
    unfold decode Reader.runAt Decoder.instr
    show Except.bind (Except.bind ((Reader.u1 : Reader DecodeError Nat) code pc) _) _ = _
    rw [h0]
    show Except.ok (_, pc + 1 - pc) = _
    rw [Nat.add_sub_cancel_left]
    rfl
  | ireturn =>
    cases h
    have h0 := mz_u1 (p := pc) (hb 0 _ rfl)
    unfold decode Reader.runAt Decoder.instr
    show Except.bind (Except.bind ((Reader.u1 : Reader DecodeError Nat) code pc) _) _ = _
    rw [h0]
    show Except.ok (_, pc + 1 - pc) = _
    rw [Nat.add_sub_cancel_left]
    rfl
  | areturn =>
    cases h
    have h0 := mz_u1 (p := pc) (hb 0 _ rfl)
    unfold decode Reader.runAt Decoder.instr
    show Except.bind (Except.bind ((Reader.u1 : Reader DecodeError Nat) code pc) _) _ = _
    rw [h0]
    show Except.ok (_, pc + 1 - pc) = _
    rw [Nat.add_sub_cancel_left]
    rfl
  | return_ =>
    cases h
    have h0 := mz_u1 (p := pc) (hb 0 _ rfl)
    unfold decode Reader.runAt Decoder.instr
    show Except.bind (Except.bind ((Reader.u1 : Reader DecodeError Nat) code pc) _) _ = _
    rw [h0]
    show Except.ok (_, pc + 1 - pc) = _
    rw [Nat.add_sub_cancel_left]
    rfl
  | arraylength =>
    cases h
    have h0 := mz_u1 (p := pc) (hb 0 _ rfl)
    unfold decode Reader.runAt Decoder.instr
    show Except.bind (Except.bind ((Reader.u1 : Reader DecodeError Nat) code pc) _) _ = _
    rw [h0]
    show Except.ok (_, pc + 1 - pc) = _
    rw [Nat.add_sub_cancel_left]
    rfl
  | iload_n q =>
    rcases q with ⟨q, hq⟩
    rcases (show q = 0 ∨ q = 1 ∨ q = 2 ∨ q = 3 by omega) with rfl | rfl | rfl | rfl
    · cases h
      have h0 := mz_u1 (p := pc) (hb 0 _ rfl)
      unfold decode Reader.runAt Decoder.instr
      show Except.bind (Except.bind ((Reader.u1 : Reader DecodeError Nat) code pc) _) _ = _
      rw [h0]
      show Except.ok (_, pc + 1 - pc) = _
      rw [Nat.add_sub_cancel_left]
      rfl
    · cases h
      have h0 := mz_u1 (p := pc) (hb 0 _ rfl)
      unfold decode Reader.runAt Decoder.instr
      show Except.bind (Except.bind ((Reader.u1 : Reader DecodeError Nat) code pc) _) _ = _
      rw [h0]
      show Except.ok (_, pc + 1 - pc) = _
      rw [Nat.add_sub_cancel_left]
      rfl
    · cases h
      have h0 := mz_u1 (p := pc) (hb 0 _ rfl)
      unfold decode Reader.runAt Decoder.instr
      show Except.bind (Except.bind ((Reader.u1 : Reader DecodeError Nat) code pc) _) _ = _
      rw [h0]
      show Except.ok (_, pc + 1 - pc) = _
      rw [Nat.add_sub_cancel_left]
      rfl
    · cases h
      have h0 := mz_u1 (p := pc) (hb 0 _ rfl)
      unfold decode Reader.runAt Decoder.instr
      show Except.bind (Except.bind ((Reader.u1 : Reader DecodeError Nat) code pc) _) _ = _
      rw [h0]
      show Except.ok (_, pc + 1 - pc) = _
      rw [Nat.add_sub_cancel_left]
      rfl
  | lload_n q =>
    rcases q with ⟨q, hq⟩
    rcases (show q = 0 ∨ q = 1 ∨ q = 2 ∨ q = 3 by omega) with rfl | rfl | rfl | rfl
    · cases h
      have h0 := mz_u1 (p := pc) (hb 0 _ rfl)
      unfold decode Reader.runAt Decoder.instr
      show Except.bind (Except.bind ((Reader.u1 : Reader DecodeError Nat) code pc) _) _ = _
      rw [h0]
      show Except.ok (_, pc + 1 - pc) = _
      rw [Nat.add_sub_cancel_left]
      rfl
    · cases h
      have h0 := mz_u1 (p := pc) (hb 0 _ rfl)
      unfold decode Reader.runAt Decoder.instr
      show Except.bind (Except.bind ((Reader.u1 : Reader DecodeError Nat) code pc) _) _ = _
      rw [h0]
      show Except.ok (_, pc + 1 - pc) = _
      rw [Nat.add_sub_cancel_left]
      rfl
    · cases h
      have h0 := mz_u1 (p := pc) (hb 0 _ rfl)
      unfold decode Reader.runAt Decoder.instr
      show Except.bind (Except.bind ((Reader.u1 : Reader DecodeError Nat) code pc) _) _ = _
      rw [h0]
      show Except.ok (_, pc + 1 - pc) = _
      rw [Nat.add_sub_cancel_left]
      rfl
    · cases h
      have h0 := mz_u1 (p := pc) (hb 0 _ rfl)
      unfold decode Reader.runAt Decoder.instr
      show Except.bind (Except.bind ((Reader.u1 : Reader DecodeError Nat) code pc) _) _ = _
      rw [h0]
      show Except.ok (_, pc + 1 - pc) = _
      rw [Nat.add_sub_cancel_left]
      rfl
  | aload_n q =>
    rcases q with ⟨q, hq⟩
    rcases (show q = 0 ∨ q = 1 ∨ q = 2 ∨ q = 3 by omega) with rfl | rfl | rfl | rfl
    · cases h
      have h0 := mz_u1 (p := pc) (hb 0 _ rfl)
      unfold decode Reader.runAt Decoder.instr
      show Except.bind (Except.bind ((Reader.u1 : Reader DecodeError Nat) code pc) _) _ = _
      rw [h0]
      show Except.ok (_, pc + 1 - pc) = _
      rw [Nat.add_sub_cancel_left]
      rfl
    · cases h
      have h0 := mz_u1 (p := pc) (hb 0 _ rfl)
      unfold decode Reader.runAt Decoder.instr
      show Except.bind (Except.bind ((Reader.u1 : Reader DecodeError Nat) code pc) _) _ = _
      rw [h0]
      show Except.ok (_, pc + 1 - pc) = _
      rw [Nat.add_sub_cancel_left]
      rfl
    · cases h
      have h0 := mz_u1 (p := pc) (hb 0 _ rfl)
      unfold decode Reader.runAt Decoder.instr
      show Except.bind (Except.bind ((Reader.u1 : Reader DecodeError Nat) code pc) _) _ = _
      rw [h0]
      show Except.ok (_, pc + 1 - pc) = _
      rw [Nat.add_sub_cancel_left]
      rfl
    · cases h
      have h0 := mz_u1 (p := pc) (hb 0 _ rfl)
      unfold decode Reader.runAt Decoder.instr
      show Except.bind (Except.bind ((Reader.u1 : Reader DecodeError Nat) code pc) _) _ = _
      rw [h0]
      show Except.ok (_, pc + 1 - pc) = _
      rw [Nat.add_sub_cancel_left]
      rfl
  | istore_n q =>
    rcases q with ⟨q, hq⟩
    rcases (show q = 0 ∨ q = 1 ∨ q = 2 ∨ q = 3 by omega) with rfl | rfl | rfl | rfl
    · cases h
      have h0 := mz_u1 (p := pc) (hb 0 _ rfl)
      unfold decode Reader.runAt Decoder.instr
      show Except.bind (Except.bind ((Reader.u1 : Reader DecodeError Nat) code pc) _) _ = _
      rw [h0]
      show Except.ok (_, pc + 1 - pc) = _
      rw [Nat.add_sub_cancel_left]
      rfl
    · cases h
      have h0 := mz_u1 (p := pc) (hb 0 _ rfl)
      unfold decode Reader.runAt Decoder.instr
      show Except.bind (Except.bind ((Reader.u1 : Reader DecodeError Nat) code pc) _) _ = _
      rw [h0]
      show Except.ok (_, pc + 1 - pc) = _
      rw [Nat.add_sub_cancel_left]
      rfl
    · cases h
      have h0 := mz_u1 (p := pc) (hb 0 _ rfl)
      unfold decode Reader.runAt Decoder.instr
      show Except.bind (Except.bind ((Reader.u1 : Reader DecodeError Nat) code pc) _) _ = _
      rw [h0]
      show Except.ok (_, pc + 1 - pc) = _
      rw [Nat.add_sub_cancel_left]
      rfl
    · cases h
      have h0 := mz_u1 (p := pc) (hb 0 _ rfl)
      unfold decode Reader.runAt Decoder.instr
      show Except.bind (Except.bind ((Reader.u1 : Reader DecodeError Nat) code pc) _) _ = _
      rw [h0]
      show Except.ok (_, pc + 1 - pc) = _
      rw [Nat.add_sub_cancel_left]
      rfl
  | astore_n q =>
    rcases q with ⟨q, hq⟩
    rcases (show q = 0 ∨ q = 1 ∨ q = 2 ∨ q = 3 by omega) with rfl | rfl | rfl | rfl
    · cases h
      have h0 := mz_u1 (p := pc) (hb 0 _ rfl)
      unfold decode Reader.runAt Decoder.instr
      show Except.bind (Except.bind ((Reader.u1 : Reader DecodeError Nat) code pc) _) _ = _
      rw [h0]
      show Except.ok (_, pc + 1 - pc) = _
      rw [Nat.add_sub_cancel_left]
      rfl
    · cases h
      have h0 := mz_u1 (p := pc) (hb 0 _ rfl)
      unfold decode Reader.runAt Decoder.instr
      show Except.bind (Except.bind ((Reader.u1 : Reader DecodeError Nat) code pc) _) _ = _
      rw [h0]
      show Except.ok (_, pc + 1 - pc) = _
      rw [Nat.add_sub_cancel_left]
      rfl
    · cases h
      have h0 := mz_u1 (p := pc) (hb 0 _ rfl)
      unfold decode Reader.runAt Decoder.instr
      show Except.bind (Except.bind ((Reader.u1 : Reader DecodeError Nat) code pc) _) _ = _
      rw [h0]
      show Except.ok (_, pc + 1 - pc) = _
      rw [Nat.add_sub_cancel_left]
      rfl
    · cases h
      have h0 := mz_u1 (p := pc) (hb 0 _ rfl)
      unfold decode Reader.runAt Decoder.instr
      show Except.bind (Except.bind ((Reader.u1 : Reader DecodeError Nat) code pc) _) _ = _
      rw [h0]
      show Except.ok (_, pc + 1 - pc) = _
      rw [Nat.add_sub_cancel_left]
      rfl
  | iconst n =>
    by_cases hn : n = -1
    · subst hn
      have h : some [2] = some l := h
      cases h
      have h0 := mz_u1 (p := pc) (hb 0 _ rfl)
      unfold decode Reader.runAt Decoder.instr
      show Except.bind (Except.bind ((Reader.u1 : Reader DecodeError Nat) code pc) _) _ = _
      rw [h0]
      show Except.ok (_, pc + 1 - pc) = _
      rw [Nat.add_sub_cancel_left]
      rfl
    have h := (mz_else hn).symm.trans h
    by_cases hn : n = 0
    · subst hn
      have h : some [3] = some l := h
      cases h
      have h0 := mz_u1 (p := pc) (hb 0 _ rfl)
      unfold decode Reader.runAt Decoder.instr
      show Except.bind (Except.bind ((Reader.u1 : Reader DecodeError Nat) code pc) _) _ = _
      rw [h0]
      show Except.ok (_, pc + 1 - pc) = _
      rw [Nat.add_sub_cancel_left]
      rfl
    have h := (mz_else hn).symm.trans h
    by_cases hn : n = 1
    · subst hn
      have h : some [4] = some l := h
      cases h
      have h0 := mz_u1 (p := pc) (hb 0 _ rfl)
      unfold decode Reader.runAt Decoder.instr
      show Except.bind (Except.bind ((Reader.u1 : Reader DecodeError Nat) code pc) _) _ = _
      rw [h0]
      show Except.ok (_, pc + 1 - pc) = _
      rw [Nat.add_sub_cancel_left]
      rfl
    have h := (mz_else hn).symm.trans h
    by_cases hn : n = 2
    · subst hn
      have h : some [5] = some l := h
      cases h
      have h0 := mz_u1 (p := pc) (hb 0 _ rfl)
      unfold decode Reader.runAt Decoder.instr
      show Except.bind (Except.bind ((Reader.u1 : Reader DecodeError Nat) code pc) _) _ = _
      rw [h0]
      show Except.ok (_, pc + 1 - pc) = _
      rw [Nat.add_sub_cancel_left]
      rfl
    have h := (mz_else hn).symm.trans h
    by_cases hn : n = 3
    · subst hn
      have h : some [6] = some l := h
      cases h
      have h0 := mz_u1 (p := pc) (hb 0 _ rfl)
      unfold decode Reader.runAt Decoder.instr
      show Except.bind (Except.bind ((Reader.u1 : Reader DecodeError Nat) code pc) _) _ = _
      rw [h0]
      show Except.ok (_, pc + 1 - pc) = _
      rw [Nat.add_sub_cancel_left]
      rfl
    have h := (mz_else hn).symm.trans h
    by_cases hn : n = 4
    · subst hn
      have h : some [7] = some l := h
      cases h
      have h0 := mz_u1 (p := pc) (hb 0 _ rfl)
      unfold decode Reader.runAt Decoder.instr
      show Except.bind (Except.bind ((Reader.u1 : Reader DecodeError Nat) code pc) _) _ = _
      rw [h0]
      show Except.ok (_, pc + 1 - pc) = _
      rw [Nat.add_sub_cancel_left]
      rfl
    have h := (mz_else hn).symm.trans h
    by_cases hn : n = 5
    · subst hn
      have h : some [8] = some l := h
      cases h
      have h0 := mz_u1 (p := pc) (hb 0 _ rfl)
      unfold decode Reader.runAt Decoder.instr
      show Except.bind (Except.bind ((Reader.u1 : Reader DecodeError Nat) code pc) _) _ = _
      rw [h0]
      show Except.ok (_, pc + 1 - pc) = _
      rw [Nat.add_sub_cancel_left]
      rfl
    have h := (mz_else hn).symm.trans h
    cases h
  | ldc x =>
    cases h
    have h0 := mz_u1 (p := pc) (hb 0 _ rfl)
    have h1 := mz_u1 (hb 1 _ rfl)
    unfold decode Reader.runAt Decoder.instr
    show Except.bind (Except.bind ((Reader.u1 : Reader DecodeError Nat) code pc) _) _ = _
    rw [h0]
    show Except.bind (Except.bind ((Reader.u1 : Reader DecodeError Nat) code (pc + 1)) _) _ = _
    rw [h1]
    show Except.ok (_, pc + 2 - pc) = _
    rw [Nat.add_sub_cancel_left]
    rfl
  | iload x =>
    cases h
    have h0 := mz_u1 (p := pc) (hb 0 _ rfl)
    have h1 := mz_u1 (hb 1 _ rfl)
    unfold decode Reader.runAt Decoder.instr
    show Except.bind (Except.bind ((Reader.u1 : Reader DecodeError Nat) code pc) _) _ = _
    rw [h0]
    show Except.bind (Except.bind ((Reader.u1 : Reader DecodeError Nat) code (pc + 1)) _) _ = _
    rw [h1]
    show Except.ok (_, pc + 2 - pc) = _
    rw [Nat.add_sub_cancel_left]
    rfl
  | aload x =>
    cases h
    have h0 := mz_u1 (p := pc) (hb 0 _ rfl)
    have h1 := mz_u1 (hb 1 _ rfl)
    unfold decode Reader.runAt Decoder.instr
    show Except.bind (Except.bind ((Reader.u1 : Reader DecodeError Nat) code pc) _) _ = _
    rw [h0]
    show Except.bind (Except.bind ((Reader.u1 : Reader DecodeError Nat) code (pc + 1)) _) _ = _
    rw [h1]
    show Except.ok (_, pc + 2 - pc) = _
    rw [Nat.add_sub_cancel_left]
    rfl
  | istore x =>
    cases h
    have h0 := mz_u1 (p := pc) (hb 0 _ rfl)
    have h1 := mz_u1 (hb 1 _ rfl)
    unfold decode Reader.runAt Decoder.instr
    show Except.bind (Except.bind ((Reader.u1 : Reader DecodeError Nat) code pc) _) _ = _
    rw [h0]
    show Except.bind (Except.bind ((Reader.u1 : Reader DecodeError Nat) code (pc + 1)) _) _ = _
    rw [h1]
    show Except.ok (_, pc + 2 - pc) = _
    rw [Nat.add_sub_cancel_left]
    rfl
  | astore x =>
    cases h
    have h0 := mz_u1 (p := pc) (hb 0 _ rfl)
    have h1 := mz_u1 (hb 1 _ rfl)
    unfold decode Reader.runAt Decoder.instr
    show Except.bind (Except.bind ((Reader.u1 : Reader DecodeError Nat) code pc) _) _ = _
    rw [h0]
    show Except.bind (Except.bind ((Reader.u1 : Reader DecodeError Nat) code (pc + 1)) _) _ = _
    rw [h1]
    show Except.ok (_, pc + 2 - pc) = _
    rw [Nat.add_sub_cancel_left]
    rfl
  | bipush o =>
    obtain ⟨hg, h⟩ := mz_cond h
    have hg := of_decide_eq_true hg
    cases h
    have h0 := mz_u1 (p := pc) (hb 0 _ rfl)
    have h1 := mz_u1 (hb 1 _ rfl)
    unfold decode Reader.runAt Decoder.instr
    show Except.bind (Except.bind ((Reader.u1 : Reader DecodeError Nat) code pc) _) _ = _
    rw [h0]
    show Except.bind (Except.bind (Except.bind ((Reader.u1 : Reader DecodeError Nat) code (pc + 1)) _) _) _ = _
    rw [h1]
    show Except.ok (Instr.bipush (Reader.signed 8 (o % 256).toNat), pc + 2 - pc) = _
    rw [Nat.add_sub_cancel_left, hg]
    rfl
  | ldc_w x =>
    cases h
    have h0 := mz_u1 (p := pc) (hb 0 _ rfl)
    have h1 := mz_u1 (hb 1 _ rfl)
    have h2 := mz_u1 (hb 2 _ rfl)
    unfold decode Reader.runAt Decoder.instr
    show Except.bind (Except.bind ((Reader.u1 : Reader DecodeError Nat) code pc) _) _ = _
    rw [h0]
    show Except.bind (Except.bind (Except.bind ((Reader.u1 : Reader DecodeError Nat) code (pc + 1)) _) _) _ = _
    rw [h1]
    show Except.bind (Except.bind (Except.bind ((Reader.u1 : Reader DecodeError Nat) code (pc + 2)) _) _) _ = _
    rw [h2]
    show Except.ok (Instr.ldc_w (x / 256 * 256 + x % 256), pc + 3 - pc) = _
    rw [Nat.add_sub_cancel_left, Nat.div_add_mod']
    rfl
  | ldc2_w x =>
    cases h
    have h0 := mz_u1 (p := pc) (hb 0 _ rfl)
    have h1 := mz_u1 (hb 1 _ rfl)
    have h2 := mz_u1 (hb 2 _ rfl)
    unfold decode Reader.runAt Decoder.instr
    show Except.bind (Except.bind ((Reader.u1 : Reader DecodeError Nat) code pc) _) _ = _
    rw [h0]
    show Except.bind (Except.bind (Except.bind ((Reader.u1 : Reader DecodeError Nat) code (pc + 1)) _) _) _ = _
    rw [h1]
    show Except.bind (Except.bind (Except.bind ((Reader.u1 : Reader DecodeError Nat) code (pc + 2)) _) _) _ = _
    rw [h2]
    show Except.ok (Instr.ldc2_w (x / 256 * 256 + x % 256), pc + 3 - pc) = _
    rw [Nat.add_sub_cancel_left, Nat.div_add_mod']
    rfl
  | getstatic x =>
    cases h
    have h0 := mz_u1 (p := pc) (hb 0 _ rfl)
    have h1 := mz_u1 (hb 1 _ rfl)
    have h2 := mz_u1 (hb 2 _ rfl)
    unfold decode Reader.runAt Decoder.instr
    show Except.bind (Except.bind ((Reader.u1 : Reader DecodeError Nat) code pc) _) _ = _
    rw [h0]
    show Except.bind (Except.bind (Except.bind ((Reader.u1 : Reader DecodeError Nat) code (pc + 1)) _) _) _ = _
    rw [h1]
    show Except.bind (Except.bind (Except.bind ((Reader.u1 : Reader DecodeError Nat) code (pc + 2)) _) _) _ = _
    rw [h2]
    show Except.ok (Instr.getstatic (x / 256 * 256 + x % 256), pc + 3 - pc) = _
    rw [Nat.add_sub_cancel_left, Nat.div_add_mod']
    rfl
  | getfield x =>
    cases h
    have h0 := mz_u1 (p := pc) (hb 0 _ rfl)
    have h1 := mz_u1 (hb 1 _ rfl)
    have h2 := mz_u1 (hb 2 _ rfl)
    unfold decode Reader.runAt Decoder.instr
    show Except.bind (Except.bind ((Reader.u1 : Reader DecodeError Nat) code pc) _) _ = _
    rw [h0]
    show Except.bind (Except.bind (Except.bind ((Reader.u1 : Reader DecodeError Nat) code (pc + 1)) _) _) _ = _
    rw [h1]
    show Except.bind (Except.bind (Except.bind ((Reader.u1 : Reader DecodeError Nat) code (pc + 2)) _) _) _ = _
    rw [h2]
    show Except.ok (Instr.getfield (x / 256 * 256 + x % 256), pc + 3 - pc) = _
    rw [Nat.add_sub_cancel_left, Nat.div_add_mod']
    rfl
  | putfield x =>
    cases h
    have h0 := mz_u1 (p := pc) (hb 0 _ rfl)
    have h1 := mz_u1 (hb 1 _ rfl)
    have h2 := mz_u1 (hb 2 _ rfl)
    unfold decode Reader.runAt Decoder.instr
    show Except.bind (Except.bind ((Reader.u1 : Reader DecodeError Nat) code pc) _) _ = _
    rw [h0]
    show Except.bind (Except.bind (Except.bind ((Reader.u1 : Reader DecodeError Nat) code (pc + 1)) _) _) _ = _
    rw [h1]
    show Except.bind (Except.bind (Except.bind ((Reader.u1 : Reader DecodeError Nat) code (pc + 2)) _) _) _ = _
    rw [h2]
    show Except.ok (Instr.putfield (x / 256 * 256 + x % 256), pc + 3 - pc) = _
    rw [Nat.add_sub_cancel_left, Nat.div_add_mod']
    rfl
  | invokevirtual x =>
    cases h
    have h0 := mz_u1 (p := pc) (hb 0 _ rfl)
    have h1 := mz_u1 (hb 1 _ rfl)
    have h2 := mz_u1 (hb 2 _ rfl)
    unfold decode Reader.runAt Decoder.instr
    show Except.bind (Except.bind ((Reader.u1 : Reader DecodeError Nat) code pc) _) _ = _
    rw [h0]
    show Except.bind (Except.bind (Except.bind ((Reader.u1 : Reader DecodeError Nat) code (pc + 1)) _) _) _ = _
    rw [h1]
    show Except.bind (Except.bind (Except.bind ((Reader.u1 : Reader DecodeError Nat) code (pc + 2)) _) _) _ = _
    rw [h2]
    show Except.ok (Instr.invokevirtual (x / 256 * 256 + x % 256), pc + 3 - pc) = _
    rw [Nat.add_sub_cancel_left, Nat.div_add_mod']
    rfl
  | invokespecial x =>
    cases h
    have h0 := mz_u1 (p := pc) (hb 0 _ rfl)
    have h1 := mz_u1 (hb 1 _ rfl)
    have h2 := mz_u1 (hb 2 _ rfl)
    unfold decode Reader.runAt Decoder.instr
    show Except.bind (Except.bind ((Reader.u1 : Reader DecodeError Nat) code pc) _) _ = _
    rw [h0]
    show Except.bind (Except.bind (Except.bind ((Reader.u1 : Reader DecodeError Nat) code (pc + 1)) _) _) _ = _
    rw [h1]
    show Except.bind (Except.bind (Except.bind ((Reader.u1 : Reader DecodeError Nat) code (pc + 2)) _) _) _ = _
    rw [h2]
    show Except.ok (Instr.invokespecial (x / 256 * 256 + x % 256), pc + 3 - pc) = _
    rw [Nat.add_sub_cancel_left, Nat.div_add_mod']
    rfl
  | invokestatic x =>
    cases h
    have h0 := mz_u1 (p := pc) (hb 0 _ rfl)
    have h1 := mz_u1 (hb 1 _ rfl)
    have h2 := mz_u1 (hb 2 _ rfl)
    unfold decode Reader.runAt Decoder.instr
    show Except.bind (Except.bind ((Reader.u1 : Reader DecodeError Nat) code pc) _) _ = _
    rw [h0]
    show Except.bind (Except.bind (Except.bind ((Reader.u1 : Reader DecodeError Nat) code (pc + 1)) _) _) _ = _
    rw [h1]
    show Except.bind (Except.bind (Except.bind ((Reader.u1 : Reader DecodeError Nat) code (pc + 2)) _) _) _ = _
    rw [h2]
    show Except.ok (Instr.invokestatic (x / 256 * 256 + x % 256), pc + 3 - pc) = _
    rw [Nat.add_sub_cancel_left, Nat.div_add_mod']
    rfl
  | new x =>
    cases h
    have h0 := mz_u1 (p := pc) (hb 0 _ rfl)
    have h1 := mz_u1 (hb 1 _ rfl)
    have h2 := mz_u1 (hb 2 _ rfl)
    unfold decode Reader.runAt Decoder.instr
    show Except.bind (Except.bind ((Reader.u1 : Reader DecodeError Nat) code pc) _) _ = _
    rw [h0]
    show Except.bind (Except.bind (Except.bind ((Reader.u1 : Reader DecodeError Nat) code (pc + 1)) _) _) _ = _
    rw [h1]
    show Except.bind (Except.bind (Except.bind ((Reader.u1 : Reader DecodeError Nat) code (pc + 2)) _) _) _ = _
    rw [h2]
    show Except.ok (Instr.new (x / 256 * 256 + x % 256), pc + 3 - pc) = _
    rw [Nat.add_sub_cancel_left, Nat.div_add_mod']
    rfl
  | checkcast x =>
    cases h
    have h0 := mz_u1 (p := pc) (hb 0 _ rfl)
    have h1 := mz_u1 (hb 1 _ rfl)
    have h2 := mz_u1 (hb 2 _ rfl)
    unfold decode Reader.runAt Decoder.instr
    show Except.bind (Except.bind ((Reader.u1 : Reader DecodeError Nat) code pc) _) _ = _
    rw [h0]
    show Except.bind (Except.bind (Except.bind ((Reader.u1 : Reader DecodeError Nat) code (pc + 1)) _) _) _ = _
    rw [h1]
    show Except.bind (Except.bind (Except.bind ((Reader.u1 : Reader DecodeError Nat) code (pc + 2)) _) _) _ = _
    rw [h2]
    show Except.ok (Instr.checkcast (x / 256 * 256 + x % 256), pc + 3 - pc) = _
    rw [Nat.add_sub_cancel_left, Nat.div_add_mod']
    rfl
  | sipush o =>
    obtain ⟨hg, h⟩ := mz_cond h
    have hg := of_decide_eq_true hg
    cases h
    have h0 := mz_u1 (p := pc) (hb 0 _ rfl)
    have h1 := mz_u1 (hb 1 _ rfl)
    have h2 := mz_u1 (hb 2 _ rfl)
    unfold decode Reader.runAt Decoder.instr
    show Except.bind (Except.bind ((Reader.u1 : Reader DecodeError Nat) code pc) _) _ = _
    rw [h0]
    show Except.bind (Except.bind (Except.bind (Except.bind ((Reader.u1 : Reader DecodeError Nat) code (pc + 1)) _) _) _) _ = _
    rw [h1]
    show Except.bind (Except.bind (Except.bind (Except.bind ((Reader.u1 : Reader DecodeError Nat) code (pc + 2)) _) _) _) _ = _
    rw [h2]
    show Except.ok (Instr.sipush (Reader.signed 16 (mz_sn o / 256 * 256 + mz_sn o % 256)), pc + 3 - pc) = _
    rw [Nat.add_sub_cancel_left, Nat.div_add_mod', hg]
    rfl
  | goto o =>
    obtain ⟨hg, h⟩ := mz_cond h
    have hg := of_decide_eq_true hg
    cases h
    have h0 := mz_u1 (p := pc) (hb 0 _ rfl)
    have h1 := mz_u1 (hb 1 _ rfl)
    have h2 := mz_u1 (hb 2 _ rfl)
    unfold decode Reader.runAt Decoder.instr
    show Except.bind (Except.bind ((Reader.u1 : Reader DecodeError Nat) code pc) _) _ = _
    rw [h0]
    show Except.bind (Except.bind (Except.bind (Except.bind ((Reader.u1 : Reader DecodeError Nat) code (pc + 1)) _) _) _) _ = _
    rw [h1]
    show Except.bind (Except.bind (Except.bind (Except.bind ((Reader.u1 : Reader DecodeError Nat) code (pc + 2)) _) _) _) _ = _
    rw [h2]
    show Except.ok (Instr.goto (Reader.signed 16 (mz_sn o / 256 * 256 + mz_sn o % 256)), pc + 3 - pc) = _
    rw [Nat.add_sub_cancel_left, Nat.div_add_mod', hg]
    rfl
  | ifCond b o =>
    cases b with
    | eq =>
      obtain ⟨hg, h⟩ := mz_cond h
      have hg := of_decide_eq_true hg
      cases h
      have h0 := mz_u1 (p := pc) (hb 0 _ rfl)
      have h1 := mz_u1 (hb 1 _ rfl)
      have h2 := mz_u1 (hb 2 _ rfl)
      unfold decode Reader.runAt Decoder.instr
      show Except.bind (Except.bind ((Reader.u1 : Reader DecodeError Nat) code pc) _) _ = _
      rw [h0]
      show Except.bind (Except.bind (Except.bind (Except.bind ((Reader.u1 : Reader DecodeError Nat) code (pc + 1)) _) _) _) _ = _
      rw [h1]
      show Except.bind (Except.bind (Except.bind (Except.bind ((Reader.u1 : Reader DecodeError Nat) code (pc + 2)) _) _) _) _ = _
      rw [h2]
      show Except.ok (Instr.ifCond .eq (Reader.signed 16 (mz_sn o / 256 * 256 + mz_sn o % 256)), pc + 3 - pc) = _
      rw [Nat.add_sub_cancel_left, Nat.div_add_mod', hg]
      rfl
    | ne =>
      obtain ⟨hg, h⟩ := mz_cond h
      have hg := of_decide_eq_true hg
      cases h
      have h0 := mz_u1 (p := pc) (hb 0 _ rfl)
      have h1 := mz_u1 (hb 1 _ rfl)
      have h2 := mz_u1 (hb 2 _ rfl)
      unfold decode Reader.runAt Decoder.instr
      show Except.bind (Except.bind ((Reader.u1 : Reader DecodeError Nat) code pc) _) _ = _
      rw [h0]
      show Except.bind (Except.bind (Except.bind (Except.bind ((Reader.u1 : Reader DecodeError Nat) code (pc + 1)) _) _) _) _ = _
      rw [h1]
      show Except.bind (Except.bind (Except.bind (Except.bind ((Reader.u1 : Reader DecodeError Nat) code (pc + 2)) _) _) _) _ = _
      rw [h2]
      show Except.ok (Instr.ifCond .ne (Reader.signed 16 (mz_sn o / 256 * 256 + mz_sn o % 256)), pc + 3 - pc) = _
      rw [Nat.add_sub_cancel_left, Nat.div_add_mod', hg]
      rfl
    | lt =>
      obtain ⟨hg, h⟩ := mz_cond h
      have hg := of_decide_eq_true hg
      cases h
      have h0 := mz_u1 (p := pc) (hb 0 _ rfl)
      have h1 := mz_u1 (hb 1 _ rfl)
      have h2 := mz_u1 (hb 2 _ rfl)
      unfold decode Reader.runAt Decoder.instr
      show Except.bind (Except.bind ((Reader.u1 : Reader DecodeError Nat) code pc) _) _ = _
      rw [h0]
      show Except.bind (Except.bind (Except.bind (Except.bind ((Reader.u1 : Reader DecodeError Nat) code (pc + 1)) _) _) _) _ = _
      rw [h1]
      show Except.bind (Except.bind (Except.bind (Except.bind ((Reader.u1 : Reader DecodeError Nat) code (pc + 2)) _) _) _) _ = _
      rw [h2]
      show Except.ok (Instr.ifCond .lt (Reader.signed 16 (mz_sn o / 256 * 256 + mz_sn o % 256)), pc + 3 - pc) = _
      rw [Nat.add_sub_cancel_left, Nat.div_add_mod', hg]
      rfl
    | ge =>
      obtain ⟨hg, h⟩ := mz_cond h
      have hg := of_decide_eq_true hg
      cases h
      have h0 := mz_u1 (p := pc) (hb 0 _ rfl)
      have h1 := mz_u1 (hb 1 _ rfl)
      have h2 := mz_u1 (hb 2 _ rfl)
      unfold decode Reader.runAt Decoder.instr
      show Except.bind (Except.bind ((Reader.u1 : Reader DecodeError Nat) code pc) _) _ = _
      rw [h0]
      show Except.bind (Except.bind (Except.bind (Except.bind ((Reader.u1 : Reader DecodeError Nat) code (pc + 1)) _) _) _) _ = _
      rw [h1]
      show Except.bind (Except.bind (Except.bind (Except.bind ((Reader.u1 : Reader DecodeError Nat) code (pc + 2)) _) _) _) _ = _
      rw [h2]
      show Except.ok (Instr.ifCond .ge (Reader.signed 16 (mz_sn o / 256 * 256 + mz_sn o % 256)), pc + 3 - pc) = _
      rw [Nat.add_sub_cancel_left, Nat.div_add_mod', hg]
      rfl
    | gt =>
      obtain ⟨hg, h⟩ := mz_cond h
      have hg := of_decide_eq_true hg
      cases h
      have h0 := mz_u1 (p := pc) (hb 0 _ rfl)
      have h1 := mz_u1 (hb 1 _ rfl)
      have h2 := mz_u1 (hb 2 _ rfl)
      unfold decode Reader.runAt Decoder.instr
      show Except.bind (Except.bind ((Reader.u1 : Reader DecodeError Nat) code pc) _) _ = _
      rw [h0]
      show Except.bind (Except.bind (Except.bind (Except.bind ((Reader.u1 : Reader DecodeError Nat) code (pc + 1)) _) _) _) _ = _
      rw [h1]
      show Except.bind (Except.bind (Except.bind (Except.bind ((Reader.u1 : Reader DecodeError Nat) code (pc + 2)) _) _) _) _ = _
      rw [h2]
      show Except.ok (Instr.ifCond .gt (Reader.signed 16 (mz_sn o / 256 * 256 + mz_sn o % 256)), pc + 3 - pc) = _
      rw [Nat.add_sub_cancel_left, Nat.div_add_mod', hg]
      rfl
    | le =>
      obtain ⟨hg, h⟩ := mz_cond h
      have hg := of_decide_eq_true hg
      cases h
      have h0 := mz_u1 (p := pc) (hb 0 _ rfl)
      have h1 := mz_u1 (hb 1 _ rfl)
      have h2 := mz_u1 (hb 2 _ rfl)
      unfold decode Reader.runAt Decoder.instr
      show Except.bind (Except.bind ((Reader.u1 : Reader DecodeError Nat) code pc) _) _ = _
      rw [h0]
      show Except.bind (Except.bind (Except.bind (Except.bind ((Reader.u1 : Reader DecodeError Nat) code (pc + 1)) _) _) _) _ = _
      rw [h1]
      show Except.bind (Except.bind (Except.bind (Except.bind ((Reader.u1 : Reader DecodeError Nat) code (pc + 2)) _) _) _) _ = _
      rw [h2]
      show Except.ok (Instr.ifCond .le (Reader.signed 16 (mz_sn o / 256 * 256 + mz_sn o % 256)), pc + 3 - pc) = _
      rw [Nat.add_sub_cancel_left, Nat.div_add_mod', hg]
      rfl
  | if_icmp b o =>
    cases b with
    | eq =>
      obtain ⟨hg, h⟩ := mz_cond h
      have hg := of_decide_eq_true hg
      cases h
      have h0 := mz_u1 (p := pc) (hb 0 _ rfl)
      have h1 := mz_u1 (hb 1 _ rfl)
      have h2 := mz_u1 (hb 2 _ rfl)
      unfold decode Reader.runAt Decoder.instr
      show Except.bind (Except.bind ((Reader.u1 : Reader DecodeError Nat) code pc) _) _ = _
      rw [h0]
      show Except.bind (Except.bind (Except.bind (Except.bind ((Reader.u1 : Reader DecodeError Nat) code (pc + 1)) _) _) _) _ = _
      rw [h1]
      show Except.bind (Except.bind (Except.bind (Except.bind ((Reader.u1 : Reader DecodeError Nat) code (pc + 2)) _) _) _) _ = _
      rw [h2]
      show Except.ok (Instr.if_icmp .eq (Reader.signed 16 (mz_sn o / 256 * 256 + mz_sn o % 256)), pc + 3 - pc) = _
      rw [Nat.add_sub_cancel_left, Nat.div_add_mod', hg]
      rfl
    | ne =>
      obtain ⟨hg, h⟩ := mz_cond h
      have hg := of_decide_eq_true hg
      cases h
      have h0 := mz_u1 (p := pc) (hb 0 _ rfl)
      have h1 := mz_u1 (hb 1 _ rfl)
      have h2 := mz_u1 (hb 2 _ rfl)
      unfold decode Reader.runAt Decoder.instr
      show Except.bind (Except.bind ((Reader.u1 : Reader DecodeError Nat) code pc) _) _ = _
      rw [h0]
      show Except.bind (Except.bind (Except.bind (Except.bind ((Reader.u1 : Reader DecodeError Nat) code (pc + 1)) _) _) _) _ = _
      rw [h1]
      show Except.bind (Except.bind (Except.bind (Except.bind ((Reader.u1 : Reader DecodeError Nat) code (pc + 2)) _) _) _) _ = _
      rw [h2]
      show Except.ok (Instr.if_icmp .ne (Reader.signed 16 (mz_sn o / 256 * 256 + mz_sn o % 256)), pc + 3 - pc) = _
      rw [Nat.add_sub_cancel_left, Nat.div_add_mod', hg]
      rfl
    | lt =>
      obtain ⟨hg, h⟩ := mz_cond h
      have hg := of_decide_eq_true hg
      cases h
      have h0 := mz_u1 (p := pc) (hb 0 _ rfl)
      have h1 := mz_u1 (hb 1 _ rfl)
      have h2 := mz_u1 (hb 2 _ rfl)
      unfold decode Reader.runAt Decoder.instr
      show Except.bind (Except.bind ((Reader.u1 : Reader DecodeError Nat) code pc) _) _ = _
      rw [h0]
      show Except.bind (Except.bind (Except.bind (Except.bind ((Reader.u1 : Reader DecodeError Nat) code (pc + 1)) _) _) _) _ = _
      rw [h1]
      show Except.bind (Except.bind (Except.bind (Except.bind ((Reader.u1 : Reader DecodeError Nat) code (pc + 2)) _) _) _) _ = _
      rw [h2]
      show Except.ok (Instr.if_icmp .lt (Reader.signed 16 (mz_sn o / 256 * 256 + mz_sn o % 256)), pc + 3 - pc) = _
      rw [Nat.add_sub_cancel_left, Nat.div_add_mod', hg]
      rfl
    | ge =>
      obtain ⟨hg, h⟩ := mz_cond h
      have hg := of_decide_eq_true hg
      cases h
      have h0 := mz_u1 (p := pc) (hb 0 _ rfl)
      have h1 := mz_u1 (hb 1 _ rfl)
      have h2 := mz_u1 (hb 2 _ rfl)
      unfold decode Reader.runAt Decoder.instr
      show Except.bind (Except.bind ((Reader.u1 : Reader DecodeError Nat) code pc) _) _ = _
      rw [h0]
      show Except.bind (Except.bind (Except.bind (Except.bind ((Reader.u1 : Reader DecodeError Nat) code (pc + 1)) _) _) _) _ = _
      rw [h1]
      show Except.bind (Except.bind (Except.bind (Except.bind ((Reader.u1 : Reader DecodeError Nat) code (pc + 2)) _) _) _) _ = _
      rw [h2]
      show Except.ok (Instr.if_icmp .ge (Reader.signed 16 (mz_sn o / 256 * 256 + mz_sn o % 256)), pc + 3 - pc) = _
      rw [Nat.add_sub_cancel_left, Nat.div_add_mod', hg]
      rfl
    | gt =>
      obtain ⟨hg, h⟩ := mz_cond h
      have hg := of_decide_eq_true hg
      cases h
      have h0 := mz_u1 (p := pc) (hb 0 _ rfl)
      have h1 := mz_u1 (hb 1 _ rfl)
      have h2 := mz_u1 (hb 2 _ rfl)
      unfold decode Reader.runAt Decoder.instr
      show Except.bind (Except.bind ((Reader.u1 : Reader DecodeError Nat) code pc) _) _ = _
      rw [h0]
      show Except.bind (Except.bind (Except.bind (Except.bind ((Reader.u1 : Reader DecodeError Nat) code (pc + 1)) _) _) _) _ = _
      rw [h1]
      show Except.bind (Except.bind (Except.bind (Except.bind ((Reader.u1 : Reader DecodeError Nat) code (pc + 2)) _) _) _) _ = _
      rw [h2]
      show Except.ok (Instr.if_icmp .gt (Reader.signed 16 (mz_sn o / 256 * 256 + mz_sn o % 256)), pc + 3 - pc) = _
      rw [Nat.add_sub_cancel_left, Nat.div_add_mod', hg]
      rfl
    | le =>
      obtain ⟨hg, h⟩ := mz_cond h
      have hg := of_decide_eq_true hg
      cases h
      have h0 := mz_u1 (p := pc) (hb 0 _ rfl)
      have h1 := mz_u1 (hb 1 _ rfl)
      have h2 := mz_u1 (hb 2 _ rfl)
      unfold decode Reader.runAt Decoder.instr
      show Except.bind (Except.bind ((Reader.u1 : Reader DecodeError Nat) code pc) _) _ = _
      rw [h0]
      show Except.bind (Except.bind (Except.bind (Except.bind ((Reader.u1 : Reader DecodeError Nat) code (pc + 1)) _) _) _) _ = _
      rw [h1]
      show Except.bind (Except.bind (Except.bind (Except.bind ((Reader.u1 : Reader DecodeError Nat) code (pc + 2)) _) _) _) _ = _
      rw [h2]
      show Except.ok (Instr.if_icmp .le (Reader.signed 16 (mz_sn o / 256 * 256 + mz_sn o % 256)), pc + 3 - pc) = _
      rw [Nat.add_sub_cancel_left, Nat.div_add_mod', hg]
      rfl
  | iinc x o =>
    obtain ⟨hg, h⟩ := mz_cond h
    have hg := of_decide_eq_true hg
    cases h
    have h0 := mz_u1 (p := pc) (hb 0 _ rfl)
    have h1 := mz_u1 (hb 1 _ rfl)
    have h2 := mz_u1 (hb 2 _ rfl)
    unfold decode Reader.runAt Decoder.instr
    show Except.bind (Except.bind ((Reader.u1 : Reader DecodeError Nat) code pc) _) _ = _
    rw [h0]
    show Except.bind (Except.bind ((Reader.u1 : Reader DecodeError Nat) code (pc + 1)) _) _ = _
    rw [h1]
    show Except.bind (Except.bind (Except.bind ((Reader.u1 : Reader DecodeError Nat) code (pc + 2)) _) _) _ = _
    rw [h2]
    show Except.ok (Instr.iinc x (Reader.signed 8 (o % 256).toNat), pc + 3 - pc) = _
    rw [Nat.add_sub_cancel_left, hg]
    rfl
  | _ => cases h

def mz_pfx : List Nat → List Nat → Option (List Nat)
  | [], r => some r
  | a :: l, b :: r => cond (a == b) (mz_pfx l r) none
  | _ :: _, [] => none
theorem mz_pre_ok : ∀ {l bs r : List Nat}, mz_pfx l bs = some r → bs = l ++ r
  | [], bs, r, h => by cases h; rfl
  | a :: l, [], r, h => by cases h
  | a :: l, b :: bs, r, h => by
    unfold mz_pfx at h
    obtain ⟨h1, h2⟩ := mz_cond h
    have h3 : a = b := by simpa using h1
    rw [h3, mz_pre_ok h2]
    rfl
/-- the instructions stand one behind the other, and the bytes are theirs -/
def mz_wk (code : ByteArray) : mz_K → Nat → List Nat → Bool
  | [], _, bs => bs.isEmpty
  | q :: r, pc, bs => q.1 == pc && match mz_enc q.2.1 with
    | some l => q.2.2.1 == l.length && match mz_pfx l bs with
      | some bs' => mz_wk code r (pc + l.length) bs'
      | none => false
    | none => decide (decode code q.1 = .ok (q.2.1, q.2.2.1)) && mz_wk code r (pc + q.2.2.1) (bs.drop q.2.2.1)
theorem mz_wk_ok {code : ByteArray} : ∀ {K : mz_K} {pc : Nat} {bs : List Nat}, (∀ (i v : Nat), bs[i]? = some v → mz_b code (pc + i) = some v) → mz_wk code K pc bs = true → ∀ q ∈ K, decode code q.1 = .ok (q.2.1, q.2.2.1) := by
  intro K
  induction K with
  | nil =>
    intro pc bs hb h q hq
    cases hq
  | cons a K ih =>
    intro pc bs hb h q hq
    unfold mz_wk at h
    rw [Bool.and_eq_true] at h
    have hpc : a.1 = pc := by simpa using h.1
    have h2 := h.2
    split at h2
    · rename_i l hl
      rw [Bool.and_eq_true] at h2
      have hlen : a.2.2.1 = l.length := by simpa using h2.1
      have h3 := h2.2
      split at h3
      · rename_i bs' hp
        have hbs := mz_pre_ok hp
        subst hbs
        rcases List.mem_cons.mp hq with rfl | hq
        · rw [hlen]
          exact mz_enc_ok hl (fun i v hv => by
            rw [hpc]
            exact hb i v (by rw [List.getElem?_append_left (List.getElem?_eq_some_iff.mp hv).1]; exact hv))
        · exact ih (fun i v hv => by
            rw [Nat.add_assoc]
            exact hb (l.length + i) v (by rw [List.getElem?_append_right (Nat.le_add_right _ _), Nat.add_sub_cancel_left]; exact hv)) h3 q hq
      · cases h3
    · rw [Bool.and_eq_true] at h2
      rcases List.mem_cons.mp hq with rfl | hq
      · exact of_decide_eq_true h2.1
      · exact ih (fun i v hv => by
          rw [Nat.add_assoc]
          exact hb (a.2.2.1 + i) v (by rw [← List.getElem?_drop]; exact hv)) h2.2 q hq
def mz_bs (code : ByteArray) : List Nat := code.data.toList.map (fun v => v.toNat)
theorem mz_bs_ok {code : ByteArray} (i v : Nat) (h : (mz_bs code)[i]? = some v) : mz_b code (0 + i) = some v := by
  rw [Nat.zero_add]
  unfold mz_bs at h
  rw [List.getElem?_map] at h
  unfold mz_b
  cases hx : code.data.toList[i]? with
  | none => rw [hx] at h; cases h
  | some z =>
    rw [hx] at h
    cases h
    have hlt : i < code.size := by
      have h0 := (List.getElem?_eq_some_iff.mp hx).1
      rw [Array.length_toList] at h0
      exact h0
    rw [dif_pos hlt]
    have hz : code[i] = z := by
      have h2 := (List.getElem?_eq_some_iff.mp hx).2
      rw [← h2]
      rfl
    rw [hz]
theorem mz_dec_ok {code : ByteArray} {K : mz_K} (h : mz_wk code K 0 (mz_bs code) = true) : ∀ q ∈ K, decode code q.1 = .ok (q.2.1, q.2.2.1) := mz_wk_ok mz_bs_ok h
end
section
set_option maxHeartbeats 4000000 in
theorem mz_w_all {p : Program} {l : Launch} {e : Env} {R : Room} {s : State} {m : MethodId} {args : Array Value} {below : List Frame} {meth : Method} {c : Code} {cells slots : Nat} {Q : State → Prop} {S0 : mz_Sh} {T0 : List (List Int32)} {T : List mz_R} {cl : List vw_C} {NM : List String} {ST : List (String × Nat × String)} {G0 : List Jvm.Cond} {gt : Nat → Option Jvm.Cond} {D : va_G} {cI : ClassId} {ad : Nat → Nat} {A : Nat → Prop} {nL Ln : Nat} {xs : Nat → Int32} {own : String} {cc : ByteArray} (F : mz_Fix p R s m args c cells slots S0 T0 T cl NM ST G0 gt D cI ad A nL Ln xs own cc) {pc : Nat} {L : List (Option Value)} {S : List Value} {mem : mz_M} {f : mz_I} {c1 : mz_C} {ins : Instr} {len : Nat} (hd : decode cc pc = .ok (ins, len)) (hlen : (len == mz_ln ins || mz_sw ins) = true) (hl : mz_lk T cl NM ST gt own ins f = true) (hs : mz_step S0 T0 ins f pc L S mem = some (.inl c1)) (k : mz_Z p l e R s m args below meth c cells slots Q S0 cl D cI ad A nL Ln xs c1.1 c1.2.1 c1.2.2.1 c1.2.2.2) : mz_Z p l e R s m args below meth c cells slots Q S0 cl D cI ad A nL Ln xs pc L S mem := by
  cases ins with
  | iadd =>
    obtain rfl : len = 1 := by simpa [mz_ln, mz_sw] using hlen
    exact mz_w_iadd F hd hl hs k
  | isub =>
    obtain rfl : len = 1 := by simpa [mz_ln, mz_sw] using hlen
    exact mz_w_isub F hd hl hs k
  | imul =>
    obtain rfl : len = 1 := by simpa [mz_ln, mz_sw] using hlen
    exact mz_w_imul F hd hl hs k
  | idiv =>
    obtain rfl : len = 1 := by simpa [mz_ln, mz_sw] using hlen
    exact mz_w_idiv F hd hl hs k
  | irem =>
    obtain rfl : len = 1 := by simpa [mz_ln, mz_sw] using hlen
    exact mz_w_irem F hd hl hs k
  | ineg =>
    obtain rfl : len = 1 := by simpa [mz_ln, mz_sw] using hlen
    exact mz_w_ineg F hd hl hs k
  | iand =>
    obtain rfl : len = 1 := by simpa [mz_ln, mz_sw] using hlen
    exact mz_w_iand F hd hl hs k
  | ior =>
    obtain rfl : len = 1 := by simpa [mz_ln, mz_sw] using hlen
    exact mz_w_ior F hd hl hs k
  | ixor =>
    obtain rfl : len = 1 := by simpa [mz_ln, mz_sw] using hlen
    exact mz_w_ixor F hd hl hs k
  | ishl =>
    obtain rfl : len = 1 := by simpa [mz_ln, mz_sw] using hlen
    exact mz_w_ishl F hd hl hs k
  | ishr =>
    obtain rfl : len = 1 := by simpa [mz_ln, mz_sw] using hlen
    exact mz_w_ishr F hd hl hs k
  | iushr =>
    obtain rfl : len = 1 := by simpa [mz_ln, mz_sw] using hlen
    exact mz_w_iushr F hd hl hs k
  | land =>
    obtain rfl : len = 1 := by simpa [mz_ln, mz_sw] using hlen
    exact mz_w_land F hd hl hs k
  | lor =>
    obtain rfl : len = 1 := by simpa [mz_ln, mz_sw] using hlen
    exact mz_w_lor F hd hl hs k
  | lshl =>
    obtain rfl : len = 1 := by simpa [mz_ln, mz_sw] using hlen
    exact mz_w_lshl F hd hl hs k
  | lshr =>
    obtain rfl : len = 1 := by simpa [mz_ln, mz_sw] using hlen
    exact mz_w_lshr F hd hl hs k
  | lushr =>
    obtain rfl : len = 1 := by simpa [mz_ln, mz_sw] using hlen
    exact mz_w_lushr F hd hl hs k
  | i2l =>
    obtain rfl : len = 1 := by simpa [mz_ln, mz_sw] using hlen
    exact mz_w_i2l F hd hl hs k
  | l2i =>
    obtain rfl : len = 1 := by simpa [mz_ln, mz_sw] using hlen
    exact mz_w_l2i F hd hl hs k
  | i2b =>
    obtain rfl : len = 1 := by simpa [mz_ln, mz_sw] using hlen
    exact mz_w_i2b F hd hl hs k
  | i2s =>
    obtain rfl : len = 1 := by simpa [mz_ln, mz_sw] using hlen
    exact mz_w_i2s F hd hl hs k
  | i2c =>
    obtain rfl : len = 1 := by simpa [mz_ln, mz_sw] using hlen
    exact mz_w_i2c F hd hl hs k
  | dup =>
    obtain rfl : len = 1 := by simpa [mz_ln, mz_sw] using hlen
    exact mz_w_dup F hd hl hs k
  | dup_x1 =>
    obtain rfl : len = 1 := by simpa [mz_ln, mz_sw] using hlen
    exact mz_w_dup_x1 F hd hl hs k
  | dup2 =>
    obtain rfl : len = 1 := by simpa [mz_ln, mz_sw] using hlen
    exact mz_w_dup2 F hd hl hs k
  | pop =>
    obtain rfl : len = 1 := by simpa [mz_ln, mz_sw] using hlen
    exact mz_w_pop F hd hl hs k
  | arraylength =>
    obtain rfl : len = 1 := by simpa [mz_ln, mz_sw] using hlen
    exact mz_w_arraylength F hd hl hs k
  | iaload =>
    obtain rfl : len = 1 := by simpa [mz_ln, mz_sw] using hlen
    exact mz_w_iaload F hd hl hs k
  | iastore =>
    obtain rfl : len = 1 := by simpa [mz_ln, mz_sw] using hlen
    exact mz_w_iastore F hd hl hs k
  | baload =>
    obtain rfl : len = 1 := by simpa [mz_ln, mz_sw] using hlen
    exact mz_w_baload F hd hl hs k
  | iconst n =>
    obtain rfl : len = 1 := by simpa [mz_ln, mz_sw] using hlen
    exact mz_w_iconst F hd hl hs k
  | iload_n n =>
    obtain rfl : len = 1 := by simpa [mz_ln, mz_sw] using hlen
    exact mz_w_iload_n F hd hl hs k
  | aload_n n =>
    obtain rfl : len = 1 := by simpa [mz_ln, mz_sw] using hlen
    exact mz_w_aload_n F hd hl hs k
  | lload_n n =>
    obtain rfl : len = 1 := by simpa [mz_ln, mz_sw] using hlen
    exact mz_w_lload_n F hd hl hs k
  | istore_n n =>
    obtain rfl : len = 1 := by simpa [mz_ln, mz_sw] using hlen
    exact mz_w_istore_n F hd hl hs k
  | astore_n n =>
    obtain rfl : len = 1 := by simpa [mz_ln, mz_sw] using hlen
    exact mz_w_astore_n F hd hl hs k
  | bipush n =>
    obtain rfl : len = 2 := by simpa [mz_ln, mz_sw] using hlen
    exact mz_w_bipush F hd hl hs k
  | ldc n =>
    obtain rfl : len = 2 := by simpa [mz_ln, mz_sw] using hlen
    exact mz_w_ldc F hd hl hs k
  | iload n =>
    obtain rfl : len = 2 := by simpa [mz_ln, mz_sw] using hlen
    exact mz_w_iload F hd hl hs k
  | aload n =>
    obtain rfl : len = 2 := by simpa [mz_ln, mz_sw] using hlen
    exact mz_w_aload F hd hl hs k
  | istore n =>
    obtain rfl : len = 2 := by simpa [mz_ln, mz_sw] using hlen
    exact mz_w_istore F hd hl hs k
  | astore n =>
    obtain rfl : len = 2 := by simpa [mz_ln, mz_sw] using hlen
    exact mz_w_astore F hd hl hs k
  | sipush n =>
    obtain rfl : len = 3 := by simpa [mz_ln, mz_sw] using hlen
    exact mz_w_sipush F hd hl hs k
  | ldc_w n =>
    obtain rfl : len = 3 := by simpa [mz_ln, mz_sw] using hlen
    exact mz_w_ldc_w F hd hl hs k
  | ldc2_w n =>
    obtain rfl : len = 3 := by simpa [mz_ln, mz_sw] using hlen
    exact mz_w_ldc2_w F hd hl hs k
  | getfield n =>
    obtain rfl : len = 3 := by simpa [mz_ln, mz_sw] using hlen
    exact mz_w_getfield F hd hl hs k
  | putfield n =>
    obtain rfl : len = 3 := by simpa [mz_ln, mz_sw] using hlen
    exact mz_w_putfield F hd hl hs k
  | getstatic n =>
    obtain rfl : len = 3 := by simpa [mz_ln, mz_sw] using hlen
    exact mz_w_getstatic F hd hl hs k
  | invokestatic n =>
    obtain rfl : len = 3 := by simpa [mz_ln, mz_sw] using hlen
    exact mz_w_invokestatic F hd hl hs k
  | goto n =>
    obtain rfl : len = 3 := by simpa [mz_ln, mz_sw] using hlen
    exact mz_w_goto F hd hl hs k
  | iinc i n =>
    obtain rfl : len = 3 := by simpa [mz_ln, mz_sw] using hlen
    exact mz_w_iinc F hd hl hs k
  | ifCond b o =>
    obtain rfl : len = 3 := by simpa [mz_ln, mz_sw] using hlen
    cases b with
    | eq => exact mz_w_if_eq F hd hl hs k
    | ne => exact mz_w_if_ne F hd hl hs k
    | lt => exact mz_w_if_lt F hd hl hs k
    | ge => exact mz_w_if_ge F hd hl hs k
    | gt => exact mz_w_if_gt F hd hl hs k
    | le => exact mz_w_if_le F hd hl hs k
  | if_icmp b o =>
    obtain rfl : len = 3 := by simpa [mz_ln, mz_sw] using hlen
    cases b with
    | eq => exact mz_w_icmp_eq F hd hl hs k
    | ne => exact mz_w_icmp_ne F hd hl hs k
    | lt => exact mz_w_icmp_lt F hd hl hs k
    | ge => exact mz_w_icmp_ge F hd hl hs k
    | gt => exact mz_w_icmp_gt F hd hl hs k
    | le => exact mz_w_icmp_le F hd hl hs k
  | tableswitch d lo hi offs => exact mz_w_tableswitch F hd hl hs k
  | lookupswitch d ps => exact mz_w_lookupswitch F hd hl hs k
  | invokevirtual x =>
    simp only [mz_step] at hs
    obtain ⟨-, hs⟩ := mz_cond hs
    cases hs
  | ireturn =>
    simp only [mz_step] at hs
    split at hs <;> cases hs
  | areturn =>
    simp only [mz_step] at hs
    split at hs <;> cases hs
  | return_ =>
    simp only [mz_step] at hs
    split at hs <;> cases hs
  | _ => cases hs


/-- how a method ends -/
def mz_end (ins : Instr) (S : List Value) (r : Option Value) : Prop := (ins = .ireturn ∧ ∃ x, S = [.int x] ∧ r = some (.int x)) ∨ (ins = .areturn ∧ ∃ x, S = [.ref x] ∧ r = some (.ref x)) ∨ (ins = .return_ ∧ S = [] ∧ r = none)
theorem mz_bin {α : Type} {a : α} {X : Option α} (h : X = some a) {Y : Option α} (e : X = Y) : Y = some a := e ▸ h
set_option maxHeartbeats 4000000 in
theorem mz_step_end {S0 : mz_Sh} {T0 : List (List Int32)} {ins : Instr} {f : mz_I} {pc : Nat} {L : List (Option Value)} {S : List Value} {m : mz_M} {r : Option Value} (h : mz_step S0 T0 ins f pc L S m = some (.inr (.inl r))) : mz_end ins S r := by
  cases ins with
  | ireturn =>
    simp only [mz_step] at h
    split at h
    · cases h
      exact Or.inl ⟨rfl, _, rfl, rfl⟩
    · cases h
  | areturn =>
    simp only [mz_step] at h
    split at h
    · cases h
      exact Or.inr (Or.inl ⟨rfl, _, rfl, rfl⟩)
    · cases h
  | return_ =>
    simp only [mz_step] at h
    split at h
    · cases h
      exact Or.inr (Or.inr ⟨rfl, rfl, rfl⟩)
    · cases h
  | ifCond b o =>
    cases b <;>
    · simp only [mz_step, mz_jump] at h
      split at h
      · obtain ⟨-, h⟩ := mz_cond h
        cases h
      · cases h
  | if_icmp b o =>
    cases b <;>
    · simp only [mz_step, mz_jump] at h
      split at h
      · obtain ⟨-, h⟩ := mz_cond h
        cases h
      · cases h
  | _ =>
    first
      | (cases h; done)
      | (simp only [mz_step, mz_next] at h
         repeat' (first | (cases h; done) | (obtain ⟨-, h⟩ := mz_cond h; done) | split at h)
         done)
      | (exfalso
         simp only [mz_step, mz_next, cond_eq_ite] at h
         repeat' (first | (cases h; done) | split at h))
theorem mz_step_call {S0 : mz_Sh} {T0 : List (List Int32)} {ins : Instr} {f : mz_I} {pc : Nat} {L : List (Option Value)} {S : List Value} {m : mz_M} {a : Nat} (h : mz_step S0 T0 ins f pc L S m = some (.inr (.inr a))) : f.2.1 = a ∧ ((∃ x, ins = .invokevirtual x) ∨ (∃ x, ins = .invokestatic x ∧ (f.1 = 2 ∨ f.1 = 4))) := by
  cases ins with
  | invokevirtual x =>
    simp only [mz_step] at h
    obtain ⟨-, h⟩ := mz_cond h
    cases h
    exact ⟨rfl, Or.inl ⟨x, rfl⟩⟩
  | invokestatic x =>
    simp only [mz_step, mz_next, cond_eq_ite] at h
    split at h
    · rename_i hf
      cases h
      exact ⟨rfl, Or.inr ⟨x, rfl, Or.inl hf⟩⟩
    · rename_i hf
      cases h
      exact ⟨rfl, Or.inr ⟨x, rfl, Or.inr hf⟩⟩
    all_goals
      exfalso
      repeat' (first | (cases h; done) | split at h)
  | ifCond b o =>
    exfalso
    cases b <;>
    · simp only [mz_step, mz_jump] at h
      split at h
      · obtain ⟨-, h⟩ := mz_cond h
        cases h
      · cases h
  | if_icmp b o =>
    exfalso
    cases b <;>
    · simp only [mz_step, mz_jump] at h
      split at h
      · obtain ⟨-, h⟩ := mz_cond h
        cases h
      · cases h
  | _ =>
    first
      | (cases h; done)
      | (exfalso
         simp only [mz_step, mz_next, cond_eq_ite] at h
         repeat' (first | (cases h; done) | split at h))
/-- a method's record is in order -/
def mz_Rok (T : List mz_R) (cl : List vw_C) (NM : List String) (ST : List (String × Nat × String)) (G0 : List Jvm.Cond) (gt : Nat → Option Jvm.Cond) (r : mz_R) : Prop :=
  (plainName r.2.1.cls = true ∧ (r.2.1.cls ≠ "java/lang/invoke/MethodHandle" ∧ r.2.1.cls ≠ "java/lang/invoke/VarHandle") ∧ (parseMethodDescriptor r.2.1.desc).map (fun d => d.parameters.length) = some (cond r.2.2.2.2.2.1 r.2.2.2.2.2.2.1 (r.2.2.2.2.2.2.1 - 1)) ∧ r.2.2.2.1 ≤ 45) ∧
  (Jvm.Cond.code r.2.1 r.2.2.1 r.2.2.2.1 r.2.2.2.2.1 ∈ mz_G G0 ∧ Jvm.Cond.initialized r.2.1.cls ∈ mz_G G0) ∧
  (r.2.2.2.2.2.1 = true → Jvm.Cond.static r.2.1 ∈ mz_G G0) ∧
  (r.2.2.2.2.2.1 = false → Jvm.Cond.instanceMethod r.2.1 ∈ mz_G G0 ∧ Jvm.Cond.selects r.2.1.cls r.2.1 r.2.1 ∈ mz_G G0 ∧ ((r.1 = 12 ∧ r.2.1.cls = "java/lang/String") ∨ (r.1 ≠ 12 ∧ ∃ q : vw_C, cl[r.1]? = some q ∧ q.1 = r.2.1.cls))) ∧
  (∀ q ∈ r.2.2.2.2.2.2.2, mz_eok T cl NM ST gt r.2.1.cls r.2.2.1 q = true)
def mz_ws (G0 : List Jvm.Cond) (r : mz_R) : List Jvm.Cond := .code r.2.1 r.2.2.1 r.2.2.2.1 r.2.2.2.2.1 :: mz_G G0
def mz_rm (d : Nat) : Room := { frames := d + 1, cells := 0, slots := 0, locals := 64 * (d + 1) }
def mz_A (S0 : mz_Sh) (ad : Nat → Nat) (sz : Nat) : Nat → Prop := fun q => (∃ i, i < S0.length ∧ ad i = q) ∨ sz ≤ q
def mz_Pc (S0 : mz_Sh) (T0 : List (List Int32)) (cl : List vw_C) (NM : List String) (ST : List (String × Nat × String)) (G0 : List Jvm.Cond) (D : va_G) (cI : ClassId) (ad : Nat → Nat) (Ln : Nat) (xs : Nat → Int32) (sz : Nat) (as : List Value) (mem : mz_M) : Array Value → State → Prop := va_Pc (as.map (mz_cvv ad)) (fun U => U.heap.size = sz ∧ va_K D cl [(cI, .int)] U ∧ va_P D cl (mz_w S0 cI ad mem) U.heap ∧ va_D (fun _ => True) (mz_w S0 cI ad mem) ∧ mz_rok T0 NM ST G0 ad Ln xs (mz_A S0 ad sz) U U.heap ∧ mz_scr xs Ln mem)
def mz_Qc (S0 : mz_Sh) (cl : List vw_C) (D : va_G) (cI : ClassId) (ad : Nat → Nat) (Ln : Nat) (xs : Nat → Int32) (sz : Nat) (r : Option Value) (mem : mz_M) : Array Value → State → Outcome → State → Prop := fun _ st o t => o = .returned (r.map (mz_cvv ad)) ∧ va_P D cl (mz_w S0 cI ad mem) t.heap ∧ va_F (mz_A S0 ad sz) st t ∧ mz_scr xs Ln mem
theorem mz_Pc_blind {S0 : mz_Sh} {T0 : List (List Int32)} {cl : List vw_C} {NM : List String} {ST : List (String × Nat × String)} {G0 : List Jvm.Cond} {D : va_G} {cI : ClassId} {ad : Nat → Nat} {Ln : Nat} {xs : Nat → Int32} {sz : Nat} {as : List Value} {mem : mz_M} : FrameBlind (mz_Pc S0 T0 cl NM ST G0 D cI ad Ln xs sz as mem) := by
  intro a U g mk q
  obtain ⟨q0, q1, qK, qP, qD, qR, qs⟩ := q
  exact ⟨q0, q1, va_K.moved (u := U) (U := U.calling g mk a) (Vm.Alike.refl U.vm) qK, qP, qD, mz_rok.same (u := U) (U := U.calling g mk a) rfl qR, qs⟩
theorem mz_sl (ad : Nat → Nat) (as : List Value) : lg_sl (as.map (mz_cvv ad)) = (as.flatMap fun v => cond (v.category == 2) [some v, none] [some v]).map (fun o => match o with | some v => Slot.val (mz_cvv ad v) | none => Slot.second) := by
  unfold lg_sl
  induction as with
  | nil => rfl
  | cons v as ih =>
    simp only [List.map_cons, List.flatMap_cons, List.map_append]
    rw [ih, mz_cvv_cat]
    congr 1
    by_cases h : v.category = 2
    · simp [h]
    · have h1 : (v.category == 2) = false := by simpa using h
      rw [if_neg h, h1]
      rfl
theorem mz_entry {ad : Nat → Nat} {as : List Value} {n : Nat} (h : (mz_ent as n).length = n) : mz_ls ad (mz_ent as n) ((lg_sl (as.map (mz_cvv ad)) ++ List.replicate (n - (lg_sl (as.map (mz_cvv ad))).length) Slot.unset).toArray) n := by
  have hfl : (as.flatMap fun v => cond (v.category == 2) [some v, none] [some v]).length ≤ n := by
    have h1 := h
    simp only [mz_ent, List.length_append, List.length_replicate] at h1
    omega
  have hle : (lg_sl (as.map (mz_cvv ad))).length ≤ n := by
    rw [mz_sl, List.length_map]
    exact hfl
  have he := lv_entry (as.map (mz_cvv ad)) hle
  refine ⟨he.1, he.2.1, h, fun i v hi => ?_⟩
  simp only [mz_ent] at hi
  have hi2 : (as.flatMap fun v => cond (v.category == 2) [some v, none] [some v])[i]? = some (some v) := by
    by_cases hlt : i < (as.flatMap fun v => cond (v.category == 2) [some v, none] [some v]).length
    · rwa [List.getElem?_append_left hlt] at hi
    · rw [List.getElem?_append_right (by omega)] at hi
      have h2 := List.mem_of_getElem? hi
      have h3 := List.eq_of_mem_replicate h2
      cases h3
  have hlt : i < (lg_sl (as.map (mz_cvv ad))).length := by
    rw [mz_sl, List.length_map]
    exact (List.getElem?_eq_some_iff.mp hi2).1
  rw [List.getElem?_toArray, List.getElem?_append_left hlt, mz_sl, List.getElem?_map, hi2]
  rfl

def mz_Run (S0 : mz_Sh) (T0 : List (List Int32)) (T : List mz_R) (cl : List vw_C) (NM : List String) (ST : List (String × Nat × String)) (G0 : List Jvm.Cond) (gt : Nat → Option Jvm.Cond) (n : Nat) : Prop := ∀ {p : Program} {l : Launch} {e : Env} {R : Room} {s : State} {m : MethodId} {args : Array Value} {below : List Frame} {meth : Method} {c : Code} {cells slots : Nat} {Q : State → Prop} {D : va_G} {cI : ClassId} {ad : Nat → Nat} {A : Nat → Prop} {nL Ln : Nat} {xs : Nat → Int32} {own : String} {cc : ByteArray} (d : Nat) (F : mz_Fix p R s m args c cells slots S0 T0 T cl NM ST G0 gt D cI ad A nL Ln xs own cc) (hR : d + 1 ≤ R.frames ∧ 64 * (d + 1) ≤ R.locals) (K : mz_K) (hK : ∀ q ∈ K, mz_eok T cl NM ST gt own cc q = true) (pc : Nat) (L : List (Option Value)) (S : List Value) (mem : mz_M) (r : Option Value) (mem' : mz_M) (hrun : mz_x S0 T0 T n d K (pc, L, S, mem) = some (r, mem')) (kf : ∀ (ins : Instr) (pc' : Nat) (L' : List (Option Value)) (S' : List Value), decode cc pc' = .ok (ins, 1) → mz_end ins S' r → mz_Z p l e R s m args below meth c cells slots Q S0 cl D cI ad A nL Ln xs pc' L' S' mem'), mz_Z p l e R s m args below meth c cells slots Q S0 cl D cI ad A nL Ln xs pc L S mem


set_option maxHeartbeats 4000000 in
/-- a method's contract, from a run of the small machine -/
theorem mz_met {S0 : mz_Sh} {T0 : List (List Int32)} {T : List mz_R} {cl : List vw_C} {NM : List String} {ST : List (String × Nat × String)} {G0 : List Jvm.Cond} {gt : Nat → Option Jvm.Cond} {n : Nat} (IH : mz_Run S0 T0 T cl NM ST G0 gt n)
    (hE : (∀ (k : Nat) (q : vw_C), cl[k]? = some q → mz_cok G0 q) ∧ mz_sok S0 cl ∧ (∀ w ∈ mz_pw, w ∈ mz_G G0) ∧ S0.length ≤ 1000 ∧ NM.length = T0.length ∧ T0.length ≤ 1000 ∧ ∀ (i : Nat) (w : Jvm.Cond), gt i = some w → w ∈ G0)
    {rc : mz_R} (hrc : mz_Rok T cl NM ST G0 gt rc) (l : Launch) (D : va_G) (cI : ClassId) (ad : Nat → Nat) (Ln : Nat) (xs : Nat → Int32) (sz d : Nat) {as : List Value} {mem mem' : mz_M} {r : Option Value} (hent : (mz_ent as rc.2.2.2.1).length = rc.2.2.2.1) (hrun : mz_x S0 T0 T n d rc.2.2.2.2.2.2.2 (0, mz_ent as rc.2.2.2.1, [], mem) = some (r, mem')) (hfit : mz_fit rc.2.2.2.2.1 r = true) :
    Met l rc.2.1 (mz_ws G0 rc) (mz_rm d) (mz_Pc S0 T0 cl NM ST G0 D cI ad Ln xs sz as mem) (mz_Qc S0 cl D cI ad Ln xs sz r mem') 0 0 (mz_A S0 ad sz) := by
  obtain ⟨⟨hpl, -, -, -⟩, -, -, -, hcode⟩ := hrc
  refine Met.ofW (cc := rc.2.2.1) (maxL := rc.2.2.2.1) (ret := rc.2.2.2.2.1) hpl rfl ?_
  intro p e s m args below meth c s₁ B hml hv
  obtain ⟨rfl, hsz, hK, hP, hD, hRo, hscr⟩ := hv
  have hts := atoms_spec (ws := mz_ws G0 rc) B.pre
  have hown : s.vm.findClass rc.2.1.cls = some m.cls := findClass_of_methodNamed B.named
  have hlocks := B.notSynchronized
  have hret := B.returns
  have hx := B.exec
  have hb := B.bytes
  subst hsz
  have hDA : ∀ mm, va_D (mz_A S0 ad s.heap.size) (mz_w S0 cI ad mm) := fun mm => mz_D (hD.weaken (fun k q hk _ => by
    obtain ⟨h1, rfl⟩ := mz_w_in hk
    exact Or.inl ⟨k, h1, rfl⟩))
  have F : mz_Fix p (headSpec (mz_ws G0 rc) (mz_rm d)).room s m (as.map (mz_cvv ad)).toArray c 0 0 S0 T0 T cl NM ST G0 gt D cI ad (mz_A S0 ad s.heap.size) rc.2.2.2.1 Ln xs rc.2.1.cls rc.2.2.1 :=
    ⟨⟨hx, hb, hml, hown, fun w hw => hts w (List.mem_cons_of_mem _ hw)⟩, ⟨hK, hDA, fun q hq => Or.inr hq, hRo⟩, ⟨Nat.le_add_left 1 d, by show 64 ≤ 64 * (d + 1); omega, Nat.zero_le _, Nat.zero_le _⟩, hE⟩
  rw [lg_entry_eq]
  refine IH d F ⟨Nat.le_refl _, Nat.le_refl _⟩ rc.2.2.2.2.2.2.2 hcode 0 (mz_ent as rc.2.2.2.1) [] mem r mem' hrun ?_ _ s.heap [] (mz_entry hent) hP va_S.rf hscr
  intro ins pc' L' S' hdec hend ls H locs h1 h2 h3 h4
  have hfr : ∀ q ∈ locs, mz_A S0 ad s.heap.size q.base := h3.2.2
  have hq : ∀ t : State, t.heap = H → s.WarmedH t.vm → mz_Qc S0 cl D cI ad Ln xs s.heap.size r mem' (as.map (mz_cvv ad)).toArray s (.returned (r.map (mz_cvv ad))) t := fun t ht hW => ⟨rfl, by rw [ht]; exact h2, h3.F ht, h4⟩
  rcases hend with ⟨rfl, x, rfl, rfl⟩ | ⟨rfl, x, rfl, rfl⟩ | ⟨rfl, rfl, rfl⟩
  · cases hrt : rc.2.2.2.2.1 with
    | none => rw [hrt] at hfit; cases hfit
    | some ty =>
      rw [hrt] at hfit hret
      cases ty <;> first | (cases hfit; done) | skip
      · have hx1 : x = 0 := by simpa [mz_fit] using hfit
        exact W.zret hx hb hret (by rw [hx1]; rfl) hq hfr hdec
      · exact W.iret hx hb hret hq hfr hdec
      · have hx1 : x = 0 ∨ x = 1 := by simpa [mz_fit] using hfit
        exact W.zret hx hb hret (by rcases hx1 with rfl | rfl <;> rfl) hq hfr hdec
  · cases hrt : rc.2.2.2.2.1 with
    | none => rw [hrt] at hfit; cases hfit
    | some ty =>
      rw [hrt] at hfit hret
      cases ty <;> first | (cases hfit; done) | skip
      exact W.aret hx hb hret (Or.inl ⟨_, rfl⟩) (Or.inr ⟨_, rfl⟩) hq hfr hdec
  · cases hrt : rc.2.2.2.2.1 with
    | none =>
      rw [hrt] at hret
      exact W.vret hx hb hret hq hfr hdec
    | some ty => rw [hrt] at hfit; cases ty <;> cases hfit
theorem mz_fetch_in {K : mz_K} {pc : Nat} {q : mz_E} (h : mz_fetch K pc = some q) : q ∈ K ∧ q.1 = pc := by
  induction K with
  | nil => cases h
  | cons a K ih =>
    unfold mz_fetch at h
    cases hb : (a.1 == pc) with
    | true =>
      rw [hb] at h
      cases h
      exact ⟨List.mem_cons_self, by simpa using hb⟩
    | false =>
      rw [hb] at h
      obtain ⟨h1, h2⟩ := ih h
      exact ⟨List.mem_cons_of_mem _ h1, h2⟩
theorem mz_A_sub {p : Program} {R : Room} {s : State} {m : MethodId} {args : Array Value} {c : Code} {cells slots : Nat} {S0 : mz_Sh} {T0 : List (List Int32)} {T : List mz_R} {cl : List vw_C} {NM : List String} {ST : List (String × Nat × String)} {G0 : List Jvm.Cond} {gt : Nat → Option Jvm.Cond} {D : va_G} {cI : ClassId} {ad : Nat → Nat} {A : Nat → Prop} {nL Ln : Nat} {xs : Nat → Int32} {own : String} {cc : ByteArray} (F : mz_Fix p R s m args c cells slots S0 T0 T cl NM ST G0 gt D cI ad A nL Ln xs own cc) {H : Heap} {locs : List Loc} (hS : va_S A s.heap H locs) (q : Nat) (h : mz_A S0 ad H.size q) : A q := by
  rcases h with ⟨i, hi, rfl⟩ | h
  · exact (F.2.1.2.1 (fun _ _ => 0)).2 i _ (mz_w_at hi)
  · exact F.2.1.2.2.1 _ (Nat.le_trans hS.1 h)
/-- behind a call -/
theorem mz_back {p : Program} {l : Launch} {e : Env} {R : Room} {s : State} {m : MethodId} {args : Array Value} {below : List Frame} {meth : Method} {c : Code} {cells slots : Nat} {Q : State → Prop} {S0 : mz_Sh} {T0 : List (List Int32)} {T : List mz_R} {cl : List vw_C} {NM : List String} {ST : List (String × Nat × String)} {G0 : List Jvm.Cond} {gt : Nat → Option Jvm.Cond} {D : va_G} {cI : ClassId} {ad : Nat → Nat} {A : Nat → Prop} {nL Ln : Nat} {xs : Nat → Int32} {own : String} {cc : ByteArray} (F : mz_Fix p R s m args c cells slots S0 T0 T cl NM ST G0 gt D cI ad A nL Ln xs own cc) {pc : Nat} {L : List (Option Value)} {S rest : List Value} {mem' : mz_M} {r : Option Value} {args' : Array Value} {ls : Array Slot} {H : Heap} {locs : List Loc} (h1 : mz_ls ad L ls nL) (h3 : va_S A s.heap H locs)
    (hr : va_Run p l e R s m args below meth c H locs cells slots 0 0 (F0 m pc ls (S.map (mz_cvv ad))) (rest.map (mz_cvv ad)) (mz_Qc S0 cl D cI ad Ln xs H.size r mem' args') (mz_A S0 ad H.size))
    (k : mz_Z p l e R s m args below meth c cells slots Q S0 cl D cI ad A nL Ln xs (pc + 3) L (r.toList ++ rest) mem') : W p l e R s m args below meth c H locs cells slots Q (F0 m pc ls (S.map (mz_cvv ad))) := by
  intro T1 hT X
  obtain ⟨v, st₀, t, T', L', h0, X', hL, e1, e2, ⟨hv, hP1, hF1, hsc⟩, st⟩ := hr T1 hT X
  have hve : v = r.map (mz_cvv ad) := Outcome.returned.inj hv
  subst hve
  have hS1 : va_S A s.heap t.heap (locs ++ L') := by
    refine ⟨?_, fun q hq hA => ?_, fun x hx => ?_⟩
    · have := hF1.1
      rw [h0] at this
      exact Nat.le_trans h3.1 this
    · have h5 := hF1.2 q (by rw [h0]; exact Nat.lt_of_lt_of_le hq h3.1) (fun z => hA (mz_A_sub F h3 q z))
      rw [h5, h0]
      exact h3.2.1 q hq hA
    · rcases List.mem_append.mp hx with hx | hx
      · exact h3.2.2 x hx
      · exact mz_A_sub F h3 _ (hL x hx)
  have hk := k ls t.heap (locs ++ L') h1 hP1 hS1 hsc
  obtain ⟨t2, a1, b1⟩ := hk T' e1 X'
  refine ⟨t2, st t2 ?_, b1⟩
  have e3 : (r.toList ++ rest).map (mz_cvv ad) = (r.map (mz_cvv ad)).toList ++ rest.map (mz_cvv ad) := by cases r <;> rfl
  rw [e3] at a1
  exact a1
/-- the callee's start -/
theorem mz_pre {p : Program} {R : Room} {s : State} {m : MethodId} {args : Array Value} {c : Code} {cells slots : Nat} {S0 : mz_Sh} {T0 : List (List Int32)} {T : List mz_R} {cl : List vw_C} {NM : List String} {ST : List (String × Nat × String)} {G0 : List Jvm.Cond} {gt : Nat → Option Jvm.Cond} {D : va_G} {cI : ClassId} {ad : Nat → Nat} {A : Nat → Prop} {nL Ln : Nat} {xs : Nat → Int32} {own : String} {cc : ByteArray} (F : mz_Fix p R s m args c cells slots S0 T0 T cl NM ST G0 gt D cI ad A nL Ln xs own cc) {as : List Value} {mem : mz_M} {H : Heap} {locs : List Loc} (h2 : va_P D cl (mz_w S0 cI ad mem) H) (h3 : va_S A s.heap H locs) (h4 : mz_scr xs Ln mem) : PreS s H (mz_Pc S0 T0 cl NM ST G0 D cI ad Ln xs H.size as mem) (as.map (mz_cvv ad)) := by
  refine ⟨mz_Pc_blind, fun U hU hW => ⟨rfl, by rw [hU], va_K.moved hW.alike F.2.1.1, by rw [hU]; exact h2, (F.2.1.2.1 mem).weaken (fun _ _ _ _ => trivial), ?_, h4⟩⟩
  rw [hU]
  exact mz_rok.kept (mz_rok.warm hW F.2.1.2.2.2) h3.1 h3.2.1 (fun q h => mz_A_sub F h3 q h)
theorem mz_split (S : List Value) (n : Nat) : S = (S.take n).reverse.reverse ++ S.drop n := by rw [List.reverse_reverse, List.take_append_drop]
set_option maxHeartbeats 4000000 in
theorem mz_run_all {S0 : mz_Sh} {T0 : List (List Int32)} {T : List mz_R} {cl : List vw_C} {NM : List String} {ST : List (String × Nat × String)} {G0 : List Jvm.Cond} {gt : Nat → Option Jvm.Cond} (hT : ∀ (a : Nat) (rc : mz_R), T[a]? = some rc → mz_Rok T cl NM ST G0 gt rc) : ∀ n, mz_Run S0 T0 T cl NM ST G0 gt n := by
  intro n
  induction n with
  | zero =>
    intro p l e R s m args below meth c cells slots Q D cI ad A nL Ln xs own cc d F hR K hK pc L S mem r mem' hrun kf
    cases hrun
  | succ n ih =>
    intro p l e R s m args below meth c cells slots Q D cI ad A nL Ln xs own cc d F hR K hK pc L S mem r mem' hrun kf
    unfold mz_x at hrun
    split at hrun
    · cases hrun
    · rename_i q hq
      obtain ⟨hqK, hqp⟩ := mz_fetch_in hq
      have hok := hK q hqK
      obtain ⟨qp, ins, len, f⟩ := q
      simp only at hqp
      subst hqp
      unfold mz_eok at hok
      simp only [Bool.and_eq_true] at hok
      obtain ⟨⟨hd, hlen⟩, hl⟩ := hok
      have hd := of_decide_eq_true hd
      simp only at hd hlen hl hrun
      split at hrun
      · cases hrun
      · rename_i c1 hs
        exact mz_w_all F hd hlen hl hs (ih d F hR K hK c1.1 c1.2.1 c1.2.2.1 c1.2.2.2 r mem' hrun kf)
      · rename_i r1 hs
        cases hrun
        have hend := mz_step_end hs
        have hl1 : len = 1 := by
          rcases hend with ⟨rfl, -⟩ | ⟨rfl, -⟩ | ⟨rfl, -⟩ <;> simpa [mz_ln, mz_sw] using hlen
        subst hl1
        exact kf ins qp L S hd hend
      · rename_i a hs
        split at hrun
        · rename_i rc d1 hrc
          obtain ⟨hcal, hrun⟩ := mz_cond hrun
          split at hrun
          · rename_i r1 m1 hin
            obtain ⟨hfit, hrun⟩ := mz_cond hrun
            have hRok := hT a rc hrc
            obtain ⟨hfa, hins⟩ := mz_step_call hs
            unfold mz_cal at hcal
            simp only [Bool.and_eq_true, beq_iff_eq] at hcal
            obtain ⟨⟨⟨c1, c2⟩, c3⟩, c4⟩ := hcal
            have c1 := of_decide_eq_true c1
            have c2 := of_decide_eq_true c2
            have hgo := ih (d1 + 1) F hR K hK (qp + 3) L (r1.toList ++ S.drop rc.2.2.2.2.2.2.1) m1 r mem' hrun kf
            have hlenA : (S.take rc.2.2.2.2.2.2.1).reverse.length = rc.2.2.2.2.2.2.1 := by rw [List.length_reverse, List.length_take]; omega
            have hroom : (mz_rm d1).frames + 1 ≤ R.frames ∧ 8 + (rc.2.2.2.1 + 11) + (mz_rm d1).locals ≤ R.locals := by
              have h45 := hRok.1.2.2.2
              refine ⟨hR.1, ?_⟩
              show 8 + (rc.2.2.2.1 + 11) + 64 * (d1 + 1) ≤ R.locals
              have := hR.2
              omega
            have hcodeG := hRok.2.1.1
            have hiniG := hRok.2.1.2
            have hgw : ∀ w ∈ mz_ws G0 rc, w ∈ mz_G G0 ∧ ((w.onTables && w.keeps) = true ∨ ∃ ty, w = .arrayClass ty) := by
              intro w hw
              rcases List.mem_cons.mp hw with rfl | hw
              · exact ⟨hcodeG, mz_G_good hcodeG⟩
              · exact ⟨hw, mz_G_good hw⟩
            generalize hasd : (S.take rc.2.2.2.2.2.2.1).reverse = as at c3 c4 hin hlenA
            have hSs : S = as.reverse ++ S.drop rc.2.2.2.2.2.2.1 := by rw [← hasd]; exact mz_split _ _
            generalize hrest : S.drop rc.2.2.2.2.2.2.1 = rest at hgo c2 hSs
            intro ls H locs h1 h2 h3 h4
            have hM := mz_met ih F.2.2.2 hRok l D cI ad Ln xs H.size d1 c4 hin hfit
            have hpre := mz_pre F (as := as) h2 h3 h4
            have hWs : 2 * (F0 m qp ls (S.map (mz_cvv ad))).monitorRoom + ((rest.map (mz_cvv ad)).map fun v => v.category).sum ≤ 8 := lv_room (by rw [mz_cat_map]; exact c2)
            have hfit2 : cells + 0 ≤ R.cells ∧ slots + 0 ≤ R.slots := ⟨F.2.2.1.2.2.1, F.2.2.1.2.2.2⟩
            rcases hins with ⟨x, rfl⟩ | ⟨x, rfl, hf⟩
            · obtain rfl : len = 3 := by simpa [mz_ln, mz_sw] using hlen
              simp only [mz_lk, hfa, hrc] at hl
              rw [Bool.and_eq_true] at hl
              have hst : rc.2.2.2.2.2.1 = false := by simpa using hl.1
              have hlk := mz_Gi F (of_decide_eq_true hl.2) rfl
              obtain ⟨hiG, hsG, hcls⟩ := hRok.2.2.2.1 hst
              have hdd := hRok.1.2.2.1
              rw [hst] at hdd
              unfold mz_rcv at c3
              rw [hst] at c3
              simp only [cond_false] at c3
              split at c3
              · rename_i i as1
                have hn1 : as1.length = rc.2.2.2.2.2.2.1 - 1 := by
                  have := hlenA
                  simp only [List.length_cons] at this
                  omega
                have hgV : GoodIn (mz_G G0) (wsV own x rc.2.1.cls rc.2.1 (mz_ws G0 rc)) := by
                  intro w hw
                  simp only [wsV, List.mem_append, List.mem_cons, List.not_mem_nil, or_false] at hw
                  rcases hw with (rfl | rfl | rfl | rfl) | hw
                  · exact ⟨hlk, mz_G_good hlk⟩
                  · exact ⟨hiG, mz_G_good hiG⟩
                  · exact ⟨hsG, mz_G_good hsG⟩
                  · exact ⟨hiniG, mz_G_good hiniG⟩
                  · exact hgw w hw
                have hcell : ∃ cellB : Cell, H[ad i]? = some cellB ∧ cellB.vm.isStatics = false ∧ s.vm.findClass rc.2.1.cls = some cellB.cls := by
                  rcases hcls with ⟨hc12, hcn⟩ | ⟨hc12, q, hcq, hcn⟩
                  · rw [hc12] at c3
                    obtain ⟨j, hj, rfl⟩ := mz_isT_k c3
                    rw [hcn]
                    have hv := vk_recv (i := j) F.2.1.2.2.2.2.2.2.1 hj h3
                    exact hv
                  · have h12 : (rc.1 == 12) = false := by simpa using hc12
                    rw [h12] at c3
                    simp only [cond_false] at c3
                    split at c3
                    · rename_i cc0 fs hS0
                      have hcc : cc0 = rc.1 := by simpa using c3
                      subst hcc
                      rw [← hcn]
                      exact va_recv F.2.1.1 h2 hcq (mz_w_obj hS0)
                    · cases c3
                exact mz_back F h1 h3 (va_runV (As := as1.map (mz_cvv ad)) (b := ad i) F.1 hM (cwV _ F.1.2.2.2.2 hgV rfl rfl rfl ⟨rfl, hRok.1.2.1.1, hRok.1.2.1.2, hdd⟩ hroom) ⟨hpre.1, hcell, hpre.2⟩ rfl (by rw [List.length_map]; exact hn1) h1.1 (by rw [hSs]; simp [mz_cvv]) hWs hd hfit2) hgo
              · cases c3
            · obtain rfl : len = 3 := by simpa [mz_ln, mz_sw] using hlen
              rcases hf with hf | hf
              · simp only [mz_lk, hf, hfa, hrc] at hl
                rw [Bool.and_eq_true] at hl
                have hst : rc.2.2.2.2.2.1 = true := by simpa using hl.1
                have hlk := mz_Gi F (of_decide_eq_true hl.2) rfl
                have hsG := hRok.2.2.1 hst
                have hdd := hRok.1.2.2.1
                rw [hst] at hdd
                have hgS : GoodIn (mz_G G0) (va_wsS own x rc.2.1 (mz_ws G0 rc)) := by
                  intro w hw
                  simp only [va_wsS, List.mem_append, List.mem_cons, List.not_mem_nil, or_false] at hw
                  rcases hw with (rfl | rfl | rfl) | hw
                  · exact ⟨hlk, mz_G_good hlk⟩
                  · exact ⟨hsG, mz_G_good hsG⟩
                  · exact ⟨hiniG, mz_G_good hiniG⟩
                  · exact hgw w hw
                exact mz_back F h1 h3 (va_runS (As := as.map (mz_cvv ad)) F.1 hM (va_cwS _ F.1.2.2.2.2 hgS rfl rfl rfl ⟨hRok.1.2.1.1, hRok.1.2.1.2, hdd⟩ hroom) hpre rfl (by rw [List.length_map]; exact hlenA) h1.1 (by rw [hSs]; simp) hWs hd hfit2) hgo
              · simp only [mz_lk, hf, hfa, hrc] at hl
                rw [Bool.and_eq_true] at hl
                have hst : rc.2.2.2.2.2.1 = true := by simpa using hl.1
                have hnw := F.2.1.2.2.2.2.2.2.2.2.1 _ (F.2.2.2.2.2.2.2.2.2 _ _ (of_decide_eq_true hl.2)) rfl
                have hsG := hRok.2.2.1 hst
                have hdd := hRok.1.2.2.1
                rw [hst] at hdd
                exact mz_back F h1 h3 (va_runSN (As := as.map (mz_cvv ad)) F.1 hM ⟨va_cnB _ F.1.2.2.2.2 hgw rfl rfl rfl hnw (F.1.2.2.2.2 _ hiniG) ⟨hRok.1.2.1.1, hRok.1.2.1.2, hdd⟩ hroom, F.1.2.2.2.2 _ hsG, trivial⟩ hpre rfl (by rw [List.length_map]; exact hlenA) h1.1 (by rw [hSs]; simp) hWs hd hfit2) hgo
          · cases hrun
        · cases hrun
end
section

/-! MAKING: the constructors, over a memory whose cells come one by one. A state: place, locals, stack, how many cells, which references are set, memory -/
abbrev zz_C : Type := Nat × List (Option Value) × List Value × Nat × (Nat → Nat → Bool) × mz_M
/-- a constructor: name, bytes, locals, how many values it takes, its instructions, its end -/
abbrev zz_R : Type := MethodName × ByteArray × Nat × Nat × mz_K × Nat
def mz_set0 (m : mz_M) (i : Nat) (f : Nat → Int32) : mz_M := fun a b => cond (a == i) (f b) (m a b)
def zz_un (z : Nat → Nat → Bool) (n : Nat) : Nat → Nat → Bool := fun i k => cond (i == n) false (z i k)
def zz_on (z : Nat → Nat → Bool) (i k : Nat) : Nat → Nat → Bool := fun a b => cond (a == i && b == k) true (z a b)
def zz_get (S0 : mz_Sh) (z : Nat → Nat → Bool) (m : mz_M) (n ci k i : Nat) : Option Value := cond (decide (i < n)) (match S0[i]? with
  | some (.inr (c, fs)) => cond (c == ci) (match fs[k]? with
    | some 0 => some (.int (m i k))
    | some (r + 3) => cond (z i k) (some (.ref r)) none
    | _ => none) none
  | _ => none) none
def zz_put (S0 : mz_Sh) (z : Nat → Nat → Bool) (m : mz_M) (n ci k i : Nat) (v : Value) : Option ((Nat → Nat → Bool) × mz_M) := cond (decide (i < n)) (match S0[i]? with
  | some (.inr (c, fs)) => cond (c == ci) (match fs[k]?, v with
    | some 0, .int x => some (z, mz_up m i k x)
    | some 1, .int x => cond (x == 0 || x == 1) (some (z, mz_up m i k x)) none
    | some 2, .ref r => cond (mz_isT r) (some (zz_on z i k, mz_up m i k (Int32.ofNat r))) none
    | some (a + 3), .ref r => cond (a == r) (some (zz_on z i k, m)) none
    | _, _ => none) none
  | _ => none) none
def zz_step (S0 : mz_Sh) (T0 : List (List Int32)) (ins : Instr) (f : mz_I) (pc : Nat) (L : List (Option Value)) (S : List Value) (n : Nat) (z : Nat → Nat → Bool) (m : mz_M) : Option (zz_C ⊕ Nat) := match ins with
  | .iconst _ => match mz_cv f with
    | some v => some (.inl (pc + 1, L, v :: S, n, z, m))
    | none => none
  | .bipush _ => match mz_cv f with
    | some v => some (.inl (pc + 2, L, v :: S, n, z, m))
    | none => none
  | .sipush _ => match mz_cv f with
    | some v => some (.inl (pc + 3, L, v :: S, n, z, m))
    | none => none
  | .ldc _ => match mz_cv f with
    | some (.ref a) => some (.inl (pc + 2, L, .ref a :: S, n, z, m))
    | _ => none
  | .aload_n k => match mz_ld L k.val with
    | some (.ref x) => some (.inl (pc + 1, L, .ref x :: S, n, z, m))
    | _ => none
  | .astore_n k => match S with
    | .ref x :: S => cond (decide (k.val < L.length)) (some (.inl (pc + 1, mz_st L k.val (.ref x), S, n, z, m))) none
    | _ => none
  | .istore_n k => match S with
    | .int x :: S => cond (decide (k.val < L.length)) (some (.inl (pc + 1, mz_st L k.val (.int x), S, n, z, m))) none
    | _ => none
  | .dup => match S with
    | .ref v :: S => some (.inl (pc + 1, L, .ref v :: .ref v :: S, n, z, m))
    | _ => none
  | .getfield _ => match S with
    | .ref i :: S => match zz_get S0 z m n f.2.1 f.2.2.1 i with
      | some v => some (.inl (pc + 3, L, v :: S, n, z, m))
      | none => none
    | _ => none
  | .putfield _ => match S with
    | v :: .ref i :: S => match zz_put S0 z m n f.2.1 f.2.2.1 i v with
      | some q => some (.inl (pc + 3, L, S, n, q.1, q.2))
      | none => none
    | _ => none
  | .getstatic _ => some (.inl (pc + 3, L, .ref (1000 + f.2.1) :: S, n, z, m))
  | .iastore => match S with
    | .int x :: .int j :: .ref i :: S => cond (decide (i < n)) (match S0[i]? with
      | some (.inl k) => cond (mz_in j k) (some (.inl (pc + 1, L, S, n, z, mz_up m i j.toNatClampNeg x))) none
      | _ => none) none
    | _ => none
  | .new _ => match S0[n]? with
    | some (.inr (c, _)) => cond (c == f.2.1) (some (.inl (pc + 3, L, .ref n :: S, n + 1, zz_un z n, mz_set0 m n (fun _ => 0)))) none
    | _ => none
  | .newarray .int => match S with
    | .int j :: S => match S0[n]? with
      | some (.inl k) => cond (j == Int32.ofNat k && decide (k < 100000)) (some (.inl (pc + 2, L, .ref n :: S, n + 1, z, mz_set0 m n (fun _ => 0)))) none
      | _ => none
    | _ => none
  | .invokevirtual _ => cond (f.1 == 34) (match S with
    | .ref 1004 :: S => match S0[n]?, T0[4]? with
      | some (.inl k), some t => cond (k == t.length && decide (mz_cat S ≤ 8)) (some (.inl (pc + 3, L, .ref n :: S, n + 1, z, mz_set0 m n (fun j => t.getD j 0)))) none
      | _, _ => none
    | _ => none) none
  | .checkcast _ => match S with
    | .ref i :: S => cond (decide (i < n)) (match S0[i]? with
      | some (.inl _) => some (.inl (pc + 3, L, .ref i :: S, n, z, m))
      | _ => none) none
    | _ => none
  | .invokespecial _ => match f.1 with
    | 31 => match S with
      | .ref _ :: S => cond (decide (mz_cat S ≤ 8)) (some (.inl (pc + 3, L, S, n, z, m))) none
      | _ => none
    | 32 => some (.inr f.2.1)
    | 33 => some (.inr f.2.1)
    | _ => none
  | _ => none
def zz_cal (r : zz_R) (S : List Value) : Bool := decide (r.2.2.2.1 ≤ S.length) && decide (mz_cat (S.drop r.2.2.2.1) ≤ 8) && decide (1 ≤ r.2.2.2.1) && (match (S.take r.2.2.2.1).reverse with
  | .ref _ :: _ => true
  | _ => false) && ((mz_ent (S.take r.2.2.2.1).reverse r.2.2.1).length == r.2.2.1)
/-- fuel, depth, the place where to stop -/
def zz_x (S0 : mz_Sh) (T0 : List (List Int32)) (CT : List zz_R) : Nat → Nat → Nat → mz_K → zz_C → Option zz_C
  | 0, _, _, _, _ => none
  | N + 1, d, sp, K, (pc, L, S, n, z, m) => cond (pc == sp) (some (pc, L, S, n, z, m)) (match mz_fetch K pc with
    | none => none
    | some q => match zz_step S0 T0 q.2.1 q.2.2.2 pc L S n z m with
      | none => none
      | some (.inl c) => zz_x S0 T0 CT N d sp K c
      | some (.inr a) => match CT[a]?, d with
        | some r, d + 1 => cond (zz_cal r S) (match zz_x S0 T0 CT N d r.2.2.2.2.2 r.2.2.2.2.1 (0, mz_ent (S.take r.2.2.2.1).reverse r.2.2.1, [], n, z, m) with
          | some (_, _, [], n', z', m') => zz_x S0 T0 CT N (d + 1) sp K (pc + 3, L, S.drop r.2.2.2.1, n', z', m')
          | _ => none) none
        | _, _ => none)
def zz_fv (ad : Nat → Nat) (z : Nat → Nat → Bool) (m : mz_M) (i k f : Nat) : Value := match f with
  | 0 => .int (m i k)
  | 1 => .int (m i k)
  | 2 => cond (z i k) (.ref (ad (m i k).toNatClampNeg)) .null
  | r + 3 => cond (z i k) (.ref (ad r)) .null
def zz_cell (S0 : mz_Sh) (cI : ClassId) (ad : Nat → Nat) (z : Nat → Nat → Bool) (m : mz_M) (i : Nat) : va_E := match S0[i]? with
  | some (.inl n) => .inl (cI, n, .inl (m i))
  | some (.inr (c, fs)) => .inr (c, fs.mapIdx (zz_fv ad z m i))
  | none => .inr (0, [])
def zz_w (S0 : mz_Sh) (cI : ClassId) (ad : Nat → Nat) (z : Nat → Nat → Bool) (m : mz_M) (n : Nat) : va_W := (List.range n).map fun i => (ad i, zz_cell S0 cI ad z m i)
theorem zz_w_len (S0 : mz_Sh) (cI : ClassId) (ad : Nat → Nat) (z : Nat → Nat → Bool) (m : mz_M) (n : Nat) : (zz_w S0 cI ad z m n).length = n := by simp [zz_w]
theorem zz_w_at {S0 : mz_Sh} {cI : ClassId} {ad : Nat → Nat} {z : Nat → Nat → Bool} {m : mz_M} {n i : Nat} (h : i < n) : (zz_w S0 cI ad z m n)[i]? = some (ad i, zz_cell S0 cI ad z m i) := by simp [zz_w, h]
theorem zz_w_in {S0 : mz_Sh} {cI : ClassId} {ad : Nat → Nat} {z : Nat → Nat → Bool} {m : mz_M} {n k : Nat} {q : Nat × va_E} (h : (zz_w S0 cI ad z m n)[k]? = some q) : k < n ∧ q = (ad k, zz_cell S0 cI ad z m k) := by
  have hk : k < n := by
    have := (List.getElem?_eq_some_iff.mp h).1
    rwa [zz_w_len] at this
  rw [zz_w_at hk] at h
  exact ⟨hk, (Option.some.inj h).symm⟩
theorem zz_w_set {S0 : mz_Sh} {cI : ClassId} {ad : Nat → Nat} {z z' : Nat → Nat → Bool} {m m' : mz_M} {n i : Nat} (h : i < n) (e : va_E) (he : zz_cell S0 cI ad z' m' i = e) (ho : ∀ j, j ≠ i → zz_cell S0 cI ad z' m' j = zz_cell S0 cI ad z m j) : (zz_w S0 cI ad z m n).set i (ad i, e) = zz_w S0 cI ad z' m' n := by
  apply List.ext_getElem?
  intro j
  by_cases hj : j < n
  · rw [zz_w_at hj]
    by_cases hij : i = j
    · subst hij
      rw [List.getElem?_set_self (by rw [zz_w_len]; exact h), he]
    · rw [List.getElem?_set_ne hij, zz_w_at hj, ho j (fun q => hij q.symm)]
  · rw [List.getElem?_eq_none (by rw [List.length_set, zz_w_len]; omega), List.getElem?_eq_none (by rw [zz_w_len]; omega)]
theorem zz_w_push {S0 : mz_Sh} {cI : ClassId} {ad : Nat → Nat} {z z' : Nat → Nat → Bool} {m m' : mz_M} {n : Nat} (e : va_E) (he : zz_cell S0 cI ad z' m' n = e) (ho : ∀ j, j ≠ n → zz_cell S0 cI ad z' m' j = zz_cell S0 cI ad z m j) : zz_w S0 cI ad z m n ++ [(ad n, e)] = zz_w S0 cI ad z' m' (n + 1) := by
  unfold zz_w
  rw [List.range_succ, List.map_append]
  congr 1
  · apply List.map_congr_left
    intro j hj
    rw [ho j (by have := List.mem_range.mp hj; omega)]
  · simp [he]
theorem zz_cell_ne {S0 : mz_Sh} {cI : ClassId} {ad : Nat → Nat} {z z' : Nat → Nat → Bool} {m m' : mz_M} {j : Nat} (h : m' j = m j) (hz : z' j = z j) : zz_cell S0 cI ad z' m' j = zz_cell S0 cI ad z m j := by
  have hf : zz_fv ad z' m' j = zz_fv ad z m j := by
    funext k f
    unfold zz_fv
    rw [h, hz]
  unfold zz_cell
  rw [h, hf]
theorem zz_set_ne {m : mz_M} {i j : Nat} {f : Nat → Int32} (h : j ≠ i) : mz_set0 m i f j = m j := by
  funext b
  have h1 : (j == i) = false := by simpa using h
  simp only [mz_set0, h1, cond_false]
theorem zz_set_eq {m : mz_M} {i : Nat} {f : Nat → Int32} : mz_set0 m i f i = f := by
  funext b
  simp [mz_set0]
theorem zz_un_ne {z : Nat → Nat → Bool} {n j : Nat} (h : j ≠ n) : zz_un z n j = z j := by
  funext b
  have h1 : (j == n) = false := by simpa using h
  simp only [zz_un, h1, cond_false]
theorem zz_on_ne {z : Nat → Nat → Bool} {i k j : Nat} (h : j ≠ i) : zz_on z i k j = z j := by
  funext b
  have h1 : (j == i) = false := by simpa using h
  simp only [zz_on, h1, Bool.false_and, cond_false]
def zz_sl (S0 : mz_Sh) (n : Nat) : Nat := ((List.range n).map fun i => match S0[i]? with
  | some (.inl k) => k
  | some (.inr (_, fs)) => fs.length
  | none => 0).sum
theorem zz_sl_succ (S0 : mz_Sh) (n : Nat) : zz_sl S0 (n + 1) = zz_sl S0 n + (match S0[n]? with
  | some (.inl k) => k
  | some (.inr (_, fs)) => fs.length
  | none => 0) := by
  unfold zz_sl
  rw [List.range_succ, List.map_append, List.sum_append]
  simp
theorem zz_sl_mono (S0 : mz_Sh) {a b : Nat} (h : a ≤ b) : zz_sl S0 a ≤ zz_sl S0 b := by
  induction b with
  | zero => rw [show a = 0 by omega]; exact Nat.le_refl _
  | succ b ih =>
    by_cases hab : a = b + 1
    · rw [hab]; exact Nat.le_refl _
    · rw [zz_sl_succ]
      exact Nat.le_trans (ih (by omega)) (Nat.le_add_right _ _)
/-- the first static array's cell, whole: for its clone -/
def zz_rf (T0 : List (List Int32)) (t : Nat) (A : Nat → Prop) (U : State) (H : Heap) : Prop := ∃ (cell : Cell) (tt : List Int32), T0[4]? = some tt ∧ H[t]? = some cell ∧ cell.vm.isStatics = false ∧ cell.vm ≠ .unknown ∧ U.vm.findClass "[I" = some cell.cls ∧ cell.slots.size = tt.length ∧ (∀ j, j < tt.length → cell.slots[j]? = some (.int (tt.getD j 0))) ∧ ¬ A t
theorem zz_rf.moved {T0 : List (List Int32)} {t : Nat} {A : Nat → Prop} {u U : State} {H : Heap} (hvm : u.vm.Alike U.vm) (h : zz_rf T0 t A u H) : zz_rf T0 t A U H := by
  obtain ⟨cell, tt, h0, h1, h2, h3, h4, h5⟩ := h
  exact ⟨cell, tt, h0, h1, h2, h3, by rw [hvm.findClass]; exact h4, h5⟩
theorem zz_rf.kept {T0 : List (List Int32)} {t : Nat} {A : Nat → Prop} {U : State} {H H1 : Heap} (h : zz_rf T0 t A U H) (hq : ∀ a : Nat, a < H.size → ¬ A a → H1[a]? = H[a]?) : zz_rf T0 t A U H1 := by
  obtain ⟨cell, tt, h0, h1, h2, h3, h4, h5, h6, h7⟩ := h
  exact ⟨cell, tt, h0, by rw [hq t (Array.getElem?_eq_some_iff.mp h1).1 h7]; exact h1, h2, h3, h4, h5, h6, h7⟩
def zz_A (sz : Nat) : Nat → Prop := fun q => sz ≤ q
/-- the words of a constructor's instruction -/
def zz_lk (cl : List vw_C) (NM : List String) (ST : List (String × Nat × String)) (gt : Nat → Option Jvm.Cond) (CT : List zz_R) (own : String) (ins : Instr) (f : mz_I) : Bool := match ins with
  | .iconst n => decide (mz_cv f = some (.int (Int32.ofInt n)))
  | .bipush n => decide (mz_cv f = some (.int (Int8.ofInt n).toInt32))
  | .sipush n => decide (mz_cv f = some (.int (Int16.ofInt n).toInt32))
  | .ldc x => match ST[f.2.1]? with
    | some q => q.1 == own && q.2.1 == x && f.1 == 22
    | none => false
  | .getfield x => match cl[f.2.1]? with
    | some q => decide (f.2.2.1 < q.2.2) && decide (gt f.2.2.2 = some (.fieldLink own x (q.2.1 f.2.2.1).1 (q.2.1 f.2.2.1).2.1 (q.2.1 f.2.2.1).2.2.1))
    | none => false
  | .putfield x => match cl[f.2.1]? with
    | some q => decide (f.2.2.1 < q.2.2) && decide (gt f.2.2.2 = some (.fieldLink own x (q.2.1 f.2.2.1).1 (q.2.1 f.2.2.1).2.1 (q.2.1 f.2.2.1).2.2.1)) && decide ((q.2.1 f.2.2.1).1 = own)
    | none => false
  | .getstatic x => match NM[f.2.1]? with
    | some n => decide (gt f.2.2.2 = some (.fieldLinkNest own x "ThreeMagnets" n "[I" "ThreeMagnets"))
    | none => false
  | .new x => match cl[f.2.1]? with
    | some q => decide (gt f.2.2.2 = some (.classLink own x q.1))
    | none => false
  | .invokevirtual x => decide (gt f.2.2.2 = some (.methodLink own x ⟨"[I", "clone", "()Ljava/lang/Object;"⟩))
  | .checkcast x => decide (gt f.2.2.2 = some (.classLink own x "[I"))
  | .invokespecial x => match f.1 with
    | 31 => decide (gt f.2.2.2 = some (.methodLink own x Lib.objectInit))
    | 32 => match CT[f.2.1]? with
      | some r => decide (gt f.2.2.2 = some (.methodLink own x r.1))
      | none => false
    | 33 => match CT[f.2.1]? with
      | some r => decide (gt f.2.2.2 = some (.methodLinkNest own x r.1 "ThreeMagnets"))
      | none => false
    | _ => true
  | _ => true
/-- the library's words for making -/
def zz_pw : List Jvm.Cond := [.arrayClass .int, .instanceMethod Lib.objectInit, .code Lib.objectInit ⟨#[0xb1]⟩ 1 none, .sameMethod "[I" "java/lang/Object" "clone" "()Ljava/lang/Object;", .native ⟨"java/lang/Object", "clone", "()Ljava/lang/Object;"⟩, .instanceMethod ⟨"java/lang/Object", "clone", "()Ljava/lang/Object;"⟩, .selects "[I" ⟨"[I", "clone", "()Ljava/lang/Object;"⟩ ⟨"java/lang/Object", "clone", "()Ljava/lang/Object;"⟩]
/-- a reference field's type -/
def zz_sok (S0 : mz_Sh) (cl : List vw_C) : Prop := ∀ (i c : Nat) (fs : List Nat), S0[i]? = some (.inr (c, fs)) → ∃ q, cl[c]? = some q ∧ fs.length = q.2.2 ∧ ∀ (k r : Nat), fs[k]? = some (r + 3) → ∃ t, parseFieldDescriptor (q.2.1 k).2.2.1 = some t ∧ (∀ a, narrow t (.ref a) = .ref a) ∧ (∀ a, fits t (.ref a) = true) ∧ defaultValue t = .null
def zz_cin (cl : List vw_C) (G0 : List Jvm.Cond) : Prop := ∀ (ci : Nat) (q : vw_C), cl[ci]? = some q → Jvm.Cond.instantiable q.1 q.2.2 ∈ mz_G G0 ∧ Jvm.Cond.initialized q.1 ∈ mz_G G0
def zz_Fix (p : Program) (R : Room) (s : State) (m : MethodId) (args : Array Value) (meth : Method) (c : Code) (S0 : mz_Sh) (T0 : List (List Int32)) (cl : List vw_C) (NM : List String) (ST : List (String × Nat × String)) (G0 : List Jvm.Cond) (gt : Nat → Option Jvm.Cond) (CT : List zz_R) (D : va_G) (cI : ClassId) (ad : Nat → Nat) (nL Ln sz n0 nE : Nat) (xs : Nat → Int32) (own : String) (cc : ByteArray) : Prop :=
  (p.tables.exec = Jvm.exec ∧ c.code = cc ∧ c.maxLocals = nL ∧ s.vm.findClass own = some m.cls ∧ (∀ w ∈ mz_G G0, w.before args s = true)) ∧
  (va_K D cl [(cI, .int)] s ∧ s.heap.size = sz + n0 ∧ (∀ i, i < 1000 → ad i = sz + i) ∧ mz_rok T0 NM ST G0 ad Ln xs (zz_A sz) s s.heap ∧ zz_rf T0 (ad 1004) (zz_A sz) s s.heap) ∧
  (1 ≤ R.frames ∧ 64 ≤ R.locals ∧ nE - n0 ≤ R.cells ∧ zz_sl S0 nE - zz_sl S0 n0 ≤ R.slots) ∧
  ((∀ (k : Nat) (q : vw_C), cl[k]? = some q → mz_cok G0 q) ∧ (mz_sok S0 cl ∧ zz_sok S0 cl) ∧ (∀ w ∈ zz_pw, w ∈ mz_G G0) ∧ S0.length ≤ 1000 ∧ zz_cin cl G0 ∧ NM.length = T0.length ∧ (∀ (i : Nat) (w : Jvm.Cond), gt i = some w → w ∈ G0) ∧ Jvm.Cond.castable "[I" "java/lang/Cloneable" ∈ G0)
def zz_Z (p : Program) (l : Launch) (e : Env) (R : Room) (s : State) (m : MethodId) (args : Array Value) (below : List Frame) (meth : Method) (c : Code) (Q : State → Prop) (S0 : mz_Sh) (cl : List vw_C) (D : va_G) (cI : ClassId) (ad : Nat → Nat) (nL sz n0 : Nat) (q : zz_C) : Prop :=
  ∀ (ls : Array Slot) (H : Heap) (locs : List Loc), mz_ls ad q.2.1 ls nL → va_P D cl (zz_w S0 cI ad q.2.2.2.2.1 q.2.2.2.2.2 q.2.2.2.1) H → va_S (zz_A sz) s.heap H locs → W p l e R s m args below meth c H locs (q.2.2.2.1 - n0) (zz_sl S0 q.2.2.2.1 - zz_sl S0 n0) Q (F0 m q.1 ls (q.2.2.1.map (mz_cvv ad)))

theorem zz_Gi {p : Program} {R : Room} {s : State} {m : MethodId} {args : Array Value} {meth : Method} {c : Code} {S0 : mz_Sh} {T0 : List (List Int32)} {cl : List vw_C} {NM : List String} {ST : List (String × Nat × String)} {G0 : List Jvm.Cond} {gt : Nat → Option Jvm.Cond} {CT : List zz_R} {D : va_G} {cI : ClassId} {ad : Nat → Nat} {nL Ln sz n0 nE : Nat} {xs : Nat → Int32} {own : String} {cc : ByteArray} (F : zz_Fix p R s m args meth c S0 T0 cl NM ST G0 gt CT D cI ad nL Ln sz n0 nE xs own cc) {w : Jvm.Cond} {i : Nat} (h : gt i = some w) (hg : goodWord w = true) : w.before args s = true := F.1.2.2.2.2 _ (mz_G_in (F.2.2.2.2.2.2.2.2.2.1 i w h) hg)
theorem zz_Pw {p : Program} {R : Room} {s : State} {m : MethodId} {args : Array Value} {meth : Method} {c : Code} {S0 : mz_Sh} {T0 : List (List Int32)} {cl : List vw_C} {NM : List String} {ST : List (String × Nat × String)} {G0 : List Jvm.Cond} {gt : Nat → Option Jvm.Cond} {CT : List zz_R} {D : va_G} {cI : ClassId} {ad : Nat → Nat} {nL Ln sz n0 nE : Nat} {xs : Nat → Int32} {own : String} {cc : ByteArray} (F : zz_Fix p R s m args meth c S0 T0 cl NM ST G0 gt CT D cI ad nL Ln sz n0 nE xs own cc) {w : Jvm.Cond} (h : w ∈ zz_pw) : w.before args s = true := F.1.2.2.2.2 _ (F.2.2.2.2.2.1 _ h)
theorem zz_Dd {S0 : mz_Sh} {cI : ClassId} {ad : Nat → Nat} {sz : Nat} {z : Nat → Nat → Bool} {m : mz_M} {n : Nat} (had : ∀ i, i < 1000 → ad i = sz + i) (hn : n ≤ 1000) : va_D (zz_A sz) (zz_w S0 cI ad z m n) := by
  refine ⟨fun i j x y hi hj he => ?_, fun k q hk => ?_⟩
  · obtain ⟨a1, rfl⟩ := zz_w_in hi
    obtain ⟨a2, rfl⟩ := zz_w_in hj
    have h1 : ad i = ad j := he
    rw [had i (by omega), had j (by omega)] at h1
    omega
  · obtain ⟨a1, rfl⟩ := zz_w_in hk
    show sz ≤ ad k
    rw [had k (by omega)]
    omega

set_option maxHeartbeats 1000000 in
theorem zz_w_iconst {p : Program} {l : Launch} {e : Env} {R : Room} {s : State} {m : MethodId} {args : Array Value} {below : List Frame} {meth : Method} {c : Code} {Q : State → Prop} {S0 : mz_Sh} {T0 : List (List Int32)} {cl : List vw_C} {NM : List String} {ST : List (String × Nat × String)} {G0 : List Jvm.Cond} {gt : Nat → Option Jvm.Cond} {CT : List zz_R} {D : va_G} {cI : ClassId} {ad : Nat → Nat} {nL Ln sz n0 nE : Nat} {xs : Nat → Int32} {own : String} {cc : ByteArray} (F : zz_Fix p R s m args meth c S0 T0 cl NM ST G0 gt CT D cI ad nL Ln sz n0 nE xs own cc) {f : mz_I} {pc : Nat} {L : List (Option Value)} {S : List Value} {n : Nat} {z : Nat → Nat → Bool} {mem : mz_M} {c1 : zz_C} {x : Int} (hd : decode cc pc = .ok (.iconst x, 1)) (hl : zz_lk cl NM ST gt CT own (.iconst x) f = true) (hn0 : n0 ≤ n) (hnS : n ≤ S0.length) (hnE : c1.2.2.2.1 ≤ nE) (hs : zz_step S0 T0 (.iconst x) f pc L S n z mem = some (.inl c1)) (k : zz_Z p l e R s m args below meth c Q S0 cl D cI ad nL sz n0 c1) : zz_Z p l e R s m args below meth c Q S0 cl D cI ad nL sz n0 (pc, L, S, n, z, mem) := by
  have hl := of_decide_eq_true hl
  simp only [zz_step] at hs
  rw [hl] at hs
  cases hs
  exact fun ls H locs h1 h2 h3 => lv_iconst F.1.1 F.1.2.1 hd rfl (k ls H locs h1 h2 h3)

set_option maxHeartbeats 1000000 in
theorem zz_w_bipush {p : Program} {l : Launch} {e : Env} {R : Room} {s : State} {m : MethodId} {args : Array Value} {below : List Frame} {meth : Method} {c : Code} {Q : State → Prop} {S0 : mz_Sh} {T0 : List (List Int32)} {cl : List vw_C} {NM : List String} {ST : List (String × Nat × String)} {G0 : List Jvm.Cond} {gt : Nat → Option Jvm.Cond} {CT : List zz_R} {D : va_G} {cI : ClassId} {ad : Nat → Nat} {nL Ln sz n0 nE : Nat} {xs : Nat → Int32} {own : String} {cc : ByteArray} (F : zz_Fix p R s m args meth c S0 T0 cl NM ST G0 gt CT D cI ad nL Ln sz n0 nE xs own cc) {f : mz_I} {pc : Nat} {L : List (Option Value)} {S : List Value} {n : Nat} {z : Nat → Nat → Bool} {mem : mz_M} {c1 : zz_C} {x : Int} (hd : decode cc pc = .ok (.bipush x, 2)) (hl : zz_lk cl NM ST gt CT own (.bipush x) f = true) (hn0 : n0 ≤ n) (hnS : n ≤ S0.length) (hnE : c1.2.2.2.1 ≤ nE) (hs : zz_step S0 T0 (.bipush x) f pc L S n z mem = some (.inl c1)) (k : zz_Z p l e R s m args below meth c Q S0 cl D cI ad nL sz n0 c1) : zz_Z p l e R s m args below meth c Q S0 cl D cI ad nL sz n0 (pc, L, S, n, z, mem) := by
  have hl := of_decide_eq_true hl
  simp only [zz_step] at hs
  rw [hl] at hs
  cases hs
  exact fun ls H locs h1 h2 h3 => lv_bipush F.1.1 F.1.2.1 hd rfl (k ls H locs h1 h2 h3)

set_option maxHeartbeats 1000000 in
theorem zz_w_sipush {p : Program} {l : Launch} {e : Env} {R : Room} {s : State} {m : MethodId} {args : Array Value} {below : List Frame} {meth : Method} {c : Code} {Q : State → Prop} {S0 : mz_Sh} {T0 : List (List Int32)} {cl : List vw_C} {NM : List String} {ST : List (String × Nat × String)} {G0 : List Jvm.Cond} {gt : Nat → Option Jvm.Cond} {CT : List zz_R} {D : va_G} {cI : ClassId} {ad : Nat → Nat} {nL Ln sz n0 nE : Nat} {xs : Nat → Int32} {own : String} {cc : ByteArray} (F : zz_Fix p R s m args meth c S0 T0 cl NM ST G0 gt CT D cI ad nL Ln sz n0 nE xs own cc) {f : mz_I} {pc : Nat} {L : List (Option Value)} {S : List Value} {n : Nat} {z : Nat → Nat → Bool} {mem : mz_M} {c1 : zz_C} {x : Int} (hd : decode cc pc = .ok (.sipush x, 3)) (hl : zz_lk cl NM ST gt CT own (.sipush x) f = true) (hn0 : n0 ≤ n) (hnS : n ≤ S0.length) (hnE : c1.2.2.2.1 ≤ nE) (hs : zz_step S0 T0 (.sipush x) f pc L S n z mem = some (.inl c1)) (k : zz_Z p l e R s m args below meth c Q S0 cl D cI ad nL sz n0 c1) : zz_Z p l e R s m args below meth c Q S0 cl D cI ad nL sz n0 (pc, L, S, n, z, mem) := by
  have hl := of_decide_eq_true hl
  simp only [zz_step] at hs
  rw [hl] at hs
  cases hs
  exact fun ls H locs h1 h2 h3 => lv_sipush F.1.1 F.1.2.1 hd rfl (k ls H locs h1 h2 h3)

set_option maxHeartbeats 1000000 in
theorem zz_w_ldc {p : Program} {l : Launch} {e : Env} {R : Room} {s : State} {m : MethodId} {args : Array Value} {below : List Frame} {meth : Method} {c : Code} {Q : State → Prop} {S0 : mz_Sh} {T0 : List (List Int32)} {cl : List vw_C} {NM : List String} {ST : List (String × Nat × String)} {G0 : List Jvm.Cond} {gt : Nat → Option Jvm.Cond} {CT : List zz_R} {D : va_G} {cI : ClassId} {ad : Nat → Nat} {nL Ln sz n0 nE : Nat} {xs : Nat → Int32} {own : String} {cc : ByteArray} (F : zz_Fix p R s m args meth c S0 T0 cl NM ST G0 gt CT D cI ad nL Ln sz n0 nE xs own cc) {f : mz_I} {pc : Nat} {L : List (Option Value)} {S : List Value} {n : Nat} {z : Nat → Nat → Bool} {mem : mz_M} {c1 : zz_C} {x : Nat} (hd : decode cc pc = .ok (.ldc x, 2)) (hl : zz_lk cl NM ST gt CT own (.ldc x) f = true) (hn0 : n0 ≤ n) (hnS : n ≤ S0.length) (hnE : c1.2.2.2.1 ≤ nE) (hs : zz_step S0 T0 (.ldc x) f pc L S n z mem = some (.inl c1)) (k : zz_Z p l e R s m args below meth c Q S0 cl D cI ad nL sz n0 c1) : zz_Z p l e R s m args below meth c Q S0 cl D cI ad nL sz n0 (pc, L, S, n, z, mem) := by
  simp only [zz_lk] at hl
  simp only [zz_step] at hs
  split at hs
  · rename_i r hv
    cases hs
    split at hl
    · rename_i q hq
      simp only [Bool.and_eq_true, beq_iff_eq] at hl
      obtain ⟨⟨h5, h6⟩, h7⟩ := hl
      have hr : r = 2000 + f.2.1 := by
        have h8 : mz_cv f = some (.ref (2000 + f.2.1)) := by
          unfold mz_cv
          rw [h7]
          rfl
        rw [hv] at h8
        exact Value.ref.inj (Option.some.inj h8)
      subst hr
      have h9 := F.2.1.2.2.2.1.2.2.1 _ _ hq
      rw [h5, h6] at h9
      exact fun ls H locs h1 h2 h3 => va_ldcS F.1.1 F.1.2.1 F.1.2.2.2.1 h9 hd (k ls H locs h1 h2 h3)
    · cases hl
  · cases hs

set_option maxHeartbeats 1000000 in
theorem zz_w_aload_n {p : Program} {l : Launch} {e : Env} {R : Room} {s : State} {m : MethodId} {args : Array Value} {below : List Frame} {meth : Method} {c : Code} {Q : State → Prop} {S0 : mz_Sh} {T0 : List (List Int32)} {cl : List vw_C} {NM : List String} {ST : List (String × Nat × String)} {G0 : List Jvm.Cond} {gt : Nat → Option Jvm.Cond} {CT : List zz_R} {D : va_G} {cI : ClassId} {ad : Nat → Nat} {nL Ln sz n0 nE : Nat} {xs : Nat → Int32} {own : String} {cc : ByteArray} (F : zz_Fix p R s m args meth c S0 T0 cl NM ST G0 gt CT D cI ad nL Ln sz n0 nE xs own cc) {f : mz_I} {pc : Nat} {L : List (Option Value)} {S : List Value} {n : Nat} {z : Nat → Nat → Bool} {mem : mz_M} {c1 : zz_C} {x : Fin 4} (hd : decode cc pc = .ok (.aload_n x, 1)) (hl : zz_lk cl NM ST gt CT own (.aload_n x) f = true) (hn0 : n0 ≤ n) (hnS : n ≤ S0.length) (hnE : c1.2.2.2.1 ≤ nE) (hs : zz_step S0 T0 (.aload_n x) f pc L S n z mem = some (.inl c1)) (k : zz_Z p l e R s m args below meth c Q S0 cl D cI ad nL sz n0 c1) : zz_Z p l e R s m args below meth c Q S0 cl D cI ad nL sz n0 (pc, L, S, n, z, mem) := by
  simp only [zz_step] at hs
  split at hs
  · rename_i y hy
    cases hs
    exact fun ls H locs h1 h2 h3 => lv_aload_n F.1.1 F.1.2.1 hd rfl (h1.2.2.2 _ _ (mz_ld_at hy)) (k ls H locs h1 h2 h3)
  · cases hs

set_option maxHeartbeats 1000000 in
theorem zz_w_astore_n {p : Program} {l : Launch} {e : Env} {R : Room} {s : State} {m : MethodId} {args : Array Value} {below : List Frame} {meth : Method} {c : Code} {Q : State → Prop} {S0 : mz_Sh} {T0 : List (List Int32)} {cl : List vw_C} {NM : List String} {ST : List (String × Nat × String)} {G0 : List Jvm.Cond} {gt : Nat → Option Jvm.Cond} {CT : List zz_R} {D : va_G} {cI : ClassId} {ad : Nat → Nat} {nL Ln sz n0 nE : Nat} {xs : Nat → Int32} {own : String} {cc : ByteArray} (F : zz_Fix p R s m args meth c S0 T0 cl NM ST G0 gt CT D cI ad nL Ln sz n0 nE xs own cc) {f : mz_I} {pc : Nat} {L : List (Option Value)} {S : List Value} {n : Nat} {z : Nat → Nat → Bool} {mem : mz_M} {c1 : zz_C} {x : Fin 4} (hd : decode cc pc = .ok (.astore_n x, 1)) (hl : zz_lk cl NM ST gt CT own (.astore_n x) f = true) (hn0 : n0 ≤ n) (hnS : n ≤ S0.length) (hnE : c1.2.2.2.1 ≤ nE) (hs : zz_step S0 T0 (.astore_n x) f pc L S n z mem = some (.inl c1)) (k : zz_Z p l e R s m args below meth c Q S0 cl D cI ad nL sz n0 c1) : zz_Z p l e R s m args below meth c Q S0 cl D cI ad nL sz n0 (pc, L, S, n, z, mem) := by
  simp only [zz_step] at hs
  split at hs
  · obtain ⟨hb, hs⟩ := mz_cond hs
    cases hs
    exact fun ls H locs h1 h2 h3 => lv_astore_n F.1.1 F.1.2.1 hd rfl (mz_ls_has h1) (h1.2.2.1 ▸ of_decide_eq_true hb) rfl (fun ls' h' => k ls' H locs (mz_ls_st h1 (of_decide_eq_true hb) h') h2 h3)
  · cases hs

set_option maxHeartbeats 1000000 in
theorem zz_w_istore_n {p : Program} {l : Launch} {e : Env} {R : Room} {s : State} {m : MethodId} {args : Array Value} {below : List Frame} {meth : Method} {c : Code} {Q : State → Prop} {S0 : mz_Sh} {T0 : List (List Int32)} {cl : List vw_C} {NM : List String} {ST : List (String × Nat × String)} {G0 : List Jvm.Cond} {gt : Nat → Option Jvm.Cond} {CT : List zz_R} {D : va_G} {cI : ClassId} {ad : Nat → Nat} {nL Ln sz n0 nE : Nat} {xs : Nat → Int32} {own : String} {cc : ByteArray} (F : zz_Fix p R s m args meth c S0 T0 cl NM ST G0 gt CT D cI ad nL Ln sz n0 nE xs own cc) {f : mz_I} {pc : Nat} {L : List (Option Value)} {S : List Value} {n : Nat} {z : Nat → Nat → Bool} {mem : mz_M} {c1 : zz_C} {x : Fin 4} (hd : decode cc pc = .ok (.istore_n x, 1)) (hl : zz_lk cl NM ST gt CT own (.istore_n x) f = true) (hn0 : n0 ≤ n) (hnS : n ≤ S0.length) (hnE : c1.2.2.2.1 ≤ nE) (hs : zz_step S0 T0 (.istore_n x) f pc L S n z mem = some (.inl c1)) (k : zz_Z p l e R s m args below meth c Q S0 cl D cI ad nL sz n0 c1) : zz_Z p l e R s m args below meth c Q S0 cl D cI ad nL sz n0 (pc, L, S, n, z, mem) := by
  simp only [zz_step] at hs
  split at hs
  · obtain ⟨hb, hs⟩ := mz_cond hs
    cases hs
    exact fun ls H locs h1 h2 h3 => lv_istore_n F.1.1 F.1.2.1 hd rfl (mz_ls_has h1) (h1.2.2.1 ▸ of_decide_eq_true hb) rfl (fun ls' h' => k ls' H locs (mz_ls_st h1 (of_decide_eq_true hb) h') h2 h3)
  · cases hs

set_option maxHeartbeats 1000000 in
theorem zz_w_dup {p : Program} {l : Launch} {e : Env} {R : Room} {s : State} {m : MethodId} {args : Array Value} {below : List Frame} {meth : Method} {c : Code} {Q : State → Prop} {S0 : mz_Sh} {T0 : List (List Int32)} {cl : List vw_C} {NM : List String} {ST : List (String × Nat × String)} {G0 : List Jvm.Cond} {gt : Nat → Option Jvm.Cond} {CT : List zz_R} {D : va_G} {cI : ClassId} {ad : Nat → Nat} {nL Ln sz n0 nE : Nat} {xs : Nat → Int32} {own : String} {cc : ByteArray} (F : zz_Fix p R s m args meth c S0 T0 cl NM ST G0 gt CT D cI ad nL Ln sz n0 nE xs own cc) {f : mz_I} {pc : Nat} {L : List (Option Value)} {S : List Value} {n : Nat} {z : Nat → Nat → Bool} {mem : mz_M} {c1 : zz_C} (hd : decode cc pc = .ok (.dup, 1)) (hl : zz_lk cl NM ST gt CT own (.dup) f = true) (hn0 : n0 ≤ n) (hnS : n ≤ S0.length) (hnE : c1.2.2.2.1 ≤ nE) (hs : zz_step S0 T0 (.dup) f pc L S n z mem = some (.inl c1)) (k : zz_Z p l e R s m args below meth c Q S0 cl D cI ad nL sz n0 c1) : zz_Z p l e R s m args below meth c Q S0 cl D cI ad nL sz n0 (pc, L, S, n, z, mem) := by
  simp only [zz_step] at hs
  split at hs
  · cases hs
    exact fun ls H locs h1 h2 h3 => lv_dup F.1.1 F.1.2.1 hd rfl (k ls H locs h1 h2 h3)
  · cases hs

theorem zz_w_obj {S0 : mz_Sh} {cI : ClassId} {ad : Nat → Nat} {z : Nat → Nat → Bool} {m : mz_M} {n i c : Nat} {fs : List Nat} (hi : i < n) (h : S0[i]? = some (.inr (c, fs))) : (zz_w S0 cI ad z m n)[i]? = some (ad i, .inr (c, fs.mapIdx (zz_fv ad z m i))) := by
  rw [zz_w_at hi, zz_cell, h]
theorem zz_w_arr {S0 : mz_Sh} {cI : ClassId} {ad : Nat → Nat} {z : Nat → Nat → Bool} {m : mz_M} {n i k : Nat} (hi : i < n) (h : S0[i]? = some (.inl k)) : (zz_w S0 cI ad z m n)[i]? = some (ad i, .inl (cI, k, .inl (m i))) := by
  rw [zz_w_at hi, zz_cell, h]
theorem zz_get_spec {S0 : mz_Sh} {ad : Nat → Nat} {z : Nat → Nat → Bool} {m : mz_M} {n ci k i : Nat} {v : Value} (h : zz_get S0 z m n ci k i = some v) : i < n ∧ ∃ fs, S0[i]? = some (.inr (ci, fs)) ∧ (fs.mapIdx (zz_fv ad z m i))[k]? = some (mz_cvv ad v) := by
  unfold zz_get at h
  obtain ⟨hin, h1⟩ := mz_cond h
  clear h
  refine ⟨of_decide_eq_true hin, ?_⟩
  split at h1
  · rename_i c fs hq
    obtain ⟨hb, h2⟩ := mz_cond h1
    clear h1
    have hc : c = ci := by simpa using hb
    subst hc
    refine ⟨fs, hq, ?_⟩
    rw [List.getElem?_mapIdx]
    split at h2
    · rename_i hk; rw [hk]; cases h2; rfl
    · rename_i r hk
      rw [hk]
      obtain ⟨hz, h3⟩ := mz_cond h2
      cases h3
      show some (cond (z i k) _ _) = _
      rw [hz]
      rfl
    · cases h2
  · cases h1
theorem zz_up_nb {m : mz_M} {i k b : Nat} {x : Int32} (h : b ≠ k) : mz_up m i k x i b = m i b := by rw [mz_up_eq, if_neg h]
theorem zz_put_spec {S0 : mz_Sh} {ad : Nat → Nat} {z : Nat → Nat → Bool} {m : mz_M} {n ci k i : Nat} {v : Value} {q : (Nat → Nat → Bool) × mz_M} (h : zz_put S0 z m n ci k i v = some q) : i < n ∧ ∃ fs f, S0[i]? = some (.inr (ci, fs)) ∧ fs[k]? = some f ∧ (∀ j, j ≠ i → q.2 j = m j ∧ q.1 j = z j) ∧ (∀ b, b ≠ k → q.2 i b = m i b ∧ q.1 i b = z i b) ∧ mz_cvv ad v = zz_fv ad q.1 q.2 i k f ∧ ((f = 0 ∧ ∃ x, v = .int x) ∨ (f = 1 ∧ ∃ x, v = .int x ∧ (x = 0 ∨ x = 1)) ∨ (f = 2 ∧ ∃ r, v = .ref r) ∨ (∃ r, f = r + 3 ∧ v = .ref r)) := by
  unfold zz_put at h
  obtain ⟨hin, h1⟩ := mz_cond h
  clear h
  refine ⟨of_decide_eq_true hin, ?_⟩
  split at h1
  · rename_i c fs hq
    obtain ⟨hb, h2⟩ := mz_cond h1
    clear h1
    have hc : c = ci := by simpa using hb
    subst hc
    split at h2
    · rename_i x hk
      cases h2
      exact ⟨fs, 0, hq, hk, fun j hj => ⟨mz_up_ne hj, rfl⟩, fun b hb => ⟨zz_up_nb hb, rfl⟩, by simp [mz_cvv, zz_fv, mz_up_eq], Or.inl ⟨rfl, x, rfl⟩⟩
    · rename_i x hk
      obtain ⟨hb2, h3⟩ := mz_cond h2
      cases h3
      exact ⟨fs, 1, hq, hk, fun j hj => ⟨mz_up_ne hj, rfl⟩, fun b hb => ⟨zz_up_nb hb, rfl⟩, by simp [mz_cvv, zz_fv, mz_up_eq], Or.inr (Or.inl ⟨rfl, x, rfl, by simpa using hb2⟩)⟩
    · rename_i r hk
      obtain ⟨hb2, h3⟩ := mz_cond h2
      cases h3
      have hr := (mz_isT_spec hb2).2
      refine ⟨fs, 2, hq, hk, fun j hj => ⟨mz_up_ne hj, zz_on_ne hj⟩, fun b hb => ⟨zz_up_nb hb, ?_⟩, ?_, Or.inr (Or.inr (Or.inl ⟨rfl, r, rfl⟩))⟩
      · have h1 : (b == k) = false := by simpa using hb
        simp [zz_on, h1]
      · have h5 : (Int32.ofNat r).toNatClampNeg = r := nI_clamp (show (r : Nat) < 2 ^ 31 from Nat.lt_trans hr (by decide))
        simp [mz_cvv, zz_fv, zz_on, mz_up_eq, h5]
    · rename_i a r hk
      obtain ⟨hb2, h3⟩ := mz_cond h2
      cases h3
      have har : a = r := by simpa using hb2
      subst har
      refine ⟨fs, a + 3, hq, hk, fun j hj => ⟨rfl, zz_on_ne hj⟩, fun b hb => ⟨rfl, ?_⟩, ?_, Or.inr (Or.inr (Or.inr ⟨a, rfl, rfl⟩))⟩
      · have h1 : (b == k) = false := by simpa using hb
        simp [zz_on, h1]
      · simp [mz_cvv, zz_fv, zz_on]
    · cases h2
  · cases h1
theorem zz_put_cell {S0 : mz_Sh} {cI : ClassId} {ad : Nat → Nat} {z z' : Nat → Nat → Bool} {m m' : mz_M} {n i ci k f : Nat} {fs : List Nat} {v : Value} (hi : i < n) (h : S0[i]? = some (.inr (ci, fs))) (hk : fs[k]? = some f) (ho : ∀ j, j ≠ i → m' j = m j ∧ z' j = z j) (hb : ∀ b, b ≠ k → m' i b = m i b ∧ z' i b = z i b) (hv : v = zz_fv ad z' m' i k f) : (zz_w S0 cI ad z m n).set i (ad i, .inr (ci, (fs.mapIdx (zz_fv ad z m i)).set k v)) = zz_w S0 cI ad z' m' n := by
  refine zz_w_set hi _ ?_ (fun j hj => zz_cell_ne (ho j hj).1 (ho j hj).2)
  rw [zz_cell, h]
  refine congrArg (fun w => (Sum.inr (ci, w) : va_E)) ?_
  apply List.ext_getElem?
  intro j
  rw [List.getElem?_mapIdx]
  by_cases hj : k = j
  · subst hj
    rw [hk, List.getElem?_set_self (by rw [List.length_mapIdx]; exact (List.getElem?_eq_some_iff.mp hk).1), hv]
    rfl
  · rw [List.getElem?_set_ne hj, List.getElem?_mapIdx]
    congr 1
    funext g
    unfold zz_fv
    rw [(hb j (fun q => hj q.symm)).1, (hb j (fun q => hj q.symm)).2]

set_option maxHeartbeats 1000000 in
theorem zz_w_getfield {p : Program} {l : Launch} {e : Env} {R : Room} {s : State} {m : MethodId} {args : Array Value} {below : List Frame} {meth : Method} {c : Code} {Q : State → Prop} {S0 : mz_Sh} {T0 : List (List Int32)} {cl : List vw_C} {NM : List String} {ST : List (String × Nat × String)} {G0 : List Jvm.Cond} {gt : Nat → Option Jvm.Cond} {CT : List zz_R} {D : va_G} {cI : ClassId} {ad : Nat → Nat} {nL Ln sz n0 nE : Nat} {xs : Nat → Int32} {own : String} {cc : ByteArray} (F : zz_Fix p R s m args meth c S0 T0 cl NM ST G0 gt CT D cI ad nL Ln sz n0 nE xs own cc) {f : mz_I} {pc : Nat} {L : List (Option Value)} {S : List Value} {n : Nat} {z : Nat → Nat → Bool} {mem : mz_M} {c1 : zz_C} {x : Nat} (hd : decode cc pc = .ok (.getfield x, 3)) (hl : zz_lk cl NM ST gt CT own (.getfield x) f = true) (hn0 : n0 ≤ n) (hnS : n ≤ S0.length) (hnE : c1.2.2.2.1 ≤ nE) (hs : zz_step S0 T0 (.getfield x) f pc L S n z mem = some (.inl c1)) (k : zz_Z p l e R s m args below meth c Q S0 cl D cI ad nL sz n0 c1) : zz_Z p l e R s m args below meth c Q S0 cl D cI ad nL sz n0 (pc, L, S, n, z, mem) := by
  simp only [zz_lk] at hl
  simp only [zz_step] at hs
  split at hs
  · rename_i i S1
    split at hs
    · rename_i v hv
      cases hs
      split at hl
      · rename_i q hq
        rw [Bool.and_eq_true] at hl
        obtain ⟨hin, fs, h5, h6⟩ := zz_get_spec (ad := ad) hv
        exact fun ls H locs h1 h2 h3 => va_get (C := q.1) (T := q.2.1) (N := q.2.2) F.1.1 F.1.2.1 F.1.2.2.2.2 (F.2.2.2.1 _ _ hq).1 F.1.2.2.2.1 F.2.1.1 h2 i (zz_w_obj hin h5) hq f.2.2.1 (of_decide_eq_true hl.1) (zz_Gi F (of_decide_eq_true hl.2) rfl) (fun _ h => h) h6 hd (k ls H locs h1 h2 h3)
      · cases hl
    · cases hs
  · cases hs

set_option maxHeartbeats 1000000 in
theorem zz_w_putfield {p : Program} {l : Launch} {e : Env} {R : Room} {s : State} {m : MethodId} {args : Array Value} {below : List Frame} {meth : Method} {c : Code} {Q : State → Prop} {S0 : mz_Sh} {T0 : List (List Int32)} {cl : List vw_C} {NM : List String} {ST : List (String × Nat × String)} {G0 : List Jvm.Cond} {gt : Nat → Option Jvm.Cond} {CT : List zz_R} {D : va_G} {cI : ClassId} {ad : Nat → Nat} {nL Ln sz n0 nE : Nat} {xs : Nat → Int32} {own : String} {cc : ByteArray} (F : zz_Fix p R s m args meth c S0 T0 cl NM ST G0 gt CT D cI ad nL Ln sz n0 nE xs own cc) {f : mz_I} {pc : Nat} {L : List (Option Value)} {S : List Value} {n : Nat} {z : Nat → Nat → Bool} {mem : mz_M} {c1 : zz_C} {x : Nat} (hin2 : meth.name = "<init>") (hd : decode cc pc = .ok (.putfield x, 3)) (hl : zz_lk cl NM ST gt CT own (.putfield x) f = true) (hn0 : n0 ≤ n) (hnS : n ≤ S0.length) (hnE : c1.2.2.2.1 ≤ nE) (hs : zz_step S0 T0 (.putfield x) f pc L S n z mem = some (.inl c1)) (k : zz_Z p l e R s m args below meth c Q S0 cl D cI ad nL sz n0 c1) : zz_Z p l e R s m args below meth c Q S0 cl D cI ad nL sz n0 (pc, L, S, n, z, mem) := by
  simp only [zz_lk] at hl
  simp only [zz_step] at hs
  split at hs
  · rename_i v i S1
    split at hs
    · rename_i q0 hm
      cases hs
      split at hl
      · rename_i q hq
        simp only [Bool.and_eq_true] at hl
        obtain ⟨⟨hk, hw⟩, hdecl⟩ := hl
        have hdecl := of_decide_eq_true hdecl
        obtain ⟨hin, fs, g, h5, h6, ho, hb, hvv, h7⟩ := zz_put_spec (ad := ad) hm
        obtain ⟨q1, hq1, hlen, hsh⟩ := F.2.2.2.2.1.1 _ _ _ h5
        have hqe : q1 = q := Option.some.inj (hq1.symm.trans hq)
        subst hqe
        obtain ⟨q2, hq2, -, hsh2⟩ := F.2.2.2.2.1.2 _ _ _ h5
        have hqe2 : q2 = q1 := Option.some.inj (hq2.symm.trans hq)
        subst hqe2
        obtain ⟨hcin, hnm, ty0, hty⟩ := F.2.2.2.1 _ _ hq
        obtain ⟨t, ht2, ht3, ht4⟩ : ∃ t, parseFieldDescriptor (q2.2.1 f.2.2.1).2.2.1 = some t ∧ narrow t (mz_cvv ad v) = mz_cvv ad v ∧ fits t (mz_cvv ad v) = true := by
          rcases h7 with ⟨rfl, x, rfl⟩ | ⟨rfl, x, rfl, h8⟩ | ⟨rfl, r, rfl⟩ | ⟨r, rfl, rfl⟩
          · exact ⟨.int, ((hsh _ _ h6).1 rfl).2, rfl, rfl⟩
          · refine ⟨.boolean, ((hsh _ _ h6).2.1 rfl).2, ?_, ?_⟩
            · rcases h8 with rfl | rfl <;> rfl
            · rcases h8 with rfl | rfl <;> rfl
          · exact ⟨_, ((hsh _ _ h6).2.2 rfl).2, rfl, rfl⟩
          · obtain ⟨t, a1, a2, a3, -⟩ := hsh2 _ _ h6
            exact ⟨t, a1, a2 _, a3 _⟩
        intro ls H locs h1 h2 h3
        have hD := zz_Dd (S0 := S0) (cI := cI) (z := z) (m := mem) F.2.1.2.2.1 (Nat.le_trans hnS F.2.2.2.2.2.2.1)
        have hlk := zz_Gi F (of_decide_eq_true hw) rfl
        have hgo : ∀ (H1 : Heap) (locs1 : List Loc), va_P D cl ((zz_w S0 cI ad z mem n).set i (ad i, .inr (f.2.1, (fs.mapIdx (zz_fv ad z mem i)).set f.2.2.1 (mz_cvv ad v)))) H1 → va_D (zz_A sz) ((zz_w S0 cI ad z mem n).set i (ad i, .inr (f.2.1, (fs.mapIdx (zz_fv ad z mem i)).set f.2.2.1 (mz_cvv ad v)))) → va_S (zz_A sz) s.heap H1 locs1 → W p l e R s m args below meth c H1 locs1 (n - n0) (zz_sl S0 n - zz_sl S0 n0) Q (F0 m (pc + 3) ls (S1.map (mz_cvv ad))) := by
          intro H1 locs1 a1 a2 a3
          rw [zz_put_cell hin h5 h6 ho hb hvv] at a1
          exact k ls H1 locs1 h1 a1 a3
        cases hfin : (q2.2.1 f.2.2.1).2.2.2 with
        | false => exact va_put (C := q2.1) (T := q2.2.1) (N := q2.2.2) (ty := t) F.1.1 F.1.2.1 F.1.2.2.2.2 hcin ty0 hty hnm F.1.2.2.2.1 F.2.1.1 h2 hD h3 i (zz_w_obj hin h5) hq f.2.2.1 (of_decide_eq_true hk) hlk (fun _ h => h) hfin ht2 ht3 ht4 (by rw [List.length_mapIdx]; exact (List.getElem?_eq_some_iff.mp h6).1) hd hgo
        | true => exact va_putF (C := q2.1) (T := q2.2.1) (N := q2.2.2) (ty := t) F.1.1 F.1.2.1 F.1.2.2.2.2 hcin ty0 hty hnm F.1.2.2.2.1 F.2.1.1 h2 hD h3 i (zz_w_obj hin h5) hq f.2.2.1 (of_decide_eq_true hk) hlk (fun _ h => h) hfin hin2 hdecl ht2 ht3 ht4 (by rw [List.length_mapIdx]; exact (List.getElem?_eq_some_iff.mp h6).1) hd hgo
      · cases hl
    · cases hs
  · cases hs

set_option maxHeartbeats 1000000 in
theorem zz_w_getstatic {p : Program} {l : Launch} {e : Env} {R : Room} {s : State} {m : MethodId} {args : Array Value} {below : List Frame} {meth : Method} {c : Code} {Q : State → Prop} {S0 : mz_Sh} {T0 : List (List Int32)} {cl : List vw_C} {NM : List String} {ST : List (String × Nat × String)} {G0 : List Jvm.Cond} {gt : Nat → Option Jvm.Cond} {CT : List zz_R} {D : va_G} {cI : ClassId} {ad : Nat → Nat} {nL Ln sz n0 nE : Nat} {xs : Nat → Int32} {own : String} {cc : ByteArray} (F : zz_Fix p R s m args meth c S0 T0 cl NM ST G0 gt CT D cI ad nL Ln sz n0 nE xs own cc) {f : mz_I} {pc : Nat} {L : List (Option Value)} {S : List Value} {n : Nat} {z : Nat → Nat → Bool} {mem : mz_M} {c1 : zz_C} {x : Nat} (hd : decode cc pc = .ok (.getstatic x, 3)) (hl : zz_lk cl NM ST gt CT own (.getstatic x) f = true) (hn0 : n0 ≤ n) (hnS : n ≤ S0.length) (hnE : c1.2.2.2.1 ≤ nE) (hs : zz_step S0 T0 (.getstatic x) f pc L S n z mem = some (.inl c1)) (k : zz_Z p l e R s m args below meth c Q S0 cl D cI ad nL sz n0 c1) : zz_Z p l e R s m args below meth c Q S0 cl D cI ad nL sz n0 (pc, L, S, n, z, mem) := by
  simp only [zz_lk] at hl
  simp only [zz_step] at hs
  obtain rfl := Sum.inl.inj (Option.some.inj hs)
  split at hl
  · rename_i nm hnm
    have hZ := F.2.1.2.2.2.1.1 _ _ hnm
    exact fun ls H locs h1 h2 h3 => va_getsN F.1.1 F.1.2.1 (hZ.narrow (fun _ h => h)) h3 F.1.2.2.2.1 (va_Nw.use rfl (F.2.1.2.2.2.1.2.2.2.2.2.1 _ (F.2.2.2.2.2.2.2.2.2.1 _ _ (of_decide_eq_true hl)) rfl)) (fun _ h => h) hd (k ls H locs h1 h2 h3)
  · cases hl

set_option maxHeartbeats 1000000 in
theorem zz_w_iastore {p : Program} {l : Launch} {e : Env} {R : Room} {s : State} {m : MethodId} {args : Array Value} {below : List Frame} {meth : Method} {c : Code} {Q : State → Prop} {S0 : mz_Sh} {T0 : List (List Int32)} {cl : List vw_C} {NM : List String} {ST : List (String × Nat × String)} {G0 : List Jvm.Cond} {gt : Nat → Option Jvm.Cond} {CT : List zz_R} {D : va_G} {cI : ClassId} {ad : Nat → Nat} {nL Ln sz n0 nE : Nat} {xs : Nat → Int32} {own : String} {cc : ByteArray} (F : zz_Fix p R s m args meth c S0 T0 cl NM ST G0 gt CT D cI ad nL Ln sz n0 nE xs own cc) {f : mz_I} {pc : Nat} {L : List (Option Value)} {S : List Value} {n : Nat} {z : Nat → Nat → Bool} {mem : mz_M} {c1 : zz_C} (hd : decode cc pc = .ok (.iastore, 1)) (hl : zz_lk cl NM ST gt CT own (.iastore) f = true) (hn0 : n0 ≤ n) (hnS : n ≤ S0.length) (hnE : c1.2.2.2.1 ≤ nE) (hs : zz_step S0 T0 (.iastore) f pc L S n z mem = some (.inl c1)) (k : zz_Z p l e R s m args below meth c Q S0 cl D cI ad nL sz n0 c1) : zz_Z p l e R s m args below meth c Q S0 cl D cI ad nL sz n0 (pc, L, S, n, z, mem) := by
  simp only [zz_step] at hs
  split at hs
  · rename_i x j i S1
    obtain ⟨hin, hs⟩ := mz_cond hs
    have hin := of_decide_eq_true hin
    split at hs
    · rename_i kk hkk
      obtain ⟨hb, hs⟩ := mz_cond hs
      cases hs
      intro ls H locs h1 h2 h3
      have hD := zz_Dd (S0 := S0) (cI := cI) (z := z) (m := mem) F.2.1.2.2.1 (Nat.le_trans hnS F.2.2.2.2.2.2.1)
      refine va_iast F.1.1 F.1.2.1 F.2.1.1 h2 hD h3 i 0 (zz_w_arr hin hkk) rfl (mz_in_of hb) hd (fun H1 locs1 a1 a2 a3 => ?_)
      rw [zz_w_set (z' := z) (m' := mz_up mem i j.toNatClampNeg x) hin _ (by rw [zz_cell, hkk]; refine congrArg (fun g => (Sum.inl (cI, kk, .inl g) : va_E)) ?_; funext b; rw [mz_up_eq]; rfl) (fun j hj => zz_cell_ne (mz_up_ne hj) rfl)] at a1
      exact k ls H1 locs1 h1 a1 a3
    · cases hs
  · cases hs

theorem zz_sz {p : Program} {l : Launch} {e : Env} {R : Room} {s : State} {m : MethodId} {args : Array Value} {below : List Frame} {meth : Method} {c : Code} {H : Heap} {locs : List Loc} {cells slots : Nat} {Q : State → Prop} {g : JFrame} (k : H.size ≤ s.heap.size + cells → W p l e R s m args below meth c H locs cells slots Q g) : W p l e R s m args below meth c H locs cells slots Q g := by
  intro T hT X
  exact k (by rw [← hT]; exact X.heapSize) T hT X
theorem zz_hsz {s : State} {S0 : mz_Sh} {cl : List vw_C} {D : va_G} {cI : ClassId} {ad : Nat → Nat} {sz n0 n : Nat} {z : Nat → Nat → Bool} {m : mz_M} {H : Heap} {locs : List Loc} (had : ∀ i, i < 1000 → ad i = sz + i) (hs : s.heap.size = sz + n0) (hn0 : n0 ≤ n) (hn : n ≤ 1000) (h2 : va_P D cl (zz_w S0 cI ad z m n) H) (h3 : va_S (zz_A sz) s.heap H locs) (hu : H.size ≤ s.heap.size + (n - n0)) : H.size = sz + n := by
  by_cases he : n = n0
  · have := h3.1
    omega
  · have h4 := (h2 (n - 1) _ (zz_w_at (by omega))).lt
    have h5 : ad (n - 1) < H.size := h4
    rw [had (n - 1) (by omega)] at h5
    omega
/-- a new cell at the heap's end -/
theorem zz_grow {s : State} {S0 : mz_Sh} {cl : List vw_C} {D : va_G} {cI : ClassId} {ad : Nat → Nat} {sz n : Nat} {z z' : Nat → Nat → Bool} {m m' : mz_M} {H H1 : Heap} {locs : List Loc} (e : va_E) (he : zz_cell S0 cI ad z' m' n = e) (ho : ∀ j, j ≠ n → zz_cell S0 cI ad z' m' j = zz_cell S0 cI ad z m j) (h2 : va_P D cl (zz_w S0 cI ad z m n) H) (h3 : va_S (zz_A sz) s.heap H locs) (hz : H1.size = H.size + 1) (hk : ∀ q, q < H.size → H1[q]? = H[q]?) (h1 : va_at D cl (ad n, e) H1) : va_P D cl (zz_w S0 cI ad z' m' (n + 1)) H1 ∧ va_S (zz_A sz) s.heap H1 locs := by
  refine ⟨?_, by have := h3.1; omega, fun q hq hA => (hk q (Nat.lt_of_lt_of_le hq h3.1)).trans (h3.2.1 q hq hA), h3.2.2⟩
  rw [← zz_w_push e he ho]
  refine (h2.kept (fun k q hq => hk _ (h2 k q hq).lt)).app (fun k q hq => ?_)
  have hz : k < 1 := (List.getElem?_eq_some_iff.mp hq).1
  rw [show k = 0 by omega] at hq
  cases hq
  exact h1

set_option maxHeartbeats 4000000 in
theorem zz_w_new {p : Program} {l : Launch} {e : Env} {R : Room} {s : State} {m : MethodId} {args : Array Value} {below : List Frame} {meth : Method} {c : Code} {Q : State → Prop} {S0 : mz_Sh} {T0 : List (List Int32)} {cl : List vw_C} {NM : List String} {ST : List (String × Nat × String)} {G0 : List Jvm.Cond} {gt : Nat → Option Jvm.Cond} {CT : List zz_R} {D : va_G} {cI : ClassId} {ad : Nat → Nat} {nL Ln sz n0 nE : Nat} {xs : Nat → Int32} {own : String} {cc : ByteArray} (F : zz_Fix p R s m args meth c S0 T0 cl NM ST G0 gt CT D cI ad nL Ln sz n0 nE xs own cc) {f : mz_I} {pc : Nat} {L : List (Option Value)} {S : List Value} {n : Nat} {z : Nat → Nat → Bool} {mem : mz_M} {c1 : zz_C} {x : Nat} (hd : decode cc pc = .ok (.new x, 3)) (hl : zz_lk cl NM ST gt CT own (.new x) f = true) (hn0 : n0 ≤ n) (hnS : n ≤ S0.length) (hnE : c1.2.2.2.1 ≤ nE) (hs : zz_step S0 T0 (.new x) f pc L S n z mem = some (.inl c1)) (k : zz_Z p l e R s m args below meth c Q S0 cl D cI ad nL sz n0 c1) : zz_Z p l e R s m args below meth c Q S0 cl D cI ad nL sz n0 (pc, L, S, n, z, mem) := by
  simp only [zz_lk] at hl
  simp only [zz_step] at hs
  split at hs
  · rename_i ci fs hS
    obtain ⟨hb, hs⟩ := mz_cond hs
    have hci : ci = f.2.1 := by simpa using hb
    cases hs
    split at hl
    · rename_i q hq
      have hlk := zz_Gi F (of_decide_eq_true hl) rfl
      rw [← hci] at hq
      obtain ⟨q1, hq1, hlen, hsh⟩ := F.2.2.2.2.1.1 _ _ _ hS
      obtain ⟨q2, hq2, -, hsh2⟩ := F.2.2.2.2.1.2 _ _ _ hS
      obtain rfl : q1 = q := Option.some.inj (hq1.symm.trans hq)
      obtain rfl : q2 = q1 := Option.some.inj (hq2.symm.trans hq)
      obtain ⟨hcin, hnm, ty0, hty⟩ := F.2.2.2.1 _ _ hq
      have hin2 := F.2.2.2.2.2.2.2.1 _ _ hq
      have hKn := F.2.1.1.1 _ _ hq
      have hslsz : zz_sl S0 (n + 1) = zz_sl S0 n + q2.2.2 := by rw [zz_sl_succ, hS, ← hlen]
      have hslm := zz_sl_mono S0 hn0
      have hn1 : n + 1 ≤ 1000 := Nat.le_trans (mz_lt hS) F.2.2.2.2.2.2.1
      have hnE : n + 1 ≤ nE := hnE
      have hslE := zz_sl_mono S0 hnE
      have hrc := F.2.2.1.2.2.1
      have hrs := F.2.2.1.2.2.2
      intro ls H locs h1 h2 h3
      show W p l e R s m args below meth c H locs (n - n0) (zz_sl S0 n - zz_sl S0 n0) Q (F0 m pc ls (S.map (mz_cvv ad)))
      refine zz_sz (fun hu => ?_)
      have hH := zz_hsz F.2.1.2.2.1 F.2.1.2.1 hn0 (by omega) h2 h3 hu
      have had : ad n = H.size := by rw [hH]; exact F.2.1.2.2.1 n (by omega)
      refine W.newcK F.1.1 F.1.2.1 F.1.2.2.2.1 hlk (F.1.2.2.2.2 _ hin2.1) (F.1.2.2.2.2 _ hin2.2) rfl hd (by omega) (by omega) hKn.2.1 rfl fun H1 kC hkC e1 z1 o1 => ?_
      have hcell : zz_cell S0 cI ad (zz_un z n) (mz_set0 mem n (fun _ => 0)) n = .inr (ci, fs.mapIdx (zz_fv ad (zz_un z n) (mz_set0 mem n (fun _ => 0)) n)) := by rw [zz_cell, hS]
      have hborn := u_born (ws := mz_G G0) ty0 F.1.2.2.2.2 hcin hKn hkC e1 hty
      obtain ⟨b1, b2⟩ := zz_grow _ hcell (fun j hj => zz_cell_ne (zz_set_ne hj) (zz_un_ne hj)) h2 h3 z1 o1 (by
        refine ⟨q2, hq, ?_⟩
        rw [had]
        refine hborn.to (fun k hk => ?_)
        have hkl : k < fs.length := by rw [hlen]; exact hk
        have hfk : fs[k]? = some fs[k] := List.getElem?_eq_getElem hkl
        show defaultValue (ty0 k) = (fs.mapIdx (zz_fv ad (zz_un z n) (mz_set0 mem n (fun _ => 0)) n)).getD k .null
        rw [List.getD_eq_getElem?_getD, List.getElem?_mapIdx, hfk]
        show defaultValue (ty0 k) = zz_fv ad (zz_un z n) (mz_set0 mem n (fun _ => 0)) n k fs[k]
        have hz0 : zz_un z n n k = false := by simp [zz_un]
        have hm0 : mz_set0 mem n (fun _ => 0) n k = 0 := by simp [mz_set0]
        have hp := hty k hk
        generalize fs[k] = g at hfk
        match g, hfk with
        | 0, hfk =>
          have := ((hsh _ _ hfk).1 rfl).2
          rw [hp] at this
          have h9 : ty0 k = .int := Option.some.inj this
          rw [h9]
          simp [zz_fv, hm0, defaultValue]
        | 1, hfk =>
          have := ((hsh _ _ hfk).2.1 rfl).2
          rw [hp] at this
          have h9 : ty0 k = .boolean := Option.some.inj this
          rw [h9]
          simp [zz_fv, hm0, defaultValue]
        | 2, hfk =>
          have := ((hsh _ _ hfk).2.2 rfl).2
          rw [hp] at this
          have h9 : ty0 k = .object "java/lang/String" := Option.some.inj this
          rw [h9]
          simp [zz_fv, hz0, defaultValue]
        | r + 3, hfk =>
          obtain ⟨t, a1, -, -, a4⟩ := hsh2 _ _ hfk
          rw [hp] at a1
          cases a1
          simp [zz_fv, hz0, a4])
      have hk : W p l e R s m args below meth c H1 locs (n + 1 - n0) (zz_sl S0 (n + 1) - zz_sl S0 n0) Q (F0 m (pc + 3) ls ((Value.ref n :: S).map (mz_cvv ad))) := k ls H1 locs h1 b1 b2
      have e1 : n + 1 - n0 = n - n0 + 1 := by omega
      have e2 : zz_sl S0 (n + 1) - zz_sl S0 n0 = zz_sl S0 n - zz_sl S0 n0 + q2.2.2 := by omega
      rw [e1, e2] at hk
      have e3 : (Value.ref n :: S).map (mz_cvv ad) = .ref H.size :: S.map (mz_cvv ad) := by rw [← had]; rfl
      rw [e3] at hk
      exact hk
    · cases hl
  · cases hs

set_option maxHeartbeats 4000000 in
theorem zz_w_newarray {p : Program} {l : Launch} {e : Env} {R : Room} {s : State} {m : MethodId} {args : Array Value} {below : List Frame} {meth : Method} {c : Code} {Q : State → Prop} {S0 : mz_Sh} {T0 : List (List Int32)} {cl : List vw_C} {NM : List String} {ST : List (String × Nat × String)} {G0 : List Jvm.Cond} {gt : Nat → Option Jvm.Cond} {CT : List zz_R} {D : va_G} {cI : ClassId} {ad : Nat → Nat} {nL Ln sz n0 nE : Nat} {xs : Nat → Int32} {own : String} {cc : ByteArray} (F : zz_Fix p R s m args meth c S0 T0 cl NM ST G0 gt CT D cI ad nL Ln sz n0 nE xs own cc) {f : mz_I} {pc : Nat} {L : List (Option Value)} {S : List Value} {n : Nat} {z : Nat → Nat → Bool} {mem : mz_M} {c1 : zz_C} (hd : decode cc pc = .ok (.newarray .int, 2)) (hl : zz_lk cl NM ST gt CT own (.newarray .int) f = true) (hn0 : n0 ≤ n) (hnS : n ≤ S0.length) (hnE : c1.2.2.2.1 ≤ nE) (hs : zz_step S0 T0 (.newarray .int) f pc L S n z mem = some (.inl c1)) (k : zz_Z p l e R s m args below meth c Q S0 cl D cI ad nL sz n0 c1) : zz_Z p l e R s m args below meth c Q S0 cl D cI ad nL sz n0 (pc, L, S, n, z, mem) := by
  simp only [zz_step] at hs
  split at hs
  · rename_i j S1
    split at hs
    · rename_i kk hS
      obtain ⟨hb, hs⟩ := mz_cond hs
      cases hs
      rw [Bool.and_eq_true] at hb
      have hj : j = Int32.ofNat kk := by simpa using hb.1
      have hk5 : kk < 100000 := of_decide_eq_true hb.2
      subst hj
      have hslsz : zz_sl S0 (n + 1) = zz_sl S0 n + kk := by rw [zz_sl_succ, hS]
      have hslm := zz_sl_mono S0 hn0
      have hn1 : n + 1 ≤ 1000 := Nat.le_trans (mz_lt hS) F.2.2.2.2.2.2.1
      have hnE : n + 1 ≤ nE := hnE
      have hslE := zz_sl_mono S0 hnE
      have hrc := F.2.2.1.2.2.1
      have hrs := F.2.2.1.2.2.2
      intro ls H locs h1 h2 h3
      show W p l e R s m args below meth c H locs (n - n0) (zz_sl S0 n - zz_sl S0 n0) Q (F0 m pc ls ((Value.int (Int32.ofNat kk) :: S1).map (mz_cvv ad)))
      refine zz_sz (fun hu => ?_)
      have hH := zz_hsz F.2.1.2.2.1 F.2.1.2.1 hn0 (by omega) h2 h3 hu
      have had : ad n = H.size := by rw [hH]; exact F.2.1.2.2.1 n (by omega)
      have hlt : kk < 2 ^ 31 := by omega
      refine va_newaK F.1.1 F.1.2.1 (atype := .int) (zz_Pw F (by simp [zz_pw, newarray.typeOf])) rfl hd rfl (nI_pos hlt) (nI_clamp hlt) (by show kk * 4 ≤ 536870912; omega) (by omega) (by omega) rfl fun H1 cA e1 z1 o1 hAr hNm => ?_
      have hcA : cA = cI := by
        have h5 : s.vm.findClass ("[" ++ FieldType.int.toString) = some cI := (F.2.1.1.2 0 (cI, .int) rfl).2
        exact Option.some.inj (hNm.symm.trans h5)
      subst hcA
      have hcell : zz_cell S0 cA ad z (mz_set0 mem n (fun _ => 0)) n = .inl (cA, kk, .inl (fun _ => 0)) := by rw [zz_cell, hS, zz_set_eq]
      obtain ⟨b1, b2⟩ := zz_grow _ hcell (fun j hj => zz_cell_ne (zz_set_ne hj) rfl) h2 h3 z1 o1 (by
        show H1[ad n]? = some (vp_cell cA (kk, .inl (fun _ => 0)))
        rw [had, e1, vp_cell_i]
        rfl)
      have hk : W p l e R s m args below meth c H1 locs (n + 1 - n0) (zz_sl S0 (n + 1) - zz_sl S0 n0) Q (F0 m (pc + 2) ls ((Value.ref n :: S1).map (mz_cvv ad))) := k ls H1 locs h1 b1 b2
      have e1 : n + 1 - n0 = n - n0 + 1 := by omega
      have e2 : zz_sl S0 (n + 1) - zz_sl S0 n0 = zz_sl S0 n - zz_sl S0 n0 + kk := by omega
      rw [e1, e2] at hk
      have e3 : (Value.ref n :: S1).map (mz_cvv ad) = .ref H.size :: S1.map (mz_cvv ad) := by rw [← had]; rfl
      rw [e3] at hk
      exact hk
    · cases hs
  · cases hs

set_option maxHeartbeats 1000000 in
theorem zz_w_checkcast {p : Program} {l : Launch} {e : Env} {R : Room} {s : State} {m : MethodId} {args : Array Value} {below : List Frame} {meth : Method} {c : Code} {Q : State → Prop} {S0 : mz_Sh} {T0 : List (List Int32)} {cl : List vw_C} {NM : List String} {ST : List (String × Nat × String)} {G0 : List Jvm.Cond} {gt : Nat → Option Jvm.Cond} {CT : List zz_R} {D : va_G} {cI : ClassId} {ad : Nat → Nat} {nL Ln sz n0 nE : Nat} {xs : Nat → Int32} {own : String} {cc : ByteArray} (F : zz_Fix p R s m args meth c S0 T0 cl NM ST G0 gt CT D cI ad nL Ln sz n0 nE xs own cc) {f : mz_I} {pc : Nat} {L : List (Option Value)} {S : List Value} {n : Nat} {z : Nat → Nat → Bool} {mem : mz_M} {c1 : zz_C} {x : Nat} (hd : decode cc pc = .ok (.checkcast x, 3)) (hl : zz_lk cl NM ST gt CT own (.checkcast x) f = true) (hn0 : n0 ≤ n) (hnS : n ≤ S0.length) (hnE : c1.2.2.2.1 ≤ nE) (hs : zz_step S0 T0 (.checkcast x) f pc L S n z mem = some (.inl c1)) (k : zz_Z p l e R s m args below meth c Q S0 cl D cI ad nL sz n0 c1) : zz_Z p l e R s m args below meth c Q S0 cl D cI ad nL sz n0 (pc, L, S, n, z, mem) := by
  simp only [zz_lk] at hl
  simp only [zz_step] at hs
  split at hs
  · rename_i i S1
    obtain ⟨hin, hs⟩ := mz_cond hs
    have hin := of_decide_eq_true hin
    split at hs
    · rename_i kk hS
      cases hs
      have h5 : s.vm.findClass ("[" ++ FieldType.int.toString) = some cI := (F.2.1.1.2 0 (cI, .int) rfl).2
      exact fun ls H locs h1 h2 h3 => va_castA F.1.1 F.1.2.1 F.1.2.2.2.1 (zz_Gi F (of_decide_eq_true hl) rfl) h2 i (zz_w_arr hin hS) h5 hd (k ls H locs h1 h2 h3)
    · cases hs
  · cases hs

set_option maxHeartbeats 4000000 in
theorem zz_w_clone {p : Program} {l : Launch} {e : Env} {R : Room} {s : State} {m : MethodId} {args : Array Value} {below : List Frame} {meth : Method} {c : Code} {Q : State → Prop} {S0 : mz_Sh} {T0 : List (List Int32)} {cl : List vw_C} {NM : List String} {ST : List (String × Nat × String)} {G0 : List Jvm.Cond} {gt : Nat → Option Jvm.Cond} {CT : List zz_R} {D : va_G} {cI : ClassId} {ad : Nat → Nat} {nL Ln sz n0 nE : Nat} {xs : Nat → Int32} {own : String} {cc : ByteArray} (F : zz_Fix p R s m args meth c S0 T0 cl NM ST G0 gt CT D cI ad nL Ln sz n0 nE xs own cc) {f : mz_I} {pc : Nat} {L : List (Option Value)} {S : List Value} {n : Nat} {z : Nat → Nat → Bool} {mem : mz_M} {c1 : zz_C} {x : Nat} (hd : decode cc pc = .ok (.invokevirtual x, 3)) (hl : zz_lk cl NM ST gt CT own (.invokevirtual x) f = true) (hn0 : n0 ≤ n) (hnS : n ≤ S0.length) (hnE : c1.2.2.2.1 ≤ nE) (hs : zz_step S0 T0 (.invokevirtual x) f pc L S n z mem = some (.inl c1)) (k : zz_Z p l e R s m args below meth c Q S0 cl D cI ad nL sz n0 c1) : zz_Z p l e R s m args below meth c Q S0 cl D cI ad nL sz n0 (pc, L, S, n, z, mem) := by
  have hl := of_decide_eq_true hl
  simp only [zz_step] at hs
  replace hs := (mz_cond hs).2
  split at hs
  · rename_i S1
    split at hs
    · rename_i kk t hS ht
      obtain ⟨hb, hs⟩ := mz_cond hs
      cases hs
      rw [Bool.and_eq_true] at hb
      have hkk : kk = t.length := by simpa using hb.1
      have hcat := of_decide_eq_true hb.2
      subst hkk
      have hslsz : zz_sl S0 (n + 1) = zz_sl S0 n + t.length := by rw [zz_sl_succ, hS]
      have hslm := zz_sl_mono S0 hn0
      have hn1 : n + 1 ≤ 1000 := Nat.le_trans (mz_lt hS) F.2.2.2.2.2.2.1
      have hnE : n + 1 ≤ nE := hnE
      have hslE := zz_sl_mono S0 hnE
      have hrc := F.2.2.1.2.2.1
      have hrs := F.2.2.1.2.2.2
      intro ls H locs h1 h2 h3
      show W p l e R s m args below meth c H locs (n - n0) (zz_sl S0 n - zz_sl S0 n0) Q (F0 m pc ls ((Value.ref 1004 :: S1).map (mz_cvv ad)))
      refine zz_sz (fun hu => ?_)
      have hH := zz_hsz F.2.1.2.2.1 F.2.1.2.1 hn0 (by omega) h2 h3 hu
      have had : ad n = H.size := by rw [hH]; exact F.2.1.2.2.1 n (by omega)
      obtain ⟨cell, tt, g0, g1, g2, g3, g4, g5, g6, g7⟩ := F.2.1.2.2.2.2.kept h3.2.1
      obtain rfl : tt = t := Option.some.inj (g0.symm.trans ht)
      have hcls : cell.cls = cI := by
        have h5 : s.vm.findClass ("[" ++ FieldType.int.toString) = some cI := (F.2.1.1.2 0 (cI, .int) rfl).2
        exact Option.some.inj (g4.symm.trans h5)
      obtain ⟨c0, t0', f1, f2, f3⟩ := Cond.castable_spec (va_Nw.use (A := args) rfl (F.2.1.2.2.2.1.2.2.2.2.2.1 _ F.2.2.2.2.2.2.2.2.2.2 rfl))
      obtain rfl : c0 = cell.cls := Option.some.inj (f1.symm.trans g4)
      have hcellE : ({ cls := cell.cls, slots := cell.slots } : Cell) = vp_cell cI (tt.length, .inl (fun j => tt.getD j 0)) := by
        rw [vp_cell_i, hcls]
        have hsl : cell.slots = Array.ofFn (n := tt.length) fun j => Value.int (tt.getD j.val 0) := by
          apply Array.ext_getElem?
          intro j
          by_cases hj : j < tt.length
          · rw [g6 j hj]
            simp [hj]
          · rw [Array.getElem?_eq_none (by omega), Array.getElem?_eq_none (by simp; omega)]
        rw [hsl]
        rfl
      intro T hT X
      have hAt := (F.2.1.1.2 0 (cI, .int) rfl).1
      obtain ⟨-, kA, hkA, comp, hkind⟩ := State.isArrayOf_alike X.warmed.alike (hAt 0 (fun _ => .null))
      obtain ⟨-, kS, hkS, compS, hkindS⟩ := hAt 0 (fun _ => .null)
      obtain ⟨vm', X', st⟩ := X.cloneArray F.1.1 F.1.2.2.2.1 (zz_Gi F hl rfl) (zz_Pw F (by simp [zz_pw])) (zz_Pw F (by simp [zz_pw])) (zz_Pw F (by simp [zz_pw])) (zz_Pw F (by simp [zz_pw])) (a := ad 1004) (cell := cell) (by rw [hT]; exact g1) (fun k h => by rw [h] at g2; cases g2) g3 g4 f2 f3
        (fun i v hv => by
          have hi : i < tt.length := by rw [← g5]; exact (Array.getElem?_eq_some_iff.mp hv).1
          rw [g6 i hi] at hv
          cases hv
          have hk' : T.vm.classes[cell.cls]? = some kA := by rw [hcls]; exact hkA
          simp [State.fitsSlot, State.slotType?, hk', hkind, fits])
        (g := F0 m pc ls (.ref (ad 1004) :: S1.map (mz_cvv ad))) rfl (by rw [F.1.2.2.1]; exact h1.1) rfl (by rw [F.1.2.1]; exact hd) F.2.2.1.1 (by show 2 * 0 + _ + 14 ≤ _; rw [mz_cat_map]; have := F.2.2.1.2.1; omega) (by omega) (by rw [g5]; omega) (hloader := by rw [hcls]; exact Vm.clonesLoader_of_array hkS hkindS)
      rw [hcellE, g5] at X'
      rw [hcellE] at st
      generalize hH1 : H.push (vp_cell cI (tt.length, .inl (fun j => tt.getD j 0))) = H1
      have z1 : H1.size = H.size + 1 := by rw [← hH1, Array.size_push]
      have e1 : H1[H.size]? = some (vp_cell cI (tt.length, .inl (fun j => tt.getD j 0))) := by rw [← hH1, Array.getElem?_push_size]
      have o1 : ∀ q : Nat, q < H.size → H1[q]? = H[q]? := fun q hq => by rw [← hH1, Array.getElem?_push, if_neg (Nat.ne_of_lt hq)]
      have hcell : zz_cell S0 cI ad z (mz_set0 mem n (fun j => tt.getD j 0)) n = .inl (cI, tt.length, .inl (fun j => tt.getD j 0)) := by rw [zz_cell, hS, zz_set_eq]
      obtain ⟨b1, b2⟩ := zz_grow _ hcell (fun j hj => zz_cell_ne (zz_set_ne hj) rfl) h2 h3 z1 o1 (by
        show H1[ad n]? = some (vp_cell cI (tt.length, .inl (fun j => tt.getD j 0)))
        rw [had]
        exact e1)
      have hk : W p l e R s m args below meth c H1 locs (n + 1 - n0) (zz_sl S0 (n + 1) - zz_sl S0 n0) Q (F0 m (pc + 3) ls ((Value.ref n :: S1).map (mz_cvv ad))) := k ls H1 locs h1 b1 b2
      have e4 : n + 1 - n0 = n - n0 + 1 := by omega
      have e2 : zz_sl S0 (n + 1) - zz_sl S0 n0 = zz_sl S0 n - zz_sl S0 n0 + tt.length := by omega
      rw [e4, e2] at hk
      have e3 : (Value.ref n :: S1).map (mz_cvv ad) = .ref H.size :: S1.map (mz_cvv ad) := by rw [← had]; rfl
      rw [e3] at hk
      obtain ⟨t, b3, b4⟩ := hk ((T.setVm vm').pushCell (vp_cell cI (tt.length, .inl (fun j => tt.getD j 0)))) (by rw [← hH1, ← hT]; rfl) X'
      refine ⟨t, st t ?_, b4⟩
      rw [hT]
      exact b3
    · cases hs
  · cases hs

set_option maxHeartbeats 1000000 in
theorem zz_w_objinit {p : Program} {l : Launch} {e : Env} {R : Room} {s : State} {m : MethodId} {args : Array Value} {below : List Frame} {meth : Method} {c : Code} {Q : State → Prop} {S0 : mz_Sh} {T0 : List (List Int32)} {cl : List vw_C} {NM : List String} {ST : List (String × Nat × String)} {G0 : List Jvm.Cond} {gt : Nat → Option Jvm.Cond} {CT : List zz_R} {D : va_G} {cI : ClassId} {ad : Nat → Nat} {nL Ln sz n0 nE : Nat} {xs : Nat → Int32} {own : String} {cc : ByteArray} (F : zz_Fix p R s m args meth c S0 T0 cl NM ST G0 gt CT D cI ad nL Ln sz n0 nE xs own cc) {f : mz_I} {pc : Nat} {L : List (Option Value)} {S : List Value} {n : Nat} {z : Nat → Nat → Bool} {mem : mz_M} {c1 : zz_C} {x : Nat} (hd : decode cc pc = .ok (.invokespecial x, 3)) (hl : zz_lk cl NM ST gt CT own (.invokespecial x) f = true) (hn0 : n0 ≤ n) (hnS : n ≤ S0.length) (hnE : c1.2.2.2.1 ≤ nE) (hs : zz_step S0 T0 (.invokespecial x) f pc L S n z mem = some (.inl c1)) (k : zz_Z p l e R s m args below meth c Q S0 cl D cI ad nL sz n0 c1) : zz_Z p l e R s m args below meth c Q S0 cl D cI ad nL sz n0 (pc, L, S, n, z, mem) := by
  simp only [zz_lk] at hl
  simp only [zz_step] at hs
  split at hs
  · rename_i hf
    rw [hf] at hl
    split at hs
    · rename_i r S1
      obtain ⟨hb, hs⟩ := mz_cond hs
      cases hs
      have hb := of_decide_eq_true hb
      intro ls H locs h1 h2 h3
      exact W.objInit F.1.1 F.1.2.1 F.1.2.2.2.1 (zz_Gi F (of_decide_eq_true hl) rfl) (zz_Pw F (by simp [zz_pw])) (zz_Pw F (by simp [zz_pw])) rfl (by rw [F.1.2.2.1]; exact h1.1) rfl hd F.2.2.1.1 (by show 2 * 0 + _ + 12 ≤ _; rw [mz_cat_map]; have := F.2.2.1.2.1; omega) (k ls H locs h1 h2 h3)
    · cases hs
  · cases hs
  · cases hs
  · cases hs
end
section

def zz_isP : Instr → Bool
  | .putfield _ => true
  | _ => false
def zz_eok (cl : List vw_C) (NM : List String) (ST : List (String × Nat × String)) (gt : Nat → Option Jvm.Cond) (CT : List zz_R) (ini : Bool) (own : String) (b : ByteArray) (q : mz_E) : Bool := decide (decode b q.1 = .ok (q.2.1, q.2.2.1)) && (q.2.2.1 == mz_ln q.2.1 && (!zz_isP q.2.1 || ini)) && zz_lk cl NM ST gt CT own q.2.1 q.2.2.2
theorem zz_step_mono {S0 : mz_Sh} {T0 : List (List Int32)} {ins : Instr} {f : mz_I} {pc : Nat} {L : List (Option Value)} {S : List Value} {n : Nat} {z : Nat → Nat → Bool} {m : mz_M} {c1 : zz_C} (h : zz_step S0 T0 ins f pc L S n z m = some (.inl c1)) : n ≤ c1.2.2.2.1 ∧ (n ≤ S0.length → c1.2.2.2.1 ≤ S0.length) := by
  unfold zz_step at h
  split at h
  all_goals (try simp only [cond_eq_ite] at h)
  all_goals (repeat' (first | (cases h; done) | split at h))
  all_goals
    cases h
    first
      | exact ⟨Nat.le_refl _, id⟩
      | exact ⟨Nat.le_succ _, fun _ => mz_lt (by assumption)⟩
theorem zz_step_call {S0 : mz_Sh} {T0 : List (List Int32)} {ins : Instr} {f : mz_I} {pc : Nat} {L : List (Option Value)} {S : List Value} {n : Nat} {z : Nat → Nat → Bool} {m : mz_M} {a : Nat} (h : zz_step S0 T0 ins f pc L S n z m = some (.inr a)) : f.2.1 = a ∧ ∃ x, ins = .invokespecial x ∧ (f.1 = 32 ∨ f.1 = 33) := by
  unfold zz_step at h
  split at h
  all_goals (try simp only [cond_eq_ite] at h)
  all_goals (repeat' (first | (cases h; done) | split at h))
  · exact ⟨Sum.inr.inj (Option.some.inj h), _, rfl, Or.inl (by assumption)⟩
  · exact ⟨Sum.inr.inj (Option.some.inj h), _, rfl, Or.inr (by assumption)⟩
theorem zz_x_inv {S0 : mz_Sh} {T0 : List (List Int32)} {CT : List zz_R} {N d sp pc : Nat} {K : mz_K} {L : List (Option Value)} {S : List Value} {n : Nat} {z : Nat → Nat → Bool} {m : mz_M} {r : zz_C} (h : zz_x S0 T0 CT (N + 1) d sp K (pc, L, S, n, z, m) = some r) : (pc = sp ∧ r = (pc, L, S, n, z, m)) ∨ ∃ e, mz_fetch K pc = some e ∧ ((∃ c1, zz_step S0 T0 e.2.1 e.2.2.2 pc L S n z m = some (.inl c1) ∧ zz_x S0 T0 CT N d sp K c1 = some r) ∨ (∃ a rc d1 p1 L1 n1 z1 m1, zz_step S0 T0 e.2.1 e.2.2.2 pc L S n z m = some (.inr a) ∧ CT[a]? = some rc ∧ d = d1 + 1 ∧ zz_cal rc S = true ∧ zz_x S0 T0 CT N d1 rc.2.2.2.2.2 rc.2.2.2.2.1 (0, mz_ent (S.take rc.2.2.2.1).reverse rc.2.2.1, [], n, z, m) = some (p1, L1, [], n1, z1, m1) ∧ zz_x S0 T0 CT N d sp K (pc + 3, L, S.drop rc.2.2.2.1, n1, z1, m1) = some r)) := by
  rw [zz_x] at h
  cases hp : (pc == sp) with
  | true =>
    rw [hp] at h
    exact Or.inl ⟨by simpa using hp, (Option.some.inj h).symm⟩
  | false =>
    rw [hp] at h
    simp only [cond_false] at h
    refine Or.inr ?_
    split at h
    · cases h
    · rename_i e he
      refine ⟨e, he, ?_⟩
      split at h
      · cases h
      · rename_i c1 hs
        exact Or.inl ⟨c1, hs, h⟩
      · rename_i a hs
        split at h
        · rename_i rc d1 hR
          obtain ⟨hc, h2⟩ := mz_cond h
          split at h2
          · rename_i p1 L1 n1 z1 m1 h1
            exact Or.inr ⟨a, rc, d1, p1, L1, n1, z1, m1, hs, hR, rfl, hc, h1, h2⟩
          · cases h2
        · cases h
theorem zz_x_mono {S0 : mz_Sh} {T0 : List (List Int32)} {CT : List zz_R} : ∀ {N d sp : Nat} {K : mz_K} {c r : zz_C}, zz_x S0 T0 CT N d sp K c = some r → r.1 = sp ∧ c.2.2.2.1 ≤ r.2.2.2.1 ∧ (c.2.2.2.1 ≤ S0.length → r.2.2.2.1 ≤ S0.length) := by
  intro N
  induction N with
  | zero =>
    intro d sp K c r h
    cases h
  | succ N ih =>
    intro d sp K c r h
    obtain ⟨pc, L, S, n, z, m⟩ := c
    rcases zz_x_inv h with ⟨h1, h2⟩ | ⟨e, he, ⟨c1, hs, h1⟩ | ⟨a, rc, d1, p1, L1, n1, z1, m1, hs, hR, rfl, hc, h1, h2⟩⟩
    · subst h2
      exact ⟨h1, Nat.le_refl _, id⟩
    · obtain ⟨a1, a2⟩ := zz_step_mono hs
      obtain ⟨b1, b2, b3⟩ := ih h1
      exact ⟨b1, Nat.le_trans a1 b2, fun q => b3 (a2 q)⟩
    · obtain ⟨-, a1, a2⟩ := ih h1
      obtain ⟨b1, b2, b3⟩ := ih h2
      exact ⟨b1, Nat.le_trans a1 b2, fun q => b3 (a2 q)⟩

set_option maxHeartbeats 4000000 in
theorem zz_w_all {p : Program} {l : Launch} {e : Env} {R : Room} {s : State} {m : MethodId} {args : Array Value} {below : List Frame} {meth : Method} {c : Code} {Q : State → Prop} {S0 : mz_Sh} {T0 : List (List Int32)} {cl : List vw_C} {NM : List String} {ST : List (String × Nat × String)} {G0 : List Jvm.Cond} {gt : Nat → Option Jvm.Cond} {CT : List zz_R} {D : va_G} {cI : ClassId} {ad : Nat → Nat} {nL Ln sz n0 nE : Nat} {xs : Nat → Int32} {own : String} {cc : ByteArray} (F : zz_Fix p R s m args meth c S0 T0 cl NM ST G0 gt CT D cI ad nL Ln sz n0 nE xs own cc) {f : mz_I} {pc : Nat} {L : List (Option Value)} {S : List Value} {n : Nat} {z : Nat → Nat → Bool} {mem : mz_M} {c1 : zz_C} {ins : Instr} {len : Nat} (hin2 : zz_isP ins = true → meth.name = "<init>") (hd : decode cc pc = .ok (ins, len)) (hlen : (len == mz_ln ins) = true) (hl : zz_lk cl NM ST gt CT own ins f = true) (hn0 : n0 ≤ n) (hnS : n ≤ S0.length) (hnE : c1.2.2.2.1 ≤ nE) (hs : zz_step S0 T0 ins f pc L S n z mem = some (.inl c1)) (k : zz_Z p l e R s m args below meth c Q S0 cl D cI ad nL sz n0 c1) : zz_Z p l e R s m args below meth c Q S0 cl D cI ad nL sz n0 (pc, L, S, n, z, mem) := by
  cases ins with
  | dup =>
    obtain rfl : len = 1 := by simpa [mz_ln] using hlen
    exact zz_w_dup F hd hl hn0 hnS hnE hs k
  | iastore =>
    obtain rfl : len = 1 := by simpa [mz_ln] using hlen
    exact zz_w_iastore F hd hl hn0 hnS hnE hs k
  | iconst n =>
    obtain rfl : len = 1 := by simpa [mz_ln] using hlen
    exact zz_w_iconst F hd hl hn0 hnS hnE hs k
  | aload_n n =>
    obtain rfl : len = 1 := by simpa [mz_ln] using hlen
    exact zz_w_aload_n F hd hl hn0 hnS hnE hs k
  | astore_n n =>
    obtain rfl : len = 1 := by simpa [mz_ln] using hlen
    exact zz_w_astore_n F hd hl hn0 hnS hnE hs k
  | istore_n n =>
    obtain rfl : len = 1 := by simpa [mz_ln] using hlen
    exact zz_w_istore_n F hd hl hn0 hnS hnE hs k
  | bipush n =>
    obtain rfl : len = 2 := by simpa [mz_ln] using hlen
    exact zz_w_bipush F hd hl hn0 hnS hnE hs k
  | ldc n =>
    obtain rfl : len = 2 := by simpa [mz_ln] using hlen
    exact zz_w_ldc F hd hl hn0 hnS hnE hs k
  | sipush n =>
    obtain rfl : len = 3 := by simpa [mz_ln] using hlen
    exact zz_w_sipush F hd hl hn0 hnS hnE hs k
  | getfield n =>
    obtain rfl : len = 3 := by simpa [mz_ln] using hlen
    exact zz_w_getfield F hd hl hn0 hnS hnE hs k
  | getstatic n =>
    obtain rfl : len = 3 := by simpa [mz_ln] using hlen
    exact zz_w_getstatic F hd hl hn0 hnS hnE hs k
  | new n =>
    obtain rfl : len = 3 := by simpa [mz_ln] using hlen
    exact zz_w_new F hd hl hn0 hnS hnE hs k
  | invokevirtual n =>
    obtain rfl : len = 3 := by simpa [mz_ln] using hlen
    exact zz_w_clone F hd hl hn0 hnS hnE hs k
  | checkcast n =>
    obtain rfl : len = 3 := by simpa [mz_ln] using hlen
    exact zz_w_checkcast F hd hl hn0 hnS hnE hs k
  | invokespecial n =>
    obtain rfl : len = 3 := by simpa [mz_ln] using hlen
    exact zz_w_objinit F hd hl hn0 hnS hnE hs k
  | putfield n =>
    obtain rfl : len = 3 := by simpa [mz_ln] using hlen
    exact zz_w_putfield F (hin2 rfl) hd hl hn0 hnS hnE hs k
  | newarray t =>
    cases t with
    | int =>
      obtain rfl : len = 2 := by simpa [mz_ln] using hlen
      exact zz_w_newarray F hd hl hn0 hnS hnE hs k
    | _ => cases hs
  | _ => cases hs

/-- a run is a walk -/
def zz_Run (S0 : mz_Sh) (T0 : List (List Int32)) (cl : List vw_C) (NM : List String) (ST : List (String × Nat × String)) (G0 : List Jvm.Cond) (gt : Nat → Option Jvm.Cond) (CT : List zz_R) (N : Nat) : Prop := ∀ {p : Program} {l : Launch} {e : Env} {R : Room} {s : State} {m : MethodId} {args : Array Value} {below : List Frame} {meth : Method} {c : Code} {Q : State → Prop} {D : va_G} {cI : ClassId} {ad : Nat → Nat} {nL Ln sz n0 nE : Nat} {xs : Nat → Int32} {own : String} {cc : ByteArray} (d sp : Nat) (F : zz_Fix p R s m args meth c S0 T0 cl NM ST G0 gt CT D cI ad nL Ln sz n0 nE xs own cc) (hR : d + 1 ≤ R.frames ∧ 64 * (d + 1) ≤ R.locals) (K : mz_K) (ini : Bool) (hini : ini = true → meth.name = "<init>") (hK : ∀ q ∈ K, zz_eok cl NM ST gt CT ini own cc q = true) (pc : Nat) (L : List (Option Value)) (S : List Value) (n : Nat) (z : Nat → Nat → Bool) (mem : mz_M) (c1 : zz_C) (hn0 : n0 ≤ n) (hnS : n ≤ S0.length) (hnE : c1.2.2.2.1 ≤ nE) (hrun : zz_x S0 T0 CT N d sp K (pc, L, S, n, z, mem) = some c1) (k : zz_Z p l e R s m args below meth c Q S0 cl D cI ad nL sz n0 c1), zz_Z p l e R s m args below meth c Q S0 cl D cI ad nL sz n0 (pc, L, S, n, z, mem)
/-- a constructor's record is in order -/
def zz_Rok (cl : List vw_C) (NM : List String) (ST : List (String × Nat × String)) (G0 : List Jvm.Cond) (gt : Nat → Option Jvm.Cond) (CT : List zz_R) (r : zz_R) : Prop :=
  (plainName r.1.cls = true ∧ (r.1.cls ≠ "java/lang/invoke/MethodHandle" ∧ r.1.cls ≠ "java/lang/invoke/VarHandle") ∧ (parseMethodDescriptor r.1.desc).map (fun d => d.parameters.length) = some (r.2.2.2.1 - 1) ∧ r.2.2.1 ≤ 45 ∧ r.1.name = "<init>") ∧
  (Jvm.Cond.code r.1 r.2.1 r.2.2.1 none ∈ mz_G G0 ∧ Jvm.Cond.initialized r.1.cls ∈ mz_G G0 ∧ Jvm.Cond.instanceMethod r.1 ∈ mz_G G0) ∧
  decode r.2.1 r.2.2.2.2.2 = .ok (.return_, 1) ∧ (∀ q ∈ r.2.2.2.2.1, zz_eok cl NM ST gt CT true r.1.cls r.2.1 q = true)
def zz_ws (G0 : List Jvm.Cond) (r : zz_R) : List Jvm.Cond := .code r.1 r.2.1 r.2.2.1 none :: mz_G G0
def zz_rm (d mc ms : Nat) : Room := { frames := d + 1, cells := mc, slots := ms, locals := 64 * (d + 1) }
def zz_Pc (S0 : mz_Sh) (T0 : List (List Int32)) (cl : List vw_C) (NM : List String) (ST : List (String × Nat × String)) (G0 : List Jvm.Cond) (D : va_G) (cI : ClassId) (ad : Nat → Nat) (Ln : Nat) (xs : Nat → Int32) (sz : Nat) (as : List Value) (n : Nat) (z : Nat → Nat → Bool) (mem : mz_M) : Array Value → State → Prop := va_Pc (as.map (mz_cvv ad)) (fun U => U.heap.size = sz + n ∧ va_K D cl [(cI, .int)] U ∧ va_P D cl (zz_w S0 cI ad z mem n) U.heap ∧ mz_rok T0 NM ST G0 ad Ln xs (zz_A sz) U U.heap ∧ zz_rf T0 (ad 1004) (zz_A sz) U U.heap)
def zz_Qc (S0 : mz_Sh) (cl : List vw_C) (D : va_G) (cI : ClassId) (ad : Nat → Nat) (sz : Nat) (n : Nat) (z : Nat → Nat → Bool) (mem : mz_M) : Array Value → State → Outcome → State → Prop := fun _ st o t => o = .returned none ∧ va_P D cl (zz_w S0 cI ad z mem n) t.heap ∧ va_F (zz_A sz) st t
theorem zz_Pc_blind {S0 : mz_Sh} {T0 : List (List Int32)} {cl : List vw_C} {NM : List String} {ST : List (String × Nat × String)} {G0 : List Jvm.Cond} {D : va_G} {cI : ClassId} {ad : Nat → Nat} {Ln : Nat} {xs : Nat → Int32} {sz : Nat} {as : List Value} {n : Nat} {z : Nat → Nat → Bool} {mem : mz_M} : FrameBlind (zz_Pc S0 T0 cl NM ST G0 D cI ad Ln xs sz as n z mem) := by
  intro a U g mk q
  obtain ⟨q0, q1, qK, qP, qR, qs⟩ := q
  exact ⟨q0, q1, va_K.moved (u := U) (U := U.calling g mk a) (Vm.Alike.refl U.vm) qK, qP, mz_rok.same (u := U) (U := U.calling g mk a) rfl qR, zz_rf.moved (u := U) (U := U.calling g mk a) (Vm.Alike.refl U.vm) qs⟩


set_option maxHeartbeats 4000000 in
/-- a constructor's contract, from a run -/
theorem zz_met {S0 : mz_Sh} {T0 : List (List Int32)} {cl : List vw_C} {NM : List String} {ST : List (String × Nat × String)} {G0 : List Jvm.Cond} {gt : Nat → Option Jvm.Cond} {CT : List zz_R} {N : Nat} (IH : zz_Run S0 T0 cl NM ST G0 gt CT N) (hE : ((∀ (k : Nat) (q : vw_C), cl[k]? = some q → mz_cok G0 q) ∧ (mz_sok S0 cl ∧ zz_sok S0 cl) ∧ (∀ w ∈ zz_pw, w ∈ mz_G G0) ∧ S0.length ≤ 1000 ∧ zz_cin cl G0 ∧ NM.length = T0.length ∧ (∀ (i : Nat) (w : Jvm.Cond), gt i = some w → w ∈ G0) ∧ Jvm.Cond.castable "[I" "java/lang/Cloneable" ∈ G0))
    {rc : zz_R} (hrc : zz_Rok cl NM ST G0 gt CT rc) (l : Launch) (D : va_G) (cI : ClassId) (ad : Nat → Nat) (Ln : Nat) (xs : Nat → Int32) (sz d : Nat) (had : ∀ i, i < 1000 → ad i = sz + i) {as : List Value} {n n' p' : Nat} {z z' : Nat → Nat → Bool} {mem mem' : mz_M} {L' : List (Option Value)} (hnS : n ≤ S0.length) (hent : (mz_ent as rc.2.2.1).length = rc.2.2.1) (hrun : zz_x S0 T0 CT N d rc.2.2.2.2.2 rc.2.2.2.2.1 (0, mz_ent as rc.2.2.1, [], n, z, mem) = some (p', L', [], n', z', mem')) :
    Met l rc.1 (zz_ws G0 rc) (zz_rm d (n' - n) (zz_sl S0 n' - zz_sl S0 n)) (zz_Pc S0 T0 cl NM ST G0 D cI ad Ln xs sz as n z mem) (zz_Qc S0 cl D cI ad sz n' z' mem') (n' - n) (zz_sl S0 n' - zz_sl S0 n) (zz_A sz) := by
  obtain ⟨⟨hpl, -, -, -, hname⟩, -, hend, hcode⟩ := hrc
  refine Met.ofW (cc := rc.2.1) (maxL := rc.2.2.1) (ret := none) hpl rfl ?_
  intro p e s m args below meth c s₁ B hml hv
  obtain ⟨rfl, hsz, hK, hP, hRo, hrf⟩ := hv
  have hts := atoms_spec (ws := zz_ws G0 rc) B.pre
  have hown : s.vm.findClass rc.1.cls = some m.cls := findClass_of_methodNamed B.named
  have hnm : meth.name = "<init>" := (name_of_methodNamed B.named B.method).1.trans hname
  have hlocks := B.notSynchronized
  have hret := B.returns
  have hx := B.exec
  have hb := B.bytes
  have F : zz_Fix p (headSpec (zz_ws G0 rc) (zz_rm d (n' - n) (zz_sl S0 n' - zz_sl S0 n))).room s m (as.map (mz_cvv ad)).toArray meth c S0 T0 cl NM ST G0 gt CT D cI ad rc.2.2.1 Ln sz n n' xs rc.1.cls rc.2.1 :=
    ⟨⟨hx, hb, hml, hown, fun w hw => hts w (List.mem_cons_of_mem _ hw)⟩, ⟨hK, hsz, had, hRo, hrf⟩, ⟨Nat.le_add_left 1 d, by show 64 ≤ 64 * (d + 1); omega, Nat.le_refl _, Nat.le_refl _⟩, hE⟩
  rw [lg_entry_eq]
  have hp' : p' = rc.2.2.2.2.2 := (zz_x_mono hrun).1
  subst hp'
  have hgo := IH (below := below) (l := l) (e := e) (Q := MQ below (zz_Qc S0 cl D cI ad sz n' z' mem') (as.map (mz_cvv ad)).toArray s (n' - n) (zz_sl S0 n' - zz_sl S0 n) (zz_A sz)) d rc.2.2.2.2.2 F ⟨Nat.le_refl _, Nat.le_refl _⟩ rc.2.2.2.2.1 true (fun _ => hnm) hcode 0 (mz_ent as rc.2.2.1) [] n z mem (rc.2.2.2.2.2, L', [], n', z', mem') (Nat.le_refl _) hnS (Nat.le_refl _) hrun (by
    intro ls H locs h1 h2 h3
    have hq : ∀ t : State, t.heap = H → s.WarmedH t.vm → zz_Qc S0 cl D cI ad sz n' z' mem' (as.map (mz_cvv ad)).toArray s (.returned none) t := fun t ht hW => ⟨rfl, by rw [ht]; exact h2, h3.F ht⟩
    exact W.vret hx hb hret hq h3.2.2 hend) _ s.heap [] (mz_entry hent) hP va_S.rf
  simp only [Nat.sub_self] at hgo
  exact hgo
/-- behind a call -/
theorem zz_back {p : Program} {l : Launch} {e : Env} {R : Room} {s : State} {m : MethodId} {args : Array Value} {below : List Frame} {meth : Method} {c : Code} {Q : State → Prop} {S0 : mz_Sh} {T0 : List (List Int32)} {cl : List vw_C} {NM : List String} {ST : List (String × Nat × String)} {G0 : List Jvm.Cond} {gt : Nat → Option Jvm.Cond} {CT : List zz_R} {D : va_G} {cI : ClassId} {ad : Nat → Nat} {nL Ln sz n0 nE : Nat} {xs : Nat → Int32} {own : String} {cc : ByteArray} (F : zz_Fix p R s m args meth c S0 T0 cl NM ST G0 gt CT D cI ad nL Ln sz n0 nE xs own cc) {pc : Nat} {L : List (Option Value)} {S rest : List Value} {n n' : Nat} {z' : Nat → Nat → Bool} {mem' : mz_M} {args' : Array Value} {ls : Array Slot} {H : Heap} {locs : List Loc} (hn0 : n0 ≤ n) (hnn : n ≤ n') (h1 : mz_ls ad L ls nL) (h3 : va_S (zz_A sz) s.heap H locs)
    (hr : va_Run p l e R s m args below meth c H locs (n - n0) (zz_sl S0 n - zz_sl S0 n0) (n' - n) (zz_sl S0 n' - zz_sl S0 n) (F0 m pc ls (S.map (mz_cvv ad))) (rest.map (mz_cvv ad)) (zz_Qc S0 cl D cI ad sz n' z' mem' args') (zz_A sz))
    (k : zz_Z p l e R s m args below meth c Q S0 cl D cI ad nL sz n0 (pc + 3, L, rest, n', z', mem')) : W p l e R s m args below meth c H locs (n - n0) (zz_sl S0 n - zz_sl S0 n0) Q (F0 m pc ls (S.map (mz_cvv ad))) := by
  intro T1 hT X
  obtain ⟨v, st₀, t, T', L', h0, X', hL, e1, e2, ⟨hv, hP1, hF1⟩, st⟩ := hr T1 hT X
  have hve : v = none := Outcome.returned.inj hv
  subst hve
  have hS1 : va_S (zz_A sz) s.heap t.heap (locs ++ L') := by
    refine ⟨?_, fun q hq hA => ?_, fun x hx => ?_⟩
    · have := hF1.1
      rw [h0] at this
      exact Nat.le_trans h3.1 this
    · have h5 := hF1.2 q (by rw [h0]; exact Nat.lt_of_lt_of_le hq h3.1) hA
      rw [h5, h0]
      exact h3.2.1 q hq hA
    · rcases List.mem_append.mp hx with hx | hx
      · exact h3.2.2 x hx
      · exact hL x hx
  have hm1 := zz_sl_mono S0 hn0
  have hm2 := zz_sl_mono S0 hnn
  have q1 : n - n0 + (n' - n) = n' - n0 := by omega
  have q2 : zz_sl S0 n - zz_sl S0 n0 + (zz_sl S0 n' - zz_sl S0 n) = zz_sl S0 n' - zz_sl S0 n0 := by omega
  rw [q1, q2] at X'
  have hk := k ls t.heap (locs ++ L') h1 hP1 hS1
  obtain ⟨t2, a1, b1⟩ := hk T' e1 X'
  exact ⟨t2, st t2 a1, b1⟩
set_option maxHeartbeats 4000000 in
theorem zz_run_all {S0 : mz_Sh} {T0 : List (List Int32)} {cl : List vw_C} {NM : List String} {ST : List (String × Nat × String)} {G0 : List Jvm.Cond} {gt : Nat → Option Jvm.Cond} {CT : List zz_R} (hT : ∀ (a : Nat) (rc : zz_R), CT[a]? = some rc → zz_Rok cl NM ST G0 gt CT rc) : ∀ N, zz_Run S0 T0 cl NM ST G0 gt CT N := by
  intro N
  induction N with
  | zero =>
    intro p l e R s m args below meth c Q D cI ad nL Ln sz n0 nE xs own cc d sp F hR K ini hini hK pc L S n z mem c1 hn0 hnS hnE hrun k
    cases hrun
  | succ N ih =>
    intro p l e R s m args below meth c Q D cI ad nL Ln sz n0 nE xs own cc d sp F hR K ini hini hK pc L S n z mem c1 hn0 hnS hnE hrun k
    rcases zz_x_inv hrun with ⟨h1, h2⟩ | ⟨q, hq, hq2⟩
    · subst h2
      exact k
    · obtain ⟨hqK, hqp⟩ := mz_fetch_in hq
      have hok := hK q hqK
      obtain ⟨qp, ins, len, f⟩ := q
      simp only at hqp
      subst hqp
      unfold zz_eok at hok
      simp only [Bool.and_eq_true] at hok
      obtain ⟨⟨hd, hlen, hpf⟩, hl⟩ := hok
      have hd := of_decide_eq_true hd
      simp only at hd hlen hl hpf hq2
      rcases hq2 with ⟨c2, hs, h1⟩ | ⟨a, rc, d1, p1, L1, n1, z1, m1, hs, hrc, rfl, hcal, hin, h2⟩
      · obtain ⟨a1, a2⟩ := zz_step_mono hs
        obtain ⟨-, b2, -⟩ := zz_x_mono h1
        exact zz_w_all F (fun h => hini (by rw [h] at hpf; simpa using hpf)) hd hlen hl hn0 hnS (Nat.le_trans b2 hnE) hs (ih d sp F hR K ini hini hK _ _ _ _ _ _ c1 (Nat.le_trans hn0 a1) (a2 hnS) hnE h1 k)
      · have hRok := hT a rc hrc
        obtain ⟨hfa, x, rfl, hf⟩ := zz_step_call hs
        obtain rfl : len = 3 := by simpa [mz_ln] using hlen
        unfold zz_cal at hcal
        simp only [Bool.and_eq_true, beq_iff_eq] at hcal
        obtain ⟨⟨⟨⟨c1', c2⟩, cn1⟩, c3⟩, c4⟩ := hcal
        have c1' := of_decide_eq_true c1'
        have c2 := of_decide_eq_true c2
        have cn1 := of_decide_eq_true cn1
        obtain ⟨-, hn1, hn1S⟩ := zz_x_mono hin
        simp only at hn1 hn1S
        obtain ⟨-, hn2, -⟩ := zz_x_mono h2
        simp only at hn2
        have hnE1 : n1 ≤ nE := Nat.le_trans hn2 hnE
        have hgo := ih (d1 + 1) sp F hR K ini hini hK (qp + 3) L (S.drop rc.2.2.2.1) n1 z1 m1 c1 (Nat.le_trans hn0 hn1) (hn1S hnS) hnE h2 k
        have hlenA : (S.take rc.2.2.2.1).reverse.length = rc.2.2.2.1 := by rw [List.length_reverse, List.length_take]; omega
        have hroom : (zz_rm d1 (n1 - n) (zz_sl S0 n1 - zz_sl S0 n)).frames + 1 ≤ R.frames ∧ 8 + (rc.2.2.1 + 11) + (zz_rm d1 (n1 - n) (zz_sl S0 n1 - zz_sl S0 n)).locals ≤ R.locals := by
          have h45 := hRok.1.2.2.2.1
          refine ⟨hR.1, ?_⟩
          show 8 + (rc.2.2.1 + 11) + 64 * (d1 + 1) ≤ R.locals
          have := hR.2
          omega
        have hgw : ∀ w ∈ zz_ws G0 rc, w ∈ mz_G G0 ∧ ((w.onTables && w.keeps) = true ∨ ∃ ty, w = .arrayClass ty) := by
          intro w hw
          rcases List.mem_cons.mp hw with rfl | hw
          · exact ⟨hRok.2.1.1, mz_G_good hRok.2.1.1⟩
          · exact ⟨hw, mz_G_good hw⟩
        generalize hasd : (S.take rc.2.2.2.1).reverse = as at c3 c4 hin hlenA
        have hSs : S = as.reverse ++ S.drop rc.2.2.2.1 := by rw [← hasd]; exact mz_split _ _
        generalize hrest : S.drop rc.2.2.2.1 = rest at hgo c2 hSs
        split at c3
        · rename_i i as1
          have hn3 : as1.length = rc.2.2.2.1 - 1 := by
            have := hlenA
            simp only [List.length_cons] at this
            omega
          have had := F.2.1.2.2.1
          intro ls H locs h1 h2 h3
          show W p l e R s m args below meth c H locs (n - n0) (zz_sl S0 n - zz_sl S0 n0) Q (F0 m qp ls (S.map (mz_cvv ad)))
          refine zz_sz (fun hu => ?_)
          have hH := zz_hsz had F.2.1.2.1 hn0 (Nat.le_trans hnS F.2.2.2.2.2.2.1) h2 h3 hu
          have hM := zz_met ih F.2.2.2 hRok l D cI ad Ln xs sz d1 had hnS c4 hin
          have hpre : PreS s H (zz_Pc S0 T0 cl NM ST G0 D cI ad Ln xs sz (.ref i :: as1) n z mem) (.ref (ad i) :: as1.map (mz_cvv ad)) := by
            refine ⟨zz_Pc_blind, fun U hU hW => ⟨rfl, by rw [hU]; exact hH, va_K.moved hW.alike F.2.1.1, by rw [hU]; exact h2, ?_, ?_⟩⟩
            · rw [hU]
              exact mz_rok.kept (mz_rok.warm hW F.2.1.2.2.2.1) h3.1 h3.2.1 (fun q h => h)
            · rw [hU]
              exact (F.2.1.2.2.2.2.moved hW.alike).kept h3.2.1
          have hWs : 2 * (F0 m qp ls (S.map (mz_cvv ad))).monitorRoom + ((rest.map (mz_cvv ad)).map fun v => v.category).sum ≤ 8 := lv_room (by rw [mz_cat_map]; exact c2)
          have hm1 := zz_sl_mono S0 hn0
          have hm2 := zz_sl_mono S0 hn1
          have hm3 := zz_sl_mono S0 hnE1
          have hrc1 := F.2.2.1.2.2.1
          have hrs1 := F.2.2.1.2.2.2
          have hfit2 : n - n0 + (n1 - n) ≤ R.cells ∧ zz_sl S0 n - zz_sl S0 n0 + (zz_sl S0 n1 - zz_sl S0 n) ≤ R.slots := ⟨by omega, by omega⟩
          have hst : S.map (mz_cvv ad) = (as1.map (mz_cvv ad)).reverse ++ .ref (ad i) :: rest.map (mz_cvv ad) := by
            rw [hSs]
            simp [mz_cvv]
          rcases hf with hf | hf
          · simp only [zz_lk, hf, hfa, hrc] at hl
            have hlk := zz_Gi F (of_decide_eq_true hl) rfl
            refine zz_back F hn0 hn1 h1 h3 (va_runI (As := as1.map (mz_cvv ad)) (b := ad i) F.1 hM (cwI _ F.1.2.2.2.2 hgw rfl rfl rfl (F.1.2.2.2.2 _ hRok.2.1.2.1) hlk (F.1.2.2.2.2 _ hRok.2.1.2.2) hRok.1.2.2.2.2 ⟨hRok.1.2.1.1, hRok.1.2.1.2, hRok.1.2.2.1⟩ hroom) hpre rfl (by rw [List.length_map]; exact hn3) h1.1 hst hWs hd hfit2) hgo
          · simp only [zz_lk, hf, hfa, hrc] at hl
            have hnw := F.2.1.2.2.2.1.2.2.2.2.2.1 _ (F.2.2.2.2.2.2.2.2.2.1 _ _ (of_decide_eq_true hl)) rfl
            refine zz_back F hn0 hn1 h1 h3 (va_runIN (As := as1.map (mz_cvv ad)) (b := ad i) F.1 hM ⟨va_cnB _ F.1.2.2.2.2 hgw rfl rfl rfl hnw (F.1.2.2.2.2 _ hRok.2.1.2.1) ⟨hRok.1.2.1.1, hRok.1.2.1.2, hRok.1.2.2.1⟩ hroom, hRok.1.2.2.2.2, F.1.2.2.2.2 _ hRok.2.1.2.2⟩ hpre rfl (by rw [List.length_map]; exact hn3) h1.1 hst hWs hd hfit2) hgo
        · cases c3
end
