/-! what the bytes say: an instruction's bytes, and that they are read so -/
def mz_b (code : ByteArray) (p : Nat) : Option Nat := if h : p < code.size then some code[p].toNat else none
theorem mz_u1 {code : ByteArray} {p v : Nat} (h : mz_b code p = some v) : (Reader.u1 : Reader DecodeError Nat) code p = .ok (v, p + 1) := by
  have h0 : (Reader.u1 : Reader DecodeError Nat) code p = (if h : p < code.size then .ok (code[p].toNat, p + 1) else .error (.truncated p)) := by
    unfold Reader.u1
    show (if h : p < code.size then _ else _ : Reader DecodeError Nat) code p = _
    split <;> rfl
  unfold mz_b at h
  split at h
  · rename_i hp
    cases h
    rw [h0, dif_pos hp]
  · cases h
theorem mz_else {α : Type} {a b : Int} {x y : Option α} (h : ¬ a = b) : cond (decide (a = b)) x y = y := by rw [decide_eq_false h]; rfl
def mz_sg (n : Nat) (o : Int) (k : Nat) : Option (List Nat) := cond (decide (Reader.signed 16 n = o)) (some [k, n / 256, n % 256]) none
def mz_sn (o : Int) : Nat := (o % 65536).toNat
def mz_enc : Instr → Option (List Nat)
  | .iaload => some [46]
  | .baload => some [51]
  | .iastore => some [79]
  | .pop => some [87]
  | .dup => some [89]
  | .dup_x1 => some [90]
  | .dup2 => some [92]
  | .iadd => some [96]
  | .isub => some [100]
  | .imul => some [104]
  | .idiv => some [108]
  | .irem => some [112]
  | .ineg => some [116]
  | .ishl => some [120]
  | .lshl => some [121]
  | .ishr => some [122]
  | .lshr => some [123]
  | .iushr => some [124]
  | .lushr => some [125]
  | .iand => some [126]
  | .land => some [127]
  | .ior => some [128]
  | .lor => some [129]
  | .ixor => some [130]
  | .i2l => some [133]
  | .l2i => some [136]
  | .i2b => some [145]
  | .i2c => some [146]
  | .i2s => some [147]
  | .ireturn => some [172]
  | .areturn => some [176]
  | .return_ => some [177]
  | .arraylength => some [190]
  | .iload_n 0 => some [26]
  | .iload_n 1 => some [27]
  | .iload_n 2 => some [28]
  | .iload_n 3 => some [29]
  | .lload_n 0 => some [30]
  | .lload_n 1 => some [31]
  | .lload_n 2 => some [32]
  | .lload_n 3 => some [33]
  | .aload_n 0 => some [42]
  | .aload_n 1 => some [43]
  | .aload_n 2 => some [44]
  | .aload_n 3 => some [45]
  | .istore_n 0 => some [59]
  | .istore_n 1 => some [60]
  | .istore_n 2 => some [61]
  | .istore_n 3 => some [62]
  | .astore_n 0 => some [75]
  | .astore_n 1 => some [76]
  | .astore_n 2 => some [77]
  | .astore_n 3 => some [78]
  | .iconst n => cond (decide (n = -1)) (some [2]) (cond (decide (n = 0)) (some [3]) (cond (decide (n = 1)) (some [4]) (cond (decide (n = 2)) (some [5]) (cond (decide (n = 3)) (some [6]) (cond (decide (n = 4)) (some [7]) (cond (decide (n = 5)) (some [8]) none))))))
  | .ldc x => some [18, x]
  | .iload x => some [21, x]
  | .aload x => some [25, x]
  | .istore x => some [54, x]
  | .astore x => some [58, x]
  | .bipush o => cond (decide (Reader.signed 8 (o % 256).toNat = o)) (some [16, (o % 256).toNat]) none
  | .ldc_w x => some [19, x / 256, x % 256]
  | .ldc2_w x => some [20, x / 256, x % 256]
  | .getstatic x => some [178, x / 256, x % 256]
  | .getfield x => some [180, x / 256, x % 256]
  | .putfield x => some [181, x / 256, x % 256]
  | .invokevirtual x => some [182, x / 256, x % 256]
  | .invokespecial x => some [183, x / 256, x % 256]
  | .invokestatic x => some [184, x / 256, x % 256]
  | .new x => some [187, x / 256, x % 256]
  | .checkcast x => some [192, x / 256, x % 256]
  | .sipush o => mz_sg (mz_sn o) o 17
  | .goto o => mz_sg (mz_sn o) o 167
  | .ifCond .eq o => mz_sg (mz_sn o) o 153
  | .ifCond .ne o => mz_sg (mz_sn o) o 154
  | .ifCond .lt o => mz_sg (mz_sn o) o 155
  | .ifCond .ge o => mz_sg (mz_sn o) o 156
  | .ifCond .gt o => mz_sg (mz_sn o) o 157
  | .ifCond .le o => mz_sg (mz_sn o) o 158
  | .if_icmp .eq o => mz_sg (mz_sn o) o 159
  | .if_icmp .ne o => mz_sg (mz_sn o) o 160
  | .if_icmp .lt o => mz_sg (mz_sn o) o 161
  | .if_icmp .ge o => mz_sg (mz_sn o) o 162
  | .if_icmp .gt o => mz_sg (mz_sn o) o 163
  | .if_icmp .le o => mz_sg (mz_sn o) o 164
  | .iinc x o => cond (decide (Reader.signed 8 (o % 256).toNat = o)) (some [132, x, (o % 256).toNat]) none
  | _ => none
set_option maxHeartbeats 4000000 in
theorem mz_enc_ok {ins : Instr} {l : List Nat} {code : ByteArray} {pc : Nat} (h : mz_enc ins = some l) (hb : ∀ (i v : Nat), l[i]? = some v → mz_b code (pc + i) = some v) : decode code pc = .ok (ins, l.length) := by
  cases ins with
  | iaload =>
    cases h
    have h0 := mz_u1 (p := pc) (hb 0 _ rfl)
    unfold decode Reader.runAt Decoder.instr
    show Except.bind (Except.bind ((Reader.u1 : Reader DecodeError Nat) code pc) _) _ = _
    rw [h0]
    show Except.ok (_, pc + 1 - pc) = _
    rw [Nat.add_sub_cancel_left]
    rfl
  | baload =>
    cases h
    have h0 := mz_u1 (p := pc) (hb 0 _ rfl)
    unfold decode Reader.runAt Decoder.instr
    show Except.bind (Except.bind ((Reader.u1 : Reader DecodeError Nat) code pc) _) _ = _
    rw [h0]
    show Except.ok (_, pc + 1 - pc) = _
    rw [Nat.add_sub_cancel_left]
    rfl
  | iastore =>
    cases h
    have h0 := mz_u1 (p := pc) (hb 0 _ rfl)
    unfold decode Reader.runAt Decoder.instr
    show Except.bind (Except.bind ((Reader.u1 : Reader DecodeError Nat) code pc) _) _ = _
    rw [h0]
    show Except.ok (_, pc + 1 - pc) = _
    rw [Nat.add_sub_cancel_left]
    rfl
  | pop =>
    cases h
    have h0 := mz_u1 (p := pc) (hb 0 _ rfl)
    unfold decode Reader.runAt Decoder.instr
    show Except.bind (Except.bind ((Reader.u1 : Reader DecodeError Nat) code pc) _) _ = _
    rw [h0]
    show Except.ok (_, pc + 1 - pc) = _
    rw [Nat.add_sub_cancel_left]
    rfl
  | dup =>
    cases h
    have h0 := mz_u1 (p := pc) (hb 0 _ rfl)
    unfold decode Reader.runAt Decoder.instr
    show Except.bind (Except.bind ((Reader.u1 : Reader DecodeError Nat) code pc) _) _ = _
    rw [h0]
    show Except.ok (_, pc + 1 - pc) = _
    rw [Nat.add_sub_cancel_left]
    rfl
  | dup_x1 =>
    cases h
    have h0 := mz_u1 (p := pc) (hb 0 _ rfl)
    unfold decode Reader.runAt Decoder.instr
    show Except.bind (Except.bind ((Reader.u1 : Reader DecodeError Nat) code pc) _) _ = _
    rw [h0]
    show Except.ok (_, pc + 1 - pc) = _
    rw [Nat.add_sub_cancel_left]
    rfl
  | dup2 =>
    cases h
    have h0 := mz_u1 (p := pc) (hb 0 _ rfl)
    unfold decode Reader.runAt Decoder.instr
    show Except.bind (Except.bind ((Reader.u1 : Reader DecodeError Nat) code pc) _) _ = _
    rw [h0]
    show Except.ok (_, pc + 1 - pc) = _
    rw [Nat.add_sub_cancel_left]
    rfl
  | iadd =>
    cases h
    have h0 := mz_u1 (p := pc) (hb 0 _ rfl)
    unfold decode Reader.runAt Decoder.instr
    show Except.bind (Except.bind ((Reader.u1 : Reader DecodeError Nat) code pc) _) _ = _
    rw [h0]
    show Except.ok (_, pc + 1 - pc) = _
    rw [Nat.add_sub_cancel_left]
    rfl
  | isub =>
    cases h
    have h0 := mz_u1 (p := pc) (hb 0 _ rfl)
    unfold decode Reader.runAt Decoder.instr
    show Except.bind (Except.bind ((Reader.u1 : Reader DecodeError Nat) code pc) _) _ = _
    rw [h0]
    show Except.ok (_, pc + 1 - pc) = _
    rw [Nat.add_sub_cancel_left]
    rfl
  | imul =>
    cases h
    have h0 := mz_u1 (p := pc) (hb 0 _ rfl)
    unfold decode Reader.runAt Decoder.instr
    show Except.bind (Except.bind ((Reader.u1 : Reader DecodeError Nat) code pc) _) _ = _
    rw [h0]
    show Except.ok (_, pc + 1 - pc) = _
    rw [Nat.add_sub_cancel_left]
    rfl
  | idiv =>
    cases h
    have h0 := mz_u1 (p := pc) (hb 0 _ rfl)
    unfold decode Reader.runAt Decoder.instr
    show Except.bind (Except.bind ((Reader.u1 : Reader DecodeError Nat) code pc) _) _ = _
    rw [h0]
    show Except.ok (_, pc + 1 - pc) = _
    rw [Nat.add_sub_cancel_left]
    rfl
  | irem =>
    cases h
    have h0 := mz_u1 (p := pc) (hb 0 _ rfl)
    unfold decode Reader.runAt Decoder.instr
    show Except.bind (Except.bind ((Reader.u1 : Reader DecodeError Nat) code pc) _) _ = _
    rw [h0]
    show Except.ok (_, pc + 1 - pc) = _
    rw [Nat.add_sub_cancel_left]
    rfl
  | ineg =>
    cases h
    have h0 := mz_u1 (p := pc) (hb 0 _ rfl)
    unfold decode Reader.runAt Decoder.instr
    show Except.bind (Except.bind ((Reader.u1 : Reader DecodeError Nat) code pc) _) _ = _
    rw [h0]
    show Except.ok (_, pc + 1 - pc) = _
    rw [Nat.add_sub_cancel_left]
    rfl
  | ishl =>
    cases h
    have h0 := mz_u1 (p := pc) (hb 0 _ rfl)
    unfold decode Reader.runAt Decoder.instr
    show Except.bind (Except.bind ((Reader.u1 : Reader DecodeError Nat) code pc) _) _ = _
    rw [h0]
    show Except.ok (_, pc + 1 - pc) = _
    rw [Nat.add_sub_cancel_left]
    rfl
  | lshl =>
    cases h
    have h0 := mz_u1 (p := pc) (hb 0 _ rfl)
    unfold decode Reader.runAt Decoder.instr
    show Except.bind (Except.bind ((Reader.u1 : Reader DecodeError Nat) code pc) _) _ = _
    rw [h0]
    show Except.ok (_, pc + 1 - pc) = _
    rw [Nat.add_sub_cancel_left]
    rfl
  | ishr =>
    cases h
    have h0 := mz_u1 (p := pc) (hb 0 _ rfl)
    unfold decode Reader.runAt Decoder.instr
    show Except.bind (Except.bind ((Reader.u1 : Reader DecodeError Nat) code pc) _) _ = _
    rw [h0]
    show Except.ok (_, pc + 1 - pc) = _
    rw [Nat.add_sub_cancel_left]
    rfl
  | lshr =>
    cases h
    have h0 := mz_u1 (p := pc) (hb 0 _ rfl)
    unfold decode Reader.runAt Decoder.instr
    show Except.bind (Except.bind ((Reader.u1 : Reader DecodeError Nat) code pc) _) _ = _
    rw [h0]
    show Except.ok (_, pc + 1 - pc) = _
    rw [Nat.add_sub_cancel_left]
    rfl
  | iushr =>
    cases h
    have h0 := mz_u1 (p := pc) (hb 0 _ rfl)
    unfold decode Reader.runAt Decoder.instr
    show Except.bind (Except.bind ((Reader.u1 : Reader DecodeError Nat) code pc) _) _ = _
    rw [h0]
    show Except.ok (_, pc + 1 - pc) = _
    rw [Nat.add_sub_cancel_left]
    rfl
  | lushr =>
    cases h
    have h0 := mz_u1 (p := pc) (hb 0 _ rfl)
    unfold decode Reader.runAt Decoder.instr
    show Except.bind (Except.bind ((Reader.u1 : Reader DecodeError Nat) code pc) _) _ = _
    rw [h0]
    show Except.ok (_, pc + 1 - pc) = _
    rw [Nat.add_sub_cancel_left]
    rfl
  | iand =>
    cases h
    have h0 := mz_u1 (p := pc) (hb 0 _ rfl)
    unfold decode Reader.runAt Decoder.instr
    show Except.bind (Except.bind ((Reader.u1 : Reader DecodeError Nat) code pc) _) _ = _
    rw [h0]
    show Except.ok (_, pc + 1 - pc) = _
    rw [Nat.add_sub_cancel_left]
    rfl
  | land =>
    cases h
    have h0 := mz_u1 (p := pc) (hb 0 _ rfl)
    unfold decode Reader.runAt Decoder.instr
    show Except.bind (Except.bind ((Reader.u1 : Reader DecodeError Nat) code pc) _) _ = _
    rw [h0]
    show Except.ok (_, pc + 1 - pc) = _
    rw [Nat.add_sub_cancel_left]
    rfl
  | ior =>
    cases h
    have h0 := mz_u1 (p := pc) (hb 0 _ rfl)
    unfold decode Reader.runAt Decoder.instr
    show Except.bind (Except.bind ((Reader.u1 : Reader DecodeError Nat) code pc) _) _ = _
    rw [h0]
    show Except.ok (_, pc + 1 - pc) = _
    rw [Nat.add_sub_cancel_left]
    rfl
  | lor =>
    cases h
    have h0 := mz_u1 (p := pc) (hb 0 _ rfl)
    unfold decode Reader.runAt Decoder.instr
    show Except.bind (Except.bind ((Reader.u1 : Reader DecodeError Nat) code pc) _) _ = _
    rw [h0]
    show Except.ok (_, pc + 1 - pc) = _
    rw [Nat.add_sub_cancel_left]
    rfl
  | ixor =>
    cases h
    have h0 := mz_u1 (p := pc) (hb 0 _ rfl)
    unfold decode Reader.runAt Decoder.instr
    show Except.bind (Except.bind ((Reader.u1 : Reader DecodeError Nat) code pc) _) _ = _
    rw [h0]
    show Except.ok (_, pc + 1 - pc) = _
    rw [Nat.add_sub_cancel_left]
    rfl
  | i2l =>
    cases h
    have h0 := mz_u1 (p := pc) (hb 0 _ rfl)
    unfold decode Reader.runAt Decoder.instr
    show Except.bind (Except.bind ((Reader.u1 : Reader DecodeError Nat) code pc) _) _ = _
    rw [h0]
    show Except.ok (_, pc + 1 - pc) = _
    rw [Nat.add_sub_cancel_left]
    rfl
  | l2i =>
    cases h
    have h0 := mz_u1 (p := pc) (hb 0 _ rfl)
    unfold decode Reader.runAt Decoder.instr
    show Except.bind (Except.bind ((Reader.u1 : Reader DecodeError Nat) code pc) _) _ = _
    rw [h0]
    show Except.ok (_, pc + 1 - pc) = _
    rw [Nat.add_sub_cancel_left]
    rfl
  | i2b =>
    cases h
    have h0 := mz_u1 (p := pc) (hb 0 _ rfl)
    unfold decode Reader.runAt Decoder.instr
    show Except.bind (Except.bind ((Reader.u1 : Reader DecodeError Nat) code pc) _) _ = _
    rw [h0]
    show Except.ok (_, pc + 1 - pc) = _
    rw [Nat.add_sub_cancel_left]
    rfl
  | i2c =>
    cases h
    have h0 := mz_u1 (p := pc) (hb 0 _ rfl)
    unfold decode Reader.runAt Decoder.instr
    show Except.bind (Except.bind ((Reader.u1 : Reader DecodeError Nat) code pc) _) _ = _
    rw [h0]
    show Except.ok (_, pc + 1 - pc) = _
    rw [Nat.add_sub_cancel_left]
    rfl
  | i2s =>
    cases h
    have h0 := mz_u1 (p := pc) (hb 0 _ rfl)
    unfold decode Reader.runAt Decoder.instr
    show Except.bind (Except.bind ((Reader.u1 : Reader DecodeError Nat) code pc) _) _ = _
    rw [h0]
    show Except.ok (_, pc + 1 - pc) = _
    rw [Nat.add_sub_cancel_left]
    rfl
  | ireturn =>
    cases h
    have h0 := mz_u1 (p := pc) (hb 0 _ rfl)
    unfold decode Reader.runAt Decoder.instr
    show Except.bind (Except.bind ((Reader.u1 : Reader DecodeError Nat) code pc) _) _ = _
    rw [h0]
    show Except.ok (_, pc + 1 - pc) = _
    rw [Nat.add_sub_cancel_left]
    rfl
  | areturn =>
    cases h
    have h0 := mz_u1 (p := pc) (hb 0 _ rfl)
    unfold decode Reader.runAt Decoder.instr
    show Except.bind (Except.bind ((Reader.u1 : Reader DecodeError Nat) code pc) _) _ = _
    rw [h0]
    show Except.ok (_, pc + 1 - pc) = _
    rw [Nat.add_sub_cancel_left]
    rfl
  | return_ =>
    cases h
    have h0 := mz_u1 (p := pc) (hb 0 _ rfl)
    unfold decode Reader.runAt Decoder.instr
    show Except.bind (Except.bind ((Reader.u1 : Reader DecodeError Nat) code pc) _) _ = _
    rw [h0]
    show Except.ok (_, pc + 1 - pc) = _
    rw [Nat.add_sub_cancel_left]
    rfl
  | arraylength =>
    cases h
    have h0 := mz_u1 (p := pc) (hb 0 _ rfl)
    unfold decode Reader.runAt Decoder.instr
    show Except.bind (Except.bind ((Reader.u1 : Reader DecodeError Nat) code pc) _) _ = _
    rw [h0]
    show Except.ok (_, pc + 1 - pc) = _
    rw [Nat.add_sub_cancel_left]
    rfl
  | iload_n q =>
    rcases q with ⟨q, hq⟩
    rcases (show q = 0 ∨ q = 1 ∨ q = 2 ∨ q = 3 by omega) with rfl | rfl | rfl | rfl
    · cases h
      have h0 := mz_u1 (p := pc) (hb 0 _ rfl)
      unfold decode Reader.runAt Decoder.instr
      show Except.bind (Except.bind ((Reader.u1 : Reader DecodeError Nat) code pc) _) _ = _
      rw [h0]
      show Except.ok (_, pc + 1 - pc) = _
      rw [Nat.add_sub_cancel_left]
      rfl
    · cases h
      have h0 := mz_u1 (p := pc) (hb 0 _ rfl)
      unfold decode Reader.runAt Decoder.instr
      show Except.bind (Except.bind ((Reader.u1 : Reader DecodeError Nat) code pc) _) _ = _
      rw [h0]
      show Except.ok (_, pc + 1 - pc) = _
      rw [Nat.add_sub_cancel_left]
      rfl
    · cases h
      have h0 := mz_u1 (p := pc) (hb 0 _ rfl)
      unfold decode Reader.runAt Decoder.instr
      show Except.bind (Except.bind ((Reader.u1 : Reader DecodeError Nat) code pc) _) _ = _
      rw [h0]
      show Except.ok (_, pc + 1 - pc) = _
      rw [Nat.add_sub_cancel_left]
      rfl
    · cases h
      have h0 := mz_u1 (p := pc) (hb 0 _ rfl)
      unfold decode Reader.runAt Decoder.instr
      show Except.bind (Except.bind ((Reader.u1 : Reader DecodeError Nat) code pc) _) _ = _
      rw [h0]
      show Except.ok (_, pc + 1 - pc) = _
      rw [Nat.add_sub_cancel_left]
      rfl
  | lload_n q =>
    rcases q with ⟨q, hq⟩
    rcases (show q = 0 ∨ q = 1 ∨ q = 2 ∨ q = 3 by omega) with rfl | rfl | rfl | rfl
    · cases h
      have h0 := mz_u1 (p := pc) (hb 0 _ rfl)
      unfold decode Reader.runAt Decoder.instr
      show Except.bind (Except.bind ((Reader.u1 : Reader DecodeError Nat) code pc) _) _ = _
      rw [h0]
      show Except.ok (_, pc + 1 - pc) = _
      rw [Nat.add_sub_cancel_left]
      rfl
    · cases h
      have h0 := mz_u1 (p := pc) (hb 0 _ rfl)
      unfold decode Reader.runAt Decoder.instr
      show Except.bind (Except.bind ((Reader.u1 : Reader DecodeError Nat) code pc) _) _ = _
      rw [h0]
      show Except.ok (_, pc + 1 - pc) = _
      rw [Nat.add_sub_cancel_left]
      rfl
    · cases h
      have h0 := mz_u1 (p := pc) (hb 0 _ rfl)
      unfold decode Reader.runAt Decoder.instr
      show Except.bind (Except.bind ((Reader.u1 : Reader DecodeError Nat) code pc) _) _ = _
      rw [h0]
      show Except.ok (_, pc + 1 - pc) = _
      rw [Nat.add_sub_cancel_left]
      rfl
    · cases h
      have h0 := mz_u1 (p := pc) (hb 0 _ rfl)
      unfold decode Reader.runAt Decoder.instr
      show Except.bind (Except.bind ((Reader.u1 : Reader DecodeError Nat) code pc) _) _ = _
      rw [h0]
      show Except.ok (_, pc + 1 - pc) = _
      rw [Nat.add_sub_cancel_left]
      rfl
  | aload_n q =>
    rcases q with ⟨q, hq⟩
    rcases (show q = 0 ∨ q = 1 ∨ q = 2 ∨ q = 3 by omega) with rfl | rfl | rfl | rfl
    · cases h
      have h0 := mz_u1 (p := pc) (hb 0 _ rfl)
      unfold decode Reader.runAt Decoder.instr
      show Except.bind (Except.bind ((Reader.u1 : Reader DecodeError Nat) code pc) _) _ = _
      rw [h0]
      show Except.ok (_, pc + 1 - pc) = _
      rw [Nat.add_sub_cancel_left]
      rfl
    · cases h
      have h0 := mz_u1 (p := pc) (hb 0 _ rfl)
      unfold decode Reader.runAt Decoder.instr
      show Except.bind (Except.bind ((Reader.u1 : Reader DecodeError Nat) code pc) _) _ = _
      rw [h0]
      show Except.ok (_, pc + 1 - pc) = _
      rw [Nat.add_sub_cancel_left]
      rfl
    · cases h
      have h0 := mz_u1 (p := pc) (hb 0 _ rfl)
      unfold decode Reader.runAt Decoder.instr
      show Except.bind (Except.bind ((Reader.u1 : Reader DecodeError Nat) code pc) _) _ = _
      rw [h0]
      show Except.ok (_, pc + 1 - pc) = _
      rw [Nat.add_sub_cancel_left]
      rfl
    · cases h
      have h0 := mz_u1 (p := pc) (hb 0 _ rfl)
      unfold decode Reader.runAt Decoder.instr
      show Except.bind (Except.bind ((Reader.u1 : Reader DecodeError Nat) code pc) _) _ = _
      rw [h0]
      show Except.ok (_, pc + 1 - pc) = _
      rw [Nat.add_sub_cancel_left]
      rfl
  | istore_n q =>
    rcases q with ⟨q, hq⟩
    rcases (show q = 0 ∨ q = 1 ∨ q = 2 ∨ q = 3 by omega) with rfl | rfl | rfl | rfl
    · cases h
      have h0 := mz_u1 (p := pc) (hb 0 _ rfl)
      unfold decode Reader.runAt Decoder.instr
      show Except.bind (Except.bind ((Reader.u1 : Reader DecodeError Nat) code pc) _) _ = _
      rw [h0]
      show Except.ok (_, pc + 1 - pc) = _
      rw [Nat.add_sub_cancel_left]
      rfl
    · cases h
      have h0 := mz_u1 (p := pc) (hb 0 _ rfl)
      unfold decode Reader.runAt Decoder.instr
      show Except.bind (Except.bind ((Reader.u1 : Reader DecodeError Nat) code pc) _) _ = _
      rw [h0]
      show Except.ok (_, pc + 1 - pc) = _
      rw [Nat.add_sub_cancel_left]
      rfl
    · cases h
      have h0 := mz_u1 (p := pc) (hb 0 _ rfl)
      unfold decode Reader.runAt Decoder.instr
      show Except.bind (Except.bind ((Reader.u1 : Reader DecodeError Nat) code pc) _) _ = _
      rw [h0]
      show Except.ok (_, pc + 1 - pc) = _
      rw [Nat.add_sub_cancel_left]
      rfl
    · cases h
      have h0 := mz_u1 (p := pc) (hb 0 _ rfl)
      unfold decode Reader.runAt Decoder.instr
      show Except.bind (Except.bind ((Reader.u1 : Reader DecodeError Nat) code pc) _) _ = _
      rw [h0]
      show Except.ok (_, pc + 1 - pc) = _
      rw [Nat.add_sub_cancel_left]
      rfl
  | astore_n q =>
    rcases q with ⟨q, hq⟩
    rcases (show q = 0 ∨ q = 1 ∨ q = 2 ∨ q = 3 by omega) with rfl | rfl | rfl | rfl
    · cases h
      have h0 := mz_u1 (p := pc) (hb 0 _ rfl)
      unfold decode Reader.runAt Decoder.instr
      show Except.bind (Except.bind ((Reader.u1 : Reader DecodeError Nat) code pc) _) _ = _
      rw [h0]
      show Except.ok (_, pc + 1 - pc) = _
      rw [Nat.add_sub_cancel_left]
      rfl
    · cases h
      have h0 := mz_u1 (p := pc) (hb 0 _ rfl)
      unfold decode Reader.runAt Decoder.instr
      show Except.bind (Except.bind ((Reader.u1 : Reader DecodeError Nat) code pc) _) _ = _
      rw [h0]
      show Except.ok (_, pc + 1 - pc) = _
      rw [Nat.add_sub_cancel_left]
      rfl
    · cases h
      have h0 := mz_u1 (p := pc) (hb 0 _ rfl)
      unfold decode Reader.runAt Decoder.instr
      show Except.bind (Except.bind ((Reader.u1 : Reader DecodeError Nat) code pc) _) _ = _
      rw [h0]
      show Except.ok (_, pc + 1 - pc) = _
      rw [Nat.add_sub_cancel_left]
      rfl
    · cases h
      have h0 := mz_u1 (p := pc) (hb 0 _ rfl)
      unfold decode Reader.runAt Decoder.instr
      show Except.bind (Except.bind ((Reader.u1 : Reader DecodeError Nat) code pc) _) _ = _
      rw [h0]
      show Except.ok (_, pc + 1 - pc) = _
      rw [Nat.add_sub_cancel_left]
      rfl
  | iconst n =>
    by_cases hn : n = -1
    · subst hn
      have h : some [2] = some l := h
      cases h
      have h0 := mz_u1 (p := pc) (hb 0 _ rfl)
      unfold decode Reader.runAt Decoder.instr
      show Except.bind (Except.bind ((Reader.u1 : Reader DecodeError Nat) code pc) _) _ = _
      rw [h0]
      show Except.ok (_, pc + 1 - pc) = _
      rw [Nat.add_sub_cancel_left]
      rfl
    have h := (mz_else hn).symm.trans h
    by_cases hn : n = 0
    · subst hn
      have h : some [3] = some l := h
      cases h
      have h0 := mz_u1 (p := pc) (hb 0 _ rfl)
      unfold decode Reader.runAt Decoder.instr
      show Except.bind (Except.bind ((Reader.u1 : Reader DecodeError Nat) code pc) _) _ = _
      rw [h0]
      show Except.ok (_, pc + 1 - pc) = _
      rw [Nat.add_sub_cancel_left]
      rfl
    have h := (mz_else hn).symm.trans h
    by_cases hn : n = 1
    · subst hn
      have h : some [4] = some l := h
      cases h
      have h0 := mz_u1 (p := pc) (hb 0 _ rfl)
      unfold decode Reader.runAt Decoder.instr
      show Except.bind (Except.bind ((Reader.u1 : Reader DecodeError Nat) code pc) _) _ = _
      rw [h0]
      show Except.ok (_, pc + 1 - pc) = _
      rw [Nat.add_sub_cancel_left]
      rfl
    have h := (mz_else hn).symm.trans h
    by_cases hn : n = 2
    · subst hn
      have h : some [5] = some l := h
      cases h
      have h0 := mz_u1 (p := pc) (hb 0 _ rfl)
      unfold decode Reader.runAt Decoder.instr
      show Except.bind (Except.bind ((Reader.u1 : Reader DecodeError Nat) code pc) _) _ = _
      rw [h0]
      show Except.ok (_, pc + 1 - pc) = _
      rw [Nat.add_sub_cancel_left]
      rfl
    have h := (mz_else hn).symm.trans h
    by_cases hn : n = 3
    · subst hn
      have h : some [6] = some l := h
      cases h
      have h0 := mz_u1 (p := pc) (hb 0 _ rfl)
      unfold decode Reader.runAt Decoder.instr
      show Except.bind (Except.bind ((Reader.u1 : Reader DecodeError Nat) code pc) _) _ = _
      rw [h0]
      show Except.ok (_, pc + 1 - pc) = _
      rw [Nat.add_sub_cancel_left]
      rfl
    have h := (mz_else hn).symm.trans h
    by_cases hn : n = 4
    · subst hn
      have h : some [7] = some l := h
      cases h
      have h0 := mz_u1 (p := pc) (hb 0 _ rfl)
      unfold decode Reader.runAt Decoder.instr
      show Except.bind (Except.bind ((Reader.u1 : Reader DecodeError Nat) code pc) _) _ = _
      rw [h0]
      show Except.ok (_, pc + 1 - pc) = _
      rw [Nat.add_sub_cancel_left]
      rfl
    have h := (mz_else hn).symm.trans h
    by_cases hn : n = 5
    · subst hn
      have h : some [8] = some l := h
      cases h
      have h0 := mz_u1 (p := pc) (hb 0 _ rfl)
      unfold decode Reader.runAt Decoder.instr
      show Except.bind (Except.bind ((Reader.u1 : Reader DecodeError Nat) code pc) _) _ = _
      rw [h0]
      show Except.ok (_, pc + 1 - pc) = _
      rw [Nat.add_sub_cancel_left]
      rfl
    have h := (mz_else hn).symm.trans h
    cases h
  | ldc x =>
    cases h
    have h0 := mz_u1 (p := pc) (hb 0 _ rfl)
    have h1 := mz_u1 (hb 1 _ rfl)
    unfold decode Reader.runAt Decoder.instr
    show Except.bind (Except.bind ((Reader.u1 : Reader DecodeError Nat) code pc) _) _ = _
    rw [h0]
    show Except.bind (Except.bind ((Reader.u1 : Reader DecodeError Nat) code (pc + 1)) _) _ = _
    rw [h1]
    show Except.ok (_, pc + 2 - pc) = _
    rw [Nat.add_sub_cancel_left]
    rfl
  | iload x =>
    cases h
    have h0 := mz_u1 (p := pc) (hb 0 _ rfl)
    have h1 := mz_u1 (hb 1 _ rfl)
    unfold decode Reader.runAt Decoder.instr
    show Except.bind (Except.bind ((Reader.u1 : Reader DecodeError Nat) code pc) _) _ = _
    rw [h0]
    show Except.bind (Except.bind ((Reader.u1 : Reader DecodeError Nat) code (pc + 1)) _) _ = _
    rw [h1]
    show Except.ok (_, pc + 2 - pc) = _
    rw [Nat.add_sub_cancel_left]
    rfl
  | aload x =>
    cases h
    have h0 := mz_u1 (p := pc) (hb 0 _ rfl)
    have h1 := mz_u1 (hb 1 _ rfl)
    unfold decode Reader.runAt Decoder.instr
    show Except.bind (Except.bind ((Reader.u1 : Reader DecodeError Nat) code pc) _) _ = _
    rw [h0]
    show Except.bind (Except.bind ((Reader.u1 : Reader DecodeError Nat) code (pc + 1)) _) _ = _
    rw [h1]
    show Except.ok (_, pc + 2 - pc) = _
    rw [Nat.add_sub_cancel_left]
    rfl
  | istore x =>
    cases h
    have h0 := mz_u1 (p := pc) (hb 0 _ rfl)
    have h1 := mz_u1 (hb 1 _ rfl)
    unfold decode Reader.runAt Decoder.instr
    show Except.bind (Except.bind ((Reader.u1 : Reader DecodeError Nat) code pc) _) _ = _
    rw [h0]
    show Except.bind (Except.bind ((Reader.u1 : Reader DecodeError Nat) code (pc + 1)) _) _ = _
    rw [h1]
    show Except.ok (_, pc + 2 - pc) = _
    rw [Nat.add_sub_cancel_left]
    rfl
  | astore x =>
    cases h
    have h0 := mz_u1 (p := pc) (hb 0 _ rfl)
    have h1 := mz_u1 (hb 1 _ rfl)
    unfold decode Reader.runAt Decoder.instr
    show Except.bind (Except.bind ((Reader.u1 : Reader DecodeError Nat) code pc) _) _ = _
    rw [h0]
    show Except.bind (Except.bind ((Reader.u1 : Reader DecodeError Nat) code (pc + 1)) _) _ = _
    rw [h1]
    show Except.ok (_, pc + 2 - pc) = _
    rw [Nat.add_sub_cancel_left]
    rfl
  | bipush o =>
    obtain ⟨hg, h⟩ := mz_cond h
    have hg := of_decide_eq_true hg
    cases h
    have h0 := mz_u1 (p := pc) (hb 0 _ rfl)
    have h1 := mz_u1 (hb 1 _ rfl)
    unfold decode Reader.runAt Decoder.instr
    show Except.bind (Except.bind ((Reader.u1 : Reader DecodeError Nat) code pc) _) _ = _
    rw [h0]
    show Except.bind (Except.bind (Except.bind ((Reader.u1 : Reader DecodeError Nat) code (pc + 1)) _) _) _ = _
    rw [h1]
    show Except.ok (Instr.bipush (Reader.signed 8 (o % 256).toNat), pc + 2 - pc) = _
    rw [Nat.add_sub_cancel_left, hg]
    rfl
  | ldc_w x =>
    cases h
    have h0 := mz_u1 (p := pc) (hb 0 _ rfl)
    have h1 := mz_u1 (hb 1 _ rfl)
    have h2 := mz_u1 (hb 2 _ rfl)
    unfold decode Reader.runAt Decoder.instr
    show Except.bind (Except.bind ((Reader.u1 : Reader DecodeError Nat) code pc) _) _ = _
    rw [h0]
    show Except.bind (Except.bind (Except.bind ((Reader.u1 : Reader DecodeError Nat) code (pc + 1)) _) _) _ = _
    rw [h1]
    show Except.bind (Except.bind (Except.bind ((Reader.u1 : Reader DecodeError Nat) code (pc + 2)) _) _) _ = _
    rw [h2]
    show Except.ok (Instr.ldc_w (x / 256 * 256 + x % 256), pc + 3 - pc) = _
    rw [Nat.add_sub_cancel_left, Nat.div_add_mod']
    rfl
  | ldc2_w x =>
    cases h
    have h0 := mz_u1 (p := pc) (hb 0 _ rfl)
    have h1 := mz_u1 (hb 1 _ rfl)
    have h2 := mz_u1 (hb 2 _ rfl)
    unfold decode Reader.runAt Decoder.instr
    show Except.bind (Except.bind ((Reader.u1 : Reader DecodeError Nat) code pc) _) _ = _
    rw [h0]
    show Except.bind (Except.bind (Except.bind ((Reader.u1 : Reader DecodeError Nat) code (pc + 1)) _) _) _ = _
    rw [h1]
    show Except.bind (Except.bind (Except.bind ((Reader.u1 : Reader DecodeError Nat) code (pc + 2)) _) _) _ = _
    rw [h2]
    show Except.ok (Instr.ldc2_w (x / 256 * 256 + x % 256), pc + 3 - pc) = _
    rw [Nat.add_sub_cancel_left, Nat.div_add_mod']
    rfl
  | getstatic x =>
    cases h
    have h0 := mz_u1 (p := pc) (hb 0 _ rfl)
    have h1 := mz_u1 (hb 1 _ rfl)
    have h2 := mz_u1 (hb 2 _ rfl)
    unfold decode Reader.runAt Decoder.instr
    show Except.bind (Except.bind ((Reader.u1 : Reader DecodeError Nat) code pc) _) _ = _
    rw [h0]
    show Except.bind (Except.bind (Except.bind ((Reader.u1 : Reader DecodeError Nat) code (pc + 1)) _) _) _ = _
    rw [h1]
    show Except.bind (Except.bind (Except.bind ((Reader.u1 : Reader DecodeError Nat) code (pc + 2)) _) _) _ = _
    rw [h2]
    show Except.ok (Instr.getstatic (x / 256 * 256 + x % 256), pc + 3 - pc) = _
    rw [Nat.add_sub_cancel_left, Nat.div_add_mod']
    rfl
  | getfield x =>
    cases h
    have h0 := mz_u1 (p := pc) (hb 0 _ rfl)
    have h1 := mz_u1 (hb 1 _ rfl)
    have h2 := mz_u1 (hb 2 _ rfl)
    unfold decode Reader.runAt Decoder.instr
    show Except.bind (Except.bind ((Reader.u1 : Reader DecodeError Nat) code pc) _) _ = _
    rw [h0]
    show Except.bind (Except.bind (Except.bind ((Reader.u1 : Reader DecodeError Nat) code (pc + 1)) _) _) _ = _
    rw [h1]
    show Except.bind (Except.bind (Except.bind ((Reader.u1 : Reader DecodeError Nat) code (pc + 2)) _) _) _ = _
    rw [h2]
    show Except.ok (Instr.getfield (x / 256 * 256 + x % 256), pc + 3 - pc) = _
    rw [Nat.add_sub_cancel_left, Nat.div_add_mod']
    rfl
  | putfield x =>
    cases h
    have h0 := mz_u1 (p := pc) (hb 0 _ rfl)
    have h1 := mz_u1 (hb 1 _ rfl)
    have h2 := mz_u1 (hb 2 _ rfl)
    unfold decode Reader.runAt Decoder.instr
    show Except.bind (Except.bind ((Reader.u1 : Reader DecodeError Nat) code pc) _) _ = _
    rw [h0]
    show Except.bind (Except.bind (Except.bind ((Reader.u1 : Reader DecodeError Nat) code (pc + 1)) _) _) _ = _
    rw [h1]
    show Except.bind (Except.bind (Except.bind ((Reader.u1 : Reader DecodeError Nat) code (pc + 2)) _) _) _ = _
    rw [h2]
    show Except.ok (Instr.putfield (x / 256 * 256 + x % 256), pc + 3 - pc) = _
    rw [Nat.add_sub_cancel_left, Nat.div_add_mod']
    rfl
  | invokevirtual x =>
    cases h
    have h0 := mz_u1 (p := pc) (hb 0 _ rfl)
    have h1 := mz_u1 (hb 1 _ rfl)
    have h2 := mz_u1 (hb 2 _ rfl)
    unfold decode Reader.runAt Decoder.instr
    show Except.bind (Except.bind ((Reader.u1 : Reader DecodeError Nat) code pc) _) _ = _
    rw [h0]
    show Except.bind (Except.bind (Except.bind ((Reader.u1 : Reader DecodeError Nat) code (pc + 1)) _) _) _ = _
    rw [h1]
    show Except.bind (Except.bind (Except.bind ((Reader.u1 : Reader DecodeError Nat) code (pc + 2)) _) _) _ = _
    rw [h2]
    show Except.ok (Instr.invokevirtual (x / 256 * 256 + x % 256), pc + 3 - pc) = _
    rw [Nat.add_sub_cancel_left, Nat.div_add_mod']
    rfl
  | invokespecial x =>
    cases h
    have h0 := mz_u1 (p := pc) (hb 0 _ rfl)
    have h1 := mz_u1 (hb 1 _ rfl)
    have h2 := mz_u1 (hb 2 _ rfl)
    unfold decode Reader.runAt Decoder.instr
    show Except.bind (Except.bind ((Reader.u1 : Reader DecodeError Nat) code pc) _) _ = _
    rw [h0]
    show Except.bind (Except.bind (Except.bind ((Reader.u1 : Reader DecodeError Nat) code (pc + 1)) _) _) _ = _
    rw [h1]
    show Except.bind (Except.bind (Except.bind ((Reader.u1 : Reader DecodeError Nat) code (pc + 2)) _) _) _ = _
    rw [h2]
    show Except.ok (Instr.invokespecial (x / 256 * 256 + x % 256), pc + 3 - pc) = _
    rw [Nat.add_sub_cancel_left, Nat.div_add_mod']
    rfl
  | invokestatic x =>
    cases h
    have h0 := mz_u1 (p := pc) (hb 0 _ rfl)
    have h1 := mz_u1 (hb 1 _ rfl)
    have h2 := mz_u1 (hb 2 _ rfl)
    unfold decode Reader.runAt Decoder.instr
    show Except.bind (Except.bind ((Reader.u1 : Reader DecodeError Nat) code pc) _) _ = _
    rw [h0]
    show Except.bind (Except.bind (Except.bind ((Reader.u1 : Reader DecodeError Nat) code (pc + 1)) _) _) _ = _
    rw [h1]
    show Except.bind (Except.bind (Except.bind ((Reader.u1 : Reader DecodeError Nat) code (pc + 2)) _) _) _ = _
    rw [h2]
    show Except.ok (Instr.invokestatic (x / 256 * 256 + x % 256), pc + 3 - pc) = _
    rw [Nat.add_sub_cancel_left, Nat.div_add_mod']
    rfl
  | new x =>
    cases h
    have h0 := mz_u1 (p := pc) (hb 0 _ rfl)
    have h1 := mz_u1 (hb 1 _ rfl)
    have h2 := mz_u1 (hb 2 _ rfl)
    unfold decode Reader.runAt Decoder.instr
    show Except.bind (Except.bind ((Reader.u1 : Reader DecodeError Nat) code pc) _) _ = _
    rw [h0]
    show Except.bind (Except.bind (Except.bind ((Reader.u1 : Reader DecodeError Nat) code (pc + 1)) _) _) _ = _
    rw [h1]
    show Except.bind (Except.bind (Except.bind ((Reader.u1 : Reader DecodeError Nat) code (pc + 2)) _) _) _ = _
    rw [h2]
    show Except.ok (Instr.new (x / 256 * 256 + x % 256), pc + 3 - pc) = _
    rw [Nat.add_sub_cancel_left, Nat.div_add_mod']
    rfl
  | checkcast x =>
    cases h
    have h0 := mz_u1 (p := pc) (hb 0 _ rfl)
    have h1 := mz_u1 (hb 1 _ rfl)
    have h2 := mz_u1 (hb 2 _ rfl)
    unfold decode Reader.runAt Decoder.instr
    show Except.bind (Except.bind ((Reader.u1 : Reader DecodeError Nat) code pc) _) _ = _
    rw [h0]
    show Except.bind (Except.bind (Except.bind ((Reader.u1 : Reader DecodeError Nat) code (pc + 1)) _) _) _ = _
    rw [h1]
    show Except.bind (Except.bind (Except.bind ((Reader.u1 : Reader DecodeError Nat) code (pc + 2)) _) _) _ = _
    rw [h2]
    show Except.ok (Instr.checkcast (x / 256 * 256 + x % 256), pc + 3 - pc) = _
    rw [Nat.add_sub_cancel_left, Nat.div_add_mod']
    rfl
  | sipush o =>
    obtain ⟨hg, h⟩ := mz_cond h
    have hg := of_decide_eq_true hg
    cases h
    have h0 := mz_u1 (p := pc) (hb 0 _ rfl)
    have h1 := mz_u1 (hb 1 _ rfl)
    have h2 := mz_u1 (hb 2 _ rfl)
    unfold decode Reader.runAt Decoder.instr
    show Except.bind (Except.bind ((Reader.u1 : Reader DecodeError Nat) code pc) _) _ = _
    rw [h0]
    show Except.bind (Except.bind (Except.bind (Except.bind ((Reader.u1 : Reader DecodeError Nat) code (pc + 1)) _) _) _) _ = _
    rw [h1]
    show Except.bind (Except.bind (Except.bind (Except.bind ((Reader.u1 : Reader DecodeError Nat) code (pc + 2)) _) _) _) _ = _
    rw [h2]
    show Except.ok (Instr.sipush (Reader.signed 16 (mz_sn o / 256 * 256 + mz_sn o % 256)), pc + 3 - pc) = _
    rw [Nat.add_sub_cancel_left, Nat.div_add_mod', hg]
    rfl
  | goto o =>
    obtain ⟨hg, h⟩ := mz_cond h
    have hg := of_decide_eq_true hg
    cases h
    have h0 := mz_u1 (p := pc) (hb 0 _ rfl)
    have h1 := mz_u1 (hb 1 _ rfl)
    have h2 := mz_u1 (hb 2 _ rfl)
    unfold decode Reader.runAt Decoder.instr
    show Except.bind (Except.bind ((Reader.u1 : Reader DecodeError Nat) code pc) _) _ = _
    rw [h0]
    show Except.bind (Except.bind (Except.bind (Except.bind ((Reader.u1 : Reader DecodeError Nat) code (pc + 1)) _) _) _) _ = _
    rw [h1]
    show Except.bind (Except.bind (Except.bind (Except.bind ((Reader.u1 : Reader DecodeError Nat) code (pc + 2)) _) _) _) _ = _
    rw [h2]
    show Except.ok (Instr.goto (Reader.signed 16 (mz_sn o / 256 * 256 + mz_sn o % 256)), pc + 3 - pc) = _
    rw [Nat.add_sub_cancel_left, Nat.div_add_mod', hg]
    rfl
  | ifCond b o =>
    cases b with
    | eq =>
      obtain ⟨hg, h⟩ := mz_cond h
      have hg := of_decide_eq_true hg
      cases h
      have h0 := mz_u1 (p := pc) (hb 0 _ rfl)
      have h1 := mz_u1 (hb 1 _ rfl)
      have h2 := mz_u1 (hb 2 _ rfl)
      unfold decode Reader.runAt Decoder.instr
      show Except.bind (Except.bind ((Reader.u1 : Reader DecodeError Nat) code pc) _) _ = _
      rw [h0]
      show Except.bind (Except.bind (Except.bind (Except.bind ((Reader.u1 : Reader DecodeError Nat) code (pc + 1)) _) _) _) _ = _
      rw [h1]
      show Except.bind (Except.bind (Except.bind (Except.bind ((Reader.u1 : Reader DecodeError Nat) code (pc + 2)) _) _) _) _ = _
      rw [h2]
      show Except.ok (Instr.ifCond .eq (Reader.signed 16 (mz_sn o / 256 * 256 + mz_sn o % 256)), pc + 3 - pc) = _
      rw [Nat.add_sub_cancel_left, Nat.div_add_mod', hg]
      rfl
    | ne =>
      obtain ⟨hg, h⟩ := mz_cond h
      have hg := of_decide_eq_true hg
      cases h
      have h0 := mz_u1 (p := pc) (hb 0 _ rfl)
      have h1 := mz_u1 (hb 1 _ rfl)
      have h2 := mz_u1 (hb 2 _ rfl)
      unfold decode Reader.runAt Decoder.instr
      show Except.bind (Except.bind ((Reader.u1 : Reader DecodeError Nat) code pc) _) _ = _
      rw [h0]
      show Except.bind (Except.bind (Except.bind (Except.bind ((Reader.u1 : Reader DecodeError Nat) code (pc + 1)) _) _) _) _ = _
      rw [h1]
      show Except.bind (Except.bind (Except.bind (Except.bind ((Reader.u1 : Reader DecodeError Nat) code (pc + 2)) _) _) _) _ = _
      rw [h2]
      show Except.ok (Instr.ifCond .ne (Reader.signed 16 (mz_sn o / 256 * 256 + mz_sn o % 256)), pc + 3 - pc) = _
      rw [Nat.add_sub_cancel_left, Nat.div_add_mod', hg]
      rfl
    | lt =>
      obtain ⟨hg, h⟩ := mz_cond h
      have hg := of_decide_eq_true hg
      cases h
      have h0 := mz_u1 (p := pc) (hb 0 _ rfl)
      have h1 := mz_u1 (hb 1 _ rfl)
      have h2 := mz_u1 (hb 2 _ rfl)
      unfold decode Reader.runAt Decoder.instr
      show Except.bind (Except.bind ((Reader.u1 : Reader DecodeError Nat) code pc) _) _ = _
      rw [h0]
      show Except.bind (Except.bind (Except.bind (Except.bind ((Reader.u1 : Reader DecodeError Nat) code (pc + 1)) _) _) _) _ = _
      rw [h1]
      show Except.bind (Except.bind (Except.bind (Except.bind ((Reader.u1 : Reader DecodeError Nat) code (pc + 2)) _) _) _) _ = _
      rw [h2]
      show Except.ok (Instr.ifCond .lt (Reader.signed 16 (mz_sn o / 256 * 256 + mz_sn o % 256)), pc + 3 - pc) = _
      rw [Nat.add_sub_cancel_left, Nat.div_add_mod', hg]
      rfl
    | ge =>
      obtain ⟨hg, h⟩ := mz_cond h
      have hg := of_decide_eq_true hg
      cases h
      have h0 := mz_u1 (p := pc) (hb 0 _ rfl)
      have h1 := mz_u1 (hb 1 _ rfl)
      have h2 := mz_u1 (hb 2 _ rfl)
      unfold decode Reader.runAt Decoder.instr
      show Except.bind (Except.bind ((Reader.u1 : Reader DecodeError Nat) code pc) _) _ = _
      rw [h0]
      show Except.bind (Except.bind (Except.bind (Except.bind ((Reader.u1 : Reader DecodeError Nat) code (pc + 1)) _) _) _) _ = _
      rw [h1]
      show Except.bind (Except.bind (Except.bind (Except.bind ((Reader.u1 : Reader DecodeError Nat) code (pc + 2)) _) _) _) _ = _
      rw [h2]
      show Except.ok (Instr.ifCond .ge (Reader.signed 16 (mz_sn o / 256 * 256 + mz_sn o % 256)), pc + 3 - pc) = _
      rw [Nat.add_sub_cancel_left, Nat.div_add_mod', hg]
      rfl
    | gt =>
      obtain ⟨hg, h⟩ := mz_cond h
      have hg := of_decide_eq_true hg
      cases h
      have h0 := mz_u1 (p := pc) (hb 0 _ rfl)
      have h1 := mz_u1 (hb 1 _ rfl)
      have h2 := mz_u1 (hb 2 _ rfl)
      unfold decode Reader.runAt Decoder.instr
      show Except.bind (Except.bind ((Reader.u1 : Reader DecodeError Nat) code pc) _) _ = _
      rw [h0]
      show Except.bind (Except.bind (Except.bind (Except.bind ((Reader.u1 : Reader DecodeError Nat) code (pc + 1)) _) _) _) _ = _
      rw [h1]
      show Except.bind (Except.bind (Except.bind (Except.bind ((Reader.u1 : Reader DecodeError Nat) code (pc + 2)) _) _) _) _ = _
      rw [h2]
      show Except.ok (Instr.ifCond .gt (Reader.signed 16 (mz_sn o / 256 * 256 + mz_sn o % 256)), pc + 3 - pc) = _
      rw [Nat.add_sub_cancel_left, Nat.div_add_mod', hg]
      rfl
    | le =>
      obtain ⟨hg, h⟩ := mz_cond h
      have hg := of_decide_eq_true hg
      cases h
      have h0 := mz_u1 (p := pc) (hb 0 _ rfl)
      have h1 := mz_u1 (hb 1 _ rfl)
      have h2 := mz_u1 (hb 2 _ rfl)
      unfold decode Reader.runAt Decoder.instr
      show Except.bind (Except.bind ((Reader.u1 : Reader DecodeError Nat) code pc) _) _ = _
      rw [h0]
      show Except.bind (Except.bind (Except.bind (Except.bind ((Reader.u1 : Reader DecodeError Nat) code (pc + 1)) _) _) _) _ = _
      rw [h1]
      show Except.bind (Except.bind (Except.bind (Except.bind ((Reader.u1 : Reader DecodeError Nat) code (pc + 2)) _) _) _) _ = _
      rw [h2]
      show Except.ok (Instr.ifCond .le (Reader.signed 16 (mz_sn o / 256 * 256 + mz_sn o % 256)), pc + 3 - pc) = _
      rw [Nat.add_sub_cancel_left, Nat.div_add_mod', hg]
      rfl
  | if_icmp b o =>
    cases b with
    | eq =>
      obtain ⟨hg, h⟩ := mz_cond h
      have hg := of_decide_eq_true hg
      cases h
      have h0 := mz_u1 (p := pc) (hb 0 _ rfl)
      have h1 := mz_u1 (hb 1 _ rfl)
      have h2 := mz_u1 (hb 2 _ rfl)
      unfold decode Reader.runAt Decoder.instr
      show Except.bind (Except.bind ((Reader.u1 : Reader DecodeError Nat) code pc) _) _ = _
      rw [h0]
      show Except.bind (Except.bind (Except.bind (Except.bind ((Reader.u1 : Reader DecodeError Nat) code (pc + 1)) _) _) _) _ = _
      rw [h1]
      show Except.bind (Except.bind (Except.bind (Except.bind ((Reader.u1 : Reader DecodeError Nat) code (pc + 2)) _) _) _) _ = _
      rw [h2]
      show Except.ok (Instr.if_icmp .eq (Reader.signed 16 (mz_sn o / 256 * 256 + mz_sn o % 256)), pc + 3 - pc) = _
      rw [Nat.add_sub_cancel_left, Nat.div_add_mod', hg]
      rfl
    | ne =>
      obtain ⟨hg, h⟩ := mz_cond h
      have hg := of_decide_eq_true hg
      cases h
      have h0 := mz_u1 (p := pc) (hb 0 _ rfl)
      have h1 := mz_u1 (hb 1 _ rfl)
      have h2 := mz_u1 (hb 2 _ rfl)
      unfold decode Reader.runAt Decoder.instr
      show Except.bind (Except.bind ((Reader.u1 : Reader DecodeError Nat) code pc) _) _ = _
      rw [h0]
      show Except.bind (Except.bind (Except.bind (Except.bind ((Reader.u1 : Reader DecodeError Nat) code (pc + 1)) _) _) _) _ = _
      rw [h1]
      show Except.bind (Except.bind (Except.bind (Except.bind ((Reader.u1 : Reader DecodeError Nat) code (pc + 2)) _) _) _) _ = _
      rw [h2]
      show Except.ok (Instr.if_icmp .ne (Reader.signed 16 (mz_sn o / 256 * 256 + mz_sn o % 256)), pc + 3 - pc) = _
      rw [Nat.add_sub_cancel_left, Nat.div_add_mod', hg]
      rfl
    | lt =>
      obtain ⟨hg, h⟩ := mz_cond h
      have hg := of_decide_eq_true hg
      cases h
      have h0 := mz_u1 (p := pc) (hb 0 _ rfl)
      have h1 := mz_u1 (hb 1 _ rfl)
      have h2 := mz_u1 (hb 2 _ rfl)
      unfold decode Reader.runAt Decoder.instr
      show Except.bind (Except.bind ((Reader.u1 : Reader DecodeError Nat) code pc) _) _ = _
      rw [h0]
      show Except.bind (Except.bind (Except.bind (Except.bind ((Reader.u1 : Reader DecodeError Nat) code (pc + 1)) _) _) _) _ = _
      rw [h1]
      show Except.bind (Except.bind (Except.bind (Except.bind ((Reader.u1 : Reader DecodeError Nat) code (pc + 2)) _) _) _) _ = _
      rw [h2]
      show Except.ok (Instr.if_icmp .lt (Reader.signed 16 (mz_sn o / 256 * 256 + mz_sn o % 256)), pc + 3 - pc) = _
      rw [Nat.add_sub_cancel_left, Nat.div_add_mod', hg]
      rfl
    | ge =>
      obtain ⟨hg, h⟩ := mz_cond h
      have hg := of_decide_eq_true hg
      cases h
      have h0 := mz_u1 (p := pc) (hb 0 _ rfl)
      have h1 := mz_u1 (hb 1 _ rfl)
      have h2 := mz_u1 (hb 2 _ rfl)
      unfold decode Reader.runAt Decoder.instr
      show Except.bind (Except.bind ((Reader.u1 : Reader DecodeError Nat) code pc) _) _ = _
      rw [h0]
      show Except.bind (Except.bind (Except.bind (Except.bind ((Reader.u1 : Reader DecodeError Nat) code (pc + 1)) _) _) _) _ = _
      rw [h1]
      show Except.bind (Except.bind (Except.bind (Except.bind ((Reader.u1 : Reader DecodeError Nat) code (pc + 2)) _) _) _) _ = _
      rw [h2]
      show Except.ok (Instr.if_icmp .ge (Reader.signed 16 (mz_sn o / 256 * 256 + mz_sn o % 256)), pc + 3 - pc) = _
      rw [Nat.add_sub_cancel_left, Nat.div_add_mod', hg]
      rfl
    | gt =>
      obtain ⟨hg, h⟩ := mz_cond h
      have hg := of_decide_eq_true hg
      cases h
      have h0 := mz_u1 (p := pc) (hb 0 _ rfl)
      have h1 := mz_u1 (hb 1 _ rfl)
      have h2 := mz_u1 (hb 2 _ rfl)
      unfold decode Reader.runAt Decoder.instr
      show Except.bind (Except.bind ((Reader.u1 : Reader DecodeError Nat) code pc) _) _ = _
      rw [h0]
      show Except.bind (Except.bind (Except.bind (Except.bind ((Reader.u1 : Reader DecodeError Nat) code (pc + 1)) _) _) _) _ = _
      rw [h1]
      show Except.bind (Except.bind (Except.bind (Except.bind ((Reader.u1 : Reader DecodeError Nat) code (pc + 2)) _) _) _) _ = _
      rw [h2]
      show Except.ok (Instr.if_icmp .gt (Reader.signed 16 (mz_sn o / 256 * 256 + mz_sn o % 256)), pc + 3 - pc) = _
      rw [Nat.add_sub_cancel_left, Nat.div_add_mod', hg]
      rfl
    | le =>
      obtain ⟨hg, h⟩ := mz_cond h
      have hg := of_decide_eq_true hg
      cases h
      have h0 := mz_u1 (p := pc) (hb 0 _ rfl)
      have h1 := mz_u1 (hb 1 _ rfl)
      have h2 := mz_u1 (hb 2 _ rfl)
      unfold decode Reader.runAt Decoder.instr
      show Except.bind (Except.bind ((Reader.u1 : Reader DecodeError Nat) code pc) _) _ = _
      rw [h0]
      show Except.bind (Except.bind (Except.bind (Except.bind ((Reader.u1 : Reader DecodeError Nat) code (pc + 1)) _) _) _) _ = _
      rw [h1]
      show Except.bind (Except.bind (Except.bind (Except.bind ((Reader.u1 : Reader DecodeError Nat) code (pc + 2)) _) _) _) _ = _
      rw [h2]
      show Except.ok (Instr.if_icmp .le (Reader.signed 16 (mz_sn o / 256 * 256 + mz_sn o % 256)), pc + 3 - pc) = _
      rw [Nat.add_sub_cancel_left, Nat.div_add_mod', hg]
      rfl
  | iinc x o =>
    obtain ⟨hg, h⟩ := mz_cond h
    have hg := of_decide_eq_true hg
    cases h
    have h0 := mz_u1 (p := pc) (hb 0 _ rfl)
    have h1 := mz_u1 (hb 1 _ rfl)
    have h2 := mz_u1 (hb 2 _ rfl)
    unfold decode Reader.runAt Decoder.instr
    show Except.bind (Except.bind ((Reader.u1 : Reader DecodeError Nat) code pc) _) _ = _
    rw [h0]
    show Except.bind (Except.bind ((Reader.u1 : Reader DecodeError Nat) code (pc + 1)) _) _ = _
    rw [h1]
    show Except.bind (Except.bind (Except.bind ((Reader.u1 : Reader DecodeError Nat) code (pc + 2)) _) _) _ = _
    rw [h2]
    show Except.ok (Instr.iinc x (Reader.signed 8 (o % 256).toNat), pc + 3 - pc) = _
    rw [Nat.add_sub_cancel_left, hg]
    rfl
  | _ => cases h

def mz_pfx : List Nat → List Nat → Option (List Nat)
  | [], r => some r
  | a :: l, b :: r => cond (a == b) (mz_pfx l r) none
  | _ :: _, [] => none
theorem mz_pre_ok : ∀ {l bs r : List Nat}, mz_pfx l bs = some r → bs = l ++ r
  | [], bs, r, h => by cases h; rfl
  | a :: l, [], r, h => by cases h
  | a :: l, b :: bs, r, h => by
    unfold mz_pfx at h
    obtain ⟨h1, h2⟩ := mz_cond h
    have h3 : a = b := by simpa using h1
    rw [h3, mz_pre_ok h2]
    rfl
/-- the instructions stand one behind the other, and the bytes are theirs -/
def mz_wk (code : ByteArray) : mz_K → Nat → List Nat → Bool
  | [], _, bs => bs.isEmpty
  | q :: r, pc, bs => q.1 == pc && match mz_enc q.2.1 with
    | some l => q.2.2.1 == l.length && match mz_pfx l bs with
      | some bs' => mz_wk code r (pc + l.length) bs'
      | none => false
    | none => decide (decode code q.1 = .ok (q.2.1, q.2.2.1)) && mz_wk code r (pc + q.2.2.1) (bs.drop q.2.2.1)
theorem mz_wk_ok {code : ByteArray} : ∀ {K : mz_K} {pc : Nat} {bs : List Nat}, (∀ (i v : Nat), bs[i]? = some v → mz_b code (pc + i) = some v) → mz_wk code K pc bs = true → ∀ q ∈ K, decode code q.1 = .ok (q.2.1, q.2.2.1) := by
  intro K
  induction K with
  | nil =>
    intro pc bs hb h q hq
    cases hq
  | cons a K ih =>
    intro pc bs hb h q hq
    unfold mz_wk at h
    rw [Bool.and_eq_true] at h
    have hpc : a.1 = pc := by simpa using h.1
    have h2 := h.2
    split at h2
    · rename_i l hl
      rw [Bool.and_eq_true] at h2
      have hlen : a.2.2.1 = l.length := by simpa using h2.1
      have h3 := h2.2
      split at h3
      · rename_i bs' hp
        have hbs := mz_pre_ok hp
        subst hbs
        rcases List.mem_cons.mp hq with rfl | hq
        · rw [hlen]
          exact mz_enc_ok hl (fun i v hv => by
            rw [hpc]
            exact hb i v (by rw [List.getElem?_append_left (List.getElem?_eq_some_iff.mp hv).1]; exact hv))
        · exact ih (fun i v hv => by
            rw [Nat.add_assoc]
            exact hb (l.length + i) v (by rw [List.getElem?_append_right (Nat.le_add_right _ _), Nat.add_sub_cancel_left]; exact hv)) h3 q hq
      · cases h3
    · rw [Bool.and_eq_true] at h2
      rcases List.mem_cons.mp hq with rfl | hq
      · exact of_decide_eq_true h2.1
      · exact ih (fun i v hv => by
          rw [Nat.add_assoc]
          exact hb (a.2.2.1 + i) v (by rw [← List.getElem?_drop]; exact hv)) h2.2 q hq
def mz_bs (code : ByteArray) : List Nat := code.data.toList.map (fun v => v.toNat)
theorem mz_bs_ok {code : ByteArray} (i v : Nat) (h : (mz_bs code)[i]? = some v) : mz_b code (0 + i) = some v := by
  rw [Nat.zero_add]
  unfold mz_bs at h
  rw [List.getElem?_map] at h
  unfold mz_b
  cases hx : code.data.toList[i]? with
  | none => rw [hx] at h; cases h
  | some z =>
    rw [hx] at h
    cases h
    have hlt : i < code.size := by
      have h0 := (List.getElem?_eq_some_iff.mp hx).1
      rw [Array.length_toList] at h0
      exact h0
    rw [dif_pos hlt]
    have hz : code[i] = z := by
      have h2 := (List.getElem?_eq_some_iff.mp hx).2
      rw [← h2]
      rfl
    rw [hz]
theorem mz_dec_ok {code : ByteArray} {K : mz_K} (h : mz_wk code K 0 (mz_bs code) = true) : ∀ q ∈ K, decode code q.1 = .ok (q.2.1, q.2.2.1) := mz_wk_ok mz_bs_ok h
