
/-! MAKING: the constructors, over a memory whose cells come one by one. A state: place, locals, stack, how many cells, which references are set, memory -/
abbrev zz_C : Type := Nat × List (Option Value) × List Value × Nat × (Nat → Nat → Bool) × mz_M
/-- a constructor: name, bytes, locals, how many values it takes, its instructions, its end -/
abbrev zz_R : Type := MethodName × ByteArray × Nat × Nat × mz_K × Nat
def mz_set0 (m : mz_M) (i : Nat) (f : Nat → Int32) : mz_M := fun a b => cond (a == i) (f b) (m a b)
def zz_un (z : Nat → Nat → Bool) (n : Nat) : Nat → Nat → Bool := fun i k => cond (i == n) false (z i k)
def zz_on (z : Nat → Nat → Bool) (i k : Nat) : Nat → Nat → Bool := fun a b => cond (a == i && b == k) true (z a b)
def zz_get (S0 : mz_Sh) (z : Nat → Nat → Bool) (m : mz_M) (n ci k i : Nat) : Option Value := cond (decide (i < n)) (match S0[i]? with
  | some (.inr (c, fs)) => cond (c == ci) (match fs[k]? with
    | some 0 => some (.int (m i k))
    | some (r + 3) => cond (z i k) (some (.ref r)) none
    | _ => none) none
  | _ => none) none
def zz_put (S0 : mz_Sh) (z : Nat → Nat → Bool) (m : mz_M) (n ci k i : Nat) (v : Value) : Option ((Nat → Nat → Bool) × mz_M) := cond (decide (i < n)) (match S0[i]? with
  | some (.inr (c, fs)) => cond (c == ci) (match fs[k]?, v with
    | some 0, .int x => some (z, mz_up m i k x)
    | some 1, .int x => cond (x == 0 || x == 1) (some (z, mz_up m i k x)) none
    | some 2, .ref r => cond (mz_isT r) (some (zz_on z i k, mz_up m i k (Int32.ofNat r))) none
    | some (a + 3), .ref r => cond (a == r) (some (zz_on z i k, m)) none
    | _, _ => none) none
  | _ => none) none
def zz_step (S0 : mz_Sh) (T0 : List (List Int32)) (ins : Instr) (f : mz_I) (pc : Nat) (L : List (Option Value)) (S : List Value) (n : Nat) (z : Nat → Nat → Bool) (m : mz_M) : Option (zz_C ⊕ Nat) := match ins with
  | .iconst _ => match mz_cv f with
    | some v => some (.inl (pc + 1, L, v :: S, n, z, m))
    | none => none
  | .bipush _ => match mz_cv f with
    | some v => some (.inl (pc + 2, L, v :: S, n, z, m))
    | none => none
  | .sipush _ => match mz_cv f with
    | some v => some (.inl (pc + 3, L, v :: S, n, z, m))
    | none => none
  | .ldc _ => match mz_cv f with
    | some (.ref a) => some (.inl (pc + 2, L, .ref a :: S, n, z, m))
    | _ => none
  | .aload_n k => match mz_ld L k.val with
    | some (.ref x) => some (.inl (pc + 1, L, .ref x :: S, n, z, m))
    | _ => none
  | .astore_n k => match S with
    | .ref x :: S => cond (decide (k.val < L.length)) (some (.inl (pc + 1, mz_st L k.val (.ref x), S, n, z, m))) none
    | _ => none
  | .istore_n k => match S with
    | .int x :: S => cond (decide (k.val < L.length)) (some (.inl (pc + 1, mz_st L k.val (.int x), S, n, z, m))) none
    | _ => none
  | .dup => match S with
    | .ref v :: S => some (.inl (pc + 1, L, .ref v :: .ref v :: S, n, z, m))
    | _ => none
  | .getfield _ => match S with
    | .ref i :: S => match zz_get S0 z m n f.2.1 f.2.2.1 i with
      | some v => some (.inl (pc + 3, L, v :: S, n, z, m))
      | none => none
    | _ => none
  | .putfield _ => match S with
    | v :: .ref i :: S => match zz_put S0 z m n f.2.1 f.2.2.1 i v with
      | some q => some (.inl (pc + 3, L, S, n, q.1, q.2))
      | none => none
    | _ => none
  | .getstatic _ => some (.inl (pc + 3, L, .ref (1000 + f.2.1) :: S, n, z, m))
  | .iastore => match S with
    | .int x :: .int j :: .ref i :: S => cond (decide (i < n)) (match S0[i]? with
      | some (.inl k) => cond (mz_in j k) (some (.inl (pc + 1, L, S, n, z, mz_up m i j.toNatClampNeg x))) none
      | _ => none) none
    | _ => none
  | .new _ => match S0[n]? with
    | some (.inr (c, _)) => cond (c == f.2.1) (some (.inl (pc + 3, L, .ref n :: S, n + 1, zz_un z n, mz_set0 m n (fun _ => 0)))) none
    | _ => none
  | .newarray .int => match S with
    | .int j :: S => match S0[n]? with
      | some (.inl k) => cond (j == Int32.ofNat k && decide (k < 100000)) (some (.inl (pc + 2, L, .ref n :: S, n + 1, z, mz_set0 m n (fun _ => 0)))) none
      | _ => none
    | _ => none
  | .invokevirtual _ => cond (f.1 == 34) (match S with
    | .ref 1004 :: S => match S0[n]?, T0[4]? with
      | some (.inl k), some t => cond (k == t.length && decide (mz_cat S ≤ 8)) (some (.inl (pc + 3, L, .ref n :: S, n + 1, z, mz_set0 m n (fun j => t.getD j 0)))) none
      | _, _ => none
    | _ => none) none
  | .checkcast _ => match S with
    | .ref i :: S => cond (decide (i < n)) (match S0[i]? with
      | some (.inl _) => some (.inl (pc + 3, L, .ref i :: S, n, z, m))
      | _ => none) none
    | _ => none
  | .invokespecial _ => match f.1 with
    | 31 => match S with
      | .ref _ :: S => cond (decide (mz_cat S ≤ 8)) (some (.inl (pc + 3, L, S, n, z, m))) none
      | _ => none
    | 32 => some (.inr f.2.1)
    | 33 => some (.inr f.2.1)
    | _ => none
  | _ => none
def zz_cal (r : zz_R) (S : List Value) : Bool := decide (r.2.2.2.1 ≤ S.length) && decide (mz_cat (S.drop r.2.2.2.1) ≤ 8) && decide (1 ≤ r.2.2.2.1) && (match (S.take r.2.2.2.1).reverse with
  | .ref _ :: _ => true
  | _ => false) && ((mz_ent (S.take r.2.2.2.1).reverse r.2.2.1).length == r.2.2.1)
/-- fuel, depth, the place where to stop -/
def zz_x (S0 : mz_Sh) (T0 : List (List Int32)) (CT : List zz_R) : Nat → Nat → Nat → mz_K → zz_C → Option zz_C
  | 0, _, _, _, _ => none
  | N + 1, d, sp, K, (pc, L, S, n, z, m) => cond (pc == sp) (some (pc, L, S, n, z, m)) (match mz_fetch K pc with
    | none => none
    | some q => match zz_step S0 T0 q.2.1 q.2.2.2 pc L S n z m with
      | none => none
      | some (.inl c) => zz_x S0 T0 CT N d sp K c
      | some (.inr a) => match CT[a]?, d with
        | some r, d + 1 => cond (zz_cal r S) (match zz_x S0 T0 CT N d r.2.2.2.2.2 r.2.2.2.2.1 (0, mz_ent (S.take r.2.2.2.1).reverse r.2.2.1, [], n, z, m) with
          | some (_, _, [], n', z', m') => zz_x S0 T0 CT N (d + 1) sp K (pc + 3, L, S.drop r.2.2.2.1, n', z', m')
          | _ => none) none
        | _, _ => none)
def zz_fv (ad : Nat → Nat) (z : Nat → Nat → Bool) (m : mz_M) (i k f : Nat) : Value := match f with
  | 0 => .int (m i k)
  | 1 => .int (m i k)
  | 2 => cond (z i k) (.ref (ad (m i k).toNatClampNeg)) .null
  | r + 3 => cond (z i k) (.ref (ad r)) .null
def zz_cell (S0 : mz_Sh) (cI : ClassId) (ad : Nat → Nat) (z : Nat → Nat → Bool) (m : mz_M) (i : Nat) : va_E := match S0[i]? with
  | some (.inl n) => .inl (cI, n, .inl (m i))
  | some (.inr (c, fs)) => .inr (c, fs.mapIdx (zz_fv ad z m i))
  | none => .inr (0, [])
def zz_w (S0 : mz_Sh) (cI : ClassId) (ad : Nat → Nat) (z : Nat → Nat → Bool) (m : mz_M) (n : Nat) : va_W := (List.range n).map fun i => (ad i, zz_cell S0 cI ad z m i)
theorem zz_w_len (S0 : mz_Sh) (cI : ClassId) (ad : Nat → Nat) (z : Nat → Nat → Bool) (m : mz_M) (n : Nat) : (zz_w S0 cI ad z m n).length = n := by simp [zz_w]
theorem zz_w_at {S0 : mz_Sh} {cI : ClassId} {ad : Nat → Nat} {z : Nat → Nat → Bool} {m : mz_M} {n i : Nat} (h : i < n) : (zz_w S0 cI ad z m n)[i]? = some (ad i, zz_cell S0 cI ad z m i) := by simp [zz_w, h]
theorem zz_w_in {S0 : mz_Sh} {cI : ClassId} {ad : Nat → Nat} {z : Nat → Nat → Bool} {m : mz_M} {n k : Nat} {q : Nat × va_E} (h : (zz_w S0 cI ad z m n)[k]? = some q) : k < n ∧ q = (ad k, zz_cell S0 cI ad z m k) := by
  have hk : k < n := by
    have := (List.getElem?_eq_some_iff.mp h).1
    rwa [zz_w_len] at this
  rw [zz_w_at hk] at h
  exact ⟨hk, (Option.some.inj h).symm⟩
theorem zz_w_set {S0 : mz_Sh} {cI : ClassId} {ad : Nat → Nat} {z z' : Nat → Nat → Bool} {m m' : mz_M} {n i : Nat} (h : i < n) (e : va_E) (he : zz_cell S0 cI ad z' m' i = e) (ho : ∀ j, j ≠ i → zz_cell S0 cI ad z' m' j = zz_cell S0 cI ad z m j) : (zz_w S0 cI ad z m n).set i (ad i, e) = zz_w S0 cI ad z' m' n := by
  apply List.ext_getElem?
  intro j
  by_cases hj : j < n
  · rw [zz_w_at hj]
    by_cases hij : i = j
    · subst hij
      rw [List.getElem?_set_self (by rw [zz_w_len]; exact h), he]
    · rw [List.getElem?_set_ne hij, zz_w_at hj, ho j (fun q => hij q.symm)]
  · rw [List.getElem?_eq_none (by rw [List.length_set, zz_w_len]; omega), List.getElem?_eq_none (by rw [zz_w_len]; omega)]
theorem zz_w_push {S0 : mz_Sh} {cI : ClassId} {ad : Nat → Nat} {z z' : Nat → Nat → Bool} {m m' : mz_M} {n : Nat} (e : va_E) (he : zz_cell S0 cI ad z' m' n = e) (ho : ∀ j, j ≠ n → zz_cell S0 cI ad z' m' j = zz_cell S0 cI ad z m j) : zz_w S0 cI ad z m n ++ [(ad n, e)] = zz_w S0 cI ad z' m' (n + 1) := by
  unfold zz_w
  rw [List.range_succ, List.map_append]
  congr 1
  · apply List.map_congr_left
    intro j hj
    rw [ho j (by have := List.mem_range.mp hj; omega)]
  · simp [he]
theorem zz_cell_ne {S0 : mz_Sh} {cI : ClassId} {ad : Nat → Nat} {z z' : Nat → Nat → Bool} {m m' : mz_M} {j : Nat} (h : m' j = m j) (hz : z' j = z j) : zz_cell S0 cI ad z' m' j = zz_cell S0 cI ad z m j := by
  have hf : zz_fv ad z' m' j = zz_fv ad z m j := by
    funext k f
    unfold zz_fv
    rw [h, hz]
  unfold zz_cell
  rw [h, hf]
theorem zz_set_ne {m : mz_M} {i j : Nat} {f : Nat → Int32} (h : j ≠ i) : mz_set0 m i f j = m j := by
  funext b
  have h1 : (j == i) = false := by simpa using h
  simp only [mz_set0, h1, cond_false]
theorem zz_set_eq {m : mz_M} {i : Nat} {f : Nat → Int32} : mz_set0 m i f i = f := by
  funext b
  simp [mz_set0]
theorem zz_un_ne {z : Nat → Nat → Bool} {n j : Nat} (h : j ≠ n) : zz_un z n j = z j := by
  funext b
  have h1 : (j == n) = false := by simpa using h
  simp only [zz_un, h1, cond_false]
theorem zz_on_ne {z : Nat → Nat → Bool} {i k j : Nat} (h : j ≠ i) : zz_on z i k j = z j := by
  funext b
  have h1 : (j == i) = false := by simpa using h
  simp only [zz_on, h1, Bool.false_and, cond_false]
def zz_sl (S0 : mz_Sh) (n : Nat) : Nat := ((List.range n).map fun i => match S0[i]? with
  | some (.inl k) => k
  | some (.inr (_, fs)) => fs.length
  | none => 0).sum
theorem zz_sl_succ (S0 : mz_Sh) (n : Nat) : zz_sl S0 (n + 1) = zz_sl S0 n + (match S0[n]? with
  | some (.inl k) => k
  | some (.inr (_, fs)) => fs.length
  | none => 0) := by
  unfold zz_sl
  rw [List.range_succ, List.map_append, List.sum_append]
  simp
theorem zz_sl_mono (S0 : mz_Sh) {a b : Nat} (h : a ≤ b) : zz_sl S0 a ≤ zz_sl S0 b := by
  induction b with
  | zero => rw [show a = 0 by omega]; exact Nat.le_refl _
  | succ b ih =>
    by_cases hab : a = b + 1
    · rw [hab]; exact Nat.le_refl _
    · rw [zz_sl_succ]
      exact Nat.le_trans (ih (by omega)) (Nat.le_add_right _ _)
/-- the first static array's cell, whole: for its clone -/
def zz_rf (T0 : List (List Int32)) (t : Nat) (A : Nat → Prop) (U : State) (H : Heap) : Prop := ∃ (cell : Cell) (tt : List Int32), T0[4]? = some tt ∧ H[t]? = some cell ∧ cell.vm.isStatics = false ∧ cell.vm ≠ .unknown ∧ U.vm.findClass "[I" = some cell.cls ∧ cell.slots.size = tt.length ∧ (∀ j, j < tt.length → cell.slots[j]? = some (.int (tt.getD j 0))) ∧ ¬ A t
theorem zz_rf.moved {T0 : List (List Int32)} {t : Nat} {A : Nat → Prop} {u U : State} {H : Heap} (hvm : u.vm.Alike U.vm) (h : zz_rf T0 t A u H) : zz_rf T0 t A U H := by
  obtain ⟨cell, tt, h0, h1, h2, h3, h4, h5⟩ := h
  exact ⟨cell, tt, h0, h1, h2, h3, by rw [hvm.findClass]; exact h4, h5⟩
theorem zz_rf.kept {T0 : List (List Int32)} {t : Nat} {A : Nat → Prop} {U : State} {H H1 : Heap} (h : zz_rf T0 t A U H) (hq : ∀ a : Nat, a < H.size → ¬ A a → H1[a]? = H[a]?) : zz_rf T0 t A U H1 := by
  obtain ⟨cell, tt, h0, h1, h2, h3, h4, h5, h6, h7⟩ := h
  exact ⟨cell, tt, h0, by rw [hq t (Array.getElem?_eq_some_iff.mp h1).1 h7]; exact h1, h2, h3, h4, h5, h6, h7⟩
def zz_A (sz : Nat) : Nat → Prop := fun q => sz ≤ q
/-- the words of a constructor's instruction -/
def zz_lk (cl : List vw_C) (NM : List String) (ST : List (String × Nat × String)) (gt : Nat → Option Jvm.Cond) (CT : List zz_R) (own : String) (ins : Instr) (f : mz_I) : Bool := match ins with
  | .iconst n => decide (mz_cv f = some (.int (Int32.ofInt n)))
  | .bipush n => decide (mz_cv f = some (.int (Int8.ofInt n).toInt32))
  | .sipush n => decide (mz_cv f = some (.int (Int16.ofInt n).toInt32))
  | .ldc x => match ST[f.2.1]? with
    | some q => q.1 == own && q.2.1 == x && f.1 == 22
    | none => false
  | .getfield x => match cl[f.2.1]? with
    | some q => decide (f.2.2.1 < q.2.2) && decide (gt f.2.2.2 = some (.fieldLink own x (q.2.1 f.2.2.1).1 (q.2.1 f.2.2.1).2.1 (q.2.1 f.2.2.1).2.2.1))
    | none => false
  | .putfield x => match cl[f.2.1]? with
    | some q => decide (f.2.2.1 < q.2.2) && decide (gt f.2.2.2 = some (.fieldLink own x (q.2.1 f.2.2.1).1 (q.2.1 f.2.2.1).2.1 (q.2.1 f.2.2.1).2.2.1)) && decide ((q.2.1 f.2.2.1).1 = own)
    | none => false
  | .getstatic x => match NM[f.2.1]? with
    | some n => decide (gt f.2.2.2 = some (.fieldLinkNest own x "ThreeMagnets" n "[I" "ThreeMagnets"))
    | none => false
  | .new x => match cl[f.2.1]? with
    | some q => decide (gt f.2.2.2 = some (.classLink own x q.1))
    | none => false
  | .invokevirtual x => decide (gt f.2.2.2 = some (.methodLink own x ⟨"[I", "clone", "()Ljava/lang/Object;"⟩))
  | .checkcast x => decide (gt f.2.2.2 = some (.classLink own x "[I"))
  | .invokespecial x => match f.1 with
    | 31 => decide (gt f.2.2.2 = some (.methodLink own x Lib.objectInit))
    | 32 => match CT[f.2.1]? with
      | some r => decide (gt f.2.2.2 = some (.methodLink own x r.1))
      | none => false
    | 33 => match CT[f.2.1]? with
      | some r => decide (gt f.2.2.2 = some (.methodLinkNest own x r.1 "ThreeMagnets"))
      | none => false
    | _ => true
  | _ => true
/-- the library's words for making -/
def zz_pw : List Jvm.Cond := [.arrayClass .int, .instanceMethod Lib.objectInit, .code Lib.objectInit ⟨#[0xb1]⟩ 1 none, .sameMethod "[I" "java/lang/Object" "clone" "()Ljava/lang/Object;", .native ⟨"java/lang/Object", "clone", "()Ljava/lang/Object;"⟩, .instanceMethod ⟨"java/lang/Object", "clone", "()Ljava/lang/Object;"⟩, .selects "[I" ⟨"[I", "clone", "()Ljava/lang/Object;"⟩ ⟨"java/lang/Object", "clone", "()Ljava/lang/Object;"⟩]
/-- a reference field's type -/
def zz_sok (S0 : mz_Sh) (cl : List vw_C) : Prop := ∀ (i c : Nat) (fs : List Nat), S0[i]? = some (.inr (c, fs)) → ∃ q, cl[c]? = some q ∧ fs.length = q.2.2 ∧ ∀ (k r : Nat), fs[k]? = some (r + 3) → ∃ t, parseFieldDescriptor (q.2.1 k).2.2.1 = some t ∧ (∀ a, narrow t (.ref a) = .ref a) ∧ (∀ a, fits t (.ref a) = true) ∧ defaultValue t = .null
def zz_cin (cl : List vw_C) (G0 : List Jvm.Cond) : Prop := ∀ (ci : Nat) (q : vw_C), cl[ci]? = some q → Jvm.Cond.instantiable q.1 q.2.2 ∈ mz_G G0 ∧ Jvm.Cond.initialized q.1 ∈ mz_G G0
def zz_Fix (p : Program) (R : Room) (s : State) (m : MethodId) (args : Array Value) (meth : Method) (c : Code) (S0 : mz_Sh) (T0 : List (List Int32)) (cl : List vw_C) (NM : List String) (ST : List (String × Nat × String)) (G0 : List Jvm.Cond) (gt : Nat → Option Jvm.Cond) (CT : List zz_R) (D : va_G) (cI : ClassId) (ad : Nat → Nat) (nL Ln sz n0 nE : Nat) (xs : Nat → Int32) (own : String) (cc : ByteArray) : Prop :=
  (p.tables.exec = Jvm.exec ∧ c.code = cc ∧ c.maxLocals = nL ∧ s.vm.findClass own = some m.cls ∧ (∀ w ∈ mz_G G0, w.before args s = true)) ∧
  (va_K D cl [(cI, .int)] s ∧ s.heap.size = sz + n0 ∧ (∀ i, i < 1000 → ad i = sz + i) ∧ mz_rok T0 NM ST G0 ad Ln xs (zz_A sz) s s.heap ∧ zz_rf T0 (ad 1004) (zz_A sz) s s.heap) ∧
  (1 ≤ R.frames ∧ 64 ≤ R.locals ∧ nE - n0 ≤ R.cells ∧ zz_sl S0 nE - zz_sl S0 n0 ≤ R.slots) ∧
  ((∀ (k : Nat) (q : vw_C), cl[k]? = some q → mz_cok G0 q) ∧ (mz_sok S0 cl ∧ zz_sok S0 cl) ∧ (∀ w ∈ zz_pw, w ∈ mz_G G0) ∧ S0.length ≤ 1000 ∧ zz_cin cl G0 ∧ NM.length = T0.length ∧ (∀ (i : Nat) (w : Jvm.Cond), gt i = some w → w ∈ G0) ∧ Jvm.Cond.castable "[I" "java/lang/Cloneable" ∈ G0)
def zz_Z (p : Program) (l : Launch) (e : Env) (R : Room) (s : State) (m : MethodId) (args : Array Value) (below : List Frame) (meth : Method) (c : Code) (Q : State → Prop) (S0 : mz_Sh) (cl : List vw_C) (D : va_G) (cI : ClassId) (ad : Nat → Nat) (nL sz n0 : Nat) (q : zz_C) : Prop :=
  ∀ (ls : Array Slot) (H : Heap) (locs : List Loc), mz_ls ad q.2.1 ls nL → va_P D cl (zz_w S0 cI ad q.2.2.2.2.1 q.2.2.2.2.2 q.2.2.2.1) H → va_S (zz_A sz) s.heap H locs → W p l e R s m args below meth c H locs (q.2.2.2.1 - n0) (zz_sl S0 q.2.2.2.1 - zz_sl S0 n0) Q (F0 m q.1 ls (q.2.2.1.map (mz_cvv ad)))

theorem zz_Gi {p : Program} {R : Room} {s : State} {m : MethodId} {args : Array Value} {meth : Method} {c : Code} {S0 : mz_Sh} {T0 : List (List Int32)} {cl : List vw_C} {NM : List String} {ST : List (String × Nat × String)} {G0 : List Jvm.Cond} {gt : Nat → Option Jvm.Cond} {CT : List zz_R} {D : va_G} {cI : ClassId} {ad : Nat → Nat} {nL Ln sz n0 nE : Nat} {xs : Nat → Int32} {own : String} {cc : ByteArray} (F : zz_Fix p R s m args meth c S0 T0 cl NM ST G0 gt CT D cI ad nL Ln sz n0 nE xs own cc) {w : Jvm.Cond} {i : Nat} (h : gt i = some w) (hg : goodWord w = true) : w.before args s = true := F.1.2.2.2.2 _ (mz_G_in (F.2.2.2.2.2.2.2.2.2.1 i w h) hg)
theorem zz_Pw {p : Program} {R : Room} {s : State} {m : MethodId} {args : Array Value} {meth : Method} {c : Code} {S0 : mz_Sh} {T0 : List (List Int32)} {cl : List vw_C} {NM : List String} {ST : List (String × Nat × String)} {G0 : List Jvm.Cond} {gt : Nat → Option Jvm.Cond} {CT : List zz_R} {D : va_G} {cI : ClassId} {ad : Nat → Nat} {nL Ln sz n0 nE : Nat} {xs : Nat → Int32} {own : String} {cc : ByteArray} (F : zz_Fix p R s m args meth c S0 T0 cl NM ST G0 gt CT D cI ad nL Ln sz n0 nE xs own cc) {w : Jvm.Cond} (h : w ∈ zz_pw) : w.before args s = true := F.1.2.2.2.2 _ (F.2.2.2.2.2.1 _ h)
theorem zz_Dd {S0 : mz_Sh} {cI : ClassId} {ad : Nat → Nat} {sz : Nat} {z : Nat → Nat → Bool} {m : mz_M} {n : Nat} (had : ∀ i, i < 1000 → ad i = sz + i) (hn : n ≤ 1000) : va_D (zz_A sz) (zz_w S0 cI ad z m n) := by
  refine ⟨fun i j x y hi hj he => ?_, fun k q hk => ?_⟩
  · obtain ⟨a1, rfl⟩ := zz_w_in hi
    obtain ⟨a2, rfl⟩ := zz_w_in hj
    have h1 : ad i = ad j := he
    rw [had i (by omega), had j (by omega)] at h1
    omega
  · obtain ⟨a1, rfl⟩ := zz_w_in hk
    show sz ≤ ad k
    rw [had k (by omega)]
    omega

set_option maxHeartbeats 1000000 in
theorem zz_w_iconst {p : Program} {l : Launch} {e : Env} {R : Room} {s : State} {m : MethodId} {args : Array Value} {below : List Frame} {meth : Method} {c : Code} {Q : State → Prop} {S0 : mz_Sh} {T0 : List (List Int32)} {cl : List vw_C} {NM : List String} {ST : List (String × Nat × String)} {G0 : List Jvm.Cond} {gt : Nat → Option Jvm.Cond} {CT : List zz_R} {D : va_G} {cI : ClassId} {ad : Nat → Nat} {nL Ln sz n0 nE : Nat} {xs : Nat → Int32} {own : String} {cc : ByteArray} (F : zz_Fix p R s m args meth c S0 T0 cl NM ST G0 gt CT D cI ad nL Ln sz n0 nE xs own cc) {f : mz_I} {pc : Nat} {L : List (Option Value)} {S : List Value} {n : Nat} {z : Nat → Nat → Bool} {mem : mz_M} {c1 : zz_C} {x : Int} (hd : decode cc pc = .ok (.iconst x, 1)) (hl : zz_lk cl NM ST gt CT own (.iconst x) f = true) (hn0 : n0 ≤ n) (hnS : n ≤ S0.length) (hnE : c1.2.2.2.1 ≤ nE) (hs : zz_step S0 T0 (.iconst x) f pc L S n z mem = some (.inl c1)) (k : zz_Z p l e R s m args below meth c Q S0 cl D cI ad nL sz n0 c1) : zz_Z p l e R s m args below meth c Q S0 cl D cI ad nL sz n0 (pc, L, S, n, z, mem) := by
  have hl := of_decide_eq_true hl
  simp only [zz_step] at hs
  rw [hl] at hs
  cases hs
  exact fun ls H locs h1 h2 h3 => lv_iconst F.1.1 F.1.2.1 hd rfl (k ls H locs h1 h2 h3)

set_option maxHeartbeats 1000000 in
theorem zz_w_bipush {p : Program} {l : Launch} {e : Env} {R : Room} {s : State} {m : MethodId} {args : Array Value} {below : List Frame} {meth : Method} {c : Code} {Q : State → Prop} {S0 : mz_Sh} {T0 : List (List Int32)} {cl : List vw_C} {NM : List String} {ST : List (String × Nat × String)} {G0 : List Jvm.Cond} {gt : Nat → Option Jvm.Cond} {CT : List zz_R} {D : va_G} {cI : ClassId} {ad : Nat → Nat} {nL Ln sz n0 nE : Nat} {xs : Nat → Int32} {own : String} {cc : ByteArray} (F : zz_Fix p R s m args meth c S0 T0 cl NM ST G0 gt CT D cI ad nL Ln sz n0 nE xs own cc) {f : mz_I} {pc : Nat} {L : List (Option Value)} {S : List Value} {n : Nat} {z : Nat → Nat → Bool} {mem : mz_M} {c1 : zz_C} {x : Int} (hd : decode cc pc = .ok (.bipush x, 2)) (hl : zz_lk cl NM ST gt CT own (.bipush x) f = true) (hn0 : n0 ≤ n) (hnS : n ≤ S0.length) (hnE : c1.2.2.2.1 ≤ nE) (hs : zz_step S0 T0 (.bipush x) f pc L S n z mem = some (.inl c1)) (k : zz_Z p l e R s m args below meth c Q S0 cl D cI ad nL sz n0 c1) : zz_Z p l e R s m args below meth c Q S0 cl D cI ad nL sz n0 (pc, L, S, n, z, mem) := by
  have hl := of_decide_eq_true hl
  simp only [zz_step] at hs
  rw [hl] at hs
  cases hs
  exact fun ls H locs h1 h2 h3 => lv_bipush F.1.1 F.1.2.1 hd rfl (k ls H locs h1 h2 h3)

set_option maxHeartbeats 1000000 in
theorem zz_w_sipush {p : Program} {l : Launch} {e : Env} {R : Room} {s : State} {m : MethodId} {args : Array Value} {below : List Frame} {meth : Method} {c : Code} {Q : State → Prop} {S0 : mz_Sh} {T0 : List (List Int32)} {cl : List vw_C} {NM : List String} {ST : List (String × Nat × String)} {G0 : List Jvm.Cond} {gt : Nat → Option Jvm.Cond} {CT : List zz_R} {D : va_G} {cI : ClassId} {ad : Nat → Nat} {nL Ln sz n0 nE : Nat} {xs : Nat → Int32} {own : String} {cc : ByteArray} (F : zz_Fix p R s m args meth c S0 T0 cl NM ST G0 gt CT D cI ad nL Ln sz n0 nE xs own cc) {f : mz_I} {pc : Nat} {L : List (Option Value)} {S : List Value} {n : Nat} {z : Nat → Nat → Bool} {mem : mz_M} {c1 : zz_C} {x : Int} (hd : decode cc pc = .ok (.sipush x, 3)) (hl : zz_lk cl NM ST gt CT own (.sipush x) f = true) (hn0 : n0 ≤ n) (hnS : n ≤ S0.length) (hnE : c1.2.2.2.1 ≤ nE) (hs : zz_step S0 T0 (.sipush x) f pc L S n z mem = some (.inl c1)) (k : zz_Z p l e R s m args below meth c Q S0 cl D cI ad nL sz n0 c1) : zz_Z p l e R s m args below meth c Q S0 cl D cI ad nL sz n0 (pc, L, S, n, z, mem) := by
  have hl := of_decide_eq_true hl
  simp only [zz_step] at hs
  rw [hl] at hs
  cases hs
  exact fun ls H locs h1 h2 h3 => lv_sipush F.1.1 F.1.2.1 hd rfl (k ls H locs h1 h2 h3)

set_option maxHeartbeats 1000000 in
theorem zz_w_ldc {p : Program} {l : Launch} {e : Env} {R : Room} {s : State} {m : MethodId} {args : Array Value} {below : List Frame} {meth : Method} {c : Code} {Q : State → Prop} {S0 : mz_Sh} {T0 : List (List Int32)} {cl : List vw_C} {NM : List String} {ST : List (String × Nat × String)} {G0 : List Jvm.Cond} {gt : Nat → Option Jvm.Cond} {CT : List zz_R} {D : va_G} {cI : ClassId} {ad : Nat → Nat} {nL Ln sz n0 nE : Nat} {xs : Nat → Int32} {own : String} {cc : ByteArray} (F : zz_Fix p R s m args meth c S0 T0 cl NM ST G0 gt CT D cI ad nL Ln sz n0 nE xs own cc) {f : mz_I} {pc : Nat} {L : List (Option Value)} {S : List Value} {n : Nat} {z : Nat → Nat → Bool} {mem : mz_M} {c1 : zz_C} {x : Nat} (hd : decode cc pc = .ok (.ldc x, 2)) (hl : zz_lk cl NM ST gt CT own (.ldc x) f = true) (hn0 : n0 ≤ n) (hnS : n ≤ S0.length) (hnE : c1.2.2.2.1 ≤ nE) (hs : zz_step S0 T0 (.ldc x) f pc L S n z mem = some (.inl c1)) (k : zz_Z p l e R s m args below meth c Q S0 cl D cI ad nL sz n0 c1) : zz_Z p l e R s m args below meth c Q S0 cl D cI ad nL sz n0 (pc, L, S, n, z, mem) := by
  simp only [zz_lk] at hl
  simp only [zz_step] at hs
  split at hs
  · rename_i r hv
    cases hs
    split at hl
    · rename_i q hq
      simp only [Bool.and_eq_true, beq_iff_eq] at hl
      obtain ⟨⟨h5, h6⟩, h7⟩ := hl
      have hr : r = 2000 + f.2.1 := by
        have h8 : mz_cv f = some (.ref (2000 + f.2.1)) := by
          unfold mz_cv
          rw [h7]
          rfl
        rw [hv] at h8
        exact Value.ref.inj (Option.some.inj h8)
      subst hr
      have h9 := F.2.1.2.2.2.1.2.2.1 _ _ hq
      rw [h5, h6] at h9
      exact fun ls H locs h1 h2 h3 => va_ldcS F.1.1 F.1.2.1 F.1.2.2.2.1 h9 hd (k ls H locs h1 h2 h3)
    · cases hl
  · cases hs

set_option maxHeartbeats 1000000 in
theorem zz_w_aload_n {p : Program} {l : Launch} {e : Env} {R : Room} {s : State} {m : MethodId} {args : Array Value} {below : List Frame} {meth : Method} {c : Code} {Q : State → Prop} {S0 : mz_Sh} {T0 : List (List Int32)} {cl : List vw_C} {NM : List String} {ST : List (String × Nat × String)} {G0 : List Jvm.Cond} {gt : Nat → Option Jvm.Cond} {CT : List zz_R} {D : va_G} {cI : ClassId} {ad : Nat → Nat} {nL Ln sz n0 nE : Nat} {xs : Nat → Int32} {own : String} {cc : ByteArray} (F : zz_Fix p R s m args meth c S0 T0 cl NM ST G0 gt CT D cI ad nL Ln sz n0 nE xs own cc) {f : mz_I} {pc : Nat} {L : List (Option Value)} {S : List Value} {n : Nat} {z : Nat → Nat → Bool} {mem : mz_M} {c1 : zz_C} {x : Fin 4} (hd : decode cc pc = .ok (.aload_n x, 1)) (hl : zz_lk cl NM ST gt CT own (.aload_n x) f = true) (hn0 : n0 ≤ n) (hnS : n ≤ S0.length) (hnE : c1.2.2.2.1 ≤ nE) (hs : zz_step S0 T0 (.aload_n x) f pc L S n z mem = some (.inl c1)) (k : zz_Z p l e R s m args below meth c Q S0 cl D cI ad nL sz n0 c1) : zz_Z p l e R s m args below meth c Q S0 cl D cI ad nL sz n0 (pc, L, S, n, z, mem) := by
  simp only [zz_step] at hs
  split at hs
  · rename_i y hy
    cases hs
    exact fun ls H locs h1 h2 h3 => lv_aload_n F.1.1 F.1.2.1 hd rfl (h1.2.2.2 _ _ (mz_ld_at hy)) (k ls H locs h1 h2 h3)
  · cases hs

set_option maxHeartbeats 1000000 in
theorem zz_w_astore_n {p : Program} {l : Launch} {e : Env} {R : Room} {s : State} {m : MethodId} {args : Array Value} {below : List Frame} {meth : Method} {c : Code} {Q : State → Prop} {S0 : mz_Sh} {T0 : List (List Int32)} {cl : List vw_C} {NM : List String} {ST : List (String × Nat × String)} {G0 : List Jvm.Cond} {gt : Nat → Option Jvm.Cond} {CT : List zz_R} {D : va_G} {cI : ClassId} {ad : Nat → Nat} {nL Ln sz n0 nE : Nat} {xs : Nat → Int32} {own : String} {cc : ByteArray} (F : zz_Fix p R s m args meth c S0 T0 cl NM ST G0 gt CT D cI ad nL Ln sz n0 nE xs own cc) {f : mz_I} {pc : Nat} {L : List (Option Value)} {S : List Value} {n : Nat} {z : Nat → Nat → Bool} {mem : mz_M} {c1 : zz_C} {x : Fin 4} (hd : decode cc pc = .ok (.astore_n x, 1)) (hl : zz_lk cl NM ST gt CT own (.astore_n x) f = true) (hn0 : n0 ≤ n) (hnS : n ≤ S0.length) (hnE : c1.2.2.2.1 ≤ nE) (hs : zz_step S0 T0 (.astore_n x) f pc L S n z mem = some (.inl c1)) (k : zz_Z p l e R s m args below meth c Q S0 cl D cI ad nL sz n0 c1) : zz_Z p l e R s m args below meth c Q S0 cl D cI ad nL sz n0 (pc, L, S, n, z, mem) := by
  simp only [zz_step] at hs
  split at hs
  · obtain ⟨hb, hs⟩ := mz_cond hs
    cases hs
    exact fun ls H locs h1 h2 h3 => lv_astore_n F.1.1 F.1.2.1 hd rfl (mz_ls_has h1) (h1.2.2.1 ▸ of_decide_eq_true hb) rfl (fun ls' h' => k ls' H locs (mz_ls_st h1 (of_decide_eq_true hb) h') h2 h3)
  · cases hs

set_option maxHeartbeats 1000000 in
theorem zz_w_istore_n {p : Program} {l : Launch} {e : Env} {R : Room} {s : State} {m : MethodId} {args : Array Value} {below : List Frame} {meth : Method} {c : Code} {Q : State → Prop} {S0 : mz_Sh} {T0 : List (List Int32)} {cl : List vw_C} {NM : List String} {ST : List (String × Nat × String)} {G0 : List Jvm.Cond} {gt : Nat → Option Jvm.Cond} {CT : List zz_R} {D : va_G} {cI : ClassId} {ad : Nat → Nat} {nL Ln sz n0 nE : Nat} {xs : Nat → Int32} {own : String} {cc : ByteArray} (F : zz_Fix p R s m args meth c S0 T0 cl NM ST G0 gt CT D cI ad nL Ln sz n0 nE xs own cc) {f : mz_I} {pc : Nat} {L : List (Option Value)} {S : List Value} {n : Nat} {z : Nat → Nat → Bool} {mem : mz_M} {c1 : zz_C} {x : Fin 4} (hd : decode cc pc = .ok (.istore_n x, 1)) (hl : zz_lk cl NM ST gt CT own (.istore_n x) f = true) (hn0 : n0 ≤ n) (hnS : n ≤ S0.length) (hnE : c1.2.2.2.1 ≤ nE) (hs : zz_step S0 T0 (.istore_n x) f pc L S n z mem = some (.inl c1)) (k : zz_Z p l e R s m args below meth c Q S0 cl D cI ad nL sz n0 c1) : zz_Z p l e R s m args below meth c Q S0 cl D cI ad nL sz n0 (pc, L, S, n, z, mem) := by
  simp only [zz_step] at hs
  split at hs
  · obtain ⟨hb, hs⟩ := mz_cond hs
    cases hs
    exact fun ls H locs h1 h2 h3 => lv_istore_n F.1.1 F.1.2.1 hd rfl (mz_ls_has h1) (h1.2.2.1 ▸ of_decide_eq_true hb) rfl (fun ls' h' => k ls' H locs (mz_ls_st h1 (of_decide_eq_true hb) h') h2 h3)
  · cases hs

set_option maxHeartbeats 1000000 in
theorem zz_w_dup {p : Program} {l : Launch} {e : Env} {R : Room} {s : State} {m : MethodId} {args : Array Value} {below : List Frame} {meth : Method} {c : Code} {Q : State → Prop} {S0 : mz_Sh} {T0 : List (List Int32)} {cl : List vw_C} {NM : List String} {ST : List (String × Nat × String)} {G0 : List Jvm.Cond} {gt : Nat → Option Jvm.Cond} {CT : List zz_R} {D : va_G} {cI : ClassId} {ad : Nat → Nat} {nL Ln sz n0 nE : Nat} {xs : Nat → Int32} {own : String} {cc : ByteArray} (F : zz_Fix p R s m args meth c S0 T0 cl NM ST G0 gt CT D cI ad nL Ln sz n0 nE xs own cc) {f : mz_I} {pc : Nat} {L : List (Option Value)} {S : List Value} {n : Nat} {z : Nat → Nat → Bool} {mem : mz_M} {c1 : zz_C} (hd : decode cc pc = .ok (.dup, 1)) (hl : zz_lk cl NM ST gt CT own (.dup) f = true) (hn0 : n0 ≤ n) (hnS : n ≤ S0.length) (hnE : c1.2.2.2.1 ≤ nE) (hs : zz_step S0 T0 (.dup) f pc L S n z mem = some (.inl c1)) (k : zz_Z p l e R s m args below meth c Q S0 cl D cI ad nL sz n0 c1) : zz_Z p l e R s m args below meth c Q S0 cl D cI ad nL sz n0 (pc, L, S, n, z, mem) := by
  simp only [zz_step] at hs
  split at hs
  · cases hs
    exact fun ls H locs h1 h2 h3 => lv_dup F.1.1 F.1.2.1 hd rfl (k ls H locs h1 h2 h3)
  · cases hs

theorem zz_w_obj {S0 : mz_Sh} {cI : ClassId} {ad : Nat → Nat} {z : Nat → Nat → Bool} {m : mz_M} {n i c : Nat} {fs : List Nat} (hi : i < n) (h : S0[i]? = some (.inr (c, fs))) : (zz_w S0 cI ad z m n)[i]? = some (ad i, .inr (c, fs.mapIdx (zz_fv ad z m i))) := by
  rw [zz_w_at hi, zz_cell, h]
theorem zz_w_arr {S0 : mz_Sh} {cI : ClassId} {ad : Nat → Nat} {z : Nat → Nat → Bool} {m : mz_M} {n i k : Nat} (hi : i < n) (h : S0[i]? = some (.inl k)) : (zz_w S0 cI ad z m n)[i]? = some (ad i, .inl (cI, k, .inl (m i))) := by
  rw [zz_w_at hi, zz_cell, h]
theorem zz_get_spec {S0 : mz_Sh} {ad : Nat → Nat} {z : Nat → Nat → Bool} {m : mz_M} {n ci k i : Nat} {v : Value} (h : zz_get S0 z m n ci k i = some v) : i < n ∧ ∃ fs, S0[i]? = some (.inr (ci, fs)) ∧ (fs.mapIdx (zz_fv ad z m i))[k]? = some (mz_cvv ad v) := by
  unfold zz_get at h
  obtain ⟨hin, h1⟩ := mz_cond h
  clear h
  refine ⟨of_decide_eq_true hin, ?_⟩
  split at h1
  · rename_i c fs hq
    obtain ⟨hb, h2⟩ := mz_cond h1
    clear h1
    have hc : c = ci := by simpa using hb
    subst hc
    refine ⟨fs, hq, ?_⟩
    rw [List.getElem?_mapIdx]
    split at h2
    · rename_i hk; rw [hk]; cases h2; rfl
    · rename_i r hk
      rw [hk]
      obtain ⟨hz, h3⟩ := mz_cond h2
      cases h3
      show some (cond (z i k) _ _) = _
      rw [hz]
      rfl
    · cases h2
  · cases h1
theorem zz_up_nb {m : mz_M} {i k b : Nat} {x : Int32} (h : b ≠ k) : mz_up m i k x i b = m i b := by rw [mz_up_eq, if_neg h]
theorem zz_put_spec {S0 : mz_Sh} {ad : Nat → Nat} {z : Nat → Nat → Bool} {m : mz_M} {n ci k i : Nat} {v : Value} {q : (Nat → Nat → Bool) × mz_M} (h : zz_put S0 z m n ci k i v = some q) : i < n ∧ ∃ fs f, S0[i]? = some (.inr (ci, fs)) ∧ fs[k]? = some f ∧ (∀ j, j ≠ i → q.2 j = m j ∧ q.1 j = z j) ∧ (∀ b, b ≠ k → q.2 i b = m i b ∧ q.1 i b = z i b) ∧ mz_cvv ad v = zz_fv ad q.1 q.2 i k f ∧ ((f = 0 ∧ ∃ x, v = .int x) ∨ (f = 1 ∧ ∃ x, v = .int x ∧ (x = 0 ∨ x = 1)) ∨ (f = 2 ∧ ∃ r, v = .ref r) ∨ (∃ r, f = r + 3 ∧ v = .ref r)) := by
  unfold zz_put at h
  obtain ⟨hin, h1⟩ := mz_cond h
  clear h
  refine ⟨of_decide_eq_true hin, ?_⟩
  split at h1
  · rename_i c fs hq
    obtain ⟨hb, h2⟩ := mz_cond h1
    clear h1
    have hc : c = ci := by simpa using hb
    subst hc
    split at h2
    · rename_i x hk
      cases h2
      exact ⟨fs, 0, hq, hk, fun j hj => ⟨mz_up_ne hj, rfl⟩, fun b hb => ⟨zz_up_nb hb, rfl⟩, by simp [mz_cvv, zz_fv, mz_up_eq], Or.inl ⟨rfl, x, rfl⟩⟩
    · rename_i x hk
      obtain ⟨hb2, h3⟩ := mz_cond h2
      cases h3
      exact ⟨fs, 1, hq, hk, fun j hj => ⟨mz_up_ne hj, rfl⟩, fun b hb => ⟨zz_up_nb hb, rfl⟩, by simp [mz_cvv, zz_fv, mz_up_eq], Or.inr (Or.inl ⟨rfl, x, rfl, by simpa using hb2⟩)⟩
    · rename_i r hk
      obtain ⟨hb2, h3⟩ := mz_cond h2
      cases h3
      have hr := (mz_isT_spec hb2).2
      refine ⟨fs, 2, hq, hk, fun j hj => ⟨mz_up_ne hj, zz_on_ne hj⟩, fun b hb => ⟨zz_up_nb hb, ?_⟩, ?_, Or.inr (Or.inr (Or.inl ⟨rfl, r, rfl⟩))⟩
      · have h1 : (b == k) = false := by simpa using hb
        simp [zz_on, h1]
      · have h5 : (Int32.ofNat r).toNatClampNeg = r := nI_clamp (show (r : Nat) < 2 ^ 31 from Nat.lt_trans hr (by decide))
        simp [mz_cvv, zz_fv, zz_on, mz_up_eq, h5]
    · rename_i a r hk
      obtain ⟨hb2, h3⟩ := mz_cond h2
      cases h3
      have har : a = r := by simpa using hb2
      subst har
      refine ⟨fs, a + 3, hq, hk, fun j hj => ⟨rfl, zz_on_ne hj⟩, fun b hb => ⟨rfl, ?_⟩, ?_, Or.inr (Or.inr (Or.inr ⟨a, rfl, rfl⟩))⟩
      · have h1 : (b == k) = false := by simpa using hb
        simp [zz_on, h1]
      · simp [mz_cvv, zz_fv, zz_on]
    · cases h2
  · cases h1
theorem zz_put_cell {S0 : mz_Sh} {cI : ClassId} {ad : Nat → Nat} {z z' : Nat → Nat → Bool} {m m' : mz_M} {n i ci k f : Nat} {fs : List Nat} {v : Value} (hi : i < n) (h : S0[i]? = some (.inr (ci, fs))) (hk : fs[k]? = some f) (ho : ∀ j, j ≠ i → m' j = m j ∧ z' j = z j) (hb : ∀ b, b ≠ k → m' i b = m i b ∧ z' i b = z i b) (hv : v = zz_fv ad z' m' i k f) : (zz_w S0 cI ad z m n).set i (ad i, .inr (ci, (fs.mapIdx (zz_fv ad z m i)).set k v)) = zz_w S0 cI ad z' m' n := by
  refine zz_w_set hi _ ?_ (fun j hj => zz_cell_ne (ho j hj).1 (ho j hj).2)
  rw [zz_cell, h]
  refine congrArg (fun w => (Sum.inr (ci, w) : va_E)) ?_
  apply List.ext_getElem?
  intro j
  rw [List.getElem?_mapIdx]
  by_cases hj : k = j
  · subst hj
    rw [hk, List.getElem?_set_self (by rw [List.length_mapIdx]; exact (List.getElem?_eq_some_iff.mp hk).1), hv]
    rfl
  · rw [List.getElem?_set_ne hj, List.getElem?_mapIdx]
    congr 1
    funext g
    unfold zz_fv
    rw [(hb j (fun q => hj q.symm)).1, (hb j (fun q => hj q.symm)).2]

set_option maxHeartbeats 1000000 in
theorem zz_w_getfield {p : Program} {l : Launch} {e : Env} {R : Room} {s : State} {m : MethodId} {args : Array Value} {below : List Frame} {meth : Method} {c : Code} {Q : State → Prop} {S0 : mz_Sh} {T0 : List (List Int32)} {cl : List vw_C} {NM : List String} {ST : List (String × Nat × String)} {G0 : List Jvm.Cond} {gt : Nat → Option Jvm.Cond} {CT : List zz_R} {D : va_G} {cI : ClassId} {ad : Nat → Nat} {nL Ln sz n0 nE : Nat} {xs : Nat → Int32} {own : String} {cc : ByteArray} (F : zz_Fix p R s m args meth c S0 T0 cl NM ST G0 gt CT D cI ad nL Ln sz n0 nE xs own cc) {f : mz_I} {pc : Nat} {L : List (Option Value)} {S : List Value} {n : Nat} {z : Nat → Nat → Bool} {mem : mz_M} {c1 : zz_C} {x : Nat} (hd : decode cc pc = .ok (.getfield x, 3)) (hl : zz_lk cl NM ST gt CT own (.getfield x) f = true) (hn0 : n0 ≤ n) (hnS : n ≤ S0.length) (hnE : c1.2.2.2.1 ≤ nE) (hs : zz_step S0 T0 (.getfield x) f pc L S n z mem = some (.inl c1)) (k : zz_Z p l e R s m args below meth c Q S0 cl D cI ad nL sz n0 c1) : zz_Z p l e R s m args below meth c Q S0 cl D cI ad nL sz n0 (pc, L, S, n, z, mem) := by
  simp only [zz_lk] at hl
  simp only [zz_step] at hs
  split at hs
  · rename_i i S1
    split at hs
    · rename_i v hv
      cases hs
      split at hl
      · rename_i q hq
        rw [Bool.and_eq_true] at hl
        obtain ⟨hin, fs, h5, h6⟩ := zz_get_spec (ad := ad) hv
        exact fun ls H locs h1 h2 h3 => va_get (C := q.1) (T := q.2.1) (N := q.2.2) F.1.1 F.1.2.1 F.1.2.2.2.2 (F.2.2.2.1 _ _ hq).1 F.1.2.2.2.1 F.2.1.1 h2 i (zz_w_obj hin h5) hq f.2.2.1 (of_decide_eq_true hl.1) (zz_Gi F (of_decide_eq_true hl.2) rfl) (fun _ h => h) h6 hd (k ls H locs h1 h2 h3)
      · cases hl
    · cases hs
  · cases hs

set_option maxHeartbeats 1000000 in
theorem zz_w_putfield {p : Program} {l : Launch} {e : Env} {R : Room} {s : State} {m : MethodId} {args : Array Value} {below : List Frame} {meth : Method} {c : Code} {Q : State → Prop} {S0 : mz_Sh} {T0 : List (List Int32)} {cl : List vw_C} {NM : List String} {ST : List (String × Nat × String)} {G0 : List Jvm.Cond} {gt : Nat → Option Jvm.Cond} {CT : List zz_R} {D : va_G} {cI : ClassId} {ad : Nat → Nat} {nL Ln sz n0 nE : Nat} {xs : Nat → Int32} {own : String} {cc : ByteArray} (F : zz_Fix p R s m args meth c S0 T0 cl NM ST G0 gt CT D cI ad nL Ln sz n0 nE xs own cc) {f : mz_I} {pc : Nat} {L : List (Option Value)} {S : List Value} {n : Nat} {z : Nat → Nat → Bool} {mem : mz_M} {c1 : zz_C} {x : Nat} (hin2 : meth.name = "<init>") (hd : decode cc pc = .ok (.putfield x, 3)) (hl : zz_lk cl NM ST gt CT own (.putfield x) f = true) (hn0 : n0 ≤ n) (hnS : n ≤ S0.length) (hnE : c1.2.2.2.1 ≤ nE) (hs : zz_step S0 T0 (.putfield x) f pc L S n z mem = some (.inl c1)) (k : zz_Z p l e R s m args below meth c Q S0 cl D cI ad nL sz n0 c1) : zz_Z p l e R s m args below meth c Q S0 cl D cI ad nL sz n0 (pc, L, S, n, z, mem) := by
  simp only [zz_lk] at hl
  simp only [zz_step] at hs
  split at hs
  · rename_i v i S1
    split at hs
    · rename_i q0 hm
      cases hs
      split at hl
      · rename_i q hq
        simp only [Bool.and_eq_true] at hl
        obtain ⟨⟨hk, hw⟩, hdecl⟩ := hl
        have hdecl := of_decide_eq_true hdecl
        obtain ⟨hin, fs, g, h5, h6, ho, hb, hvv, h7⟩ := zz_put_spec (ad := ad) hm
        obtain ⟨q1, hq1, hlen, hsh⟩ := F.2.2.2.2.1.1 _ _ _ h5
        have hqe : q1 = q := Option.some.inj (hq1.symm.trans hq)
        subst hqe
        obtain ⟨q2, hq2, -, hsh2⟩ := F.2.2.2.2.1.2 _ _ _ h5
        have hqe2 : q2 = q1 := Option.some.inj (hq2.symm.trans hq)
        subst hqe2
        obtain ⟨hcin, hnm, ty0, hty⟩ := F.2.2.2.1 _ _ hq
        obtain ⟨t, ht2, ht3, ht4⟩ : ∃ t, parseFieldDescriptor (q2.2.1 f.2.2.1).2.2.1 = some t ∧ narrow t (mz_cvv ad v) = mz_cvv ad v ∧ fits t (mz_cvv ad v) = true := by
          rcases h7 with ⟨rfl, x, rfl⟩ | ⟨rfl, x, rfl, h8⟩ | ⟨rfl, r, rfl⟩ | ⟨r, rfl, rfl⟩
          · exact ⟨.int, ((hsh _ _ h6).1 rfl).2, rfl, rfl⟩
          · refine ⟨.boolean, ((hsh _ _ h6).2.1 rfl).2, ?_, ?_⟩
            · rcases h8 with rfl | rfl <;> rfl
            · rcases h8 with rfl | rfl <;> rfl
          · exact ⟨_, ((hsh _ _ h6).2.2 rfl).2, rfl, rfl⟩
          · obtain ⟨t, a1, a2, a3, -⟩ := hsh2 _ _ h6
            exact ⟨t, a1, a2 _, a3 _⟩
        intro ls H locs h1 h2 h3
        have hD := zz_Dd (S0 := S0) (cI := cI) (z := z) (m := mem) F.2.1.2.2.1 (Nat.le_trans hnS F.2.2.2.2.2.2.1)
        have hlk := zz_Gi F (of_decide_eq_true hw) rfl
        have hgo : ∀ (H1 : Heap) (locs1 : List Loc), va_P D cl ((zz_w S0 cI ad z mem n).set i (ad i, .inr (f.2.1, (fs.mapIdx (zz_fv ad z mem i)).set f.2.2.1 (mz_cvv ad v)))) H1 → va_D (zz_A sz) ((zz_w S0 cI ad z mem n).set i (ad i, .inr (f.2.1, (fs.mapIdx (zz_fv ad z mem i)).set f.2.2.1 (mz_cvv ad v)))) → va_S (zz_A sz) s.heap H1 locs1 → W p l e R s m args below meth c H1 locs1 (n - n0) (zz_sl S0 n - zz_sl S0 n0) Q (F0 m (pc + 3) ls (S1.map (mz_cvv ad))) := by
          intro H1 locs1 a1 a2 a3
          rw [zz_put_cell hin h5 h6 ho hb hvv] at a1
          exact k ls H1 locs1 h1 a1 a3
        cases hfin : (q2.2.1 f.2.2.1).2.2.2 with
        | false => exact va_put (C := q2.1) (T := q2.2.1) (N := q2.2.2) (ty := t) F.1.1 F.1.2.1 F.1.2.2.2.2 hcin ty0 hty hnm F.1.2.2.2.1 F.2.1.1 h2 hD h3 i (zz_w_obj hin h5) hq f.2.2.1 (of_decide_eq_true hk) hlk (fun _ h => h) hfin ht2 ht3 ht4 (by rw [List.length_mapIdx]; exact (List.getElem?_eq_some_iff.mp h6).1) hd hgo
        | true => exact va_putF (C := q2.1) (T := q2.2.1) (N := q2.2.2) (ty := t) F.1.1 F.1.2.1 F.1.2.2.2.2 hcin ty0 hty hnm F.1.2.2.2.1 F.2.1.1 h2 hD h3 i (zz_w_obj hin h5) hq f.2.2.1 (of_decide_eq_true hk) hlk (fun _ h => h) hfin hin2 hdecl ht2 ht3 ht4 (by rw [List.length_mapIdx]; exact (List.getElem?_eq_some_iff.mp h6).1) hd hgo
      · cases hl
    · cases hs
  · cases hs

set_option maxHeartbeats 1000000 in
theorem zz_w_getstatic {p : Program} {l : Launch} {e : Env} {R : Room} {s : State} {m : MethodId} {args : Array Value} {below : List Frame} {meth : Method} {c : Code} {Q : State → Prop} {S0 : mz_Sh} {T0 : List (List Int32)} {cl : List vw_C} {NM : List String} {ST : List (String × Nat × String)} {G0 : List Jvm.Cond} {gt : Nat → Option Jvm.Cond} {CT : List zz_R} {D : va_G} {cI : ClassId} {ad : Nat → Nat} {nL Ln sz n0 nE : Nat} {xs : Nat → Int32} {own : String} {cc : ByteArray} (F : zz_Fix p R s m args meth c S0 T0 cl NM ST G0 gt CT D cI ad nL Ln sz n0 nE xs own cc) {f : mz_I} {pc : Nat} {L : List (Option Value)} {S : List Value} {n : Nat} {z : Nat → Nat → Bool} {mem : mz_M} {c1 : zz_C} {x : Nat} (hd : decode cc pc = .ok (.getstatic x, 3)) (hl : zz_lk cl NM ST gt CT own (.getstatic x) f = true) (hn0 : n0 ≤ n) (hnS : n ≤ S0.length) (hnE : c1.2.2.2.1 ≤ nE) (hs : zz_step S0 T0 (.getstatic x) f pc L S n z mem = some (.inl c1)) (k : zz_Z p l e R s m args below meth c Q S0 cl D cI ad nL sz n0 c1) : zz_Z p l e R s m args below meth c Q S0 cl D cI ad nL sz n0 (pc, L, S, n, z, mem) := by
  simp only [zz_lk] at hl
  simp only [zz_step] at hs
  obtain rfl := Sum.inl.inj (Option.some.inj hs)
  split at hl
  · rename_i nm hnm
    have hZ := F.2.1.2.2.2.1.1 _ _ hnm
    exact fun ls H locs h1 h2 h3 => va_getsN F.1.1 F.1.2.1 (hZ.narrow (fun _ h => h)) h3 F.1.2.2.2.1 (va_Nw.use rfl (F.2.1.2.2.2.1.2.2.2.2.2.1 _ (F.2.2.2.2.2.2.2.2.2.1 _ _ (of_decide_eq_true hl)) rfl)) (fun _ h => h) hd (k ls H locs h1 h2 h3)
  · cases hl

set_option maxHeartbeats 1000000 in
theorem zz_w_iastore {p : Program} {l : Launch} {e : Env} {R : Room} {s : State} {m : MethodId} {args : Array Value} {below : List Frame} {meth : Method} {c : Code} {Q : State → Prop} {S0 : mz_Sh} {T0 : List (List Int32)} {cl : List vw_C} {NM : List String} {ST : List (String × Nat × String)} {G0 : List Jvm.Cond} {gt : Nat → Option Jvm.Cond} {CT : List zz_R} {D : va_G} {cI : ClassId} {ad : Nat → Nat} {nL Ln sz n0 nE : Nat} {xs : Nat → Int32} {own : String} {cc : ByteArray} (F : zz_Fix p R s m args meth c S0 T0 cl NM ST G0 gt CT D cI ad nL Ln sz n0 nE xs own cc) {f : mz_I} {pc : Nat} {L : List (Option Value)} {S : List Value} {n : Nat} {z : Nat → Nat → Bool} {mem : mz_M} {c1 : zz_C} (hd : decode cc pc = .ok (.iastore, 1)) (hl : zz_lk cl NM ST gt CT own (.iastore) f = true) (hn0 : n0 ≤ n) (hnS : n ≤ S0.length) (hnE : c1.2.2.2.1 ≤ nE) (hs : zz_step S0 T0 (.iastore) f pc L S n z mem = some (.inl c1)) (k : zz_Z p l e R s m args below meth c Q S0 cl D cI ad nL sz n0 c1) : zz_Z p l e R s m args below meth c Q S0 cl D cI ad nL sz n0 (pc, L, S, n, z, mem) := by
  simp only [zz_step] at hs
  split at hs
  · rename_i x j i S1
    obtain ⟨hin, hs⟩ := mz_cond hs
    have hin := of_decide_eq_true hin
    split at hs
    · rename_i kk hkk
      obtain ⟨hb, hs⟩ := mz_cond hs
      cases hs
      intro ls H locs h1 h2 h3
      have hD := zz_Dd (S0 := S0) (cI := cI) (z := z) (m := mem) F.2.1.2.2.1 (Nat.le_trans hnS F.2.2.2.2.2.2.1)
      refine va_iast F.1.1 F.1.2.1 F.2.1.1 h2 hD h3 i 0 (zz_w_arr hin hkk) rfl (mz_in_of hb) hd (fun H1 locs1 a1 a2 a3 => ?_)
      rw [zz_w_set (z' := z) (m' := mz_up mem i j.toNatClampNeg x) hin _ (by rw [zz_cell, hkk]; refine congrArg (fun g => (Sum.inl (cI, kk, .inl g) : va_E)) ?_; funext b; rw [mz_up_eq]; rfl) (fun j hj => zz_cell_ne (mz_up_ne hj) rfl)] at a1
      exact k ls H1 locs1 h1 a1 a3
    · cases hs
  · cases hs

theorem zz_sz {p : Program} {l : Launch} {e : Env} {R : Room} {s : State} {m : MethodId} {args : Array Value} {below : List Frame} {meth : Method} {c : Code} {H : Heap} {locs : List Loc} {cells slots : Nat} {Q : State → Prop} {g : JFrame} (k : H.size ≤ s.heap.size + cells → W p l e R s m args below meth c H locs cells slots Q g) : W p l e R s m args below meth c H locs cells slots Q g := by
  intro T hT X
  exact k (by rw [← hT]; exact X.heapSize) T hT X
theorem zz_hsz {s : State} {S0 : mz_Sh} {cl : List vw_C} {D : va_G} {cI : ClassId} {ad : Nat → Nat} {sz n0 n : Nat} {z : Nat → Nat → Bool} {m : mz_M} {H : Heap} {locs : List Loc} (had : ∀ i, i < 1000 → ad i = sz + i) (hs : s.heap.size = sz + n0) (hn0 : n0 ≤ n) (hn : n ≤ 1000) (h2 : va_P D cl (zz_w S0 cI ad z m n) H) (h3 : va_S (zz_A sz) s.heap H locs) (hu : H.size ≤ s.heap.size + (n - n0)) : H.size = sz + n := by
  by_cases he : n = n0
  · have := h3.1
    omega
  · have h4 := (h2 (n - 1) _ (zz_w_at (by omega))).lt
    have h5 : ad (n - 1) < H.size := h4
    rw [had (n - 1) (by omega)] at h5
    omega
/-- a new cell at the heap's end -/
theorem zz_grow {s : State} {S0 : mz_Sh} {cl : List vw_C} {D : va_G} {cI : ClassId} {ad : Nat → Nat} {sz n : Nat} {z z' : Nat → Nat → Bool} {m m' : mz_M} {H H1 : Heap} {locs : List Loc} (e : va_E) (he : zz_cell S0 cI ad z' m' n = e) (ho : ∀ j, j ≠ n → zz_cell S0 cI ad z' m' j = zz_cell S0 cI ad z m j) (h2 : va_P D cl (zz_w S0 cI ad z m n) H) (h3 : va_S (zz_A sz) s.heap H locs) (hz : H1.size = H.size + 1) (hk : ∀ q, q < H.size → H1[q]? = H[q]?) (h1 : va_at D cl (ad n, e) H1) : va_P D cl (zz_w S0 cI ad z' m' (n + 1)) H1 ∧ va_S (zz_A sz) s.heap H1 locs := by
  refine ⟨?_, by have := h3.1; omega, fun q hq hA => (hk q (Nat.lt_of_lt_of_le hq h3.1)).trans (h3.2.1 q hq hA), h3.2.2⟩
  rw [← zz_w_push e he ho]
  refine (h2.kept (fun k q hq => hk _ (h2 k q hq).lt)).app (fun k q hq => ?_)
  have hz : k < 1 := (List.getElem?_eq_some_iff.mp hq).1
  rw [show k = 0 by omega] at hq
  cases hq
  exact h1

set_option maxHeartbeats 4000000 in
theorem zz_w_new {p : Program} {l : Launch} {e : Env} {R : Room} {s : State} {m : MethodId} {args : Array Value} {below : List Frame} {meth : Method} {c : Code} {Q : State → Prop} {S0 : mz_Sh} {T0 : List (List Int32)} {cl : List vw_C} {NM : List String} {ST : List (String × Nat × String)} {G0 : List Jvm.Cond} {gt : Nat → Option Jvm.Cond} {CT : List zz_R} {D : va_G} {cI : ClassId} {ad : Nat → Nat} {nL Ln sz n0 nE : Nat} {xs : Nat → Int32} {own : String} {cc : ByteArray} (F : zz_Fix p R s m args meth c S0 T0 cl NM ST G0 gt CT D cI ad nL Ln sz n0 nE xs own cc) {f : mz_I} {pc : Nat} {L : List (Option Value)} {S : List Value} {n : Nat} {z : Nat → Nat → Bool} {mem : mz_M} {c1 : zz_C} {x : Nat} (hd : decode cc pc = .ok (.new x, 3)) (hl : zz_lk cl NM ST gt CT own (.new x) f = true) (hn0 : n0 ≤ n) (hnS : n ≤ S0.length) (hnE : c1.2.2.2.1 ≤ nE) (hs : zz_step S0 T0 (.new x) f pc L S n z mem = some (.inl c1)) (k : zz_Z p l e R s m args below meth c Q S0 cl D cI ad nL sz n0 c1) : zz_Z p l e R s m args below meth c Q S0 cl D cI ad nL sz n0 (pc, L, S, n, z, mem) := by
  simp only [zz_lk] at hl
  simp only [zz_step] at hs
  split at hs
  · rename_i ci fs hS
    obtain ⟨hb, hs⟩ := mz_cond hs
    have hci : ci = f.2.1 := by simpa using hb
    cases hs
    split at hl
    · rename_i q hq
      have hlk := zz_Gi F (of_decide_eq_true hl) rfl
      rw [← hci] at hq
      obtain ⟨q1, hq1, hlen, hsh⟩ := F.2.2.2.2.1.1 _ _ _ hS
      obtain ⟨q2, hq2, -, hsh2⟩ := F.2.2.2.2.1.2 _ _ _ hS
      obtain rfl : q1 = q := Option.some.inj (hq1.symm.trans hq)
      obtain rfl : q2 = q1 := Option.some.inj (hq2.symm.trans hq)
      obtain ⟨hcin, hnm, ty0, hty⟩ := F.2.2.2.1 _ _ hq
      have hin2 := F.2.2.2.2.2.2.2.1 _ _ hq
      have hKn := F.2.1.1.1 _ _ hq
      have hslsz : zz_sl S0 (n + 1) = zz_sl S0 n + q2.2.2 := by rw [zz_sl_succ, hS, ← hlen]
      have hslm := zz_sl_mono S0 hn0
      have hn1 : n + 1 ≤ 1000 := Nat.le_trans (mz_lt hS) F.2.2.2.2.2.2.1
      have hnE : n + 1 ≤ nE := hnE
      have hslE := zz_sl_mono S0 hnE
      have hrc := F.2.2.1.2.2.1
      have hrs := F.2.2.1.2.2.2
      intro ls H locs h1 h2 h3
      show W p l e R s m args below meth c H locs (n - n0) (zz_sl S0 n - zz_sl S0 n0) Q (F0 m pc ls (S.map (mz_cvv ad)))
      refine zz_sz (fun hu => ?_)
      have hH := zz_hsz F.2.1.2.2.1 F.2.1.2.1 hn0 (by omega) h2 h3 hu
      have had : ad n = H.size := by rw [hH]; exact F.2.1.2.2.1 n (by omega)
      refine W.newcK F.1.1 F.1.2.1 F.1.2.2.2.1 hlk (F.1.2.2.2.2 _ hin2.1) (F.1.2.2.2.2 _ hin2.2) rfl hd (by omega) (by omega) hKn.2.1 rfl fun H1 kC hkC e1 z1 o1 => ?_
      have hcell : zz_cell S0 cI ad (zz_un z n) (mz_set0 mem n (fun _ => 0)) n = .inr (ci, fs.mapIdx (zz_fv ad (zz_un z n) (mz_set0 mem n (fun _ => 0)) n)) := by rw [zz_cell, hS]
      have hborn := u_born (ws := mz_G G0) ty0 F.1.2.2.2.2 hcin hKn hkC e1 hty
      obtain ⟨b1, b2⟩ := zz_grow _ hcell (fun j hj => zz_cell_ne (zz_set_ne hj) (zz_un_ne hj)) h2 h3 z1 o1 (by
        refine ⟨q2, hq, ?_⟩
        rw [had]
        refine hborn.to (fun k hk => ?_)
        have hkl : k < fs.length := by rw [hlen]; exact hk
        have hfk : fs[k]? = some fs[k] := List.getElem?_eq_getElem hkl
        show defaultValue (ty0 k) = (fs.mapIdx (zz_fv ad (zz_un z n) (mz_set0 mem n (fun _ => 0)) n)).getD k .null
        rw [List.getD_eq_getElem?_getD, List.getElem?_mapIdx, hfk]
        show defaultValue (ty0 k) = zz_fv ad (zz_un z n) (mz_set0 mem n (fun _ => 0)) n k fs[k]
        have hz0 : zz_un z n n k = false := by simp [zz_un]
        have hm0 : mz_set0 mem n (fun _ => 0) n k = 0 := by simp [mz_set0]
        have hp := hty k hk
        generalize fs[k] = g at hfk
        match g, hfk with
        | 0, hfk =>
          have := ((hsh _ _ hfk).1 rfl).2
          rw [hp] at this
          have h9 : ty0 k = .int := Option.some.inj this
          rw [h9]
          simp [zz_fv, hm0, defaultValue]
        | 1, hfk =>
          have := ((hsh _ _ hfk).2.1 rfl).2
          rw [hp] at this
          have h9 : ty0 k = .boolean := Option.some.inj this
          rw [h9]
          simp [zz_fv, hm0, defaultValue]
        | 2, hfk =>
          have := ((hsh _ _ hfk).2.2 rfl).2
          rw [hp] at this
          have h9 : ty0 k = .object "java/lang/String" := Option.some.inj this
          rw [h9]
          simp [zz_fv, hz0, defaultValue]
        | r + 3, hfk =>
          obtain ⟨t, a1, -, -, a4⟩ := hsh2 _ _ hfk
          rw [hp] at a1
          cases a1
          simp [zz_fv, hz0, a4])
      have hk : W p l e R s m args below meth c H1 locs (n + 1 - n0) (zz_sl S0 (n + 1) - zz_sl S0 n0) Q (F0 m (pc + 3) ls ((Value.ref n :: S).map (mz_cvv ad))) := k ls H1 locs h1 b1 b2
      have e1 : n + 1 - n0 = n - n0 + 1 := by omega
      have e2 : zz_sl S0 (n + 1) - zz_sl S0 n0 = zz_sl S0 n - zz_sl S0 n0 + q2.2.2 := by omega
      rw [e1, e2] at hk
      have e3 : (Value.ref n :: S).map (mz_cvv ad) = .ref H.size :: S.map (mz_cvv ad) := by rw [← had]; rfl
      rw [e3] at hk
      exact hk
    · cases hl
  · cases hs

set_option maxHeartbeats 4000000 in
theorem zz_w_newarray {p : Program} {l : Launch} {e : Env} {R : Room} {s : State} {m : MethodId} {args : Array Value} {below : List Frame} {meth : Method} {c : Code} {Q : State → Prop} {S0 : mz_Sh} {T0 : List (List Int32)} {cl : List vw_C} {NM : List String} {ST : List (String × Nat × String)} {G0 : List Jvm.Cond} {gt : Nat → Option Jvm.Cond} {CT : List zz_R} {D : va_G} {cI : ClassId} {ad : Nat → Nat} {nL Ln sz n0 nE : Nat} {xs : Nat → Int32} {own : String} {cc : ByteArray} (F : zz_Fix p R s m args meth c S0 T0 cl NM ST G0 gt CT D cI ad nL Ln sz n0 nE xs own cc) {f : mz_I} {pc : Nat} {L : List (Option Value)} {S : List Value} {n : Nat} {z : Nat → Nat → Bool} {mem : mz_M} {c1 : zz_C} (hd : decode cc pc = .ok (.newarray .int, 2)) (hl : zz_lk cl NM ST gt CT own (.newarray .int) f = true) (hn0 : n0 ≤ n) (hnS : n ≤ S0.length) (hnE : c1.2.2.2.1 ≤ nE) (hs : zz_step S0 T0 (.newarray .int) f pc L S n z mem = some (.inl c1)) (k : zz_Z p l e R s m args below meth c Q S0 cl D cI ad nL sz n0 c1) : zz_Z p l e R s m args below meth c Q S0 cl D cI ad nL sz n0 (pc, L, S, n, z, mem) := by
  simp only [zz_step] at hs
  split at hs
  · rename_i j S1
    split at hs
    · rename_i kk hS
      obtain ⟨hb, hs⟩ := mz_cond hs
      cases hs
      rw [Bool.and_eq_true] at hb
      have hj : j = Int32.ofNat kk := by simpa using hb.1
      have hk5 : kk < 100000 := of_decide_eq_true hb.2
      subst hj
      have hslsz : zz_sl S0 (n + 1) = zz_sl S0 n + kk := by rw [zz_sl_succ, hS]
      have hslm := zz_sl_mono S0 hn0
      have hn1 : n + 1 ≤ 1000 := Nat.le_trans (mz_lt hS) F.2.2.2.2.2.2.1
      have hnE : n + 1 ≤ nE := hnE
      have hslE := zz_sl_mono S0 hnE
      have hrc := F.2.2.1.2.2.1
      have hrs := F.2.2.1.2.2.2
      intro ls H locs h1 h2 h3
      show W p l e R s m args below meth c H locs (n - n0) (zz_sl S0 n - zz_sl S0 n0) Q (F0 m pc ls ((Value.int (Int32.ofNat kk) :: S1).map (mz_cvv ad)))
      refine zz_sz (fun hu => ?_)
      have hH := zz_hsz F.2.1.2.2.1 F.2.1.2.1 hn0 (by omega) h2 h3 hu
      have had : ad n = H.size := by rw [hH]; exact F.2.1.2.2.1 n (by omega)
      have hlt : kk < 2 ^ 31 := by omega
      refine va_newaK F.1.1 F.1.2.1 (atype := .int) (zz_Pw F (by simp [zz_pw, newarray.typeOf])) rfl hd rfl (nI_pos hlt) (nI_clamp hlt) (by show kk * 4 ≤ 536870912; omega) (by omega) (by omega) rfl fun H1 cA e1 z1 o1 hAr hNm => ?_
      have hcA : cA = cI := by
        have h5 : s.vm.findClass ("[" ++ FieldType.int.toString) = some cI := (F.2.1.1.2 0 (cI, .int) rfl).2
        exact Option.some.inj (hNm.symm.trans h5)
      subst hcA
      have hcell : zz_cell S0 cA ad z (mz_set0 mem n (fun _ => 0)) n = .inl (cA, kk, .inl (fun _ => 0)) := by rw [zz_cell, hS, zz_set_eq]
      obtain ⟨b1, b2⟩ := zz_grow _ hcell (fun j hj => zz_cell_ne (zz_set_ne hj) rfl) h2 h3 z1 o1 (by
        show H1[ad n]? = some (vp_cell cA (kk, .inl (fun _ => 0)))
        rw [had, e1, vp_cell_i]
        rfl)
      have hk : W p l e R s m args below meth c H1 locs (n + 1 - n0) (zz_sl S0 (n + 1) - zz_sl S0 n0) Q (F0 m (pc + 2) ls ((Value.ref n :: S1).map (mz_cvv ad))) := k ls H1 locs h1 b1 b2
      have e1 : n + 1 - n0 = n - n0 + 1 := by omega
      have e2 : zz_sl S0 (n + 1) - zz_sl S0 n0 = zz_sl S0 n - zz_sl S0 n0 + kk := by omega
      rw [e1, e2] at hk
      have e3 : (Value.ref n :: S1).map (mz_cvv ad) = .ref H.size :: S1.map (mz_cvv ad) := by rw [← had]; rfl
      rw [e3] at hk
      exact hk
    · cases hs
  · cases hs

set_option maxHeartbeats 1000000 in
theorem zz_w_checkcast {p : Program} {l : Launch} {e : Env} {R : Room} {s : State} {m : MethodId} {args : Array Value} {below : List Frame} {meth : Method} {c : Code} {Q : State → Prop} {S0 : mz_Sh} {T0 : List (List Int32)} {cl : List vw_C} {NM : List String} {ST : List (String × Nat × String)} {G0 : List Jvm.Cond} {gt : Nat → Option Jvm.Cond} {CT : List zz_R} {D : va_G} {cI : ClassId} {ad : Nat → Nat} {nL Ln sz n0 nE : Nat} {xs : Nat → Int32} {own : String} {cc : ByteArray} (F : zz_Fix p R s m args meth c S0 T0 cl NM ST G0 gt CT D cI ad nL Ln sz n0 nE xs own cc) {f : mz_I} {pc : Nat} {L : List (Option Value)} {S : List Value} {n : Nat} {z : Nat → Nat → Bool} {mem : mz_M} {c1 : zz_C} {x : Nat} (hd : decode cc pc = .ok (.checkcast x, 3)) (hl : zz_lk cl NM ST gt CT own (.checkcast x) f = true) (hn0 : n0 ≤ n) (hnS : n ≤ S0.length) (hnE : c1.2.2.2.1 ≤ nE) (hs : zz_step S0 T0 (.checkcast x) f pc L S n z mem = some (.inl c1)) (k : zz_Z p l e R s m args below meth c Q S0 cl D cI ad nL sz n0 c1) : zz_Z p l e R s m args below meth c Q S0 cl D cI ad nL sz n0 (pc, L, S, n, z, mem) := by
  simp only [zz_lk] at hl
  simp only [zz_step] at hs
  split at hs
  · rename_i i S1
    obtain ⟨hin, hs⟩ := mz_cond hs
    have hin := of_decide_eq_true hin
    split at hs
    · rename_i kk hS
      cases hs
      have h5 : s.vm.findClass ("[" ++ FieldType.int.toString) = some cI := (F.2.1.1.2 0 (cI, .int) rfl).2
      exact fun ls H locs h1 h2 h3 => va_castA F.1.1 F.1.2.1 F.1.2.2.2.1 (zz_Gi F (of_decide_eq_true hl) rfl) h2 i (zz_w_arr hin hS) h5 hd (k ls H locs h1 h2 h3)
    · cases hs
  · cases hs

set_option maxHeartbeats 4000000 in
theorem zz_w_clone {p : Program} {l : Launch} {e : Env} {R : Room} {s : State} {m : MethodId} {args : Array Value} {below : List Frame} {meth : Method} {c : Code} {Q : State → Prop} {S0 : mz_Sh} {T0 : List (List Int32)} {cl : List vw_C} {NM : List String} {ST : List (String × Nat × String)} {G0 : List Jvm.Cond} {gt : Nat → Option Jvm.Cond} {CT : List zz_R} {D : va_G} {cI : ClassId} {ad : Nat → Nat} {nL Ln sz n0 nE : Nat} {xs : Nat → Int32} {own : String} {cc : ByteArray} (F : zz_Fix p R s m args meth c S0 T0 cl NM ST G0 gt CT D cI ad nL Ln sz n0 nE xs own cc) {f : mz_I} {pc : Nat} {L : List (Option Value)} {S : List Value} {n : Nat} {z : Nat → Nat → Bool} {mem : mz_M} {c1 : zz_C} {x : Nat} (hd : decode cc pc = .ok (.invokevirtual x, 3)) (hl : zz_lk cl NM ST gt CT own (.invokevirtual x) f = true) (hn0 : n0 ≤ n) (hnS : n ≤ S0.length) (hnE : c1.2.2.2.1 ≤ nE) (hs : zz_step S0 T0 (.invokevirtual x) f pc L S n z mem = some (.inl c1)) (k : zz_Z p l e R s m args below meth c Q S0 cl D cI ad nL sz n0 c1) : zz_Z p l e R s m args below meth c Q S0 cl D cI ad nL sz n0 (pc, L, S, n, z, mem) := by
  have hl := of_decide_eq_true hl
  simp only [zz_step] at hs
  replace hs := (mz_cond hs).2
  split at hs
  · rename_i S1
    split at hs
    · rename_i kk t hS ht
      obtain ⟨hb, hs⟩ := mz_cond hs
      cases hs
      rw [Bool.and_eq_true] at hb
      have hkk : kk = t.length := by simpa using hb.1
      have hcat := of_decide_eq_true hb.2
      subst hkk
      have hslsz : zz_sl S0 (n + 1) = zz_sl S0 n + t.length := by rw [zz_sl_succ, hS]
      have hslm := zz_sl_mono S0 hn0
      have hn1 : n + 1 ≤ 1000 := Nat.le_trans (mz_lt hS) F.2.2.2.2.2.2.1
      have hnE : n + 1 ≤ nE := hnE
      have hslE := zz_sl_mono S0 hnE
      have hrc := F.2.2.1.2.2.1
      have hrs := F.2.2.1.2.2.2
      intro ls H locs h1 h2 h3
      show W p l e R s m args below meth c H locs (n - n0) (zz_sl S0 n - zz_sl S0 n0) Q (F0 m pc ls ((Value.ref 1004 :: S1).map (mz_cvv ad)))
      refine zz_sz (fun hu => ?_)
      have hH := zz_hsz F.2.1.2.2.1 F.2.1.2.1 hn0 (by omega) h2 h3 hu
      have had : ad n = H.size := by rw [hH]; exact F.2.1.2.2.1 n (by omega)
      obtain ⟨cell, tt, g0, g1, g2, g3, g4, g5, g6, g7⟩ := F.2.1.2.2.2.2.kept h3.2.1
      obtain rfl : tt = t := Option.some.inj (g0.symm.trans ht)
      have hcls : cell.cls = cI := by
        have h5 : s.vm.findClass ("[" ++ FieldType.int.toString) = some cI := (F.2.1.1.2 0 (cI, .int) rfl).2
        exact Option.some.inj (g4.symm.trans h5)
      obtain ⟨c0, t0', f1, f2, f3⟩ := Cond.castable_spec (va_Nw.use (A := args) rfl (F.2.1.2.2.2.1.2.2.2.2.2.1 _ F.2.2.2.2.2.2.2.2.2.2 rfl))
      obtain rfl : c0 = cell.cls := Option.some.inj (f1.symm.trans g4)
      have hcellE : ({ cls := cell.cls, slots := cell.slots } : Cell) = vp_cell cI (tt.length, .inl (fun j => tt.getD j 0)) := by
        rw [vp_cell_i, hcls]
        have hsl : cell.slots = Array.ofFn (n := tt.length) fun j => Value.int (tt.getD j.val 0) := by
          apply Array.ext_getElem?
          intro j
          by_cases hj : j < tt.length
          · rw [g6 j hj]
            simp [hj]
          · rw [Array.getElem?_eq_none (by omega), Array.getElem?_eq_none (by simp; omega)]
        rw [hsl]
        rfl
      intro T hT X
      have hAt := (F.2.1.1.2 0 (cI, .int) rfl).1
      obtain ⟨-, kA, hkA, comp, hkind⟩ := State.isArrayOf_alike X.warmed.alike (hAt 0 (fun _ => .null))
      obtain ⟨-, kS, hkS, compS, hkindS⟩ := hAt 0 (fun _ => .null)
      obtain ⟨vm', X', st⟩ := X.cloneArray F.1.1 F.1.2.2.2.1 (zz_Gi F hl rfl) (zz_Pw F (by simp [zz_pw])) (zz_Pw F (by simp [zz_pw])) (zz_Pw F (by simp [zz_pw])) (zz_Pw F (by simp [zz_pw])) (a := ad 1004) (cell := cell) (by rw [hT]; exact g1) (fun k h => by rw [h] at g2; cases g2) g3 g4 f2 f3
        (fun i v hv => by
          have hi : i < tt.length := by rw [← g5]; exact (Array.getElem?_eq_some_iff.mp hv).1
          rw [g6 i hi] at hv
          cases hv
          have hk' : T.vm.classes[cell.cls]? = some kA := by rw [hcls]; exact hkA
          simp [State.fitsSlot, State.slotType?, hk', hkind, fits])
        (g := F0 m pc ls (.ref (ad 1004) :: S1.map (mz_cvv ad))) rfl (by rw [F.1.2.2.1]; exact h1.1) rfl (by rw [F.1.2.1]; exact hd) F.2.2.1.1 (by show 2 * 0 + _ + 14 ≤ _; rw [mz_cat_map]; have := F.2.2.1.2.1; omega) (by omega) (by rw [g5]; omega) (hloader := by rw [hcls]; exact Vm.clonesLoader_of_array hkS hkindS)
      rw [hcellE, g5] at X'
      rw [hcellE] at st
      generalize hH1 : H.push (vp_cell cI (tt.length, .inl (fun j => tt.getD j 0))) = H1
      have z1 : H1.size = H.size + 1 := by rw [← hH1, Array.size_push]
      have e1 : H1[H.size]? = some (vp_cell cI (tt.length, .inl (fun j => tt.getD j 0))) := by rw [← hH1, Array.getElem?_push_size]
      have o1 : ∀ q : Nat, q < H.size → H1[q]? = H[q]? := fun q hq => by rw [← hH1, Array.getElem?_push, if_neg (Nat.ne_of_lt hq)]
      have hcell : zz_cell S0 cI ad z (mz_set0 mem n (fun j => tt.getD j 0)) n = .inl (cI, tt.length, .inl (fun j => tt.getD j 0)) := by rw [zz_cell, hS, zz_set_eq]
      obtain ⟨b1, b2⟩ := zz_grow _ hcell (fun j hj => zz_cell_ne (zz_set_ne hj) rfl) h2 h3 z1 o1 (by
        show H1[ad n]? = some (vp_cell cI (tt.length, .inl (fun j => tt.getD j 0)))
        rw [had]
        exact e1)
      have hk : W p l e R s m args below meth c H1 locs (n + 1 - n0) (zz_sl S0 (n + 1) - zz_sl S0 n0) Q (F0 m (pc + 3) ls ((Value.ref n :: S1).map (mz_cvv ad))) := k ls H1 locs h1 b1 b2
      have e4 : n + 1 - n0 = n - n0 + 1 := by omega
      have e2 : zz_sl S0 (n + 1) - zz_sl S0 n0 = zz_sl S0 n - zz_sl S0 n0 + tt.length := by omega
      rw [e4, e2] at hk
      have e3 : (Value.ref n :: S1).map (mz_cvv ad) = .ref H.size :: S1.map (mz_cvv ad) := by rw [← had]; rfl
      rw [e3] at hk
      obtain ⟨t, b3, b4⟩ := hk ((T.setVm vm').pushCell (vp_cell cI (tt.length, .inl (fun j => tt.getD j 0)))) (by rw [← hH1, ← hT]; rfl) X'
      refine ⟨t, st t ?_, b4⟩
      rw [hT]
      exact b3
    · cases hs
  · cases hs

set_option maxHeartbeats 1000000 in
theorem zz_w_objinit {p : Program} {l : Launch} {e : Env} {R : Room} {s : State} {m : MethodId} {args : Array Value} {below : List Frame} {meth : Method} {c : Code} {Q : State → Prop} {S0 : mz_Sh} {T0 : List (List Int32)} {cl : List vw_C} {NM : List String} {ST : List (String × Nat × String)} {G0 : List Jvm.Cond} {gt : Nat → Option Jvm.Cond} {CT : List zz_R} {D : va_G} {cI : ClassId} {ad : Nat → Nat} {nL Ln sz n0 nE : Nat} {xs : Nat → Int32} {own : String} {cc : ByteArray} (F : zz_Fix p R s m args meth c S0 T0 cl NM ST G0 gt CT D cI ad nL Ln sz n0 nE xs own cc) {f : mz_I} {pc : Nat} {L : List (Option Value)} {S : List Value} {n : Nat} {z : Nat → Nat → Bool} {mem : mz_M} {c1 : zz_C} {x : Nat} (hd : decode cc pc = .ok (.invokespecial x, 3)) (hl : zz_lk cl NM ST gt CT own (.invokespecial x) f = true) (hn0 : n0 ≤ n) (hnS : n ≤ S0.length) (hnE : c1.2.2.2.1 ≤ nE) (hs : zz_step S0 T0 (.invokespecial x) f pc L S n z mem = some (.inl c1)) (k : zz_Z p l e R s m args below meth c Q S0 cl D cI ad nL sz n0 c1) : zz_Z p l e R s m args below meth c Q S0 cl D cI ad nL sz n0 (pc, L, S, n, z, mem) := by
  simp only [zz_lk] at hl
  simp only [zz_step] at hs
  split at hs
  · rename_i hf
    rw [hf] at hl
    split at hs
    · rename_i r S1
      obtain ⟨hb, hs⟩ := mz_cond hs
      cases hs
      have hb := of_decide_eq_true hb
      intro ls H locs h1 h2 h3
      exact W.objInit F.1.1 F.1.2.1 F.1.2.2.2.1 (zz_Gi F (of_decide_eq_true hl) rfl) (zz_Pw F (by simp [zz_pw])) (zz_Pw F (by simp [zz_pw])) rfl (by rw [F.1.2.2.1]; exact h1.1) rfl hd F.2.2.1.1 (by show 2 * 0 + _ + 12 ≤ _; rw [mz_cat_map]; have := F.2.2.1.2.1; omega) (k ls H locs h1 h2 h3)
    · cases hs
  · cases hs
  · cases hs
  · cases hs
