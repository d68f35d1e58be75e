
/-! THE MACHINE'S STEPS HOLD OF THE JVM'S: a step of the small machine is a step of the real one, where its memory is laid out in the heap -/
def mz_cvv (ad : Nat → Nat) (v : Value) : Value := match v with
  | .ref i => .ref (ad i)
  | v => v
theorem mz_cvv_cat (ad : Nat → Nat) (v : Value) : (mz_cvv ad v).category = v.category := by cases v <;> rfl
def mz_fv (ad : Nat → Nat) (m : mz_M) (i k f : Nat) : Value := match f with
  | 0 => .int (m i k)
  | 1 => .int (m i k)
  | 2 => .ref (ad (m i k).toNatClampNeg)
  | r + 3 => .ref (ad r)
def mz_cell (S0 : mz_Sh) (cI : ClassId) (ad : Nat → Nat) (m : mz_M) (i : Nat) : va_E := match S0[i]? with
  | some (.inl n) => .inl (cI, n, .inl (m i))
  | some (.inr (c, fs)) => .inr (c, fs.mapIdx (mz_fv ad m i))
  | none => .inr (0, [])
def mz_w (S0 : mz_Sh) (cI : ClassId) (ad : Nat → Nat) (m : mz_M) : va_W := (List.range S0.length).map fun i => (ad i, mz_cell S0 cI ad m i)
theorem mz_w_len (S0 : mz_Sh) (cI : ClassId) (ad : Nat → Nat) (m : mz_M) : (mz_w S0 cI ad m).length = S0.length := by simp [mz_w]
theorem mz_w_at {S0 : mz_Sh} {cI : ClassId} {ad : Nat → Nat} {m : mz_M} {i : Nat} (h : i < S0.length) : (mz_w S0 cI ad m)[i]? = some (ad i, mz_cell S0 cI ad m i) := by
  simp [mz_w, h]
theorem mz_lt {S0 : mz_Sh} {i : Nat} {q : Nat ⊕ (Nat × List Nat)} (h : S0[i]? = some q) : i < S0.length := (List.getElem?_eq_some_iff.mp h).1
theorem mz_w_in {S0 : mz_Sh} {cI : ClassId} {ad : Nat → Nat} {m : mz_M} {k : Nat} {q : Nat × va_E} (h : (mz_w S0 cI ad m)[k]? = some q) : k < S0.length ∧ q = (ad k, mz_cell S0 cI ad m k) := by
  have hk : k < S0.length := by
    have := (List.getElem?_eq_some_iff.mp h).1
    rwa [mz_w_len] at this
  rw [mz_w_at hk] at h
  exact ⟨hk, (Option.some.inj h).symm⟩
theorem mz_w_set {S0 : mz_Sh} {cI : ClassId} {ad : Nat → Nat} {m m' : mz_M} {i : Nat} (h : i < S0.length) (e : va_E) (he : mz_cell S0 cI ad m' i = e) (ho : ∀ j, j ≠ i → mz_cell S0 cI ad m' j = mz_cell S0 cI ad m j) : (mz_w S0 cI ad m).set i (ad i, e) = mz_w S0 cI ad m' := by
  apply List.ext_getElem?
  intro j
  by_cases hj : j < S0.length
  · rw [mz_w_at hj]
    by_cases hij : i = j
    · subst hij
      rw [List.getElem?_set_self (by rw [mz_w_len]; exact h), he]
    · rw [List.getElem?_set_ne hij, mz_w_at hj, ho j (fun q => hij q.symm)]
  · rw [List.getElem?_eq_none (by rw [List.length_set, mz_w_len]; omega), List.getElem?_eq_none (by rw [mz_w_len]; omega)]
theorem mz_up_ne {m : mz_M} {i k j : Nat} {v : Int32} (h : j ≠ i) : mz_up m i k v j = m j := by
  funext b
  have h1 : (j == i) = false := by simpa using h
  simp only [mz_up, h1, Bool.false_and, cond_false]
theorem mz_up_eq {m : mz_M} {i k b : Nat} {v : Int32} : mz_up m i k v i b = if b = k then v else m i b := by
  simp only [mz_up, beq_self_eq_true, Bool.true_and]
  by_cases h : b = k
  · simp [h]
  · have h1 : (b == k) = false := by simpa using h
    rw [h1, if_neg h]
    rfl
theorem mz_cp_ne {m : mz_M} {i j sp dp n a : Nat} (h : a ≠ i) : mz_cp m i j sp dp n a = m a := by
  funext b
  have h1 : (a == i) = false := by simpa using h
  simp only [mz_cp, h1, Bool.false_and, cond_false]
theorem mz_cell_ne {S0 : mz_Sh} {cI : ClassId} {ad : Nat → Nat} {m m' : mz_M} {j : Nat} (h : m' j = m j) : mz_cell S0 cI ad m' j = mz_cell S0 cI ad m j := by
  have hf : mz_fv ad m' j = mz_fv ad m j := by
    funext k f
    unfold mz_fv
    rw [h]
  unfold mz_cell
  rw [h, hf]
/-- the addresses alone -/
theorem mz_D {S0 : mz_Sh} {cI : ClassId} {ad : Nat → Nat} {A : Nat → Prop} {m m' : mz_M} (h : va_D A (mz_w S0 cI ad m)) : va_D A (mz_w S0 cI ad m') := by
  refine ⟨fun i j p q hi hj he => ?_, fun k q hk => ?_⟩
  · obtain ⟨a1, rfl⟩ := mz_w_in hi
    obtain ⟨a2, rfl⟩ := mz_w_in hj
    exact h.1 i j _ _ (mz_w_at a1) (mz_w_at a2) he
  · obtain ⟨a1, rfl⟩ := mz_w_in hk
    exact h.2 k (ad k, mz_cell S0 cI ad m k) (mz_w_at a1)
/-- what stands outside: the tables of ints, the texts, words of nest mates, the script -/
def mz_isN : Jvm.Cond → Bool
  | .methodLinkNest _ _ _ _ => true
  | .fieldLinkNest _ _ _ _ _ _ => true
  | .castable _ _ => true
  | _ => false
def mz_rok (T0 : List (List Int32)) (NM : List String) (ST : List (String × Nat × String)) (G0 : List Jvm.Cond) (ad : Nat → Nat) (Ln : Nat) (xs : Nat → Int32) (A : Nat → Prop) (U : State) (H : Heap) : Prop :=
  (∀ (j : Nat) (n : String), NM[j]? = some n → va_Z "ThreeMagnets" n "[I" (.ref (ad (1000 + j))) A U H) ∧
  (∀ (j : Nat) (t : List Int32), T0[j]? = some t → va_T .int (ad (1000 + j)) t.length (fun k => .int (t.getD k 0)) A U H) ∧
  (∀ (j : Nat) (q : String × Nat × String), ST[j]? = some q → vk_R q.1 q.2.1 q.2.2 (ad (2000 + j)) U) ∧
  vk_S 4 (mz_by.map List.length) mz_by (fun i => ad (2000 + i)) (fun i => ad (2100 + i)) A U H ∧
  va_Z "java/lang/String" "COMPACT_STRINGS" "Z" (.int 1) A U H ∧
  (∀ w ∈ G0, mz_isN w = true → va_Nw w U) ∧
  (va_X (ad 3000) Ln xs U H ∧ ad 3000 < H.size ∧ ¬ A (ad 3000))
theorem mz_rok.same {T0 : List (List Int32)} {NM : List String} {ST : List (String × Nat × String)} {G0 : List Jvm.Cond} {ad : Nat → Nat} {Ln : Nat} {xs : Nat → Int32} {A : Nat → Prop} {u U : State} {H : Heap} (hv : u.vm = U.vm) (h : mz_rok T0 NM ST G0 ad Ln xs A u H) : mz_rok T0 NM ST G0 ad Ln xs A U H := by
  have ha : u.vm.Alike U.vm := hv ▸ Vm.Alike.refl u.vm
  obtain ⟨h1, h2, h3, h4, h5, h6, h7, h8⟩ := h
  refine ⟨fun j n hj => (h1 j n hj).moved ha, fun j t hj => (h2 j t hj).moved ha, fun j q hj => vk_R.same hv.symm (h3 j q hj), h4.moved ha, h5.moved ha, fun w hw hn => ?_, h7.moved ha, h8⟩
  have h9 := h6 w hw hn
  cases w <;> first | exact (Bool.false_ne_true hn).elim | exact va_Nw.same rfl hv h9
theorem mz_rok.warm {T0 : List (List Int32)} {NM : List String} {ST : List (String × Nat × String)} {G0 : List Jvm.Cond} {ad : Nat → Nat} {Ln : Nat} {xs : Nat → Int32} {A : Nat → Prop} {s U : State} {H : Heap} (hW : s.WarmedH U.vm) (h : mz_rok T0 NM ST G0 ad Ln xs A s H) : mz_rok T0 NM ST G0 ad Ln xs A U H := by
  have ha : s.vm.Alike U.vm := hW.alike
  obtain ⟨h1, h2, h3, h4, h5, h6, h7, h8⟩ := h
  refine ⟨fun j n hj => (h1 j n hj).moved ha, fun j t hj => (h2 j t hj).moved ha, fun j q hj => vk_R.warm hW (h3 j q hj), h4.moved ha, h5.moved ha, fun w hw hn => ?_, h7.moved ha, h8⟩
  have h9 := h6 w hw hn
  cases w <;> first | exact (Bool.false_ne_true hn).elim | exact va_Nw.warmM hW h9 | exact va_Nw.warmF hW h9 | exact va_Nw.warmC hW h9
theorem mz_rok.kept {T0 : List (List Int32)} {NM : List String} {ST : List (String × Nat × String)} {G0 : List Jvm.Cond} {ad : Nat → Nat} {Ln : Nat} {xs : Nat → Int32} {A B : Nat → Prop} {U : State} {H H1 : Heap} (h : mz_rok T0 NM ST G0 ad Ln xs A U H) (hz : H.size ≤ H1.size) (hq : ∀ a : Nat, a < H.size → ¬ A a → H1[a]? = H[a]?) (hAB : ∀ q, B q → A q) : mz_rok T0 NM ST G0 ad Ln xs B U H1 := by
  obtain ⟨h1, h2, h3, h4, h5, h6, h7, h8, h9⟩ := h
  exact ⟨fun j n hj => ((h1 j n hj).kept hq).narrow hAB, fun j t hj => ((h2 j t hj).kept hq).narrow hAB, h3, (h4.kept hq).narrow hAB, (h5.kept hq).narrow hAB, h6, h7.kept (hq _ h8 h9), Nat.lt_of_lt_of_le h8 hz, fun q => h9 (hAB _ q)⟩
def mz_scr (xs : Nat → Int32) (Ln : Nat) (m : mz_M) : Prop := (∀ j, m 3000 j = xs j) ∧ m 3001 0 = nI Ln ∧ Ln < 2 ^ 31
/-- the tables' words that a method may use -/
def mz_G (G0 : List Jvm.Cond) : List Jvm.Cond := G0.filter goodWord
theorem mz_G_good {G0 : List Jvm.Cond} {w : Jvm.Cond} (h : w ∈ mz_G G0) : (w.onTables && w.keeps) = true ∨ ∃ ty, w = .arrayClass ty := good_of_word (List.mem_filter.mp h).2
theorem mz_G_in {G0 : List Jvm.Cond} {w : Jvm.Cond} (h : w ∈ G0) (hg : goodWord w = true) : w ∈ mz_G G0 := List.mem_filter.mpr ⟨h, hg⟩
/-- a class's tables are in order -/
def mz_cok (G0 : List Jvm.Cond) (q : vw_C) : Prop := (∀ w ∈ u_ws q.1 q.2.1 q.2.2, w ∈ mz_G G0) ∧ (∀ a, a < q.2.2 → ∀ b, b < q.2.2 → a ≠ b → (q.2.1 a).2.1 ≠ (q.2.1 b).2.1) ∧ ∃ ty : Nat → FieldType, ∀ k, k < q.2.2 → parseFieldDescriptor (q.2.1 k).2.2.1 = some (ty k)
/-- a shape is its class's -/
def mz_sok (S0 : mz_Sh) (cl : List vw_C) : Prop := ∀ (i c : Nat) (fs : List Nat), S0[i]? = some (.inr (c, fs)) → ∃ q, cl[c]? = some q ∧ fs.length = q.2.2 ∧ ∀ (k f : Nat), fs[k]? = some f → (f = 0 → (q.2.1 k).2.2.2 = false ∧ parseFieldDescriptor (q.2.1 k).2.2.1 = some .int) ∧ (f = 1 → (q.2.1 k).2.2.2 = false ∧ parseFieldDescriptor (q.2.1 k).2.2.1 = some .boolean) ∧ (f = 2 → (q.2.1 k).2.2.2 = false ∧ parseFieldDescriptor (q.2.1 k).2.2.1 = some (.object "java/lang/String"))
/-- the words of an instruction stand in the tables -/
def mz_lk (T : List mz_R) (cl : List vw_C) (NM : List String) (ST : List (String × Nat × String)) (gt : Nat → Option Jvm.Cond) (own : String) (ins : Instr) (f : mz_I) : Bool := match ins with
  | .iconst n => decide (mz_cv f = some (.int (Int32.ofInt n)))
  | .bipush n => decide (mz_cv f = some (.int (Int8.ofInt n).toInt32))
  | .sipush n => decide (mz_cv f = some (.int (Int16.ofInt n).toInt32))
  | .iinc _ n => decide (mz_cv f = some (.int (Int32.ofInt n)))
  | .ldc x => match mz_cv f with
    | some (.int v) => decide (gt f.2.2.2 = some (.constant own x v))
    | some (.ref _) => match ST[f.2.1]? with
      | some q => q.1 == own && q.2.1 == x && f.1 == 22
      | none => false
    | _ => false
  | .ldc_w x => match mz_cv f with
    | some (.int v) => decide (gt f.2.2.2 = some (.constant own x v))
    | some (.ref _) => match ST[f.2.1]? with
      | some q => q.1 == own && q.2.1 == x && f.1 == 22
      | none => false
    | _ => false
  | .ldc2_w x => decide (gt f.2.2.2 = some (.constantLong own x (Int64.ofNat f.2.1)))
  | .getfield x => cond (f.1 == 5) (cond (f.2.1 == 0) (decide (gt f.2.2.2 = some (.fieldLink own x "java/lang/String" "value" "[B"))) (decide (gt f.2.2.2 = some (.fieldLink own x "java/lang/String" "coder" "B")))) (match cl[f.2.1]? with
    | some q => decide (f.2.2.1 < q.2.2) && decide (gt f.2.2.2 = some (.fieldLink own x (q.2.1 f.2.2.1).1 (q.2.1 f.2.2.1).2.1 (q.2.1 f.2.2.1).2.2.1))
    | none => false)
  | .putfield x => match cl[f.2.1]? with
    | some q => decide (f.2.2.1 < q.2.2) && decide (gt f.2.2.2 = some (.fieldLink own x (q.2.1 f.2.2.1).1 (q.2.1 f.2.2.1).2.1 (q.2.1 f.2.2.1).2.2.1))
    | none => false
  | .getstatic x => cond (f.1 == 6) (decide (gt f.2.2.2 = some (.fieldLink own x "java/lang/String" "COMPACT_STRINGS" "Z"))) (match NM[f.2.1]? with
    | some n => cond (f.2.2.1 == 0) (decide (gt f.2.2.2 = some (.fieldLink own x "ThreeMagnets" n "[I"))) (decide (gt f.2.2.2 = some (.fieldLinkNest own x "ThreeMagnets" n "[I" "ThreeMagnets")))
    | none => false)
  | .invokevirtual x => match T[f.2.1]? with
    | some R => R.2.2.2.2.2.1 == false && decide (gt f.2.2.2 = some (.methodLink own x R.2.1))
    | none => false
  | .invokestatic x => match f.1 with
    | 2 => match T[f.2.1]? with
      | some R => R.2.2.2.2.2.1 == true && decide (gt f.2.2.2 = some (.methodLink own x R.2.1))
      | none => false
    | 4 => match T[f.2.1]? with
      | some R => R.2.2.2.2.2.1 == true && decide (gt f.2.2.2 = some (.methodLinkNest own x R.2.1 "ThreeMagnets"))
      | none => false
    | 8 => decide (gt f.2.2.2 = some (.methodLink own x Lib.Math.abs.name))
    | 9 => decide (gt f.2.2.2 = some (.methodLink own x Lib.Math.max.name))
    | 10 => decide (gt f.2.2.2 = some (.methodLink own x Lib.Math.min.name))
    | 11 => decide (gt f.2.2.2 = some (.methodLink own x arraycopyName))
    | _ => true
  | _ => true
def mz_sw : Instr → Bool
  | .tableswitch _ _ _ _ => true
  | .lookupswitch _ _ => true
  | _ => false
def mz_eok (T : List mz_R) (cl : List vw_C) (NM : List String) (ST : List (String × Nat × String)) (gt : Nat → Option Jvm.Cond) (own : String) (b : ByteArray) (q : mz_E) : Bool := decide (decode b q.1 = .ok (q.2.1, q.2.2.1)) && (q.2.2.1 == mz_ln q.2.1 || mz_sw q.2.1) && mz_lk T cl NM ST gt own q.2.1 q.2.2.2
/-- the library's own words: abs, max, min, arraycopy -/
def mz_pw : List Jvm.Cond := [.static Lib.Math.abs.name, .static Lib.Math.max.name, .static Lib.Math.min.name, .initialized "java/lang/Math", .code Lib.Math.abs.name Lib.Math.abs.code 1 (some .int), .code Lib.Math.max.name Lib.Math.max.code 2 (some .int), .code Lib.Math.min.name Lib.Math.min.code 2 (some .int), .native arraycopyName, .static arraycopyName, .initialized "java/lang/System"]
/-- what a frame stands on -/
def mz_Fix (p : Program) (R : Room) (s : State) (m : MethodId) (args : Array Value) (c : Code) (cells slots : Nat) (S0 : mz_Sh) (T0 : List (List Int32)) (T : List mz_R) (cl : List vw_C) (NM : List String) (ST : List (String × Nat × String)) (G0 : List Jvm.Cond) (gt : Nat → Option Jvm.Cond) (D : va_G) (cI : ClassId) (ad : Nat → Nat) (A : Nat → Prop) (nL Ln : Nat) (xs : Nat → Int32) (own : String) (cc : ByteArray) : Prop :=
  (p.tables.exec = Jvm.exec ∧ c.code = cc ∧ c.maxLocals = nL ∧ s.vm.findClass own = some m.cls ∧ (∀ w ∈ mz_G G0, w.before args s = true)) ∧
  (va_K D cl [(cI, .int)] s ∧ (∀ mm, va_D A (mz_w S0 cI ad mm)) ∧ (∀ q, s.heap.size ≤ q → A q) ∧ mz_rok T0 NM ST G0 ad Ln xs A s s.heap) ∧
  (1 ≤ R.frames ∧ 64 ≤ R.locals ∧ cells ≤ R.cells ∧ slots ≤ R.slots) ∧
  ((∀ (k : Nat) (q : vw_C), cl[k]? = some q → mz_cok G0 q) ∧ mz_sok S0 cl ∧ (∀ w ∈ mz_pw, w ∈ mz_G G0) ∧ S0.length ≤ 1000 ∧ NM.length = T0.length ∧ T0.length ≤ 1000 ∧ ∀ (i : Nat) (w : Jvm.Cond), gt i = some w → w ∈ G0)
theorem mz_Gi {p : Program} {R : Room} {s : State} {m : MethodId} {args : Array Value} {c : Code} {cells slots : Nat} {S0 : mz_Sh} {T0 : List (List Int32)} {T : List mz_R} {cl : List vw_C} {NM : List String} {ST : List (String × Nat × String)} {G0 : List Jvm.Cond} {gt : Nat → Option Jvm.Cond} {D : va_G} {cI : ClassId} {ad : Nat → Nat} {A : Nat → Prop} {nL Ln : Nat} {xs : Nat → Int32} {own : String} {cc : ByteArray} (F : mz_Fix p R s m args c cells slots S0 T0 T cl NM ST G0 gt D cI ad A nL Ln xs own cc) {w : Jvm.Cond} {i : Nat} (h : gt i = some w) (hg : goodWord w = true) : w ∈ mz_G G0 := mz_G_in (F.2.2.2.2.2.2.2.2.2 i w h) hg
/-- the locals -/
def mz_ls (ad : Nat → Nat) (L : List (Option Value)) (ls : Array Slot) (nL : Nat) : Prop := ls.size = nL ∧ lv_wf ls ∧ L.length = nL ∧ ∀ (i : Nat) (v : Value), L[i]? = some (some v) → ls[i]? = some (.val (mz_cvv ad v))
def mz_Z (p : Program) (l : Launch) (e : Env) (R : Room) (s : State) (m : MethodId) (args : Array Value) (below : List Frame) (meth : Method) (c : Code) (cells slots : Nat) (Q : State → Prop) (S0 : mz_Sh) (cl : List vw_C) (D : va_G) (cI : ClassId) (ad : Nat → Nat) (A : Nat → Prop) (nL Ln : Nat) (xs : Nat → Int32) (pc : Nat) (L : List (Option Value)) (S : List Value) (mem : mz_M) : Prop :=
  ∀ (ls : Array Slot) (H : Heap) (locs : List Loc), mz_ls ad L ls nL → va_P D cl (mz_w S0 cI ad mem) H → va_S A s.heap H locs → mz_scr xs Ln mem → W p l e R s m args below meth c H locs cells slots Q (F0 m pc ls (S.map (mz_cvv ad)))
theorem mz_ld_at {L : List (Option Value)} {i : Nat} {v : Value} (h : mz_ld L i = some v) : L[i]? = some (some v) := by
  unfold mz_ld at h
  split at h
  · rename_i w hw
    cases h
    exact hw
  · cases h
def mz_lv (ad : Nat → Nat) (L : List (Option Value)) : List (Nat × Value) := (L.zipIdx).filterMap fun q => q.1.map fun v => (q.2, mz_cvv ad v)
theorem mz_lv_mem {ad : Nat → Nat} {L : List (Option Value)} {i : Nat} {v : Value} : (i, v) ∈ mz_lv ad L ↔ ∃ w, L[i]? = some (some w) ∧ v = mz_cvv ad w := by
  unfold mz_lv
  rw [List.mem_filterMap]
  constructor
  · rintro ⟨⟨o, k⟩, hm, hq⟩
    rw [List.mem_zipIdx_iff_getElem?] at hm
    cases o with
    | none => simp at hq
    | some w =>
      simp at hq
      obtain ⟨rfl, rfl⟩ := hq
      exact ⟨w, hm, rfl⟩
  · rintro ⟨w, hw, rfl⟩
    exact ⟨(some w, i), List.mem_zipIdx_iff_getElem?.mpr hw, by simp⟩
theorem mz_ls_has {ad : Nat → Nat} {L : List (Option Value)} {ls : Array Slot} {nL : Nat} (h : mz_ls ad L ls nL) : lv_has ls nL (mz_lv ad L) := by
  refine ⟨h.1, h.2.1, fun q hq => ?_⟩
  obtain ⟨i, v⟩ := q
  obtain ⟨w, hw, rfl⟩ := mz_lv_mem.mp hq
  exact h.2.2.2 i w hw
theorem mz_ls_st {ad : Nat → Nat} {L : List (Option Value)} {ls ls' : Array Slot} {nL i : Nat} {v : Value} (h : mz_ls ad L ls nL) (hi : i < L.length) (h' : lv_has ls' nL ((i, mz_cvv ad v) :: (mz_lv ad L).filter (fun q => !(q.1 == i) && !(q.1 + 1 == i && q.2.category == 2)))) : mz_ls ad (mz_st L i v) ls' nL := by
  have hlen : (mz_st L i v).length = L.length := by
    unfold mz_st
    cases i with
    | zero => simp
    | succ j =>
      show ((cond (mz_long L[j]?) (L.set j none) L).set (j + 1) (some v)).length = L.length
      rw [List.length_set]
      cases mz_long L[j]?
      · rfl
      · exact List.length_set
  refine ⟨h'.1, h'.2.1, hlen.trans h.2.2.1, fun k w hk => ?_⟩
  by_cases hki : k = i
  · subst hki
    have hv : w = v := by
      unfold mz_st at hk
      cases k with
      | zero =>
        rw [List.getElem?_set_self hi] at hk
        exact (Option.some.inj (Option.some.inj hk)).symm
      | succ j =>
        rw [List.getElem?_set_self (by cases mz_long L[j]? <;> simpa using hi)] at hk
        exact (Option.some.inj (Option.some.inj hk)).symm
    subst hv
    exact h'.2.2 (k, mz_cvv ad w) List.mem_cons_self
  · have hL : L[k]? = some (some w) ∧ ¬ (k + 1 = i ∧ w.category = 2) := by
      unfold mz_st at hk
      cases i with
      | zero =>
        rw [List.getElem?_set_ne (fun q => hki q.symm)] at hk
        exact ⟨hk, fun q => by omega⟩
      | succ j =>
        rw [List.getElem?_set_ne (fun q => hki q.symm)] at hk
        cases hlg : mz_long L[j]? with
        | false =>
          rw [hlg] at hk
          refine ⟨hk, fun q => ?_⟩
          have hkj : k = j := by omega
          subst hkj
          rw [show L[k]? = some (some w) from hk] at hlg
          exact absurd q.2 (by simpa [mz_long] using hlg)
        | true =>
          rw [hlg] at hk
          simp only [cond_true] at hk
          by_cases hkj : k = j
          · subst hkj
            have hlt : k < L.length := by omega
            rw [List.getElem?_set_self hlt] at hk
            cases hk
          · rw [List.getElem?_set_ne (fun q => hkj q.symm)] at hk
            exact ⟨hk, fun q => hkj (by omega)⟩
    refine h'.2.2 (k, mz_cvv ad w) (List.mem_cons_of_mem _ (List.mem_filter.mpr ⟨mz_lv_mem.mpr ⟨w, hL.1, rfl⟩, ?_⟩))
    have h1 : (k == i) = false := by simpa using hki
    simp only [h1, Bool.not_false, Bool.true_and, mz_cvv_cat]
    by_cases h2 : k + 1 = i
    · have h3 : ¬ w.category = 2 := fun q => hL.2 ⟨h2, q⟩
      simp [h3]
    · simp [h2]

theorem mz_cond {α : Type} {b : Bool} {x : Option α} {y : α} (h : cond b x none = some y) : b = true ∧ x = some y := by
  cases b
  · cases h
  · exact ⟨rfl, h⟩
theorem mz_condn {α : Type} {b : Bool} {x : Option α} {y : α} (h : cond b none x = some y) : b = false ∧ x = some y := by
  cases b
  · exact ⟨rfl, h⟩
  · cases h
theorem mz_isT_spec {i : Nat} (h : mz_isT i = true) : 2000 ≤ i ∧ i < 2004 := by simpa [mz_isT] using h
theorem mz_isT_k {i : Nat} (h : mz_isT i = true) : ∃ j, j < 4 ∧ i = 2000 + j := ⟨i - 2000, by have := mz_isT_spec h; omega, by have := mz_isT_spec h; omega⟩
theorem mz_isB_k {i : Nat} (h : mz_isB i = true) : ∃ j, j < 4 ∧ i = 2100 + j := by
  have h1 : 2100 ≤ i ∧ i < 2104 := by simpa [mz_isB] using h
  exact ⟨i - 2100, by omega, by omega⟩
theorem mz_isR_no {j : Nat} (hj : j < 4) : mz_isR (2100 + j) = true := by
  simp [mz_isR]
  omega
theorem mz_tg_ok {pc : Nat} {off : Int} (h : mz_ok pc off = true) : (pc : Int) + off = ((mz_tg pc off : Nat) : Int) := by
  unfold mz_ok at h
  unfold mz_tg
  rw [Int.toNat_of_nonneg (of_decide_eq_true h)]
theorem mz_in_of {j : Int32} {n : Nat} (h : mz_in j n = true) : vp_in j n := by
  unfold mz_in at h
  unfold vp_in
  simpa using h
theorem mz_cat_map (ad : Nat → Nat) (S : List Value) : ((S.map (mz_cvv ad)).map fun v => v.category).sum = mz_cat S := by
  unfold mz_cat
  rw [List.map_map]
  congr 1
  apply List.map_congr_left
  intro v _
  exact mz_cvv_cat ad v
theorem mz_scr_up {xs : Nat → Int32} {Ln : Nat} {m : mz_M} {i k : Nat} {v : Int32} (hi : i < 1000) (h : mz_scr xs Ln m) : mz_scr xs Ln (mz_up m i k v) := by
  refine ⟨fun j => ?_, ?_, h.2.2⟩
  · rw [mz_up_ne (by omega)]; exact h.1 j
  · rw [mz_up_ne (by omega)]; exact h.2.1
theorem mz_scr_cp {xs : Nat → Int32} {Ln : Nat} {m : mz_M} {i j sp dp n : Nat} (hi : i < 1000) (h : mz_scr xs Ln m) : mz_scr xs Ln (mz_cp m i j sp dp n) := by
  refine ⟨fun j => ?_, ?_, h.2.2⟩
  · rw [mz_cp_ne (by omega)]; exact h.1 j
  · rw [mz_cp_ne (by omega)]; exact h.2.1
theorem mz_w_arr {S0 : mz_Sh} {cI : ClassId} {ad : Nat → Nat} {m : mz_M} {i n : Nat} (h : S0[i]? = some (.inl n)) : (mz_w S0 cI ad m)[i]? = some (ad i, .inl (cI, n, .inl (m i))) := by
  rw [mz_w_at (mz_lt h), mz_cell, h]
theorem mz_w_obj {S0 : mz_Sh} {cI : ClassId} {ad : Nat → Nat} {m : mz_M} {i c : Nat} {fs : List Nat} (h : S0[i]? = some (.inr (c, fs))) : (mz_w S0 cI ad m)[i]? = some (ad i, .inr (c, fs.mapIdx (mz_fv ad m i))) := by
  rw [mz_w_at (mz_lt h), mz_cell, h]
theorem mz_get_spec {S0 : mz_Sh} {ad : Nat → Nat} {m : mz_M} {ci k i : Nat} {v : Value} (h : mz_get S0 m ci k i = some v) : ∃ fs, S0[i]? = some (.inr (ci, fs)) ∧ (fs.mapIdx (mz_fv ad m i))[k]? = some (mz_cvv ad v) := by
  unfold mz_get at h
  split at h
  · rename_i c fs hq
    obtain ⟨hb, h2⟩ := mz_cond h
    clear h
    have hc : c = ci := by simpa using hb
    subst hc
    refine ⟨fs, hq, ?_⟩
    rw [List.getElem?_mapIdx]
    split at h2
    · rename_i hk; rw [hk]; cases h2; rfl
    · rename_i hk; rw [hk]; cases h2; rfl
    · rename_i hk; rw [hk]; cases h2; rfl
    · rename_i hk; rw [hk]; cases h2; rfl
    · cases h2
  · cases h
theorem mz_put_spec {S0 : mz_Sh} {m m' : mz_M} {ci k i : Nat} {v : Value} (h : mz_put S0 m ci k i v = some m') : ∃ fs f x, S0[i]? = some (.inr (ci, fs)) ∧ fs[k]? = some f ∧ m' = mz_up m i k x ∧ ((f = 0 ∧ v = .int x) ∨ (f = 1 ∧ v = .int x ∧ (x = 0 ∨ x = 1)) ∨ (f = 2 ∧ ∃ r : Nat, v = .ref r ∧ r < 2004 ∧ x = nI r)) := by
  unfold mz_put at h
  split at h
  · rename_i c fs hq
    obtain ⟨hb, h2⟩ := mz_cond h
    clear h
    have hc : c = ci := by simpa using hb
    subst hc
    split at h2
    · rename_i x hk
      cases h2
      exact ⟨fs, 0, x, hq, hk, rfl, Or.inl ⟨rfl, rfl⟩⟩
    · rename_i x hk
      obtain ⟨hb2, h3⟩ := mz_cond h2
      clear h2
      cases h3
      exact ⟨fs, 1, x, hq, hk, rfl, Or.inr (Or.inl ⟨rfl, rfl, by simpa using hb2⟩)⟩
    · rename_i r hk
      obtain ⟨hb2, h3⟩ := mz_cond h2
      clear h2
      cases h3
      exact ⟨fs, 2, _, hq, hk, rfl, Or.inr (Or.inr ⟨rfl, r, rfl, (mz_isT_spec hb2).2, rfl⟩)⟩
    · cases h2
  · cases h
theorem mz_put_cell {S0 : mz_Sh} {cI : ClassId} {ad : Nat → Nat} {m : mz_M} {i ci k f : Nat} {fs : List Nat} {x : Int32} (h : S0[i]? = some (.inr (ci, fs))) (hk : fs[k]? = some f) : (mz_w S0 cI ad m).set i (ad i, .inr (ci, (fs.mapIdx (mz_fv ad m i)).set k (mz_fv ad (mz_up m i k x) i k f))) = mz_w S0 cI ad (mz_up m i k x) := by
  refine mz_w_set (mz_lt h) _ ?_ (fun j hj => mz_cell_ne (mz_up_ne hj))
  rw [mz_cell, h]
  refine congrArg (fun z => (Sum.inr (ci, z) : va_E)) ?_
  apply List.ext_getElem?
  intro j
  rw [List.getElem?_mapIdx]
  by_cases hj : k = j
  · subst hj
    rw [hk, List.getElem?_set_self (by rw [List.length_mapIdx]; exact (List.getElem?_eq_some_iff.mp hk).1)]
    rfl
  · rw [List.getElem?_set_ne hj, List.getElem?_mapIdx]
    congr 1
    funext g
    unfold mz_fv
    rw [mz_up_eq, if_neg (fun q => hj q.symm)]
theorem mz_arr_cell {S0 : mz_Sh} {cI : ClassId} {ad : Nat → Nat} {m m' : mz_M} {i n : Nat} {g : Nat → Int32} (h : S0[i]? = some (.inl n)) (hg : m' i = g) (ho : ∀ j, j ≠ i → m' j = m j) : (mz_w S0 cI ad m).set i (ad i, .inl (cI, n, .inl g)) = mz_w S0 cI ad m' := by
  refine mz_w_set (mz_lt h) _ ?_ (fun j hj => mz_cell_ne (ho j hj))
  rw [mz_cell, h, hg]

/-- a text by the wide instruction -/
theorem mz_ldcwStr {p : Program} {l : Launch} {e : Env} {R : Room} {s : State} {m : MethodId} {args : Array Value} {below : List Frame} {meth : Method} {c : Code} {T : State} {locs : List Loc} {cells slots : Nat}
    (X : Stand p l e R s m args below meth c T locs cells slots) (hexec : p.tables.exec = Jvm.exec) {own text : String} {index : Nat} {a : Addr} (hown : s.vm.findClass own = some m.cls)
    (hconst : (Jvm.Cond.stringRef own index text).before args s = true) (hev : (Term.string own index).eval args s none [] s = some (.ref a)) {g : JFrame} (hg : g.method = m) (hdg : decode c.code g.pc = .ok (.ldc_w index, 3)) :
    ∀ target, Steps p.tables e below (T.setTop { g with pc := g.pc + 3, stack := .ref a :: g.stack }) target → Steps p.tables e below (T.setTop g) target := by
  obtain ⟨k, cf, i, a', hk, hcf, hcp, -, hr, hev'⟩ := Cond.stringRef_spec hown hconst
  cases hev.symm.trans hev'
  obtain ⟨k', hk', he⟩ := X.warmed.alike.2.2 _ _ hk
  have hr' : k'.resolved[index]? = some (some (.string a)) := by
    rcases X.warmed.entry hk hk' index with h | ⟨h, -⟩
    · rw [h]; exact hr
    · rw [hr] at h; cases h
  obtain ⟨units, hu⟩ : ∃ u : Array UInt16, True := ⟨#[], trivial⟩
  intro target hrest
  subst hg
  jvm_step X.here [hexec, hdg, ldc_w.wp_string (e := e) (s := T) (f := g) X.here.top hk' (by rw [he]; exact hcf) hcp hr']
  exact hrest
theorem mz_ldcwS {p : Program} {l : Launch} {e : Env} {R : Room} {s : State} {m : MethodId} {args : Array Value} {below : List Frame} {meth : Method} {c : Code} {H : Heap} {locs : List Loc} {cells slots : Nat} {Q : State → Prop} {cc : ByteArray} {pc : Nat} {ls : Array Slot} {rest : List Value} (hexec : p.tables.exec = Jvm.exec) (hb : c.code = cc) {own tx : String} {index q : Nat} (hown : s.vm.findClass own = some m.cls) (hZ : vk_R own index tx q s) (hdg : decode cc pc = .ok (.ldc_w index, 3))
    (k : W p l e R s m args below meth c H locs cells slots Q (F0 m (pc + 3) ls (.ref q :: rest))) : W p l e R s m args below meth c H locs cells slots Q (F0 m pc ls rest) := by
  intro T hT X
  obtain ⟨t, a1, b1⟩ := k T hT X
  exact ⟨t, mz_ldcwStr X hexec hown (text := tx) (a := q) hZ.1 hZ.2 (g := F0 m pc ls rest) rfl (by rw [hb]; exact hdg) t a1, b1⟩

set_option maxHeartbeats 1000000 in
theorem mz_w_iadd {p : Program} {l : Launch} {e : Env} {R : Room} {s : State} {m : MethodId} {args : Array Value} {below : List Frame} {meth : Method} {c : Code} {cells slots : Nat} {Q : State → Prop} {S0 : mz_Sh} {T0 : List (List Int32)} {T : List mz_R} {cl : List vw_C} {NM : List String} {ST : List (String × Nat × String)} {G0 : List Jvm.Cond} {gt : Nat → Option Jvm.Cond} {D : va_G} {cI : ClassId} {ad : Nat → Nat} {A : Nat → Prop} {nL Ln : Nat} {xs : Nat → Int32} {own : String} {cc : ByteArray} (F : mz_Fix p R s m args c cells slots S0 T0 T cl NM ST G0 gt D cI ad A nL Ln xs own cc) {pc : Nat} {L : List (Option Value)} {S : List Value} {mem : mz_M} {f : mz_I} {c1 : mz_C} (hd : decode cc pc = .ok (.iadd, 1)) (hl : mz_lk T cl NM ST gt own (.iadd) f = true) (hs : mz_step S0 T0 (.iadd) f pc L S mem = some (.inl c1)) (k : mz_Z p l e R s m args below meth c cells slots Q S0 cl D cI ad A nL Ln xs c1.1 c1.2.1 c1.2.2.1 c1.2.2.2) : mz_Z p l e R s m args below meth c cells slots Q S0 cl D cI ad A nL Ln xs pc L S mem := by
  simp only [mz_step, mz_next] at hs
  split at hs
  · cases hs
    exact fun ls H locs h1 h2 h3 h4 => lv_iadd F.1.1 F.1.2.1 hd (k ls H locs h1 h2 h3 h4)
  · cases hs

set_option maxHeartbeats 1000000 in
theorem mz_w_isub {p : Program} {l : Launch} {e : Env} {R : Room} {s : State} {m : MethodId} {args : Array Value} {below : List Frame} {meth : Method} {c : Code} {cells slots : Nat} {Q : State → Prop} {S0 : mz_Sh} {T0 : List (List Int32)} {T : List mz_R} {cl : List vw_C} {NM : List String} {ST : List (String × Nat × String)} {G0 : List Jvm.Cond} {gt : Nat → Option Jvm.Cond} {D : va_G} {cI : ClassId} {ad : Nat → Nat} {A : Nat → Prop} {nL Ln : Nat} {xs : Nat → Int32} {own : String} {cc : ByteArray} (F : mz_Fix p R s m args c cells slots S0 T0 T cl NM ST G0 gt D cI ad A nL Ln xs own cc) {pc : Nat} {L : List (Option Value)} {S : List Value} {mem : mz_M} {f : mz_I} {c1 : mz_C} (hd : decode cc pc = .ok (.isub, 1)) (hl : mz_lk T cl NM ST gt own (.isub) f = true) (hs : mz_step S0 T0 (.isub) f pc L S mem = some (.inl c1)) (k : mz_Z p l e R s m args below meth c cells slots Q S0 cl D cI ad A nL Ln xs c1.1 c1.2.1 c1.2.2.1 c1.2.2.2) : mz_Z p l e R s m args below meth c cells slots Q S0 cl D cI ad A nL Ln xs pc L S mem := by
  simp only [mz_step, mz_next] at hs
  split at hs
  · cases hs
    exact fun ls H locs h1 h2 h3 h4 => lv_isub F.1.1 F.1.2.1 hd (k ls H locs h1 h2 h3 h4)
  · cases hs

set_option maxHeartbeats 1000000 in
theorem mz_w_imul {p : Program} {l : Launch} {e : Env} {R : Room} {s : State} {m : MethodId} {args : Array Value} {below : List Frame} {meth : Method} {c : Code} {cells slots : Nat} {Q : State → Prop} {S0 : mz_Sh} {T0 : List (List Int32)} {T : List mz_R} {cl : List vw_C} {NM : List String} {ST : List (String × Nat × String)} {G0 : List Jvm.Cond} {gt : Nat → Option Jvm.Cond} {D : va_G} {cI : ClassId} {ad : Nat → Nat} {A : Nat → Prop} {nL Ln : Nat} {xs : Nat → Int32} {own : String} {cc : ByteArray} (F : mz_Fix p R s m args c cells slots S0 T0 T cl NM ST G0 gt D cI ad A nL Ln xs own cc) {pc : Nat} {L : List (Option Value)} {S : List Value} {mem : mz_M} {f : mz_I} {c1 : mz_C} (hd : decode cc pc = .ok (.imul, 1)) (hl : mz_lk T cl NM ST gt own (.imul) f = true) (hs : mz_step S0 T0 (.imul) f pc L S mem = some (.inl c1)) (k : mz_Z p l e R s m args below meth c cells slots Q S0 cl D cI ad A nL Ln xs c1.1 c1.2.1 c1.2.2.1 c1.2.2.2) : mz_Z p l e R s m args below meth c cells slots Q S0 cl D cI ad A nL Ln xs pc L S mem := by
  simp only [mz_step, mz_next] at hs
  split at hs
  · cases hs
    exact fun ls H locs h1 h2 h3 h4 => lv_imul F.1.1 F.1.2.1 hd (k ls H locs h1 h2 h3 h4)
  · cases hs

set_option maxHeartbeats 1000000 in
theorem mz_w_ineg {p : Program} {l : Launch} {e : Env} {R : Room} {s : State} {m : MethodId} {args : Array Value} {below : List Frame} {meth : Method} {c : Code} {cells slots : Nat} {Q : State → Prop} {S0 : mz_Sh} {T0 : List (List Int32)} {T : List mz_R} {cl : List vw_C} {NM : List String} {ST : List (String × Nat × String)} {G0 : List Jvm.Cond} {gt : Nat → Option Jvm.Cond} {D : va_G} {cI : ClassId} {ad : Nat → Nat} {A : Nat → Prop} {nL Ln : Nat} {xs : Nat → Int32} {own : String} {cc : ByteArray} (F : mz_Fix p R s m args c cells slots S0 T0 T cl NM ST G0 gt D cI ad A nL Ln xs own cc) {pc : Nat} {L : List (Option Value)} {S : List Value} {mem : mz_M} {f : mz_I} {c1 : mz_C} (hd : decode cc pc = .ok (.ineg, 1)) (hl : mz_lk T cl NM ST gt own (.ineg) f = true) (hs : mz_step S0 T0 (.ineg) f pc L S mem = some (.inl c1)) (k : mz_Z p l e R s m args below meth c cells slots Q S0 cl D cI ad A nL Ln xs c1.1 c1.2.1 c1.2.2.1 c1.2.2.2) : mz_Z p l e R s m args below meth c cells slots Q S0 cl D cI ad A nL Ln xs pc L S mem := by
  simp only [mz_step, mz_next] at hs
  split at hs
  · cases hs
    exact fun ls H locs h1 h2 h3 h4 => lv_ineg F.1.1 F.1.2.1 hd (k ls H locs h1 h2 h3 h4)
  · cases hs

set_option maxHeartbeats 1000000 in
theorem mz_w_iand {p : Program} {l : Launch} {e : Env} {R : Room} {s : State} {m : MethodId} {args : Array Value} {below : List Frame} {meth : Method} {c : Code} {cells slots : Nat} {Q : State → Prop} {S0 : mz_Sh} {T0 : List (List Int32)} {T : List mz_R} {cl : List vw_C} {NM : List String} {ST : List (String × Nat × String)} {G0 : List Jvm.Cond} {gt : Nat → Option Jvm.Cond} {D : va_G} {cI : ClassId} {ad : Nat → Nat} {A : Nat → Prop} {nL Ln : Nat} {xs : Nat → Int32} {own : String} {cc : ByteArray} (F : mz_Fix p R s m args c cells slots S0 T0 T cl NM ST G0 gt D cI ad A nL Ln xs own cc) {pc : Nat} {L : List (Option Value)} {S : List Value} {mem : mz_M} {f : mz_I} {c1 : mz_C} (hd : decode cc pc = .ok (.iand, 1)) (hl : mz_lk T cl NM ST gt own (.iand) f = true) (hs : mz_step S0 T0 (.iand) f pc L S mem = some (.inl c1)) (k : mz_Z p l e R s m args below meth c cells slots Q S0 cl D cI ad A nL Ln xs c1.1 c1.2.1 c1.2.2.1 c1.2.2.2) : mz_Z p l e R s m args below meth c cells slots Q S0 cl D cI ad A nL Ln xs pc L S mem := by
  simp only [mz_step, mz_next] at hs
  split at hs
  · cases hs
    exact fun ls H locs h1 h2 h3 h4 => lv_iand F.1.1 F.1.2.1 hd (k ls H locs h1 h2 h3 h4)
  · cases hs

set_option maxHeartbeats 1000000 in
theorem mz_w_ior {p : Program} {l : Launch} {e : Env} {R : Room} {s : State} {m : MethodId} {args : Array Value} {below : List Frame} {meth : Method} {c : Code} {cells slots : Nat} {Q : State → Prop} {S0 : mz_Sh} {T0 : List (List Int32)} {T : List mz_R} {cl : List vw_C} {NM : List String} {ST : List (String × Nat × String)} {G0 : List Jvm.Cond} {gt : Nat → Option Jvm.Cond} {D : va_G} {cI : ClassId} {ad : Nat → Nat} {A : Nat → Prop} {nL Ln : Nat} {xs : Nat → Int32} {own : String} {cc : ByteArray} (F : mz_Fix p R s m args c cells slots S0 T0 T cl NM ST G0 gt D cI ad A nL Ln xs own cc) {pc : Nat} {L : List (Option Value)} {S : List Value} {mem : mz_M} {f : mz_I} {c1 : mz_C} (hd : decode cc pc = .ok (.ior, 1)) (hl : mz_lk T cl NM ST gt own (.ior) f = true) (hs : mz_step S0 T0 (.ior) f pc L S mem = some (.inl c1)) (k : mz_Z p l e R s m args below meth c cells slots Q S0 cl D cI ad A nL Ln xs c1.1 c1.2.1 c1.2.2.1 c1.2.2.2) : mz_Z p l e R s m args below meth c cells slots Q S0 cl D cI ad A nL Ln xs pc L S mem := by
  simp only [mz_step, mz_next] at hs
  split at hs
  · cases hs
    exact fun ls H locs h1 h2 h3 h4 => lv_ior F.1.1 F.1.2.1 hd (k ls H locs h1 h2 h3 h4)
  · cases hs

set_option maxHeartbeats 1000000 in
theorem mz_w_ixor {p : Program} {l : Launch} {e : Env} {R : Room} {s : State} {m : MethodId} {args : Array Value} {below : List Frame} {meth : Method} {c : Code} {cells slots : Nat} {Q : State → Prop} {S0 : mz_Sh} {T0 : List (List Int32)} {T : List mz_R} {cl : List vw_C} {NM : List String} {ST : List (String × Nat × String)} {G0 : List Jvm.Cond} {gt : Nat → Option Jvm.Cond} {D : va_G} {cI : ClassId} {ad : Nat → Nat} {A : Nat → Prop} {nL Ln : Nat} {xs : Nat → Int32} {own : String} {cc : ByteArray} (F : mz_Fix p R s m args c cells slots S0 T0 T cl NM ST G0 gt D cI ad A nL Ln xs own cc) {pc : Nat} {L : List (Option Value)} {S : List Value} {mem : mz_M} {f : mz_I} {c1 : mz_C} (hd : decode cc pc = .ok (.ixor, 1)) (hl : mz_lk T cl NM ST gt own (.ixor) f = true) (hs : mz_step S0 T0 (.ixor) f pc L S mem = some (.inl c1)) (k : mz_Z p l e R s m args below meth c cells slots Q S0 cl D cI ad A nL Ln xs c1.1 c1.2.1 c1.2.2.1 c1.2.2.2) : mz_Z p l e R s m args below meth c cells slots Q S0 cl D cI ad A nL Ln xs pc L S mem := by
  simp only [mz_step, mz_next] at hs
  split at hs
  · cases hs
    exact fun ls H locs h1 h2 h3 h4 => lv_ixor F.1.1 F.1.2.1 hd (k ls H locs h1 h2 h3 h4)
  · cases hs

set_option maxHeartbeats 1000000 in
theorem mz_w_ishl {p : Program} {l : Launch} {e : Env} {R : Room} {s : State} {m : MethodId} {args : Array Value} {below : List Frame} {meth : Method} {c : Code} {cells slots : Nat} {Q : State → Prop} {S0 : mz_Sh} {T0 : List (List Int32)} {T : List mz_R} {cl : List vw_C} {NM : List String} {ST : List (String × Nat × String)} {G0 : List Jvm.Cond} {gt : Nat → Option Jvm.Cond} {D : va_G} {cI : ClassId} {ad : Nat → Nat} {A : Nat → Prop} {nL Ln : Nat} {xs : Nat → Int32} {own : String} {cc : ByteArray} (F : mz_Fix p R s m args c cells slots S0 T0 T cl NM ST G0 gt D cI ad A nL Ln xs own cc) {pc : Nat} {L : List (Option Value)} {S : List Value} {mem : mz_M} {f : mz_I} {c1 : mz_C} (hd : decode cc pc = .ok (.ishl, 1)) (hl : mz_lk T cl NM ST gt own (.ishl) f = true) (hs : mz_step S0 T0 (.ishl) f pc L S mem = some (.inl c1)) (k : mz_Z p l e R s m args below meth c cells slots Q S0 cl D cI ad A nL Ln xs c1.1 c1.2.1 c1.2.2.1 c1.2.2.2) : mz_Z p l e R s m args below meth c cells slots Q S0 cl D cI ad A nL Ln xs pc L S mem := by
  simp only [mz_step, mz_next] at hs
  split at hs
  · cases hs
    exact fun ls H locs h1 h2 h3 h4 => lv_ishl F.1.1 F.1.2.1 hd (k ls H locs h1 h2 h3 h4)
  · cases hs

set_option maxHeartbeats 1000000 in
theorem mz_w_ishr {p : Program} {l : Launch} {e : Env} {R : Room} {s : State} {m : MethodId} {args : Array Value} {below : List Frame} {meth : Method} {c : Code} {cells slots : Nat} {Q : State → Prop} {S0 : mz_Sh} {T0 : List (List Int32)} {T : List mz_R} {cl : List vw_C} {NM : List String} {ST : List (String × Nat × String)} {G0 : List Jvm.Cond} {gt : Nat → Option Jvm.Cond} {D : va_G} {cI : ClassId} {ad : Nat → Nat} {A : Nat → Prop} {nL Ln : Nat} {xs : Nat → Int32} {own : String} {cc : ByteArray} (F : mz_Fix p R s m args c cells slots S0 T0 T cl NM ST G0 gt D cI ad A nL Ln xs own cc) {pc : Nat} {L : List (Option Value)} {S : List Value} {mem : mz_M} {f : mz_I} {c1 : mz_C} (hd : decode cc pc = .ok (.ishr, 1)) (hl : mz_lk T cl NM ST gt own (.ishr) f = true) (hs : mz_step S0 T0 (.ishr) f pc L S mem = some (.inl c1)) (k : mz_Z p l e R s m args below meth c cells slots Q S0 cl D cI ad A nL Ln xs c1.1 c1.2.1 c1.2.2.1 c1.2.2.2) : mz_Z p l e R s m args below meth c cells slots Q S0 cl D cI ad A nL Ln xs pc L S mem := by
  simp only [mz_step, mz_next] at hs
  split at hs
  · cases hs
    exact fun ls H locs h1 h2 h3 h4 => lv_ishr F.1.1 F.1.2.1 hd (k ls H locs h1 h2 h3 h4)
  · cases hs

set_option maxHeartbeats 1000000 in
theorem mz_w_land {p : Program} {l : Launch} {e : Env} {R : Room} {s : State} {m : MethodId} {args : Array Value} {below : List Frame} {meth : Method} {c : Code} {cells slots : Nat} {Q : State → Prop} {S0 : mz_Sh} {T0 : List (List Int32)} {T : List mz_R} {cl : List vw_C} {NM : List String} {ST : List (String × Nat × String)} {G0 : List Jvm.Cond} {gt : Nat → Option Jvm.Cond} {D : va_G} {cI : ClassId} {ad : Nat → Nat} {A : Nat → Prop} {nL Ln : Nat} {xs : Nat → Int32} {own : String} {cc : ByteArray} (F : mz_Fix p R s m args c cells slots S0 T0 T cl NM ST G0 gt D cI ad A nL Ln xs own cc) {pc : Nat} {L : List (Option Value)} {S : List Value} {mem : mz_M} {f : mz_I} {c1 : mz_C} (hd : decode cc pc = .ok (.land, 1)) (hl : mz_lk T cl NM ST gt own (.land) f = true) (hs : mz_step S0 T0 (.land) f pc L S mem = some (.inl c1)) (k : mz_Z p l e R s m args below meth c cells slots Q S0 cl D cI ad A nL Ln xs c1.1 c1.2.1 c1.2.2.1 c1.2.2.2) : mz_Z p l e R s m args below meth c cells slots Q S0 cl D cI ad A nL Ln xs pc L S mem := by
  simp only [mz_step, mz_next] at hs
  split at hs
  · cases hs
    exact fun ls H locs h1 h2 h3 h4 => lv_land F.1.1 F.1.2.1 hd (k ls H locs h1 h2 h3 h4)
  · cases hs

set_option maxHeartbeats 1000000 in
theorem mz_w_lor {p : Program} {l : Launch} {e : Env} {R : Room} {s : State} {m : MethodId} {args : Array Value} {below : List Frame} {meth : Method} {c : Code} {cells slots : Nat} {Q : State → Prop} {S0 : mz_Sh} {T0 : List (List Int32)} {T : List mz_R} {cl : List vw_C} {NM : List String} {ST : List (String × Nat × String)} {G0 : List Jvm.Cond} {gt : Nat → Option Jvm.Cond} {D : va_G} {cI : ClassId} {ad : Nat → Nat} {A : Nat → Prop} {nL Ln : Nat} {xs : Nat → Int32} {own : String} {cc : ByteArray} (F : mz_Fix p R s m args c cells slots S0 T0 T cl NM ST G0 gt D cI ad A nL Ln xs own cc) {pc : Nat} {L : List (Option Value)} {S : List Value} {mem : mz_M} {f : mz_I} {c1 : mz_C} (hd : decode cc pc = .ok (.lor, 1)) (hl : mz_lk T cl NM ST gt own (.lor) f = true) (hs : mz_step S0 T0 (.lor) f pc L S mem = some (.inl c1)) (k : mz_Z p l e R s m args below meth c cells slots Q S0 cl D cI ad A nL Ln xs c1.1 c1.2.1 c1.2.2.1 c1.2.2.2) : mz_Z p l e R s m args below meth c cells slots Q S0 cl D cI ad A nL Ln xs pc L S mem := by
  simp only [mz_step, mz_next] at hs
  split at hs
  · cases hs
    exact fun ls H locs h1 h2 h3 h4 => lv_lor F.1.1 F.1.2.1 hd (k ls H locs h1 h2 h3 h4)
  · cases hs

set_option maxHeartbeats 1000000 in
theorem mz_w_iushr {p : Program} {l : Launch} {e : Env} {R : Room} {s : State} {m : MethodId} {args : Array Value} {below : List Frame} {meth : Method} {c : Code} {cells slots : Nat} {Q : State → Prop} {S0 : mz_Sh} {T0 : List (List Int32)} {T : List mz_R} {cl : List vw_C} {NM : List String} {ST : List (String × Nat × String)} {G0 : List Jvm.Cond} {gt : Nat → Option Jvm.Cond} {D : va_G} {cI : ClassId} {ad : Nat → Nat} {A : Nat → Prop} {nL Ln : Nat} {xs : Nat → Int32} {own : String} {cc : ByteArray} (F : mz_Fix p R s m args c cells slots S0 T0 T cl NM ST G0 gt D cI ad A nL Ln xs own cc) {pc : Nat} {L : List (Option Value)} {S : List Value} {mem : mz_M} {f : mz_I} {c1 : mz_C} (hd : decode cc pc = .ok (.iushr, 1)) (hl : mz_lk T cl NM ST gt own (.iushr) f = true) (hs : mz_step S0 T0 (.iushr) f pc L S mem = some (.inl c1)) (k : mz_Z p l e R s m args below meth c cells slots Q S0 cl D cI ad A nL Ln xs c1.1 c1.2.1 c1.2.2.1 c1.2.2.2) : mz_Z p l e R s m args below meth c cells slots Q S0 cl D cI ad A nL Ln xs pc L S mem := by
  simp only [mz_step, mz_next] at hs
  split at hs
  · cases hs
    exact fun ls H locs h1 h2 h3 h4 => lv_iushr F.1.1 F.1.2.1 hd rfl (k ls H locs h1 h2 h3 h4)
  · cases hs

set_option maxHeartbeats 1000000 in
theorem mz_w_lushr {p : Program} {l : Launch} {e : Env} {R : Room} {s : State} {m : MethodId} {args : Array Value} {below : List Frame} {meth : Method} {c : Code} {cells slots : Nat} {Q : State → Prop} {S0 : mz_Sh} {T0 : List (List Int32)} {T : List mz_R} {cl : List vw_C} {NM : List String} {ST : List (String × Nat × String)} {G0 : List Jvm.Cond} {gt : Nat → Option Jvm.Cond} {D : va_G} {cI : ClassId} {ad : Nat → Nat} {A : Nat → Prop} {nL Ln : Nat} {xs : Nat → Int32} {own : String} {cc : ByteArray} (F : mz_Fix p R s m args c cells slots S0 T0 T cl NM ST G0 gt D cI ad A nL Ln xs own cc) {pc : Nat} {L : List (Option Value)} {S : List Value} {mem : mz_M} {f : mz_I} {c1 : mz_C} (hd : decode cc pc = .ok (.lushr, 1)) (hl : mz_lk T cl NM ST gt own (.lushr) f = true) (hs : mz_step S0 T0 (.lushr) f pc L S mem = some (.inl c1)) (k : mz_Z p l e R s m args below meth c cells slots Q S0 cl D cI ad A nL Ln xs c1.1 c1.2.1 c1.2.2.1 c1.2.2.2) : mz_Z p l e R s m args below meth c cells slots Q S0 cl D cI ad A nL Ln xs pc L S mem := by
  simp only [mz_step, mz_next] at hs
  split at hs
  · cases hs
    exact fun ls H locs h1 h2 h3 h4 => lv_lushr F.1.1 F.1.2.1 hd rfl (k ls H locs h1 h2 h3 h4)
  · cases hs

set_option maxHeartbeats 1000000 in
theorem mz_w_lshl {p : Program} {l : Launch} {e : Env} {R : Room} {s : State} {m : MethodId} {args : Array Value} {below : List Frame} {meth : Method} {c : Code} {cells slots : Nat} {Q : State → Prop} {S0 : mz_Sh} {T0 : List (List Int32)} {T : List mz_R} {cl : List vw_C} {NM : List String} {ST : List (String × Nat × String)} {G0 : List Jvm.Cond} {gt : Nat → Option Jvm.Cond} {D : va_G} {cI : ClassId} {ad : Nat → Nat} {A : Nat → Prop} {nL Ln : Nat} {xs : Nat → Int32} {own : String} {cc : ByteArray} (F : mz_Fix p R s m args c cells slots S0 T0 T cl NM ST G0 gt D cI ad A nL Ln xs own cc) {pc : Nat} {L : List (Option Value)} {S : List Value} {mem : mz_M} {f : mz_I} {c1 : mz_C} (hd : decode cc pc = .ok (.lshl, 1)) (hl : mz_lk T cl NM ST gt own (.lshl) f = true) (hs : mz_step S0 T0 (.lshl) f pc L S mem = some (.inl c1)) (k : mz_Z p l e R s m args below meth c cells slots Q S0 cl D cI ad A nL Ln xs c1.1 c1.2.1 c1.2.2.1 c1.2.2.2) : mz_Z p l e R s m args below meth c cells slots Q S0 cl D cI ad A nL Ln xs pc L S mem := by
  simp only [mz_step, mz_next] at hs
  split at hs
  · cases hs
    exact fun ls H locs h1 h2 h3 h4 => lv_lshl F.1.1 F.1.2.1 hd rfl (k ls H locs h1 h2 h3 h4)
  · cases hs

set_option maxHeartbeats 1000000 in
theorem mz_w_lshr {p : Program} {l : Launch} {e : Env} {R : Room} {s : State} {m : MethodId} {args : Array Value} {below : List Frame} {meth : Method} {c : Code} {cells slots : Nat} {Q : State → Prop} {S0 : mz_Sh} {T0 : List (List Int32)} {T : List mz_R} {cl : List vw_C} {NM : List String} {ST : List (String × Nat × String)} {G0 : List Jvm.Cond} {gt : Nat → Option Jvm.Cond} {D : va_G} {cI : ClassId} {ad : Nat → Nat} {A : Nat → Prop} {nL Ln : Nat} {xs : Nat → Int32} {own : String} {cc : ByteArray} (F : mz_Fix p R s m args c cells slots S0 T0 T cl NM ST G0 gt D cI ad A nL Ln xs own cc) {pc : Nat} {L : List (Option Value)} {S : List Value} {mem : mz_M} {f : mz_I} {c1 : mz_C} (hd : decode cc pc = .ok (.lshr, 1)) (hl : mz_lk T cl NM ST gt own (.lshr) f = true) (hs : mz_step S0 T0 (.lshr) f pc L S mem = some (.inl c1)) (k : mz_Z p l e R s m args below meth c cells slots Q S0 cl D cI ad A nL Ln xs c1.1 c1.2.1 c1.2.2.1 c1.2.2.2) : mz_Z p l e R s m args below meth c cells slots Q S0 cl D cI ad A nL Ln xs pc L S mem := by
  simp only [mz_step, mz_next] at hs
  split at hs
  · cases hs
    exact fun ls H locs h1 h2 h3 h4 => lv_lshr F.1.1 F.1.2.1 hd rfl (k ls H locs h1 h2 h3 h4)
  · cases hs

set_option maxHeartbeats 1000000 in
theorem mz_w_i2l {p : Program} {l : Launch} {e : Env} {R : Room} {s : State} {m : MethodId} {args : Array Value} {below : List Frame} {meth : Method} {c : Code} {cells slots : Nat} {Q : State → Prop} {S0 : mz_Sh} {T0 : List (List Int32)} {T : List mz_R} {cl : List vw_C} {NM : List String} {ST : List (String × Nat × String)} {G0 : List Jvm.Cond} {gt : Nat → Option Jvm.Cond} {D : va_G} {cI : ClassId} {ad : Nat → Nat} {A : Nat → Prop} {nL Ln : Nat} {xs : Nat → Int32} {own : String} {cc : ByteArray} (F : mz_Fix p R s m args c cells slots S0 T0 T cl NM ST G0 gt D cI ad A nL Ln xs own cc) {pc : Nat} {L : List (Option Value)} {S : List Value} {mem : mz_M} {f : mz_I} {c1 : mz_C} (hd : decode cc pc = .ok (.i2l, 1)) (hl : mz_lk T cl NM ST gt own (.i2l) f = true) (hs : mz_step S0 T0 (.i2l) f pc L S mem = some (.inl c1)) (k : mz_Z p l e R s m args below meth c cells slots Q S0 cl D cI ad A nL Ln xs c1.1 c1.2.1 c1.2.2.1 c1.2.2.2) : mz_Z p l e R s m args below meth c cells slots Q S0 cl D cI ad A nL Ln xs pc L S mem := by
  simp only [mz_step, mz_next] at hs
  split at hs
  · cases hs
    exact fun ls H locs h1 h2 h3 h4 => lv_i2l F.1.1 F.1.2.1 hd rfl (k ls H locs h1 h2 h3 h4)
  · cases hs

set_option maxHeartbeats 1000000 in
theorem mz_w_l2i {p : Program} {l : Launch} {e : Env} {R : Room} {s : State} {m : MethodId} {args : Array Value} {below : List Frame} {meth : Method} {c : Code} {cells slots : Nat} {Q : State → Prop} {S0 : mz_Sh} {T0 : List (List Int32)} {T : List mz_R} {cl : List vw_C} {NM : List String} {ST : List (String × Nat × String)} {G0 : List Jvm.Cond} {gt : Nat → Option Jvm.Cond} {D : va_G} {cI : ClassId} {ad : Nat → Nat} {A : Nat → Prop} {nL Ln : Nat} {xs : Nat → Int32} {own : String} {cc : ByteArray} (F : mz_Fix p R s m args c cells slots S0 T0 T cl NM ST G0 gt D cI ad A nL Ln xs own cc) {pc : Nat} {L : List (Option Value)} {S : List Value} {mem : mz_M} {f : mz_I} {c1 : mz_C} (hd : decode cc pc = .ok (.l2i, 1)) (hl : mz_lk T cl NM ST gt own (.l2i) f = true) (hs : mz_step S0 T0 (.l2i) f pc L S mem = some (.inl c1)) (k : mz_Z p l e R s m args below meth c cells slots Q S0 cl D cI ad A nL Ln xs c1.1 c1.2.1 c1.2.2.1 c1.2.2.2) : mz_Z p l e R s m args below meth c cells slots Q S0 cl D cI ad A nL Ln xs pc L S mem := by
  simp only [mz_step, mz_next] at hs
  split at hs
  · cases hs
    exact fun ls H locs h1 h2 h3 h4 => lv_l2i F.1.1 F.1.2.1 hd rfl (k ls H locs h1 h2 h3 h4)
  · cases hs

set_option maxHeartbeats 1000000 in
theorem mz_w_i2b {p : Program} {l : Launch} {e : Env} {R : Room} {s : State} {m : MethodId} {args : Array Value} {below : List Frame} {meth : Method} {c : Code} {cells slots : Nat} {Q : State → Prop} {S0 : mz_Sh} {T0 : List (List Int32)} {T : List mz_R} {cl : List vw_C} {NM : List String} {ST : List (String × Nat × String)} {G0 : List Jvm.Cond} {gt : Nat → Option Jvm.Cond} {D : va_G} {cI : ClassId} {ad : Nat → Nat} {A : Nat → Prop} {nL Ln : Nat} {xs : Nat → Int32} {own : String} {cc : ByteArray} (F : mz_Fix p R s m args c cells slots S0 T0 T cl NM ST G0 gt D cI ad A nL Ln xs own cc) {pc : Nat} {L : List (Option Value)} {S : List Value} {mem : mz_M} {f : mz_I} {c1 : mz_C} (hd : decode cc pc = .ok (.i2b, 1)) (hl : mz_lk T cl NM ST gt own (.i2b) f = true) (hs : mz_step S0 T0 (.i2b) f pc L S mem = some (.inl c1)) (k : mz_Z p l e R s m args below meth c cells slots Q S0 cl D cI ad A nL Ln xs c1.1 c1.2.1 c1.2.2.1 c1.2.2.2) : mz_Z p l e R s m args below meth c cells slots Q S0 cl D cI ad A nL Ln xs pc L S mem := by
  simp only [mz_step, mz_next] at hs
  split at hs
  · cases hs
    exact fun ls H locs h1 h2 h3 h4 => lv_i2b F.1.1 F.1.2.1 hd rfl (k ls H locs h1 h2 h3 h4)
  · cases hs

set_option maxHeartbeats 1000000 in
theorem mz_w_i2s {p : Program} {l : Launch} {e : Env} {R : Room} {s : State} {m : MethodId} {args : Array Value} {below : List Frame} {meth : Method} {c : Code} {cells slots : Nat} {Q : State → Prop} {S0 : mz_Sh} {T0 : List (List Int32)} {T : List mz_R} {cl : List vw_C} {NM : List String} {ST : List (String × Nat × String)} {G0 : List Jvm.Cond} {gt : Nat → Option Jvm.Cond} {D : va_G} {cI : ClassId} {ad : Nat → Nat} {A : Nat → Prop} {nL Ln : Nat} {xs : Nat → Int32} {own : String} {cc : ByteArray} (F : mz_Fix p R s m args c cells slots S0 T0 T cl NM ST G0 gt D cI ad A nL Ln xs own cc) {pc : Nat} {L : List (Option Value)} {S : List Value} {mem : mz_M} {f : mz_I} {c1 : mz_C} (hd : decode cc pc = .ok (.i2s, 1)) (hl : mz_lk T cl NM ST gt own (.i2s) f = true) (hs : mz_step S0 T0 (.i2s) f pc L S mem = some (.inl c1)) (k : mz_Z p l e R s m args below meth c cells slots Q S0 cl D cI ad A nL Ln xs c1.1 c1.2.1 c1.2.2.1 c1.2.2.2) : mz_Z p l e R s m args below meth c cells slots Q S0 cl D cI ad A nL Ln xs pc L S mem := by
  simp only [mz_step, mz_next] at hs
  split at hs
  · cases hs
    exact fun ls H locs h1 h2 h3 h4 => lv_i2s F.1.1 F.1.2.1 hd rfl (k ls H locs h1 h2 h3 h4)
  · cases hs

set_option maxHeartbeats 1000000 in
theorem mz_w_i2c {p : Program} {l : Launch} {e : Env} {R : Room} {s : State} {m : MethodId} {args : Array Value} {below : List Frame} {meth : Method} {c : Code} {cells slots : Nat} {Q : State → Prop} {S0 : mz_Sh} {T0 : List (List Int32)} {T : List mz_R} {cl : List vw_C} {NM : List String} {ST : List (String × Nat × String)} {G0 : List Jvm.Cond} {gt : Nat → Option Jvm.Cond} {D : va_G} {cI : ClassId} {ad : Nat → Nat} {A : Nat → Prop} {nL Ln : Nat} {xs : Nat → Int32} {own : String} {cc : ByteArray} (F : mz_Fix p R s m args c cells slots S0 T0 T cl NM ST G0 gt D cI ad A nL Ln xs own cc) {pc : Nat} {L : List (Option Value)} {S : List Value} {mem : mz_M} {f : mz_I} {c1 : mz_C} (hd : decode cc pc = .ok (.i2c, 1)) (hl : mz_lk T cl NM ST gt own (.i2c) f = true) (hs : mz_step S0 T0 (.i2c) f pc L S mem = some (.inl c1)) (k : mz_Z p l e R s m args below meth c cells slots Q S0 cl D cI ad A nL Ln xs c1.1 c1.2.1 c1.2.2.1 c1.2.2.2) : mz_Z p l e R s m args below meth c cells slots Q S0 cl D cI ad A nL Ln xs pc L S mem := by
  simp only [mz_step, mz_next] at hs
  split at hs
  · cases hs
    exact fun ls H locs h1 h2 h3 h4 => lv_i2c F.1.1 F.1.2.1 hd rfl (k ls H locs h1 h2 h3 h4)
  · cases hs

set_option maxHeartbeats 1000000 in
theorem mz_w_idiv {p : Program} {l : Launch} {e : Env} {R : Room} {s : State} {m : MethodId} {args : Array Value} {below : List Frame} {meth : Method} {c : Code} {cells slots : Nat} {Q : State → Prop} {S0 : mz_Sh} {T0 : List (List Int32)} {T : List mz_R} {cl : List vw_C} {NM : List String} {ST : List (String × Nat × String)} {G0 : List Jvm.Cond} {gt : Nat → Option Jvm.Cond} {D : va_G} {cI : ClassId} {ad : Nat → Nat} {A : Nat → Prop} {nL Ln : Nat} {xs : Nat → Int32} {own : String} {cc : ByteArray} (F : mz_Fix p R s m args c cells slots S0 T0 T cl NM ST G0 gt D cI ad A nL Ln xs own cc) {pc : Nat} {L : List (Option Value)} {S : List Value} {mem : mz_M} {f : mz_I} {c1 : mz_C} (hd : decode cc pc = .ok (.idiv, 1)) (hl : mz_lk T cl NM ST gt own (.idiv) f = true) (hs : mz_step S0 T0 (.idiv) f pc L S mem = some (.inl c1)) (k : mz_Z p l e R s m args below meth c cells slots Q S0 cl D cI ad A nL Ln xs c1.1 c1.2.1 c1.2.2.1 c1.2.2.2) : mz_Z p l e R s m args below meth c cells slots Q S0 cl D cI ad A nL Ln xs pc L S mem := by
  simp only [mz_step, mz_next] at hs
  split at hs
  · obtain ⟨hb, hs⟩ := mz_condn hs
    cases hs
    exact fun ls H locs h1 h2 h3 h4 => lv_idiv F.1.1 F.1.2.1 hd (by simpa using hb) (k ls H locs h1 h2 h3 h4)
  · cases hs

set_option maxHeartbeats 1000000 in
theorem mz_w_irem {p : Program} {l : Launch} {e : Env} {R : Room} {s : State} {m : MethodId} {args : Array Value} {below : List Frame} {meth : Method} {c : Code} {cells slots : Nat} {Q : State → Prop} {S0 : mz_Sh} {T0 : List (List Int32)} {T : List mz_R} {cl : List vw_C} {NM : List String} {ST : List (String × Nat × String)} {G0 : List Jvm.Cond} {gt : Nat → Option Jvm.Cond} {D : va_G} {cI : ClassId} {ad : Nat → Nat} {A : Nat → Prop} {nL Ln : Nat} {xs : Nat → Int32} {own : String} {cc : ByteArray} (F : mz_Fix p R s m args c cells slots S0 T0 T cl NM ST G0 gt D cI ad A nL Ln xs own cc) {pc : Nat} {L : List (Option Value)} {S : List Value} {mem : mz_M} {f : mz_I} {c1 : mz_C} (hd : decode cc pc = .ok (.irem, 1)) (hl : mz_lk T cl NM ST gt own (.irem) f = true) (hs : mz_step S0 T0 (.irem) f pc L S mem = some (.inl c1)) (k : mz_Z p l e R s m args below meth c cells slots Q S0 cl D cI ad A nL Ln xs c1.1 c1.2.1 c1.2.2.1 c1.2.2.2) : mz_Z p l e R s m args below meth c cells slots Q S0 cl D cI ad A nL Ln xs pc L S mem := by
  simp only [mz_step, mz_next] at hs
  split at hs
  · obtain ⟨hb, hs⟩ := mz_condn hs
    cases hs
    exact fun ls H locs h1 h2 h3 h4 => lv_irem F.1.1 F.1.2.1 hd (by simpa using hb) (k ls H locs h1 h2 h3 h4)
  · cases hs

set_option maxHeartbeats 1000000 in
theorem mz_w_iconst {p : Program} {l : Launch} {e : Env} {R : Room} {s : State} {m : MethodId} {args : Array Value} {below : List Frame} {meth : Method} {c : Code} {cells slots : Nat} {Q : State → Prop} {S0 : mz_Sh} {T0 : List (List Int32)} {T : List mz_R} {cl : List vw_C} {NM : List String} {ST : List (String × Nat × String)} {G0 : List Jvm.Cond} {gt : Nat → Option Jvm.Cond} {D : va_G} {cI : ClassId} {ad : Nat → Nat} {A : Nat → Prop} {nL Ln : Nat} {xs : Nat → Int32} {own : String} {cc : ByteArray} (F : mz_Fix p R s m args c cells slots S0 T0 T cl NM ST G0 gt D cI ad A nL Ln xs own cc) {pc : Nat} {L : List (Option Value)} {S : List Value} {mem : mz_M} {f : mz_I} {c1 : mz_C} {n : Int} (hd : decode cc pc = .ok (.iconst n, 1)) (hl : mz_lk T cl NM ST gt own (.iconst n) f = true) (hs : mz_step S0 T0 (.iconst n) f pc L S mem = some (.inl c1)) (k : mz_Z p l e R s m args below meth c cells slots Q S0 cl D cI ad A nL Ln xs c1.1 c1.2.1 c1.2.2.1 c1.2.2.2) : mz_Z p l e R s m args below meth c cells slots Q S0 cl D cI ad A nL Ln xs pc L S mem := by
  have hl := of_decide_eq_true hl
  simp only [mz_step, mz_next] at hs
  rw [hl] at hs
  cases hs
  exact fun ls H locs h1 h2 h3 h4 => lv_iconst F.1.1 F.1.2.1 hd rfl (k ls H locs h1 h2 h3 h4)

set_option maxHeartbeats 1000000 in
theorem mz_w_bipush {p : Program} {l : Launch} {e : Env} {R : Room} {s : State} {m : MethodId} {args : Array Value} {below : List Frame} {meth : Method} {c : Code} {cells slots : Nat} {Q : State → Prop} {S0 : mz_Sh} {T0 : List (List Int32)} {T : List mz_R} {cl : List vw_C} {NM : List String} {ST : List (String × Nat × String)} {G0 : List Jvm.Cond} {gt : Nat → Option Jvm.Cond} {D : va_G} {cI : ClassId} {ad : Nat → Nat} {A : Nat → Prop} {nL Ln : Nat} {xs : Nat → Int32} {own : String} {cc : ByteArray} (F : mz_Fix p R s m args c cells slots S0 T0 T cl NM ST G0 gt D cI ad A nL Ln xs own cc) {pc : Nat} {L : List (Option Value)} {S : List Value} {mem : mz_M} {f : mz_I} {c1 : mz_C} {n : Int} (hd : decode cc pc = .ok (.bipush n, 2)) (hl : mz_lk T cl NM ST gt own (.bipush n) f = true) (hs : mz_step S0 T0 (.bipush n) f pc L S mem = some (.inl c1)) (k : mz_Z p l e R s m args below meth c cells slots Q S0 cl D cI ad A nL Ln xs c1.1 c1.2.1 c1.2.2.1 c1.2.2.2) : mz_Z p l e R s m args below meth c cells slots Q S0 cl D cI ad A nL Ln xs pc L S mem := by
  have hl := of_decide_eq_true hl
  simp only [mz_step, mz_next] at hs
  rw [hl] at hs
  cases hs
  exact fun ls H locs h1 h2 h3 h4 => lv_bipush F.1.1 F.1.2.1 hd rfl (k ls H locs h1 h2 h3 h4)

set_option maxHeartbeats 1000000 in
theorem mz_w_sipush {p : Program} {l : Launch} {e : Env} {R : Room} {s : State} {m : MethodId} {args : Array Value} {below : List Frame} {meth : Method} {c : Code} {cells slots : Nat} {Q : State → Prop} {S0 : mz_Sh} {T0 : List (List Int32)} {T : List mz_R} {cl : List vw_C} {NM : List String} {ST : List (String × Nat × String)} {G0 : List Jvm.Cond} {gt : Nat → Option Jvm.Cond} {D : va_G} {cI : ClassId} {ad : Nat → Nat} {A : Nat → Prop} {nL Ln : Nat} {xs : Nat → Int32} {own : String} {cc : ByteArray} (F : mz_Fix p R s m args c cells slots S0 T0 T cl NM ST G0 gt D cI ad A nL Ln xs own cc) {pc : Nat} {L : List (Option Value)} {S : List Value} {mem : mz_M} {f : mz_I} {c1 : mz_C} {n : Int} (hd : decode cc pc = .ok (.sipush n, 3)) (hl : mz_lk T cl NM ST gt own (.sipush n) f = true) (hs : mz_step S0 T0 (.sipush n) f pc L S mem = some (.inl c1)) (k : mz_Z p l e R s m args below meth c cells slots Q S0 cl D cI ad A nL Ln xs c1.1 c1.2.1 c1.2.2.1 c1.2.2.2) : mz_Z p l e R s m args below meth c cells slots Q S0 cl D cI ad A nL Ln xs pc L S mem := by
  have hl := of_decide_eq_true hl
  simp only [mz_step, mz_next] at hs
  rw [hl] at hs
  cases hs
  exact fun ls H locs h1 h2 h3 h4 => lv_sipush F.1.1 F.1.2.1 hd rfl (k ls H locs h1 h2 h3 h4)

set_option maxHeartbeats 1000000 in
theorem mz_w_ldc {p : Program} {l : Launch} {e : Env} {R : Room} {s : State} {m : MethodId} {args : Array Value} {below : List Frame} {meth : Method} {c : Code} {cells slots : Nat} {Q : State → Prop} {S0 : mz_Sh} {T0 : List (List Int32)} {T : List mz_R} {cl : List vw_C} {NM : List String} {ST : List (String × Nat × String)} {G0 : List Jvm.Cond} {gt : Nat → Option Jvm.Cond} {D : va_G} {cI : ClassId} {ad : Nat → Nat} {A : Nat → Prop} {nL Ln : Nat} {xs : Nat → Int32} {own : String} {cc : ByteArray} (F : mz_Fix p R s m args c cells slots S0 T0 T cl NM ST G0 gt D cI ad A nL Ln xs own cc) {pc : Nat} {L : List (Option Value)} {S : List Value} {mem : mz_M} {f : mz_I} {c1 : mz_C} {n : Nat} (hd : decode cc pc = .ok (.ldc n, 2)) (hl : mz_lk T cl NM ST gt own (.ldc n) f = true) (hs : mz_step S0 T0 (.ldc n) f pc L S mem = some (.inl c1)) (k : mz_Z p l e R s m args below meth c cells slots Q S0 cl D cI ad A nL Ln xs c1.1 c1.2.1 c1.2.2.1 c1.2.2.2) : mz_Z p l e R s m args below meth c cells slots Q S0 cl D cI ad A nL Ln xs pc L S mem := by
  simp only [mz_lk] at hl
  simp only [mz_step, mz_next] at hs
  split at hl
  · rename_i v hv
    rw [hv] at hs
    cases hs
    exact fun ls H locs h1 h2 h3 h4 => lv_ldc F.1.1 F.1.2.1 F.1.2.2.2.1 (F.1.2.2.2.2 _ (mz_Gi F (of_decide_eq_true hl) rfl)) hd (k ls H locs h1 h2 h3 h4)
  · rename_i r hv
    rw [hv] at hs
    cases hs
    split at hl
    · rename_i q hq
      simp only [Bool.and_eq_true, beq_iff_eq] at hl
      obtain ⟨⟨h5, h6⟩, h7⟩ := hl
      have hr : r = 2000 + f.2.1 := by
        have h8 : mz_cv f = some (.ref (2000 + f.2.1)) := by
          unfold mz_cv
          rw [h7]
          rfl
        rw [hv] at h8
        exact Value.ref.inj (Option.some.inj h8)
      subst hr
      have h9 := F.2.1.2.2.2.2.2.1 _ _ hq
      rw [h5, h6] at h9
      exact fun ls H locs h1 h2 h3 h4 => va_ldcS F.1.1 F.1.2.1 F.1.2.2.2.1 h9 hd (k ls H locs h1 h2 h3 h4)
    · cases hl
  · cases hl

set_option maxHeartbeats 1000000 in
theorem mz_w_ldc_w {p : Program} {l : Launch} {e : Env} {R : Room} {s : State} {m : MethodId} {args : Array Value} {below : List Frame} {meth : Method} {c : Code} {cells slots : Nat} {Q : State → Prop} {S0 : mz_Sh} {T0 : List (List Int32)} {T : List mz_R} {cl : List vw_C} {NM : List String} {ST : List (String × Nat × String)} {G0 : List Jvm.Cond} {gt : Nat → Option Jvm.Cond} {D : va_G} {cI : ClassId} {ad : Nat → Nat} {A : Nat → Prop} {nL Ln : Nat} {xs : Nat → Int32} {own : String} {cc : ByteArray} (F : mz_Fix p R s m args c cells slots S0 T0 T cl NM ST G0 gt D cI ad A nL Ln xs own cc) {pc : Nat} {L : List (Option Value)} {S : List Value} {mem : mz_M} {f : mz_I} {c1 : mz_C} {n : Nat} (hd : decode cc pc = .ok (.ldc_w n, 3)) (hl : mz_lk T cl NM ST gt own (.ldc_w n) f = true) (hs : mz_step S0 T0 (.ldc_w n) f pc L S mem = some (.inl c1)) (k : mz_Z p l e R s m args below meth c cells slots Q S0 cl D cI ad A nL Ln xs c1.1 c1.2.1 c1.2.2.1 c1.2.2.2) : mz_Z p l e R s m args below meth c cells slots Q S0 cl D cI ad A nL Ln xs pc L S mem := by
  simp only [mz_lk] at hl
  simp only [mz_step, mz_next] at hs
  split at hl
  · rename_i v hv
    rw [hv] at hs
    cases hs
    exact fun ls H locs h1 h2 h3 h4 => lv_ldcw F.1.1 F.1.2.1 F.1.2.2.2.1 (F.1.2.2.2.2 _ (mz_Gi F (of_decide_eq_true hl) rfl)) hd (k ls H locs h1 h2 h3 h4)
  · rename_i r hv
    rw [hv] at hs
    cases hs
    split at hl
    · rename_i q hq
      simp only [Bool.and_eq_true, beq_iff_eq] at hl
      obtain ⟨⟨h5, h6⟩, h7⟩ := hl
      have hr : r = 2000 + f.2.1 := by
        have h8 : mz_cv f = some (.ref (2000 + f.2.1)) := by
          unfold mz_cv
          rw [h7]
          rfl
        rw [hv] at h8
        exact Value.ref.inj (Option.some.inj h8)
      subst hr
      have h9 := F.2.1.2.2.2.2.2.1 _ _ hq
      rw [h5, h6] at h9
      exact fun ls H locs h1 h2 h3 h4 => mz_ldcwS F.1.1 F.1.2.1 F.1.2.2.2.1 h9 hd (k ls H locs h1 h2 h3 h4)
    · cases hl
  · cases hl

set_option maxHeartbeats 1000000 in
theorem mz_w_ldc2_w {p : Program} {l : Launch} {e : Env} {R : Room} {s : State} {m : MethodId} {args : Array Value} {below : List Frame} {meth : Method} {c : Code} {cells slots : Nat} {Q : State → Prop} {S0 : mz_Sh} {T0 : List (List Int32)} {T : List mz_R} {cl : List vw_C} {NM : List String} {ST : List (String × Nat × String)} {G0 : List Jvm.Cond} {gt : Nat → Option Jvm.Cond} {D : va_G} {cI : ClassId} {ad : Nat → Nat} {A : Nat → Prop} {nL Ln : Nat} {xs : Nat → Int32} {own : String} {cc : ByteArray} (F : mz_Fix p R s m args c cells slots S0 T0 T cl NM ST G0 gt D cI ad A nL Ln xs own cc) {pc : Nat} {L : List (Option Value)} {S : List Value} {mem : mz_M} {f : mz_I} {c1 : mz_C} {n : Nat} (hd : decode cc pc = .ok (.ldc2_w n, 3)) (hl : mz_lk T cl NM ST gt own (.ldc2_w n) f = true) (hs : mz_step S0 T0 (.ldc2_w n) f pc L S mem = some (.inl c1)) (k : mz_Z p l e R s m args below meth c cells slots Q S0 cl D cI ad A nL Ln xs c1.1 c1.2.1 c1.2.2.1 c1.2.2.2) : mz_Z p l e R s m args below meth c cells slots Q S0 cl D cI ad A nL Ln xs pc L S mem := by
  simp only [mz_lk] at hl
  simp only [mz_step, mz_next] at hs
  cases hs
  exact fun ls H locs h1 h2 h3 h4 => lv_ldc2 F.1.1 F.1.2.1 F.1.2.2.2.1 (F.1.2.2.2.2 _ (mz_Gi F (of_decide_eq_true hl) rfl)) hd (k ls H locs h1 h2 h3 h4)

set_option maxHeartbeats 1000000 in
theorem mz_w_iload_n {p : Program} {l : Launch} {e : Env} {R : Room} {s : State} {m : MethodId} {args : Array Value} {below : List Frame} {meth : Method} {c : Code} {cells slots : Nat} {Q : State → Prop} {S0 : mz_Sh} {T0 : List (List Int32)} {T : List mz_R} {cl : List vw_C} {NM : List String} {ST : List (String × Nat × String)} {G0 : List Jvm.Cond} {gt : Nat → Option Jvm.Cond} {D : va_G} {cI : ClassId} {ad : Nat → Nat} {A : Nat → Prop} {nL Ln : Nat} {xs : Nat → Int32} {own : String} {cc : ByteArray} (F : mz_Fix p R s m args c cells slots S0 T0 T cl NM ST G0 gt D cI ad A nL Ln xs own cc) {pc : Nat} {L : List (Option Value)} {S : List Value} {mem : mz_M} {f : mz_I} {c1 : mz_C} {n : Fin 4} (hd : decode cc pc = .ok (.iload_n n, 1)) (hl : mz_lk T cl NM ST gt own (.iload_n n) f = true) (hs : mz_step S0 T0 (.iload_n n) f pc L S mem = some (.inl c1)) (k : mz_Z p l e R s m args below meth c cells slots Q S0 cl D cI ad A nL Ln xs c1.1 c1.2.1 c1.2.2.1 c1.2.2.2) : mz_Z p l e R s m args below meth c cells slots Q S0 cl D cI ad A nL Ln xs pc L S mem := by
  simp only [mz_step, mz_next] at hs
  split at hs
  · rename_i x hx
    cases hs
    exact fun ls H locs h1 h2 h3 h4 => lv_iload_n F.1.1 F.1.2.1 hd rfl (h1.2.2.2 _ _ (mz_ld_at hx)) (k ls H locs h1 h2 h3 h4)
  · cases hs

set_option maxHeartbeats 1000000 in
theorem mz_w_iload {p : Program} {l : Launch} {e : Env} {R : Room} {s : State} {m : MethodId} {args : Array Value} {below : List Frame} {meth : Method} {c : Code} {cells slots : Nat} {Q : State → Prop} {S0 : mz_Sh} {T0 : List (List Int32)} {T : List mz_R} {cl : List vw_C} {NM : List String} {ST : List (String × Nat × String)} {G0 : List Jvm.Cond} {gt : Nat → Option Jvm.Cond} {D : va_G} {cI : ClassId} {ad : Nat → Nat} {A : Nat → Prop} {nL Ln : Nat} {xs : Nat → Int32} {own : String} {cc : ByteArray} (F : mz_Fix p R s m args c cells slots S0 T0 T cl NM ST G0 gt D cI ad A nL Ln xs own cc) {pc : Nat} {L : List (Option Value)} {S : List Value} {mem : mz_M} {f : mz_I} {c1 : mz_C} {n : Nat} (hd : decode cc pc = .ok (.iload n, 2)) (hl : mz_lk T cl NM ST gt own (.iload n) f = true) (hs : mz_step S0 T0 (.iload n) f pc L S mem = some (.inl c1)) (k : mz_Z p l e R s m args below meth c cells slots Q S0 cl D cI ad A nL Ln xs c1.1 c1.2.1 c1.2.2.1 c1.2.2.2) : mz_Z p l e R s m args below meth c cells slots Q S0 cl D cI ad A nL Ln xs pc L S mem := by
  simp only [mz_step, mz_next] at hs
  split at hs
  · rename_i x hx
    cases hs
    exact fun ls H locs h1 h2 h3 h4 => lv_iload F.1.1 F.1.2.1 hd (h1.2.2.2 _ _ (mz_ld_at hx)) (k ls H locs h1 h2 h3 h4)
  · cases hs

set_option maxHeartbeats 1000000 in
theorem mz_w_aload_n {p : Program} {l : Launch} {e : Env} {R : Room} {s : State} {m : MethodId} {args : Array Value} {below : List Frame} {meth : Method} {c : Code} {cells slots : Nat} {Q : State → Prop} {S0 : mz_Sh} {T0 : List (List Int32)} {T : List mz_R} {cl : List vw_C} {NM : List String} {ST : List (String × Nat × String)} {G0 : List Jvm.Cond} {gt : Nat → Option Jvm.Cond} {D : va_G} {cI : ClassId} {ad : Nat → Nat} {A : Nat → Prop} {nL Ln : Nat} {xs : Nat → Int32} {own : String} {cc : ByteArray} (F : mz_Fix p R s m args c cells slots S0 T0 T cl NM ST G0 gt D cI ad A nL Ln xs own cc) {pc : Nat} {L : List (Option Value)} {S : List Value} {mem : mz_M} {f : mz_I} {c1 : mz_C} {n : Fin 4} (hd : decode cc pc = .ok (.aload_n n, 1)) (hl : mz_lk T cl NM ST gt own (.aload_n n) f = true) (hs : mz_step S0 T0 (.aload_n n) f pc L S mem = some (.inl c1)) (k : mz_Z p l e R s m args below meth c cells slots Q S0 cl D cI ad A nL Ln xs c1.1 c1.2.1 c1.2.2.1 c1.2.2.2) : mz_Z p l e R s m args below meth c cells slots Q S0 cl D cI ad A nL Ln xs pc L S mem := by
  simp only [mz_step, mz_next] at hs
  split at hs
  · rename_i x hx
    cases hs
    exact fun ls H locs h1 h2 h3 h4 => lv_aload_n F.1.1 F.1.2.1 hd rfl (h1.2.2.2 _ _ (mz_ld_at hx)) (k ls H locs h1 h2 h3 h4)
  · cases hs

set_option maxHeartbeats 1000000 in
theorem mz_w_aload {p : Program} {l : Launch} {e : Env} {R : Room} {s : State} {m : MethodId} {args : Array Value} {below : List Frame} {meth : Method} {c : Code} {cells slots : Nat} {Q : State → Prop} {S0 : mz_Sh} {T0 : List (List Int32)} {T : List mz_R} {cl : List vw_C} {NM : List String} {ST : List (String × Nat × String)} {G0 : List Jvm.Cond} {gt : Nat → Option Jvm.Cond} {D : va_G} {cI : ClassId} {ad : Nat → Nat} {A : Nat → Prop} {nL Ln : Nat} {xs : Nat → Int32} {own : String} {cc : ByteArray} (F : mz_Fix p R s m args c cells slots S0 T0 T cl NM ST G0 gt D cI ad A nL Ln xs own cc) {pc : Nat} {L : List (Option Value)} {S : List Value} {mem : mz_M} {f : mz_I} {c1 : mz_C} {n : Nat} (hd : decode cc pc = .ok (.aload n, 2)) (hl : mz_lk T cl NM ST gt own (.aload n) f = true) (hs : mz_step S0 T0 (.aload n) f pc L S mem = some (.inl c1)) (k : mz_Z p l e R s m args below meth c cells slots Q S0 cl D cI ad A nL Ln xs c1.1 c1.2.1 c1.2.2.1 c1.2.2.2) : mz_Z p l e R s m args below meth c cells slots Q S0 cl D cI ad A nL Ln xs pc L S mem := by
  simp only [mz_step, mz_next] at hs
  split at hs
  · rename_i x hx
    cases hs
    exact fun ls H locs h1 h2 h3 h4 => lv_aload F.1.1 F.1.2.1 hd (h1.2.2.2 _ _ (mz_ld_at hx)) (k ls H locs h1 h2 h3 h4)
  · cases hs

set_option maxHeartbeats 1000000 in
theorem mz_w_lload_n {p : Program} {l : Launch} {e : Env} {R : Room} {s : State} {m : MethodId} {args : Array Value} {below : List Frame} {meth : Method} {c : Code} {cells slots : Nat} {Q : State → Prop} {S0 : mz_Sh} {T0 : List (List Int32)} {T : List mz_R} {cl : List vw_C} {NM : List String} {ST : List (String × Nat × String)} {G0 : List Jvm.Cond} {gt : Nat → Option Jvm.Cond} {D : va_G} {cI : ClassId} {ad : Nat → Nat} {A : Nat → Prop} {nL Ln : Nat} {xs : Nat → Int32} {own : String} {cc : ByteArray} (F : mz_Fix p R s m args c cells slots S0 T0 T cl NM ST G0 gt D cI ad A nL Ln xs own cc) {pc : Nat} {L : List (Option Value)} {S : List Value} {mem : mz_M} {f : mz_I} {c1 : mz_C} {n : Fin 4} (hd : decode cc pc = .ok (.lload_n n, 1)) (hl : mz_lk T cl NM ST gt own (.lload_n n) f = true) (hs : mz_step S0 T0 (.lload_n n) f pc L S mem = some (.inl c1)) (k : mz_Z p l e R s m args below meth c cells slots Q S0 cl D cI ad A nL Ln xs c1.1 c1.2.1 c1.2.2.1 c1.2.2.2) : mz_Z p l e R s m args below meth c cells slots Q S0 cl D cI ad A nL Ln xs pc L S mem := by
  simp only [mz_step, mz_next] at hs
  split at hs
  · rename_i x hx
    cases hs
    exact fun ls H locs h1 h2 h3 h4 => lv_lload_n F.1.1 F.1.2.1 hd rfl (h1.2.2.2 _ _ (mz_ld_at hx)) (k ls H locs h1 h2 h3 h4)
  · cases hs

set_option maxHeartbeats 1000000 in
theorem mz_w_istore_n {p : Program} {l : Launch} {e : Env} {R : Room} {s : State} {m : MethodId} {args : Array Value} {below : List Frame} {meth : Method} {c : Code} {cells slots : Nat} {Q : State → Prop} {S0 : mz_Sh} {T0 : List (List Int32)} {T : List mz_R} {cl : List vw_C} {NM : List String} {ST : List (String × Nat × String)} {G0 : List Jvm.Cond} {gt : Nat → Option Jvm.Cond} {D : va_G} {cI : ClassId} {ad : Nat → Nat} {A : Nat → Prop} {nL Ln : Nat} {xs : Nat → Int32} {own : String} {cc : ByteArray} (F : mz_Fix p R s m args c cells slots S0 T0 T cl NM ST G0 gt D cI ad A nL Ln xs own cc) {pc : Nat} {L : List (Option Value)} {S : List Value} {mem : mz_M} {f : mz_I} {c1 : mz_C} {n : Fin 4} (hd : decode cc pc = .ok (.istore_n n, 1)) (hl : mz_lk T cl NM ST gt own (.istore_n n) f = true) (hs : mz_step S0 T0 (.istore_n n) f pc L S mem = some (.inl c1)) (k : mz_Z p l e R s m args below meth c cells slots Q S0 cl D cI ad A nL Ln xs c1.1 c1.2.1 c1.2.2.1 c1.2.2.2) : mz_Z p l e R s m args below meth c cells slots Q S0 cl D cI ad A nL Ln xs pc L S mem := by
  simp only [mz_step, mz_next] at hs
  split at hs
  · obtain ⟨hb, hs⟩ := mz_cond hs
    cases hs
    exact fun ls H locs h1 h2 h3 h4 => lv_istore_n F.1.1 F.1.2.1 hd rfl (mz_ls_has h1) (h1.2.2.1 ▸ of_decide_eq_true hb) rfl (fun ls' h' => k ls' H locs (mz_ls_st h1 (of_decide_eq_true hb) h') h2 h3 h4)
  · cases hs

set_option maxHeartbeats 1000000 in
theorem mz_w_istore {p : Program} {l : Launch} {e : Env} {R : Room} {s : State} {m : MethodId} {args : Array Value} {below : List Frame} {meth : Method} {c : Code} {cells slots : Nat} {Q : State → Prop} {S0 : mz_Sh} {T0 : List (List Int32)} {T : List mz_R} {cl : List vw_C} {NM : List String} {ST : List (String × Nat × String)} {G0 : List Jvm.Cond} {gt : Nat → Option Jvm.Cond} {D : va_G} {cI : ClassId} {ad : Nat → Nat} {A : Nat → Prop} {nL Ln : Nat} {xs : Nat → Int32} {own : String} {cc : ByteArray} (F : mz_Fix p R s m args c cells slots S0 T0 T cl NM ST G0 gt D cI ad A nL Ln xs own cc) {pc : Nat} {L : List (Option Value)} {S : List Value} {mem : mz_M} {f : mz_I} {c1 : mz_C} {n : Nat} (hd : decode cc pc = .ok (.istore n, 2)) (hl : mz_lk T cl NM ST gt own (.istore n) f = true) (hs : mz_step S0 T0 (.istore n) f pc L S mem = some (.inl c1)) (k : mz_Z p l e R s m args below meth c cells slots Q S0 cl D cI ad A nL Ln xs c1.1 c1.2.1 c1.2.2.1 c1.2.2.2) : mz_Z p l e R s m args below meth c cells slots Q S0 cl D cI ad A nL Ln xs pc L S mem := by
  simp only [mz_step, mz_next] at hs
  split at hs
  · obtain ⟨hb, hs⟩ := mz_cond hs
    cases hs
    exact fun ls H locs h1 h2 h3 h4 => lv_istore F.1.1 F.1.2.1 hd (mz_ls_has h1) (h1.2.2.1 ▸ of_decide_eq_true hb) rfl (fun ls' h' => k ls' H locs (mz_ls_st h1 (of_decide_eq_true hb) h') h2 h3 h4)
  · cases hs

set_option maxHeartbeats 1000000 in
theorem mz_w_astore_n {p : Program} {l : Launch} {e : Env} {R : Room} {s : State} {m : MethodId} {args : Array Value} {below : List Frame} {meth : Method} {c : Code} {cells slots : Nat} {Q : State → Prop} {S0 : mz_Sh} {T0 : List (List Int32)} {T : List mz_R} {cl : List vw_C} {NM : List String} {ST : List (String × Nat × String)} {G0 : List Jvm.Cond} {gt : Nat → Option Jvm.Cond} {D : va_G} {cI : ClassId} {ad : Nat → Nat} {A : Nat → Prop} {nL Ln : Nat} {xs : Nat → Int32} {own : String} {cc : ByteArray} (F : mz_Fix p R s m args c cells slots S0 T0 T cl NM ST G0 gt D cI ad A nL Ln xs own cc) {pc : Nat} {L : List (Option Value)} {S : List Value} {mem : mz_M} {f : mz_I} {c1 : mz_C} {n : Fin 4} (hd : decode cc pc = .ok (.astore_n n, 1)) (hl : mz_lk T cl NM ST gt own (.astore_n n) f = true) (hs : mz_step S0 T0 (.astore_n n) f pc L S mem = some (.inl c1)) (k : mz_Z p l e R s m args below meth c cells slots Q S0 cl D cI ad A nL Ln xs c1.1 c1.2.1 c1.2.2.1 c1.2.2.2) : mz_Z p l e R s m args below meth c cells slots Q S0 cl D cI ad A nL Ln xs pc L S mem := by
  simp only [mz_step, mz_next] at hs
  split at hs
  · obtain ⟨hb, hs⟩ := mz_cond hs
    cases hs
    exact fun ls H locs h1 h2 h3 h4 => lv_astore_n F.1.1 F.1.2.1 hd rfl (mz_ls_has h1) (h1.2.2.1 ▸ of_decide_eq_true hb) rfl (fun ls' h' => k ls' H locs (mz_ls_st h1 (of_decide_eq_true hb) h') h2 h3 h4)
  · cases hs

set_option maxHeartbeats 1000000 in
theorem mz_w_astore {p : Program} {l : Launch} {e : Env} {R : Room} {s : State} {m : MethodId} {args : Array Value} {below : List Frame} {meth : Method} {c : Code} {cells slots : Nat} {Q : State → Prop} {S0 : mz_Sh} {T0 : List (List Int32)} {T : List mz_R} {cl : List vw_C} {NM : List String} {ST : List (String × Nat × String)} {G0 : List Jvm.Cond} {gt : Nat → Option Jvm.Cond} {D : va_G} {cI : ClassId} {ad : Nat → Nat} {A : Nat → Prop} {nL Ln : Nat} {xs : Nat → Int32} {own : String} {cc : ByteArray} (F : mz_Fix p R s m args c cells slots S0 T0 T cl NM ST G0 gt D cI ad A nL Ln xs own cc) {pc : Nat} {L : List (Option Value)} {S : List Value} {mem : mz_M} {f : mz_I} {c1 : mz_C} {n : Nat} (hd : decode cc pc = .ok (.astore n, 2)) (hl : mz_lk T cl NM ST gt own (.astore n) f = true) (hs : mz_step S0 T0 (.astore n) f pc L S mem = some (.inl c1)) (k : mz_Z p l e R s m args below meth c cells slots Q S0 cl D cI ad A nL Ln xs c1.1 c1.2.1 c1.2.2.1 c1.2.2.2) : mz_Z p l e R s m args below meth c cells slots Q S0 cl D cI ad A nL Ln xs pc L S mem := by
  simp only [mz_step, mz_next] at hs
  split at hs
  · obtain ⟨hb, hs⟩ := mz_cond hs
    cases hs
    exact fun ls H locs h1 h2 h3 h4 => lv_astore F.1.1 F.1.2.1 hd (mz_ls_has h1) (h1.2.2.1 ▸ of_decide_eq_true hb) rfl (fun ls' h' => k ls' H locs (mz_ls_st h1 (of_decide_eq_true hb) h') h2 h3 h4)
  · cases hs

set_option maxHeartbeats 1000000 in
theorem mz_w_iinc {p : Program} {l : Launch} {e : Env} {R : Room} {s : State} {m : MethodId} {args : Array Value} {below : List Frame} {meth : Method} {c : Code} {cells slots : Nat} {Q : State → Prop} {S0 : mz_Sh} {T0 : List (List Int32)} {T : List mz_R} {cl : List vw_C} {NM : List String} {ST : List (String × Nat × String)} {G0 : List Jvm.Cond} {gt : Nat → Option Jvm.Cond} {D : va_G} {cI : ClassId} {ad : Nat → Nat} {A : Nat → Prop} {nL Ln : Nat} {xs : Nat → Int32} {own : String} {cc : ByteArray} (F : mz_Fix p R s m args c cells slots S0 T0 T cl NM ST G0 gt D cI ad A nL Ln xs own cc) {pc : Nat} {L : List (Option Value)} {S : List Value} {mem : mz_M} {f : mz_I} {c1 : mz_C} {i : Nat} {n : Int} (hd : decode cc pc = .ok (.iinc i n, 3)) (hl : mz_lk T cl NM ST gt own (.iinc i n) f = true) (hs : mz_step S0 T0 (.iinc i n) f pc L S mem = some (.inl c1)) (k : mz_Z p l e R s m args below meth c cells slots Q S0 cl D cI ad A nL Ln xs c1.1 c1.2.1 c1.2.2.1 c1.2.2.2) : mz_Z p l e R s m args below meth c cells slots Q S0 cl D cI ad A nL Ln xs pc L S mem := by
  have hl := of_decide_eq_true hl
  simp only [mz_step, mz_next] at hs
  rw [hl] at hs
  split at hs
  · rename_i x y hx hy
    cases hy
    cases hs
    have hL := mz_ld_at hx
    have hi : i < L.length := (List.getElem?_eq_some_iff.mp hL).1
    obtain ⟨j, hj⟩ := List.getElem?_of_mem (mz_lv_mem (ad := ad).mpr ⟨_, hL, rfl⟩)
    exact fun ls H locs h1 h2 h3 h4 => lv_iinc F.1.1 F.1.2.1 hd (mz_ls_has h1) hj rfl (h1.2.2.1 ▸ hi) rfl (fun ls' h' => k ls' H locs (mz_ls_st h1 hi h') h2 h3 h4)
  · cases hs

set_option maxHeartbeats 1000000 in
theorem mz_w_dup {p : Program} {l : Launch} {e : Env} {R : Room} {s : State} {m : MethodId} {args : Array Value} {below : List Frame} {meth : Method} {c : Code} {cells slots : Nat} {Q : State → Prop} {S0 : mz_Sh} {T0 : List (List Int32)} {T : List mz_R} {cl : List vw_C} {NM : List String} {ST : List (String × Nat × String)} {G0 : List Jvm.Cond} {gt : Nat → Option Jvm.Cond} {D : va_G} {cI : ClassId} {ad : Nat → Nat} {A : Nat → Prop} {nL Ln : Nat} {xs : Nat → Int32} {own : String} {cc : ByteArray} (F : mz_Fix p R s m args c cells slots S0 T0 T cl NM ST G0 gt D cI ad A nL Ln xs own cc) {pc : Nat} {L : List (Option Value)} {S : List Value} {mem : mz_M} {f : mz_I} {c1 : mz_C} (hd : decode cc pc = .ok (.dup, 1)) (hl : mz_lk T cl NM ST gt own (.dup) f = true) (hs : mz_step S0 T0 (.dup) f pc L S mem = some (.inl c1)) (k : mz_Z p l e R s m args below meth c cells slots Q S0 cl D cI ad A nL Ln xs c1.1 c1.2.1 c1.2.2.1 c1.2.2.2) : mz_Z p l e R s m args below meth c cells slots Q S0 cl D cI ad A nL Ln xs pc L S mem := by
  simp only [mz_step, mz_next] at hs
  split at hs
  · obtain ⟨hb, hs⟩ := mz_cond hs
    cases hs
    exact fun ls H locs h1 h2 h3 h4 => lv_dup F.1.1 F.1.2.1 hd (by rw [mz_cvv_cat]; simpa using hb) (k ls H locs h1 h2 h3 h4)
  · cases hs

set_option maxHeartbeats 1000000 in
theorem mz_w_pop {p : Program} {l : Launch} {e : Env} {R : Room} {s : State} {m : MethodId} {args : Array Value} {below : List Frame} {meth : Method} {c : Code} {cells slots : Nat} {Q : State → Prop} {S0 : mz_Sh} {T0 : List (List Int32)} {T : List mz_R} {cl : List vw_C} {NM : List String} {ST : List (String × Nat × String)} {G0 : List Jvm.Cond} {gt : Nat → Option Jvm.Cond} {D : va_G} {cI : ClassId} {ad : Nat → Nat} {A : Nat → Prop} {nL Ln : Nat} {xs : Nat → Int32} {own : String} {cc : ByteArray} (F : mz_Fix p R s m args c cells slots S0 T0 T cl NM ST G0 gt D cI ad A nL Ln xs own cc) {pc : Nat} {L : List (Option Value)} {S : List Value} {mem : mz_M} {f : mz_I} {c1 : mz_C} (hd : decode cc pc = .ok (.pop, 1)) (hl : mz_lk T cl NM ST gt own (.pop) f = true) (hs : mz_step S0 T0 (.pop) f pc L S mem = some (.inl c1)) (k : mz_Z p l e R s m args below meth c cells slots Q S0 cl D cI ad A nL Ln xs c1.1 c1.2.1 c1.2.2.1 c1.2.2.2) : mz_Z p l e R s m args below meth c cells slots Q S0 cl D cI ad A nL Ln xs pc L S mem := by
  simp only [mz_step, mz_next] at hs
  split at hs
  · obtain ⟨hb, hs⟩ := mz_cond hs
    cases hs
    exact fun ls H locs h1 h2 h3 h4 => lv_pop F.1.1 F.1.2.1 hd (by rw [mz_cvv_cat]; simpa using hb) (k ls H locs h1 h2 h3 h4)
  · cases hs

set_option maxHeartbeats 1000000 in
theorem mz_w_dup_x1 {p : Program} {l : Launch} {e : Env} {R : Room} {s : State} {m : MethodId} {args : Array Value} {below : List Frame} {meth : Method} {c : Code} {cells slots : Nat} {Q : State → Prop} {S0 : mz_Sh} {T0 : List (List Int32)} {T : List mz_R} {cl : List vw_C} {NM : List String} {ST : List (String × Nat × String)} {G0 : List Jvm.Cond} {gt : Nat → Option Jvm.Cond} {D : va_G} {cI : ClassId} {ad : Nat → Nat} {A : Nat → Prop} {nL Ln : Nat} {xs : Nat → Int32} {own : String} {cc : ByteArray} (F : mz_Fix p R s m args c cells slots S0 T0 T cl NM ST G0 gt D cI ad A nL Ln xs own cc) {pc : Nat} {L : List (Option Value)} {S : List Value} {mem : mz_M} {f : mz_I} {c1 : mz_C} (hd : decode cc pc = .ok (.dup_x1, 1)) (hl : mz_lk T cl NM ST gt own (.dup_x1) f = true) (hs : mz_step S0 T0 (.dup_x1) f pc L S mem = some (.inl c1)) (k : mz_Z p l e R s m args below meth c cells slots Q S0 cl D cI ad A nL Ln xs c1.1 c1.2.1 c1.2.2.1 c1.2.2.2) : mz_Z p l e R s m args below meth c cells slots Q S0 cl D cI ad A nL Ln xs pc L S mem := by
  simp only [mz_step, mz_next] at hs
  split at hs
  · obtain ⟨hb, hs⟩ := mz_cond hs
    cases hs
    simp only [Bool.and_eq_true, beq_iff_eq] at hb
    exact fun ls H locs h1 h2 h3 h4 => lv_dup_x1 F.1.1 F.1.2.1 hd (by rw [mz_cvv_cat]; exact hb.1) (by rw [mz_cvv_cat]; exact hb.2) (k ls H locs h1 h2 h3 h4)
  · cases hs

set_option maxHeartbeats 1000000 in
theorem mz_w_dup2 {p : Program} {l : Launch} {e : Env} {R : Room} {s : State} {m : MethodId} {args : Array Value} {below : List Frame} {meth : Method} {c : Code} {cells slots : Nat} {Q : State → Prop} {S0 : mz_Sh} {T0 : List (List Int32)} {T : List mz_R} {cl : List vw_C} {NM : List String} {ST : List (String × Nat × String)} {G0 : List Jvm.Cond} {gt : Nat → Option Jvm.Cond} {D : va_G} {cI : ClassId} {ad : Nat → Nat} {A : Nat → Prop} {nL Ln : Nat} {xs : Nat → Int32} {own : String} {cc : ByteArray} (F : mz_Fix p R s m args c cells slots S0 T0 T cl NM ST G0 gt D cI ad A nL Ln xs own cc) {pc : Nat} {L : List (Option Value)} {S : List Value} {mem : mz_M} {f : mz_I} {c1 : mz_C} (hd : decode cc pc = .ok (.dup2, 1)) (hl : mz_lk T cl NM ST gt own (.dup2) f = true) (hs : mz_step S0 T0 (.dup2) f pc L S mem = some (.inl c1)) (k : mz_Z p l e R s m args below meth c cells slots Q S0 cl D cI ad A nL Ln xs c1.1 c1.2.1 c1.2.2.1 c1.2.2.2) : mz_Z p l e R s m args below meth c cells slots Q S0 cl D cI ad A nL Ln xs pc L S mem := by
  simp only [mz_step, mz_next] at hs
  split at hs
  · obtain ⟨hb, hs⟩ := mz_cond hs
    cases hs
    simp only [Bool.and_eq_true, beq_iff_eq] at hb
    exact fun ls H locs h1 h2 h3 h4 => lv_dup2_11 F.1.1 F.1.2.1 hd (by rw [mz_cvv_cat]; exact hb.1) (by rw [mz_cvv_cat]; exact hb.2) (k ls H locs h1 h2 h3 h4)
  · cases hs

set_option maxHeartbeats 1000000 in
theorem mz_w_if_eq {p : Program} {l : Launch} {e : Env} {R : Room} {s : State} {m : MethodId} {args : Array Value} {below : List Frame} {meth : Method} {c : Code} {cells slots : Nat} {Q : State → Prop} {S0 : mz_Sh} {T0 : List (List Int32)} {T : List mz_R} {cl : List vw_C} {NM : List String} {ST : List (String × Nat × String)} {G0 : List Jvm.Cond} {gt : Nat → Option Jvm.Cond} {D : va_G} {cI : ClassId} {ad : Nat → Nat} {A : Nat → Prop} {nL Ln : Nat} {xs : Nat → Int32} {own : String} {cc : ByteArray} (F : mz_Fix p R s m args c cells slots S0 T0 T cl NM ST G0 gt D cI ad A nL Ln xs own cc) {pc : Nat} {L : List (Option Value)} {S : List Value} {mem : mz_M} {f : mz_I} {c1 : mz_C} {o : Int} (hd : decode cc pc = .ok (.ifCond .eq o, 3)) (hl : mz_lk T cl NM ST gt own (.ifCond .eq o) f = true) (hs : mz_step S0 T0 (.ifCond .eq o) f pc L S mem = some (.inl c1)) (k : mz_Z p l e R s m args below meth c cells slots Q S0 cl D cI ad A nL Ln xs c1.1 c1.2.1 c1.2.2.1 c1.2.2.2) : mz_Z p l e R s m args below meth c cells slots Q S0 cl D cI ad A nL Ln xs pc L S mem := by
  simp only [mz_step, mz_jump] at hs
  split at hs
  · obtain ⟨hb, hs⟩ := mz_cond hs
    cases hs
    intro ls H locs h1 h2 h3 h4
    have hk := k ls H locs h1 h2 h3 h4
    refine lv_if_eq F.1.1 F.1.2.1 hd (mz_tg_ok hb) (fun q => ?_) (fun q => ?_)
    · rw [if_pos q] at hk
      exact hk
    · rw [if_neg q] at hk
      exact hk
  · cases hs

set_option maxHeartbeats 1000000 in
theorem mz_w_if_ne {p : Program} {l : Launch} {e : Env} {R : Room} {s : State} {m : MethodId} {args : Array Value} {below : List Frame} {meth : Method} {c : Code} {cells slots : Nat} {Q : State → Prop} {S0 : mz_Sh} {T0 : List (List Int32)} {T : List mz_R} {cl : List vw_C} {NM : List String} {ST : List (String × Nat × String)} {G0 : List Jvm.Cond} {gt : Nat → Option Jvm.Cond} {D : va_G} {cI : ClassId} {ad : Nat → Nat} {A : Nat → Prop} {nL Ln : Nat} {xs : Nat → Int32} {own : String} {cc : ByteArray} (F : mz_Fix p R s m args c cells slots S0 T0 T cl NM ST G0 gt D cI ad A nL Ln xs own cc) {pc : Nat} {L : List (Option Value)} {S : List Value} {mem : mz_M} {f : mz_I} {c1 : mz_C} {o : Int} (hd : decode cc pc = .ok (.ifCond .ne o, 3)) (hl : mz_lk T cl NM ST gt own (.ifCond .ne o) f = true) (hs : mz_step S0 T0 (.ifCond .ne o) f pc L S mem = some (.inl c1)) (k : mz_Z p l e R s m args below meth c cells slots Q S0 cl D cI ad A nL Ln xs c1.1 c1.2.1 c1.2.2.1 c1.2.2.2) : mz_Z p l e R s m args below meth c cells slots Q S0 cl D cI ad A nL Ln xs pc L S mem := by
  simp only [mz_step, mz_jump] at hs
  split at hs
  · obtain ⟨hb, hs⟩ := mz_cond hs
    cases hs
    intro ls H locs h1 h2 h3 h4
    have hk := k ls H locs h1 h2 h3 h4
    refine lv_if_ne F.1.1 F.1.2.1 hd (mz_tg_ok hb) (fun q => ?_) (fun q => ?_)
    · rw [if_neg q] at hk
      exact hk
    · rw [if_pos q] at hk
      exact hk
  · cases hs

set_option maxHeartbeats 1000000 in
theorem mz_w_if_lt {p : Program} {l : Launch} {e : Env} {R : Room} {s : State} {m : MethodId} {args : Array Value} {below : List Frame} {meth : Method} {c : Code} {cells slots : Nat} {Q : State → Prop} {S0 : mz_Sh} {T0 : List (List Int32)} {T : List mz_R} {cl : List vw_C} {NM : List String} {ST : List (String × Nat × String)} {G0 : List Jvm.Cond} {gt : Nat → Option Jvm.Cond} {D : va_G} {cI : ClassId} {ad : Nat → Nat} {A : Nat → Prop} {nL Ln : Nat} {xs : Nat → Int32} {own : String} {cc : ByteArray} (F : mz_Fix p R s m args c cells slots S0 T0 T cl NM ST G0 gt D cI ad A nL Ln xs own cc) {pc : Nat} {L : List (Option Value)} {S : List Value} {mem : mz_M} {f : mz_I} {c1 : mz_C} {o : Int} (hd : decode cc pc = .ok (.ifCond .lt o, 3)) (hl : mz_lk T cl NM ST gt own (.ifCond .lt o) f = true) (hs : mz_step S0 T0 (.ifCond .lt o) f pc L S mem = some (.inl c1)) (k : mz_Z p l e R s m args below meth c cells slots Q S0 cl D cI ad A nL Ln xs c1.1 c1.2.1 c1.2.2.1 c1.2.2.2) : mz_Z p l e R s m args below meth c cells slots Q S0 cl D cI ad A nL Ln xs pc L S mem := by
  simp only [mz_step, mz_jump] at hs
  split at hs
  · obtain ⟨hb, hs⟩ := mz_cond hs
    cases hs
    intro ls H locs h1 h2 h3 h4
    have hk := k ls H locs h1 h2 h3 h4
    refine lv_if_lt F.1.1 F.1.2.1 hd (mz_tg_ok hb) (fun q => ?_) (fun q => ?_)
    · rw [if_pos q] at hk
      exact hk
    · rw [if_neg q] at hk
      exact hk
  · cases hs

set_option maxHeartbeats 1000000 in
theorem mz_w_if_ge {p : Program} {l : Launch} {e : Env} {R : Room} {s : State} {m : MethodId} {args : Array Value} {below : List Frame} {meth : Method} {c : Code} {cells slots : Nat} {Q : State → Prop} {S0 : mz_Sh} {T0 : List (List Int32)} {T : List mz_R} {cl : List vw_C} {NM : List String} {ST : List (String × Nat × String)} {G0 : List Jvm.Cond} {gt : Nat → Option Jvm.Cond} {D : va_G} {cI : ClassId} {ad : Nat → Nat} {A : Nat → Prop} {nL Ln : Nat} {xs : Nat → Int32} {own : String} {cc : ByteArray} (F : mz_Fix p R s m args c cells slots S0 T0 T cl NM ST G0 gt D cI ad A nL Ln xs own cc) {pc : Nat} {L : List (Option Value)} {S : List Value} {mem : mz_M} {f : mz_I} {c1 : mz_C} {o : Int} (hd : decode cc pc = .ok (.ifCond .ge o, 3)) (hl : mz_lk T cl NM ST gt own (.ifCond .ge o) f = true) (hs : mz_step S0 T0 (.ifCond .ge o) f pc L S mem = some (.inl c1)) (k : mz_Z p l e R s m args below meth c cells slots Q S0 cl D cI ad A nL Ln xs c1.1 c1.2.1 c1.2.2.1 c1.2.2.2) : mz_Z p l e R s m args below meth c cells slots Q S0 cl D cI ad A nL Ln xs pc L S mem := by
  simp only [mz_step, mz_jump] at hs
  split at hs
  · obtain ⟨hb, hs⟩ := mz_cond hs
    cases hs
    intro ls H locs h1 h2 h3 h4
    have hk := k ls H locs h1 h2 h3 h4
    refine lv_if_ge F.1.1 F.1.2.1 hd (mz_tg_ok hb) (fun q => ?_) (fun q => ?_)
    · rw [if_pos q] at hk
      exact hk
    · rw [if_neg q] at hk
      exact hk
  · cases hs

set_option maxHeartbeats 1000000 in
theorem mz_w_if_gt {p : Program} {l : Launch} {e : Env} {R : Room} {s : State} {m : MethodId} {args : Array Value} {below : List Frame} {meth : Method} {c : Code} {cells slots : Nat} {Q : State → Prop} {S0 : mz_Sh} {T0 : List (List Int32)} {T : List mz_R} {cl : List vw_C} {NM : List String} {ST : List (String × Nat × String)} {G0 : List Jvm.Cond} {gt : Nat → Option Jvm.Cond} {D : va_G} {cI : ClassId} {ad : Nat → Nat} {A : Nat → Prop} {nL Ln : Nat} {xs : Nat → Int32} {own : String} {cc : ByteArray} (F : mz_Fix p R s m args c cells slots S0 T0 T cl NM ST G0 gt D cI ad A nL Ln xs own cc) {pc : Nat} {L : List (Option Value)} {S : List Value} {mem : mz_M} {f : mz_I} {c1 : mz_C} {o : Int} (hd : decode cc pc = .ok (.ifCond .gt o, 3)) (hl : mz_lk T cl NM ST gt own (.ifCond .gt o) f = true) (hs : mz_step S0 T0 (.ifCond .gt o) f pc L S mem = some (.inl c1)) (k : mz_Z p l e R s m args below meth c cells slots Q S0 cl D cI ad A nL Ln xs c1.1 c1.2.1 c1.2.2.1 c1.2.2.2) : mz_Z p l e R s m args below meth c cells slots Q S0 cl D cI ad A nL Ln xs pc L S mem := by
  simp only [mz_step, mz_jump] at hs
  split at hs
  · obtain ⟨hb, hs⟩ := mz_cond hs
    cases hs
    intro ls H locs h1 h2 h3 h4
    have hk := k ls H locs h1 h2 h3 h4
    refine lv_if_gt F.1.1 F.1.2.1 hd (mz_tg_ok hb) (fun q => ?_) (fun q => ?_)
    · rw [if_pos q] at hk
      exact hk
    · rw [if_neg q] at hk
      exact hk
  · cases hs

set_option maxHeartbeats 1000000 in
theorem mz_w_if_le {p : Program} {l : Launch} {e : Env} {R : Room} {s : State} {m : MethodId} {args : Array Value} {below : List Frame} {meth : Method} {c : Code} {cells slots : Nat} {Q : State → Prop} {S0 : mz_Sh} {T0 : List (List Int32)} {T : List mz_R} {cl : List vw_C} {NM : List String} {ST : List (String × Nat × String)} {G0 : List Jvm.Cond} {gt : Nat → Option Jvm.Cond} {D : va_G} {cI : ClassId} {ad : Nat → Nat} {A : Nat → Prop} {nL Ln : Nat} {xs : Nat → Int32} {own : String} {cc : ByteArray} (F : mz_Fix p R s m args c cells slots S0 T0 T cl NM ST G0 gt D cI ad A nL Ln xs own cc) {pc : Nat} {L : List (Option Value)} {S : List Value} {mem : mz_M} {f : mz_I} {c1 : mz_C} {o : Int} (hd : decode cc pc = .ok (.ifCond .le o, 3)) (hl : mz_lk T cl NM ST gt own (.ifCond .le o) f = true) (hs : mz_step S0 T0 (.ifCond .le o) f pc L S mem = some (.inl c1)) (k : mz_Z p l e R s m args below meth c cells slots Q S0 cl D cI ad A nL Ln xs c1.1 c1.2.1 c1.2.2.1 c1.2.2.2) : mz_Z p l e R s m args below meth c cells slots Q S0 cl D cI ad A nL Ln xs pc L S mem := by
  simp only [mz_step, mz_jump] at hs
  split at hs
  · obtain ⟨hb, hs⟩ := mz_cond hs
    cases hs
    intro ls H locs h1 h2 h3 h4
    have hk := k ls H locs h1 h2 h3 h4
    refine lv_if_le F.1.1 F.1.2.1 hd (mz_tg_ok hb) (fun q => ?_) (fun q => ?_)
    · rw [if_pos q] at hk
      exact hk
    · rw [if_neg q] at hk
      exact hk
  · cases hs

set_option maxHeartbeats 1000000 in
theorem mz_w_icmp_eq {p : Program} {l : Launch} {e : Env} {R : Room} {s : State} {m : MethodId} {args : Array Value} {below : List Frame} {meth : Method} {c : Code} {cells slots : Nat} {Q : State → Prop} {S0 : mz_Sh} {T0 : List (List Int32)} {T : List mz_R} {cl : List vw_C} {NM : List String} {ST : List (String × Nat × String)} {G0 : List Jvm.Cond} {gt : Nat → Option Jvm.Cond} {D : va_G} {cI : ClassId} {ad : Nat → Nat} {A : Nat → Prop} {nL Ln : Nat} {xs : Nat → Int32} {own : String} {cc : ByteArray} (F : mz_Fix p R s m args c cells slots S0 T0 T cl NM ST G0 gt D cI ad A nL Ln xs own cc) {pc : Nat} {L : List (Option Value)} {S : List Value} {mem : mz_M} {f : mz_I} {c1 : mz_C} {o : Int} (hd : decode cc pc = .ok (.if_icmp .eq o, 3)) (hl : mz_lk T cl NM ST gt own (.if_icmp .eq o) f = true) (hs : mz_step S0 T0 (.if_icmp .eq o) f pc L S mem = some (.inl c1)) (k : mz_Z p l e R s m args below meth c cells slots Q S0 cl D cI ad A nL Ln xs c1.1 c1.2.1 c1.2.2.1 c1.2.2.2) : mz_Z p l e R s m args below meth c cells slots Q S0 cl D cI ad A nL Ln xs pc L S mem := by
  simp only [mz_step, mz_jump] at hs
  split at hs
  · obtain ⟨hb, hs⟩ := mz_cond hs
    cases hs
    intro ls H locs h1 h2 h3 h4
    have hk := k ls H locs h1 h2 h3 h4
    refine lv_icmp_eq F.1.1 F.1.2.1 hd (mz_tg_ok hb) (fun q => ?_) (fun q => ?_)
    · rw [if_pos q] at hk
      exact hk
    · rw [if_neg q] at hk
      exact hk
  · cases hs

set_option maxHeartbeats 1000000 in
theorem mz_w_icmp_ne {p : Program} {l : Launch} {e : Env} {R : Room} {s : State} {m : MethodId} {args : Array Value} {below : List Frame} {meth : Method} {c : Code} {cells slots : Nat} {Q : State → Prop} {S0 : mz_Sh} {T0 : List (List Int32)} {T : List mz_R} {cl : List vw_C} {NM : List String} {ST : List (String × Nat × String)} {G0 : List Jvm.Cond} {gt : Nat → Option Jvm.Cond} {D : va_G} {cI : ClassId} {ad : Nat → Nat} {A : Nat → Prop} {nL Ln : Nat} {xs : Nat → Int32} {own : String} {cc : ByteArray} (F : mz_Fix p R s m args c cells slots S0 T0 T cl NM ST G0 gt D cI ad A nL Ln xs own cc) {pc : Nat} {L : List (Option Value)} {S : List Value} {mem : mz_M} {f : mz_I} {c1 : mz_C} {o : Int} (hd : decode cc pc = .ok (.if_icmp .ne o, 3)) (hl : mz_lk T cl NM ST gt own (.if_icmp .ne o) f = true) (hs : mz_step S0 T0 (.if_icmp .ne o) f pc L S mem = some (.inl c1)) (k : mz_Z p l e R s m args below meth c cells slots Q S0 cl D cI ad A nL Ln xs c1.1 c1.2.1 c1.2.2.1 c1.2.2.2) : mz_Z p l e R s m args below meth c cells slots Q S0 cl D cI ad A nL Ln xs pc L S mem := by
  simp only [mz_step, mz_jump] at hs
  split at hs
  · obtain ⟨hb, hs⟩ := mz_cond hs
    cases hs
    intro ls H locs h1 h2 h3 h4
    have hk := k ls H locs h1 h2 h3 h4
    refine lv_icmp_ne F.1.1 F.1.2.1 hd (mz_tg_ok hb) (fun q => ?_) (fun q => ?_)
    · rw [if_neg q] at hk
      exact hk
    · rw [if_pos q] at hk
      exact hk
  · cases hs

set_option maxHeartbeats 1000000 in
theorem mz_w_icmp_lt {p : Program} {l : Launch} {e : Env} {R : Room} {s : State} {m : MethodId} {args : Array Value} {below : List Frame} {meth : Method} {c : Code} {cells slots : Nat} {Q : State → Prop} {S0 : mz_Sh} {T0 : List (List Int32)} {T : List mz_R} {cl : List vw_C} {NM : List String} {ST : List (String × Nat × String)} {G0 : List Jvm.Cond} {gt : Nat → Option Jvm.Cond} {D : va_G} {cI : ClassId} {ad : Nat → Nat} {A : Nat → Prop} {nL Ln : Nat} {xs : Nat → Int32} {own : String} {cc : ByteArray} (F : mz_Fix p R s m args c cells slots S0 T0 T cl NM ST G0 gt D cI ad A nL Ln xs own cc) {pc : Nat} {L : List (Option Value)} {S : List Value} {mem : mz_M} {f : mz_I} {c1 : mz_C} {o : Int} (hd : decode cc pc = .ok (.if_icmp .lt o, 3)) (hl : mz_lk T cl NM ST gt own (.if_icmp .lt o) f = true) (hs : mz_step S0 T0 (.if_icmp .lt o) f pc L S mem = some (.inl c1)) (k : mz_Z p l e R s m args below meth c cells slots Q S0 cl D cI ad A nL Ln xs c1.1 c1.2.1 c1.2.2.1 c1.2.2.2) : mz_Z p l e R s m args below meth c cells slots Q S0 cl D cI ad A nL Ln xs pc L S mem := by
  simp only [mz_step, mz_jump] at hs
  split at hs
  · obtain ⟨hb, hs⟩ := mz_cond hs
    cases hs
    intro ls H locs h1 h2 h3 h4
    have hk := k ls H locs h1 h2 h3 h4
    refine lv_icmp_lt F.1.1 F.1.2.1 hd (mz_tg_ok hb) (fun q => ?_) (fun q => ?_)
    · rw [if_pos q] at hk
      exact hk
    · rw [if_neg q] at hk
      exact hk
  · cases hs

set_option maxHeartbeats 1000000 in
theorem mz_w_icmp_ge {p : Program} {l : Launch} {e : Env} {R : Room} {s : State} {m : MethodId} {args : Array Value} {below : List Frame} {meth : Method} {c : Code} {cells slots : Nat} {Q : State → Prop} {S0 : mz_Sh} {T0 : List (List Int32)} {T : List mz_R} {cl : List vw_C} {NM : List String} {ST : List (String × Nat × String)} {G0 : List Jvm.Cond} {gt : Nat → Option Jvm.Cond} {D : va_G} {cI : ClassId} {ad : Nat → Nat} {A : Nat → Prop} {nL Ln : Nat} {xs : Nat → Int32} {own : String} {cc : ByteArray} (F : mz_Fix p R s m args c cells slots S0 T0 T cl NM ST G0 gt D cI ad A nL Ln xs own cc) {pc : Nat} {L : List (Option Value)} {S : List Value} {mem : mz_M} {f : mz_I} {c1 : mz_C} {o : Int} (hd : decode cc pc = .ok (.if_icmp .ge o, 3)) (hl : mz_lk T cl NM ST gt own (.if_icmp .ge o) f = true) (hs : mz_step S0 T0 (.if_icmp .ge o) f pc L S mem = some (.inl c1)) (k : mz_Z p l e R s m args below meth c cells slots Q S0 cl D cI ad A nL Ln xs c1.1 c1.2.1 c1.2.2.1 c1.2.2.2) : mz_Z p l e R s m args below meth c cells slots Q S0 cl D cI ad A nL Ln xs pc L S mem := by
  simp only [mz_step, mz_jump] at hs
  split at hs
  · obtain ⟨hb, hs⟩ := mz_cond hs
    cases hs
    intro ls H locs h1 h2 h3 h4
    have hk := k ls H locs h1 h2 h3 h4
    refine lv_icmp_ge F.1.1 F.1.2.1 hd (mz_tg_ok hb) (fun q => ?_) (fun q => ?_)
    · rw [if_pos q] at hk
      exact hk
    · rw [if_neg q] at hk
      exact hk
  · cases hs

set_option maxHeartbeats 1000000 in
theorem mz_w_icmp_gt {p : Program} {l : Launch} {e : Env} {R : Room} {s : State} {m : MethodId} {args : Array Value} {below : List Frame} {meth : Method} {c : Code} {cells slots : Nat} {Q : State → Prop} {S0 : mz_Sh} {T0 : List (List Int32)} {T : List mz_R} {cl : List vw_C} {NM : List String} {ST : List (String × Nat × String)} {G0 : List Jvm.Cond} {gt : Nat → Option Jvm.Cond} {D : va_G} {cI : ClassId} {ad : Nat → Nat} {A : Nat → Prop} {nL Ln : Nat} {xs : Nat → Int32} {own : String} {cc : ByteArray} (F : mz_Fix p R s m args c cells slots S0 T0 T cl NM ST G0 gt D cI ad A nL Ln xs own cc) {pc : Nat} {L : List (Option Value)} {S : List Value} {mem : mz_M} {f : mz_I} {c1 : mz_C} {o : Int} (hd : decode cc pc = .ok (.if_icmp .gt o, 3)) (hl : mz_lk T cl NM ST gt own (.if_icmp .gt o) f = true) (hs : mz_step S0 T0 (.if_icmp .gt o) f pc L S mem = some (.inl c1)) (k : mz_Z p l e R s m args below meth c cells slots Q S0 cl D cI ad A nL Ln xs c1.1 c1.2.1 c1.2.2.1 c1.2.2.2) : mz_Z p l e R s m args below meth c cells slots Q S0 cl D cI ad A nL Ln xs pc L S mem := by
  simp only [mz_step, mz_jump] at hs
  split at hs
  · obtain ⟨hb, hs⟩ := mz_cond hs
    cases hs
    intro ls H locs h1 h2 h3 h4
    have hk := k ls H locs h1 h2 h3 h4
    refine lv_icmp_gt F.1.1 F.1.2.1 hd (mz_tg_ok hb) (fun q => ?_) (fun q => ?_)
    · rw [if_pos q] at hk
      exact hk
    · rw [if_neg q] at hk
      exact hk
  · cases hs

set_option maxHeartbeats 1000000 in
theorem mz_w_icmp_le {p : Program} {l : Launch} {e : Env} {R : Room} {s : State} {m : MethodId} {args : Array Value} {below : List Frame} {meth : Method} {c : Code} {cells slots : Nat} {Q : State → Prop} {S0 : mz_Sh} {T0 : List (List Int32)} {T : List mz_R} {cl : List vw_C} {NM : List String} {ST : List (String × Nat × String)} {G0 : List Jvm.Cond} {gt : Nat → Option Jvm.Cond} {D : va_G} {cI : ClassId} {ad : Nat → Nat} {A : Nat → Prop} {nL Ln : Nat} {xs : Nat → Int32} {own : String} {cc : ByteArray} (F : mz_Fix p R s m args c cells slots S0 T0 T cl NM ST G0 gt D cI ad A nL Ln xs own cc) {pc : Nat} {L : List (Option Value)} {S : List Value} {mem : mz_M} {f : mz_I} {c1 : mz_C} {o : Int} (hd : decode cc pc = .ok (.if_icmp .le o, 3)) (hl : mz_lk T cl NM ST gt own (.if_icmp .le o) f = true) (hs : mz_step S0 T0 (.if_icmp .le o) f pc L S mem = some (.inl c1)) (k : mz_Z p l e R s m args below meth c cells slots Q S0 cl D cI ad A nL Ln xs c1.1 c1.2.1 c1.2.2.1 c1.2.2.2) : mz_Z p l e R s m args below meth c cells slots Q S0 cl D cI ad A nL Ln xs pc L S mem := by
  simp only [mz_step, mz_jump] at hs
  split at hs
  · obtain ⟨hb, hs⟩ := mz_cond hs
    cases hs
    intro ls H locs h1 h2 h3 h4
    have hk := k ls H locs h1 h2 h3 h4
    refine lv_icmp_le F.1.1 F.1.2.1 hd (mz_tg_ok hb) (fun q => ?_) (fun q => ?_)
    · rw [if_pos q] at hk
      exact hk
    · rw [if_neg q] at hk
      exact hk
  · cases hs

set_option maxHeartbeats 1000000 in
theorem mz_w_goto {p : Program} {l : Launch} {e : Env} {R : Room} {s : State} {m : MethodId} {args : Array Value} {below : List Frame} {meth : Method} {c : Code} {cells slots : Nat} {Q : State → Prop} {S0 : mz_Sh} {T0 : List (List Int32)} {T : List mz_R} {cl : List vw_C} {NM : List String} {ST : List (String × Nat × String)} {G0 : List Jvm.Cond} {gt : Nat → Option Jvm.Cond} {D : va_G} {cI : ClassId} {ad : Nat → Nat} {A : Nat → Prop} {nL Ln : Nat} {xs : Nat → Int32} {own : String} {cc : ByteArray} (F : mz_Fix p R s m args c cells slots S0 T0 T cl NM ST G0 gt D cI ad A nL Ln xs own cc) {pc : Nat} {L : List (Option Value)} {S : List Value} {mem : mz_M} {f : mz_I} {c1 : mz_C} {o : Int} (hd : decode cc pc = .ok (.goto o, 3)) (hl : mz_lk T cl NM ST gt own (.goto o) f = true) (hs : mz_step S0 T0 (.goto o) f pc L S mem = some (.inl c1)) (k : mz_Z p l e R s m args below meth c cells slots Q S0 cl D cI ad A nL Ln xs c1.1 c1.2.1 c1.2.2.1 c1.2.2.2) : mz_Z p l e R s m args below meth c cells slots Q S0 cl D cI ad A nL Ln xs pc L S mem := by
  simp only [mz_step, mz_next] at hs
  obtain ⟨hb, hs⟩ := mz_cond hs
  cases hs
  exact fun ls H locs h1 h2 h3 h4 => lv_goto F.1.1 F.1.2.1 hd (mz_tg_ok hb) (k ls H locs h1 h2 h3 h4)

set_option maxHeartbeats 1000000 in
theorem mz_w_tableswitch {p : Program} {l : Launch} {e : Env} {R : Room} {s : State} {m : MethodId} {args : Array Value} {below : List Frame} {meth : Method} {c : Code} {cells slots : Nat} {Q : State → Prop} {S0 : mz_Sh} {T0 : List (List Int32)} {T : List mz_R} {cl : List vw_C} {NM : List String} {ST : List (String × Nat × String)} {G0 : List Jvm.Cond} {gt : Nat → Option Jvm.Cond} {D : va_G} {cI : ClassId} {ad : Nat → Nat} {A : Nat → Prop} {nL Ln : Nat} {xs : Nat → Int32} {own : String} {cc : ByteArray} (F : mz_Fix p R s m args c cells slots S0 T0 T cl NM ST G0 gt D cI ad A nL Ln xs own cc) {pc : Nat} {L : List (Option Value)} {S : List Value} {mem : mz_M} {f : mz_I} {c1 : mz_C} {d lo hi : Int} {offs : Array Int} {len : Nat} (hd : decode cc pc = .ok (.tableswitch d lo hi offs, len)) (hl : mz_lk T cl NM ST gt own (.tableswitch d lo hi offs) f = true) (hs : mz_step S0 T0 (.tableswitch d lo hi offs) f pc L S mem = some (.inl c1)) (k : mz_Z p l e R s m args below meth c cells slots Q S0 cl D cI ad A nL Ln xs c1.1 c1.2.1 c1.2.2.1 c1.2.2.2) : mz_Z p l e R s m args below meth c cells slots Q S0 cl D cI ad A nL Ln xs pc L S mem := by
  simp only [mz_step, mz_next] at hs
  split at hs
  · rename_i x S1
    cases hb : (decide (x.toInt < lo) || decide (hi < x.toInt)) with
    | true =>
      rw [hb] at hs
      obtain ⟨hb2, hs⟩ := mz_cond (x := some _) hs
      cases hs
      exact fun ls H locs h1 h2 h3 h4 => lv_tableOut F.1.1 F.1.2.1 hd (by simpa using hb) (mz_tg_ok hb2) (k ls H locs h1 h2 h3 h4)
    | false =>
      rw [hb] at hs
      simp only [cond_false] at hs
      split at hs
      · rename_i o ho
        obtain ⟨hb2, hs⟩ := mz_cond hs
        cases hs
        have hb3 : ¬ x.toInt < lo ∧ ¬ hi < x.toInt := by
          have := hb
          simp only [Bool.or_eq_false_iff, decide_eq_false_iff_not] at this
          exact this
        exact fun ls H locs h1 h2 h3 h4 => lv_tableIn F.1.1 F.1.2.1 hd hb3.1 hb3.2 ho (mz_tg_ok hb2) (k ls H locs h1 h2 h3 h4)
      · cases hs
  · cases hs

set_option maxHeartbeats 1000000 in
theorem mz_w_lookupswitch {p : Program} {l : Launch} {e : Env} {R : Room} {s : State} {m : MethodId} {args : Array Value} {below : List Frame} {meth : Method} {c : Code} {cells slots : Nat} {Q : State → Prop} {S0 : mz_Sh} {T0 : List (List Int32)} {T : List mz_R} {cl : List vw_C} {NM : List String} {ST : List (String × Nat × String)} {G0 : List Jvm.Cond} {gt : Nat → Option Jvm.Cond} {D : va_G} {cI : ClassId} {ad : Nat → Nat} {A : Nat → Prop} {nL Ln : Nat} {xs : Nat → Int32} {own : String} {cc : ByteArray} (F : mz_Fix p R s m args c cells slots S0 T0 T cl NM ST G0 gt D cI ad A nL Ln xs own cc) {pc : Nat} {L : List (Option Value)} {S : List Value} {mem : mz_M} {f : mz_I} {c1 : mz_C} {d : Int} {ps : Array (Int × Int)} {len : Nat} (hd : decode cc pc = .ok (.lookupswitch d ps, len)) (hl : mz_lk T cl NM ST gt own (.lookupswitch d ps) f = true) (hs : mz_step S0 T0 (.lookupswitch d ps) f pc L S mem = some (.inl c1)) (k : mz_Z p l e R s m args below meth c cells slots Q S0 cl D cI ad A nL Ln xs c1.1 c1.2.1 c1.2.2.1 c1.2.2.2) : mz_Z p l e R s m args below meth c cells slots Q S0 cl D cI ad A nL Ln xs pc L S mem := by
  simp only [mz_step, mz_next] at hs
  split at hs
  · obtain ⟨hb, hs⟩ := mz_cond hs
    cases hs
    rw [Bool.and_eq_true] at hb
    exact fun ls H locs h1 h2 h3 h4 => lv_lookup F.1.1 F.1.2.1 hd hb.1 rfl (mz_tg_ok hb.2) (k ls H locs h1 h2 h3 h4)
  · cases hs

set_option maxHeartbeats 1000000 in
theorem mz_w_getfield {p : Program} {l : Launch} {e : Env} {R : Room} {s : State} {m : MethodId} {args : Array Value} {below : List Frame} {meth : Method} {c : Code} {cells slots : Nat} {Q : State → Prop} {S0 : mz_Sh} {T0 : List (List Int32)} {T : List mz_R} {cl : List vw_C} {NM : List String} {ST : List (String × Nat × String)} {G0 : List Jvm.Cond} {gt : Nat → Option Jvm.Cond} {D : va_G} {cI : ClassId} {ad : Nat → Nat} {A : Nat → Prop} {nL Ln : Nat} {xs : Nat → Int32} {own : String} {cc : ByteArray} (F : mz_Fix p R s m args c cells slots S0 T0 T cl NM ST G0 gt D cI ad A nL Ln xs own cc) {pc : Nat} {L : List (Option Value)} {S : List Value} {mem : mz_M} {f : mz_I} {c1 : mz_C} {x : Nat} (hd : decode cc pc = .ok (.getfield x, 3)) (hl : mz_lk T cl NM ST gt own (.getfield x) f = true) (hs : mz_step S0 T0 (.getfield x) f pc L S mem = some (.inl c1)) (k : mz_Z p l e R s m args below meth c cells slots Q S0 cl D cI ad A nL Ln xs c1.1 c1.2.1 c1.2.2.1 c1.2.2.2) : mz_Z p l e R s m args below meth c cells slots Q S0 cl D cI ad A nL Ln xs pc L S mem := by
  simp only [mz_lk] at hl
  simp only [mz_step, mz_next] at hs
  split at hs
  · rename_i i S1
    cases hf : (f.1 == 5) with
    | true =>
      rw [hf] at hs hl
      obtain ⟨hb, hs⟩ := mz_cond (x := some _) hs
      cases hs
      obtain ⟨j, hj, rfl⟩ := mz_isT_k hb
      have hST := F.2.1.2.2.2.2.2.2.1.1 j hj
      dsimp only at hST
      rw [show 2100 + j = 2000 + j + 100 by omega] at hST
      cases hg : (f.2.1 == 0) with
      | true =>
        rw [hg] at hl
        exact fun ls H locs h1 h2 h3 h4 => vk_getf F.1.1 F.1.2.1 hST.2.2.1 h3 F.1.2.2.2.1 (F.1.2.2.2.2 _ (mz_Gi F (of_decide_eq_true hl) rfl)) (fun _ h => h) hd (by have hk := k ls H locs h1 h2 h3 h4; rw [hg] at hk; exact hk)
      | false =>
        rw [hg] at hl
        exact fun ls H locs h1 h2 h3 h4 => vk_getf F.1.1 F.1.2.1 hST.2.1 h3 F.1.2.2.2.1 (F.1.2.2.2.2 _ (mz_Gi F (of_decide_eq_true hl) rfl)) (fun _ h => h) hd (by have hk := k ls H locs h1 h2 h3 h4; rw [hg] at hk; exact hk)
    | false =>
      rw [hf] at hs hl
      simp only [cond_false] at hs hl
      split at hs
      · rename_i v hv
        cases hs
        split at hl
        · rename_i q hq
          rw [Bool.and_eq_true] at hl
          obtain ⟨fs, h5, h6⟩ := mz_get_spec (ad := ad) hv
          exact fun ls H locs h1 h2 h3 h4 => va_get (C := q.1) (T := q.2.1) (N := q.2.2) F.1.1 F.1.2.1 F.1.2.2.2.2 (F.2.2.2.1 _ _ hq).1 F.1.2.2.2.1 F.2.1.1 h2 i (mz_w_obj h5) hq f.2.2.1 (of_decide_eq_true hl.1) (F.1.2.2.2.2 _ (mz_Gi F (of_decide_eq_true hl.2) rfl)) (fun _ h => h) h6 hd (k ls H locs h1 h2 h3 h4)
        · cases hl
      · cases hs
  · cases hs

set_option maxHeartbeats 1000000 in
theorem mz_w_putfield {p : Program} {l : Launch} {e : Env} {R : Room} {s : State} {m : MethodId} {args : Array Value} {below : List Frame} {meth : Method} {c : Code} {cells slots : Nat} {Q : State → Prop} {S0 : mz_Sh} {T0 : List (List Int32)} {T : List mz_R} {cl : List vw_C} {NM : List String} {ST : List (String × Nat × String)} {G0 : List Jvm.Cond} {gt : Nat → Option Jvm.Cond} {D : va_G} {cI : ClassId} {ad : Nat → Nat} {A : Nat → Prop} {nL Ln : Nat} {xs : Nat → Int32} {own : String} {cc : ByteArray} (F : mz_Fix p R s m args c cells slots S0 T0 T cl NM ST G0 gt D cI ad A nL Ln xs own cc) {pc : Nat} {L : List (Option Value)} {S : List Value} {mem : mz_M} {f : mz_I} {c1 : mz_C} {x : Nat} (hd : decode cc pc = .ok (.putfield x, 3)) (hl : mz_lk T cl NM ST gt own (.putfield x) f = true) (hs : mz_step S0 T0 (.putfield x) f pc L S mem = some (.inl c1)) (k : mz_Z p l e R s m args below meth c cells slots Q S0 cl D cI ad A nL Ln xs c1.1 c1.2.1 c1.2.2.1 c1.2.2.2) : mz_Z p l e R s m args below meth c cells slots Q S0 cl D cI ad A nL Ln xs pc L S mem := by
  simp only [mz_lk] at hl
  simp only [mz_step, mz_next] at hs
  split at hs
  · rename_i v i S1
    split at hs
    · rename_i m1 hm
      cases hs
      split at hl
      · rename_i q hq
        rw [Bool.and_eq_true] at hl
        obtain ⟨fs, g, x1, h5, h6, rfl, h7⟩ := mz_put_spec hm
        obtain ⟨q1, hq1, hlen, hsh⟩ := F.2.2.2.2.1 _ _ _ h5
        have hqe : q1 = q := Option.some.inj (hq1.symm.trans hq)
        subst hqe
        obtain ⟨hin, hnm, ty0, hty⟩ := F.2.2.2.1 _ _ hq
        have hi : i < 1000 := Nat.lt_of_lt_of_le (mz_lt h5) F.2.2.2.2.2.2.1
        obtain ⟨t, ht1, ht2, ht3, ht4, ht5⟩ : ∃ t, (q1.2.1 f.2.2.1).2.2.2 = false ∧ parseFieldDescriptor (q1.2.1 f.2.2.1).2.2.1 = some t ∧ narrow t (mz_cvv ad v) = mz_cvv ad v ∧ fits t (mz_cvv ad v) = true ∧ mz_cvv ad v = mz_fv ad (mz_up mem i f.2.2.1 x1) i f.2.2.1 g := by
          rcases h7 with ⟨rfl, rfl⟩ | ⟨rfl, rfl, h8⟩ | ⟨rfl, r, rfl, h8, rfl⟩
          · exact ⟨.int, ((hsh _ _ h6).1 rfl).1, ((hsh _ _ h6).1 rfl).2, rfl, rfl, by simp [mz_cvv, mz_fv, mz_up_eq]⟩
          · refine ⟨.boolean, ((hsh _ _ h6).2.1 rfl).1, ((hsh _ _ h6).2.1 rfl).2, ?_, ?_, by simp [mz_cvv, mz_fv, mz_up_eq]⟩
            · rcases h8 with rfl | rfl <;> rfl
            · rcases h8 with rfl | rfl <;> rfl
          · exact ⟨_, ((hsh _ _ h6).2.2 rfl).1, ((hsh _ _ h6).2.2 rfl).2, rfl, rfl, by simp [mz_cvv, mz_fv, mz_up_eq, nI_clamp (show r < 2 ^ 31 by omega)]⟩
        intro ls H locs h1 h2 h3 h4
        refine va_put (C := q1.1) (T := q1.2.1) (N := q1.2.2) (ty := t) F.1.1 F.1.2.1 F.1.2.2.2.2 hin ty0 hty hnm F.1.2.2.2.1 F.2.1.1 h2 (F.2.1.2.1 mem) h3 i (mz_w_obj h5) hq f.2.2.1 (of_decide_eq_true hl.1) (F.1.2.2.2.2 _ (mz_Gi F (of_decide_eq_true hl.2) rfl)) (fun _ h => h) ht1 ht2 ht3 ht4 (by rw [List.length_mapIdx]; exact (List.getElem?_eq_some_iff.mp h6).1) hd (fun H1 locs1 a1 a2 a3 => ?_)
        rw [ht5, mz_put_cell h5 h6] at a1
        exact k ls H1 locs1 h1 a1 a3 (mz_scr_up hi h4)
      · cases hl
    · cases hs
  · cases hs

set_option maxHeartbeats 1000000 in
theorem mz_w_getstatic {p : Program} {l : Launch} {e : Env} {R : Room} {s : State} {m : MethodId} {args : Array Value} {below : List Frame} {meth : Method} {c : Code} {cells slots : Nat} {Q : State → Prop} {S0 : mz_Sh} {T0 : List (List Int32)} {T : List mz_R} {cl : List vw_C} {NM : List String} {ST : List (String × Nat × String)} {G0 : List Jvm.Cond} {gt : Nat → Option Jvm.Cond} {D : va_G} {cI : ClassId} {ad : Nat → Nat} {A : Nat → Prop} {nL Ln : Nat} {xs : Nat → Int32} {own : String} {cc : ByteArray} (F : mz_Fix p R s m args c cells slots S0 T0 T cl NM ST G0 gt D cI ad A nL Ln xs own cc) {pc : Nat} {L : List (Option Value)} {S : List Value} {mem : mz_M} {f : mz_I} {c1 : mz_C} {x : Nat} (hd : decode cc pc = .ok (.getstatic x, 3)) (hl : mz_lk T cl NM ST gt own (.getstatic x) f = true) (hs : mz_step S0 T0 (.getstatic x) f pc L S mem = some (.inl c1)) (k : mz_Z p l e R s m args below meth c cells slots Q S0 cl D cI ad A nL Ln xs c1.1 c1.2.1 c1.2.2.1 c1.2.2.2) : mz_Z p l e R s m args below meth c cells slots Q S0 cl D cI ad A nL Ln xs pc L S mem := by
  simp only [mz_lk] at hl
  simp only [mz_step, mz_next] at hs
  obtain rfl := Sum.inl.inj (Option.some.inj hs)
  cases hf : (f.1 == 6) with
  | true =>
    rw [hf] at hl
    exact fun ls H locs h1 h2 h3 h4 => va_gets F.1.1 F.1.2.1 F.2.1.2.2.2.2.2.2.2.1 h3 F.1.2.2.2.1 (F.1.2.2.2.2 _ (mz_Gi F (of_decide_eq_true hl) rfl)) (fun _ h => h) hd (by have hk := k ls H locs h1 h2 h3 h4; rw [hf] at hk; exact hk)
  | false =>
    rw [hf] at hl
    simp only [cond_false] at hl
    split at hl
    · rename_i n hn
      have hZ := F.2.1.2.2.2.1 _ _ hn
      cases hg : (f.2.2.1 == 0) with
      | true =>
        rw [hg] at hl
        exact fun ls H locs h1 h2 h3 h4 => va_gets F.1.1 F.1.2.1 hZ h3 F.1.2.2.2.1 (F.1.2.2.2.2 _ (mz_Gi F (of_decide_eq_true hl) rfl)) (fun _ h => h) hd (by have hk := k ls H locs h1 h2 h3 h4; rw [hf] at hk; exact hk)
      | false =>
        rw [hg] at hl
        exact fun ls H locs h1 h2 h3 h4 => va_getsN F.1.1 F.1.2.1 hZ h3 F.1.2.2.2.1 (va_Nw.use rfl (F.2.1.2.2.2.2.2.2.2.2.1 _ (F.2.2.2.2.2.2.2.2.2 _ _ (of_decide_eq_true hl)) rfl)) (fun _ h => h) hd (by have hk := k ls H locs h1 h2 h3 h4; rw [hf] at hk; exact hk)
    · cases hl

theorem mz_len_spec {S0 : mz_Sh} {T0 : List (List Int32)} {m : mz_M} {i n : Nat} (h : mz_len S0 T0 m i = some n) : (i < 1000 ∧ S0[i]? = some (.inl n)) ∨ (∃ j t, i = 1000 + j ∧ T0[j]? = some t ∧ n = t.length) ∨ (∃ j, j < 4 ∧ i = 2100 + j ∧ ¬ i < 1000 + T0.length ∧ n = (mz_by.getD j []).length) ∨ (i = 3000 ∧ ¬ i < 1000 + T0.length ∧ n = (m 3001 0).toNatClampNeg) := by
  unfold mz_len at h
  cases h1 : decide (i < 1000) with
  | true =>
    rw [h1] at h
    have h1 := of_decide_eq_true h1
    simp only [cond_true] at h
    split at h
    · rename_i z hz
      cases h
      exact Or.inl ⟨h1, hz⟩
    · cases h
  | false =>
    rw [h1] at h
    have h1 := of_decide_eq_false h1
    simp only [cond_false] at h
    cases h2 : decide (i < 1000 + T0.length) with
    | true =>
      rw [h2] at h
      have h2 := of_decide_eq_true h2
      simp only [cond_true] at h
      obtain rfl := Option.some.inj h
      have h3 : i - 1000 < T0.length := by omega
      exact Or.inr (Or.inl ⟨i - 1000, T0[i - 1000], by omega, List.getElem?_eq_getElem h3, by simp [mz_ro, List.getD, List.getElem?_eq_getElem h3]⟩)
    | false =>
      rw [h2] at h
      have h2 := of_decide_eq_false h2
      simp only [cond_false] at h
      cases h3 : mz_isB i with
      | true =>
        rw [h3] at h
        simp only [cond_true] at h
        obtain rfl := Option.some.inj h
        obtain ⟨j, hj, rfl⟩ := mz_isB_k h3
        exact Or.inr (Or.inr (Or.inl ⟨j, hj, rfl, h2, by rw [show 2100 + j - 2100 = j by omega]⟩))
      | false =>
        rw [h3] at h
        simp only [cond_false] at h
        obtain ⟨h4, h⟩ := mz_cond h
        obtain rfl := Option.some.inj h
        exact Or.inr (Or.inr (Or.inr ⟨by simpa using h4, h2, rfl⟩))

set_option maxHeartbeats 1000000 in
theorem mz_w_arraylength {p : Program} {l : Launch} {e : Env} {R : Room} {s : State} {m : MethodId} {args : Array Value} {below : List Frame} {meth : Method} {c : Code} {cells slots : Nat} {Q : State → Prop} {S0 : mz_Sh} {T0 : List (List Int32)} {T : List mz_R} {cl : List vw_C} {NM : List String} {ST : List (String × Nat × String)} {G0 : List Jvm.Cond} {gt : Nat → Option Jvm.Cond} {D : va_G} {cI : ClassId} {ad : Nat → Nat} {A : Nat → Prop} {nL Ln : Nat} {xs : Nat → Int32} {own : String} {cc : ByteArray} (F : mz_Fix p R s m args c cells slots S0 T0 T cl NM ST G0 gt D cI ad A nL Ln xs own cc) {pc : Nat} {L : List (Option Value)} {S : List Value} {mem : mz_M} {f : mz_I} {c1 : mz_C} (hd : decode cc pc = .ok (.arraylength, 1)) (hl : mz_lk T cl NM ST gt own (.arraylength) f = true) (hs : mz_step S0 T0 (.arraylength) f pc L S mem = some (.inl c1)) (k : mz_Z p l e R s m args below meth c cells slots Q S0 cl D cI ad A nL Ln xs c1.1 c1.2.1 c1.2.2.1 c1.2.2.2) : mz_Z p l e R s m args below meth c cells slots Q S0 cl D cI ad A nL Ln xs pc L S mem := by
  simp only [mz_step, mz_next] at hs
  split at hs
  · rename_i i S1
    split at hs
    · rename_i n hn
      cases hs
      intro ls H locs h1 h2 h3 h4
      have hk := k ls H locs h1 h2 h3 h4
      rcases mz_len_spec hn with ⟨h5, h6⟩ | ⟨i2, t, rfl, h6, rfl⟩ | ⟨j, h5, rfl, h6, rfl⟩ | ⟨rfl, h5, rfl⟩
      · exact va_alen F.1.1 F.1.2.1 F.2.1.1 h2 i 0 (mz_w_arr h6) rfl rfl hd hk
      · have hT := F.2.1.2.2.2.2.1 _ _ h6
        exact va_tlen F.1.1 F.1.2.1 hT h3 rfl hd hk
      · have hT := (F.2.1.2.2.2.2.2.2.1.1 j h5).2.2.2
        rcases (show j = 0 ∨ j = 1 ∨ j = 2 ∨ j = 3 by omega) with rfl | rfl | rfl | rfl <;> exact va_tlen F.1.1 F.1.2.1 hT h3 rfl hd hk
      · obtain ⟨hX, hX2, hX3⟩ := F.2.1.2.2.2.2.2.2.2.2.2
        refine va_slen F.1.1 F.1.2.1 hX hX2 hX3 h3 hd ?_
        rw [h4.2.1, nI_clamp h4.2.2] at hk
        exact hk
    · cases hs
  · cases hs

set_option maxHeartbeats 1000000 in
theorem mz_w_iaload {p : Program} {l : Launch} {e : Env} {R : Room} {s : State} {m : MethodId} {args : Array Value} {below : List Frame} {meth : Method} {c : Code} {cells slots : Nat} {Q : State → Prop} {S0 : mz_Sh} {T0 : List (List Int32)} {T : List mz_R} {cl : List vw_C} {NM : List String} {ST : List (String × Nat × String)} {G0 : List Jvm.Cond} {gt : Nat → Option Jvm.Cond} {D : va_G} {cI : ClassId} {ad : Nat → Nat} {A : Nat → Prop} {nL Ln : Nat} {xs : Nat → Int32} {own : String} {cc : ByteArray} (F : mz_Fix p R s m args c cells slots S0 T0 T cl NM ST G0 gt D cI ad A nL Ln xs own cc) {pc : Nat} {L : List (Option Value)} {S : List Value} {mem : mz_M} {f : mz_I} {c1 : mz_C} (hd : decode cc pc = .ok (.iaload, 1)) (hl : mz_lk T cl NM ST gt own (.iaload) f = true) (hs : mz_step S0 T0 (.iaload) f pc L S mem = some (.inl c1)) (k : mz_Z p l e R s m args below meth c cells slots Q S0 cl D cI ad A nL Ln xs c1.1 c1.2.1 c1.2.2.1 c1.2.2.2) : mz_Z p l e R s m args below meth c cells slots Q S0 cl D cI ad A nL Ln xs pc L S mem := by
  simp only [mz_step, mz_next] at hs
  split at hs
  · rename_i j i S1
    split at hs
    · rename_i n hn
      obtain ⟨hb, hs⟩ := mz_cond hs
      cases hs
      obtain ⟨hg, hn⟩ := mz_condn hn
      intro ls H locs h1 h2 h3 h4
      have hk := k ls H locs h1 h2 h3 h4
      rcases mz_len_spec hn with ⟨h5, h6⟩ | ⟨i2, t, rfl, h6, rfl⟩ | ⟨j2, h5, rfl, h6, rfl⟩ | ⟨rfl, h5, rfl⟩
      · refine va_iald F.1.1 F.1.2.1 F.2.1.1 h2 i 0 (mz_w_arr h6) rfl (mz_in_of hb) hd ?_
        have e : mz_val T0 mem i j.toNatClampNeg = mem i j.toNatClampNeg := by simp [mz_val, h5]
        rw [e] at hk
        exact hk
      · have hT := F.2.1.2.2.2.2.1 _ _ h6
        refine va_ti F.1.1 F.1.2.1 hT h3 (mz_in_of hb) rfl hd ?_
        have h7 : i2 < T0.length := (List.getElem?_eq_some_iff.mp h6).1
        have e : mz_val T0 mem (1000 + i2) j.toNatClampNeg = t.getD j.toNatClampNeg 0 := by
          simp only [mz_val, mz_ro]
          rw [show decide (1000 + i2 < 1000) = false from decide_eq_false (by omega), show decide (1000 + i2 < 1000 + T0.length) = true from decide_eq_true (by omega), show 1000 + i2 - 1000 = i2 by omega]
          simp [List.getD, h6]
        rw [e] at hk
        exact hk
      · rw [mz_isR_no h5] at hg
        cases hg
      · obtain ⟨hX, hX2, hX3⟩ := F.2.1.2.2.2.2.2.2.2.2.2
        rw [h4.2.1, nI_clamp h4.2.2] at hb
        refine va_sld F.1.1 F.1.2.1 hX hX2 hX3 h3 (mz_in_of hb) hd ?_
        have e : mz_val T0 mem 3000 j.toNatClampNeg = xs j.toNatClampNeg := by
          simp only [mz_val]
          rw [show decide (3000 < 1000) = false from rfl, show decide (3000 < 1000 + T0.length) = false from decide_eq_false h5]
          exact h4.1 _
        rw [e] at hk
        exact hk
    · cases hs
  · cases hs

set_option maxHeartbeats 1000000 in
theorem mz_w_iastore {p : Program} {l : Launch} {e : Env} {R : Room} {s : State} {m : MethodId} {args : Array Value} {below : List Frame} {meth : Method} {c : Code} {cells slots : Nat} {Q : State → Prop} {S0 : mz_Sh} {T0 : List (List Int32)} {T : List mz_R} {cl : List vw_C} {NM : List String} {ST : List (String × Nat × String)} {G0 : List Jvm.Cond} {gt : Nat → Option Jvm.Cond} {D : va_G} {cI : ClassId} {ad : Nat → Nat} {A : Nat → Prop} {nL Ln : Nat} {xs : Nat → Int32} {own : String} {cc : ByteArray} (F : mz_Fix p R s m args c cells slots S0 T0 T cl NM ST G0 gt D cI ad A nL Ln xs own cc) {pc : Nat} {L : List (Option Value)} {S : List Value} {mem : mz_M} {f : mz_I} {c1 : mz_C} (hd : decode cc pc = .ok (.iastore, 1)) (hl : mz_lk T cl NM ST gt own (.iastore) f = true) (hs : mz_step S0 T0 (.iastore) f pc L S mem = some (.inl c1)) (k : mz_Z p l e R s m args below meth c cells slots Q S0 cl D cI ad A nL Ln xs c1.1 c1.2.1 c1.2.2.1 c1.2.2.2) : mz_Z p l e R s m args below meth c cells slots Q S0 cl D cI ad A nL Ln xs pc L S mem := by
  simp only [mz_step, mz_next] at hs
  split at hs
  · rename_i x j i S1
    split at hs
    · rename_i n hn
      obtain ⟨hb, hs⟩ := mz_cond hs
      cases hs
      intro ls H locs h1 h2 h3 h4
      have hi : i < 1000 := Nat.lt_of_lt_of_le (mz_lt hn) F.2.2.2.2.2.2.1
      refine va_iast F.1.1 F.1.2.1 F.2.1.1 h2 (F.2.1.2.1 mem) h3 i 0 (mz_w_arr hn) rfl (mz_in_of hb) hd (fun H1 locs1 a1 a2 a3 => ?_)
      rw [mz_arr_cell (m' := mz_up mem i j.toNatClampNeg x) hn (by funext b; rw [mz_up_eq]; rfl) (fun j hj => mz_up_ne hj)] at a1
      exact k ls H1 locs1 h1 a1 a3 (mz_scr_up hi h4)
    · cases hs
  · cases hs

set_option maxHeartbeats 1000000 in
theorem mz_w_baload {p : Program} {l : Launch} {e : Env} {R : Room} {s : State} {m : MethodId} {args : Array Value} {below : List Frame} {meth : Method} {c : Code} {cells slots : Nat} {Q : State → Prop} {S0 : mz_Sh} {T0 : List (List Int32)} {T : List mz_R} {cl : List vw_C} {NM : List String} {ST : List (String × Nat × String)} {G0 : List Jvm.Cond} {gt : Nat → Option Jvm.Cond} {D : va_G} {cI : ClassId} {ad : Nat → Nat} {A : Nat → Prop} {nL Ln : Nat} {xs : Nat → Int32} {own : String} {cc : ByteArray} (F : mz_Fix p R s m args c cells slots S0 T0 T cl NM ST G0 gt D cI ad A nL Ln xs own cc) {pc : Nat} {L : List (Option Value)} {S : List Value} {mem : mz_M} {f : mz_I} {c1 : mz_C} (hd : decode cc pc = .ok (.baload, 1)) (hl : mz_lk T cl NM ST gt own (.baload) f = true) (hs : mz_step S0 T0 (.baload) f pc L S mem = some (.inl c1)) (k : mz_Z p l e R s m args below meth c cells slots Q S0 cl D cI ad A nL Ln xs c1.1 c1.2.1 c1.2.2.1 c1.2.2.2) : mz_Z p l e R s m args below meth c cells slots Q S0 cl D cI ad A nL Ln xs pc L S mem := by
  simp only [mz_step, mz_next] at hs
  split at hs
  · rename_i j i S1
    obtain ⟨hb, hs⟩ := mz_cond hs
    cases hs
    rw [Bool.and_eq_true] at hb
    obtain ⟨h5, h7⟩ := hb
    intro ls H locs h1 h2 h3 h4
    have hk := k ls H locs h1 h2 h3 h4
    obtain ⟨t, h8, rfl⟩ := mz_isB_k h5
    rw [show 2100 + t - 2100 = t by omega] at hk h7
    have hT := (F.2.1.2.2.2.2.2.2.1.1 t h8).2.2.2
    rcases (show t = 0 ∨ t = 1 ∨ t = 2 ∨ t = 3 by omega) with rfl | rfl | rfl | rfl <;> exact va_tb F.1.1 F.1.2.1 hT h3 (mz_in_of h7) rfl hd hk
  · cases hs

theorem mz_pw_at {p : Program} {R : Room} {s : State} {m : MethodId} {args : Array Value} {c : Code} {cells slots : Nat} {S0 : mz_Sh} {T0 : List (List Int32)} {T : List mz_R} {cl : List vw_C} {NM : List String} {ST : List (String × Nat × String)} {G0 : List Jvm.Cond} {gt : Nat → Option Jvm.Cond} {D : va_G} {cI : ClassId} {ad : Nat → Nat} {A : Nat → Prop} {nL Ln : Nat} {xs : Nat → Int32} {own : String} {cc : ByteArray} (F : mz_Fix p R s m args c cells slots S0 T0 T cl NM ST G0 gt D cI ad A nL Ln xs own cc) {w : Jvm.Cond} (h : w ∈ mz_pw) : w.before args s = true := F.1.2.2.2.2 _ (F.2.2.2.2.2.1 _ h)

set_option maxHeartbeats 1000000 in
theorem mz_w_invokestatic {p : Program} {l : Launch} {e : Env} {R : Room} {s : State} {m : MethodId} {args : Array Value} {below : List Frame} {meth : Method} {c : Code} {cells slots : Nat} {Q : State → Prop} {S0 : mz_Sh} {T0 : List (List Int32)} {T : List mz_R} {cl : List vw_C} {NM : List String} {ST : List (String × Nat × String)} {G0 : List Jvm.Cond} {gt : Nat → Option Jvm.Cond} {D : va_G} {cI : ClassId} {ad : Nat → Nat} {A : Nat → Prop} {nL Ln : Nat} {xs : Nat → Int32} {own : String} {cc : ByteArray} (F : mz_Fix p R s m args c cells slots S0 T0 T cl NM ST G0 gt D cI ad A nL Ln xs own cc) {pc : Nat} {L : List (Option Value)} {S : List Value} {mem : mz_M} {f : mz_I} {c1 : mz_C} {x : Nat} (hd : decode cc pc = .ok (.invokestatic x, 3)) (hl : mz_lk T cl NM ST gt own (.invokestatic x) f = true) (hs : mz_step S0 T0 (.invokestatic x) f pc L S mem = some (.inl c1)) (k : mz_Z p l e R s m args below meth c cells slots Q S0 cl D cI ad A nL Ln xs c1.1 c1.2.1 c1.2.2.1 c1.2.2.2) : mz_Z p l e R s m args below meth c cells slots Q S0 cl D cI ad A nL Ln xs pc L S mem := by
  simp only [mz_lk] at hl
  simp only [mz_step, mz_next] at hs
  split at hs
  · cases hs
  · cases hs
  · rename_i hf
    rw [hf] at hl
    split at hs
    · obtain ⟨hb, hs⟩ := mz_cond hs
      cases hs
      have hb := of_decide_eq_true hb
      exact fun ls H locs h1 h2 h3 h4 => va_mabs F.1.1 F.1.2.1 (F.1.2.2.1.trans h1.1.symm) F.1.2.2.2.1 (F.1.2.2.2.2 _ (mz_Gi F (of_decide_eq_true hl) rfl)) (mz_pw_at F (by simp [mz_pw])) (mz_pw_at F (by simp [mz_pw])) (mz_pw_at F (by simp [mz_pw])) F.2.2.1.1 (by rw [mz_cat_map]; have := F.2.2.1.2.1; omega) F.2.2.1.2.2.1 F.2.2.1.2.2.2 hd (k ls H locs h1 h2 h3 h4)
    · cases hs
  · rename_i hf
    rw [hf] at hl
    split at hs
    · obtain ⟨hb, hs⟩ := mz_cond hs
      cases hs
      have hb := of_decide_eq_true hb
      exact fun ls H locs h1 h2 h3 h4 => va_mmax F.1.1 F.1.2.1 (F.1.2.2.1.trans h1.1.symm) F.1.2.2.2.1 (F.1.2.2.2.2 _ (mz_Gi F (of_decide_eq_true hl) rfl)) (mz_pw_at F (by simp [mz_pw])) (mz_pw_at F (by simp [mz_pw])) (mz_pw_at F (by simp [mz_pw])) F.2.2.1.1 (by rw [mz_cat_map]; have := F.2.2.1.2.1; omega) F.2.2.1.2.2.1 F.2.2.1.2.2.2 hd (k ls H locs h1 h2 h3 h4)
    · cases hs
  · rename_i hf
    rw [hf] at hl
    split at hs
    · obtain ⟨hb, hs⟩ := mz_cond hs
      cases hs
      have hb := of_decide_eq_true hb
      exact fun ls H locs h1 h2 h3 h4 => va_mmin F.1.1 F.1.2.1 (F.1.2.2.1.trans h1.1.symm) F.1.2.2.2.1 (F.1.2.2.2.2 _ (mz_Gi F (of_decide_eq_true hl) rfl)) (mz_pw_at F (by simp [mz_pw])) (mz_pw_at F (by simp [mz_pw])) (mz_pw_at F (by simp [mz_pw])) F.2.2.1.1 (by rw [mz_cat_map]; have := F.2.2.1.2.1; omega) F.2.2.1.2.2.1 F.2.2.1.2.2.2 hd (k ls H locs h1 h2 h3 h4)
    · cases hs
  · rename_i hf
    rw [hf] at hl
    split at hs
    · rename_i n dp i sp j S1
      split at hs
      · rename_i ni nj hi hj
        obtain ⟨hb, hs⟩ := mz_cond hs
        cases hs
        simp only [Bool.and_eq_true, Bool.not_eq_true', decide_eq_false_iff_not, decide_eq_true_eq] at hb
        obtain ⟨⟨⟨⟨⟨b1, b2⟩, b3⟩, b4⟩, b5⟩, b6⟩ := hb
        intro ls H locs h1 h2 h3 h4
        have hi2 : i < 1000 := Nat.lt_of_lt_of_le (mz_lt hi) F.2.2.2.2.2.2.1
        refine va_copyi F.1.1 F.1.2.1 (F.1.2.2.1.trans h1.1.symm) F.1.2.2.2.1 (F.1.2.2.2.2 _ (mz_Gi F (of_decide_eq_true hl) rfl)) (mz_pw_at F (by simp [mz_pw])) (mz_pw_at F (by simp [mz_pw])) (mz_pw_at F (by simp [mz_pw])) F.2.1.1 h2 (F.2.1.2.1 mem) h3 j i 0 0 (mz_w_arr hj) (mz_w_arr hi) rfl rfl rfl b1 b2 b3 b4 b5 (fun _ _ => rfl) F.2.2.1.1 (by rw [mz_cat_map]; have h8 := F.2.2.1.2.1; have h9 : nativeFrameWords "java/lang/System" "arraycopy" 5 ≤ 40 := (by decide +kernel); omega) hd (fun H1 locs1 a1 a2 a3 => ?_)
        rw [mz_arr_cell (m' := mz_cp mem i j sp.toNatClampNeg dp.toNatClampNeg n.toNatClampNeg) hi (by
          funext b
          simp only [mz_cp, va_cpy, beq_self_eq_true, Bool.true_and]
          by_cases q1 : dp.toNatClampNeg ≤ b <;> by_cases q2 : b < dp.toNatClampNeg + n.toNatClampNeg <;> simp [q1, q2]) (fun j hj => mz_cp_ne hj)] at a1
        exact k ls H1 locs1 h1 a1 a3 (mz_scr_cp hi2 h4)
      · cases hs
    · cases hs
  · cases hs
