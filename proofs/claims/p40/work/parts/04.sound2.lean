set_option maxHeartbeats 4000000 in
theorem mz_w_all {p : Program} {l : Launch} {e : Env} {R : Room} {s : State} {m : MethodId} {args : Array Value} {below : List Frame} {meth : Method} {c : Code} {cells slots : Nat} {Q : State → Prop} {S0 : mz_Sh} {T0 : List (List Int32)} {T : List mz_R} {cl : List vw_C} {NM : List String} {ST : List (String × Nat × String)} {G0 : List Jvm.Cond} {gt : Nat → Option Jvm.Cond} {D : va_G} {cI : ClassId} {ad : Nat → Nat} {A : Nat → Prop} {nL Ln : Nat} {xs : Nat → Int32} {own : String} {cc : ByteArray} (F : mz_Fix p R s m args c cells slots S0 T0 T cl NM ST G0 gt D cI ad A nL Ln xs own cc) {pc : Nat} {L : List (Option Value)} {S : List Value} {mem : mz_M} {f : mz_I} {c1 : mz_C} {ins : Instr} {len : Nat} (hd : decode cc pc = .ok (ins, len)) (hlen : (len == mz_ln ins || mz_sw ins) = true) (hl : mz_lk T cl NM ST gt own ins f = true) (hs : mz_step S0 T0 ins f pc L S mem = some (.inl c1)) (k : mz_Z p l e R s m args below meth c cells slots Q S0 cl D cI ad A nL Ln xs c1.1 c1.2.1 c1.2.2.1 c1.2.2.2) : mz_Z p l e R s m args below meth c cells slots Q S0 cl D cI ad A nL Ln xs pc L S mem := by
  cases ins with
  | iadd =>
    obtain rfl : len = 1 := by simpa [mz_ln, mz_sw] using hlen
    exact mz_w_iadd F hd hl hs k
  | isub =>
    obtain rfl : len = 1 := by simpa [mz_ln, mz_sw] using hlen
    exact mz_w_isub F hd hl hs k
  | imul =>
    obtain rfl : len = 1 := by simpa [mz_ln, mz_sw] using hlen
    exact mz_w_imul F hd hl hs k
  | idiv =>
    obtain rfl : len = 1 := by simpa [mz_ln, mz_sw] using hlen
    exact mz_w_idiv F hd hl hs k
  | irem =>
    obtain rfl : len = 1 := by simpa [mz_ln, mz_sw] using hlen
    exact mz_w_irem F hd hl hs k
  | ineg =>
    obtain rfl : len = 1 := by simpa [mz_ln, mz_sw] using hlen
    exact mz_w_ineg F hd hl hs k
  | iand =>
    obtain rfl : len = 1 := by simpa [mz_ln, mz_sw] using hlen
    exact mz_w_iand F hd hl hs k
  | ior =>
    obtain rfl : len = 1 := by simpa [mz_ln, mz_sw] using hlen
    exact mz_w_ior F hd hl hs k
  | ixor =>
    obtain rfl : len = 1 := by simpa [mz_ln, mz_sw] using hlen
    exact mz_w_ixor F hd hl hs k
  | ishl =>
    obtain rfl : len = 1 := by simpa [mz_ln, mz_sw] using hlen
    exact mz_w_ishl F hd hl hs k
  | ishr =>
    obtain rfl : len = 1 := by simpa [mz_ln, mz_sw] using hlen
    exact mz_w_ishr F hd hl hs k
  | iushr =>
    obtain rfl : len = 1 := by simpa [mz_ln, mz_sw] using hlen
    exact mz_w_iushr F hd hl hs k
  | land =>
    obtain rfl : len = 1 := by simpa [mz_ln, mz_sw] using hlen
    exact mz_w_land F hd hl hs k
  | lor =>
    obtain rfl : len = 1 := by simpa [mz_ln, mz_sw] using hlen
    exact mz_w_lor F hd hl hs k
  | lshl =>
    obtain rfl : len = 1 := by simpa [mz_ln, mz_sw] using hlen
    exact mz_w_lshl F hd hl hs k
  | lshr =>
    obtain rfl : len = 1 := by simpa [mz_ln, mz_sw] using hlen
    exact mz_w_lshr F hd hl hs k
  | lushr =>
    obtain rfl : len = 1 := by simpa [mz_ln, mz_sw] using hlen
    exact mz_w_lushr F hd hl hs k
  | i2l =>
    obtain rfl : len = 1 := by simpa [mz_ln, mz_sw] using hlen
    exact mz_w_i2l F hd hl hs k
  | l2i =>
    obtain rfl : len = 1 := by simpa [mz_ln, mz_sw] using hlen
    exact mz_w_l2i F hd hl hs k
  | i2b =>
    obtain rfl : len = 1 := by simpa [mz_ln, mz_sw] using hlen
    exact mz_w_i2b F hd hl hs k
  | i2s =>
    obtain rfl : len = 1 := by simpa [mz_ln, mz_sw] using hlen
    exact mz_w_i2s F hd hl hs k
  | i2c =>
    obtain rfl : len = 1 := by simpa [mz_ln, mz_sw] using hlen
    exact mz_w_i2c F hd hl hs k
  | dup =>
    obtain rfl : len = 1 := by simpa [mz_ln, mz_sw] using hlen
    exact mz_w_dup F hd hl hs k
  | dup_x1 =>
    obtain rfl : len = 1 := by simpa [mz_ln, mz_sw] using hlen
    exact mz_w_dup_x1 F hd hl hs k
  | dup2 =>
    obtain rfl : len = 1 := by simpa [mz_ln, mz_sw] using hlen
    exact mz_w_dup2 F hd hl hs k
  | pop =>
    obtain rfl : len = 1 := by simpa [mz_ln, mz_sw] using hlen
    exact mz_w_pop F hd hl hs k
  | arraylength =>
    obtain rfl : len = 1 := by simpa [mz_ln, mz_sw] using hlen
    exact mz_w_arraylength F hd hl hs k
  | iaload =>
    obtain rfl : len = 1 := by simpa [mz_ln, mz_sw] using hlen
    exact mz_w_iaload F hd hl hs k
  | iastore =>
    obtain rfl : len = 1 := by simpa [mz_ln, mz_sw] using hlen
    exact mz_w_iastore F hd hl hs k
  | baload =>
    obtain rfl : len = 1 := by simpa [mz_ln, mz_sw] using hlen
    exact mz_w_baload F hd hl hs k
  | iconst n =>
    obtain rfl : len = 1 := by simpa [mz_ln, mz_sw] using hlen
    exact mz_w_iconst F hd hl hs k
  | iload_n n =>
    obtain rfl : len = 1 := by simpa [mz_ln, mz_sw] using hlen
    exact mz_w_iload_n F hd hl hs k
  | aload_n n =>
    obtain rfl : len = 1 := by simpa [mz_ln, mz_sw] using hlen
    exact mz_w_aload_n F hd hl hs k
  | lload_n n =>
    obtain rfl : len = 1 := by simpa [mz_ln, mz_sw] using hlen
    exact mz_w_lload_n F hd hl hs k
  | istore_n n =>
    obtain rfl : len = 1 := by simpa [mz_ln, mz_sw] using hlen
    exact mz_w_istore_n F hd hl hs k
  | astore_n n =>
    obtain rfl : len = 1 := by simpa [mz_ln, mz_sw] using hlen
    exact mz_w_astore_n F hd hl hs k
  | bipush n =>
    obtain rfl : len = 2 := by simpa [mz_ln, mz_sw] using hlen
    exact mz_w_bipush F hd hl hs k
  | ldc n =>
    obtain rfl : len = 2 := by simpa [mz_ln, mz_sw] using hlen
    exact mz_w_ldc F hd hl hs k
  | iload n =>
    obtain rfl : len = 2 := by simpa [mz_ln, mz_sw] using hlen
    exact mz_w_iload F hd hl hs k
  | aload n =>
    obtain rfl : len = 2 := by simpa [mz_ln, mz_sw] using hlen
    exact mz_w_aload F hd hl hs k
  | istore n =>
    obtain rfl : len = 2 := by simpa [mz_ln, mz_sw] using hlen
    exact mz_w_istore F hd hl hs k
  | astore n =>
    obtain rfl : len = 2 := by simpa [mz_ln, mz_sw] using hlen
    exact mz_w_astore F hd hl hs k
  | sipush n =>
    obtain rfl : len = 3 := by simpa [mz_ln, mz_sw] using hlen
    exact mz_w_sipush F hd hl hs k
  | ldc_w n =>
    obtain rfl : len = 3 := by simpa [mz_ln, mz_sw] using hlen
    exact mz_w_ldc_w F hd hl hs k
  | ldc2_w n =>
    obtain rfl : len = 3 := by simpa [mz_ln, mz_sw] using hlen
    exact mz_w_ldc2_w F hd hl hs k
  | getfield n =>
    obtain rfl : len = 3 := by simpa [mz_ln, mz_sw] using hlen
    exact mz_w_getfield F hd hl hs k
  | putfield n =>
    obtain rfl : len = 3 := by simpa [mz_ln, mz_sw] using hlen
    exact mz_w_putfield F hd hl hs k
  | getstatic n =>
    obtain rfl : len = 3 := by simpa [mz_ln, mz_sw] using hlen
    exact mz_w_getstatic F hd hl hs k
  | invokestatic n =>
    obtain rfl : len = 3 := by simpa [mz_ln, mz_sw] using hlen
    exact mz_w_invokestatic F hd hl hs k
  | goto n =>
    obtain rfl : len = 3 := by simpa [mz_ln, mz_sw] using hlen
    exact mz_w_goto F hd hl hs k
  | iinc i n =>
    obtain rfl : len = 3 := by simpa [mz_ln, mz_sw] using hlen
    exact mz_w_iinc F hd hl hs k
  | ifCond b o =>
    obtain rfl : len = 3 := by simpa [mz_ln, mz_sw] using hlen
    cases b with
    | eq => exact mz_w_if_eq F hd hl hs k
    | ne => exact mz_w_if_ne F hd hl hs k
    | lt => exact mz_w_if_lt F hd hl hs k
    | ge => exact mz_w_if_ge F hd hl hs k
    | gt => exact mz_w_if_gt F hd hl hs k
    | le => exact mz_w_if_le F hd hl hs k
  | if_icmp b o =>
    obtain rfl : len = 3 := by simpa [mz_ln, mz_sw] using hlen
    cases b with
    | eq => exact mz_w_icmp_eq F hd hl hs k
    | ne => exact mz_w_icmp_ne F hd hl hs k
    | lt => exact mz_w_icmp_lt F hd hl hs k
    | ge => exact mz_w_icmp_ge F hd hl hs k
    | gt => exact mz_w_icmp_gt F hd hl hs k
    | le => exact mz_w_icmp_le F hd hl hs k
  | tableswitch d lo hi offs => exact mz_w_tableswitch F hd hl hs k
  | lookupswitch d ps => exact mz_w_lookupswitch F hd hl hs k
  | invokevirtual x =>
    simp only [mz_step] at hs
    obtain ⟨-, hs⟩ := mz_cond hs
    cases hs
  | ireturn =>
    simp only [mz_step] at hs
    split at hs <;> cases hs
  | areturn =>
    simp only [mz_step] at hs
    split at hs <;> cases hs
  | return_ =>
    simp only [mz_step] at hs
    split at hs <;> cases hs
  | _ => cases hs


/-- how a method ends -/
def mz_end (ins : Instr) (S : List Value) (r : Option Value) : Prop := (ins = .ireturn ∧ ∃ x, S = [.int x] ∧ r = some (.int x)) ∨ (ins = .areturn ∧ ∃ x, S = [.ref x] ∧ r = some (.ref x)) ∨ (ins = .return_ ∧ S = [] ∧ r = none)
theorem mz_bin {α : Type} {a : α} {X : Option α} (h : X = some a) {Y : Option α} (e : X = Y) : Y = some a := e ▸ h
set_option maxHeartbeats 4000000 in
theorem mz_step_end {S0 : mz_Sh} {T0 : List (List Int32)} {ins : Instr} {f : mz_I} {pc : Nat} {L : List (Option Value)} {S : List Value} {m : mz_M} {r : Option Value} (h : mz_step S0 T0 ins f pc L S m = some (.inr (.inl r))) : mz_end ins S r := by
  cases ins with
  | ireturn =>
    simp only [mz_step] at h
    split at h
    · cases h
      exact Or.inl ⟨rfl, _, rfl, rfl⟩
    · cases h
  | areturn =>
    simp only [mz_step] at h
    split at h
    · cases h
      exact Or.inr (Or.inl ⟨rfl, _, rfl, rfl⟩)
    · cases h
  | return_ =>
    simp only [mz_step] at h
    split at h
    · cases h
      exact Or.inr (Or.inr ⟨rfl, rfl, rfl⟩)
    · cases h
  | ifCond b o =>
    cases b <;>
    · simp only [mz_step, mz_jump] at h
      split at h
      · obtain ⟨-, h⟩ := mz_cond h
        cases h
      · cases h
  | if_icmp b o =>
    cases b <;>
    · simp only [mz_step, mz_jump] at h
      split at h
      · obtain ⟨-, h⟩ := mz_cond h
        cases h
      · cases h
  | _ =>
    first
      | (cases h; done)
      | (simp only [mz_step, mz_next] at h
         repeat' (first | (cases h; done) | (obtain ⟨-, h⟩ := mz_cond h; done) | split at h)
         done)
      | (exfalso
         simp only [mz_step, mz_next, cond_eq_ite] at h
         repeat' (first | (cases h; done) | split at h))
theorem mz_step_call {S0 : mz_Sh} {T0 : List (List Int32)} {ins : Instr} {f : mz_I} {pc : Nat} {L : List (Option Value)} {S : List Value} {m : mz_M} {a : Nat} (h : mz_step S0 T0 ins f pc L S m = some (.inr (.inr a))) : f.2.1 = a ∧ ((∃ x, ins = .invokevirtual x) ∨ (∃ x, ins = .invokestatic x ∧ (f.1 = 2 ∨ f.1 = 4))) := by
  cases ins with
  | invokevirtual x =>
    simp only [mz_step] at h
    obtain ⟨-, h⟩ := mz_cond h
    cases h
    exact ⟨rfl, Or.inl ⟨x, rfl⟩⟩
  | invokestatic x =>
    simp only [mz_step, mz_next, cond_eq_ite] at h
    split at h
    · rename_i hf
      cases h
      exact ⟨rfl, Or.inr ⟨x, rfl, Or.inl hf⟩⟩
    · rename_i hf
      cases h
      exact ⟨rfl, Or.inr ⟨x, rfl, Or.inr hf⟩⟩
    all_goals
      exfalso
      repeat' (first | (cases h; done) | split at h)
  | ifCond b o =>
    exfalso
    cases b <;>
    · simp only [mz_step, mz_jump] at h
      split at h
      · obtain ⟨-, h⟩ := mz_cond h
        cases h
      · cases h
  | if_icmp b o =>
    exfalso
    cases b <;>
    · simp only [mz_step, mz_jump] at h
      split at h
      · obtain ⟨-, h⟩ := mz_cond h
        cases h
      · cases h
  | _ =>
    first
      | (cases h; done)
      | (exfalso
         simp only [mz_step, mz_next, cond_eq_ite] at h
         repeat' (first | (cases h; done) | split at h))
/-- a method's record is in order -/
def mz_Rok (T : List mz_R) (cl : List vw_C) (NM : List String) (ST : List (String × Nat × String)) (G0 : List Jvm.Cond) (gt : Nat → Option Jvm.Cond) (r : mz_R) : Prop :=
  (plainName r.2.1.cls = true ∧ (r.2.1.cls ≠ "java/lang/invoke/MethodHandle" ∧ r.2.1.cls ≠ "java/lang/invoke/VarHandle") ∧ (parseMethodDescriptor r.2.1.desc).map (fun d => d.parameters.length) = some (cond r.2.2.2.2.2.1 r.2.2.2.2.2.2.1 (r.2.2.2.2.2.2.1 - 1)) ∧ r.2.2.2.1 ≤ 45) ∧
  (Jvm.Cond.code r.2.1 r.2.2.1 r.2.2.2.1 r.2.2.2.2.1 ∈ mz_G G0 ∧ Jvm.Cond.initialized r.2.1.cls ∈ mz_G G0) ∧
  (r.2.2.2.2.2.1 = true → Jvm.Cond.static r.2.1 ∈ mz_G G0) ∧
  (r.2.2.2.2.2.1 = false → Jvm.Cond.instanceMethod r.2.1 ∈ mz_G G0 ∧ Jvm.Cond.selects r.2.1.cls r.2.1 r.2.1 ∈ mz_G G0 ∧ ((r.1 = 12 ∧ r.2.1.cls = "java/lang/String") ∨ (r.1 ≠ 12 ∧ ∃ q : vw_C, cl[r.1]? = some q ∧ q.1 = r.2.1.cls))) ∧
  (∀ q ∈ r.2.2.2.2.2.2.2, mz_eok T cl NM ST gt r.2.1.cls r.2.2.1 q = true)
def mz_ws (G0 : List Jvm.Cond) (r : mz_R) : List Jvm.Cond := .code r.2.1 r.2.2.1 r.2.2.2.1 r.2.2.2.2.1 :: mz_G G0
def mz_rm (d : Nat) : Room := { frames := d + 1, cells := 0, slots := 0, locals := 64 * (d + 1) }
def mz_A (S0 : mz_Sh) (ad : Nat → Nat) (sz : Nat) : Nat → Prop := fun q => (∃ i, i < S0.length ∧ ad i = q) ∨ sz ≤ q
def mz_Pc (S0 : mz_Sh) (T0 : List (List Int32)) (cl : List vw_C) (NM : List String) (ST : List (String × Nat × String)) (G0 : List Jvm.Cond) (D : va_G) (cI : ClassId) (ad : Nat → Nat) (Ln : Nat) (xs : Nat → Int32) (sz : Nat) (as : List Value) (mem : mz_M) : Array Value → State → Prop := va_Pc (as.map (mz_cvv ad)) (fun U => U.heap.size = sz ∧ va_K D cl [(cI, .int)] U ∧ va_P D cl (mz_w S0 cI ad mem) U.heap ∧ va_D (fun _ => True) (mz_w S0 cI ad mem) ∧ mz_rok T0 NM ST G0 ad Ln xs (mz_A S0 ad sz) U U.heap ∧ mz_scr xs Ln mem)
def mz_Qc (S0 : mz_Sh) (cl : List vw_C) (D : va_G) (cI : ClassId) (ad : Nat → Nat) (Ln : Nat) (xs : Nat → Int32) (sz : Nat) (r : Option Value) (mem : mz_M) : Array Value → State → Outcome → State → Prop := fun _ st o t => o = .returned (r.map (mz_cvv ad)) ∧ va_P D cl (mz_w S0 cI ad mem) t.heap ∧ va_F (mz_A S0 ad sz) st t ∧ mz_scr xs Ln mem
theorem mz_Pc_blind {S0 : mz_Sh} {T0 : List (List Int32)} {cl : List vw_C} {NM : List String} {ST : List (String × Nat × String)} {G0 : List Jvm.Cond} {D : va_G} {cI : ClassId} {ad : Nat → Nat} {Ln : Nat} {xs : Nat → Int32} {sz : Nat} {as : List Value} {mem : mz_M} : FrameBlind (mz_Pc S0 T0 cl NM ST G0 D cI ad Ln xs sz as mem) := by
  intro a U g mk q
  obtain ⟨q0, q1, qK, qP, qD, qR, qs⟩ := q
  exact ⟨q0, q1, va_K.moved (u := U) (U := U.calling g mk a) (Vm.Alike.refl U.vm) qK, qP, qD, mz_rok.same (u := U) (U := U.calling g mk a) rfl qR, qs⟩
theorem mz_sl (ad : Nat → Nat) (as : List Value) : lg_sl (as.map (mz_cvv ad)) = (as.flatMap fun v => cond (v.category == 2) [some v, none] [some v]).map (fun o => match o with | some v => Slot.val (mz_cvv ad v) | none => Slot.second) := by
  unfold lg_sl
  induction as with
  | nil => rfl
  | cons v as ih =>
    simp only [List.map_cons, List.flatMap_cons, List.map_append]
    rw [ih, mz_cvv_cat]
    congr 1
    by_cases h : v.category = 2
    · simp [h]
    · have h1 : (v.category == 2) = false := by simpa using h
      rw [if_neg h, h1]
      rfl
theorem mz_entry {ad : Nat → Nat} {as : List Value} {n : Nat} (h : (mz_ent as n).length = n) : mz_ls ad (mz_ent as n) ((lg_sl (as.map (mz_cvv ad)) ++ List.replicate (n - (lg_sl (as.map (mz_cvv ad))).length) Slot.unset).toArray) n := by
  have hfl : (as.flatMap fun v => cond (v.category == 2) [some v, none] [some v]).length ≤ n := by
    have h1 := h
    simp only [mz_ent, List.length_append, List.length_replicate] at h1
    omega
  have hle : (lg_sl (as.map (mz_cvv ad))).length ≤ n := by
    rw [mz_sl, List.length_map]
    exact hfl
  have he := lv_entry (as.map (mz_cvv ad)) hle
  refine ⟨he.1, he.2.1, h, fun i v hi => ?_⟩
  simp only [mz_ent] at hi
  have hi2 : (as.flatMap fun v => cond (v.category == 2) [some v, none] [some v])[i]? = some (some v) := by
    by_cases hlt : i < (as.flatMap fun v => cond (v.category == 2) [some v, none] [some v]).length
    · rwa [List.getElem?_append_left hlt] at hi
    · rw [List.getElem?_append_right (by omega)] at hi
      have h2 := List.mem_of_getElem? hi
      have h3 := List.eq_of_mem_replicate h2
      cases h3
  have hlt : i < (lg_sl (as.map (mz_cvv ad))).length := by
    rw [mz_sl, List.length_map]
    exact (List.getElem?_eq_some_iff.mp hi2).1
  rw [List.getElem?_toArray, List.getElem?_append_left hlt, mz_sl, List.getElem?_map, hi2]
  rfl

def mz_Run (S0 : mz_Sh) (T0 : List (List Int32)) (T : List mz_R) (cl : List vw_C) (NM : List String) (ST : List (String × Nat × String)) (G0 : List Jvm.Cond) (gt : Nat → Option Jvm.Cond) (n : Nat) : Prop := ∀ {p : Program} {l : Launch} {e : Env} {R : Room} {s : State} {m : MethodId} {args : Array Value} {below : List Frame} {meth : Method} {c : Code} {cells slots : Nat} {Q : State → Prop} {D : va_G} {cI : ClassId} {ad : Nat → Nat} {A : Nat → Prop} {nL Ln : Nat} {xs : Nat → Int32} {own : String} {cc : ByteArray} (d : Nat) (F : mz_Fix p R s m args c cells slots S0 T0 T cl NM ST G0 gt D cI ad A nL Ln xs own cc) (hR : d + 1 ≤ R.frames ∧ 64 * (d + 1) ≤ R.locals) (K : mz_K) (hK : ∀ q ∈ K, mz_eok T cl NM ST gt own cc q = true) (pc : Nat) (L : List (Option Value)) (S : List Value) (mem : mz_M) (r : Option Value) (mem' : mz_M) (hrun : mz_x S0 T0 T n d K (pc, L, S, mem) = some (r, mem')) (kf : ∀ (ins : Instr) (pc' : Nat) (L' : List (Option Value)) (S' : List Value), decode cc pc' = .ok (ins, 1) → mz_end ins S' r → mz_Z p l e R s m args below meth c cells slots Q S0 cl D cI ad A nL Ln xs pc' L' S' mem'), mz_Z p l e R s m args below meth c cells slots Q S0 cl D cI ad A nL Ln xs pc L S mem


set_option maxHeartbeats 4000000 in
/-- a method's contract, from a run of the small machine -/
theorem mz_met {S0 : mz_Sh} {T0 : List (List Int32)} {T : List mz_R} {cl : List vw_C} {NM : List String} {ST : List (String × Nat × String)} {G0 : List Jvm.Cond} {gt : Nat → Option Jvm.Cond} {n : Nat} (IH : mz_Run S0 T0 T cl NM ST G0 gt n)
    (hE : (∀ (k : Nat) (q : vw_C), cl[k]? = some q → mz_cok G0 q) ∧ mz_sok S0 cl ∧ (∀ w ∈ mz_pw, w ∈ mz_G G0) ∧ S0.length ≤ 1000 ∧ NM.length = T0.length ∧ T0.length ≤ 1000 ∧ ∀ (i : Nat) (w : Jvm.Cond), gt i = some w → w ∈ G0)
    {rc : mz_R} (hrc : mz_Rok T cl NM ST G0 gt rc) (l : Launch) (D : va_G) (cI : ClassId) (ad : Nat → Nat) (Ln : Nat) (xs : Nat → Int32) (sz d : Nat) {as : List Value} {mem mem' : mz_M} {r : Option Value} (hent : (mz_ent as rc.2.2.2.1).length = rc.2.2.2.1) (hrun : mz_x S0 T0 T n d rc.2.2.2.2.2.2.2 (0, mz_ent as rc.2.2.2.1, [], mem) = some (r, mem')) (hfit : mz_fit rc.2.2.2.2.1 r = true) :
    Met l rc.2.1 (mz_ws G0 rc) (mz_rm d) (mz_Pc S0 T0 cl NM ST G0 D cI ad Ln xs sz as mem) (mz_Qc S0 cl D cI ad Ln xs sz r mem') 0 0 (mz_A S0 ad sz) := by
  obtain ⟨⟨hpl, -, -, -⟩, -, -, -, hcode⟩ := hrc
  refine Met.ofW (cc := rc.2.2.1) (maxL := rc.2.2.2.1) (ret := rc.2.2.2.2.1) hpl rfl ?_
  intro p e s m args below meth c s₁ B hml hv
  obtain ⟨rfl, hsz, hK, hP, hD, hRo, hscr⟩ := hv
  have hts := atoms_spec (ws := mz_ws G0 rc) B.pre
  have hown : s.vm.findClass rc.2.1.cls = some m.cls := findClass_of_methodNamed B.named
  have hlocks := B.notSynchronized
  have hret := B.returns
  have hx := B.exec
  have hb := B.bytes
  subst hsz
  have hDA : ∀ mm, va_D (mz_A S0 ad s.heap.size) (mz_w S0 cI ad mm) := fun mm => mz_D (hD.weaken (fun k q hk _ => by
    obtain ⟨h1, rfl⟩ := mz_w_in hk
    exact Or.inl ⟨k, h1, rfl⟩))
  have F : mz_Fix p (headSpec (mz_ws G0 rc) (mz_rm d)).room s m (as.map (mz_cvv ad)).toArray c 0 0 S0 T0 T cl NM ST G0 gt D cI ad (mz_A S0 ad s.heap.size) rc.2.2.2.1 Ln xs rc.2.1.cls rc.2.2.1 :=
    ⟨⟨hx, hb, hml, hown, fun w hw => hts w (List.mem_cons_of_mem _ hw)⟩, ⟨hK, hDA, fun q hq => Or.inr hq, hRo⟩, ⟨Nat.le_add_left 1 d, by show 64 ≤ 64 * (d + 1); omega, Nat.zero_le _, Nat.zero_le _⟩, hE⟩
  rw [lg_entry_eq]
  refine IH d F ⟨Nat.le_refl _, Nat.le_refl _⟩ rc.2.2.2.2.2.2.2 hcode 0 (mz_ent as rc.2.2.2.1) [] mem r mem' hrun ?_ _ s.heap [] (mz_entry hent) hP va_S.rf hscr
  intro ins pc' L' S' hdec hend ls H locs h1 h2 h3 h4
  have hfr : ∀ q ∈ locs, mz_A S0 ad s.heap.size q.base := h3.2.2
  have hq : ∀ t : State, t.heap = H → s.WarmedH t.vm → mz_Qc S0 cl D cI ad Ln xs s.heap.size r mem' (as.map (mz_cvv ad)).toArray s (.returned (r.map (mz_cvv ad))) t := fun t ht hW => ⟨rfl, by rw [ht]; exact h2, h3.F ht, h4⟩
  rcases hend with ⟨rfl, x, rfl, rfl⟩ | ⟨rfl, x, rfl, rfl⟩ | ⟨rfl, rfl, rfl⟩
  · cases hrt : rc.2.2.2.2.1 with
    | none => rw [hrt] at hfit; cases hfit
    | some ty =>
      rw [hrt] at hfit hret
      cases ty <;> first | (cases hfit; done) | skip
      · have hx1 : x = 0 := by simpa [mz_fit] using hfit
        exact W.zret hx hb hret (by rw [hx1]; rfl) hq hfr hdec
      · exact W.iret hx hb hret hq hfr hdec
      · have hx1 : x = 0 ∨ x = 1 := by simpa [mz_fit] using hfit
        exact W.zret hx hb hret (by rcases hx1 with rfl | rfl <;> rfl) hq hfr hdec
  · cases hrt : rc.2.2.2.2.1 with
    | none => rw [hrt] at hfit; cases hfit
    | some ty =>
      rw [hrt] at hfit hret
      cases ty <;> first | (cases hfit; done) | skip
      exact W.aret hx hb hret (Or.inl ⟨_, rfl⟩) (Or.inr ⟨_, rfl⟩) hq hfr hdec
  · cases hrt : rc.2.2.2.2.1 with
    | none =>
      rw [hrt] at hret
      exact W.vret hx hb hret hq hfr hdec
    | some ty => rw [hrt] at hfit; cases ty <;> cases hfit
theorem mz_fetch_in {K : mz_K} {pc : Nat} {q : mz_E} (h : mz_fetch K pc = some q) : q ∈ K ∧ q.1 = pc := by
  induction K with
  | nil => cases h
  | cons a K ih =>
    unfold mz_fetch at h
    cases hb : (a.1 == pc) with
    | true =>
      rw [hb] at h
      cases h
      exact ⟨List.mem_cons_self, by simpa using hb⟩
    | false =>
      rw [hb] at h
      obtain ⟨h1, h2⟩ := ih h
      exact ⟨List.mem_cons_of_mem _ h1, h2⟩
theorem mz_A_sub {p : Program} {R : Room} {s : State} {m : MethodId} {args : Array Value} {c : Code} {cells slots : Nat} {S0 : mz_Sh} {T0 : List (List Int32)} {T : List mz_R} {cl : List vw_C} {NM : List String} {ST : List (String × Nat × String)} {G0 : List Jvm.Cond} {gt : Nat → Option Jvm.Cond} {D : va_G} {cI : ClassId} {ad : Nat → Nat} {A : Nat → Prop} {nL Ln : Nat} {xs : Nat → Int32} {own : String} {cc : ByteArray} (F : mz_Fix p R s m args c cells slots S0 T0 T cl NM ST G0 gt D cI ad A nL Ln xs own cc) {H : Heap} {locs : List Loc} (hS : va_S A s.heap H locs) (q : Nat) (h : mz_A S0 ad H.size q) : A q := by
  rcases h with ⟨i, hi, rfl⟩ | h
  · exact (F.2.1.2.1 (fun _ _ => 0)).2 i _ (mz_w_at hi)
  · exact F.2.1.2.2.1 _ (Nat.le_trans hS.1 h)
/-- behind a call -/
theorem mz_back {p : Program} {l : Launch} {e : Env} {R : Room} {s : State} {m : MethodId} {args : Array Value} {below : List Frame} {meth : Method} {c : Code} {cells slots : Nat} {Q : State → Prop} {S0 : mz_Sh} {T0 : List (List Int32)} {T : List mz_R} {cl : List vw_C} {NM : List String} {ST : List (String × Nat × String)} {G0 : List Jvm.Cond} {gt : Nat → Option Jvm.Cond} {D : va_G} {cI : ClassId} {ad : Nat → Nat} {A : Nat → Prop} {nL Ln : Nat} {xs : Nat → Int32} {own : String} {cc : ByteArray} (F : mz_Fix p R s m args c cells slots S0 T0 T cl NM ST G0 gt D cI ad A nL Ln xs own cc) {pc : Nat} {L : List (Option Value)} {S rest : List Value} {mem' : mz_M} {r : Option Value} {args' : Array Value} {ls : Array Slot} {H : Heap} {locs : List Loc} (h1 : mz_ls ad L ls nL) (h3 : va_S A s.heap H locs)
    (hr : va_Run p l e R s m args below meth c H locs cells slots 0 0 (F0 m pc ls (S.map (mz_cvv ad))) (rest.map (mz_cvv ad)) (mz_Qc S0 cl D cI ad Ln xs H.size r mem' args') (mz_A S0 ad H.size))
    (k : mz_Z p l e R s m args below meth c cells slots Q S0 cl D cI ad A nL Ln xs (pc + 3) L (r.toList ++ rest) mem') : W p l e R s m args below meth c H locs cells slots Q (F0 m pc ls (S.map (mz_cvv ad))) := by
  intro T1 hT X
  obtain ⟨v, st₀, t, T', L', h0, X', hL, e1, e2, ⟨hv, hP1, hF1, hsc⟩, st⟩ := hr T1 hT X
  have hve : v = r.map (mz_cvv ad) := Outcome.returned.inj hv
  subst hve
  have hS1 : va_S A s.heap t.heap (locs ++ L') := by
    refine ⟨?_, fun q hq hA => ?_, fun x hx => ?_⟩
    · have := hF1.1
      rw [h0] at this
      exact Nat.le_trans h3.1 this
    · have h5 := hF1.2 q (by rw [h0]; exact Nat.lt_of_lt_of_le hq h3.1) (fun z => hA (mz_A_sub F h3 q z))
      rw [h5, h0]
      exact h3.2.1 q hq hA
    · rcases List.mem_append.mp hx with hx | hx
      · exact h3.2.2 x hx
      · exact mz_A_sub F h3 _ (hL x hx)
  have hk := k ls t.heap (locs ++ L') h1 hP1 hS1 hsc
  obtain ⟨t2, a1, b1⟩ := hk T' e1 X'
  refine ⟨t2, st t2 ?_, b1⟩
  have e3 : (r.toList ++ rest).map (mz_cvv ad) = (r.map (mz_cvv ad)).toList ++ rest.map (mz_cvv ad) := by cases r <;> rfl
  rw [e3] at a1
  exact a1
/-- the callee's start -/
theorem mz_pre {p : Program} {R : Room} {s : State} {m : MethodId} {args : Array Value} {c : Code} {cells slots : Nat} {S0 : mz_Sh} {T0 : List (List Int32)} {T : List mz_R} {cl : List vw_C} {NM : List String} {ST : List (String × Nat × String)} {G0 : List Jvm.Cond} {gt : Nat → Option Jvm.Cond} {D : va_G} {cI : ClassId} {ad : Nat → Nat} {A : Nat → Prop} {nL Ln : Nat} {xs : Nat → Int32} {own : String} {cc : ByteArray} (F : mz_Fix p R s m args c cells slots S0 T0 T cl NM ST G0 gt D cI ad A nL Ln xs own cc) {as : List Value} {mem : mz_M} {H : Heap} {locs : List Loc} (h2 : va_P D cl (mz_w S0 cI ad mem) H) (h3 : va_S A s.heap H locs) (h4 : mz_scr xs Ln mem) : PreS s H (mz_Pc S0 T0 cl NM ST G0 D cI ad Ln xs H.size as mem) (as.map (mz_cvv ad)) := by
  refine ⟨mz_Pc_blind, fun U hU hW => ⟨rfl, by rw [hU], va_K.moved hW.alike F.2.1.1, by rw [hU]; exact h2, (F.2.1.2.1 mem).weaken (fun _ _ _ _ => trivial), ?_, h4⟩⟩
  rw [hU]
  exact mz_rok.kept (mz_rok.warm hW F.2.1.2.2.2) h3.1 h3.2.1 (fun q h => mz_A_sub F h3 q h)
theorem mz_split (S : List Value) (n : Nat) : S = (S.take n).reverse.reverse ++ S.drop n := by rw [List.reverse_reverse, List.take_append_drop]
set_option maxHeartbeats 4000000 in
theorem mz_run_all {S0 : mz_Sh} {T0 : List (List Int32)} {T : List mz_R} {cl : List vw_C} {NM : List String} {ST : List (String × Nat × String)} {G0 : List Jvm.Cond} {gt : Nat → Option Jvm.Cond} (hT : ∀ (a : Nat) (rc : mz_R), T[a]? = some rc → mz_Rok T cl NM ST G0 gt rc) : ∀ n, mz_Run S0 T0 T cl NM ST G0 gt n := by
  intro n
  induction n with
  | zero =>
    intro p l e R s m args below meth c cells slots Q D cI ad A nL Ln xs own cc d F hR K hK pc L S mem r mem' hrun kf
    cases hrun
  | succ n ih =>
    intro p l e R s m args below meth c cells slots Q D cI ad A nL Ln xs own cc d F hR K hK pc L S mem r mem' hrun kf
    unfold mz_x at hrun
    split at hrun
    · cases hrun
    · rename_i q hq
      obtain ⟨hqK, hqp⟩ := mz_fetch_in hq
      have hok := hK q hqK
      obtain ⟨qp, ins, len, f⟩ := q
      simp only at hqp
      subst hqp
      unfold mz_eok at hok
      simp only [Bool.and_eq_true] at hok
      obtain ⟨⟨hd, hlen⟩, hl⟩ := hok
      have hd := of_decide_eq_true hd
      simp only at hd hlen hl hrun
      split at hrun
      · cases hrun
      · rename_i c1 hs
        exact mz_w_all F hd hlen hl hs (ih d F hR K hK c1.1 c1.2.1 c1.2.2.1 c1.2.2.2 r mem' hrun kf)
      · rename_i r1 hs
        cases hrun
        have hend := mz_step_end hs
        have hl1 : len = 1 := by
          rcases hend with ⟨rfl, -⟩ | ⟨rfl, -⟩ | ⟨rfl, -⟩ <;> simpa [mz_ln, mz_sw] using hlen
        subst hl1
        exact kf ins qp L S hd hend
      · rename_i a hs
        split at hrun
        · rename_i rc d1 hrc
          obtain ⟨hcal, hrun⟩ := mz_cond hrun
          split at hrun
          · rename_i r1 m1 hin
            obtain ⟨hfit, hrun⟩ := mz_cond hrun
            have hRok := hT a rc hrc
            obtain ⟨hfa, hins⟩ := mz_step_call hs
            unfold mz_cal at hcal
            simp only [Bool.and_eq_true, beq_iff_eq] at hcal
            obtain ⟨⟨⟨c1, c2⟩, c3⟩, c4⟩ := hcal
            have c1 := of_decide_eq_true c1
            have c2 := of_decide_eq_true c2
            have hgo := ih (d1 + 1) F hR K hK (qp + 3) L (r1.toList ++ S.drop rc.2.2.2.2.2.2.1) m1 r mem' hrun kf
            have hlenA : (S.take rc.2.2.2.2.2.2.1).reverse.length = rc.2.2.2.2.2.2.1 := by rw [List.length_reverse, List.length_take]; omega
            have hroom : (mz_rm d1).frames + 1 ≤ R.frames ∧ 8 + (rc.2.2.2.1 + 11) + (mz_rm d1).locals ≤ R.locals := by
              have h45 := hRok.1.2.2.2
              refine ⟨hR.1, ?_⟩
              show 8 + (rc.2.2.2.1 + 11) + 64 * (d1 + 1) ≤ R.locals
              have := hR.2
              omega
            have hcodeG := hRok.2.1.1
            have hiniG := hRok.2.1.2
            have hgw : ∀ w ∈ mz_ws G0 rc, w ∈ mz_G G0 ∧ ((w.onTables && w.keeps) = true ∨ ∃ ty, w = .arrayClass ty) := by
              intro w hw
              rcases List.mem_cons.mp hw with rfl | hw
              · exact ⟨hcodeG, mz_G_good hcodeG⟩
              · exact ⟨hw, mz_G_good hw⟩
            generalize hasd : (S.take rc.2.2.2.2.2.2.1).reverse = as at c3 c4 hin hlenA
            have hSs : S = as.reverse ++ S.drop rc.2.2.2.2.2.2.1 := by rw [← hasd]; exact mz_split _ _
            generalize hrest : S.drop rc.2.2.2.2.2.2.1 = rest at hgo c2 hSs
            intro ls H locs h1 h2 h3 h4
            have hM := mz_met ih F.2.2.2 hRok l D cI ad Ln xs H.size d1 c4 hin hfit
            have hpre := mz_pre F (as := as) h2 h3 h4
            have hWs : 2 * (F0 m qp ls (S.map (mz_cvv ad))).monitorRoom + ((rest.map (mz_cvv ad)).map fun v => v.category).sum ≤ 8 := lv_room (by rw [mz_cat_map]; exact c2)
            have hfit2 : cells + 0 ≤ R.cells ∧ slots + 0 ≤ R.slots := ⟨F.2.2.1.2.2.1, F.2.2.1.2.2.2⟩
            rcases hins with ⟨x, rfl⟩ | ⟨x, rfl, hf⟩
            · obtain rfl : len = 3 := by simpa [mz_ln, mz_sw] using hlen
              simp only [mz_lk, hfa, hrc] at hl
              rw [Bool.and_eq_true] at hl
              have hst : rc.2.2.2.2.2.1 = false := by simpa using hl.1
              have hlk := mz_Gi F (of_decide_eq_true hl.2) rfl
              obtain ⟨hiG, hsG, hcls⟩ := hRok.2.2.2.1 hst
              have hdd := hRok.1.2.2.1
              rw [hst] at hdd
              unfold mz_rcv at c3
              rw [hst] at c3
              simp only [cond_false] at c3
              split at c3
              · rename_i i as1
                have hn1 : as1.length = rc.2.2.2.2.2.2.1 - 1 := by
                  have := hlenA
                  simp only [List.length_cons] at this
                  omega
                have hgV : GoodIn (mz_G G0) (wsV own x rc.2.1.cls rc.2.1 (mz_ws G0 rc)) := by
                  intro w hw
                  simp only [wsV, List.mem_append, List.mem_cons, List.not_mem_nil, or_false] at hw
                  rcases hw with (rfl | rfl | rfl | rfl) | hw
                  · exact ⟨hlk, mz_G_good hlk⟩
                  · exact ⟨hiG, mz_G_good hiG⟩
                  · exact ⟨hsG, mz_G_good hsG⟩
                  · exact ⟨hiniG, mz_G_good hiniG⟩
                  · exact hgw w hw
                have hcell : ∃ cellB : Cell, H[ad i]? = some cellB ∧ cellB.vm.isStatics = false ∧ s.vm.findClass rc.2.1.cls = some cellB.cls := by
                  rcases hcls with ⟨hc12, hcn⟩ | ⟨hc12, q, hcq, hcn⟩
                  · rw [hc12] at c3
                    obtain ⟨j, hj, rfl⟩ := mz_isT_k c3
                    rw [hcn]
                    have hv := vk_recv (i := j) F.2.1.2.2.2.2.2.2.1 hj h3
                    exact hv
                  · have h12 : (rc.1 == 12) = false := by simpa using hc12
                    rw [h12] at c3
                    simp only [cond_false] at c3
                    split at c3
                    · rename_i cc0 fs hS0
                      have hcc : cc0 = rc.1 := by simpa using c3
                      subst hcc
                      rw [← hcn]
                      exact va_recv F.2.1.1 h2 hcq (mz_w_obj hS0)
                    · cases c3
                exact mz_back F h1 h3 (va_runV (As := as1.map (mz_cvv ad)) (b := ad i) F.1 hM (cwV _ F.1.2.2.2.2 hgV rfl rfl rfl ⟨rfl, hRok.1.2.1.1, hRok.1.2.1.2, hdd⟩ hroom) ⟨hpre.1, hcell, hpre.2⟩ rfl (by rw [List.length_map]; exact hn1) h1.1 (by rw [hSs]; simp [mz_cvv]) hWs hd hfit2) hgo
              · cases c3
            · obtain rfl : len = 3 := by simpa [mz_ln, mz_sw] using hlen
              rcases hf with hf | hf
              · simp only [mz_lk, hf, hfa, hrc] at hl
                rw [Bool.and_eq_true] at hl
                have hst : rc.2.2.2.2.2.1 = true := by simpa using hl.1
                have hlk := mz_Gi F (of_decide_eq_true hl.2) rfl
                have hsG := hRok.2.2.1 hst
                have hdd := hRok.1.2.2.1
                rw [hst] at hdd
                have hgS : GoodIn (mz_G G0) (va_wsS own x rc.2.1 (mz_ws G0 rc)) := by
                  intro w hw
                  simp only [va_wsS, List.mem_append, List.mem_cons, List.not_mem_nil, or_false] at hw
                  rcases hw with (rfl | rfl | rfl) | hw
                  · exact ⟨hlk, mz_G_good hlk⟩
                  · exact ⟨hsG, mz_G_good hsG⟩
                  · exact ⟨hiniG, mz_G_good hiniG⟩
                  · exact hgw w hw
                exact mz_back F h1 h3 (va_runS (As := as.map (mz_cvv ad)) F.1 hM (va_cwS _ F.1.2.2.2.2 hgS rfl rfl rfl ⟨hRok.1.2.1.1, hRok.1.2.1.2, hdd⟩ hroom) hpre rfl (by rw [List.length_map]; exact hlenA) h1.1 (by rw [hSs]; simp) hWs hd hfit2) hgo
              · simp only [mz_lk, hf, hfa, hrc] at hl
                rw [Bool.and_eq_true] at hl
                have hst : rc.2.2.2.2.2.1 = true := by simpa using hl.1
                have hnw := F.2.1.2.2.2.2.2.2.2.2.1 _ (F.2.2.2.2.2.2.2.2.2 _ _ (of_decide_eq_true hl.2)) rfl
                have hsG := hRok.2.2.1 hst
                have hdd := hRok.1.2.2.1
                rw [hst] at hdd
                exact mz_back F h1 h3 (va_runSN (As := as.map (mz_cvv ad)) F.1 hM ⟨va_cnB _ F.1.2.2.2.2 hgw rfl rfl rfl hnw (F.1.2.2.2.2 _ hiniG) ⟨hRok.1.2.1.1, hRok.1.2.1.2, hdd⟩ hroom, F.1.2.2.2.2 _ hsG, trivial⟩ hpre rfl (by rw [List.length_map]; exact hlenA) h1.1 (by rw [hSs]; simp) hWs hd hfit2) hgo
          · cases hrun
        · cases hrun
