/-! the tables are in order: by counting -/
noncomputable def mz_chk (T : List mz_R) (cl : List vw_C) (NM : List String) (ST : List (String × Nat × String)) (gt : Nat → Option Jvm.Cond) (r : mz_R) (ps : Nat × Nat × Nat × Nat) : Bool :=
  plainName r.2.1.cls && (r.2.1.cls != "java/lang/invoke/MethodHandle" && r.2.1.cls != "java/lang/invoke/VarHandle") && decide ((parseMethodDescriptor r.2.1.desc).map (fun d => d.parameters.length) = some (cond r.2.2.2.2.2.1 r.2.2.2.2.2.2.1 (r.2.2.2.2.2.2.1 - 1))) && decide (r.2.2.2.1 ≤ 45) &&
  decide (gt ps.1 = some (Jvm.Cond.code r.2.1 r.2.2.1 r.2.2.2.1 r.2.2.2.2.1)) && decide (gt ps.2.1 = some (Jvm.Cond.initialized r.2.1.cls)) &&
  cond r.2.2.2.2.2.1 (decide (gt ps.2.2.1 = some (Jvm.Cond.static r.2.1))) (decide (gt ps.2.2.1 = some (Jvm.Cond.instanceMethod r.2.1)) && decide (gt ps.2.2.2 = some (Jvm.Cond.selects r.2.1.cls r.2.1 r.2.1)) && cond (r.1 == 12) (r.2.1.cls == "java/lang/String") (match cl[r.1]? with
    | some q => q.1 == r.2.1.cls
    | none => false)) &&
  (mz_wk r.2.2.1 r.2.2.2.2.2.2.2 0 (mz_bs r.2.2.1) && r.2.2.2.2.2.2.2.all (fun q => (q.2.2.1 == mz_ln q.2.1 || mz_sw q.2.1) && mz_lk T cl NM ST gt r.2.1.cls q.2.1 q.2.2.2))
theorem mz_chk_ok {T : List mz_R} {cl : List vw_C} {NM : List String} {ST : List (String × Nat × String)} {G0 : List Jvm.Cond} {gt : Nat → Option Jvm.Cond} {r : mz_R} (hgt : ∀ (i : Nat) (w : Jvm.Cond), gt i = some w → w ∈ G0) (ps : Nat × Nat × Nat × Nat) (h : mz_chk T cl NM ST gt r ps = true) : mz_Rok T cl NM ST G0 gt r := by
  unfold mz_chk at h
  simp only [Bool.and_eq_true, bne_iff_ne, ne_eq, decide_eq_true_eq] at h
  obtain ⟨⟨⟨⟨⟨⟨⟨h1, h2⟩, h3⟩, h4⟩, h5⟩, h6⟩, h7⟩, h8, h9⟩ := h
  refine ⟨⟨h1, h2, h3, h4⟩, ⟨mz_G_in (hgt _ _ h5) rfl, mz_G_in (hgt _ _ h6) rfl⟩, fun hs => ?_, fun hs => ?_, fun q hq => by
    have h10 := List.all_eq_true.mp h9 q hq
    rw [Bool.and_eq_true] at h10
    unfold mz_eok
    rw [decide_eq_true (mz_dec_ok h8 q hq), h10.1, h10.2]
    rfl⟩
  · rw [hs] at h7
    exact mz_G_in (hgt _ _ (of_decide_eq_true h7)) rfl
  · rw [hs] at h7
    simp only [cond_false, Bool.and_eq_true, decide_eq_true_eq] at h7
    obtain ⟨⟨a1, a2⟩, a3⟩ := h7
    refine ⟨mz_G_in (hgt _ _ a1) rfl, mz_G_in (hgt _ _ a2) rfl, ?_⟩
    cases hb : (r.1 == 12) with
    | true =>
      rw [hb] at a3
      exact Or.inl ⟨by simpa using hb, by simpa using a3⟩
    | false =>
      rw [hb] at a3
      simp only [cond_false] at a3
      split at a3
      · rename_i q hq
        exact Or.inr ⟨by simpa using hb, q, hq, by simpa using a3⟩
      · cases a3
noncomputable def mz_sokb (S0 : mz_Sh) (cl : List vw_C) : Bool := S0.all fun s => match s with
  | .inl _ => true
  | .inr (c, fs) => match cl[c]? with
    | some q => fs.length == q.2.2 && (List.range fs.length).all fun k => match fs[k]? with
      | some 0 => !(q.2.1 k).2.2.2 && decide (parseFieldDescriptor (q.2.1 k).2.2.1 = some .int)
      | some 1 => !(q.2.1 k).2.2.2 && decide (parseFieldDescriptor (q.2.1 k).2.2.1 = some .boolean)
      | some 2 => !(q.2.1 k).2.2.2 && decide (parseFieldDescriptor (q.2.1 k).2.2.1 = some (.object "java/lang/String"))
      | _ => true
    | none => false
theorem mz_sokb_ok {S0 : mz_Sh} {cl : List vw_C} (h : mz_sokb S0 cl = true) : mz_sok S0 cl := by
  intro i c fs hi
  have h1 := List.all_eq_true.mp h _ (List.mem_of_getElem? hi)
  simp only at h1
  split at h1
  · rename_i q hq
    rw [Bool.and_eq_true] at h1
    refine ⟨q, hq, by simpa using h1.1, fun k f hk => ?_⟩
    have hlt : k < fs.length := (List.getElem?_eq_some_iff.mp hk).1
    have h2 := List.all_eq_true.mp h1.2 k (List.mem_range.mpr hlt)
    rw [hk] at h2
    refine ⟨fun e => ?_, fun e => ?_, fun e => ?_⟩
    all_goals
      subst e
      simpa using h2
  · cases h1
noncomputable def mz_cokb (gt : Nat → Option Jvm.Cond) (q : vw_C) (ps : List Nat) : Bool := decide ((u_ws q.1 q.2.1 q.2.2).map some = ps.map gt) && (u_ws q.1 q.2.1 q.2.2).all goodWord
theorem mz_cokb_ok {G0 : List Jvm.Cond} {gt : Nat → Option Jvm.Cond} {q : vw_C} (hgt : ∀ (i : Nat) (w : Jvm.Cond), gt i = some w → w ∈ G0) (ps : List Nat) (h : mz_cokb gt q ps = true) (hn : ∀ a, a < q.2.2 → ∀ b, b < q.2.2 → a ≠ b → (q.2.1 a).2.1 ≠ (q.2.1 b).2.1) (ty : Nat → FieldType) (ht : ∀ k, k < q.2.2 → parseFieldDescriptor (q.2.1 k).2.2.1 = some (ty k)) : mz_cok G0 q := by
  unfold mz_cokb at h
  rw [Bool.and_eq_true] at h
  refine ⟨fun w hw => ?_, hn, ty, ht⟩
  have h1 := of_decide_eq_true h.1
  have h2 : some w ∈ ps.map gt := by
    rw [← h1]
    exact List.mem_map.mpr ⟨w, hw, rfl⟩
  obtain ⟨i, -, hi⟩ := List.mem_map.mp h2
  exact mz_G_in (hgt _ _ hi) (List.all_eq_true.mp h.2 w hw)

noncomputable def mz_NM : List String := ["ABOVE", "BODIES", "RULE_LEAST", "RULE_MOST", "RULE_FIRST"]
noncomputable def mz_ST : List (String × Nat × String) := [("ThreeMagnets$Reader", 18, ""), ("ThreeMagnets", 374, "rsn"), ("ThreeMagnets", 376, "vrn"), ("ThreeMagnets", 378, "clxye")]
noncomputable def mz_gt (i : Nat) : Option Jvm.Cond := match i / 1000 with
  | 0 => (k2_sels lw_privs)[i % 1000]?
  | 1 => tables_1_1[i % 1000]?
  | 2 => tables_1_2[i % 1000]?
  | 3 => tables_1_3[i % 1000]?
  | 4 => tables_1_4[i % 1000]?
  | 5 => tables_1_5[i % 1000]?
  | 6 => tables_1_6[i % 1000]?
  | 7 => tables_1_7[i % 1000]?
  | _ => none
theorem mz_gtA (i : Nat) (w : Jvm.Cond) (h : mz_gt i = some w) : w ∈ lw_tbl := by
  unfold mz_gt at h
  show w ∈ k2_sels lw_privs ++ (tables_1_1 ++ (tables_1_2 ++ (tables_1_3 ++ (tables_1_4 ++ (tables_1_5 ++ (tables_1_6 ++ (tables_1_7)))))))
  split at h
  · exact List.mem_append_left _ (List.mem_of_getElem? h)
  · exact List.mem_append_right _ (List.mem_append_left _ (List.mem_of_getElem? h))
  · exact List.mem_append_right _ (List.mem_append_right _ (List.mem_append_left _ (List.mem_of_getElem? h)))
  · exact List.mem_append_right _ (List.mem_append_right _ (List.mem_append_right _ (List.mem_append_left _ (List.mem_of_getElem? h))))
  · exact List.mem_append_right _ (List.mem_append_right _ (List.mem_append_right _ (List.mem_append_right _ (List.mem_append_left _ (List.mem_of_getElem? h)))))
  · exact List.mem_append_right _ (List.mem_append_right _ (List.mem_append_right _ (List.mem_append_right _ (List.mem_append_right _ (List.mem_append_left _ (List.mem_of_getElem? h))))))
  · exact List.mem_append_right _ (List.mem_append_right _ (List.mem_append_right _ (List.mem_append_right _ (List.mem_append_right _ (List.mem_append_right _ (List.mem_append_left _ (List.mem_of_getElem? h)))))))
  · exact List.mem_append_right _ (List.mem_append_right _ (List.mem_append_right _ (List.mem_append_right _ (List.mem_append_right _ (List.mem_append_right _ (List.mem_append_right _ (List.mem_of_getElem? h)))))))
  · cases h
noncomputable abbrev mz_Rg (r : mz_R) : Prop := mz_Rok mz_T vwCl mz_NM mz_ST lw_tbl mz_gt r
/-! each class's words once -/
noncomputable def mz_isw : Instr → Bool
  | .ldc _ => true
  | .ldc_w _ => true
  | .ldc2_w _ => true
  | .getfield _ => true
  | .putfield _ => true
  | .getstatic _ => true
  | .invokevirtual _ => true
  | .invokestatic _ => true
  | _ => false
noncomputable def mz_inV (V : List (Instr × mz_I)) (ins : Instr) (f : mz_I) : Bool := V.any (fun v => Nat.beq v.2.2.2.2 f.2.2.2 && (decide (v.2 = f) && decide (v.1 = ins)))
noncomputable def mz_cls (gt : Nat → Option Jvm.Cond) (c : String) (p : Nat) : Bool := plainName c && (c != "java/lang/invoke/MethodHandle" && c != "java/lang/invoke/VarHandle") && decide (gt p = some (Jvm.Cond.initialized c))
noncomputable def mz_chk2 (T : List mz_R) (cl : List vw_C) (NM : List String) (ST : List (String × Nat × String)) (gt : Nat → Option Jvm.Cond) (V : List (Instr × mz_I)) (r : mz_R) (ps : Nat × Nat) : Bool :=
  decide ((parseMethodDescriptor r.2.1.desc).map (fun d => d.parameters.length) = some (cond r.2.2.2.2.2.1 r.2.2.2.2.2.2.1 (r.2.2.2.2.2.2.1 - 1))) && decide (r.2.2.2.1 ≤ 45) &&
  cond r.2.2.2.2.2.1 (decide (gt ps.1 = some (Jvm.Cond.static r.2.1))) (decide (gt ps.1 = some (Jvm.Cond.instanceMethod r.2.1)) && decide (gt ps.2 = some (Jvm.Cond.selects r.2.1.cls r.2.1 r.2.1)) && cond (r.1 == 12) (r.2.1.cls == "java/lang/String") (match cl[r.1]? with
    | some q => q.1 == r.2.1.cls
    | none => false)) &&
  (mz_wk r.2.2.1 r.2.2.2.2.2.2.2 0 (mz_bs r.2.2.1) && r.2.2.2.2.2.2.2.all (fun q => (q.2.2.1 == mz_ln q.2.1 || mz_sw q.2.1) && cond (mz_isw q.2.1) (mz_inV V q.2.1 q.2.2.2) (mz_lk T cl NM ST gt r.2.1.cls q.2.1 q.2.2.2)))
theorem mz_chk2_ok {T : List mz_R} {cl : List vw_C} {NM : List String} {ST : List (String × Nat × String)} {G0 : List Jvm.Cond} {gt : Nat → Option Jvm.Cond} {r : mz_R} (hgt : ∀ (i : Nat) (w : Jvm.Cond), gt i = some w → w ∈ G0) {c : String} {pc : Nat} (hc : mz_cls gt c pc = true) {V : List (Instr × mz_I)} (hV : V.all (fun v => mz_lk T cl NM ST gt c v.1 v.2) = true) (hr : r.2.1.cls = c) {pk : Nat} (hk : gt pk = some (Jvm.Cond.code r.2.1 r.2.2.1 r.2.2.2.1 r.2.2.2.2.1)) (ps : Nat × Nat) (h : mz_chk2 T cl NM ST gt V r ps = true) : mz_Rok T cl NM ST G0 gt r := by
  subst hr
  unfold mz_cls at hc
  unfold mz_chk2 at h
  rw [Bool.and_eq_true, Bool.and_eq_true] at hc
  rw [Bool.and_eq_true, Bool.and_eq_true, Bool.and_eq_true] at h
  obtain ⟨⟨c1, c2⟩, c3⟩ := hc
  obtain ⟨⟨⟨h3, h4⟩, h7⟩, h8⟩ := h
  have h5 := decide_eq_true hk
  rw [Bool.and_eq_true] at h8
  obtain ⟨h8, h9⟩ := h8
  refine mz_chk_ok hgt (pk, pc, ps.1, ps.2) ?_
  have h9' : r.2.2.2.2.2.2.2.all (fun q => (q.2.2.1 == mz_ln q.2.1 || mz_sw q.2.1) && mz_lk T cl NM ST gt r.2.1.cls q.2.1 q.2.2.2) = true := List.all_eq_true.mpr fun q hq => by
    have h10 : ((q.2.2.1 == mz_ln q.2.1 || mz_sw q.2.1) && cond (mz_isw q.2.1) (mz_inV V q.2.1 q.2.2.2) (mz_lk T cl NM ST gt r.2.1.cls q.2.1 q.2.2.2)) = true := List.all_eq_true.mp h9 q hq
    rw [Bool.and_eq_true] at h10
    show ((q.2.2.1 == mz_ln q.2.1 || mz_sw q.2.1) && mz_lk T cl NM ST gt r.2.1.cls q.2.1 q.2.2.2) = true
    rw [Bool.and_eq_true]
    refine ⟨h10.1, ?_⟩
    have h11 := h10.2
    cases hb : mz_isw q.2.1 with
    | false =>
      rw [hb] at h11
      exact h11
    | true =>
      rw [hb] at h11
      have h12 : V.any (fun v => Nat.beq v.2.2.2.2 q.2.2.2.2.2.2 && (decide (v.2 = q.2.2.2) && decide (v.1 = q.2.1))) = true := h11
      obtain ⟨v, hv, h13⟩ := List.any_eq_true.mp h12
      have h14 : (Nat.beq v.2.2.2.2 q.2.2.2.2.2.2 && (decide (v.2 = q.2.2.2) && decide (v.1 = q.2.1))) = true := h13
      rw [Bool.and_eq_true, Bool.and_eq_true] at h14
      have e1 := of_decide_eq_true h14.2.1
      have e2 := of_decide_eq_true h14.2.2
      have h15 : mz_lk T cl NM ST gt r.2.1.cls v.1 v.2 = true := List.all_eq_true.mp hV v hv
      rw [e1, e2] at h15
      exact h15
  unfold mz_chk
  dsimp only
  rw [c1, c2, h3, h4, h5, c3, h8, h9']
  simp only [Bool.true_and, Bool.and_true]
  exact h7

noncomputable def mz_V0 : List (Instr × mz_I) := [(.putfield 9, 0, 0, 0, 1118), (.putfield 15, 0, 0, 1, 1121), (.putfield 18, 0, 0, 2, 1124), (.putfield 21, 0, 0, 3, 1127), (.putfield 24, 0, 0, 4, 1130), (.getfield 9, 0, 0, 0, 1118), (.getfield 15, 0, 0, 1, 1121), (.getfield 18, 0, 0, 2, 1124), (.getfield 21, 0, 0, 3, 1127), (.getfield 24, 0, 0, 4, 1130)]
set_option maxRecDepth 100000 in
theorem mz_VE0 : mz_V0.all (fun v => mz_lk mz_T vwCl mz_NM mz_ST mz_gt "ThreeMagnets$Bob" v.1 v.2) = true := by decide +kernel
set_option maxRecDepth 100000 in
theorem mz_cE0 : mz_cls mz_gt "ThreeMagnets$Bob" 1006 = true := by decide +kernel
noncomputable def mz_V1 : List (Instr × mz_I) := [(.getfield 18, 0, 1, 2, 1156), (.getfield 21, 0, 1, 3, 1158), (.putfield 9, 0, 1, 0, 1150), (.putfield 15, 0, 1, 1, 1153), (.putfield 18, 0, 1, 2, 1156), (.putfield 21, 0, 1, 3, 1158), (.putfield 24, 0, 1, 4, 1160), (.invokevirtual 34, 3, 4, 0, 3230), (.getfield 27, 0, 1, 5, 1163), (.getfield 31, 0, 1, 6, 1164), (.invokevirtual 38, 3, 10, 0, 4002), (.invokevirtual 42, 3, 7, 0, 4006), (.invokevirtual 46, 3, 9, 0, 3238), (.invokevirtual 50, 3, 13, 0, 4036), (.invokevirtual 54, 3, 12, 0, 4048), (.invokevirtual 57, 3, 16, 0, 4053), (.invokevirtual 60, 3, 8, 0, 4065), (.invokevirtual 63, 3, 3, 0, 4082), (.invokevirtual 67, 3, 19, 0, 4086), (.getfield 9, 0, 1, 0, 1150), (.getfield 15, 0, 1, 1, 1153), (.getfield 24, 0, 1, 4, 1160), (.invokevirtual 70, 3, 5, 0, 5012), (.invokestatic 74, 4, 126, 0, 5013)]
set_option maxRecDepth 100000 in
theorem mz_VE1 : mz_V1.all (fun v => mz_lk mz_T vwCl mz_NM mz_ST mz_gt "ThreeMagnets$Picture" v.1 v.2) = true := by decide +kernel
set_option maxRecDepth 100000 in
theorem mz_cE1 : mz_cls mz_gt "ThreeMagnets$Picture" 1007 = true := by decide +kernel
noncomputable def mz_V2 : List (Instr × mz_I) := [(.getfield 24, 0, 2, 4, 1054), (.invokevirtual 28, 3, 22, 0, 2151), (.getfield 9, 0, 2, 0, 1040), (.getfield 15, 0, 2, 1, 1044), (.getfield 18, 0, 2, 2, 1047), (.getfield 21, 0, 2, 3, 1050), (.putfield 24, 0, 2, 4, 1054), (.invokevirtual 32, 3, 21, 0, 2164), (.invokestatic 36, 8, 0, 0, 2165), (.invokevirtual 42, 3, 24, 0, 2234), (.invokevirtual 46, 3, 26, 0, 2235), (.invokestatic 49, 4, 126, 0, 4236)]
set_option maxRecDepth 100000 in
theorem mz_VE2 : mz_V2.all (fun v => mz_lk mz_T vwCl mz_NM mz_ST mz_gt "ThreeMagnets$Plate" v.1 v.2) = true := by decide +kernel
set_option maxRecDepth 100000 in
theorem mz_cE2 : mz_cls mz_gt "ThreeMagnets$Plate" 1003 = true := by decide +kernel
noncomputable def mz_V3 : List (Instr × mz_I) := [(.putfield 20, 0, 3, 2, 2030), (.putfield 24, 0, 3, 3, 2031), (.putfield 28, 0, 3, 4, 2032), (.getfield 12, 0, 3, 0, 2027), (.putfield 36, 0, 8, 2, 1102), (.invokevirtual 39, 3, 29, 0, 3020), (.getfield 28, 0, 3, 4, 2032), (.getfield 24, 0, 3, 3, 2031), (.getfield 32, 0, 3, 1, 2029), (.getfield 43, 0, 7, 1, 1086), (.invokevirtual 46, 3, 31, 0, 3024), (.invokevirtual 50, 3, 54, 0, 3028), (.invokestatic 54, 2, 30, 0, 3133), (.invokevirtual 58, 3, 56, 0, 3039), (.invokestatic 61, 2, 35, 0, 3032), (.invokevirtual 65, 3, 33, 0, 3035), (.invokevirtual 68, 3, 32, 0, 3043), (.invokevirtual 71, 3, 34, 0, 3047), (.getfield 20, 0, 3, 2, 2030), (.invokevirtual 74, 3, 230, 0, 3051)]
set_option maxRecDepth 100000 in
theorem mz_VE3 : mz_V3.all (fun v => mz_lk mz_T vwCl mz_NM mz_ST mz_gt "ThreeMagnets$Reader" v.1 v.2) = true := by decide +kernel
set_option maxRecDepth 100000 in
theorem mz_cE3 : mz_cls mz_gt "ThreeMagnets$Reader" 1009 = true := by decide +kernel
noncomputable def mz_V4 : List (Instr × mz_I) := [(.getfield 12, 0, 4, 1, 2005), (.invokevirtual 29, 3, 0, 0, 3203), (.getfield 25, 0, 4, 0, 2004), (.getfield 33, 0, 6, 1, 1184), (.invokevirtual 38, 3, 37, 0, 3204), (.invokevirtual 42, 3, 38, 0, 3205), (.getfield 46, 0, 0, 2, 1125), (.invokestatic 50, 8, 0, 0, 3183), (.getfield 56, 0, 0, 3, 1128), (.getfield 59, 0, 6, 0, 1182), (.getfield 63, 0, 0, 0, 1119), (.getfield 66, 0, 0, 1, 1122), (.invokevirtual 69, 3, 25, 0, 3182), (.invokevirtual 75, 3, 24, 0, 3177), (.invokestatic 79, 9, 0, 0, 2200), (.invokevirtual 83, 3, 21, 0, 2172), (.getfield 87, 0, 2, 3, 1053), (.getfield 90, 0, 0, 4, 1132), (.invokevirtual 93, 3, 42, 0, 2173), (.getfield 96, 0, 2, 0, 1043), (.invokestatic 99, 2, 41, 0, 2197), (.getfield 103, 0, 2, 1, 1046), (.invokestatic 106, 4, 123, 0, 2177), (.putfield 46, 0, 0, 2, 1125), (.getfield 109, 0, 2, 2, 1049), (.putfield 56, 0, 0, 3, 1128), (.invokevirtual 112, 3, 43, 0, 3178), (.invokestatic 115, 2, 39, 0, 3184), (.putfield 90, 0, 0, 4, 1132), (.invokestatic 118, 4, 122, 0, 2188), (.putfield 63, 0, 0, 0, 1119), (.putfield 66, 0, 0, 1, 1122), (.getfield 121, 0, 6, 3, 1189), (.getfield 125, 0, 8, 2, 1103), (.getfield 18, 0, 4, 2, 2007), (.getfield 22, 0, 4, 3, 2008), (.invokevirtual 130, 3, 57, 0, 2180), (.getfield 134, 0, 6, 4, 1191), (.getfield 137, 0, 6, 7, 1197), (.invokevirtual 141, 3, 7, 0, 4107), (.invokevirtual 146, 3, 8, 0, 4108), (.getfield 149, 0, 1, 0, 1151), (.getfield 150, 0, 1, 4, 1161), (.getfield 152, 0, 1, 1, 1154), (.invokevirtual 153, 3, 12, 0, 4109), (.getfield 157, 0, 6, 5, 1193)]
set_option maxRecDepth 100000 in
theorem mz_VE4 : mz_V4.all (fun v => mz_lk mz_T vwCl mz_NM mz_ST mz_gt "ThreeMagnets$Runner" v.1 v.2) = true := by decide +kernel
set_option maxRecDepth 100000 in
theorem mz_cE4 : mz_cls mz_gt "ThreeMagnets$Runner" 1008 = true := by decide +kernel
noncomputable def mz_V5 : List (Instr × mz_I) := [(.invokevirtual 21, 3, 45, 0, 4184), (.getfield 9, 0, 5, 0, 2085), (.invokestatic 25, 4, 121, 0, 4185), (.getfield 15, 0, 5, 1, 2087), (.getfield 18, 0, 5, 2, 2089), (.invokevirtual 29, 3, 48, 0, 4198), (.invokestatic 32, 11, 0, 0, 4211)]
set_option maxRecDepth 100000 in
theorem mz_VE5 : mz_V5.all (fun v => mz_lk mz_T vwCl mz_NM mz_ST mz_gt "ThreeMagnets$Sheets" v.1 v.2) = true := by decide +kernel
set_option maxRecDepth 100000 in
theorem mz_cE5 : mz_cls mz_gt "ThreeMagnets$Sheets" 1011 = true := by decide +kernel
noncomputable def mz_V6 : List (Instr × mz_I) := [(.getfield 40, 0, 6, 3, 1188), (.getfield 44, 0, 6, 4, 1190), (.getfield 47, 0, 6, 5, 1192), (.getfield 12, 0, 6, 0, 1180), (.invokevirtual 81, 3, 27, 0, 4232), (.getfield 27, 0, 6, 1, 1183), (.invokestatic 85, 4, 126, 0, 4237), (.getfield 33, 0, 6, 2, 1186), (.invokevirtual 89, 3, 55, 0, 4238), (.invokevirtual 92, 3, 59, 0, 5003), (.getfield 53, 0, 6, 6, 1194), (.invokevirtual 95, 3, 1, 0, 5004), (.getfield 60, 0, 6, 7, 1196), (.invokevirtual 98, 3, 20, 0, 5008), (.getfield 64, 0, 6, 8, 1199), (.getfield 67, 0, 6, 9, 1201), (.putfield 67, 0, 6, 9, 1201), (.getfield 71, 0, 6, 10, 1203), (.getfield 74, 0, 6, 11, 1205), (.putfield 74, 0, 6, 11, 1205), (.getfield 78, 0, 6, 12, 1207), (.putfield 78, 0, 6, 12, 1207)]
set_option maxRecDepth 100000 in
theorem mz_VE6 : mz_V6.all (fun v => mz_lk mz_T vwCl mz_NM mz_ST mz_gt "ThreeMagnets$State" v.1 v.2) = true := by decide +kernel
set_option maxRecDepth 100000 in
theorem mz_cE6 : mz_cls mz_gt "ThreeMagnets$State" 1002 = true := by decide +kernel
noncomputable def mz_V7 : List (Instr × mz_I) := [(.getfield 15, 0, 7, 1, 1085), (.getfield 9, 0, 7, 0, 1083), (.invokestatic 19, 4, 126, 0, 5002), (.putfield 15, 0, 7, 1, 1085)]
set_option maxRecDepth 100000 in
theorem mz_VE7 : mz_V7.all (fun v => mz_lk mz_T vwCl mz_NM mz_ST mz_gt "ThreeMagnets$Tape" v.1 v.2) = true := by decide +kernel
set_option maxRecDepth 100000 in
theorem mz_cE7 : mz_cls mz_gt "ThreeMagnets$Tape" 1004 = true := by decide +kernel
noncomputable def mz_V8 : List (Instr × mz_I) := [(.getfield 18, 0, 8, 2, 1101), (.getfield 9, 0, 8, 0, 1099), (.getfield 15, 0, 8, 1, 1100), (.putfield 18, 0, 8, 2, 1101), (.invokestatic 22, 4, 121, 0, 2184), (.invokestatic 26, 2, 58, 0, 2185), (.invokestatic 30, 4, 126, 0, 3144)]
set_option maxRecDepth 100000 in
theorem mz_VE8 : mz_V8.all (fun v => mz_lk mz_T vwCl mz_NM mz_ST mz_gt "ThreeMagnets$Text" v.1 v.2) = true := by decide +kernel
set_option maxRecDepth 100000 in
theorem mz_cE8 : mz_cls mz_gt "ThreeMagnets$Text" 1005 = true := by decide +kernel
noncomputable def mz_V9 : List (Instr × mz_I) := [(.putfield 19, 0, 9, 2, 2055), (.putfield 26, 0, 9, 4, 2058), (.invokevirtual 38, 3, 21, 0, 4139), (.getfield 44, 0, 2, 0, 1041), (.putfield 29, 0, 9, 5, 2059), (.putfield 32, 0, 9, 6, 2060), (.getfield 47, 0, 2, 3, 1051), (.putfield 35, 0, 9, 7, 2061), (.getfield 29, 0, 9, 5, 2059), (.invokevirtual 50, 3, 62, 0, 4140), (.getfield 23, 0, 9, 3, 2057), (.getfield 9, 0, 9, 0, 2051), (.invokestatic 54, 4, 126, 0, 4167), (.getfield 26, 0, 9, 4, 2058), (.putfield 15, 0, 9, 1, 2053), (.invokestatic 58, 2, 65, 0, 4144), (.invokestatic 62, 2, 66, 0, 4148), (.getstatic 65, 1, 0, 1, 4154), (.invokevirtual 68, 3, 63, 0, 4155), (.getfield 35, 0, 9, 7, 2061), (.getfield 32, 0, 9, 6, 2060), (.invokevirtual 71, 3, 64, 0, 4159), (.invokestatic 75, 4, 114, 0, 4147), (.invokestatic 78, 4, 121, 0, 4151), (.getstatic 82, 1, 1, 1, 4152)]
set_option maxRecDepth 100000 in
theorem mz_VE9 : mz_V9.all (fun v => mz_lk mz_T vwCl mz_NM mz_ST mz_gt "ThreeMagnets$Voices" v.1 v.2) = true := by decide +kernel
set_option maxRecDepth 100000 in
theorem mz_cE9 : mz_cls mz_gt "ThreeMagnets$Voices" 1010 = true := by decide +kernel
noncomputable def mz_V10 : List (Instr × mz_I) := [(.invokestatic 63, 2, 113, 0, 2126), (.invokevirtual 67, 3, 109, 0, 2138), (.getfield 12, 0, 10, 0, 2097), (.getfield 71, 0, 6, 0, 1181), (.invokevirtual 75, 3, 22, 0, 2143), (.invokevirtual 81, 3, 23, 0, 2147), (.invokevirtual 85, 3, 21, 0, 2156), (.invokestatic 89, 2, 121, 0, 2132), (.getfield 93, 0, 6, 6, 1195), (.getfield 97, 0, 0, 0, 1120), (.getfield 102, 0, 0, 1, 1123), (.invokevirtual 105, 3, 24, 0, 2160), (.getfield 109, 0, 2, 0, 1042), (.getfield 112, 0, 2, 1, 1045), (.getfield 115, 0, 2, 2, 1048), (.getfield 118, 0, 2, 3, 1052), (.getfield 24, 0, 10, 2, 2099), (.getfield 121, 0, 0, 4, 1131), (.invokevirtual 124, 3, 40, 0, 2168), (.invokestatic 127, 2, 114, 0, 2129), (.invokestatic 130, 2, 115, 0, 2205), (.invokestatic 134, 2, 116, 0, 2135), (.getfield 137, 0, 2, 4, 1055), (.putfield 137, 0, 2, 4, 1055), (.getstatic 140, 1, 2, 0, 2222), (.getstatic 143, 1, 3, 0, 2224), (.getfield 146, 0, 6, 1, 1185), (.invokevirtual 149, 3, 25, 0, 2230), (.getfield 30, 0, 6, 2, 1187), (.getfield 153, 0, 7, 1, 1087), (.getfield 158, 0, 7, 0, 1084), (.putfield 153, 0, 7, 1, 1087), (.invokestatic 161, 2, 119, 0, 3007), (.getfield 37, 0, 10, 3, 2100), (.invokestatic 164, 2, 120, 0, 3010), (.invokevirtual 168, 3, 28, 0, 3016), (.invokevirtual 172, 3, 52, 0, 3136), (.getfield 176, 0, 3, 0, 2028), (.invokevirtual 180, 3, 59, 0, 3140), (.getfield 186, 0, 8, 2, 1104), (.putfield 186, 0, 8, 2, 1104), (.invokevirtual 187, 3, 0, 0, 3158), (.invokestatic 191, 2, 117, 0, 3166), (.putfield 194, 0, 0, 2, 1126), (.putfield 197, 0, 0, 3, 1129), (.invokevirtual 200, 3, 38, 0, 3173), (.getfield 194, 0, 0, 2, 1126), (.getfield 197, 0, 0, 3, 1129), (.invokevirtual 204, 3, 37, 0, 3191), (.invokevirtual 208, 3, 36, 0, 3199), (.getfield 212, 0, 4, 1, 2006), (.getfield 215, 0, 6, 7, 1198), (.invokevirtual 219, 3, 5, 0, 3222), (.invokevirtual 225, 3, 6, 0, 3226), (.invokevirtual 228, 3, 11, 0, 3234), (.invokevirtual 232, 3, 2, 0, 4014), (.invokevirtual 235, 3, 4, 0, 4018), (.invokevirtual 237, 3, 7, 0, 4019), (.invokestatic 241, 2, 118, 0, 4024), (.invokevirtual 244, 3, 9, 0, 4027), (.invokevirtual 247, 3, 12, 0, 4032), (.invokevirtual 250, 3, 14, 0, 4044), (.invokevirtual 253, 3, 15, 0, 4049), (.invokevirtual 256, 3, 110, 0, 4057), (.invokevirtual 259, 3, 17, 0, 4061), (.getfield 262, 0, 1, 3, 1159), (.getfield 265, 0, 1, 2, 1157), (.invokevirtual 268, 3, 10, 0, 4073), (.invokevirtual 271, 3, 18, 0, 4078), (.invokestatic 274, 9, 0, 0, 2194), (.invokestatic 279, 10, 0, 0, 2191), (.invokevirtual 282, 3, 3, 0, 4094), (.invokestatic 285, 2, 124, 0, 4095), (.invokestatic 288, 2, 123, 0, 4098), (.invokevirtual 291, 3, 44, 0, 4103), (.getfield 294, 0, 6, 8, 1200), (.invokestatic 297, 2, 125, 0, 4114), (.putfield 301, 0, 6, 9, 1202), (.invokevirtual 305, 3, 111, 0, 4117), (.invokestatic 308, 2, 122, 0, 4122), (.getfield 301, 0, 6, 9, 1202), (.getfield 311, 0, 6, 12, 1208), (.putfield 311, 0, 6, 12, 1208), (.getfield 44, 0, 10, 4, 2101), (.invokevirtual 314, 3, 60, 0, 4135), (.getfield 318, 0, 9, 2, 2056), (.invokevirtual 321, 3, 61, 0, 4163), (.getfield 324, 0, 9, 1, 2054), (.getfield 325, 0, 9, 0, 2052), (.getfield 51, 0, 10, 5, 2102), (.invokevirtual 328, 3, 45, 0, 4176), (.invokevirtual 329, 3, 47, 0, 4180), (.invokevirtual 333, 3, 46, 0, 4190), (.getfield 336, 0, 5, 1, 2088), (.invokevirtual 339, 3, 50, 0, 4194), (.getfield 342, 0, 5, 0, 2086), (.invokevirtual 345, 3, 48, 0, 4206), (.invokevirtual 348, 3, 51, 0, 4207), (.invokevirtual 351, 3, 112, 0, 4216), (.getfield 16, 0, 10, 1, 2098), (.invokevirtual 354, 3, 53, 0, 4228), (.getfield 59, 0, 10, 7, 2104), (.putfield 59, 0, 10, 7, 2104), (.getfield 356, 0, 6, 11, 1206), (.getfield 359, 0, 6, 10, 1204), (.putfield 356, 0, 6, 11, 1206), (.getfield 55, 0, 10, 6, 2103), (.ldc_w 362, 21, 1000000, 0, 2142), (.getfield 363, 0, 1, 4, 1162), (.getfield 365, 0, 1, 0, 1152), (.getfield 366, 0, 1, 1, 1155), (.ldc_w 367, 20, 1103515245, 0, 4121), (.invokevirtual 368, 3, 49, 0, 4220), (.getstatic 371, 1, 0, 0, 2208), (.ldc_w 374, 22, 1, 0, 3013), (.ldc_w 376, 22, 2, 0, 3014), (.ldc_w 378, 22, 3, 0, 3015), (.invokestatic 380, 11, 0, 0, 3147)]
set_option maxRecDepth 100000 in
theorem mz_VE10 : mz_V10.all (fun v => mz_lk mz_T vwCl mz_NM mz_ST mz_gt "ThreeMagnets" v.1 v.2) = true := by decide +kernel
set_option maxRecDepth 100000 in
theorem mz_cE10 : mz_cls mz_gt "ThreeMagnets" 1001 = true := by decide +kernel
noncomputable def mz_V11 : List (Instr × mz_I) := [(.getfield 16, 0, 11, 3, 5043), (.ldc 49, 21, 1000000, 0, 5136), (.invokestatic 50, 2, 128, 0, 5126), (.getfield 7, 0, 11, 0, 5040), (.invokestatic 54, 2, 131, 0, 5129), (.invokestatic 58, 2, 135, 0, 5123), (.invokevirtual 62, 3, 127, 0, 5132), (.invokevirtual 66, 3, 136, 0, 5137), (.invokevirtual 70, 3, 132, 0, 5145), (.invokevirtual 74, 3, 133, 0, 5149), (.invokevirtual 78, 3, 145, 0, 5153), (.invokevirtual 81, 3, 147, 0, 5157), (.invokevirtual 84, 3, 150, 0, 5164), (.invokestatic 87, 2, 134, 0, 5190), (.invokestatic 90, 2, 142, 0, 5205), (.putfield 93, 0, 11, 4, 5044), (.putfield 97, 0, 11, 5, 5045), (.putfield 100, 0, 11, 6, 5046), (.putfield 103, 0, 11, 7, 5047), (.putfield 106, 0, 11, 8, 5048), (.getfield 93, 0, 11, 4, 5044), (.getfield 97, 0, 11, 5, 5045), (.getfield 100, 0, 11, 6, 5046), (.getfield 103, 0, 11, 7, 5047), (.getfield 106, 0, 11, 8, 5048), (.invokestatic 109, 2, 129, 0, 5161), (.invokevirtual 112, 3, 169, 0, 5172), (.getfield 22, 0, 11, 14, 5054), (.invokevirtual 115, 3, 173, 0, 5176), (.invokestatic 118, 2, 130, 0, 5183), (.invokevirtual 122, 3, 149, 0, 5168), (.invokevirtual 125, 3, 148, 0, 5216), (.invokevirtual 129, 3, 151, 0, 6060), (.invokevirtual 133, 3, 153, 0, 6068), (.invokevirtual 136, 3, 152, 0, 6056), (.invokevirtual 140, 3, 144, 0, 5212), (.invokevirtual 144, 3, 154, 0, 6076), (.ldc2_w 147, 23, 255, 0, 5224), (.getfield 149, 0, 11, 9, 5049), (.getfield 152, 0, 11, 12, 5052), (.getfield 19, 0, 11, 13, 5053), (.getfield 155, 0, 11, 11, 5051), (.putfield 155, 0, 11, 11, 5051), (.invokevirtual 158, 3, 163, 0, 5233), (.invokevirtual 162, 3, 159, 0, 6013), (.putfield 149, 0, 11, 9, 5049), (.invokevirtual 165, 3, 161, 0, 6021), (.invokevirtual 169, 3, 164, 0, 5237), (.invokevirtual 172, 3, 165, 0, 6001), (.invokevirtual 175, 3, 166, 0, 6005), (.invokevirtual 178, 3, 168, 0, 6009), (.getfield 181, 0, 11, 10, 5050), (.putfield 181, 0, 11, 10, 5050), (.invokevirtual 184, 3, 160, 0, 6017), (.invokevirtual 187, 3, 167, 0, 6025), (.invokevirtual 190, 3, 162, 0, 5229), (.putfield 152, 0, 11, 12, 5052), (.getfield 25, 0, 11, 15, 5055), (.invokestatic 193, 2, 172, 0, 5180), (.invokevirtual 196, 3, 146, 0, 6037), (.invokestatic 199, 2, 175, 0, 6045), (.invokevirtual 202, 3, 156, 0, 6052), (.invokevirtual 205, 3, 155, 0, 6084), (.invokevirtual 208, 3, 183, 0, 6116), (.invokevirtual 211, 3, 184, 0, 6124), (.invokevirtual 214, 3, 186, 0, 6104), (.invokevirtual 217, 3, 189, 0, 6100), (.invokevirtual 220, 3, 185, 0, 6112), (.invokevirtual 223, 3, 187, 0, 6120), (.invokevirtual 226, 3, 192, 0, 6139), (.invokestatic 229, 2, 188, 0, 6132), (.invokevirtual 232, 3, 193, 0, 6135), (.invokevirtual 235, 3, 195, 0, 6151), (.invokevirtual 238, 3, 196, 0, 6147), (.invokevirtual 241, 3, 198, 0, 6159), (.getfield 28, 0, 11, 16, 5056), (.getfield 31, 0, 11, 17, 5057), (.invokevirtual 244, 3, 203, 0, 6179), (.ldc 247, 20, 1103515245, 0, 6191), (.invokevirtual 248, 3, 205, 0, 6187), (.getfield 251, 0, 11, 19, 5059), (.getfield 34, 0, 11, 18, 5058), (.putfield 251, 0, 11, 19, 5059), (.getfield 254, 0, 11, 20, 5060), (.invokevirtual 257, 3, 209, 0, 6212), (.invokevirtual 260, 3, 212, 0, 6216), (.invokestatic 263, 2, 210, 0, 6220), (.invokevirtual 266, 3, 213, 0, 6208), (.invokevirtual 269, 3, 211, 0, 6204), (.invokevirtual 272, 3, 214, 0, 6223), (.invokevirtual 275, 3, 215, 0, 6227), (.putfield 278, 0, 11, 21, 5061), (.invokevirtual 282, 3, 216, 0, 6231), (.getfield 278, 0, 11, 21, 5061), (.putfield 254, 0, 11, 20, 5060), (.invokestatic 285, 2, 219, 0, 7003), (.getfield 37, 0, 11, 22, 5062), (.getfield 40, 0, 11, 23, 5063), (.getfield 43, 0, 11, 24, 5064), (.getfield 46, 0, 11, 25, 5065), (.getfield 13, 0, 11, 1, 5041), (.getfield 288, 0, 11, 2, 5042), (.putfield 288, 0, 11, 2, 5042)]
set_option maxRecDepth 100000 in
theorem mz_VE11 : mz_V11.all (fun v => mz_lk mz_T vwCl mz_NM mz_ST mz_gt "ThreeMagnetsModel" v.1 v.2) = true := by decide +kernel
set_option maxRecDepth 100000 in
theorem mz_cE11 : mz_cls mz_gt "ThreeMagnetsModel" 1012 = true := by decide +kernel
noncomputable def mz_V12 : List (Instr × mz_I) := [(.invokevirtual 633, 3, 231, 0, 3055), (.invokevirtual 492, 3, 232, 0, 3059), (.getfield 9, 5, 0, 0, 7044), (.invokevirtual 505, 3, 233, 0, 3065), (.invokestatic 637, 2, 235, 0, 3073), (.invokestatic 640, 99, 0, 0, 0), (.getstatic 38, 6, 0, 0, 3063), (.getfield 15, 5, 1, 0, 7043), (.invokevirtual 335, 3, 234, 0, 3069)]
set_option maxRecDepth 100000 in
theorem mz_VE12 : mz_V12.all (fun v => mz_lk mz_T vwCl mz_NM mz_ST mz_gt "java/lang/String" v.1 v.2) = true := by decide +kernel
set_option maxRecDepth 100000 in
theorem mz_cE12 : mz_cls mz_gt "java/lang/String" 1014 = true := by decide +kernel
noncomputable def mz_V13 : List (Instr × mz_I) := [(.invokestatic 88, 2, 236, 0, 3076), (.invokestatic 92, 9, 0, 0, 3079), (.invokestatic 38, 10, 0, 0, 3080), (.invokestatic 95, 2, 237, 0, 3081)]
set_option maxRecDepth 100000 in
theorem mz_VE13 : mz_V13.all (fun v => mz_lk mz_T vwCl mz_NM mz_ST mz_gt "java/lang/StringLatin1" v.1 v.2) = true := by decide +kernel
set_option maxRecDepth 100000 in
theorem mz_cE13 : mz_cls mz_gt "java/lang/StringLatin1" 1015 = true := by decide +kernel
set_option maxRecDepth 100000 in
theorem mz_ok0 : mz_Rg mz_r0 := mz_chk2_ok mz_gtA mz_cE0 mz_VE0 rfl (pk := 3161) rfl (3159, 3160) (by decide +kernel)
set_option maxRecDepth 100000 in
theorem mz_ok1 : mz_Rg mz_r1 := mz_chk2_ok mz_gtA mz_cE0 mz_VE0 rfl (pk := 5007) rfl (5005, 5006) (by decide +kernel)
set_option maxRecDepth 100000 in
theorem mz_ok2 : mz_Rg mz_r2 := mz_chk2_ok mz_gtA mz_cE1 mz_VE1 rfl (pk := 4017) rfl (4015, 4016) (by decide +kernel)
set_option maxRecDepth 100000 in
theorem mz_ok3 : mz_Rg mz_r3 := mz_chk2_ok mz_gtA mz_cE1 mz_VE1 rfl (pk := 4085) rfl (4083, 4084) (by decide +kernel)
set_option maxRecDepth 100000 in
theorem mz_ok4 : mz_Rg mz_r4 := mz_chk2_ok mz_gtA mz_cE1 mz_VE1 rfl (pk := 3233) rfl (3231, 3232) (by decide +kernel)
set_option maxRecDepth 100000 in
theorem mz_ok5 : mz_Rg mz_r5 := mz_chk2_ok mz_gtA mz_cE1 mz_VE1 rfl (pk := 3225) rfl (3223, 3224) (by decide +kernel)
set_option maxRecDepth 100000 in
theorem mz_ok6 : mz_Rg mz_r6 := mz_chk2_ok mz_gtA mz_cE1 mz_VE1 rfl (pk := 3229) rfl (3227, 3228) (by decide +kernel)
set_option maxRecDepth 100000 in
theorem mz_ok7 : mz_Rg mz_r7 := mz_chk2_ok mz_gtA mz_cE1 mz_VE1 rfl (pk := 4009) rfl (4007, 4008) (by decide +kernel)
set_option maxRecDepth 100000 in
theorem mz_ok8 : mz_Rg mz_r8 := mz_chk2_ok mz_gtA mz_cE1 mz_VE1 rfl (pk := 4068) rfl (4066, 4067) (by decide +kernel)
set_option maxRecDepth 100000 in
theorem mz_ok9 : mz_Rg mz_r9 := mz_chk2_ok mz_gtA mz_cE1 mz_VE1 rfl (pk := 4001) rfl (3239, 4000) (by decide +kernel)
set_option maxRecDepth 100000 in
theorem mz_ok10 : mz_Rg mz_r10 := mz_chk2_ok mz_gtA mz_cE1 mz_VE1 rfl (pk := 4005) rfl (4003, 4004) (by decide +kernel)
set_option maxRecDepth 100000 in
theorem mz_ok11 : mz_Rg mz_r11 := mz_chk2_ok mz_gtA mz_cE1 mz_VE1 rfl (pk := 3237) rfl (3235, 3236) (by decide +kernel)
set_option maxRecDepth 100000 in
theorem mz_ok12 : mz_Rg mz_r12 := mz_chk2_ok mz_gtA mz_cE1 mz_VE1 rfl (pk := 4035) rfl (4033, 4034) (by decide +kernel)
set_option maxRecDepth 100000 in
theorem mz_ok13 : mz_Rg mz_r13 := mz_chk2_ok mz_gtA mz_cE1 mz_VE1 rfl (pk := 4039) rfl (4038, 9) (by decide +kernel)
set_option maxRecDepth 100000 in
theorem mz_ok14 : mz_Rg mz_r14 := mz_chk2_ok mz_gtA mz_cE1 mz_VE1 rfl (pk := 4047) rfl (4045, 4046) (by decide +kernel)
set_option maxRecDepth 100000 in
theorem mz_ok15 : mz_Rg mz_r15 := mz_chk2_ok mz_gtA mz_cE1 mz_VE1 rfl (pk := 4052) rfl (4050, 4051) (by decide +kernel)
set_option maxRecDepth 100000 in
theorem mz_ok16 : mz_Rg mz_r16 := mz_chk2_ok mz_gtA mz_cE1 mz_VE1 rfl (pk := 4056) rfl (4055, 10) (by decide +kernel)
set_option maxRecDepth 100000 in
theorem mz_ok17 : mz_Rg mz_r17 := mz_chk2_ok mz_gtA mz_cE1 mz_VE1 rfl (pk := 4064) rfl (4062, 4063) (by decide +kernel)
set_option maxRecDepth 100000 in
theorem mz_ok18 : mz_Rg mz_r18 := mz_chk2_ok mz_gtA mz_cE1 mz_VE1 rfl (pk := 4081) rfl (4079, 4080) (by decide +kernel)
set_option maxRecDepth 100000 in
theorem mz_ok19 : mz_Rg mz_r19 := mz_chk2_ok mz_gtA mz_cE1 mz_VE1 rfl (pk := 4089) rfl (4088, 12) (by decide +kernel)
set_option maxRecDepth 100000 in
theorem mz_ok20 : mz_Rg mz_r20 := mz_chk2_ok mz_gtA mz_cE1 mz_VE1 rfl (pk := 5011) rfl (5009, 5010) (by decide +kernel)
set_option maxRecDepth 100000 in
theorem mz_ok21 : mz_Rg mz_r21 := mz_chk2_ok mz_gtA mz_cE2 mz_VE2 rfl (pk := 2159) rfl (2157, 2158) (by decide +kernel)
set_option maxRecDepth 100000 in
theorem mz_ok22 : mz_Rg mz_r22 := mz_chk2_ok mz_gtA mz_cE2 mz_VE2 rfl (pk := 2146) rfl (2144, 2145) (by decide +kernel)
set_option maxRecDepth 100000 in
theorem mz_ok23 : mz_Rg mz_r23 := mz_chk2_ok mz_gtA mz_cE2 mz_VE2 rfl (pk := 2150) rfl (2148, 2149) (by decide +kernel)
set_option maxRecDepth 100000 in
theorem mz_ok24 : mz_Rg mz_r24 := mz_chk2_ok mz_gtA mz_cE2 mz_VE2 rfl (pk := 2163) rfl (2161, 2162) (by decide +kernel)
set_option maxRecDepth 100000 in
theorem mz_ok25 : mz_Rg mz_r25 := mz_chk2_ok mz_gtA mz_cE2 mz_VE2 rfl (pk := 2233) rfl (2231, 2232) (by decide +kernel)
set_option maxRecDepth 100000 in
theorem mz_ok26 : mz_Rg mz_r26 := mz_chk2_ok mz_gtA mz_cE2 mz_VE2 rfl (pk := 2238) rfl (2237, 2) (by decide +kernel)
set_option maxRecDepth 100000 in
theorem mz_ok27 : mz_Rg mz_r27 := mz_chk2_ok mz_gtA mz_cE2 mz_VE2 rfl (pk := 4235) rfl (4233, 4234) (by decide +kernel)
set_option maxRecDepth 100000 in
theorem mz_ok28 : mz_Rg mz_r28 := mz_chk2_ok mz_gtA mz_cE3 mz_VE3 rfl (pk := 3019) rfl (3017, 3018) (by decide +kernel)
set_option maxRecDepth 100000 in
theorem mz_ok29 : mz_Rg mz_r29 := mz_chk2_ok mz_gtA mz_cE3 mz_VE3 rfl (pk := 3023) rfl (3022, 3) (by decide +kernel)
set_option maxRecDepth 100000 in
theorem mz_ok30 : mz_Rg mz_r30 := mz_chk2_ok mz_gtA mz_cE3 mz_VE3 rfl (pk := 3135) rfl (3134, 0) (by decide +kernel)
set_option maxRecDepth 100000 in
theorem mz_ok31 : mz_Rg mz_r31 := mz_chk2_ok mz_gtA mz_cE3 mz_VE3 rfl (pk := 3027) rfl (3026, 4) (by decide +kernel)
set_option maxRecDepth 100000 in
theorem mz_ok32 : mz_Rg mz_r32 := mz_chk2_ok mz_gtA mz_cE3 mz_VE3 rfl (pk := 3046) rfl (3045, 6) (by decide +kernel)
set_option maxRecDepth 100000 in
theorem mz_ok33 : mz_Rg mz_r33 := mz_chk2_ok mz_gtA mz_cE3 mz_VE3 rfl (pk := 3038) rfl (3037, 5) (by decide +kernel)
set_option maxRecDepth 100000 in
theorem mz_ok34 : mz_Rg mz_r34 := mz_chk2_ok mz_gtA mz_cE3 mz_VE3 rfl (pk := 3050) rfl (3049, 7) (by decide +kernel)
set_option maxRecDepth 100000 in
theorem mz_ok35 : mz_Rg mz_r35 := mz_chk2_ok mz_gtA mz_cE3 mz_VE3 rfl (pk := 3034) rfl (3033, 0) (by decide +kernel)
set_option maxRecDepth 100000 in
theorem mz_ok36 : mz_Rg mz_r36 := mz_chk2_ok mz_gtA mz_cE4 mz_VE4 rfl (pk := 3202) rfl (3200, 3201) (by decide +kernel)
set_option maxRecDepth 100000 in
theorem mz_ok37 : mz_Rg mz_r37 := mz_chk2_ok mz_gtA mz_cE4 mz_VE4 rfl (pk := 3194) rfl (3192, 3193) (by decide +kernel)
set_option maxRecDepth 100000 in
theorem mz_ok38 : mz_Rg mz_r38 := mz_chk2_ok mz_gtA mz_cE4 mz_VE4 rfl (pk := 3176) rfl (3174, 3175) (by decide +kernel)
set_option maxRecDepth 100000 in
theorem mz_ok39 : mz_Rg mz_r39 := mz_chk2_ok mz_gtA mz_cE4 mz_VE4 rfl (pk := 3186) rfl (3185, 0) (by decide +kernel)
set_option maxRecDepth 100000 in
theorem mz_ok40 : mz_Rg mz_r40 := mz_chk2_ok mz_gtA mz_cE4 mz_VE4 rfl (pk := 2171) rfl (2169, 2170) (by decide +kernel)
set_option maxRecDepth 100000 in
theorem mz_ok41 : mz_Rg mz_r41 := mz_chk2_ok mz_gtA mz_cE4 mz_VE4 rfl (pk := 2199) rfl (2198, 0) (by decide +kernel)
set_option maxRecDepth 100000 in
theorem mz_ok42 : mz_Rg mz_r42 := mz_chk2_ok mz_gtA mz_cE4 mz_VE4 rfl (pk := 2176) rfl (2175, 1) (by decide +kernel)
set_option maxRecDepth 100000 in
theorem mz_ok43 : mz_Rg mz_r43 := mz_chk2_ok mz_gtA mz_cE4 mz_VE4 rfl (pk := 3181) rfl (3180, 8) (by decide +kernel)
set_option maxRecDepth 100000 in
theorem mz_ok44 : mz_Rg mz_r44 := mz_chk2_ok mz_gtA mz_cE4 mz_VE4 rfl (pk := 4106) rfl (4104, 4105) (by decide +kernel)
set_option maxRecDepth 100000 in
theorem mz_ok45 : mz_Rg mz_r45 := mz_chk2_ok mz_gtA mz_cE5 mz_VE5 rfl (pk := 4179) rfl (4177, 4178) (by decide +kernel)
set_option maxRecDepth 100000 in
theorem mz_ok46 : mz_Rg mz_r46 := mz_chk2_ok mz_gtA mz_cE5 mz_VE5 rfl (pk := 4193) rfl (4191, 4192) (by decide +kernel)
set_option maxRecDepth 100000 in
theorem mz_ok47 : mz_Rg mz_r47 := mz_chk2_ok mz_gtA mz_cE5 mz_VE5 rfl (pk := 4183) rfl (4181, 4182) (by decide +kernel)
set_option maxRecDepth 100000 in
theorem mz_ok48 : mz_Rg mz_r48 := mz_chk2_ok mz_gtA mz_cE5 mz_VE5 rfl (pk := 4201) rfl (4199, 4200) (by decide +kernel)
set_option maxRecDepth 100000 in
theorem mz_ok49 : mz_Rg mz_r49 := mz_chk2_ok mz_gtA mz_cE5 mz_VE5 rfl (pk := 4223) rfl (4221, 4222) (by decide +kernel)
set_option maxRecDepth 100000 in
theorem mz_ok50 : mz_Rg mz_r50 := mz_chk2_ok mz_gtA mz_cE5 mz_VE5 rfl (pk := 4197) rfl (4195, 4196) (by decide +kernel)
set_option maxRecDepth 100000 in
theorem mz_ok51 : mz_Rg mz_r51 := mz_chk2_ok mz_gtA mz_cE5 mz_VE5 rfl (pk := 4210) rfl (4208, 4209) (by decide +kernel)
set_option maxRecDepth 100000 in
theorem mz_ok52 : mz_Rg mz_r52 := mz_chk2_ok mz_gtA mz_cE6 mz_VE6 rfl (pk := 3139) rfl (3137, 3138) (by decide +kernel)
set_option maxRecDepth 100000 in
theorem mz_ok53 : mz_Rg mz_r53 := mz_chk2_ok mz_gtA mz_cE6 mz_VE6 rfl (pk := 4231) rfl (4229, 4230) (by decide +kernel)
set_option maxRecDepth 100000 in
theorem mz_ok54 : mz_Rg mz_r54 := mz_chk2_ok mz_gtA mz_cE7 mz_VE7 rfl (pk := 3031) rfl (3029, 3030) (by decide +kernel)
set_option maxRecDepth 100000 in
theorem mz_ok55 : mz_Rg mz_r55 := mz_chk2_ok mz_gtA mz_cE7 mz_VE7 rfl (pk := 5001) rfl (4239, 5000) (by decide +kernel)
set_option maxRecDepth 100000 in
theorem mz_ok56 : mz_Rg mz_r56 := mz_chk2_ok mz_gtA mz_cE8 mz_VE8 rfl (pk := 3042) rfl (3040, 3041) (by decide +kernel)
set_option maxRecDepth 100000 in
theorem mz_ok57 : mz_Rg mz_r57 := mz_chk2_ok mz_gtA mz_cE8 mz_VE8 rfl (pk := 2183) rfl (2181, 2182) (by decide +kernel)
set_option maxRecDepth 100000 in
theorem mz_ok58 : mz_Rg mz_r58 := mz_chk2_ok mz_gtA mz_cE8 mz_VE8 rfl (pk := 2187) rfl (2186, 0) (by decide +kernel)
set_option maxRecDepth 100000 in
theorem mz_ok59 : mz_Rg mz_r59 := mz_chk2_ok mz_gtA mz_cE8 mz_VE8 rfl (pk := 3143) rfl (3141, 3142) (by decide +kernel)
set_option maxRecDepth 100000 in
theorem mz_ok60 : mz_Rg mz_r60 := mz_chk2_ok mz_gtA mz_cE9 mz_VE9 rfl (pk := 4138) rfl (4136, 4137) (by decide +kernel)
set_option maxRecDepth 100000 in
theorem mz_ok61 : mz_Rg mz_r61 := mz_chk2_ok mz_gtA mz_cE9 mz_VE9 rfl (pk := 4166) rfl (4164, 4165) (by decide +kernel)
set_option maxRecDepth 100000 in
theorem mz_ok62 : mz_Rg mz_r62 := mz_chk2_ok mz_gtA mz_cE9 mz_VE9 rfl (pk := 4143) rfl (4142, 14) (by decide +kernel)
set_option maxRecDepth 100000 in
theorem mz_ok63 : mz_Rg mz_r63 := mz_chk2_ok mz_gtA mz_cE9 mz_VE9 rfl (pk := 4158) rfl (4157, 15) (by decide +kernel)
set_option maxRecDepth 100000 in
theorem mz_ok64 : mz_Rg mz_r64 := mz_chk2_ok mz_gtA mz_cE9 mz_VE9 rfl (pk := 4162) rfl (4161, 16) (by decide +kernel)
set_option maxRecDepth 100000 in
theorem mz_ok65 : mz_Rg mz_r65 := mz_chk2_ok mz_gtA mz_cE9 mz_VE9 rfl (pk := 4146) rfl (4145, 0) (by decide +kernel)
set_option maxRecDepth 100000 in
theorem mz_ok66 : mz_Rg mz_r66 := mz_chk2_ok mz_gtA mz_cE9 mz_VE9 rfl (pk := 4150) rfl (4149, 0) (by decide +kernel)
set_option maxRecDepth 100000 in
theorem mz_ok67 : mz_Rg mz_r67 := mz_chk2_ok mz_gtA mz_cE10 mz_VE10 rfl (pk := 2125) rfl (2123, 2124) (by decide +kernel)
set_option maxRecDepth 100000 in
theorem mz_ok68 : mz_Rg mz_r68 := mz_chk2_ok mz_gtA mz_cE10 mz_VE10 rfl (pk := 2155) rfl (2153, 2154) (by decide +kernel)
set_option maxRecDepth 100000 in
theorem mz_ok69 : mz_Rg mz_r69 := mz_chk2_ok mz_gtA mz_cE10 mz_VE10 rfl (pk := 2204) rfl (2202, 2203) (by decide +kernel)
set_option maxRecDepth 100000 in
theorem mz_ok70 : mz_Rg mz_r70 := mz_chk2_ok mz_gtA mz_cE10 mz_VE10 rfl (pk := 2213) rfl (2211, 2212) (by decide +kernel)
set_option maxRecDepth 100000 in
theorem mz_ok71 : mz_Rg mz_r71 := mz_chk2_ok mz_gtA mz_cE10 mz_VE10 rfl (pk := 2217) rfl (2215, 2216) (by decide +kernel)
set_option maxRecDepth 100000 in
theorem mz_ok72 : mz_Rg mz_r72 := mz_chk2_ok mz_gtA mz_cE10 mz_VE10 rfl (pk := 2221) rfl (2219, 2220) (by decide +kernel)
set_option maxRecDepth 100000 in
theorem mz_ok73 : mz_Rg mz_r73 := mz_chk2_ok mz_gtA mz_cE10 mz_VE10 rfl (pk := 2229) rfl (2227, 2228) (by decide +kernel)
set_option maxRecDepth 100000 in
theorem mz_ok74 : mz_Rg mz_r74 := mz_chk2_ok mz_gtA mz_cE10 mz_VE10 rfl (pk := 3002) rfl (3000, 3001) (by decide +kernel)
set_option maxRecDepth 100000 in
theorem mz_ok75 : mz_Rg mz_r75 := mz_chk2_ok mz_gtA mz_cE10 mz_VE10 rfl (pk := 3006) rfl (3004, 3005) (by decide +kernel)
set_option maxRecDepth 100000 in
theorem mz_ok76 : mz_Rg mz_r76 := mz_chk2_ok mz_gtA mz_cE10 mz_VE10 rfl (pk := 3153) rfl (3151, 3152) (by decide +kernel)
set_option maxRecDepth 100000 in
theorem mz_ok77 : mz_Rg mz_r77 := mz_chk2_ok mz_gtA mz_cE10 mz_VE10 rfl (pk := 3157) rfl (3155, 3156) (by decide +kernel)
set_option maxRecDepth 100000 in
theorem mz_ok78 : mz_Rg mz_r78 := mz_chk2_ok mz_gtA mz_cE10 mz_VE10 rfl (pk := 3165) rfl (3163, 3164) (by decide +kernel)
set_option maxRecDepth 100000 in
theorem mz_ok79 : mz_Rg mz_r79 := mz_chk2_ok mz_gtA mz_cE10 mz_VE10 rfl (pk := 3172) rfl (3170, 3171) (by decide +kernel)
set_option maxRecDepth 100000 in
theorem mz_ok80 : mz_Rg mz_r80 := mz_chk2_ok mz_gtA mz_cE10 mz_VE10 rfl (pk := 3190) rfl (3188, 3189) (by decide +kernel)
set_option maxRecDepth 100000 in
theorem mz_ok81 : mz_Rg mz_r81 := mz_chk2_ok mz_gtA mz_cE10 mz_VE10 rfl (pk := 3198) rfl (3196, 3197) (by decide +kernel)
set_option maxRecDepth 100000 in
theorem mz_ok82 : mz_Rg mz_r82 := mz_chk2_ok mz_gtA mz_cE10 mz_VE10 rfl (pk := 3209) rfl (3207, 3208) (by decide +kernel)
set_option maxRecDepth 100000 in
theorem mz_ok83 : mz_Rg mz_r83 := mz_chk2_ok mz_gtA mz_cE10 mz_VE10 rfl (pk := 3213) rfl (3211, 3212) (by decide +kernel)
set_option maxRecDepth 100000 in
theorem mz_ok84 : mz_Rg mz_r84 := mz_chk2_ok mz_gtA mz_cE10 mz_VE10 rfl (pk := 3217) rfl (3215, 3216) (by decide +kernel)
set_option maxRecDepth 100000 in
theorem mz_ok85 : mz_Rg mz_r85 := mz_chk2_ok mz_gtA mz_cE10 mz_VE10 rfl (pk := 3221) rfl (3219, 3220) (by decide +kernel)
set_option maxRecDepth 100000 in
theorem mz_ok86 : mz_Rg mz_r86 := mz_chk2_ok mz_gtA mz_cE10 mz_VE10 rfl (pk := 4013) rfl (4011, 4012) (by decide +kernel)
set_option maxRecDepth 100000 in
theorem mz_ok87 : mz_Rg mz_r87 := mz_chk2_ok mz_gtA mz_cE10 mz_VE10 rfl (pk := 4023) rfl (4021, 4022) (by decide +kernel)
set_option maxRecDepth 100000 in
theorem mz_ok88 : mz_Rg mz_r88 := mz_chk2_ok mz_gtA mz_cE10 mz_VE10 rfl (pk := 4031) rfl (4029, 4030) (by decide +kernel)
set_option maxRecDepth 100000 in
theorem mz_ok89 : mz_Rg mz_r89 := mz_chk2_ok mz_gtA mz_cE10 mz_VE10 rfl (pk := 4043) rfl (4041, 4042) (by decide +kernel)
set_option maxRecDepth 100000 in
theorem mz_ok90 : mz_Rg mz_r90 := mz_chk2_ok mz_gtA mz_cE10 mz_VE10 rfl (pk := 4072) rfl (4070, 4071) (by decide +kernel)
set_option maxRecDepth 100000 in
theorem mz_ok91 : mz_Rg mz_r91 := mz_chk2_ok mz_gtA mz_cE10 mz_VE10 rfl (pk := 4077) rfl (4075, 4076) (by decide +kernel)
set_option maxRecDepth 100000 in
theorem mz_ok92 : mz_Rg mz_r92 := mz_chk2_ok mz_gtA mz_cE10 mz_VE10 rfl (pk := 4093) rfl (4091, 4092) (by decide +kernel)
set_option maxRecDepth 100000 in
theorem mz_ok93 : mz_Rg mz_r93 := mz_chk2_ok mz_gtA mz_cE10 mz_VE10 rfl (pk := 4102) rfl (4100, 4101) (by decide +kernel)
set_option maxRecDepth 100000 in
theorem mz_ok94 : mz_Rg mz_r94 := mz_chk2_ok mz_gtA mz_cE10 mz_VE10 rfl (pk := 4113) rfl (4111, 4112) (by decide +kernel)
set_option maxRecDepth 100000 in
theorem mz_ok95 : mz_Rg mz_r95 := mz_chk2_ok mz_gtA mz_cE10 mz_VE10 rfl (pk := 4126) rfl (4124, 4125) (by decide +kernel)
set_option maxRecDepth 100000 in
theorem mz_ok96 : mz_Rg mz_r96 := mz_chk2_ok mz_gtA mz_cE10 mz_VE10 rfl (pk := 4130) rfl (4128, 4129) (by decide +kernel)
set_option maxRecDepth 100000 in
theorem mz_ok97 : mz_Rg mz_r97 := mz_chk2_ok mz_gtA mz_cE10 mz_VE10 rfl (pk := 4134) rfl (4132, 4133) (by decide +kernel)
set_option maxRecDepth 100000 in
theorem mz_ok98 : mz_Rg mz_r98 := mz_chk2_ok mz_gtA mz_cE10 mz_VE10 rfl (pk := 4171) rfl (4169, 4170) (by decide +kernel)
set_option maxRecDepth 100000 in
theorem mz_ok99 : mz_Rg mz_r99 := mz_chk2_ok mz_gtA mz_cE10 mz_VE10 rfl (pk := 4175) rfl (4173, 4174) (by decide +kernel)
set_option maxRecDepth 100000 in
theorem mz_ok100 : mz_Rg mz_r100 := mz_chk2_ok mz_gtA mz_cE10 mz_VE10 rfl (pk := 4189) rfl (4187, 4188) (by decide +kernel)
set_option maxRecDepth 100000 in
theorem mz_ok101 : mz_Rg mz_r101 := mz_chk2_ok mz_gtA mz_cE10 mz_VE10 rfl (pk := 4205) rfl (4203, 4204) (by decide +kernel)
set_option maxRecDepth 100000 in
theorem mz_ok102 : mz_Rg mz_r102 := mz_chk2_ok mz_gtA mz_cE10 mz_VE10 rfl (pk := 4215) rfl (4213, 4214) (by decide +kernel)
set_option maxRecDepth 100000 in
theorem mz_ok103 : mz_Rg mz_r103 := mz_chk2_ok mz_gtA mz_cE10 mz_VE10 rfl (pk := 4227) rfl (4225, 4226) (by decide +kernel)
set_option maxRecDepth 100000 in
theorem mz_ok104 : mz_Rg mz_r104 := mz_chk2_ok mz_gtA mz_cE10 mz_VE10 rfl (pk := 5017) rfl (5015, 5016) (by decide +kernel)
set_option maxRecDepth 100000 in
theorem mz_ok105 : mz_Rg mz_r105 := mz_chk2_ok mz_gtA mz_cE10 mz_VE10 rfl (pk := 5021) rfl (5019, 5020) (by decide +kernel)
set_option maxRecDepth 100000 in
theorem mz_ok106 : mz_Rg mz_r106 := mz_chk2_ok mz_gtA mz_cE10 mz_VE10 rfl (pk := 5025) rfl (5023, 5024) (by decide +kernel)
set_option maxRecDepth 100000 in
theorem mz_ok107 : mz_Rg mz_r107 := mz_chk2_ok mz_gtA mz_cE10 mz_VE10 rfl (pk := 5029) rfl (5027, 5028) (by decide +kernel)
set_option maxRecDepth 100000 in
theorem mz_ok108 : mz_Rg mz_r108 := mz_chk2_ok mz_gtA mz_cE10 mz_VE10 rfl (pk := 5033) rfl (5031, 5032) (by decide +kernel)
set_option maxRecDepth 100000 in
theorem mz_ok109 : mz_Rg mz_r109 := mz_chk2_ok mz_gtA mz_cE10 mz_VE10 rfl (pk := 2141) rfl (2140, 0) (by decide +kernel)
set_option maxRecDepth 100000 in
theorem mz_ok110 : mz_Rg mz_r110 := mz_chk2_ok mz_gtA mz_cE10 mz_VE10 rfl (pk := 4060) rfl (4059, 11) (by decide +kernel)
set_option maxRecDepth 100000 in
theorem mz_ok111 : mz_Rg mz_r111 := mz_chk2_ok mz_gtA mz_cE10 mz_VE10 rfl (pk := 4120) rfl (4119, 13) (by decide +kernel)
set_option maxRecDepth 100000 in
theorem mz_ok112 : mz_Rg mz_r112 := mz_chk2_ok mz_gtA mz_cE10 mz_VE10 rfl (pk := 4219) rfl (4218, 17) (by decide +kernel)
set_option maxRecDepth 100000 in
theorem mz_ok113 : mz_Rg mz_r113 := mz_chk2_ok mz_gtA mz_cE10 mz_VE10 rfl (pk := 2128) rfl (2127, 0) (by decide +kernel)
set_option maxRecDepth 100000 in
theorem mz_ok114 : mz_Rg mz_r114 := mz_chk2_ok mz_gtA mz_cE10 mz_VE10 rfl (pk := 2131) rfl (2130, 0) (by decide +kernel)
set_option maxRecDepth 100000 in
theorem mz_ok115 : mz_Rg mz_r115 := mz_chk2_ok mz_gtA mz_cE10 mz_VE10 rfl (pk := 2207) rfl (2206, 0) (by decide +kernel)
set_option maxRecDepth 100000 in
theorem mz_ok116 : mz_Rg mz_r116 := mz_chk2_ok mz_gtA mz_cE10 mz_VE10 rfl (pk := 2137) rfl (2136, 0) (by decide +kernel)
set_option maxRecDepth 100000 in
theorem mz_ok117 : mz_Rg mz_r117 := mz_chk2_ok mz_gtA mz_cE10 mz_VE10 rfl (pk := 3168) rfl (3167, 0) (by decide +kernel)
set_option maxRecDepth 100000 in
theorem mz_ok118 : mz_Rg mz_r118 := mz_chk2_ok mz_gtA mz_cE10 mz_VE10 rfl (pk := 4026) rfl (4025, 0) (by decide +kernel)
set_option maxRecDepth 100000 in
theorem mz_ok119 : mz_Rg mz_r119 := mz_chk2_ok mz_gtA mz_cE10 mz_VE10 rfl (pk := 3009) rfl (3008, 0) (by decide +kernel)
set_option maxRecDepth 100000 in
theorem mz_ok120 : mz_Rg mz_r120 := mz_chk2_ok mz_gtA mz_cE10 mz_VE10 rfl (pk := 3012) rfl (3011, 0) (by decide +kernel)
set_option maxRecDepth 100000 in
theorem mz_ok121 : mz_Rg mz_r121 := mz_chk2_ok mz_gtA mz_cE10 mz_VE10 rfl (pk := 2134) rfl (2133, 0) (by decide +kernel)
set_option maxRecDepth 100000 in
theorem mz_ok122 : mz_Rg mz_r122 := mz_chk2_ok mz_gtA mz_cE10 mz_VE10 rfl (pk := 2190) rfl (2189, 0) (by decide +kernel)
set_option maxRecDepth 100000 in
theorem mz_ok123 : mz_Rg mz_r123 := mz_chk2_ok mz_gtA mz_cE10 mz_VE10 rfl (pk := 2179) rfl (2178, 0) (by decide +kernel)
set_option maxRecDepth 100000 in
theorem mz_ok124 : mz_Rg mz_r124 := mz_chk2_ok mz_gtA mz_cE10 mz_VE10 rfl (pk := 4097) rfl (4096, 0) (by decide +kernel)
set_option maxRecDepth 100000 in
theorem mz_ok125 : mz_Rg mz_r125 := mz_chk2_ok mz_gtA mz_cE10 mz_VE10 rfl (pk := 4116) rfl (4115, 0) (by decide +kernel)
set_option maxRecDepth 100000 in
theorem mz_ok126 : mz_Rg mz_r126 := mz_chk2_ok mz_gtA mz_cE10 mz_VE10 rfl (pk := 3146) rfl (3145, 0) (by decide +kernel)
set_option maxRecDepth 100000 in
theorem mz_ok127 : mz_Rg mz_r127 := mz_chk2_ok mz_gtA mz_cE11 mz_VE11 rfl (pk := 5135) rfl (5134, 18) (by decide +kernel)
set_option maxRecDepth 100000 in
theorem mz_ok128 : mz_Rg mz_r128 := mz_chk2_ok mz_gtA mz_cE11 mz_VE11 rfl (pk := 5128) rfl (5127, 0) (by decide +kernel)
set_option maxRecDepth 100000 in
theorem mz_ok129 : mz_Rg mz_r129 := mz_chk2_ok mz_gtA mz_cE11 mz_VE11 rfl (pk := 5163) rfl (5162, 0) (by decide +kernel)
set_option maxRecDepth 100000 in
theorem mz_ok130 : mz_Rg mz_r130 := mz_chk2_ok mz_gtA mz_cE11 mz_VE11 rfl (pk := 5185) rfl (5184, 0) (by decide +kernel)
set_option maxRecDepth 100000 in
theorem mz_ok131 : mz_Rg mz_r131 := mz_chk2_ok mz_gtA mz_cE11 mz_VE11 rfl (pk := 5131) rfl (5130, 0) (by decide +kernel)
set_option maxRecDepth 100000 in
theorem mz_ok132 : mz_Rg mz_r132 := mz_chk2_ok mz_gtA mz_cE11 mz_VE11 rfl (pk := 5148) rfl (5147, 20) (by decide +kernel)
set_option maxRecDepth 100000 in
theorem mz_ok133 : mz_Rg mz_r133 := mz_chk2_ok mz_gtA mz_cE11 mz_VE11 rfl (pk := 5152) rfl (5151, 21) (by decide +kernel)
set_option maxRecDepth 100000 in
theorem mz_ok134 : mz_Rg mz_r134 := mz_chk2_ok mz_gtA mz_cE11 mz_VE11 rfl (pk := 5192) rfl (5191, 0) (by decide +kernel)
set_option maxRecDepth 100000 in
theorem mz_ok135 : mz_Rg mz_r135 := mz_chk2_ok mz_gtA mz_cE11 mz_VE11 rfl (pk := 5125) rfl (5124, 0) (by decide +kernel)
set_option maxRecDepth 100000 in
theorem mz_ok136 : mz_Rg mz_r136 := mz_chk2_ok mz_gtA mz_cE11 mz_VE11 rfl (pk := 5140) rfl (5139, 19) (by decide +kernel)
set_option maxRecDepth 100000 in
theorem mz_ok137 : mz_Rg mz_r137 := mz_chk2_ok mz_gtA mz_cE11 mz_VE11 rfl (pk := 5122) rfl (5120, 5121) (by decide +kernel)
set_option maxRecDepth 100000 in
theorem mz_ok138 : mz_Rg mz_r138 := mz_chk2_ok mz_gtA mz_cE11 mz_VE11 rfl (pk := 5144) rfl (5142, 5143) (by decide +kernel)
set_option maxRecDepth 100000 in
theorem mz_ok139 : mz_Rg mz_r139 := mz_chk2_ok mz_gtA mz_cE11 mz_VE11 rfl (pk := 5189) rfl (5187, 5188) (by decide +kernel)
set_option maxRecDepth 100000 in
theorem mz_ok140 : mz_Rg mz_r140 := mz_chk2_ok mz_gtA mz_cE11 mz_VE11 rfl (pk := 5196) rfl (5194, 5195) (by decide +kernel)
set_option maxRecDepth 100000 in
theorem mz_ok141 : mz_Rg mz_r141 := mz_chk2_ok mz_gtA mz_cE11 mz_VE11 rfl (pk := 5200) rfl (5198, 5199) (by decide +kernel)
set_option maxRecDepth 100000 in
theorem mz_ok142 : mz_Rg mz_r142 := mz_chk2_ok mz_gtA mz_cE11 mz_VE11 rfl (pk := 5207) rfl (5206, 0) (by decide +kernel)
set_option maxRecDepth 100000 in
theorem mz_ok143 : mz_Rg mz_r143 := mz_chk2_ok mz_gtA mz_cE11 mz_VE11 rfl (pk := 5204) rfl (5202, 5203) (by decide +kernel)
set_option maxRecDepth 100000 in
theorem mz_ok144 : mz_Rg mz_r144 := mz_chk2_ok mz_gtA mz_cE11 mz_VE11 rfl (pk := 5215) rfl (5214, 28) (by decide +kernel)
set_option maxRecDepth 100000 in
theorem mz_ok145 : mz_Rg mz_r145 := mz_chk2_ok mz_gtA mz_cE11 mz_VE11 rfl (pk := 5156) rfl (5155, 22) (by decide +kernel)
set_option maxRecDepth 100000 in
theorem mz_ok146 : mz_Rg mz_r146 := mz_chk2_ok mz_gtA mz_cE11 mz_VE11 rfl (pk := 6040) rfl (6039, 40) (by decide +kernel)
set_option maxRecDepth 100000 in
theorem mz_ok147 : mz_Rg mz_r147 := mz_chk2_ok mz_gtA mz_cE11 mz_VE11 rfl (pk := 5160) rfl (5159, 23) (by decide +kernel)
set_option maxRecDepth 100000 in
theorem mz_ok148 : mz_Rg mz_r148 := mz_chk2_ok mz_gtA mz_cE11 mz_VE11 rfl (pk := 5219) rfl (5218, 29) (by decide +kernel)
set_option maxRecDepth 100000 in
theorem mz_ok149 : mz_Rg mz_r149 := mz_chk2_ok mz_gtA mz_cE11 mz_VE11 rfl (pk := 5171) rfl (5170, 25) (by decide +kernel)
set_option maxRecDepth 100000 in
theorem mz_ok150 : mz_Rg mz_r150 := mz_chk2_ok mz_gtA mz_cE11 mz_VE11 rfl (pk := 5167) rfl (5166, 24) (by decide +kernel)
set_option maxRecDepth 100000 in
theorem mz_ok151 : mz_Rg mz_r151 := mz_chk2_ok mz_gtA mz_cE11 mz_VE11 rfl (pk := 6063) rfl (6062, 43) (by decide +kernel)
set_option maxRecDepth 100000 in
theorem mz_ok152 : mz_Rg mz_r152 := mz_chk2_ok mz_gtA mz_cE11 mz_VE11 rfl (pk := 6059) rfl (6058, 42) (by decide +kernel)
set_option maxRecDepth 100000 in
theorem mz_ok153 : mz_Rg mz_r153 := mz_chk2_ok mz_gtA mz_cE11 mz_VE11 rfl (pk := 6071) rfl (6070, 44) (by decide +kernel)
set_option maxRecDepth 100000 in
theorem mz_ok154 : mz_Rg mz_r154 := mz_chk2_ok mz_gtA mz_cE11 mz_VE11 rfl (pk := 6079) rfl (6078, 45) (by decide +kernel)
set_option maxRecDepth 100000 in
theorem mz_ok155 : mz_Rg mz_r155 := mz_chk2_ok mz_gtA mz_cE11 mz_VE11 rfl (pk := 6087) rfl (6086, 46) (by decide +kernel)
set_option maxRecDepth 100000 in
theorem mz_ok156 : mz_Rg mz_r156 := mz_chk2_ok mz_gtA mz_cE11 mz_VE11 rfl (pk := 6055) rfl (6054, 41) (by decide +kernel)
set_option maxRecDepth 100000 in
theorem mz_ok157 : mz_Rg mz_r157 := mz_chk2_ok mz_gtA mz_cE11 mz_VE11 rfl (pk := 5211) rfl (5209, 5210) (by decide +kernel)
set_option maxRecDepth 100000 in
theorem mz_ok158 : mz_Rg mz_r158 := mz_chk2_ok mz_gtA mz_cE11 mz_VE11 rfl (pk := 5223) rfl (5221, 5222) (by decide +kernel)
set_option maxRecDepth 100000 in
theorem mz_ok159 : mz_Rg mz_r159 := mz_chk2_ok mz_gtA mz_cE11 mz_VE11 rfl (pk := 6016) rfl (6015, 36) (by decide +kernel)
set_option maxRecDepth 100000 in
theorem mz_ok160 : mz_Rg mz_r160 := mz_chk2_ok mz_gtA mz_cE11 mz_VE11 rfl (pk := 6020) rfl (6019, 37) (by decide +kernel)
set_option maxRecDepth 100000 in
theorem mz_ok161 : mz_Rg mz_r161 := mz_chk2_ok mz_gtA mz_cE11 mz_VE11 rfl (pk := 6024) rfl (6023, 38) (by decide +kernel)
set_option maxRecDepth 100000 in
theorem mz_ok162 : mz_Rg mz_r162 := mz_chk2_ok mz_gtA mz_cE11 mz_VE11 rfl (pk := 5232) rfl (5231, 30) (by decide +kernel)
set_option maxRecDepth 100000 in
theorem mz_ok163 : mz_Rg mz_r163 := mz_chk2_ok mz_gtA mz_cE11 mz_VE11 rfl (pk := 5236) rfl (5235, 31) (by decide +kernel)
set_option maxRecDepth 100000 in
theorem mz_ok164 : mz_Rg mz_r164 := mz_chk2_ok mz_gtA mz_cE11 mz_VE11 rfl (pk := 6000) rfl (5239, 32) (by decide +kernel)
set_option maxRecDepth 100000 in
theorem mz_ok165 : mz_Rg mz_r165 := mz_chk2_ok mz_gtA mz_cE11 mz_VE11 rfl (pk := 6004) rfl (6003, 33) (by decide +kernel)
set_option maxRecDepth 100000 in
theorem mz_ok166 : mz_Rg mz_r166 := mz_chk2_ok mz_gtA mz_cE11 mz_VE11 rfl (pk := 6008) rfl (6007, 34) (by decide +kernel)
set_option maxRecDepth 100000 in
theorem mz_ok167 : mz_Rg mz_r167 := mz_chk2_ok mz_gtA mz_cE11 mz_VE11 rfl (pk := 6028) rfl (6027, 39) (by decide +kernel)
set_option maxRecDepth 100000 in
theorem mz_ok168 : mz_Rg mz_r168 := mz_chk2_ok mz_gtA mz_cE11 mz_VE11 rfl (pk := 6012) rfl (6011, 35) (by decide +kernel)
set_option maxRecDepth 100000 in
theorem mz_ok169 : mz_Rg mz_r169 := mz_chk2_ok mz_gtA mz_cE11 mz_VE11 rfl (pk := 5175) rfl (5174, 26) (by decide +kernel)
set_option maxRecDepth 100000 in
theorem mz_ok170 : mz_Rg mz_r170 := mz_chk2_ok mz_gtA mz_cE11 mz_VE11 rfl (pk := 5228) rfl (5226, 5227) (by decide +kernel)
set_option maxRecDepth 100000 in
theorem mz_ok171 : mz_Rg mz_r171 := mz_chk2_ok mz_gtA mz_cE11 mz_VE11 rfl (pk := 6032) rfl (6030, 6031) (by decide +kernel)
set_option maxRecDepth 100000 in
theorem mz_ok172 : mz_Rg mz_r172 := mz_chk2_ok mz_gtA mz_cE11 mz_VE11 rfl (pk := 5182) rfl (5181, 0) (by decide +kernel)
set_option maxRecDepth 100000 in
theorem mz_ok173 : mz_Rg mz_r173 := mz_chk2_ok mz_gtA mz_cE11 mz_VE11 rfl (pk := 5179) rfl (5178, 27) (by decide +kernel)
set_option maxRecDepth 100000 in
theorem mz_ok174 : mz_Rg mz_r174 := mz_chk2_ok mz_gtA mz_cE11 mz_VE11 rfl (pk := 6036) rfl (6034, 6035) (by decide +kernel)
set_option maxRecDepth 100000 in
theorem mz_ok175 : mz_Rg mz_r175 := mz_chk2_ok mz_gtA mz_cE11 mz_VE11 rfl (pk := 6047) rfl (6046, 0) (by decide +kernel)
set_option maxRecDepth 100000 in
theorem mz_ok176 : mz_Rg mz_r176 := mz_chk2_ok mz_gtA mz_cE11 mz_VE11 rfl (pk := 6044) rfl (6042, 6043) (by decide +kernel)
set_option maxRecDepth 100000 in
theorem mz_ok177 : mz_Rg mz_r177 := mz_chk2_ok mz_gtA mz_cE11 mz_VE11 rfl (pk := 6051) rfl (6049, 6050) (by decide +kernel)
set_option maxRecDepth 100000 in
theorem mz_ok178 : mz_Rg mz_r178 := mz_chk2_ok mz_gtA mz_cE11 mz_VE11 rfl (pk := 6067) rfl (6065, 6066) (by decide +kernel)
set_option maxRecDepth 100000 in
theorem mz_ok179 : mz_Rg mz_r179 := mz_chk2_ok mz_gtA mz_cE11 mz_VE11 rfl (pk := 6075) rfl (6073, 6074) (by decide +kernel)
set_option maxRecDepth 100000 in
theorem mz_ok180 : mz_Rg mz_r180 := mz_chk2_ok mz_gtA mz_cE11 mz_VE11 rfl (pk := 6083) rfl (6081, 6082) (by decide +kernel)
set_option maxRecDepth 100000 in
theorem mz_ok181 : mz_Rg mz_r181 := mz_chk2_ok mz_gtA mz_cE11 mz_VE11 rfl (pk := 6091) rfl (6089, 6090) (by decide +kernel)
set_option maxRecDepth 100000 in
theorem mz_ok182 : mz_Rg mz_r182 := mz_chk2_ok mz_gtA mz_cE11 mz_VE11 rfl (pk := 6095) rfl (6093, 6094) (by decide +kernel)
set_option maxRecDepth 100000 in
theorem mz_ok183 : mz_Rg mz_r183 := mz_chk2_ok mz_gtA mz_cE11 mz_VE11 rfl (pk := 6119) rfl (6118, 50) (by decide +kernel)
set_option maxRecDepth 100000 in
theorem mz_ok184 : mz_Rg mz_r184 := mz_chk2_ok mz_gtA mz_cE11 mz_VE11 rfl (pk := 6127) rfl (6126, 52) (by decide +kernel)
set_option maxRecDepth 100000 in
theorem mz_ok185 : mz_Rg mz_r185 := mz_chk2_ok mz_gtA mz_cE11 mz_VE11 rfl (pk := 6115) rfl (6114, 49) (by decide +kernel)
set_option maxRecDepth 100000 in
theorem mz_ok186 : mz_Rg mz_r186 := mz_chk2_ok mz_gtA mz_cE11 mz_VE11 rfl (pk := 6107) rfl (6106, 48) (by decide +kernel)
set_option maxRecDepth 100000 in
theorem mz_ok187 : mz_Rg mz_r187 := mz_chk2_ok mz_gtA mz_cE11 mz_VE11 rfl (pk := 6123) rfl (6122, 51) (by decide +kernel)
set_option maxRecDepth 100000 in
theorem mz_ok188 : mz_Rg mz_r188 := mz_chk2_ok mz_gtA mz_cE11 mz_VE11 rfl (pk := 6134) rfl (6133, 0) (by decide +kernel)
set_option maxRecDepth 100000 in
theorem mz_ok189 : mz_Rg mz_r189 := mz_chk2_ok mz_gtA mz_cE11 mz_VE11 rfl (pk := 6103) rfl (6102, 47) (by decide +kernel)
set_option maxRecDepth 100000 in
theorem mz_ok190 : mz_Rg mz_r190 := mz_chk2_ok mz_gtA mz_cE11 mz_VE11 rfl (pk := 6099) rfl (6097, 6098) (by decide +kernel)
set_option maxRecDepth 100000 in
theorem mz_ok191 : mz_Rg mz_r191 := mz_chk2_ok mz_gtA mz_cE11 mz_VE11 rfl (pk := 6111) rfl (6109, 6110) (by decide +kernel)
set_option maxRecDepth 100000 in
theorem mz_ok192 : mz_Rg mz_r192 := mz_chk2_ok mz_gtA mz_cE11 mz_VE11 rfl (pk := 6142) rfl (6141, 54) (by decide +kernel)
set_option maxRecDepth 100000 in
theorem mz_ok193 : mz_Rg mz_r193 := mz_chk2_ok mz_gtA mz_cE11 mz_VE11 rfl (pk := 6138) rfl (6137, 53) (by decide +kernel)
set_option maxRecDepth 100000 in
theorem mz_ok194 : mz_Rg mz_r194 := mz_chk2_ok mz_gtA mz_cE11 mz_VE11 rfl (pk := 6131) rfl (6129, 6130) (by decide +kernel)
set_option maxRecDepth 100000 in
theorem mz_ok195 : mz_Rg mz_r195 := mz_chk2_ok mz_gtA mz_cE11 mz_VE11 rfl (pk := 6154) rfl (6153, 56) (by decide +kernel)
set_option maxRecDepth 100000 in
theorem mz_ok196 : mz_Rg mz_r196 := mz_chk2_ok mz_gtA mz_cE11 mz_VE11 rfl (pk := 6150) rfl (6149, 55) (by decide +kernel)
set_option maxRecDepth 100000 in
theorem mz_ok197 : mz_Rg mz_r197 := mz_chk2_ok mz_gtA mz_cE11 mz_VE11 rfl (pk := 6146) rfl (6144, 6145) (by decide +kernel)
set_option maxRecDepth 100000 in
theorem mz_ok198 : mz_Rg mz_r198 := mz_chk2_ok mz_gtA mz_cE11 mz_VE11 rfl (pk := 6162) rfl (6161, 57) (by decide +kernel)
set_option maxRecDepth 100000 in
theorem mz_ok199 : mz_Rg mz_r199 := mz_chk2_ok mz_gtA mz_cE11 mz_VE11 rfl (pk := 6158) rfl (6156, 6157) (by decide +kernel)
set_option maxRecDepth 100000 in
theorem mz_ok200 : mz_Rg mz_r200 := mz_chk2_ok mz_gtA mz_cE11 mz_VE11 rfl (pk := 6166) rfl (6164, 6165) (by decide +kernel)
set_option maxRecDepth 100000 in
theorem mz_ok201 : mz_Rg mz_r201 := mz_chk2_ok mz_gtA mz_cE11 mz_VE11 rfl (pk := 6170) rfl (6168, 6169) (by decide +kernel)
set_option maxRecDepth 100000 in
theorem mz_ok202 : mz_Rg mz_r202 := mz_chk2_ok mz_gtA mz_cE11 mz_VE11 rfl (pk := 6174) rfl (6172, 6173) (by decide +kernel)
set_option maxRecDepth 100000 in
theorem mz_ok203 : mz_Rg mz_r203 := mz_chk2_ok mz_gtA mz_cE11 mz_VE11 rfl (pk := 6182) rfl (6181, 58) (by decide +kernel)
set_option maxRecDepth 100000 in
theorem mz_ok204 : mz_Rg mz_r204 := mz_chk2_ok mz_gtA mz_cE11 mz_VE11 rfl (pk := 6178) rfl (6176, 6177) (by decide +kernel)
set_option maxRecDepth 100000 in
theorem mz_ok205 : mz_Rg mz_r205 := mz_chk2_ok mz_gtA mz_cE11 mz_VE11 rfl (pk := 6190) rfl (6189, 59) (by decide +kernel)
set_option maxRecDepth 100000 in
theorem mz_ok206 : mz_Rg mz_r206 := mz_chk2_ok mz_gtA mz_cE11 mz_VE11 rfl (pk := 6186) rfl (6184, 6185) (by decide +kernel)
set_option maxRecDepth 100000 in
theorem mz_ok207 : mz_Rg mz_r207 := mz_chk2_ok mz_gtA mz_cE11 mz_VE11 rfl (pk := 6195) rfl (6193, 6194) (by decide +kernel)
set_option maxRecDepth 100000 in
theorem mz_ok208 : mz_Rg mz_r208 := mz_chk2_ok mz_gtA mz_cE11 mz_VE11 rfl (pk := 6199) rfl (6197, 6198) (by decide +kernel)
set_option maxRecDepth 100000 in
theorem mz_ok209 : mz_Rg mz_r209 := mz_chk2_ok mz_gtA mz_cE11 mz_VE11 rfl (pk := 6215) rfl (6214, 62) (by decide +kernel)
set_option maxRecDepth 100000 in
theorem mz_ok210 : mz_Rg mz_r210 := mz_chk2_ok mz_gtA mz_cE11 mz_VE11 rfl (pk := 6222) rfl (6221, 0) (by decide +kernel)
set_option maxRecDepth 100000 in
theorem mz_ok211 : mz_Rg mz_r211 := mz_chk2_ok mz_gtA mz_cE11 mz_VE11 rfl (pk := 6207) rfl (6206, 60) (by decide +kernel)
set_option maxRecDepth 100000 in
theorem mz_ok212 : mz_Rg mz_r212 := mz_chk2_ok mz_gtA mz_cE11 mz_VE11 rfl (pk := 6219) rfl (6218, 63) (by decide +kernel)
set_option maxRecDepth 100000 in
theorem mz_ok213 : mz_Rg mz_r213 := mz_chk2_ok mz_gtA mz_cE11 mz_VE11 rfl (pk := 6211) rfl (6210, 61) (by decide +kernel)
set_option maxRecDepth 100000 in
theorem mz_ok214 : mz_Rg mz_r214 := mz_chk2_ok mz_gtA mz_cE11 mz_VE11 rfl (pk := 6226) rfl (6225, 64) (by decide +kernel)
set_option maxRecDepth 100000 in
theorem mz_ok215 : mz_Rg mz_r215 := mz_chk2_ok mz_gtA mz_cE11 mz_VE11 rfl (pk := 6230) rfl (6229, 65) (by decide +kernel)
set_option maxRecDepth 100000 in
theorem mz_ok216 : mz_Rg mz_r216 := mz_chk2_ok mz_gtA mz_cE11 mz_VE11 rfl (pk := 6234) rfl (6233, 66) (by decide +kernel)
set_option maxRecDepth 100000 in
theorem mz_ok217 : mz_Rg mz_r217 := mz_chk2_ok mz_gtA mz_cE11 mz_VE11 rfl (pk := 6203) rfl (6201, 6202) (by decide +kernel)
set_option maxRecDepth 100000 in
theorem mz_ok218 : mz_Rg mz_r218 := mz_chk2_ok mz_gtA mz_cE11 mz_VE11 rfl (pk := 6238) rfl (6236, 6237) (by decide +kernel)
set_option maxRecDepth 100000 in
theorem mz_ok219 : mz_Rg mz_r219 := mz_chk2_ok mz_gtA mz_cE11 mz_VE11 rfl (pk := 7005) rfl (7004, 0) (by decide +kernel)
set_option maxRecDepth 100000 in
theorem mz_ok220 : mz_Rg mz_r220 := mz_chk2_ok mz_gtA mz_cE11 mz_VE11 rfl (pk := 7002) rfl (7000, 7001) (by decide +kernel)
set_option maxRecDepth 100000 in
theorem mz_ok221 : mz_Rg mz_r221 := mz_chk2_ok mz_gtA mz_cE11 mz_VE11 rfl (pk := 7009) rfl (7007, 7008) (by decide +kernel)
set_option maxRecDepth 100000 in
theorem mz_ok222 : mz_Rg mz_r222 := mz_chk2_ok mz_gtA mz_cE11 mz_VE11 rfl (pk := 7013) rfl (7011, 7012) (by decide +kernel)
set_option maxRecDepth 100000 in
theorem mz_ok223 : mz_Rg mz_r223 := mz_chk2_ok mz_gtA mz_cE11 mz_VE11 rfl (pk := 7017) rfl (7015, 7016) (by decide +kernel)
set_option maxRecDepth 100000 in
theorem mz_ok224 : mz_Rg mz_r224 := mz_chk2_ok mz_gtA mz_cE11 mz_VE11 rfl (pk := 7021) rfl (7019, 7020) (by decide +kernel)
set_option maxRecDepth 100000 in
theorem mz_ok225 : mz_Rg mz_r225 := mz_chk2_ok mz_gtA mz_cE11 mz_VE11 rfl (pk := 7025) rfl (7023, 7024) (by decide +kernel)
set_option maxRecDepth 100000 in
theorem mz_ok226 : mz_Rg mz_r226 := mz_chk2_ok mz_gtA mz_cE11 mz_VE11 rfl (pk := 7029) rfl (7027, 7028) (by decide +kernel)
set_option maxRecDepth 100000 in
theorem mz_ok227 : mz_Rg mz_r227 := mz_chk2_ok mz_gtA mz_cE11 mz_VE11 rfl (pk := 7033) rfl (7031, 7032) (by decide +kernel)
set_option maxRecDepth 100000 in
theorem mz_ok228 : mz_Rg mz_r228 := mz_chk2_ok mz_gtA mz_cE11 mz_VE11 rfl (pk := 7037) rfl (7035, 7036) (by decide +kernel)
set_option maxRecDepth 100000 in
theorem mz_ok229 : mz_Rg mz_r229 := mz_chk2_ok mz_gtA mz_cE11 mz_VE11 rfl (pk := 7041) rfl (7039, 7040) (by decide +kernel)
set_option maxRecDepth 100000 in
theorem mz_ok230 : mz_Rg mz_r230 := mz_chk2_ok mz_gtA mz_cE12 mz_VE12 rfl (pk := 3054) rfl (3052, 3053) (by decide +kernel)
set_option maxRecDepth 100000 in
theorem mz_ok231 : mz_Rg mz_r231 := mz_chk2_ok mz_gtA mz_cE12 mz_VE12 rfl (pk := 3058) rfl (3056, 3057) (by decide +kernel)
set_option maxRecDepth 100000 in
theorem mz_ok232 : mz_Rg mz_r232 := mz_chk2_ok mz_gtA mz_cE12 mz_VE12 rfl (pk := 3062) rfl (3060, 3061) (by decide +kernel)
set_option maxRecDepth 100000 in
theorem mz_ok233 : mz_Rg mz_r233 := mz_chk2_ok mz_gtA mz_cE12 mz_VE12 rfl (pk := 3068) rfl (3066, 3067) (by decide +kernel)
set_option maxRecDepth 100000 in
theorem mz_ok234 : mz_Rg mz_r234 := mz_chk2_ok mz_gtA mz_cE12 mz_VE12 rfl (pk := 3072) rfl (3070, 3071) (by decide +kernel)
set_option maxRecDepth 100000 in
theorem mz_ok235 : mz_Rg mz_r235 := mz_chk2_ok mz_gtA mz_cE13 mz_VE13 rfl (pk := 3075) rfl (3074, 0) (by decide +kernel)
set_option maxRecDepth 100000 in
theorem mz_ok236 : mz_Rg mz_r236 := mz_chk2_ok mz_gtA mz_cE13 mz_VE13 rfl (pk := 3078) rfl (3077, 0) (by decide +kernel)
set_option maxRecDepth 100000 in
theorem mz_ok237 : mz_Rg mz_r237 := mz_chk2_ok mz_gtA mz_cE13 mz_VE13 rfl (pk := 3083) rfl (3082, 0) (by decide +kernel)
set_option maxRecDepth 100000 in
theorem mz_okT_0 : ∀ r ∈ mz_T_0, mz_Rg r := List.forall_mem_cons.mpr ⟨mz_ok0, List.forall_mem_cons.mpr ⟨mz_ok1, List.forall_mem_cons.mpr ⟨mz_ok2, List.forall_mem_cons.mpr ⟨mz_ok3, List.forall_mem_cons.mpr ⟨mz_ok4, List.forall_mem_cons.mpr ⟨mz_ok5, List.forall_mem_cons.mpr ⟨mz_ok6, List.forall_mem_cons.mpr ⟨mz_ok7, List.forall_mem_cons.mpr ⟨mz_ok8, List.forall_mem_cons.mpr ⟨mz_ok9, List.forall_mem_cons.mpr ⟨mz_ok10, List.forall_mem_cons.mpr ⟨mz_ok11, List.forall_mem_cons.mpr ⟨mz_ok12, List.forall_mem_cons.mpr ⟨mz_ok13, List.forall_mem_cons.mpr ⟨mz_ok14, List.forall_mem_cons.mpr ⟨mz_ok15, List.forall_mem_cons.mpr ⟨mz_ok16, List.forall_mem_cons.mpr ⟨mz_ok17, List.forall_mem_cons.mpr ⟨mz_ok18, List.forall_mem_cons.mpr ⟨mz_ok19, List.forall_mem_cons.mpr ⟨mz_ok20, List.forall_mem_cons.mpr ⟨mz_ok21, List.forall_mem_cons.mpr ⟨mz_ok22, List.forall_mem_cons.mpr ⟨mz_ok23, List.forall_mem_cons.mpr ⟨mz_ok24, List.forall_mem_cons.mpr ⟨mz_ok25, List.forall_mem_cons.mpr ⟨mz_ok26, List.forall_mem_cons.mpr ⟨mz_ok27, List.forall_mem_cons.mpr ⟨mz_ok28, List.forall_mem_cons.mpr ⟨mz_ok29, List.forall_mem_cons.mpr ⟨mz_ok30, List.forall_mem_cons.mpr ⟨mz_ok31, List.forall_mem_cons.mpr ⟨mz_ok32, List.forall_mem_cons.mpr ⟨mz_ok33, List.forall_mem_cons.mpr ⟨mz_ok34, List.forall_mem_cons.mpr ⟨mz_ok35, List.forall_mem_cons.mpr ⟨mz_ok36, List.forall_mem_cons.mpr ⟨mz_ok37, List.forall_mem_cons.mpr ⟨mz_ok38, List.forall_mem_cons.mpr ⟨mz_ok39, fun _ h => absurd h List.not_mem_nil⟩⟩⟩⟩⟩⟩⟩⟩⟩⟩⟩⟩⟩⟩⟩⟩⟩⟩⟩⟩⟩⟩⟩⟩⟩⟩⟩⟩⟩⟩⟩⟩⟩⟩⟩⟩⟩⟩⟩⟩
set_option maxRecDepth 100000 in
theorem mz_okT_1 : ∀ r ∈ mz_T_1, mz_Rg r := List.forall_mem_cons.mpr ⟨mz_ok40, List.forall_mem_cons.mpr ⟨mz_ok41, List.forall_mem_cons.mpr ⟨mz_ok42, List.forall_mem_cons.mpr ⟨mz_ok43, List.forall_mem_cons.mpr ⟨mz_ok44, List.forall_mem_cons.mpr ⟨mz_ok45, List.forall_mem_cons.mpr ⟨mz_ok46, List.forall_mem_cons.mpr ⟨mz_ok47, List.forall_mem_cons.mpr ⟨mz_ok48, List.forall_mem_cons.mpr ⟨mz_ok49, List.forall_mem_cons.mpr ⟨mz_ok50, List.forall_mem_cons.mpr ⟨mz_ok51, List.forall_mem_cons.mpr ⟨mz_ok52, List.forall_mem_cons.mpr ⟨mz_ok53, List.forall_mem_cons.mpr ⟨mz_ok54, List.forall_mem_cons.mpr ⟨mz_ok55, List.forall_mem_cons.mpr ⟨mz_ok56, List.forall_mem_cons.mpr ⟨mz_ok57, List.forall_mem_cons.mpr ⟨mz_ok58, List.forall_mem_cons.mpr ⟨mz_ok59, List.forall_mem_cons.mpr ⟨mz_ok60, List.forall_mem_cons.mpr ⟨mz_ok61, List.forall_mem_cons.mpr ⟨mz_ok62, List.forall_mem_cons.mpr ⟨mz_ok63, List.forall_mem_cons.mpr ⟨mz_ok64, List.forall_mem_cons.mpr ⟨mz_ok65, List.forall_mem_cons.mpr ⟨mz_ok66, List.forall_mem_cons.mpr ⟨mz_ok67, List.forall_mem_cons.mpr ⟨mz_ok68, List.forall_mem_cons.mpr ⟨mz_ok69, List.forall_mem_cons.mpr ⟨mz_ok70, List.forall_mem_cons.mpr ⟨mz_ok71, List.forall_mem_cons.mpr ⟨mz_ok72, List.forall_mem_cons.mpr ⟨mz_ok73, List.forall_mem_cons.mpr ⟨mz_ok74, List.forall_mem_cons.mpr ⟨mz_ok75, List.forall_mem_cons.mpr ⟨mz_ok76, List.forall_mem_cons.mpr ⟨mz_ok77, List.forall_mem_cons.mpr ⟨mz_ok78, List.forall_mem_cons.mpr ⟨mz_ok79, fun _ h => absurd h List.not_mem_nil⟩⟩⟩⟩⟩⟩⟩⟩⟩⟩⟩⟩⟩⟩⟩⟩⟩⟩⟩⟩⟩⟩⟩⟩⟩⟩⟩⟩⟩⟩⟩⟩⟩⟩⟩⟩⟩⟩⟩⟩
set_option maxRecDepth 100000 in
theorem mz_okT_2 : ∀ r ∈ mz_T_2, mz_Rg r := List.forall_mem_cons.mpr ⟨mz_ok80, List.forall_mem_cons.mpr ⟨mz_ok81, List.forall_mem_cons.mpr ⟨mz_ok82, List.forall_mem_cons.mpr ⟨mz_ok83, List.forall_mem_cons.mpr ⟨mz_ok84, List.forall_mem_cons.mpr ⟨mz_ok85, List.forall_mem_cons.mpr ⟨mz_ok86, List.forall_mem_cons.mpr ⟨mz_ok87, List.forall_mem_cons.mpr ⟨mz_ok88, List.forall_mem_cons.mpr ⟨mz_ok89, List.forall_mem_cons.mpr ⟨mz_ok90, List.forall_mem_cons.mpr ⟨mz_ok91, List.forall_mem_cons.mpr ⟨mz_ok92, List.forall_mem_cons.mpr ⟨mz_ok93, List.forall_mem_cons.mpr ⟨mz_ok94, List.forall_mem_cons.mpr ⟨mz_ok95, List.forall_mem_cons.mpr ⟨mz_ok96, List.forall_mem_cons.mpr ⟨mz_ok97, List.forall_mem_cons.mpr ⟨mz_ok98, List.forall_mem_cons.mpr ⟨mz_ok99, List.forall_mem_cons.mpr ⟨mz_ok100, List.forall_mem_cons.mpr ⟨mz_ok101, List.forall_mem_cons.mpr ⟨mz_ok102, List.forall_mem_cons.mpr ⟨mz_ok103, List.forall_mem_cons.mpr ⟨mz_ok104, List.forall_mem_cons.mpr ⟨mz_ok105, List.forall_mem_cons.mpr ⟨mz_ok106, List.forall_mem_cons.mpr ⟨mz_ok107, List.forall_mem_cons.mpr ⟨mz_ok108, List.forall_mem_cons.mpr ⟨mz_ok109, List.forall_mem_cons.mpr ⟨mz_ok110, List.forall_mem_cons.mpr ⟨mz_ok111, List.forall_mem_cons.mpr ⟨mz_ok112, List.forall_mem_cons.mpr ⟨mz_ok113, List.forall_mem_cons.mpr ⟨mz_ok114, List.forall_mem_cons.mpr ⟨mz_ok115, List.forall_mem_cons.mpr ⟨mz_ok116, List.forall_mem_cons.mpr ⟨mz_ok117, List.forall_mem_cons.mpr ⟨mz_ok118, List.forall_mem_cons.mpr ⟨mz_ok119, fun _ h => absurd h List.not_mem_nil⟩⟩⟩⟩⟩⟩⟩⟩⟩⟩⟩⟩⟩⟩⟩⟩⟩⟩⟩⟩⟩⟩⟩⟩⟩⟩⟩⟩⟩⟩⟩⟩⟩⟩⟩⟩⟩⟩⟩⟩
set_option maxRecDepth 100000 in
theorem mz_okT_3 : ∀ r ∈ mz_T_3, mz_Rg r := List.forall_mem_cons.mpr ⟨mz_ok120, List.forall_mem_cons.mpr ⟨mz_ok121, List.forall_mem_cons.mpr ⟨mz_ok122, List.forall_mem_cons.mpr ⟨mz_ok123, List.forall_mem_cons.mpr ⟨mz_ok124, List.forall_mem_cons.mpr ⟨mz_ok125, List.forall_mem_cons.mpr ⟨mz_ok126, List.forall_mem_cons.mpr ⟨mz_ok127, List.forall_mem_cons.mpr ⟨mz_ok128, List.forall_mem_cons.mpr ⟨mz_ok129, List.forall_mem_cons.mpr ⟨mz_ok130, List.forall_mem_cons.mpr ⟨mz_ok131, List.forall_mem_cons.mpr ⟨mz_ok132, List.forall_mem_cons.mpr ⟨mz_ok133, List.forall_mem_cons.mpr ⟨mz_ok134, List.forall_mem_cons.mpr ⟨mz_ok135, List.forall_mem_cons.mpr ⟨mz_ok136, List.forall_mem_cons.mpr ⟨mz_ok137, List.forall_mem_cons.mpr ⟨mz_ok138, List.forall_mem_cons.mpr ⟨mz_ok139, List.forall_mem_cons.mpr ⟨mz_ok140, List.forall_mem_cons.mpr ⟨mz_ok141, List.forall_mem_cons.mpr ⟨mz_ok142, List.forall_mem_cons.mpr ⟨mz_ok143, List.forall_mem_cons.mpr ⟨mz_ok144, List.forall_mem_cons.mpr ⟨mz_ok145, List.forall_mem_cons.mpr ⟨mz_ok146, List.forall_mem_cons.mpr ⟨mz_ok147, List.forall_mem_cons.mpr ⟨mz_ok148, List.forall_mem_cons.mpr ⟨mz_ok149, List.forall_mem_cons.mpr ⟨mz_ok150, List.forall_mem_cons.mpr ⟨mz_ok151, List.forall_mem_cons.mpr ⟨mz_ok152, List.forall_mem_cons.mpr ⟨mz_ok153, List.forall_mem_cons.mpr ⟨mz_ok154, List.forall_mem_cons.mpr ⟨mz_ok155, List.forall_mem_cons.mpr ⟨mz_ok156, List.forall_mem_cons.mpr ⟨mz_ok157, List.forall_mem_cons.mpr ⟨mz_ok158, List.forall_mem_cons.mpr ⟨mz_ok159, fun _ h => absurd h List.not_mem_nil⟩⟩⟩⟩⟩⟩⟩⟩⟩⟩⟩⟩⟩⟩⟩⟩⟩⟩⟩⟩⟩⟩⟩⟩⟩⟩⟩⟩⟩⟩⟩⟩⟩⟩⟩⟩⟩⟩⟩⟩
set_option maxRecDepth 100000 in
theorem mz_okT_4 : ∀ r ∈ mz_T_4, mz_Rg r := List.forall_mem_cons.mpr ⟨mz_ok160, List.forall_mem_cons.mpr ⟨mz_ok161, List.forall_mem_cons.mpr ⟨mz_ok162, List.forall_mem_cons.mpr ⟨mz_ok163, List.forall_mem_cons.mpr ⟨mz_ok164, List.forall_mem_cons.mpr ⟨mz_ok165, List.forall_mem_cons.mpr ⟨mz_ok166, List.forall_mem_cons.mpr ⟨mz_ok167, List.forall_mem_cons.mpr ⟨mz_ok168, List.forall_mem_cons.mpr ⟨mz_ok169, List.forall_mem_cons.mpr ⟨mz_ok170, List.forall_mem_cons.mpr ⟨mz_ok171, List.forall_mem_cons.mpr ⟨mz_ok172, List.forall_mem_cons.mpr ⟨mz_ok173, List.forall_mem_cons.mpr ⟨mz_ok174, List.forall_mem_cons.mpr ⟨mz_ok175, List.forall_mem_cons.mpr ⟨mz_ok176, List.forall_mem_cons.mpr ⟨mz_ok177, List.forall_mem_cons.mpr ⟨mz_ok178, List.forall_mem_cons.mpr ⟨mz_ok179, List.forall_mem_cons.mpr ⟨mz_ok180, List.forall_mem_cons.mpr ⟨mz_ok181, List.forall_mem_cons.mpr ⟨mz_ok182, List.forall_mem_cons.mpr ⟨mz_ok183, List.forall_mem_cons.mpr ⟨mz_ok184, List.forall_mem_cons.mpr ⟨mz_ok185, List.forall_mem_cons.mpr ⟨mz_ok186, List.forall_mem_cons.mpr ⟨mz_ok187, List.forall_mem_cons.mpr ⟨mz_ok188, List.forall_mem_cons.mpr ⟨mz_ok189, List.forall_mem_cons.mpr ⟨mz_ok190, List.forall_mem_cons.mpr ⟨mz_ok191, List.forall_mem_cons.mpr ⟨mz_ok192, List.forall_mem_cons.mpr ⟨mz_ok193, List.forall_mem_cons.mpr ⟨mz_ok194, List.forall_mem_cons.mpr ⟨mz_ok195, List.forall_mem_cons.mpr ⟨mz_ok196, List.forall_mem_cons.mpr ⟨mz_ok197, List.forall_mem_cons.mpr ⟨mz_ok198, List.forall_mem_cons.mpr ⟨mz_ok199, fun _ h => absurd h List.not_mem_nil⟩⟩⟩⟩⟩⟩⟩⟩⟩⟩⟩⟩⟩⟩⟩⟩⟩⟩⟩⟩⟩⟩⟩⟩⟩⟩⟩⟩⟩⟩⟩⟩⟩⟩⟩⟩⟩⟩⟩⟩
set_option maxRecDepth 100000 in
theorem mz_okT_5 : ∀ r ∈ mz_T_5, mz_Rg r := List.forall_mem_cons.mpr ⟨mz_ok200, List.forall_mem_cons.mpr ⟨mz_ok201, List.forall_mem_cons.mpr ⟨mz_ok202, List.forall_mem_cons.mpr ⟨mz_ok203, List.forall_mem_cons.mpr ⟨mz_ok204, List.forall_mem_cons.mpr ⟨mz_ok205, List.forall_mem_cons.mpr ⟨mz_ok206, List.forall_mem_cons.mpr ⟨mz_ok207, List.forall_mem_cons.mpr ⟨mz_ok208, List.forall_mem_cons.mpr ⟨mz_ok209, List.forall_mem_cons.mpr ⟨mz_ok210, List.forall_mem_cons.mpr ⟨mz_ok211, List.forall_mem_cons.mpr ⟨mz_ok212, List.forall_mem_cons.mpr ⟨mz_ok213, List.forall_mem_cons.mpr ⟨mz_ok214, List.forall_mem_cons.mpr ⟨mz_ok215, List.forall_mem_cons.mpr ⟨mz_ok216, List.forall_mem_cons.mpr ⟨mz_ok217, List.forall_mem_cons.mpr ⟨mz_ok218, List.forall_mem_cons.mpr ⟨mz_ok219, List.forall_mem_cons.mpr ⟨mz_ok220, List.forall_mem_cons.mpr ⟨mz_ok221, List.forall_mem_cons.mpr ⟨mz_ok222, List.forall_mem_cons.mpr ⟨mz_ok223, List.forall_mem_cons.mpr ⟨mz_ok224, List.forall_mem_cons.mpr ⟨mz_ok225, List.forall_mem_cons.mpr ⟨mz_ok226, List.forall_mem_cons.mpr ⟨mz_ok227, List.forall_mem_cons.mpr ⟨mz_ok228, List.forall_mem_cons.mpr ⟨mz_ok229, List.forall_mem_cons.mpr ⟨mz_ok230, List.forall_mem_cons.mpr ⟨mz_ok231, List.forall_mem_cons.mpr ⟨mz_ok232, List.forall_mem_cons.mpr ⟨mz_ok233, List.forall_mem_cons.mpr ⟨mz_ok234, List.forall_mem_cons.mpr ⟨mz_ok235, List.forall_mem_cons.mpr ⟨mz_ok236, List.forall_mem_cons.mpr ⟨mz_ok237, fun _ h => absurd h List.not_mem_nil⟩⟩⟩⟩⟩⟩⟩⟩⟩⟩⟩⟩⟩⟩⟩⟩⟩⟩⟩⟩⟩⟩⟩⟩⟩⟩⟩⟩⟩⟩⟩⟩⟩⟩⟩⟩⟩⟩
theorem mz_okT : ∀ r ∈ mz_T, mz_Rg r := List.forall_mem_append.mpr ⟨mz_okT_0, List.forall_mem_append.mpr ⟨mz_okT_1, List.forall_mem_append.mpr ⟨mz_okT_2, List.forall_mem_append.mpr ⟨mz_okT_3, List.forall_mem_append.mpr ⟨mz_okT_4, mz_okT_5⟩⟩⟩⟩⟩
theorem mz_okA : ∀ (a : Nat) (rc : mz_R), mz_T[a]? = some rc → mz_Rok mz_T vwCl mz_NM mz_ST lw_tbl mz_gt rc := fun a rc h => mz_okT rc (List.mem_of_getElem? h)
set_option maxRecDepth 100000 in
theorem mz_c0 : mz_cok lw_tbl (RX0, TX0, 5) := mz_cokb_ok mz_gtA [1133, 1135, 1137, 1139, 1141] (by decide +kernel) nmX0 tyX0 tyX0_ok
set_option maxRecDepth 100000 in
theorem mz_c1 : mz_cok lw_tbl (RX1, TX1, 7) := mz_cokb_ok mz_gtA [1165, 1167, 1169, 1171, 1173, 1175, 1177] (by decide +kernel) nmX1 tyX1 tyX1_ok
set_option maxRecDepth 100000 in
theorem mz_c2 : mz_cok lw_tbl (RX2, TX2, 5) := mz_cokb_ok mz_gtA [1056, 1058, 1060, 1062, 1064] (by decide +kernel) nmX2 tyX2 tyX2_ok
set_option maxRecDepth 100000 in
theorem mz_c3 : mz_cok lw_tbl (RX3, TX3, 5) := mz_cokb_ok mz_gtA [2033, 2035, 2037, 2039, 2041] (by decide +kernel) nmX3 tyX3 tyX3_ok
set_option maxRecDepth 100000 in
theorem mz_c4 : mz_cok lw_tbl (RX4, TX4, 4) := mz_cokb_ok mz_gtA [2009, 2011, 2013, 2015] (by decide +kernel) nmX4 tyX4 tyX4_ok
set_option maxRecDepth 100000 in
theorem mz_c5 : mz_cok lw_tbl (RX5, TX5, 3) := mz_cokb_ok mz_gtA [2090, 2092, 2094] (by decide +kernel) nmX5 tyX5 tyX5_ok
set_option maxRecDepth 100000 in
theorem mz_c6 : mz_cok lw_tbl (RX6, TX6, 13) := mz_cokb_ok mz_gtA [1209, 1211, 1213, 1215, 1217, 1219, 1221, 1223, 1225, 1227, 1229, 1231, 1233] (by decide +kernel) nmX6 tyX6 tyX6_ok
set_option maxRecDepth 100000 in
theorem mz_c7 : mz_cok lw_tbl (RX7, TX7, 2) := mz_cokb_ok mz_gtA [1088, 1090] (by decide +kernel) nmX7 tyX7 tyX7_ok
set_option maxRecDepth 100000 in
theorem mz_c8 : mz_cok lw_tbl (RX8, TX8, 3) := mz_cokb_ok mz_gtA [1105, 1107, 1109] (by decide +kernel) nmX8 tyX8 tyX8_ok
set_option maxRecDepth 100000 in
theorem mz_c9 : mz_cok lw_tbl (RX9, TX9, 8) := mz_cokb_ok mz_gtA [2062, 2064, 2066, 2068, 2070, 2072, 2074, 2076] (by decide +kernel) nmX9 tyX9 tyX9_ok
set_option maxRecDepth 100000 in
theorem mz_c10 : mz_cok lw_tbl (RX10, TX10, 8) := mz_cokb_ok mz_gtA [2105, 2107, 2109, 2111, 2113, 2115, 2117, 2119] (by decide +kernel) nmX10 tyX10 tyX10_ok
set_option maxRecDepth 100000 in
theorem mz_c11 : mz_cok lw_tbl (RX11, TX11, 26) := mz_cokb_ok mz_gtA [5066, 5068, 5070, 5072, 5074, 5076, 5078, 5080, 5082, 5084, 5086, 5088, 5090, 5092, 5094, 5096, 5098, 5100, 5102, 5104, 5106, 5108, 5110, 5112, 5114, 5116] (by decide +kernel) nmX11 tyX11 tyX11_ok
theorem mz_cA : ∀ (k : Nat) (q : vw_C), vwCl[k]? = some q → mz_cok lw_tbl q := by
  intro k q h
  match k, h with
  | 0, h => cases h; exact mz_c0
  | 1, h => cases h; exact mz_c1
  | 2, h => cases h; exact mz_c2
  | 3, h => cases h; exact mz_c3
  | 4, h => cases h; exact mz_c4
  | 5, h => cases h; exact mz_c5
  | 6, h => cases h; exact mz_c6
  | 7, h => cases h; exact mz_c7
  | 8, h => cases h; exact mz_c8
  | 9, h => cases h; exact mz_c9
  | 10, h => cases h; exact mz_c10
  | 11, h => cases h; exact mz_c11
  | k + 12, h => simp [vwCl] at h
theorem mz_sA : mz_sok mz_S vwCl := mz_sokb_ok (by decide +kernel)
set_option maxRecDepth 100000 in
theorem mz_pA : ∀ w ∈ mz_pw, w ∈ mz_G lw_tbl := by
  have h1 : mz_pw.map some = [2166, 2195, 2192, 1013, 2167, 2196, 2193, 3149, 3148, 1019].map mz_gt := by decide +kernel
  have h2 : mz_pw.all goodWord = true := by decide +kernel
  intro w hw
  have h3 : some w ∈ [2166, 2195, 2192, 1013, 2167, 2196, 2193, 3149, 3148, 1019].map mz_gt := by
    rw [← h1]
    exact List.mem_map.mpr ⟨w, hw, rfl⟩
  obtain ⟨i, -, hi⟩ := List.mem_map.mp h3
  exact mz_G_in (mz_gtA _ _ hi) (List.all_eq_true.mp h2 w hw)
theorem mz_EE : (∀ (k : Nat) (q : vw_C), vwCl[k]? = some q → mz_cok lw_tbl q) ∧ mz_sok mz_S vwCl ∧ (∀ w ∈ mz_pw, w ∈ mz_G lw_tbl) ∧ mz_S.length ≤ 1000 ∧ mz_NM.length = mz_T0.length ∧ mz_T0.length ≤ 1000 ∧ ∀ (i : Nat) (w : Jvm.Cond), mz_gt i = some w → w ∈ lw_tbl := ⟨mz_cA, mz_sA, mz_pA, by decide +kernel, by decide +kernel, by decide +kernel, mz_gtA⟩
theorem mz_RunA (n : Nat) : mz_Run mz_S mz_T0 mz_T vwCl mz_NM mz_ST lw_tbl mz_gt n := mz_run_all mz_okA n
