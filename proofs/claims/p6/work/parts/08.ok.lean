/-! the tables are in order: by counting -/
def mz_chk (T : List mz_R) (cl : List vw_C) (NM : List String) (ST : List (String × Nat × String)) (gt : Nat → Option Jvm.Cond) (r : mz_R) (ps : Nat × Nat × Nat × Nat) : Bool :=
  plainName r.2.1.cls && (r.2.1.cls != "java/lang/invoke/MethodHandle" && r.2.1.cls != "java/lang/invoke/VarHandle") && decide ((parseMethodDescriptor r.2.1.desc).map (fun d => d.parameters.length) = some (cond r.2.2.2.2.2.1 r.2.2.2.2.2.2.1 (r.2.2.2.2.2.2.1 - 1))) && decide (r.2.2.2.1 ≤ 45) &&
  decide (gt ps.1 = some (Jvm.Cond.code r.2.1 r.2.2.1 r.2.2.2.1 r.2.2.2.2.1)) && decide (gt ps.2.1 = some (Jvm.Cond.initialized r.2.1.cls)) &&
  cond r.2.2.2.2.2.1 (decide (gt ps.2.2.1 = some (Jvm.Cond.static r.2.1))) (decide (gt ps.2.2.1 = some (Jvm.Cond.instanceMethod r.2.1)) && decide (gt ps.2.2.2 = some (Jvm.Cond.selects r.2.1.cls r.2.1 r.2.1)) && cond (r.1 == 12) (r.2.1.cls == "java/lang/String") (match cl[r.1]? with
    | some q => q.1 == r.2.1.cls
    | none => false)) &&
  (mz_wk r.2.2.1 r.2.2.2.2.2.2.2 0 (mz_bs r.2.2.1) && r.2.2.2.2.2.2.2.all (fun q => (q.2.2.1 == mz_ln q.2.1 || mz_sw q.2.1) && mz_lk T cl NM ST gt r.2.1.cls q.2.1 q.2.2.2))
theorem mz_chk_ok {T : List mz_R} {cl : List vw_C} {NM : List String} {ST : List (String × Nat × String)} {G0 : List Jvm.Cond} {gt : Nat → Option Jvm.Cond} {r : mz_R} (hgt : ∀ (i : Nat) (w : Jvm.Cond), gt i = some w → w ∈ G0) (ps : Nat × Nat × Nat × Nat) (h : mz_chk T cl NM ST gt r ps = true) : mz_Rok T cl NM ST G0 gt r := by
  unfold mz_chk at h
  simp only [Bool.and_eq_true, bne_iff_ne, ne_eq, decide_eq_true_eq] at h
  obtain ⟨⟨⟨⟨⟨⟨⟨h1, h2⟩, h3⟩, h4⟩, h5⟩, h6⟩, h7⟩, h8, h9⟩ := h
  refine ⟨⟨h1, h2, h3, h4⟩, ⟨mz_G_in (hgt _ _ h5) rfl, mz_G_in (hgt _ _ h6) rfl⟩, fun hs => ?_, fun hs => ?_, fun q hq => by
    have h10 := List.all_eq_true.mp h9 q hq
    rw [Bool.and_eq_true] at h10
    unfold mz_eok
    rw [decide_eq_true (mz_dec_ok h8 q hq), h10.1, h10.2]
    rfl⟩
  · rw [hs] at h7
    exact mz_G_in (hgt _ _ (of_decide_eq_true h7)) rfl
  · rw [hs] at h7
    simp only [cond_false, Bool.and_eq_true, decide_eq_true_eq] at h7
    obtain ⟨⟨a1, a2⟩, a3⟩ := h7
    refine ⟨mz_G_in (hgt _ _ a1) rfl, mz_G_in (hgt _ _ a2) rfl, ?_⟩
    cases hb : (r.1 == 12) with
    | true =>
      rw [hb] at a3
      exact Or.inl ⟨by simpa using hb, by simpa using a3⟩
    | false =>
      rw [hb] at a3
      simp only [cond_false] at a3
      split at a3
      · rename_i q hq
        exact Or.inr ⟨by simpa using hb, q, hq, by simpa using a3⟩
      · cases a3
def mz_sokb (S0 : mz_Sh) (cl : List vw_C) : Bool := S0.all fun s => match s with
  | .inl _ => true
  | .inr (c, fs) => match cl[c]? with
    | some q => fs.length == q.2.2 && (List.range fs.length).all fun k => match fs[k]? with
      | some 0 => !(q.2.1 k).2.2.2 && decide (parseFieldDescriptor (q.2.1 k).2.2.1 = some .int)
      | some 1 => !(q.2.1 k).2.2.2 && decide (parseFieldDescriptor (q.2.1 k).2.2.1 = some .boolean)
      | some 2 => !(q.2.1 k).2.2.2 && decide (parseFieldDescriptor (q.2.1 k).2.2.1 = some (.object "java/lang/String"))
      | _ => true
    | none => false
theorem mz_sokb_ok {S0 : mz_Sh} {cl : List vw_C} (h : mz_sokb S0 cl = true) : mz_sok S0 cl := by
  intro i c fs hi
  have h1 := List.all_eq_true.mp h _ (List.mem_of_getElem? hi)
  simp only at h1
  split at h1
  · rename_i q hq
    rw [Bool.and_eq_true] at h1
    refine ⟨q, hq, by simpa using h1.1, fun k f hk => ?_⟩
    have hlt : k < fs.length := (List.getElem?_eq_some_iff.mp hk).1
    have h2 := List.all_eq_true.mp h1.2 k (List.mem_range.mpr hlt)
    rw [hk] at h2
    refine ⟨fun e => ?_, fun e => ?_, fun e => ?_⟩
    all_goals
      subst e
      simpa using h2
  · cases h1
def mz_cokb (gt : Nat → Option Jvm.Cond) (q : vw_C) (ps : List Nat) : Bool := decide ((u_ws q.1 q.2.1 q.2.2).map some = ps.map gt) && (u_ws q.1 q.2.1 q.2.2).all goodWord
theorem mz_cokb_ok {G0 : List Jvm.Cond} {gt : Nat → Option Jvm.Cond} {q : vw_C} (hgt : ∀ (i : Nat) (w : Jvm.Cond), gt i = some w → w ∈ G0) (ps : List Nat) (h : mz_cokb gt q ps = true) (hn : ∀ a, a < q.2.2 → ∀ b, b < q.2.2 → a ≠ b → (q.2.1 a).2.1 ≠ (q.2.1 b).2.1) (ty : Nat → FieldType) (ht : ∀ k, k < q.2.2 → parseFieldDescriptor (q.2.1 k).2.2.1 = some (ty k)) : mz_cok G0 q := by
  unfold mz_cokb at h
  rw [Bool.and_eq_true] at h
  refine ⟨fun w hw => ?_, hn, ty, ht⟩
  have h1 := of_decide_eq_true h.1
  have h2 : some w ∈ ps.map gt := by
    rw [← h1]
    exact List.mem_map.mpr ⟨w, hw, rfl⟩
  obtain ⟨i, -, hi⟩ := List.mem_map.mp h2
  exact mz_G_in (hgt _ _ hi) (List.all_eq_true.mp h.2 w hw)

def mz_NM : List String := ["ABOVE", "BODIES", "RULE_LEAST", "RULE_MOST", "RULE_FIRST"]
def mz_ST : List (String × Nat × String) := [("ThreeMagnets$Reader", 18, ""), ("ThreeMagnets", 374, "rsn"), ("ThreeMagnets", 376, "vrn"), ("ThreeMagnets", 378, "clxye")]
def mz_gt (i : Nat) : Option Jvm.Cond := match i / 1000 with
  | 0 => (k2_sels lw_privs)[i % 1000]?
  | 1 => tables_1_1[i % 1000]?
  | 2 => tables_1_2[i % 1000]?
  | 3 => tables_1_3[i % 1000]?
  | 4 => tables_1_4[i % 1000]?
  | 5 => tables_1_5[i % 1000]?
  | 6 => tables_1_6[i % 1000]?
  | 7 => tables_1_7[i % 1000]?
  | _ => none
theorem mz_gtA (i : Nat) (w : Jvm.Cond) (h : mz_gt i = some w) : w ∈ lw_tbl := by
  unfold mz_gt at h
  show w ∈ k2_sels lw_privs ++ (tables_1_1 ++ (tables_1_2 ++ (tables_1_3 ++ (tables_1_4 ++ (tables_1_5 ++ (tables_1_6 ++ (tables_1_7)))))))
  split at h
  · exact List.mem_append_left _ (List.mem_of_getElem? h)
  · exact List.mem_append_right _ (List.mem_append_left _ (List.mem_of_getElem? h))
  · exact List.mem_append_right _ (List.mem_append_right _ (List.mem_append_left _ (List.mem_of_getElem? h)))
  · exact List.mem_append_right _ (List.mem_append_right _ (List.mem_append_right _ (List.mem_append_left _ (List.mem_of_getElem? h))))
  · exact List.mem_append_right _ (List.mem_append_right _ (List.mem_append_right _ (List.mem_append_right _ (List.mem_append_left _ (List.mem_of_getElem? h)))))
  · exact List.mem_append_right _ (List.mem_append_right _ (List.mem_append_right _ (List.mem_append_right _ (List.mem_append_right _ (List.mem_append_left _ (List.mem_of_getElem? h))))))
  · exact List.mem_append_right _ (List.mem_append_right _ (List.mem_append_right _ (List.mem_append_right _ (List.mem_append_right _ (List.mem_append_right _ (List.mem_append_left _ (List.mem_of_getElem? h)))))))
  · exact List.mem_append_right _ (List.mem_append_right _ (List.mem_append_right _ (List.mem_append_right _ (List.mem_append_right _ (List.mem_append_right _ (List.mem_append_right _ (List.mem_of_getElem? h)))))))
  · cases h
abbrev mz_Rg (r : mz_R) : Prop := mz_Rok mz_T vwCl mz_NM mz_ST lw_tbl mz_gt r
set_option maxRecDepth 100000 in
theorem mz_ok0 : mz_Rg mz_r0 := mz_chk_ok mz_gtA (3161, 1006, 3159, 3160) (by decide +kernel)
set_option maxRecDepth 100000 in
theorem mz_ok1 : mz_Rg mz_r1 := mz_chk_ok mz_gtA (5007, 1006, 5005, 5006) (by decide +kernel)
set_option maxRecDepth 100000 in
theorem mz_ok2 : mz_Rg mz_r2 := mz_chk_ok mz_gtA (4017, 1007, 4015, 4016) (by decide +kernel)
set_option maxRecDepth 100000 in
theorem mz_ok3 : mz_Rg mz_r3 := mz_chk_ok mz_gtA (4085, 1007, 4083, 4084) (by decide +kernel)
set_option maxRecDepth 100000 in
theorem mz_ok4 : mz_Rg mz_r4 := mz_chk_ok mz_gtA (3233, 1007, 3231, 3232) (by decide +kernel)
set_option maxRecDepth 100000 in
theorem mz_ok5 : mz_Rg mz_r5 := mz_chk_ok mz_gtA (3225, 1007, 3223, 3224) (by decide +kernel)
set_option maxRecDepth 100000 in
theorem mz_ok6 : mz_Rg mz_r6 := mz_chk_ok mz_gtA (3229, 1007, 3227, 3228) (by decide +kernel)
set_option maxRecDepth 100000 in
theorem mz_ok7 : mz_Rg mz_r7 := mz_chk_ok mz_gtA (4009, 1007, 4007, 4008) (by decide +kernel)
set_option maxRecDepth 100000 in
theorem mz_ok8 : mz_Rg mz_r8 := mz_chk_ok mz_gtA (4068, 1007, 4066, 4067) (by decide +kernel)
set_option maxRecDepth 100000 in
theorem mz_ok9 : mz_Rg mz_r9 := mz_chk_ok mz_gtA (4001, 1007, 3239, 4000) (by decide +kernel)
set_option maxRecDepth 100000 in
theorem mz_ok10 : mz_Rg mz_r10 := mz_chk_ok mz_gtA (4005, 1007, 4003, 4004) (by decide +kernel)
set_option maxRecDepth 100000 in
theorem mz_ok11 : mz_Rg mz_r11 := mz_chk_ok mz_gtA (3237, 1007, 3235, 3236) (by decide +kernel)
set_option maxRecDepth 100000 in
theorem mz_ok12 : mz_Rg mz_r12 := mz_chk_ok mz_gtA (4035, 1007, 4033, 4034) (by decide +kernel)
set_option maxRecDepth 100000 in
theorem mz_ok13 : mz_Rg mz_r13 := mz_chk_ok mz_gtA (4039, 1007, 4038, 9) (by decide +kernel)
set_option maxRecDepth 100000 in
theorem mz_ok14 : mz_Rg mz_r14 := mz_chk_ok mz_gtA (4047, 1007, 4045, 4046) (by decide +kernel)
set_option maxRecDepth 100000 in
theorem mz_ok15 : mz_Rg mz_r15 := mz_chk_ok mz_gtA (4052, 1007, 4050, 4051) (by decide +kernel)
set_option maxRecDepth 100000 in
theorem mz_ok16 : mz_Rg mz_r16 := mz_chk_ok mz_gtA (4056, 1007, 4055, 10) (by decide +kernel)
set_option maxRecDepth 100000 in
theorem mz_ok17 : mz_Rg mz_r17 := mz_chk_ok mz_gtA (4064, 1007, 4062, 4063) (by decide +kernel)
set_option maxRecDepth 100000 in
theorem mz_ok18 : mz_Rg mz_r18 := mz_chk_ok mz_gtA (4081, 1007, 4079, 4080) (by decide +kernel)
set_option maxRecDepth 100000 in
theorem mz_ok19 : mz_Rg mz_r19 := mz_chk_ok mz_gtA (4089, 1007, 4088, 12) (by decide +kernel)
set_option maxRecDepth 100000 in
theorem mz_ok20 : mz_Rg mz_r20 := mz_chk_ok mz_gtA (5011, 1007, 5009, 5010) (by decide +kernel)
set_option maxRecDepth 100000 in
theorem mz_ok21 : mz_Rg mz_r21 := mz_chk_ok mz_gtA (2159, 1003, 2157, 2158) (by decide +kernel)
set_option maxRecDepth 100000 in
theorem mz_ok22 : mz_Rg mz_r22 := mz_chk_ok mz_gtA (2146, 1003, 2144, 2145) (by decide +kernel)
set_option maxRecDepth 100000 in
theorem mz_ok23 : mz_Rg mz_r23 := mz_chk_ok mz_gtA (2150, 1003, 2148, 2149) (by decide +kernel)
set_option maxRecDepth 100000 in
theorem mz_ok24 : mz_Rg mz_r24 := mz_chk_ok mz_gtA (2163, 1003, 2161, 2162) (by decide +kernel)
set_option maxRecDepth 100000 in
theorem mz_ok25 : mz_Rg mz_r25 := mz_chk_ok mz_gtA (2233, 1003, 2231, 2232) (by decide +kernel)
set_option maxRecDepth 100000 in
theorem mz_ok26 : mz_Rg mz_r26 := mz_chk_ok mz_gtA (2238, 1003, 2237, 2) (by decide +kernel)
set_option maxRecDepth 100000 in
theorem mz_ok27 : mz_Rg mz_r27 := mz_chk_ok mz_gtA (4235, 1003, 4233, 4234) (by decide +kernel)
set_option maxRecDepth 100000 in
theorem mz_ok28 : mz_Rg mz_r28 := mz_chk_ok mz_gtA (3019, 1009, 3017, 3018) (by decide +kernel)
set_option maxRecDepth 100000 in
theorem mz_ok29 : mz_Rg mz_r29 := mz_chk_ok mz_gtA (3023, 1009, 3022, 3) (by decide +kernel)
set_option maxRecDepth 100000 in
theorem mz_ok30 : mz_Rg mz_r30 := mz_chk_ok mz_gtA (3135, 1009, 3134, 0) (by decide +kernel)
set_option maxRecDepth 100000 in
theorem mz_ok31 : mz_Rg mz_r31 := mz_chk_ok mz_gtA (3027, 1009, 3026, 4) (by decide +kernel)
set_option maxRecDepth 100000 in
theorem mz_ok32 : mz_Rg mz_r32 := mz_chk_ok mz_gtA (3046, 1009, 3045, 6) (by decide +kernel)
set_option maxRecDepth 100000 in
theorem mz_ok33 : mz_Rg mz_r33 := mz_chk_ok mz_gtA (3038, 1009, 3037, 5) (by decide +kernel)
set_option maxRecDepth 100000 in
theorem mz_ok34 : mz_Rg mz_r34 := mz_chk_ok mz_gtA (3050, 1009, 3049, 7) (by decide +kernel)
set_option maxRecDepth 100000 in
theorem mz_ok35 : mz_Rg mz_r35 := mz_chk_ok mz_gtA (3034, 1009, 3033, 0) (by decide +kernel)
set_option maxRecDepth 100000 in
theorem mz_ok36 : mz_Rg mz_r36 := mz_chk_ok mz_gtA (3202, 1008, 3200, 3201) (by decide +kernel)
set_option maxRecDepth 100000 in
theorem mz_ok37 : mz_Rg mz_r37 := mz_chk_ok mz_gtA (3194, 1008, 3192, 3193) (by decide +kernel)
set_option maxRecDepth 100000 in
theorem mz_ok38 : mz_Rg mz_r38 := mz_chk_ok mz_gtA (3176, 1008, 3174, 3175) (by decide +kernel)
set_option maxRecDepth 100000 in
theorem mz_ok39 : mz_Rg mz_r39 := mz_chk_ok mz_gtA (3186, 1008, 3185, 0) (by decide +kernel)
set_option maxRecDepth 100000 in
theorem mz_ok40 : mz_Rg mz_r40 := mz_chk_ok mz_gtA (2171, 1008, 2169, 2170) (by decide +kernel)
set_option maxRecDepth 100000 in
theorem mz_ok41 : mz_Rg mz_r41 := mz_chk_ok mz_gtA (2199, 1008, 2198, 0) (by decide +kernel)
set_option maxRecDepth 100000 in
theorem mz_ok42 : mz_Rg mz_r42 := mz_chk_ok mz_gtA (2176, 1008, 2175, 1) (by decide +kernel)
set_option maxRecDepth 100000 in
theorem mz_ok43 : mz_Rg mz_r43 := mz_chk_ok mz_gtA (3181, 1008, 3180, 8) (by decide +kernel)
set_option maxRecDepth 100000 in
theorem mz_ok44 : mz_Rg mz_r44 := mz_chk_ok mz_gtA (4106, 1008, 4104, 4105) (by decide +kernel)
set_option maxRecDepth 100000 in
theorem mz_ok45 : mz_Rg mz_r45 := mz_chk_ok mz_gtA (4179, 1011, 4177, 4178) (by decide +kernel)
set_option maxRecDepth 100000 in
theorem mz_ok46 : mz_Rg mz_r46 := mz_chk_ok mz_gtA (4193, 1011, 4191, 4192) (by decide +kernel)
set_option maxRecDepth 100000 in
theorem mz_ok47 : mz_Rg mz_r47 := mz_chk_ok mz_gtA (4183, 1011, 4181, 4182) (by decide +kernel)
set_option maxRecDepth 100000 in
theorem mz_ok48 : mz_Rg mz_r48 := mz_chk_ok mz_gtA (4201, 1011, 4199, 4200) (by decide +kernel)
set_option maxRecDepth 100000 in
theorem mz_ok49 : mz_Rg mz_r49 := mz_chk_ok mz_gtA (4223, 1011, 4221, 4222) (by decide +kernel)
set_option maxRecDepth 100000 in
theorem mz_ok50 : mz_Rg mz_r50 := mz_chk_ok mz_gtA (4197, 1011, 4195, 4196) (by decide +kernel)
set_option maxRecDepth 100000 in
theorem mz_ok51 : mz_Rg mz_r51 := mz_chk_ok mz_gtA (4210, 1011, 4208, 4209) (by decide +kernel)
set_option maxRecDepth 100000 in
theorem mz_ok52 : mz_Rg mz_r52 := mz_chk_ok mz_gtA (3139, 1002, 3137, 3138) (by decide +kernel)
set_option maxRecDepth 100000 in
theorem mz_ok53 : mz_Rg mz_r53 := mz_chk_ok mz_gtA (4231, 1002, 4229, 4230) (by decide +kernel)
set_option maxRecDepth 100000 in
theorem mz_ok54 : mz_Rg mz_r54 := mz_chk_ok mz_gtA (3031, 1004, 3029, 3030) (by decide +kernel)
set_option maxRecDepth 100000 in
theorem mz_ok55 : mz_Rg mz_r55 := mz_chk_ok mz_gtA (5001, 1004, 4239, 5000) (by decide +kernel)
set_option maxRecDepth 100000 in
theorem mz_ok56 : mz_Rg mz_r56 := mz_chk_ok mz_gtA (3042, 1005, 3040, 3041) (by decide +kernel)
set_option maxRecDepth 100000 in
theorem mz_ok57 : mz_Rg mz_r57 := mz_chk_ok mz_gtA (2183, 1005, 2181, 2182) (by decide +kernel)
set_option maxRecDepth 100000 in
theorem mz_ok58 : mz_Rg mz_r58 := mz_chk_ok mz_gtA (2187, 1005, 2186, 0) (by decide +kernel)
set_option maxRecDepth 100000 in
theorem mz_ok59 : mz_Rg mz_r59 := mz_chk_ok mz_gtA (3143, 1005, 3141, 3142) (by decide +kernel)
set_option maxRecDepth 100000 in
theorem mz_ok60 : mz_Rg mz_r60 := mz_chk_ok mz_gtA (4138, 1010, 4136, 4137) (by decide +kernel)
set_option maxRecDepth 100000 in
theorem mz_ok61 : mz_Rg mz_r61 := mz_chk_ok mz_gtA (4166, 1010, 4164, 4165) (by decide +kernel)
set_option maxRecDepth 100000 in
theorem mz_ok62 : mz_Rg mz_r62 := mz_chk_ok mz_gtA (4143, 1010, 4142, 14) (by decide +kernel)
set_option maxRecDepth 100000 in
theorem mz_ok63 : mz_Rg mz_r63 := mz_chk_ok mz_gtA (4158, 1010, 4157, 15) (by decide +kernel)
set_option maxRecDepth 100000 in
theorem mz_ok64 : mz_Rg mz_r64 := mz_chk_ok mz_gtA (4162, 1010, 4161, 16) (by decide +kernel)
set_option maxRecDepth 100000 in
theorem mz_ok65 : mz_Rg mz_r65 := mz_chk_ok mz_gtA (4146, 1010, 4145, 0) (by decide +kernel)
set_option maxRecDepth 100000 in
theorem mz_ok66 : mz_Rg mz_r66 := mz_chk_ok mz_gtA (4150, 1010, 4149, 0) (by decide +kernel)
set_option maxRecDepth 100000 in
theorem mz_ok67 : mz_Rg mz_r67 := mz_chk_ok mz_gtA (2125, 1001, 2123, 2124) (by decide +kernel)
set_option maxRecDepth 100000 in
theorem mz_ok68 : mz_Rg mz_r68 := mz_chk_ok mz_gtA (2155, 1001, 2153, 2154) (by decide +kernel)
set_option maxRecDepth 100000 in
theorem mz_ok69 : mz_Rg mz_r69 := mz_chk_ok mz_gtA (2204, 1001, 2202, 2203) (by decide +kernel)
set_option maxRecDepth 100000 in
theorem mz_ok70 : mz_Rg mz_r70 := mz_chk_ok mz_gtA (2213, 1001, 2211, 2212) (by decide +kernel)
set_option maxRecDepth 100000 in
theorem mz_ok71 : mz_Rg mz_r71 := mz_chk_ok mz_gtA (2217, 1001, 2215, 2216) (by decide +kernel)
set_option maxRecDepth 100000 in
theorem mz_ok72 : mz_Rg mz_r72 := mz_chk_ok mz_gtA (2221, 1001, 2219, 2220) (by decide +kernel)
set_option maxRecDepth 100000 in
theorem mz_ok73 : mz_Rg mz_r73 := mz_chk_ok mz_gtA (2229, 1001, 2227, 2228) (by decide +kernel)
set_option maxRecDepth 100000 in
theorem mz_ok74 : mz_Rg mz_r74 := mz_chk_ok mz_gtA (3002, 1001, 3000, 3001) (by decide +kernel)
set_option maxRecDepth 100000 in
theorem mz_ok75 : mz_Rg mz_r75 := mz_chk_ok mz_gtA (3006, 1001, 3004, 3005) (by decide +kernel)
set_option maxRecDepth 100000 in
theorem mz_ok76 : mz_Rg mz_r76 := mz_chk_ok mz_gtA (3153, 1001, 3151, 3152) (by decide +kernel)
set_option maxRecDepth 100000 in
theorem mz_ok77 : mz_Rg mz_r77 := mz_chk_ok mz_gtA (3157, 1001, 3155, 3156) (by decide +kernel)
set_option maxRecDepth 100000 in
theorem mz_ok78 : mz_Rg mz_r78 := mz_chk_ok mz_gtA (3165, 1001, 3163, 3164) (by decide +kernel)
set_option maxRecDepth 100000 in
theorem mz_ok79 : mz_Rg mz_r79 := mz_chk_ok mz_gtA (3172, 1001, 3170, 3171) (by decide +kernel)
set_option maxRecDepth 100000 in
theorem mz_ok80 : mz_Rg mz_r80 := mz_chk_ok mz_gtA (3190, 1001, 3188, 3189) (by decide +kernel)
set_option maxRecDepth 100000 in
theorem mz_ok81 : mz_Rg mz_r81 := mz_chk_ok mz_gtA (3198, 1001, 3196, 3197) (by decide +kernel)
set_option maxRecDepth 100000 in
theorem mz_ok82 : mz_Rg mz_r82 := mz_chk_ok mz_gtA (3209, 1001, 3207, 3208) (by decide +kernel)
set_option maxRecDepth 100000 in
theorem mz_ok83 : mz_Rg mz_r83 := mz_chk_ok mz_gtA (3213, 1001, 3211, 3212) (by decide +kernel)
set_option maxRecDepth 100000 in
theorem mz_ok84 : mz_Rg mz_r84 := mz_chk_ok mz_gtA (3217, 1001, 3215, 3216) (by decide +kernel)
set_option maxRecDepth 100000 in
theorem mz_ok85 : mz_Rg mz_r85 := mz_chk_ok mz_gtA (3221, 1001, 3219, 3220) (by decide +kernel)
set_option maxRecDepth 100000 in
theorem mz_ok86 : mz_Rg mz_r86 := mz_chk_ok mz_gtA (4013, 1001, 4011, 4012) (by decide +kernel)
set_option maxRecDepth 100000 in
theorem mz_ok87 : mz_Rg mz_r87 := mz_chk_ok mz_gtA (4023, 1001, 4021, 4022) (by decide +kernel)
set_option maxRecDepth 100000 in
theorem mz_ok88 : mz_Rg mz_r88 := mz_chk_ok mz_gtA (4031, 1001, 4029, 4030) (by decide +kernel)
set_option maxRecDepth 100000 in
theorem mz_ok89 : mz_Rg mz_r89 := mz_chk_ok mz_gtA (4043, 1001, 4041, 4042) (by decide +kernel)
set_option maxRecDepth 100000 in
theorem mz_ok90 : mz_Rg mz_r90 := mz_chk_ok mz_gtA (4072, 1001, 4070, 4071) (by decide +kernel)
set_option maxRecDepth 100000 in
theorem mz_ok91 : mz_Rg mz_r91 := mz_chk_ok mz_gtA (4077, 1001, 4075, 4076) (by decide +kernel)
set_option maxRecDepth 100000 in
theorem mz_ok92 : mz_Rg mz_r92 := mz_chk_ok mz_gtA (4093, 1001, 4091, 4092) (by decide +kernel)
set_option maxRecDepth 100000 in
theorem mz_ok93 : mz_Rg mz_r93 := mz_chk_ok mz_gtA (4102, 1001, 4100, 4101) (by decide +kernel)
set_option maxRecDepth 100000 in
theorem mz_ok94 : mz_Rg mz_r94 := mz_chk_ok mz_gtA (4113, 1001, 4111, 4112) (by decide +kernel)
set_option maxRecDepth 100000 in
theorem mz_ok95 : mz_Rg mz_r95 := mz_chk_ok mz_gtA (4126, 1001, 4124, 4125) (by decide +kernel)
set_option maxRecDepth 100000 in
theorem mz_ok96 : mz_Rg mz_r96 := mz_chk_ok mz_gtA (4130, 1001, 4128, 4129) (by decide +kernel)
set_option maxRecDepth 100000 in
theorem mz_ok97 : mz_Rg mz_r97 := mz_chk_ok mz_gtA (4134, 1001, 4132, 4133) (by decide +kernel)
set_option maxRecDepth 100000 in
theorem mz_ok98 : mz_Rg mz_r98 := mz_chk_ok mz_gtA (4171, 1001, 4169, 4170) (by decide +kernel)
set_option maxRecDepth 100000 in
theorem mz_ok99 : mz_Rg mz_r99 := mz_chk_ok mz_gtA (4175, 1001, 4173, 4174) (by decide +kernel)
set_option maxRecDepth 100000 in
theorem mz_ok100 : mz_Rg mz_r100 := mz_chk_ok mz_gtA (4189, 1001, 4187, 4188) (by decide +kernel)
set_option maxRecDepth 100000 in
theorem mz_ok101 : mz_Rg mz_r101 := mz_chk_ok mz_gtA (4205, 1001, 4203, 4204) (by decide +kernel)
set_option maxRecDepth 100000 in
theorem mz_ok102 : mz_Rg mz_r102 := mz_chk_ok mz_gtA (4215, 1001, 4213, 4214) (by decide +kernel)
set_option maxRecDepth 100000 in
theorem mz_ok103 : mz_Rg mz_r103 := mz_chk_ok mz_gtA (4227, 1001, 4225, 4226) (by decide +kernel)
set_option maxRecDepth 100000 in
theorem mz_ok104 : mz_Rg mz_r104 := mz_chk_ok mz_gtA (5017, 1001, 5015, 5016) (by decide +kernel)
set_option maxRecDepth 100000 in
theorem mz_ok105 : mz_Rg mz_r105 := mz_chk_ok mz_gtA (5021, 1001, 5019, 5020) (by decide +kernel)
set_option maxRecDepth 100000 in
theorem mz_ok106 : mz_Rg mz_r106 := mz_chk_ok mz_gtA (5025, 1001, 5023, 5024) (by decide +kernel)
set_option maxRecDepth 100000 in
theorem mz_ok107 : mz_Rg mz_r107 := mz_chk_ok mz_gtA (5029, 1001, 5027, 5028) (by decide +kernel)
set_option maxRecDepth 100000 in
theorem mz_ok108 : mz_Rg mz_r108 := mz_chk_ok mz_gtA (5033, 1001, 5031, 5032) (by decide +kernel)
set_option maxRecDepth 100000 in
theorem mz_ok109 : mz_Rg mz_r109 := mz_chk_ok mz_gtA (2141, 1001, 2140, 0) (by decide +kernel)
set_option maxRecDepth 100000 in
theorem mz_ok110 : mz_Rg mz_r110 := mz_chk_ok mz_gtA (4060, 1001, 4059, 11) (by decide +kernel)
set_option maxRecDepth 100000 in
theorem mz_ok111 : mz_Rg mz_r111 := mz_chk_ok mz_gtA (4120, 1001, 4119, 13) (by decide +kernel)
set_option maxRecDepth 100000 in
theorem mz_ok112 : mz_Rg mz_r112 := mz_chk_ok mz_gtA (4219, 1001, 4218, 17) (by decide +kernel)
set_option maxRecDepth 100000 in
theorem mz_ok113 : mz_Rg mz_r113 := mz_chk_ok mz_gtA (2128, 1001, 2127, 0) (by decide +kernel)
set_option maxRecDepth 100000 in
theorem mz_ok114 : mz_Rg mz_r114 := mz_chk_ok mz_gtA (2131, 1001, 2130, 0) (by decide +kernel)
set_option maxRecDepth 100000 in
theorem mz_ok115 : mz_Rg mz_r115 := mz_chk_ok mz_gtA (2207, 1001, 2206, 0) (by decide +kernel)
set_option maxRecDepth 100000 in
theorem mz_ok116 : mz_Rg mz_r116 := mz_chk_ok mz_gtA (2137, 1001, 2136, 0) (by decide +kernel)
set_option maxRecDepth 100000 in
theorem mz_ok117 : mz_Rg mz_r117 := mz_chk_ok mz_gtA (3168, 1001, 3167, 0) (by decide +kernel)
set_option maxRecDepth 100000 in
theorem mz_ok118 : mz_Rg mz_r118 := mz_chk_ok mz_gtA (4026, 1001, 4025, 0) (by decide +kernel)
set_option maxRecDepth 100000 in
theorem mz_ok119 : mz_Rg mz_r119 := mz_chk_ok mz_gtA (3009, 1001, 3008, 0) (by decide +kernel)
set_option maxRecDepth 100000 in
theorem mz_ok120 : mz_Rg mz_r120 := mz_chk_ok mz_gtA (3012, 1001, 3011, 0) (by decide +kernel)
set_option maxRecDepth 100000 in
theorem mz_ok121 : mz_Rg mz_r121 := mz_chk_ok mz_gtA (2134, 1001, 2133, 0) (by decide +kernel)
set_option maxRecDepth 100000 in
theorem mz_ok122 : mz_Rg mz_r122 := mz_chk_ok mz_gtA (2190, 1001, 2189, 0) (by decide +kernel)
set_option maxRecDepth 100000 in
theorem mz_ok123 : mz_Rg mz_r123 := mz_chk_ok mz_gtA (2179, 1001, 2178, 0) (by decide +kernel)
set_option maxRecDepth 100000 in
theorem mz_ok124 : mz_Rg mz_r124 := mz_chk_ok mz_gtA (4097, 1001, 4096, 0) (by decide +kernel)
set_option maxRecDepth 100000 in
theorem mz_ok125 : mz_Rg mz_r125 := mz_chk_ok mz_gtA (4116, 1001, 4115, 0) (by decide +kernel)
set_option maxRecDepth 100000 in
theorem mz_ok126 : mz_Rg mz_r126 := mz_chk_ok mz_gtA (3146, 1001, 3145, 0) (by decide +kernel)
set_option maxRecDepth 100000 in
theorem mz_ok127 : mz_Rg mz_r127 := mz_chk_ok mz_gtA (5135, 1012, 5134, 18) (by decide +kernel)
set_option maxRecDepth 100000 in
theorem mz_ok128 : mz_Rg mz_r128 := mz_chk_ok mz_gtA (5128, 1012, 5127, 0) (by decide +kernel)
set_option maxRecDepth 100000 in
theorem mz_ok129 : mz_Rg mz_r129 := mz_chk_ok mz_gtA (5163, 1012, 5162, 0) (by decide +kernel)
set_option maxRecDepth 100000 in
theorem mz_ok130 : mz_Rg mz_r130 := mz_chk_ok mz_gtA (5185, 1012, 5184, 0) (by decide +kernel)
set_option maxRecDepth 100000 in
theorem mz_ok131 : mz_Rg mz_r131 := mz_chk_ok mz_gtA (5131, 1012, 5130, 0) (by decide +kernel)
set_option maxRecDepth 100000 in
theorem mz_ok132 : mz_Rg mz_r132 := mz_chk_ok mz_gtA (5148, 1012, 5147, 20) (by decide +kernel)
set_option maxRecDepth 100000 in
theorem mz_ok133 : mz_Rg mz_r133 := mz_chk_ok mz_gtA (5152, 1012, 5151, 21) (by decide +kernel)
set_option maxRecDepth 100000 in
theorem mz_ok134 : mz_Rg mz_r134 := mz_chk_ok mz_gtA (5192, 1012, 5191, 0) (by decide +kernel)
set_option maxRecDepth 100000 in
theorem mz_ok135 : mz_Rg mz_r135 := mz_chk_ok mz_gtA (5125, 1012, 5124, 0) (by decide +kernel)
set_option maxRecDepth 100000 in
theorem mz_ok136 : mz_Rg mz_r136 := mz_chk_ok mz_gtA (5140, 1012, 5139, 19) (by decide +kernel)
set_option maxRecDepth 100000 in
theorem mz_ok137 : mz_Rg mz_r137 := mz_chk_ok mz_gtA (5122, 1012, 5120, 5121) (by decide +kernel)
set_option maxRecDepth 100000 in
theorem mz_ok138 : mz_Rg mz_r138 := mz_chk_ok mz_gtA (5144, 1012, 5142, 5143) (by decide +kernel)
set_option maxRecDepth 100000 in
theorem mz_ok139 : mz_Rg mz_r139 := mz_chk_ok mz_gtA (5189, 1012, 5187, 5188) (by decide +kernel)
set_option maxRecDepth 100000 in
theorem mz_ok140 : mz_Rg mz_r140 := mz_chk_ok mz_gtA (5196, 1012, 5194, 5195) (by decide +kernel)
set_option maxRecDepth 100000 in
theorem mz_ok141 : mz_Rg mz_r141 := mz_chk_ok mz_gtA (5200, 1012, 5198, 5199) (by decide +kernel)
set_option maxRecDepth 100000 in
theorem mz_ok142 : mz_Rg mz_r142 := mz_chk_ok mz_gtA (5207, 1012, 5206, 0) (by decide +kernel)
set_option maxRecDepth 100000 in
theorem mz_ok143 : mz_Rg mz_r143 := mz_chk_ok mz_gtA (5204, 1012, 5202, 5203) (by decide +kernel)
set_option maxRecDepth 100000 in
theorem mz_ok144 : mz_Rg mz_r144 := mz_chk_ok mz_gtA (5215, 1012, 5214, 28) (by decide +kernel)
set_option maxRecDepth 100000 in
theorem mz_ok145 : mz_Rg mz_r145 := mz_chk_ok mz_gtA (5156, 1012, 5155, 22) (by decide +kernel)
set_option maxRecDepth 100000 in
theorem mz_ok146 : mz_Rg mz_r146 := mz_chk_ok mz_gtA (6040, 1012, 6039, 40) (by decide +kernel)
set_option maxRecDepth 100000 in
theorem mz_ok147 : mz_Rg mz_r147 := mz_chk_ok mz_gtA (5160, 1012, 5159, 23) (by decide +kernel)
set_option maxRecDepth 100000 in
theorem mz_ok148 : mz_Rg mz_r148 := mz_chk_ok mz_gtA (5219, 1012, 5218, 29) (by decide +kernel)
set_option maxRecDepth 100000 in
theorem mz_ok149 : mz_Rg mz_r149 := mz_chk_ok mz_gtA (5171, 1012, 5170, 25) (by decide +kernel)
set_option maxRecDepth 100000 in
theorem mz_ok150 : mz_Rg mz_r150 := mz_chk_ok mz_gtA (5167, 1012, 5166, 24) (by decide +kernel)
set_option maxRecDepth 100000 in
theorem mz_ok151 : mz_Rg mz_r151 := mz_chk_ok mz_gtA (6063, 1012, 6062, 43) (by decide +kernel)
set_option maxRecDepth 100000 in
theorem mz_ok152 : mz_Rg mz_r152 := mz_chk_ok mz_gtA (6059, 1012, 6058, 42) (by decide +kernel)
set_option maxRecDepth 100000 in
theorem mz_ok153 : mz_Rg mz_r153 := mz_chk_ok mz_gtA (6071, 1012, 6070, 44) (by decide +kernel)
set_option maxRecDepth 100000 in
theorem mz_ok154 : mz_Rg mz_r154 := mz_chk_ok mz_gtA (6079, 1012, 6078, 45) (by decide +kernel)
set_option maxRecDepth 100000 in
theorem mz_ok155 : mz_Rg mz_r155 := mz_chk_ok mz_gtA (6087, 1012, 6086, 46) (by decide +kernel)
set_option maxRecDepth 100000 in
theorem mz_ok156 : mz_Rg mz_r156 := mz_chk_ok mz_gtA (6055, 1012, 6054, 41) (by decide +kernel)
set_option maxRecDepth 100000 in
theorem mz_ok157 : mz_Rg mz_r157 := mz_chk_ok mz_gtA (5211, 1012, 5209, 5210) (by decide +kernel)
set_option maxRecDepth 100000 in
theorem mz_ok158 : mz_Rg mz_r158 := mz_chk_ok mz_gtA (5223, 1012, 5221, 5222) (by decide +kernel)
set_option maxRecDepth 100000 in
theorem mz_ok159 : mz_Rg mz_r159 := mz_chk_ok mz_gtA (6016, 1012, 6015, 36) (by decide +kernel)
set_option maxRecDepth 100000 in
theorem mz_ok160 : mz_Rg mz_r160 := mz_chk_ok mz_gtA (6020, 1012, 6019, 37) (by decide +kernel)
set_option maxRecDepth 100000 in
theorem mz_ok161 : mz_Rg mz_r161 := mz_chk_ok mz_gtA (6024, 1012, 6023, 38) (by decide +kernel)
set_option maxRecDepth 100000 in
theorem mz_ok162 : mz_Rg mz_r162 := mz_chk_ok mz_gtA (5232, 1012, 5231, 30) (by decide +kernel)
set_option maxRecDepth 100000 in
theorem mz_ok163 : mz_Rg mz_r163 := mz_chk_ok mz_gtA (5236, 1012, 5235, 31) (by decide +kernel)
set_option maxRecDepth 100000 in
theorem mz_ok164 : mz_Rg mz_r164 := mz_chk_ok mz_gtA (6000, 1012, 5239, 32) (by decide +kernel)
set_option maxRecDepth 100000 in
theorem mz_ok165 : mz_Rg mz_r165 := mz_chk_ok mz_gtA (6004, 1012, 6003, 33) (by decide +kernel)
set_option maxRecDepth 100000 in
theorem mz_ok166 : mz_Rg mz_r166 := mz_chk_ok mz_gtA (6008, 1012, 6007, 34) (by decide +kernel)
set_option maxRecDepth 100000 in
theorem mz_ok167 : mz_Rg mz_r167 := mz_chk_ok mz_gtA (6028, 1012, 6027, 39) (by decide +kernel)
set_option maxRecDepth 100000 in
theorem mz_ok168 : mz_Rg mz_r168 := mz_chk_ok mz_gtA (6012, 1012, 6011, 35) (by decide +kernel)
set_option maxRecDepth 100000 in
theorem mz_ok169 : mz_Rg mz_r169 := mz_chk_ok mz_gtA (5175, 1012, 5174, 26) (by decide +kernel)
set_option maxRecDepth 100000 in
theorem mz_ok170 : mz_Rg mz_r170 := mz_chk_ok mz_gtA (5228, 1012, 5226, 5227) (by decide +kernel)
set_option maxRecDepth 100000 in
theorem mz_ok171 : mz_Rg mz_r171 := mz_chk_ok mz_gtA (6032, 1012, 6030, 6031) (by decide +kernel)
set_option maxRecDepth 100000 in
theorem mz_ok172 : mz_Rg mz_r172 := mz_chk_ok mz_gtA (5182, 1012, 5181, 0) (by decide +kernel)
set_option maxRecDepth 100000 in
theorem mz_ok173 : mz_Rg mz_r173 := mz_chk_ok mz_gtA (5179, 1012, 5178, 27) (by decide +kernel)
set_option maxRecDepth 100000 in
theorem mz_ok174 : mz_Rg mz_r174 := mz_chk_ok mz_gtA (6036, 1012, 6034, 6035) (by decide +kernel)
set_option maxRecDepth 100000 in
theorem mz_ok175 : mz_Rg mz_r175 := mz_chk_ok mz_gtA (6047, 1012, 6046, 0) (by decide +kernel)
set_option maxRecDepth 100000 in
theorem mz_ok176 : mz_Rg mz_r176 := mz_chk_ok mz_gtA (6044, 1012, 6042, 6043) (by decide +kernel)
set_option maxRecDepth 100000 in
theorem mz_ok177 : mz_Rg mz_r177 := mz_chk_ok mz_gtA (6051, 1012, 6049, 6050) (by decide +kernel)
set_option maxRecDepth 100000 in
theorem mz_ok178 : mz_Rg mz_r178 := mz_chk_ok mz_gtA (6067, 1012, 6065, 6066) (by decide +kernel)
set_option maxRecDepth 100000 in
theorem mz_ok179 : mz_Rg mz_r179 := mz_chk_ok mz_gtA (6075, 1012, 6073, 6074) (by decide +kernel)
set_option maxRecDepth 100000 in
theorem mz_ok180 : mz_Rg mz_r180 := mz_chk_ok mz_gtA (6083, 1012, 6081, 6082) (by decide +kernel)
set_option maxRecDepth 100000 in
theorem mz_ok181 : mz_Rg mz_r181 := mz_chk_ok mz_gtA (6091, 1012, 6089, 6090) (by decide +kernel)
set_option maxRecDepth 100000 in
theorem mz_ok182 : mz_Rg mz_r182 := mz_chk_ok mz_gtA (6095, 1012, 6093, 6094) (by decide +kernel)
set_option maxRecDepth 100000 in
theorem mz_ok183 : mz_Rg mz_r183 := mz_chk_ok mz_gtA (6119, 1012, 6118, 50) (by decide +kernel)
set_option maxRecDepth 100000 in
theorem mz_ok184 : mz_Rg mz_r184 := mz_chk_ok mz_gtA (6127, 1012, 6126, 52) (by decide +kernel)
set_option maxRecDepth 100000 in
theorem mz_ok185 : mz_Rg mz_r185 := mz_chk_ok mz_gtA (6115, 1012, 6114, 49) (by decide +kernel)
set_option maxRecDepth 100000 in
theorem mz_ok186 : mz_Rg mz_r186 := mz_chk_ok mz_gtA (6107, 1012, 6106, 48) (by decide +kernel)
set_option maxRecDepth 100000 in
theorem mz_ok187 : mz_Rg mz_r187 := mz_chk_ok mz_gtA (6123, 1012, 6122, 51) (by decide +kernel)
set_option maxRecDepth 100000 in
theorem mz_ok188 : mz_Rg mz_r188 := mz_chk_ok mz_gtA (6134, 1012, 6133, 0) (by decide +kernel)
set_option maxRecDepth 100000 in
theorem mz_ok189 : mz_Rg mz_r189 := mz_chk_ok mz_gtA (6103, 1012, 6102, 47) (by decide +kernel)
set_option maxRecDepth 100000 in
theorem mz_ok190 : mz_Rg mz_r190 := mz_chk_ok mz_gtA (6099, 1012, 6097, 6098) (by decide +kernel)
set_option maxRecDepth 100000 in
theorem mz_ok191 : mz_Rg mz_r191 := mz_chk_ok mz_gtA (6111, 1012, 6109, 6110) (by decide +kernel)
set_option maxRecDepth 100000 in
theorem mz_ok192 : mz_Rg mz_r192 := mz_chk_ok mz_gtA (6142, 1012, 6141, 54) (by decide +kernel)
set_option maxRecDepth 100000 in
theorem mz_ok193 : mz_Rg mz_r193 := mz_chk_ok mz_gtA (6138, 1012, 6137, 53) (by decide +kernel)
set_option maxRecDepth 100000 in
theorem mz_ok194 : mz_Rg mz_r194 := mz_chk_ok mz_gtA (6131, 1012, 6129, 6130) (by decide +kernel)
set_option maxRecDepth 100000 in
theorem mz_ok195 : mz_Rg mz_r195 := mz_chk_ok mz_gtA (6154, 1012, 6153, 56) (by decide +kernel)
set_option maxRecDepth 100000 in
theorem mz_ok196 : mz_Rg mz_r196 := mz_chk_ok mz_gtA (6150, 1012, 6149, 55) (by decide +kernel)
set_option maxRecDepth 100000 in
theorem mz_ok197 : mz_Rg mz_r197 := mz_chk_ok mz_gtA (6146, 1012, 6144, 6145) (by decide +kernel)
set_option maxRecDepth 100000 in
theorem mz_ok198 : mz_Rg mz_r198 := mz_chk_ok mz_gtA (6162, 1012, 6161, 57) (by decide +kernel)
set_option maxRecDepth 100000 in
theorem mz_ok199 : mz_Rg mz_r199 := mz_chk_ok mz_gtA (6158, 1012, 6156, 6157) (by decide +kernel)
set_option maxRecDepth 100000 in
theorem mz_ok200 : mz_Rg mz_r200 := mz_chk_ok mz_gtA (6166, 1012, 6164, 6165) (by decide +kernel)
set_option maxRecDepth 100000 in
theorem mz_ok201 : mz_Rg mz_r201 := mz_chk_ok mz_gtA (6170, 1012, 6168, 6169) (by decide +kernel)
set_option maxRecDepth 100000 in
theorem mz_ok202 : mz_Rg mz_r202 := mz_chk_ok mz_gtA (6174, 1012, 6172, 6173) (by decide +kernel)
set_option maxRecDepth 100000 in
theorem mz_ok203 : mz_Rg mz_r203 := mz_chk_ok mz_gtA (6182, 1012, 6181, 58) (by decide +kernel)
set_option maxRecDepth 100000 in
theorem mz_ok204 : mz_Rg mz_r204 := mz_chk_ok mz_gtA (6178, 1012, 6176, 6177) (by decide +kernel)
set_option maxRecDepth 100000 in
theorem mz_ok205 : mz_Rg mz_r205 := mz_chk_ok mz_gtA (6190, 1012, 6189, 59) (by decide +kernel)
set_option maxRecDepth 100000 in
theorem mz_ok206 : mz_Rg mz_r206 := mz_chk_ok mz_gtA (6186, 1012, 6184, 6185) (by decide +kernel)
set_option maxRecDepth 100000 in
theorem mz_ok207 : mz_Rg mz_r207 := mz_chk_ok mz_gtA (6195, 1012, 6193, 6194) (by decide +kernel)
set_option maxRecDepth 100000 in
theorem mz_ok208 : mz_Rg mz_r208 := mz_chk_ok mz_gtA (6199, 1012, 6197, 6198) (by decide +kernel)
set_option maxRecDepth 100000 in
theorem mz_ok209 : mz_Rg mz_r209 := mz_chk_ok mz_gtA (6215, 1012, 6214, 62) (by decide +kernel)
set_option maxRecDepth 100000 in
theorem mz_ok210 : mz_Rg mz_r210 := mz_chk_ok mz_gtA (6222, 1012, 6221, 0) (by decide +kernel)
set_option maxRecDepth 100000 in
theorem mz_ok211 : mz_Rg mz_r211 := mz_chk_ok mz_gtA (6207, 1012, 6206, 60) (by decide +kernel)
set_option maxRecDepth 100000 in
theorem mz_ok212 : mz_Rg mz_r212 := mz_chk_ok mz_gtA (6219, 1012, 6218, 63) (by decide +kernel)
set_option maxRecDepth 100000 in
theorem mz_ok213 : mz_Rg mz_r213 := mz_chk_ok mz_gtA (6211, 1012, 6210, 61) (by decide +kernel)
set_option maxRecDepth 100000 in
theorem mz_ok214 : mz_Rg mz_r214 := mz_chk_ok mz_gtA (6226, 1012, 6225, 64) (by decide +kernel)
set_option maxRecDepth 100000 in
theorem mz_ok215 : mz_Rg mz_r215 := mz_chk_ok mz_gtA (6230, 1012, 6229, 65) (by decide +kernel)
set_option maxRecDepth 100000 in
theorem mz_ok216 : mz_Rg mz_r216 := mz_chk_ok mz_gtA (6234, 1012, 6233, 66) (by decide +kernel)
set_option maxRecDepth 100000 in
theorem mz_ok217 : mz_Rg mz_r217 := mz_chk_ok mz_gtA (6203, 1012, 6201, 6202) (by decide +kernel)
set_option maxRecDepth 100000 in
theorem mz_ok218 : mz_Rg mz_r218 := mz_chk_ok mz_gtA (6238, 1012, 6236, 6237) (by decide +kernel)
set_option maxRecDepth 100000 in
theorem mz_ok219 : mz_Rg mz_r219 := mz_chk_ok mz_gtA (7005, 1012, 7004, 0) (by decide +kernel)
set_option maxRecDepth 100000 in
theorem mz_ok220 : mz_Rg mz_r220 := mz_chk_ok mz_gtA (7002, 1012, 7000, 7001) (by decide +kernel)
set_option maxRecDepth 100000 in
theorem mz_ok221 : mz_Rg mz_r221 := mz_chk_ok mz_gtA (7009, 1012, 7007, 7008) (by decide +kernel)
set_option maxRecDepth 100000 in
theorem mz_ok222 : mz_Rg mz_r222 := mz_chk_ok mz_gtA (7013, 1012, 7011, 7012) (by decide +kernel)
set_option maxRecDepth 100000 in
theorem mz_ok223 : mz_Rg mz_r223 := mz_chk_ok mz_gtA (7017, 1012, 7015, 7016) (by decide +kernel)
set_option maxRecDepth 100000 in
theorem mz_ok224 : mz_Rg mz_r224 := mz_chk_ok mz_gtA (7021, 1012, 7019, 7020) (by decide +kernel)
set_option maxRecDepth 100000 in
theorem mz_ok225 : mz_Rg mz_r225 := mz_chk_ok mz_gtA (7025, 1012, 7023, 7024) (by decide +kernel)
set_option maxRecDepth 100000 in
theorem mz_ok226 : mz_Rg mz_r226 := mz_chk_ok mz_gtA (7029, 1012, 7027, 7028) (by decide +kernel)
set_option maxRecDepth 100000 in
theorem mz_ok227 : mz_Rg mz_r227 := mz_chk_ok mz_gtA (7033, 1012, 7031, 7032) (by decide +kernel)
set_option maxRecDepth 100000 in
theorem mz_ok228 : mz_Rg mz_r228 := mz_chk_ok mz_gtA (7037, 1012, 7035, 7036) (by decide +kernel)
set_option maxRecDepth 100000 in
theorem mz_ok229 : mz_Rg mz_r229 := mz_chk_ok mz_gtA (7041, 1012, 7039, 7040) (by decide +kernel)
set_option maxRecDepth 100000 in
theorem mz_ok230 : mz_Rg mz_r230 := mz_chk_ok mz_gtA (3054, 1014, 3052, 3053) (by decide +kernel)
set_option maxRecDepth 100000 in
theorem mz_ok231 : mz_Rg mz_r231 := mz_chk_ok mz_gtA (3058, 1014, 3056, 3057) (by decide +kernel)
set_option maxRecDepth 100000 in
theorem mz_ok232 : mz_Rg mz_r232 := mz_chk_ok mz_gtA (3062, 1014, 3060, 3061) (by decide +kernel)
set_option maxRecDepth 100000 in
theorem mz_ok233 : mz_Rg mz_r233 := mz_chk_ok mz_gtA (3068, 1014, 3066, 3067) (by decide +kernel)
set_option maxRecDepth 100000 in
theorem mz_ok234 : mz_Rg mz_r234 := mz_chk_ok mz_gtA (3072, 1014, 3070, 3071) (by decide +kernel)
set_option maxRecDepth 100000 in
theorem mz_ok235 : mz_Rg mz_r235 := mz_chk_ok mz_gtA (3075, 1015, 3074, 0) (by decide +kernel)
set_option maxRecDepth 100000 in
theorem mz_ok236 : mz_Rg mz_r236 := mz_chk_ok mz_gtA (3078, 1015, 3077, 0) (by decide +kernel)
set_option maxRecDepth 100000 in
theorem mz_ok237 : mz_Rg mz_r237 := mz_chk_ok mz_gtA (3083, 1015, 3082, 0) (by decide +kernel)
set_option maxRecDepth 100000 in
theorem mz_okT_0 : ∀ r ∈ mz_T_0, mz_Rg r := List.forall_mem_cons.mpr ⟨mz_ok0, List.forall_mem_cons.mpr ⟨mz_ok1, List.forall_mem_cons.mpr ⟨mz_ok2, List.forall_mem_cons.mpr ⟨mz_ok3, List.forall_mem_cons.mpr ⟨mz_ok4, List.forall_mem_cons.mpr ⟨mz_ok5, List.forall_mem_cons.mpr ⟨mz_ok6, List.forall_mem_cons.mpr ⟨mz_ok7, List.forall_mem_cons.mpr ⟨mz_ok8, List.forall_mem_cons.mpr ⟨mz_ok9, List.forall_mem_cons.mpr ⟨mz_ok10, List.forall_mem_cons.mpr ⟨mz_ok11, List.forall_mem_cons.mpr ⟨mz_ok12, List.forall_mem_cons.mpr ⟨mz_ok13, List.forall_mem_cons.mpr ⟨mz_ok14, List.forall_mem_cons.mpr ⟨mz_ok15, List.forall_mem_cons.mpr ⟨mz_ok16, List.forall_mem_cons.mpr ⟨mz_ok17, List.forall_mem_cons.mpr ⟨mz_ok18, List.forall_mem_cons.mpr ⟨mz_ok19, List.forall_mem_cons.mpr ⟨mz_ok20, List.forall_mem_cons.mpr ⟨mz_ok21, List.forall_mem_cons.mpr ⟨mz_ok22, List.forall_mem_cons.mpr ⟨mz_ok23, List.forall_mem_cons.mpr ⟨mz_ok24, List.forall_mem_cons.mpr ⟨mz_ok25, List.forall_mem_cons.mpr ⟨mz_ok26, List.forall_mem_cons.mpr ⟨mz_ok27, List.forall_mem_cons.mpr ⟨mz_ok28, List.forall_mem_cons.mpr ⟨mz_ok29, List.forall_mem_cons.mpr ⟨mz_ok30, List.forall_mem_cons.mpr ⟨mz_ok31, List.forall_mem_cons.mpr ⟨mz_ok32, List.forall_mem_cons.mpr ⟨mz_ok33, List.forall_mem_cons.mpr ⟨mz_ok34, List.forall_mem_cons.mpr ⟨mz_ok35, List.forall_mem_cons.mpr ⟨mz_ok36, List.forall_mem_cons.mpr ⟨mz_ok37, List.forall_mem_cons.mpr ⟨mz_ok38, List.forall_mem_cons.mpr ⟨mz_ok39, fun _ h => absurd h List.not_mem_nil⟩⟩⟩⟩⟩⟩⟩⟩⟩⟩⟩⟩⟩⟩⟩⟩⟩⟩⟩⟩⟩⟩⟩⟩⟩⟩⟩⟩⟩⟩⟩⟩⟩⟩⟩⟩⟩⟩⟩⟩
set_option maxRecDepth 100000 in
theorem mz_okT_1 : ∀ r ∈ mz_T_1, mz_Rg r := List.forall_mem_cons.mpr ⟨mz_ok40, List.forall_mem_cons.mpr ⟨mz_ok41, List.forall_mem_cons.mpr ⟨mz_ok42, List.forall_mem_cons.mpr ⟨mz_ok43, List.forall_mem_cons.mpr ⟨mz_ok44, List.forall_mem_cons.mpr ⟨mz_ok45, List.forall_mem_cons.mpr ⟨mz_ok46, List.forall_mem_cons.mpr ⟨mz_ok47, List.forall_mem_cons.mpr ⟨mz_ok48, List.forall_mem_cons.mpr ⟨mz_ok49, List.forall_mem_cons.mpr ⟨mz_ok50, List.forall_mem_cons.mpr ⟨mz_ok51, List.forall_mem_cons.mpr ⟨mz_ok52, List.forall_mem_cons.mpr ⟨mz_ok53, List.forall_mem_cons.mpr ⟨mz_ok54, List.forall_mem_cons.mpr ⟨mz_ok55, List.forall_mem_cons.mpr ⟨mz_ok56, List.forall_mem_cons.mpr ⟨mz_ok57, List.forall_mem_cons.mpr ⟨mz_ok58, List.forall_mem_cons.mpr ⟨mz_ok59, List.forall_mem_cons.mpr ⟨mz_ok60, List.forall_mem_cons.mpr ⟨mz_ok61, List.forall_mem_cons.mpr ⟨mz_ok62, List.forall_mem_cons.mpr ⟨mz_ok63, List.forall_mem_cons.mpr ⟨mz_ok64, List.forall_mem_cons.mpr ⟨mz_ok65, List.forall_mem_cons.mpr ⟨mz_ok66, List.forall_mem_cons.mpr ⟨mz_ok67, List.forall_mem_cons.mpr ⟨mz_ok68, List.forall_mem_cons.mpr ⟨mz_ok69, List.forall_mem_cons.mpr ⟨mz_ok70, List.forall_mem_cons.mpr ⟨mz_ok71, List.forall_mem_cons.mpr ⟨mz_ok72, List.forall_mem_cons.mpr ⟨mz_ok73, List.forall_mem_cons.mpr ⟨mz_ok74, List.forall_mem_cons.mpr ⟨mz_ok75, List.forall_mem_cons.mpr ⟨mz_ok76, List.forall_mem_cons.mpr ⟨mz_ok77, List.forall_mem_cons.mpr ⟨mz_ok78, List.forall_mem_cons.mpr ⟨mz_ok79, fun _ h => absurd h List.not_mem_nil⟩⟩⟩⟩⟩⟩⟩⟩⟩⟩⟩⟩⟩⟩⟩⟩⟩⟩⟩⟩⟩⟩⟩⟩⟩⟩⟩⟩⟩⟩⟩⟩⟩⟩⟩⟩⟩⟩⟩⟩
set_option maxRecDepth 100000 in
theorem mz_okT_2 : ∀ r ∈ mz_T_2, mz_Rg r := List.forall_mem_cons.mpr ⟨mz_ok80, List.forall_mem_cons.mpr ⟨mz_ok81, List.forall_mem_cons.mpr ⟨mz_ok82, List.forall_mem_cons.mpr ⟨mz_ok83, List.forall_mem_cons.mpr ⟨mz_ok84, List.forall_mem_cons.mpr ⟨mz_ok85, List.forall_mem_cons.mpr ⟨mz_ok86, List.forall_mem_cons.mpr ⟨mz_ok87, List.forall_mem_cons.mpr ⟨mz_ok88, List.forall_mem_cons.mpr ⟨mz_ok89, List.forall_mem_cons.mpr ⟨mz_ok90, List.forall_mem_cons.mpr ⟨mz_ok91, List.forall_mem_cons.mpr ⟨mz_ok92, List.forall_mem_cons.mpr ⟨mz_ok93, List.forall_mem_cons.mpr ⟨mz_ok94, List.forall_mem_cons.mpr ⟨mz_ok95, List.forall_mem_cons.mpr ⟨mz_ok96, List.forall_mem_cons.mpr ⟨mz_ok97, List.forall_mem_cons.mpr ⟨mz_ok98, List.forall_mem_cons.mpr ⟨mz_ok99, List.forall_mem_cons.mpr ⟨mz_ok100, List.forall_mem_cons.mpr ⟨mz_ok101, List.forall_mem_cons.mpr ⟨mz_ok102, List.forall_mem_cons.mpr ⟨mz_ok103, List.forall_mem_cons.mpr ⟨mz_ok104, List.forall_mem_cons.mpr ⟨mz_ok105, List.forall_mem_cons.mpr ⟨mz_ok106, List.forall_mem_cons.mpr ⟨mz_ok107, List.forall_mem_cons.mpr ⟨mz_ok108, List.forall_mem_cons.mpr ⟨mz_ok109, List.forall_mem_cons.mpr ⟨mz_ok110, List.forall_mem_cons.mpr ⟨mz_ok111, List.forall_mem_cons.mpr ⟨mz_ok112, List.forall_mem_cons.mpr ⟨mz_ok113, List.forall_mem_cons.mpr ⟨mz_ok114, List.forall_mem_cons.mpr ⟨mz_ok115, List.forall_mem_cons.mpr ⟨mz_ok116, List.forall_mem_cons.mpr ⟨mz_ok117, List.forall_mem_cons.mpr ⟨mz_ok118, List.forall_mem_cons.mpr ⟨mz_ok119, fun _ h => absurd h List.not_mem_nil⟩⟩⟩⟩⟩⟩⟩⟩⟩⟩⟩⟩⟩⟩⟩⟩⟩⟩⟩⟩⟩⟩⟩⟩⟩⟩⟩⟩⟩⟩⟩⟩⟩⟩⟩⟩⟩⟩⟩⟩
set_option maxRecDepth 100000 in
theorem mz_okT_3 : ∀ r ∈ mz_T_3, mz_Rg r := List.forall_mem_cons.mpr ⟨mz_ok120, List.forall_mem_cons.mpr ⟨mz_ok121, List.forall_mem_cons.mpr ⟨mz_ok122, List.forall_mem_cons.mpr ⟨mz_ok123, List.forall_mem_cons.mpr ⟨mz_ok124, List.forall_mem_cons.mpr ⟨mz_ok125, List.forall_mem_cons.mpr ⟨mz_ok126, List.forall_mem_cons.mpr ⟨mz_ok127, List.forall_mem_cons.mpr ⟨mz_ok128, List.forall_mem_cons.mpr ⟨mz_ok129, List.forall_mem_cons.mpr ⟨mz_ok130, List.forall_mem_cons.mpr ⟨mz_ok131, List.forall_mem_cons.mpr ⟨mz_ok132, List.forall_mem_cons.mpr ⟨mz_ok133, List.forall_mem_cons.mpr ⟨mz_ok134, List.forall_mem_cons.mpr ⟨mz_ok135, List.forall_mem_cons.mpr ⟨mz_ok136, List.forall_mem_cons.mpr ⟨mz_ok137, List.forall_mem_cons.mpr ⟨mz_ok138, List.forall_mem_cons.mpr ⟨mz_ok139, List.forall_mem_cons.mpr ⟨mz_ok140, List.forall_mem_cons.mpr ⟨mz_ok141, List.forall_mem_cons.mpr ⟨mz_ok142, List.forall_mem_cons.mpr ⟨mz_ok143, List.forall_mem_cons.mpr ⟨mz_ok144, List.forall_mem_cons.mpr ⟨mz_ok145, List.forall_mem_cons.mpr ⟨mz_ok146, List.forall_mem_cons.mpr ⟨mz_ok147, List.forall_mem_cons.mpr ⟨mz_ok148, List.forall_mem_cons.mpr ⟨mz_ok149, List.forall_mem_cons.mpr ⟨mz_ok150, List.forall_mem_cons.mpr ⟨mz_ok151, List.forall_mem_cons.mpr ⟨mz_ok152, List.forall_mem_cons.mpr ⟨mz_ok153, List.forall_mem_cons.mpr ⟨mz_ok154, List.forall_mem_cons.mpr ⟨mz_ok155, List.forall_mem_cons.mpr ⟨mz_ok156, List.forall_mem_cons.mpr ⟨mz_ok157, List.forall_mem_cons.mpr ⟨mz_ok158, List.forall_mem_cons.mpr ⟨mz_ok159, fun _ h => absurd h List.not_mem_nil⟩⟩⟩⟩⟩⟩⟩⟩⟩⟩⟩⟩⟩⟩⟩⟩⟩⟩⟩⟩⟩⟩⟩⟩⟩⟩⟩⟩⟩⟩⟩⟩⟩⟩⟩⟩⟩⟩⟩⟩
set_option maxRecDepth 100000 in
theorem mz_okT_4 : ∀ r ∈ mz_T_4, mz_Rg r := List.forall_mem_cons.mpr ⟨mz_ok160, List.forall_mem_cons.mpr ⟨mz_ok161, List.forall_mem_cons.mpr ⟨mz_ok162, List.forall_mem_cons.mpr ⟨mz_ok163, List.forall_mem_cons.mpr ⟨mz_ok164, List.forall_mem_cons.mpr ⟨mz_ok165, List.forall_mem_cons.mpr ⟨mz_ok166, List.forall_mem_cons.mpr ⟨mz_ok167, List.forall_mem_cons.mpr ⟨mz_ok168, List.forall_mem_cons.mpr ⟨mz_ok169, List.forall_mem_cons.mpr ⟨mz_ok170, List.forall_mem_cons.mpr ⟨mz_ok171, List.forall_mem_cons.mpr ⟨mz_ok172, List.forall_mem_cons.mpr ⟨mz_ok173, List.forall_mem_cons.mpr ⟨mz_ok174, List.forall_mem_cons.mpr ⟨mz_ok175, List.forall_mem_cons.mpr ⟨mz_ok176, List.forall_mem_cons.mpr ⟨mz_ok177, List.forall_mem_cons.mpr ⟨mz_ok178, List.forall_mem_cons.mpr ⟨mz_ok179, List.forall_mem_cons.mpr ⟨mz_ok180, List.forall_mem_cons.mpr ⟨mz_ok181, List.forall_mem_cons.mpr ⟨mz_ok182, List.forall_mem_cons.mpr ⟨mz_ok183, List.forall_mem_cons.mpr ⟨mz_ok184, List.forall_mem_cons.mpr ⟨mz_ok185, List.forall_mem_cons.mpr ⟨mz_ok186, List.forall_mem_cons.mpr ⟨mz_ok187, List.forall_mem_cons.mpr ⟨mz_ok188, List.forall_mem_cons.mpr ⟨mz_ok189, List.forall_mem_cons.mpr ⟨mz_ok190, List.forall_mem_cons.mpr ⟨mz_ok191, List.forall_mem_cons.mpr ⟨mz_ok192, List.forall_mem_cons.mpr ⟨mz_ok193, List.forall_mem_cons.mpr ⟨mz_ok194, List.forall_mem_cons.mpr ⟨mz_ok195, List.forall_mem_cons.mpr ⟨mz_ok196, List.forall_mem_cons.mpr ⟨mz_ok197, List.forall_mem_cons.mpr ⟨mz_ok198, List.forall_mem_cons.mpr ⟨mz_ok199, fun _ h => absurd h List.not_mem_nil⟩⟩⟩⟩⟩⟩⟩⟩⟩⟩⟩⟩⟩⟩⟩⟩⟩⟩⟩⟩⟩⟩⟩⟩⟩⟩⟩⟩⟩⟩⟩⟩⟩⟩⟩⟩⟩⟩⟩⟩
set_option maxRecDepth 100000 in
theorem mz_okT_5 : ∀ r ∈ mz_T_5, mz_Rg r := List.forall_mem_cons.mpr ⟨mz_ok200, List.forall_mem_cons.mpr ⟨mz_ok201, List.forall_mem_cons.mpr ⟨mz_ok202, List.forall_mem_cons.mpr ⟨mz_ok203, List.forall_mem_cons.mpr ⟨mz_ok204, List.forall_mem_cons.mpr ⟨mz_ok205, List.forall_mem_cons.mpr ⟨mz_ok206, List.forall_mem_cons.mpr ⟨mz_ok207, List.forall_mem_cons.mpr ⟨mz_ok208, List.forall_mem_cons.mpr ⟨mz_ok209, List.forall_mem_cons.mpr ⟨mz_ok210, List.forall_mem_cons.mpr ⟨mz_ok211, List.forall_mem_cons.mpr ⟨mz_ok212, List.forall_mem_cons.mpr ⟨mz_ok213, List.forall_mem_cons.mpr ⟨mz_ok214, List.forall_mem_cons.mpr ⟨mz_ok215, List.forall_mem_cons.mpr ⟨mz_ok216, List.forall_mem_cons.mpr ⟨mz_ok217, List.forall_mem_cons.mpr ⟨mz_ok218, List.forall_mem_cons.mpr ⟨mz_ok219, List.forall_mem_cons.mpr ⟨mz_ok220, List.forall_mem_cons.mpr ⟨mz_ok221, List.forall_mem_cons.mpr ⟨mz_ok222, List.forall_mem_cons.mpr ⟨mz_ok223, List.forall_mem_cons.mpr ⟨mz_ok224, List.forall_mem_cons.mpr ⟨mz_ok225, List.forall_mem_cons.mpr ⟨mz_ok226, List.forall_mem_cons.mpr ⟨mz_ok227, List.forall_mem_cons.mpr ⟨mz_ok228, List.forall_mem_cons.mpr ⟨mz_ok229, List.forall_mem_cons.mpr ⟨mz_ok230, List.forall_mem_cons.mpr ⟨mz_ok231, List.forall_mem_cons.mpr ⟨mz_ok232, List.forall_mem_cons.mpr ⟨mz_ok233, List.forall_mem_cons.mpr ⟨mz_ok234, List.forall_mem_cons.mpr ⟨mz_ok235, List.forall_mem_cons.mpr ⟨mz_ok236, List.forall_mem_cons.mpr ⟨mz_ok237, fun _ h => absurd h List.not_mem_nil⟩⟩⟩⟩⟩⟩⟩⟩⟩⟩⟩⟩⟩⟩⟩⟩⟩⟩⟩⟩⟩⟩⟩⟩⟩⟩⟩⟩⟩⟩⟩⟩⟩⟩⟩⟩⟩⟩
theorem mz_okT : ∀ r ∈ mz_T, mz_Rg r := List.forall_mem_append.mpr ⟨mz_okT_0, List.forall_mem_append.mpr ⟨mz_okT_1, List.forall_mem_append.mpr ⟨mz_okT_2, List.forall_mem_append.mpr ⟨mz_okT_3, List.forall_mem_append.mpr ⟨mz_okT_4, mz_okT_5⟩⟩⟩⟩⟩
theorem mz_okA : ∀ (a : Nat) (rc : mz_R), mz_T[a]? = some rc → mz_Rok mz_T vwCl mz_NM mz_ST lw_tbl mz_gt rc := fun a rc h => mz_okT rc (List.mem_of_getElem? h)
set_option maxRecDepth 100000 in
theorem mz_c0 : mz_cok lw_tbl (RX0, TX0, 5) := mz_cokb_ok mz_gtA [1133, 1135, 1137, 1139, 1141] (by decide +kernel) nmX0 tyX0 tyX0_ok
set_option maxRecDepth 100000 in
theorem mz_c1 : mz_cok lw_tbl (RX1, TX1, 7) := mz_cokb_ok mz_gtA [1165, 1167, 1169, 1171, 1173, 1175, 1177] (by decide +kernel) nmX1 tyX1 tyX1_ok
set_option maxRecDepth 100000 in
theorem mz_c2 : mz_cok lw_tbl (RX2, TX2, 5) := mz_cokb_ok mz_gtA [1056, 1058, 1060, 1062, 1064] (by decide +kernel) nmX2 tyX2 tyX2_ok
set_option maxRecDepth 100000 in
theorem mz_c3 : mz_cok lw_tbl (RX3, TX3, 5) := mz_cokb_ok mz_gtA [2033, 2035, 2037, 2039, 2041] (by decide +kernel) nmX3 tyX3 tyX3_ok
set_option maxRecDepth 100000 in
theorem mz_c4 : mz_cok lw_tbl (RX4, TX4, 4) := mz_cokb_ok mz_gtA [2009, 2011, 2013, 2015] (by decide +kernel) nmX4 tyX4 tyX4_ok
set_option maxRecDepth 100000 in
theorem mz_c5 : mz_cok lw_tbl (RX5, TX5, 3) := mz_cokb_ok mz_gtA [2090, 2092, 2094] (by decide +kernel) nmX5 tyX5 tyX5_ok
set_option maxRecDepth 100000 in
theorem mz_c6 : mz_cok lw_tbl (RX6, TX6, 13) := mz_cokb_ok mz_gtA [1209, 1211, 1213, 1215, 1217, 1219, 1221, 1223, 1225, 1227, 1229, 1231, 1233] (by decide +kernel) nmX6 tyX6 tyX6_ok
set_option maxRecDepth 100000 in
theorem mz_c7 : mz_cok lw_tbl (RX7, TX7, 2) := mz_cokb_ok mz_gtA [1088, 1090] (by decide +kernel) nmX7 tyX7 tyX7_ok
set_option maxRecDepth 100000 in
theorem mz_c8 : mz_cok lw_tbl (RX8, TX8, 3) := mz_cokb_ok mz_gtA [1105, 1107, 1109] (by decide +kernel) nmX8 tyX8 tyX8_ok
set_option maxRecDepth 100000 in
theorem mz_c9 : mz_cok lw_tbl (RX9, TX9, 8) := mz_cokb_ok mz_gtA [2062, 2064, 2066, 2068, 2070, 2072, 2074, 2076] (by decide +kernel) nmX9 tyX9 tyX9_ok
set_option maxRecDepth 100000 in
theorem mz_c10 : mz_cok lw_tbl (RX10, TX10, 8) := mz_cokb_ok mz_gtA [2105, 2107, 2109, 2111, 2113, 2115, 2117, 2119] (by decide +kernel) nmX10 tyX10 tyX10_ok
set_option maxRecDepth 100000 in
theorem mz_c11 : mz_cok lw_tbl (RX11, TX11, 26) := mz_cokb_ok mz_gtA [5066, 5068, 5070, 5072, 5074, 5076, 5078, 5080, 5082, 5084, 5086, 5088, 5090, 5092, 5094, 5096, 5098, 5100, 5102, 5104, 5106, 5108, 5110, 5112, 5114, 5116] (by decide +kernel) nmX11 tyX11 tyX11_ok
theorem mz_cA : ∀ (k : Nat) (q : vw_C), vwCl[k]? = some q → mz_cok lw_tbl q := by
  intro k q h
  match k, h with
  | 0, h => cases h; exact mz_c0
  | 1, h => cases h; exact mz_c1
  | 2, h => cases h; exact mz_c2
  | 3, h => cases h; exact mz_c3
  | 4, h => cases h; exact mz_c4
  | 5, h => cases h; exact mz_c5
  | 6, h => cases h; exact mz_c6
  | 7, h => cases h; exact mz_c7
  | 8, h => cases h; exact mz_c8
  | 9, h => cases h; exact mz_c9
  | 10, h => cases h; exact mz_c10
  | 11, h => cases h; exact mz_c11
  | k + 12, h => simp [vwCl] at h
theorem mz_sA : mz_sok mz_S vwCl := mz_sokb_ok (by decide +kernel)
set_option maxRecDepth 100000 in
theorem mz_pA : ∀ w ∈ mz_pw, w ∈ mz_G lw_tbl := by
  have h1 : mz_pw.map some = [2166, 2195, 2192, 1013, 2167, 2196, 2193, 3149, 3148, 1019].map mz_gt := by decide +kernel
  have h2 : mz_pw.all goodWord = true := by decide +kernel
  intro w hw
  have h3 : some w ∈ [2166, 2195, 2192, 1013, 2167, 2196, 2193, 3149, 3148, 1019].map mz_gt := by
    rw [← h1]
    exact List.mem_map.mpr ⟨w, hw, rfl⟩
  obtain ⟨i, -, hi⟩ := List.mem_map.mp h3
  exact mz_G_in (mz_gtA _ _ hi) (List.all_eq_true.mp h2 w hw)
theorem mz_EE : (∀ (k : Nat) (q : vw_C), vwCl[k]? = some q → mz_cok lw_tbl q) ∧ mz_sok mz_S vwCl ∧ (∀ w ∈ mz_pw, w ∈ mz_G lw_tbl) ∧ mz_S.length ≤ 1000 ∧ mz_NM.length = mz_T0.length ∧ mz_T0.length ≤ 1000 ∧ ∀ (i : Nat) (w : Jvm.Cond), mz_gt i = some w → w ∈ lw_tbl := ⟨mz_cA, mz_sA, mz_pA, by decide +kernel, by decide +kernel, by decide +kernel, mz_gtA⟩
theorem mz_RunA (n : Nat) : mz_Run mz_S mz_T0 mz_T vwCl mz_NM mz_ST lw_tbl mz_gt n := mz_run_all mz_okA n
