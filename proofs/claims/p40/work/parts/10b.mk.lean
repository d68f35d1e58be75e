/-! the constructors' tables are in order: by counting -/
noncomputable def zz_ret (K : mz_K) (pe : Nat) : Bool := match mz_fetch K pe with
  | some (_, .return_, 1, _) => true
  | _ => false
noncomputable def zz_chk (cl : List vw_C) (NM : List String) (ST : List (String × Nat × String)) (gt : Nat → Option Jvm.Cond) (CT : List zz_R) (r : zz_R) (ps : Nat × Nat × Nat) : Bool :=
  plainName r.1.cls && (r.1.cls != "java/lang/invoke/MethodHandle" && r.1.cls != "java/lang/invoke/VarHandle") && decide ((parseMethodDescriptor r.1.desc).map (fun d => d.parameters.length) = some (r.2.2.2.1 - 1)) && decide (r.2.2.1 ≤ 45) && decide (r.1.name = "<init>") &&
  decide (gt ps.1 = some (Jvm.Cond.code r.1 r.2.1 r.2.2.1 none)) && decide (gt ps.2.1 = some (Jvm.Cond.initialized r.1.cls)) && decide (gt ps.2.2 = some (Jvm.Cond.instanceMethod r.1)) && zz_ret r.2.2.2.2.1 r.2.2.2.2.2 &&
  (mz_wk r.2.1 r.2.2.2.2.1 0 (mz_bs r.2.1) && r.2.2.2.2.1.all (fun q => (q.2.2.1 == mz_ln q.2.1) && zz_lk cl NM ST gt CT r.1.cls q.2.1 q.2.2.2))
theorem zz_chk_ok {cl : List vw_C} {NM : List String} {ST : List (String × Nat × String)} {G0 : List Jvm.Cond} {gt : Nat → Option Jvm.Cond} {CT : List zz_R} {r : zz_R} (hgt : ∀ (i : Nat) (w : Jvm.Cond), gt i = some w → w ∈ G0) (ps : Nat × Nat × Nat) (h : zz_chk cl NM ST gt CT r ps = true) : zz_Rok cl NM ST G0 gt CT r := by
  unfold zz_chk at h
  simp only [Bool.and_eq_true, bne_iff_ne, ne_eq, decide_eq_true_eq] at h
  obtain ⟨⟨⟨⟨⟨⟨⟨⟨⟨h1, h2⟩, h3⟩, h4⟩, h5⟩, h6⟩, h7⟩, h8⟩, h9⟩, h10, h11⟩ := h
  refine ⟨⟨h1, h2, h3, h4, h5⟩, ⟨mz_G_in (hgt _ _ h6) rfl, mz_G_in (hgt _ _ h7) rfl, mz_G_in (hgt _ _ h8) rfl⟩, ?_, fun q hq => ?_⟩
  · unfold zz_ret at h9
    split at h9
    · rename_i p f hf
      obtain ⟨a1, a2⟩ := mz_fetch_in hf
      have a3 := mz_dec_ok h10 _ a1
      rw [← a2]
      exact a3
    · cases h9
  · have h12 := List.all_eq_true.mp h11 q hq
    rw [Bool.and_eq_true] at h12
    unfold zz_eok
    rw [decide_eq_true (mz_dec_ok h10 q hq), h12.1, h12.2]
    simp
noncomputable def zz_rt (t : Option FieldType) : Bool := match t with
  | some (.object _) => true
  | some (.array _) => true
  | _ => false
noncomputable def zz_sokb (S0 : mz_Sh) (cl : List vw_C) : Bool := S0.all fun s => match s with
  | .inl _ => true
  | .inr (c, fs) => match cl[c]? with
    | some q => fs.length == q.2.2 && (List.range fs.length).all fun k => match fs[k]? with
      | some (_ + 3) => zz_rt (parseFieldDescriptor (q.2.1 k).2.2.1)
      | _ => true
    | none => false
theorem zz_sokb_ok {S0 : mz_Sh} {cl : List vw_C} (h : zz_sokb S0 cl = true) : zz_sok S0 cl := by
  intro i c fs hi
  have h1 := List.all_eq_true.mp h _ (List.mem_of_getElem? hi)
  simp only at h1
  split at h1
  · rename_i q hq
    rw [Bool.and_eq_true] at h1
    refine ⟨q, hq, by simpa using h1.1, fun k r hk => ?_⟩
    have hlt : k < fs.length := (List.getElem?_eq_some_iff.mp hk).1
    have h2 := List.all_eq_true.mp h1.2 k (List.mem_range.mpr hlt)
    rw [hk] at h2
    simp only at h2
    unfold zz_rt at h2
    split at h2
    · rename_i n hn
      exact ⟨_, hn, fun _ => rfl, fun _ => rfl, rfl⟩
    · rename_i n hn
      exact ⟨_, hn, fun _ => rfl, fun _ => rfl, rfl⟩
    · cases h2
  · cases h1
/-- what the constructors leave is what the machine starts from -/
noncomputable def zz_ck (S0 : mz_Sh) (m1 : mz_M) (z : Nat → Nat → Bool) (m : mz_M) : Bool := (List.range S0.length).all fun i => match S0[i]? with
  | some (.inl n) => (List.range n).all fun k => m i k == m1 i k
  | some (.inr (_, fs)) => (List.range fs.length).all fun k => match fs[k]? with
    | some 0 => m i k == m1 i k
    | some 1 => m i k == m1 i k
    | some 2 => z i k && m i k == m1 i k
    | _ => z i k
  | none => true
theorem zz_ck_w {S0 : mz_Sh} {cl : List vw_C} {D : va_G} {cI : ClassId} {ad : Nat → Nat} {z : Nat → Nat → Bool} {m m1 m2 : mz_M} {H : Heap} (h12 : ∀ i, i < S0.length → m2 i = m1 i) (h : zz_ck S0 m1 z m = true) (h2 : va_P D cl (zz_w S0 cI ad z m S0.length) H) : va_P D cl (mz_w S0 cI ad m2) H := by
  intro i q hq
  obtain ⟨hi, rfl⟩ := mz_w_in hq
  have h3 := h2 i _ (zz_w_at hi)
  have h4 := List.all_eq_true.mp h i (List.mem_range.mpr hi)
  have h5 : S0[i]? = some S0[i] := List.getElem?_eq_getElem hi
  have h6 := h12 i hi
  rcases hs : S0[i] with n | ⟨c, fs⟩
  · rw [hs] at h5
    rw [h5] at h4
    simp only at h4
    have h7 : zz_cell S0 cI ad z m i = .inl (cI, n, .inl (m i)) := by rw [zz_cell, h5]
    have h8 : mz_cell S0 cI ad m2 i = .inl (cI, n, .inl (m2 i)) := by rw [mz_cell, h5]
    rw [h7] at h3
    rw [h8]
    have h9 : vp_cell cI (n, .inl (m i)) = vp_cell cI (n, .inl (m2 i)) := by
      rw [vp_cell_i, vp_cell_i]
      have : (fun k : Fin n => Value.int (m i k.val)) = fun k : Fin n => .int (m2 i k.val) := by
        funext k
        have := List.all_eq_true.mp h4 k.val (List.mem_range.mpr k.isLt)
        have e : m i k.val = m1 i k.val := by simpa using this
        rw [e, h6]
      show ({ cls := cI, slots := Array.ofFn fun k : Fin n => Value.int (m i k.val), vm := .none } : Cell) = { cls := cI, slots := Array.ofFn fun k : Fin n => Value.int (m2 i k.val), vm := .none }
      rw [this]
    show H[ad i]? = some (vp_cell cI (n, .inl (m2 i)))
    rw [← h9]
    exact h3
  · rw [hs] at h5
    rw [h5] at h4
    simp only at h4
    have h7 : zz_cell S0 cI ad z m i = .inr (c, fs.mapIdx (zz_fv ad z m i)) := by rw [zz_cell, h5]
    have h8 : mz_cell S0 cI ad m2 i = .inr (c, fs.mapIdx (mz_fv ad m2 i)) := by rw [mz_cell, h5]
    rw [h7] at h3
    rw [h8]
    have h9 : fs.mapIdx (zz_fv ad z m i) = fs.mapIdx (mz_fv ad m2 i) := by
      apply List.ext_getElem?
      intro k
      rw [List.getElem?_mapIdx, List.getElem?_mapIdx]
      cases hk : fs[k]? with
      | none => rfl
      | some f =>
        have hlt : k < fs.length := (List.getElem?_eq_some_iff.mp hk).1
        have h10 := List.all_eq_true.mp h4 k (List.mem_range.mpr hlt)
        rw [hk] at h10
        show some (zz_fv ad z m i k f) = some (mz_fv ad m2 i k f)
        match f, h10 with
        | 0, h10 =>
          have e : m i k = m1 i k := by simpa using h10
          simp [zz_fv, mz_fv, e, h6]
        | 1, h10 =>
          have e : m i k = m1 i k := by simpa using h10
          simp [zz_fv, mz_fv, e, h6]
        | 2, h10 =>
          simp only [Bool.and_eq_true] at h10
          have e : m i k = m1 i k := by simpa using h10.2
          simp [zz_fv, mz_fv, e, h6, h10.1]
        | r + 3, h10 =>
          have e : z i k = true := h10
          simp [zz_fv, mz_fv, e]
    rw [← h9]
    exact h3

set_option maxRecDepth 100000 in
theorem zz_ok0 : zz_Rok vwCl mz_NM mz_ST lw_tbl mz_gt zz_CT zz_r0 := zz_chk_ok mz_gtA (1116, 1006, 1115) (by decide +kernel)
set_option maxRecDepth 100000 in
theorem zz_ok1 : zz_Rok vwCl mz_NM mz_ST lw_tbl mz_gt zz_CT zz_r1 := zz_chk_ok mz_gtA (1148, 1007, 1147) (by decide +kernel)
set_option maxRecDepth 100000 in
theorem zz_ok2 : zz_Rok vwCl mz_NM mz_ST lw_tbl mz_gt zz_CT zz_r2 := zz_chk_ok mz_gtA (1038, 1003, 1037) (by decide +kernel)
set_option maxRecDepth 100000 in
theorem zz_ok3 : zz_Rok vwCl mz_NM mz_ST lw_tbl mz_gt zz_CT zz_r3 := zz_chk_ok mz_gtA (2022, 1009, 2021) (by decide +kernel)
set_option maxRecDepth 100000 in
theorem zz_ok4 : zz_Rok vwCl mz_NM mz_ST lw_tbl mz_gt zz_CT zz_r4 := zz_chk_ok mz_gtA (2000, 1008, 1239) (by decide +kernel)
set_option maxRecDepth 100000 in
theorem zz_ok5 : zz_Rok vwCl mz_NM mz_ST lw_tbl mz_gt zz_CT zz_r5 := zz_chk_ok mz_gtA (2083, 1011, 2082) (by decide +kernel)
set_option maxRecDepth 100000 in
theorem zz_ok6 : zz_Rok vwCl mz_NM mz_ST lw_tbl mz_gt zz_CT zz_r6 := zz_chk_ok mz_gtA (1032, 1002, 1031) (by decide +kernel)
set_option maxRecDepth 100000 in
theorem zz_ok7 : zz_Rok vwCl mz_NM mz_ST lw_tbl mz_gt zz_CT zz_r7 := zz_chk_ok mz_gtA (1081, 1004, 1080) (by decide +kernel)
set_option maxRecDepth 100000 in
theorem zz_ok8 : zz_Rok vwCl mz_NM mz_ST lw_tbl mz_gt zz_CT zz_r8 := zz_chk_ok mz_gtA (1097, 1005, 1096) (by decide +kernel)
set_option maxRecDepth 100000 in
theorem zz_ok9 : zz_Rok vwCl mz_NM mz_ST lw_tbl mz_gt zz_CT zz_r9 := zz_chk_ok mz_gtA (2049, 1010, 2048) (by decide +kernel)
set_option maxRecDepth 100000 in
theorem zz_ok10 : zz_Rok vwCl mz_NM mz_ST lw_tbl mz_gt zz_CT zz_r10 := zz_chk_ok mz_gtA (1024, 1001, 1023) (by decide +kernel)
set_option maxRecDepth 100000 in
theorem zz_ok11 : zz_Rok vwCl mz_NM mz_ST lw_tbl mz_gt zz_CT zz_r11 := zz_chk_ok mz_gtA (5038, 1012, 5037) (by decide +kernel)
theorem zz_okA : ∀ (a : Nat) (rc : zz_R), zz_CT[a]? = some rc → zz_Rok vwCl mz_NM mz_ST lw_tbl mz_gt zz_CT rc := by
  intro a rc h
  match a, h with
  | 0, h => cases h; exact zz_ok0
  | 1, h => cases h; exact zz_ok1
  | 2, h => cases h; exact zz_ok2
  | 3, h => cases h; exact zz_ok3
  | 4, h => cases h; exact zz_ok4
  | 5, h => cases h; exact zz_ok5
  | 6, h => cases h; exact zz_ok6
  | 7, h => cases h; exact zz_ok7
  | 8, h => cases h; exact zz_ok8
  | 9, h => cases h; exact zz_ok9
  | 10, h => cases h; exact zz_ok10
  | 11, h => cases h; exact zz_ok11
  | a + 12, h => simp [zz_CT] at h
set_option maxRecDepth 100000 in
theorem zz_pA : ∀ w ∈ zz_pw, w ∈ mz_G lw_tbl := by
  have h1 : zz_pw.map some = [1067, 1026, 1027, 1071, 1072, 1073, 1074].map mz_gt := by decide +kernel
  have h2 : zz_pw.all goodWord = true := by decide +kernel
  intro w hw
  have h3 : some w ∈ [1067, 1026, 1027, 1071, 1072, 1073, 1074].map mz_gt := by
    rw [← h1]
    exact List.mem_map.mpr ⟨w, hw, rfl⟩
  obtain ⟨i, -, hi⟩ := List.mem_map.mp h3
  exact mz_G_in (mz_gtA _ _ hi) (List.all_eq_true.mp h2 w hw)
theorem zz_sA : zz_sok mz_S vwCl := zz_sokb_ok (by decide +kernel)
theorem zz_ci0 : Jvm.Cond.instantiable RX0 5 ∈ mz_G lw_tbl ∧ Jvm.Cond.initialized RX0 ∈ mz_G lw_tbl := ⟨mz_G_in (mz_gtA 1113 _ (by decide +kernel)) rfl, mz_G_in (mz_gtA 1006 _ (by decide +kernel)) rfl⟩
theorem zz_ci1 : Jvm.Cond.instantiable RX1 7 ∈ mz_G lw_tbl ∧ Jvm.Cond.initialized RX1 ∈ mz_G lw_tbl := ⟨mz_G_in (mz_gtA 1145 _ (by decide +kernel)) rfl, mz_G_in (mz_gtA 1007 _ (by decide +kernel)) rfl⟩
theorem zz_ci2 : Jvm.Cond.instantiable RX2 5 ∈ mz_G lw_tbl ∧ Jvm.Cond.initialized RX2 ∈ mz_G lw_tbl := ⟨mz_G_in (mz_gtA 1035 _ (by decide +kernel)) rfl, mz_G_in (mz_gtA 1003 _ (by decide +kernel)) rfl⟩
theorem zz_ci3 : Jvm.Cond.instantiable RX3 5 ∈ mz_G lw_tbl ∧ Jvm.Cond.initialized RX3 ∈ mz_G lw_tbl := ⟨mz_G_in (mz_gtA 2019 _ (by decide +kernel)) rfl, mz_G_in (mz_gtA 1009 _ (by decide +kernel)) rfl⟩
theorem zz_ci4 : Jvm.Cond.instantiable RX4 4 ∈ mz_G lw_tbl ∧ Jvm.Cond.initialized RX4 ∈ mz_G lw_tbl := ⟨mz_G_in (mz_gtA 1237 _ (by decide +kernel)) rfl, mz_G_in (mz_gtA 1008 _ (by decide +kernel)) rfl⟩
theorem zz_ci5 : Jvm.Cond.instantiable RX5 3 ∈ mz_G lw_tbl ∧ Jvm.Cond.initialized RX5 ∈ mz_G lw_tbl := ⟨mz_G_in (mz_gtA 2080 _ (by decide +kernel)) rfl, mz_G_in (mz_gtA 1011 _ (by decide +kernel)) rfl⟩
theorem zz_ci6 : Jvm.Cond.instantiable RX6 13 ∈ mz_G lw_tbl ∧ Jvm.Cond.initialized RX6 ∈ mz_G lw_tbl := ⟨mz_G_in (mz_gtA 1029 _ (by decide +kernel)) rfl, mz_G_in (mz_gtA 1002 _ (by decide +kernel)) rfl⟩
theorem zz_ci7 : Jvm.Cond.instantiable RX7 2 ∈ mz_G lw_tbl ∧ Jvm.Cond.initialized RX7 ∈ mz_G lw_tbl := ⟨mz_G_in (mz_gtA 1078 _ (by decide +kernel)) rfl, mz_G_in (mz_gtA 1004 _ (by decide +kernel)) rfl⟩
theorem zz_ci8 : Jvm.Cond.instantiable RX8 3 ∈ mz_G lw_tbl ∧ Jvm.Cond.initialized RX8 ∈ mz_G lw_tbl := ⟨mz_G_in (mz_gtA 1094 _ (by decide +kernel)) rfl, mz_G_in (mz_gtA 1005 _ (by decide +kernel)) rfl⟩
theorem zz_ci9 : Jvm.Cond.instantiable RX9 8 ∈ mz_G lw_tbl ∧ Jvm.Cond.initialized RX9 ∈ mz_G lw_tbl := ⟨mz_G_in (mz_gtA 2046 _ (by decide +kernel)) rfl, mz_G_in (mz_gtA 1010 _ (by decide +kernel)) rfl⟩
theorem zz_ci10 : Jvm.Cond.instantiable RX10 8 ∈ mz_G lw_tbl ∧ Jvm.Cond.initialized RX10 ∈ mz_G lw_tbl := ⟨mz_G_in (mz_gtA 1021 _ (by decide +kernel)) rfl, mz_G_in (mz_gtA 1001 _ (by decide +kernel)) rfl⟩
theorem zz_ci11 : Jvm.Cond.instantiable RX11 26 ∈ mz_G lw_tbl ∧ Jvm.Cond.initialized RX11 ∈ mz_G lw_tbl := ⟨mz_G_in (mz_gtA 5035 _ (by decide +kernel)) rfl, mz_G_in (mz_gtA 1012 _ (by decide +kernel)) rfl⟩
theorem zz_cA : zz_cin vwCl lw_tbl := by
  intro k q h
  match k, h with
  | 0, h => cases h; exact zz_ci0
  | 1, h => cases h; exact zz_ci1
  | 2, h => cases h; exact zz_ci2
  | 3, h => cases h; exact zz_ci3
  | 4, h => cases h; exact zz_ci4
  | 5, h => cases h; exact zz_ci5
  | 6, h => cases h; exact zz_ci6
  | 7, h => cases h; exact zz_ci7
  | 8, h => cases h; exact zz_ci8
  | 9, h => cases h; exact zz_ci9
  | 10, h => cases h; exact zz_ci10
  | 11, h => cases h; exact zz_ci11
  | k + 12, h => simp [vwCl] at h
theorem zz_EE : (∀ (k : Nat) (q : vw_C), vwCl[k]? = some q → mz_cok lw_tbl q) ∧ (mz_sok mz_S vwCl ∧ zz_sok mz_S vwCl) ∧ (∀ w ∈ zz_pw, w ∈ mz_G lw_tbl) ∧ mz_S.length ≤ 1000 ∧ zz_cin vwCl lw_tbl ∧ mz_NM.length = mz_T0.length ∧ (∀ (i : Nat) (w : Jvm.Cond), mz_gt i = some w → w ∈ lw_tbl) ∧ Jvm.Cond.castable "[I" "java/lang/Cloneable" ∈ lw_tbl := ⟨mz_cA, ⟨mz_sA, zz_sA⟩, zz_pA, by decide +kernel, zz_cA, by decide +kernel, mz_gtA, mz_gtA 1075 _ (by decide +kernel)⟩
theorem zz_RunA (n : Nat) : zz_Run mz_S mz_T0 vwCl mz_NM mz_ST lw_tbl mz_gt zz_CT n := zz_run_all zz_okA n
/-! the law's own code, and its run to place 18 -/
set_option maxRecDepth 100000 in
theorem mz_wL : mz_wk code mz_kL 0 (mz_bs code) = true := by decide +kernel
set_option maxRecDepth 100000 in
theorem mz_lL : mz_kL.all (fun q => (q.2.2.1 == mz_ln q.2.1 || mz_sw q.2.1) && mz_lk mz_T vwCl mz_NM mz_ST mz_gt "ThreeMagnetsLaw" q.2.1 q.2.2.2) = true := by decide +kernel
set_option maxRecDepth 100000 in
theorem zz_lL : zz_kL.all (fun q => (q.2.2.1 == mz_ln q.2.1 && (!zz_isP q.2.1 || false)) && zz_lk vwCl mz_NM mz_ST mz_gt zz_CT "ThreeMagnetsLaw" q.2.1 q.2.2.2) = true := by decide +kernel
theorem mz_eL : ∀ q ∈ mz_kL, mz_eok mz_T vwCl mz_NM mz_ST mz_gt "ThreeMagnetsLaw" code q = true := by
  intro q hq
  have h := List.all_eq_true.mp mz_lL q hq
  rw [Bool.and_eq_true] at h
  unfold mz_eok
  rw [decide_eq_true (mz_dec_ok mz_wL q hq), h.1, h.2]
  rfl
theorem zz_eL : ∀ q ∈ zz_kL, zz_eok vwCl mz_NM mz_ST mz_gt zz_CT false "ThreeMagnetsLaw" code q = true := by
  intro q hq
  have h := List.all_eq_true.mp zz_lL q hq
  rw [Bool.and_eq_true] at h
  unfold zz_eok
  rw [decide_eq_true (mz_dec_ok mz_wL q (List.mem_of_mem_take hq)), h.1, h.2]
  rfl
noncomputable def zz_end : Option zz_C := zz_x mz_S mz_T0 zz_CT 100000 10 18 zz_kL (0, [some (.ref 3000), none, none, none], [], 0, fun _ _ => false, fun _ _ => 0)
noncomputable def zz_good : Bool := match zz_end with
  | some (p, L, S, n, z, m) => decide (p = 18) && decide (L = [some (.ref 3000), some (.ref 0), some (.ref 65), some (.int 0)]) && decide (S = []) && decide (n = mz_S.length) && zz_ck mz_S (mz_i (fun _ => 0) 0) z m
  | none => false
set_option maxRecDepth 100000 in
theorem zz_goodE : zz_good = true := by decide +kernel
theorem zz_endE : ∃ (z : Nat → Nat → Bool) (m : mz_M), zz_end = some (18, [some (.ref 3000), some (.ref 0), some (.ref 65), some (.int 0)], [], mz_S.length, z, m) ∧ zz_ck mz_S (mz_i (fun _ => 0) 0) z m = true := by
  have h := zz_goodE
  unfold zz_good at h
  split at h
  · rename_i p L S n z m he
    simp only [Bool.and_eq_true, decide_eq_true_eq] at h
    obtain ⟨⟨⟨⟨rfl, rfl⟩, rfl⟩, rfl⟩, h5⟩ := h
    exact ⟨z, m, he, h5⟩
  · cases h
