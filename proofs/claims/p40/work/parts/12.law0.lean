/-! the law's start: what stands outside, and the walk from a run -/
theorem lw_len {args : Array Value} {s : State} {t : Term} {v : Value} (h : (Term.length t).eval args s none [] s = some v) : ∃ (a : Nat) (cell : Cell), t.eval args s none [] s = some (.ref a) ∧ s.arrayAt? a = some cell ∧ v = .int cell.slots.size.toInt32 ∧ cell.slots.size < 2 ^ 31 := by
  obtain ⟨a, cell, h1, h2, h3⟩ := Term.length_spec h
  refine ⟨a, cell, h1, h2, h3, ?_⟩
  simp only [Term.eval, h1, h2, Option.bind_eq_bind, Option.bind_some] at h
  by_cases hn : cell.slots.size < 2 ^ 31
  · exact hn
  · simp [hn] at h
noncomputable def lw_flat : List Jvm.Cond := flatC (Jvm.Cond.and given_1 narrow_1)
noncomputable def lw_tm (j : Nat) : Term := .static "ThreeMagnets" (mz_NM.getD j "") "[I"
noncomputable def lw_sm (j : Nat) : Term := match mz_ST[j]? with
  | some q => .string q.1 q.2.1
  | none => .string "" 0
set_option maxRecDepth 100000 in
theorem lw_f1 : ∀ j, j < 5 → Cond.arrayOf (lw_tm j) .int ∈ lw_flat ∧ Cond.eq (.length (lw_tm j)) (.int (Int32.ofNat (mz_T0.getD j []).length)) ∈ lw_flat ∧ Cond.exactly (lw_tm j) "[I" ∈ lw_flat ∧ ∀ k, k < (mz_T0.getD j []).length → Cond.eq (.elem (lw_tm j) (.int (Int32.ofNat k))) (.int ((mz_T0.getD j []).getD k 0)) ∈ lw_flat := by decide +kernel
set_option maxRecDepth 100000 in
theorem lw_f2 : ∀ j, j < 5 → Cond.laysStatic "ThreeMagnets" (mz_NM.getD j "") "[I" ∈ lw_tbl := by decide +kernel
set_option maxRecDepth 100000 in
theorem lw_f3 : ∀ i, i < 4 → Cond.exactly (lw_sm i) "java/lang/String" ∈ lw_flat ∧ Cond.eq (.field (lw_sm i) "java/lang/String" "coder" "B") (.int 0) ∈ lw_flat ∧ Cond.arrayOf (.field (lw_sm i) "java/lang/String" "value" "[B") .byte ∈ lw_flat ∧ Cond.eq (.length (.field (lw_sm i) "java/lang/String" "value" "[B")) (.int (Int32.ofNat ((mz_by.map List.length).getD i 0))) ∈ lw_flat ∧ ∀ j, j < (mz_by.map List.length).getD i 0 → Cond.eq (.elem (.field (lw_sm i) "java/lang/String" "value" "[B") (.int (Int32.ofNat j))) (.int ((mz_by.getD i []).getD j 0)) ∈ lw_flat := by decide +kernel
set_option maxRecDepth 100000 in
theorem lw_f4 : ∀ i, i < 4 → ∀ j, j < 4 → i ≠ j → Cond.not (Cond.eq (lw_sm i) (lw_sm j)) ∈ lw_flat ∨ Cond.not (Cond.eq (lw_sm j) (lw_sm i)) ∈ lw_flat := by decide +kernel
set_option maxRecDepth 100000 in
theorem lw_f5 : Cond.laysStatic "java/lang/String" "COMPACT_STRINGS" "Z" ∈ lw_tbl ∧ Cond.initialized "java/lang/String" ∈ lw_tbl ∧ Cond.eq (.static "java/lang/String" "COMPACT_STRINGS" "Z") (.int 1) ∈ lw_flat ∧ Cond.initialized "ThreeMagnets" ∈ lw_tbl ∧ Cond.arrayClass .int ∈ lw_tbl := by decide +kernel
set_option maxRecDepth 100000 in
theorem lw_f6 : ∀ q ∈ mz_ST, Cond.stringRef q.1 q.2.1 q.2.2 ∈ lw_tbl := by decide +kernel
set_option maxHeartbeats 1000000 in
theorem lw_rok {s : State} {b L : Nat} {xs : Nat → Int32} (hgv : (Jvm.Cond.and given_1 narrow_1).before #[Value.ref b] s = true) (hts : ∀ w ∈ lw_tbl, w.before #[Value.ref b] s = true) (hX : va_X b L xs s s.heap) (hbl : b < s.heap.size) : ∃ ad : Nat → Nat, (∀ i, i < 1000 → ad i = s.heap.size + i) ∧ ad 3000 = b ∧ mz_rok mz_T0 mz_NM mz_ST lw_tbl ad L xs (zz_A s.heap.size) s s.heap ∧ zz_rf mz_T0 (ad 1004) (zz_A s.heap.size) s s.heap := by
  have hs : ∀ w ∈ lw_flat, w.before #[Value.ref b] s = true := flat_of_before _ hgv
  have hA : ∀ a : Nat, a < s.heap.size → ¬ zz_A s.heap.size a := fun a h => Nat.not_le.mpr h
  have h0 : ∀ j : Nat, ∃ t : Nat, j < 5 → (lw_tm j).eval #[Value.ref b] s none [] s = some (.ref t) ∧ va_T .int t (mz_T0.getD j []).length (fun k => .int ((mz_T0.getD j []).getD k 0)) (zz_A s.heap.size) s s.heap := by
    intro j
    by_cases hj : j < 5
    · obtain ⟨a1, a2, -, a4⟩ := lw_f1 j hj
      have hN : (mz_T0.getD j []).length < 2 ^ 31 := by
        have : ∀ j, j < 5 → (mz_T0.getD j []).length < 2 ^ 31 := by decide +kernel
        exact this j hj
      obtain ⟨t, ht, hT⟩ := va_Tof (f := fun k => .int ((mz_T0.getD j []).getD k 0)) (A := zz_A s.heap.size) hN (hs _ a1) (va_eqt (hs _ a2)) (fun k hk => va_eqt (hs _ (a4 k hk))) hA
      exact ⟨t, fun _ => ⟨ht, hT⟩⟩
    · exact ⟨0, fun h => absurd h hj⟩
  obtain ⟨tS, htS⟩ := Classical.axiomOfChoice h0
  obtain ⟨adK, adV, hK, hKe⟩ := vk_Sof (args := #[Value.ref b]) (s := s) (N := 4) (tm := lw_sm) (len := mz_by.map List.length) (byt := mz_by) (A := zz_A s.heap.size) (by decide +kernel) (fun i hi => hs _ (lw_f3 i hi).1) (fun i hi => hs _ (lw_f3 i hi).2.1) (fun i hi => hs _ (lw_f3 i hi).2.2.1) (fun i hi => hs _ (lw_f3 i hi).2.2.2.1) (fun i hi j hj => hs _ ((lw_f3 i hi).2.2.2.2 j hj)) (fun i j hi hj hij => (lw_f4 i hi j hj hij).imp (hs _) (hs _)) hA
  let ad : Nat → Nat := fun i => if i < 1000 then s.heap.size + i else if i < 2000 then tS (i - 1000) else if i < 2100 then adK (i - 2000) else if i < 3000 then adV (i - 2100) else b
  have d0 : ∀ i, i < 1000 → ad i = s.heap.size + i := fun i hi => if_pos hi
  have d1 : ∀ j, j < 1000 → ad (1000 + j) = tS j := fun j hj => by
    show (if 1000 + j < 1000 then _ else if 1000 + j < 2000 then tS (1000 + j - 1000) else _) = _
    rw [if_neg (by omega), if_pos (by omega), Nat.add_sub_cancel_left]
  have d2 : ∀ j, j < 100 → ad (2000 + j) = adK j := fun j hj => by
    show (if 2000 + j < 1000 then _ else if 2000 + j < 2000 then _ else if 2000 + j < 2100 then adK (2000 + j - 2000) else _) = _
    rw [if_neg (by omega), if_neg (by omega), if_pos (by omega), Nat.add_sub_cancel_left]
  have d3 : ∀ j, j < 100 → ad (2100 + j) = adV j := fun j hj => by
    show (if 2100 + j < 1000 then _ else if 2100 + j < 2000 then _ else if 2100 + j < 2100 then _ else if 2100 + j < 3000 then adV (2100 + j - 2100) else _) = _
    rw [if_neg (by omega), if_neg (by omega), if_neg (by omega), if_pos (by omega), Nat.add_sub_cancel_left]
  have d4 : ad 3000 = b := rfl
  clear_value ad
  have hnm : ∀ (j : Nat) (n : String), mz_NM[j]? = some n → j < 5 ∧ mz_NM.getD j "" = n := by
    intro j n h
    refine ⟨(List.getElem?_eq_some_iff.mp h).1, ?_⟩
    rw [List.getD_eq_getElem?_getD, h]
    rfl
  have htt : ∀ (j : Nat) (t : List Int32), mz_T0[j]? = some t → j < 5 ∧ mz_T0.getD j [] = t := by
    intro j n h
    refine ⟨(List.getElem?_eq_some_iff.mp h).1, ?_⟩
    rw [List.getD_eq_getElem?_getD, h]
    rfl
  have hst : ∀ (j : Nat) (q : String × Nat × String), mz_ST[j]? = some q → j < 4 ∧ lw_sm j = .string q.1 q.2.1 ∧ q ∈ mz_ST := by
    intro j q h
    refine ⟨(List.getElem?_eq_some_iff.mp h).1, ?_, List.mem_of_getElem? h⟩
    unfold lw_sm
    rw [h]
  refine ⟨ad, d0, d4, ⟨fun j n h => ?_, fun j t h => ?_, fun j q h => ?_, ⟨fun i hi => ?_, fun i j hi hj e => ?_⟩, ?_, fun w hw hn => ?_, ?_⟩, ?_⟩
  · obtain ⟨hj, rfl⟩ := hnm j n h
    rw [d1 j (by omega)]
    exact va_Zof (hts _ (lw_f2 j hj)) (hts _ lw_f5.2.2.2.1) (htS j hj).1 hA
  · obtain ⟨hj, rfl⟩ := htt j t h
    rw [d1 j (by omega)]
    exact (htS j hj).2
  · obtain ⟨hj, e1, hm⟩ := hst j q h
    rw [d2 j (by omega)]
    have h5 := hKe j hj
    rw [e1] at h5
    exact vk_R.of (hts _ (lw_f6 q hm)) h5
  · show va_O "java/lang/String" (ad (2000 + i)) _ s s.heap ∧ va_OF "java/lang/String" "coder" "B" (.int 0) (ad (2000 + i)) _ s s.heap ∧ va_OF "java/lang/String" "value" "[B" (.ref (ad (2100 + i))) (ad (2000 + i)) _ s s.heap ∧ va_T .byte (ad (2100 + i)) _ _ _ s s.heap
    rw [d2 i (by omega), d3 i (by omega)]
    exact hK.1 i hi
  · have e2 : ad (2000 + i) = ad (2000 + j) := e
    rw [d2 i (by omega), d2 j (by omega)] at e2
    exact hK.2 i j hi hj e2
  · exact va_Zof (hts _ lw_f5.1) (hts _ lw_f5.2.1) (va_eqt (hs _ lw_f5.2.2.1)) hA
  · have h9 := hts w hw
    cases w <;> first | exact (Bool.false_ne_true hn).elim | exact va_Nw.of rfl h9
  · rw [d4]
    exact ⟨hX, hbl, Nat.not_le.mpr hbl⟩
  · rw [d1 4 (by omega)]
    obtain ⟨a1, a2, a3, a4⟩ := lw_f1 4 (by omega)
    obtain ⟨a, cell, e1, e2, e3, e4⟩ := lw_len (va_eqt (hs _ a2))
    have hta : tS 4 = a := Value.ref.inj (Option.some.inj ((htS 4 (by omega)).1.symm.trans e1))
    obtain ⟨c1, c2, c3, -⟩ := State.arrayAt?_spec e2
    obtain ⟨a', c, cell', k, x1, x2, x3, -, x5, x6, -⟩ := Cond.exactly_spec (hs _ a3)
    have haa : a' = a := Value.ref.inj (Option.some.inj (x1.symm.trans e1))
    subst haa
    obtain rfl : cell' = cell := Option.some.inj (x3.symm.trans c1)
    obtain ⟨cell2, y1, -, -, y4, -, y6, y7⟩ := (htS 4 (by omega)).2
    rw [hta] at y1 y7 ⊢
    obtain rfl : cell2 = cell' := Option.some.inj (y1.symm.trans c1)
    have hsz : cell2.slots.size = 6 := by
      have h7 : (Int32.ofNat (mz_T0.getD 4 []).length) = cell2.slots.size.toInt32 := Value.int.inj e3
      have h8 : Int32.ofNat 6 = Int32.ofNat cell2.slots.size := h7
      have h9 : (nI 6).toNatClampNeg = (nI cell2.slots.size).toNatClampNeg := congrArg Int32.toNatClampNeg h8
      rw [nI_clamp (show 6 < 2 ^ 31 by decide), nI_clamp e4] at h9
      exact h9.symm
    exact ⟨cell2, [5, 10, 60, 8, 4, 1], rfl, y1, c3, c2, by rw [x6]; exact x2, hsz, y6, y7⟩
theorem lw_known {s : State} {b : Nat} (hts : ∀ w ∈ lw_tbl, w.before #[Value.ref b] s = true) : ∃ (D : va_G) (cI : ClassId), va_K D vwCl [(cI, .int)] s := by
  obtain ⟨cI, kA, comp, h1, h2, h3⟩ := Cond.arrayClass_spec (hts _ lw_f5.2.2.2.2)
  have h : ∀ k : Nat, ∃ r : ClassId × (Nat → Nat), ∀ q : vw_C, vwCl[k]? = some q → u_Kn s q.1 q.2.1 q.2.2 r.1 r.2 := by
    intro k
    cases hq : vwCl[k]? with
    | none => exact ⟨(cI, fun _ => 0), fun q h => by cases h⟩
    | some q =>
      obtain ⟨cC, iS, hk⟩ := u_known (C := q.1) (T := q.2.1) (N := q.2.2) (n := q.2.2) hts (fun w hw => (List.mem_filter.mp ((mz_cA k q hq).1 w hw)).1) (hts _ (List.mem_filter.mp (zz_cA k q hq).1).1)
      exact ⟨(cC, iS), fun q' h => by cases h; exact hk⟩
  obtain ⟨r, hr⟩ := Classical.axiomOfChoice h
  refine ⟨(fun k => (r k).1, fun k => (r k).2), cI, fun k q hq => hr k q hq, fun k q hq => ?_⟩
  match k, hq with
  | 0, hq =>
    cases hq
    exact ⟨fun n z => ⟨fun k h => (by cases h), kA, h2, comp, h3⟩, h1⟩
  | k + 1, hq => simp at hq
theorem lw_D {S0 : mz_Sh} {cI : ClassId} {ad : Nat → Nat} {sz : Nat} {m : mz_M} (had : ∀ i, i < 1000 → ad i = sz + i) (hn : S0.length ≤ 1000) : va_D (zz_A sz) (mz_w S0 cI ad m) := by
  refine ⟨fun i j x y hi hj he => ?_, fun k q hk => ?_⟩
  · obtain ⟨a1, rfl⟩ := mz_w_in hi
    obtain ⟨a2, rfl⟩ := mz_w_in hj
    have h1 : ad i = ad j := he
    rw [had i (by omega), had j (by omega)] at h1
    omega
  · obtain ⟨a1, rfl⟩ := mz_w_in hk
    show sz ≤ ad k
    rw [had k (by omega)]
    omega
theorem lw_mi {xs : Nat → Int32} {L i : Nat} (hi : i < mz_S.length) : mz_i xs L i = mz_i (fun _ => 0) 0 i := by
  have h79 : mz_S.length = 79 := by decide +kernel
  have h1 : (i == 3000) = false := by simp; omega
  have h2 : (i == 3001) = false := by simp; omega
  funext k
  simp only [mz_i, h1, h2, cond_false]
noncomputable abbrev lw_c (xs : Nat → Int32) (L : Nat) : mz_C := (18, [some (.ref 3000), some (.ref 0), some (.ref 65), some (.int 0)], [], mz_i xs L)
set_option maxHeartbeats 4000000 in
set_option maxRecDepth 100000 in
/-- THE LAW'S WALK, from a run of the machine -/
theorem lw_go {p : Program} {e : Env} {s : State} {m : MethodId} {below : List Frame} {meth : Method} {c : Code} (l : Launch) {b L : Nat} {xs : Nat → Int32} (hL : L ≤ 384) (C0 : lw_At p s m meth c b L xs) (hlaw : ∃ m', mz_Ex 101 mz_kL (lw_c xs L) (some (.int 1), m')) : W p l e room_1 s m #[Value.ref b] below meth c s.heap [] 0 0 (lw_Z below #[Value.ref b] s) (entryFrame m ([Value.ref b] : List Value).toArray 4) := by
  obtain ⟨hx, hb, hr, hml, hown, hts, hX, hbl, hlocks, hgv⟩ := C0
  obtain ⟨ad, had, h3000, hRo, hrf⟩ := lw_rok hgv hts hX hbl
  obtain ⟨D, cI, hK⟩ := lw_known hts
  obtain ⟨z, mm, hend, hck⟩ := zz_endE
  have F : zz_Fix p room_1 s m #[Value.ref b] meth c mz_S mz_T0 vwCl mz_NM mz_ST lw_tbl mz_gt zz_CT D cI ad 4 L s.heap.size 0 mz_S.length xs "ThreeMagnetsLaw" code :=
    ⟨⟨hx, hb, hml, hown, fun w hw => hts w (List.mem_filter.mp hw).1⟩, ⟨hK, rfl, had, hRo, hrf⟩, ⟨by decide +kernel, by decide +kernel, by decide +kernel, by decide +kernel⟩, zz_EE⟩
  have Fm : mz_Fix p room_1 s m #[Value.ref b] c (mz_S.length - 0) (zz_sl mz_S mz_S.length - zz_sl mz_S 0) mz_S mz_T0 mz_T vwCl mz_NM mz_ST lw_tbl mz_gt D cI ad (zz_A s.heap.size) 4 L xs "ThreeMagnetsLaw" code :=
    ⟨F.1, ⟨hK, fun _ => lw_D had (by decide +kernel), fun q h => h, hRo⟩, ⟨by decide +kernel, by decide +kernel, by decide +kernel, by decide +kernel⟩, mz_EE⟩
  have hls := mz_entry (ad := ad) (as := [.ref 3000]) (n := 4) rfl
  have hv : ([Value.ref 3000] : List Value).map (mz_cvv ad) = [.ref b] := by
    show [Value.ref (ad 3000)] = _
    rw [h3000]
  rw [hv] at hls
  rw [lg_entry_eq]
  refine zz_RunA 100000 10 18 F ⟨by decide +kernel, by decide +kernel⟩ zz_kL false (fun h => by cases h) zz_eL 0 [some (.ref 3000), none, none, none] [] 0 (fun _ _ => false) (fun _ _ => 0) _ (Nat.le_refl _) (Nat.zero_le _) (Nat.le_refl _) hend ?_ _ s.heap [] hls (fun k q h => by simp [zz_w] at h) va_S.rf
  intro ls H locs h1 h2 h3
  have h2' : va_P D vwCl (mz_w mz_S cI ad (mz_i xs L)) H := zz_ck_w (m1 := mz_i (fun _ => 0) 0) (fun i hi => lw_mi hi) hck h2
  obtain ⟨m', n, hrun⟩ := hlaw
  have hscr : mz_scr xs L (mz_i xs L) := ⟨fun j => rfl, rfl, by omega⟩
  refine mz_RunA n 101 Fm ⟨by decide +kernel, by decide +kernel⟩ mz_kL mz_eL 18 _ [] (mz_i xs L) (some (.int 1)) m' hrun ?_ ls H locs h1 h2' h3 hscr
  intro ins pc' L' S' hdec hen ls1 H1 locs1 g1 g2 g3 g4
  rcases hen with ⟨rfl, x, rfl, hx1⟩ | ⟨rfl, x, rfl, hx1⟩ | ⟨rfl, rfl, hx1⟩
  · cases hx1
    exact va_forget (fun q hq => g3.2.2 q hq) (W.widen (k := 600000) (n := 7302250) (by decide +kernel) (by decide +kernel) (lw_ret hx hb hr hlocks hdec))
  · cases hx1
  · cases hx1
