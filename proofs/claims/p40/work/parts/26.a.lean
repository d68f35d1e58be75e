/-! runs that there are: scratch, measures -/
noncomputable def sm_Sc (w m : mz_M) : Prop := (∀ i, sm_scr i = false → m i = w i) ∧ m 65 2 = w 65 2 ∧ m 65 19 = w 65 19
theorem sm_scne {i r : Nat} (hi : sm_scr i = false) (hr : sm_scr r = true) : i ≠ r := fun e => by
  rw [e, hr] at hi
  cases hi
theorem sm_Sc_tr {a b c : mz_M} (h : sm_Sc a b) (h2 : sm_Sc b c) : sm_Sc a c := ⟨fun i hi => (h2.1 i hi).trans (h.1 i hi), h2.2.1.trans h.2.1, h2.2.2.trans h.2.2⟩
theorem sm_I_Sc1 {n : Nat} {w m : mz_M} (hn : n < 64) (hI : sm_I n w) (h : sm_Sc w m) : sm_I (n + 1) m := sm_I_scr hn hI h.1 h.2.1 h.2.2
theorem sm_I_Sc {n : Nat} {w m : mz_M} (hI : sm_I n w) (h : sm_Sc w m) : sm_I n m := by
  obtain ⟨a0, a, c, d, e⟩ := hI
  have hl : ∀ i, i < 49 → m i = w i := fun i hi => h.1 i (by unfold sm_scr; rw [decide_eq_false (by omega)]; rfl)
  refine ⟨a0, ?_, ?_, ?_, ?_⟩
  · rw [h.1 66 rfl]
    exact sm_St_of (fun i h1 h2 => hl i (by omega)) a
  · rw [h.1 61 rfl, h.1 62 rfl, h.1 63 rfl, h.1 75 rfl, h.1 76 rfl, h.1 77 rfl]
    exact c
  · rw [h.1 57 rfl, h.2.2]
    exact d
  · rw [hl 0 (by decide), h.2.1, h.1 67 rfl]
    obtain ⟨j, hj, ha, hb, hs⟩ := e
    exact ⟨j, hj, ha, hb, fun h1 => sm_St_of (fun i h1 h2 => hl i (by omega)) (hs h1)⟩
theorem sm_inc {b : Int32} (h : b.toInt < 1000000) : (b + 1).toInt = b.toInt + 1 := by
  have e1 : (1 : Int32).toInt = 1 := by decide
  have h0 := b.le_toInt
  rw [sm_add (by rw [e1]; omega) (by rw [e1]; omega), e1]
theorem sm_me1 {b hi : Int32} {fu : Nat} (hh : hi.toInt < 1000000) (h : ¬ hi < b) (hm : hi.toInt - b.toInt < ((fu + 1 : Nat) : Int)) : hi.toInt - (b + 1).toInt < (fu : Int) := by
  rw [Int32.lt_iff_toInt_lt] at h
  rw [sm_inc (by omega)]
  omega
theorem sm_me2 {b hi : Int32} {fu : Nat} (hh : hi.toInt < 1000000) (h : ¬ hi ≤ b) (hm : hi.toInt - b.toInt < ((fu + 1 : Nat) : Int)) : hi.toInt - (b + 1).toInt < (fu : Int) := by
  rw [Int32.le_iff_toInt_le] at h
  rw [sm_inc (by omega)]
  omega
theorem sm_mz1 {b hi : Int32} (hm : hi.toInt - b.toInt < ((0 : Nat) : Int)) : hi < b := by
  rw [Int32.lt_iff_toInt_lt]
  omega
theorem sm_mz2 {b hi : Int32} (hm : hi.toInt - b.toInt < ((0 : Nat) : Int)) : hi ≤ b := by
  rw [Int32.le_iff_toInt_le]
  omega
theorem sm_hN {k : Nat} (h : k < 1000000) : (nI k).toInt < 1000000 := by
  rw [nI_toInt (by omega)]
  omega
theorem sm_hA {a b : Int32} (h1 : sm_B 1000 a) (h2 : sm_B 1000 b) : (a + b).toInt < 1000000 := by
  obtain ⟨a1, a2⟩ := h1
  obtain ⟨b1, b2⟩ := h2
  rw [sm_add (by omega) (by omega)]
  omega
theorem sm_BN {a k : Nat} (h : k ≤ a) (h2 : a < 100000) : sm_B a (nI k) := by
  unfold sm_B
  rw [nI_toInt (by omega)]
  omega
theorem sm_nz {k : Nat} (h : 0 < k ∧ k < 2 ^ 31) : ¬ nI k = 0 := fun e => by
  have := (nI_eq h.2 (by decide : (0 : Nat) < 2 ^ 31)).mp e
  omega
theorem sm_hWH {a b : Nat} (h1 : a ≤ 6) (h2 : b ≤ 6) : (nI a * nI b).toInt < 1000000 := by
  rw [sm_mulN (a := a) (b := b) rfl rfl]
  exact sm_hN (Nat.lt_of_le_of_lt (Nat.mul_le_mul h1 h2) (by decide))
theorem sm_ltM {b hi : Int32} (hh : hi.toInt < 1000000) (h : ¬ hi ≤ b) : b.toInt < 1000000 := by
  rw [Int32.le_iff_toInt_le] at h
  omega
theorem sm_hq {q : Int32} (h : ¬ 3 < q) : q.toInt < 1000000 := by
  have e : (3 : Int32).toInt = 3 := by decide
  rw [Int32.lt_iff_toInt_lt, e] at h
  omega
theorem sm_Bd {d : Int32} (h1 : ¬ d < 0) (h2 : ¬ 5 < d) : sm_B 1000 d := by
  have e : (5 : Int32).toInt = 5 := by decide
  rw [Int32.lt_iff_toInt_lt, Int32.toInt_zero] at h1
  rw [Int32.lt_iff_toInt_lt, e] at h2
  unfold sm_B
  omega
theorem sm_divN {a b : Nat} (ha : a < 2 ^ 31) (hb : b < 2 ^ 31) : nI a / nI b = nI (a / b) := by
  apply Int32.toInt_inj.mp
  rw [sm_div (by rw [nI_toInt ha]; omega) (by rw [nI_toInt hb]; omega), nI_toInt ha, nI_toInt hb, nI_toInt (Nat.lt_of_le_of_lt (Nat.div_le_self a b) ha)]
  rfl
theorem sm_modN {a b : Nat} (ha : a < 2 ^ 31) (hb : b < 2 ^ 31) : nI a - nI a / nI b * nI b = nI (a % b) := by
  have h : b * (a / b) ≤ a := Nat.mul_div_le a b
  rw [sm_divN ha hb, sm_mulN (a := a / b) (b := b) rfl rfl, sm_subN (a := a) (b := a / b * b) rfl rfl (by rw [Nat.mul_comm]; exact h)]
  rw [Nat.mod_def, Nat.mul_comm]
theorem sm_pop {x : Int32} (h : ¬ x = 0) : (x &&& (x - 1)).toBitVec.toNat < x.toBitVec.toNat := by
  have h0 : x.toBitVec.toNat ≠ 0 := fun e => h (by
    apply Int32.toBitVec_inj.mp
    apply BitVec.eq_of_toNat_eq
    exact e)
  have hl := x.toBitVec.isLt
  have e1 : (x - 1).toBitVec.toNat = x.toBitVec.toNat - 1 := by
    show (x.toBitVec - (1 : Int32).toBitVec).toNat = _
    rw [BitVec.toNat_sub]
    have : (1 : Int32).toBitVec.toNat = 1 := by decide
    rw [this]
    omega
  show (x.toBitVec &&& (x - 1).toBitVec).toNat < _
  rw [BitVec.toNat_and, e1]
  have := Nat.and_le_right (n := x.toBitVec.toNat) (m := x.toBitVec.toNat - 1)
  omega
theorem sm_remT (a b : Int32) : (a - a / b * b).toInt = a.toInt.tmod b.toInt := by
  rw [Int32.toInt_sub, Int32.toInt_mul, Int32.toInt_div, Int.bmod_mul_bmod, Int.sub_bmod_bmod, Int.mul_comm, ← Int.tmod_def, ← Int32.toInt_mod]
  have h1 := (a % b).le_toInt
  have h2 := (a % b).toInt_lt
  exact Int.bmod_eq_of_le_mul_two (by omega) (by omega)
theorem sm_remlt {a b : Int32} (h : ¬ b = 0) : (a - a / b * b).toInt.natAbs < b.toInt.natAbs := by
  have hb : b.toInt ≠ 0 := fun e => h (Int32.toInt_inj.mp (e.trans Int32.toInt_zero.symm))
  rw [sm_remT, Int.natAbs_tmod]
  exact Nat.mod_lt _ (by omega)
set_option maxHeartbeats 4000000 in
set_option maxRecDepth 100000 in
theorem xc_has {m : mz_M} {WW HH : Nat} (hWW : WW ≤ 6) (hHH : HH ≤ 6) (h202 : m 20 2 = nI WW) (h203 : m 20 3 = nI HH) (a b : Int32) : ∃ v, mz_Me 3 mz_r4 [.ref 20, .int a, .int b] m (some (.int v)) m := by
  by_cases q1 : a < 0
  · refine ⟨0, ⟨?_, rfl⟩⟩
    refine mz_go 2 (c' := (if a < 0 then 40 else 4, [some (.ref 20), some (.int a), some (.int b)], [], m)) rfl ?_
    refine mz_ifT q1 ?_
    refine mz_go 1 (c' := (41, [some (.ref 20), some (.int a), some (.int b)], [.int 0], m)) rfl ?_
    exact mz_ret rfl
  · by_cases q2 : (nI WW) ≤ a
    · refine ⟨0, ⟨?_, rfl⟩⟩
      refine mz_go 2 (c' := (if a < 0 then 40 else 4, [some (.ref 20), some (.int a), some (.int b)], [], m)) rfl ?_
      refine mz_ifF q1 ?_
      refine mz_go 3 (c' := (9, [some (.ref 20), some (.int a), some (.int b)], [.int (m 20 2), .int a], m)) rfl ?_
      rw [h202]
      refine mz_go 1 (c' := (if (nI WW) ≤ a then 40 else 12, [some (.ref 20), some (.int a), some (.int b)], [], m)) rfl ?_
      refine mz_ifT q2 ?_
      refine mz_go 1 (c' := (41, [some (.ref 20), some (.int a), some (.int b)], [.int 0], m)) rfl ?_
      exact mz_ret rfl
    · by_cases q3 : 6 ≤ a
      · refine ⟨0, ⟨?_, rfl⟩⟩
        refine mz_go 2 (c' := (if a < 0 then 40 else 4, [some (.ref 20), some (.int a), some (.int b)], [], m)) rfl ?_
        refine mz_ifF q1 ?_
        refine mz_go 3 (c' := (9, [some (.ref 20), some (.int a), some (.int b)], [.int (m 20 2), .int a], m)) rfl ?_
        rw [h202]
        refine mz_go 1 (c' := (if (nI WW) ≤ a then 40 else 12, [some (.ref 20), some (.int a), some (.int b)], [], m)) rfl ?_
        refine mz_ifF q2 ?_
        refine mz_go 3 (c' := (if 6 ≤ a then 40 else 18, [some (.ref 20), some (.int a), some (.int b)], [], m)) rfl ?_
        refine mz_ifT q3 ?_
        refine mz_go 1 (c' := (41, [some (.ref 20), some (.int a), some (.int b)], [.int 0], m)) rfl ?_
        exact mz_ret rfl
      · by_cases q4 : b < 0
        · refine ⟨0, ⟨?_, rfl⟩⟩
          refine mz_go 2 (c' := (if a < 0 then 40 else 4, [some (.ref 20), some (.int a), some (.int b)], [], m)) rfl ?_
          refine mz_ifF q1 ?_
          refine mz_go 3 (c' := (9, [some (.ref 20), some (.int a), some (.int b)], [.int (m 20 2), .int a], m)) rfl ?_
          rw [h202]
          refine mz_go 1 (c' := (if (nI WW) ≤ a then 40 else 12, [some (.ref 20), some (.int a), some (.int b)], [], m)) rfl ?_
          refine mz_ifF q2 ?_
          refine mz_go 3 (c' := (if 6 ≤ a then 40 else 18, [some (.ref 20), some (.int a), some (.int b)], [], m)) rfl ?_
          refine mz_ifF q3 ?_
          refine mz_go 2 (c' := (if b < 0 then 40 else 22, [some (.ref 20), some (.int a), some (.int b)], [], m)) rfl ?_
          refine mz_ifT q4 ?_
          refine mz_go 1 (c' := (41, [some (.ref 20), some (.int a), some (.int b)], [.int 0], m)) rfl ?_
          exact mz_ret rfl
        · by_cases q5 : (nI HH) ≤ b
          · refine ⟨0, ⟨?_, rfl⟩⟩
            refine mz_go 2 (c' := (if a < 0 then 40 else 4, [some (.ref 20), some (.int a), some (.int b)], [], m)) rfl ?_
            refine mz_ifF q1 ?_
            refine mz_go 3 (c' := (9, [some (.ref 20), some (.int a), some (.int b)], [.int (m 20 2), .int a], m)) rfl ?_
            rw [h202]
            refine mz_go 1 (c' := (if (nI WW) ≤ a then 40 else 12, [some (.ref 20), some (.int a), some (.int b)], [], m)) rfl ?_
            refine mz_ifF q2 ?_
            refine mz_go 3 (c' := (if 6 ≤ a then 40 else 18, [some (.ref 20), some (.int a), some (.int b)], [], m)) rfl ?_
            refine mz_ifF q3 ?_
            refine mz_go 2 (c' := (if b < 0 then 40 else 22, [some (.ref 20), some (.int a), some (.int b)], [], m)) rfl ?_
            refine mz_ifF q4 ?_
            refine mz_go 3 (c' := (27, [some (.ref 20), some (.int a), some (.int b)], [.int (m 20 3), .int b], m)) rfl ?_
            rw [h203]
            refine mz_go 1 (c' := (if (nI HH) ≤ b then 40 else 30, [some (.ref 20), some (.int a), some (.int b)], [], m)) rfl ?_
            refine mz_ifT q5 ?_
            refine mz_go 1 (c' := (41, [some (.ref 20), some (.int a), some (.int b)], [.int 0], m)) rfl ?_
            exact mz_ret rfl
          · by_cases q6 : 6 ≤ b
            · refine ⟨0, ⟨?_, rfl⟩⟩
              refine mz_go 2 (c' := (if a < 0 then 40 else 4, [some (.ref 20), some (.int a), some (.int b)], [], m)) rfl ?_
              refine mz_ifF q1 ?_
              refine mz_go 3 (c' := (9, [some (.ref 20), some (.int a), some (.int b)], [.int (m 20 2), .int a], m)) rfl ?_
              rw [h202]
              refine mz_go 1 (c' := (if (nI WW) ≤ a then 40 else 12, [some (.ref 20), some (.int a), some (.int b)], [], m)) rfl ?_
              refine mz_ifF q2 ?_
              refine mz_go 3 (c' := (if 6 ≤ a then 40 else 18, [some (.ref 20), some (.int a), some (.int b)], [], m)) rfl ?_
              refine mz_ifF q3 ?_
              refine mz_go 2 (c' := (if b < 0 then 40 else 22, [some (.ref 20), some (.int a), some (.int b)], [], m)) rfl ?_
              refine mz_ifF q4 ?_
              refine mz_go 3 (c' := (27, [some (.ref 20), some (.int a), some (.int b)], [.int (m 20 3), .int b], m)) rfl ?_
              rw [h203]
              refine mz_go 1 (c' := (if (nI HH) ≤ b then 40 else 30, [some (.ref 20), some (.int a), some (.int b)], [], m)) rfl ?_
              refine mz_ifF q5 ?_
              refine mz_go 3 (c' := (if 6 ≤ b then 40 else 36, [some (.ref 20), some (.int a), some (.int b)], [], m)) rfl ?_
              refine mz_ifT q6 ?_
              refine mz_go 1 (c' := (41, [some (.ref 20), some (.int a), some (.int b)], [.int 0], m)) rfl ?_
              exact mz_ret rfl
            · refine ⟨1, ⟨?_, rfl⟩⟩
              refine mz_go 2 (c' := (if a < 0 then 40 else 4, [some (.ref 20), some (.int a), some (.int b)], [], m)) rfl ?_
              refine mz_ifF q1 ?_
              refine mz_go 3 (c' := (9, [some (.ref 20), some (.int a), some (.int b)], [.int (m 20 2), .int a], m)) rfl ?_
              rw [h202]
              refine mz_go 1 (c' := (if (nI WW) ≤ a then 40 else 12, [some (.ref 20), some (.int a), some (.int b)], [], m)) rfl ?_
              refine mz_ifF q2 ?_
              refine mz_go 3 (c' := (if 6 ≤ a then 40 else 18, [some (.ref 20), some (.int a), some (.int b)], [], m)) rfl ?_
              refine mz_ifF q3 ?_
              refine mz_go 2 (c' := (if b < 0 then 40 else 22, [some (.ref 20), some (.int a), some (.int b)], [], m)) rfl ?_
              refine mz_ifF q4 ?_
              refine mz_go 3 (c' := (27, [some (.ref 20), some (.int a), some (.int b)], [.int (m 20 3), .int b], m)) rfl ?_
              rw [h203]
              refine mz_go 1 (c' := (if (nI HH) ≤ b then 40 else 30, [some (.ref 20), some (.int a), some (.int b)], [], m)) rfl ?_
              refine mz_ifF q5 ?_
              refine mz_go 3 (c' := (if 6 ≤ b then 40 else 36, [some (.ref 20), some (.int a), some (.int b)], [], m)) rfl ?_
              refine mz_ifF q6 ?_
              refine mz_go 2 (c' := (41, [some (.ref 20), some (.int a), some (.int b)], [.int 1], m)) rfl ?_
              exact mz_ret rfl
set_option maxHeartbeats 4000000 in
set_option maxRecDepth 100000 in
theorem xc_col {m : mz_M} {WW HH : Nat} (hWW : WW ≤ 6) (hHH : HH ≤ 6) (h202 : m 20 2 = nI WW) (h203 : m 20 3 = nI HH) (a b : Int32) : ∃ v, mz_Me 5 mz_r7 [.ref 20, .int a, .int b] m (some (.int v)) m := by
  by_cases q1 : a < 0
  · refine ⟨9, ⟨?_, rfl⟩⟩
    refine mz_go 3 (c' := (3, [some (.ref 20), some (.int a), some (.int b)], [.int b, .int a, .ref 20], m)) rfl ?_
    refine mz_doQ (R := mz_r4) (as := [.ref 20, .int a, .int b]) (rest := []) (r1 := some (.int 0)) (m1 := m) mz_t4 mz_v4_20 rfl rfl rfl rfl rfl ⟨?_, rfl⟩ ?_
    · refine mz_go 2 (c' := (if a < 0 then 40 else 4, [some (.ref 20), some (.int a), some (.int b)], [], m)) rfl ?_
      refine mz_ifT q1 ?_
      refine mz_go 1 (c' := (41, [some (.ref 20), some (.int a), some (.int b)], [.int 0], m)) rfl ?_
      exact mz_ret rfl
    refine mz_go 2 (c' := (25, [some (.ref 20), some (.int a), some (.int b)], [.int 9], m)) rfl ?_
    exact mz_ret rfl
  · obtain ⟨ja, hja, rfl⟩ := nI_of q1
    by_cases q2 : WW ≤ ja
    · refine ⟨9, ⟨?_, rfl⟩⟩
      refine mz_go 3 (c' := (3, [some (.ref 20), some (.int (nI ja)), some (.int b)], [.int b, .int (nI ja), .ref 20], m)) rfl ?_
      refine mz_doQ (R := mz_r4) (as := [.ref 20, .int (nI ja), .int b]) (rest := []) (r1 := some (.int 0)) (m1 := m) mz_t4 mz_v4_20 rfl rfl rfl rfl rfl ⟨?_, rfl⟩ ?_
      · refine mz_go 2 (c' := (if (nI ja) < 0 then 40 else 4, [some (.ref 20), some (.int (nI ja)), some (.int b)], [], m)) rfl ?_
        refine mz_ifF q1 ?_
        refine mz_go 3 (c' := (9, [some (.ref 20), some (.int (nI ja)), some (.int b)], [.int (m 20 2), .int (nI ja)], m)) rfl ?_
        rw [h202]
        refine mz_go 1 (c' := (if (nI WW) ≤ (nI ja) then 40 else 12, [some (.ref 20), some (.int (nI ja)), some (.int b)], [], m)) rfl ?_
        refine mz_ifT (show ((nI WW) ≤ (nI ja)) from (sm_leN rfl rfl (show WW ≤ ja by omega) (show ja < 2 ^ 31 by omega))) ?_
        refine mz_go 1 (c' := (41, [some (.ref 20), some (.int (nI ja)), some (.int b)], [.int 0], m)) rfl ?_
        exact mz_ret rfl
      refine mz_go 2 (c' := (25, [some (.ref 20), some (.int (nI ja)), some (.int b)], [.int 9], m)) rfl ?_
      exact mz_ret rfl
    · by_cases q3 : b < 0
      · refine ⟨9, ⟨?_, rfl⟩⟩
        refine mz_go 3 (c' := (3, [some (.ref 20), some (.int (nI ja)), some (.int b)], [.int b, .int (nI ja), .ref 20], m)) rfl ?_
        refine mz_doQ (R := mz_r4) (as := [.ref 20, .int (nI ja), .int b]) (rest := []) (r1 := some (.int 0)) (m1 := m) mz_t4 mz_v4_20 rfl rfl rfl rfl rfl ⟨?_, rfl⟩ ?_
        · refine mz_go 2 (c' := (if (nI ja) < 0 then 40 else 4, [some (.ref 20), some (.int (nI ja)), some (.int b)], [], m)) rfl ?_
          refine mz_ifF q1 ?_
          refine mz_go 3 (c' := (9, [some (.ref 20), some (.int (nI ja)), some (.int b)], [.int (m 20 2), .int (nI ja)], m)) rfl ?_
          rw [h202]
          refine mz_go 1 (c' := (if (nI WW) ≤ (nI ja) then 40 else 12, [some (.ref 20), some (.int (nI ja)), some (.int b)], [], m)) rfl ?_
          refine mz_ifF (show ¬ ((nI WW) ≤ (nI ja)) from (sm_nleN rfl rfl (show ja < WW by omega) (show WW < 2 ^ 31 by omega))) ?_
          refine mz_go 3 (c' := (if 6 ≤ (nI ja) then 40 else 18, [some (.ref 20), some (.int (nI ja)), some (.int b)], [], m)) rfl ?_
          refine mz_ifF (show ¬ (6 ≤ (nI ja)) from (sm_nleN rfl rfl (show ja < 6 by omega) (show 6 < 2 ^ 31 by omega))) ?_
          refine mz_go 2 (c' := (if b < 0 then 40 else 22, [some (.ref 20), some (.int (nI ja)), some (.int b)], [], m)) rfl ?_
          refine mz_ifT q3 ?_
          refine mz_go 1 (c' := (41, [some (.ref 20), some (.int (nI ja)), some (.int b)], [.int 0], m)) rfl ?_
          exact mz_ret rfl
        refine mz_go 2 (c' := (25, [some (.ref 20), some (.int (nI ja)), some (.int b)], [.int 9], m)) rfl ?_
        exact mz_ret rfl
      · obtain ⟨jb, hjb, rfl⟩ := nI_of q3
        by_cases q4 : HH ≤ jb
        · refine ⟨9, ⟨?_, rfl⟩⟩
          refine mz_go 3 (c' := (3, [some (.ref 20), some (.int (nI ja)), some (.int (nI jb))], [.int (nI jb), .int (nI ja), .ref 20], m)) rfl ?_
          refine mz_doQ (R := mz_r4) (as := [.ref 20, .int (nI ja), .int (nI jb)]) (rest := []) (r1 := some (.int 0)) (m1 := m) mz_t4 mz_v4_20 rfl rfl rfl rfl rfl ⟨?_, rfl⟩ ?_
          · refine mz_go 2 (c' := (if (nI ja) < 0 then 40 else 4, [some (.ref 20), some (.int (nI ja)), some (.int (nI jb))], [], m)) rfl ?_
            refine mz_ifF q1 ?_
            refine mz_go 3 (c' := (9, [some (.ref 20), some (.int (nI ja)), some (.int (nI jb))], [.int (m 20 2), .int (nI ja)], m)) rfl ?_
            rw [h202]
            refine mz_go 1 (c' := (if (nI WW) ≤ (nI ja) then 40 else 12, [some (.ref 20), some (.int (nI ja)), some (.int (nI jb))], [], m)) rfl ?_
            refine mz_ifF (show ¬ ((nI WW) ≤ (nI ja)) from (sm_nleN rfl rfl (show ja < WW by omega) (show WW < 2 ^ 31 by omega))) ?_
            refine mz_go 3 (c' := (if 6 ≤ (nI ja) then 40 else 18, [some (.ref 20), some (.int (nI ja)), some (.int (nI jb))], [], m)) rfl ?_
            refine mz_ifF (show ¬ (6 ≤ (nI ja)) from (sm_nleN rfl rfl (show ja < 6 by omega) (show 6 < 2 ^ 31 by omega))) ?_
            refine mz_go 2 (c' := (if (nI jb) < 0 then 40 else 22, [some (.ref 20), some (.int (nI ja)), some (.int (nI jb))], [], m)) rfl ?_
            refine mz_ifF q3 ?_
            refine mz_go 3 (c' := (27, [some (.ref 20), some (.int (nI ja)), some (.int (nI jb))], [.int (m 20 3), .int (nI jb)], m)) rfl ?_
            rw [h203]
            refine mz_go 1 (c' := (if (nI HH) ≤ (nI jb) then 40 else 30, [some (.ref 20), some (.int (nI ja)), some (.int (nI jb))], [], m)) rfl ?_
            refine mz_ifT (show ((nI HH) ≤ (nI jb)) from (sm_leN rfl rfl (show HH ≤ jb by omega) (show jb < 2 ^ 31 by omega))) ?_
            refine mz_go 1 (c' := (41, [some (.ref 20), some (.int (nI ja)), some (.int (nI jb))], [.int 0], m)) rfl ?_
            exact mz_ret rfl
          refine mz_go 2 (c' := (25, [some (.ref 20), some (.int (nI ja)), some (.int (nI jb))], [.int 9], m)) rfl ?_
          exact mz_ret rfl
        · refine ⟨m 21 ((jb * 6) + ja), ⟨?_, rfl⟩⟩
          refine mz_go 3 (c' := (3, [some (.ref 20), some (.int (nI ja)), some (.int (nI jb))], [.int (nI jb), .int (nI ja), .ref 20], m)) rfl ?_
          refine mz_doQ (R := mz_r4) (as := [.ref 20, .int (nI ja), .int (nI jb)]) (rest := []) (r1 := some (.int 1)) (m1 := m) mz_t4 mz_v4_20 rfl rfl rfl rfl rfl ⟨?_, rfl⟩ ?_
          · refine mz_go 2 (c' := (if (nI ja) < 0 then 40 else 4, [some (.ref 20), some (.int (nI ja)), some (.int (nI jb))], [], m)) rfl ?_
            refine mz_ifF q1 ?_
            refine mz_go 3 (c' := (9, [some (.ref 20), some (.int (nI ja)), some (.int (nI jb))], [.int (m 20 2), .int (nI ja)], m)) rfl ?_
            rw [h202]
            refine mz_go 1 (c' := (if (nI WW) ≤ (nI ja) then 40 else 12, [some (.ref 20), some (.int (nI ja)), some (.int (nI jb))], [], m)) rfl ?_
            refine mz_ifF (show ¬ ((nI WW) ≤ (nI ja)) from (sm_nleN rfl rfl (show ja < WW by omega) (show WW < 2 ^ 31 by omega))) ?_
            refine mz_go 3 (c' := (if 6 ≤ (nI ja) then 40 else 18, [some (.ref 20), some (.int (nI ja)), some (.int (nI jb))], [], m)) rfl ?_
            refine mz_ifF (show ¬ (6 ≤ (nI ja)) from (sm_nleN rfl rfl (show ja < 6 by omega) (show 6 < 2 ^ 31 by omega))) ?_
            refine mz_go 2 (c' := (if (nI jb) < 0 then 40 else 22, [some (.ref 20), some (.int (nI ja)), some (.int (nI jb))], [], m)) rfl ?_
            refine mz_ifF q3 ?_
            refine mz_go 3 (c' := (27, [some (.ref 20), some (.int (nI ja)), some (.int (nI jb))], [.int (m 20 3), .int (nI jb)], m)) rfl ?_
            rw [h203]
            refine mz_go 1 (c' := (if (nI HH) ≤ (nI jb) then 40 else 30, [some (.ref 20), some (.int (nI ja)), some (.int (nI jb))], [], m)) rfl ?_
            refine mz_ifF (show ¬ ((nI HH) ≤ (nI jb)) from (sm_nleN rfl rfl (show jb < HH by omega) (show HH < 2 ^ 31 by omega))) ?_
            refine mz_go 3 (c' := (if 6 ≤ (nI jb) then 40 else 36, [some (.ref 20), some (.int (nI ja)), some (.int (nI jb))], [], m)) rfl ?_
            refine mz_ifF (show ¬ (6 ≤ (nI jb)) from (sm_nleN rfl rfl (show jb < 6 by omega) (show 6 < 2 ^ 31 by omega))) ?_
            refine mz_go 2 (c' := (41, [some (.ref 20), some (.int (nI ja)), some (.int (nI jb))], [.int 1], m)) rfl ?_
            exact mz_ret rfl
          refine mz_go 8 (c' := (19, [some (.ref 20), some (.int (nI ja)), some (.int (nI jb))], [.int (((nI jb) * 6) + (nI ja)), .ref 21], m)) rfl ?_
          refine mz_arr (c' := (20, [some (.ref 20), some (.int (nI ja)), some (.int (nI jb))], [.int (m 21 ((((nI jb) * 6) + (nI ja)).toNatClampNeg))], m)) rfl (show mz_in (((nI jb) * 6) + (nI ja)) 36 = true from sm_inN (sm_addN (sm_mulN rfl rfl) rfl) (show ((jb * 6) + ja) < 36 by omega) (by decide)) ?_
          rw [show (((nI jb) * 6) + (nI ja) : Int32).toNatClampNeg = ((jb * 6) + ja) from sm_clN (sm_addN (sm_mulN rfl rfl) rfl) (show ((jb * 6) + ja) < 2 ^ 31 by omega)]
          refine mz_go 1 (c' := (25, [some (.ref 20), some (.int (nI ja)), some (.int (nI jb))], [.int (m 21 ((jb * 6) + ja))], m)) rfl ?_
          exact mz_ret rfl
set_option maxHeartbeats 4000000 in
set_option maxRecDepth 100000 in
theorem xc_len {m : mz_M} {WW HH : Nat} (hWW : WW ≤ 6) (hHH : HH ≤ 6) (h202 : m 20 2 = nI WW) (h203 : m 20 3 = nI HH) (a b : Int32) : ∃ v, mz_Me 5 mz_r8 [.ref 20, .int a, .int b] m (some (.int v)) m := by
  by_cases q1 : a < 0
  · refine ⟨0, ⟨?_, rfl⟩⟩
    refine mz_go 3 (c' := (3, [some (.ref 20), some (.int a), some (.int b)], [.int b, .int a, .ref 20], m)) rfl ?_
    refine mz_doQ (R := mz_r4) (as := [.ref 20, .int a, .int b]) (rest := []) (r1 := some (.int 0)) (m1 := m) mz_t4 mz_v4_20 rfl rfl rfl rfl rfl ⟨?_, rfl⟩ ?_
    · refine mz_go 2 (c' := (if a < 0 then 40 else 4, [some (.ref 20), some (.int a), some (.int b)], [], m)) rfl ?_
      refine mz_ifT q1 ?_
      refine mz_go 1 (c' := (41, [some (.ref 20), some (.int a), some (.int b)], [.int 0], m)) rfl ?_
      exact mz_ret rfl
    refine mz_go 2 (c' := (24, [some (.ref 20), some (.int a), some (.int b)], [.int 0], m)) rfl ?_
    exact mz_ret rfl
  · obtain ⟨ja, hja, rfl⟩ := nI_of q1
    by_cases q2 : WW ≤ ja
    · refine ⟨0, ⟨?_, rfl⟩⟩
      refine mz_go 3 (c' := (3, [some (.ref 20), some (.int (nI ja)), some (.int b)], [.int b, .int (nI ja), .ref 20], m)) rfl ?_
      refine mz_doQ (R := mz_r4) (as := [.ref 20, .int (nI ja), .int b]) (rest := []) (r1 := some (.int 0)) (m1 := m) mz_t4 mz_v4_20 rfl rfl rfl rfl rfl ⟨?_, rfl⟩ ?_
      · refine mz_go 2 (c' := (if (nI ja) < 0 then 40 else 4, [some (.ref 20), some (.int (nI ja)), some (.int b)], [], m)) rfl ?_
        refine mz_ifF q1 ?_
        refine mz_go 3 (c' := (9, [some (.ref 20), some (.int (nI ja)), some (.int b)], [.int (m 20 2), .int (nI ja)], m)) rfl ?_
        rw [h202]
        refine mz_go 1 (c' := (if (nI WW) ≤ (nI ja) then 40 else 12, [some (.ref 20), some (.int (nI ja)), some (.int b)], [], m)) rfl ?_
        refine mz_ifT (show ((nI WW) ≤ (nI ja)) from (sm_leN rfl rfl (show WW ≤ ja by omega) (show ja < 2 ^ 31 by omega))) ?_
        refine mz_go 1 (c' := (41, [some (.ref 20), some (.int (nI ja)), some (.int b)], [.int 0], m)) rfl ?_
        exact mz_ret rfl
      refine mz_go 2 (c' := (24, [some (.ref 20), some (.int (nI ja)), some (.int b)], [.int 0], m)) rfl ?_
      exact mz_ret rfl
    · by_cases q3 : b < 0
      · refine ⟨0, ⟨?_, rfl⟩⟩
        refine mz_go 3 (c' := (3, [some (.ref 20), some (.int (nI ja)), some (.int b)], [.int b, .int (nI ja), .ref 20], m)) rfl ?_
        refine mz_doQ (R := mz_r4) (as := [.ref 20, .int (nI ja), .int b]) (rest := []) (r1 := some (.int 0)) (m1 := m) mz_t4 mz_v4_20 rfl rfl rfl rfl rfl ⟨?_, rfl⟩ ?_
        · refine mz_go 2 (c' := (if (nI ja) < 0 then 40 else 4, [some (.ref 20), some (.int (nI ja)), some (.int b)], [], m)) rfl ?_
          refine mz_ifF q1 ?_
          refine mz_go 3 (c' := (9, [some (.ref 20), some (.int (nI ja)), some (.int b)], [.int (m 20 2), .int (nI ja)], m)) rfl ?_
          rw [h202]
          refine mz_go 1 (c' := (if (nI WW) ≤ (nI ja) then 40 else 12, [some (.ref 20), some (.int (nI ja)), some (.int b)], [], m)) rfl ?_
          refine mz_ifF (show ¬ ((nI WW) ≤ (nI ja)) from (sm_nleN rfl rfl (show ja < WW by omega) (show WW < 2 ^ 31 by omega))) ?_
          refine mz_go 3 (c' := (if 6 ≤ (nI ja) then 40 else 18, [some (.ref 20), some (.int (nI ja)), some (.int b)], [], m)) rfl ?_
          refine mz_ifF (show ¬ (6 ≤ (nI ja)) from (sm_nleN rfl rfl (show ja < 6 by omega) (show 6 < 2 ^ 31 by omega))) ?_
          refine mz_go 2 (c' := (if b < 0 then 40 else 22, [some (.ref 20), some (.int (nI ja)), some (.int b)], [], m)) rfl ?_
          refine mz_ifT q3 ?_
          refine mz_go 1 (c' := (41, [some (.ref 20), some (.int (nI ja)), some (.int b)], [.int 0], m)) rfl ?_
          exact mz_ret rfl
        refine mz_go 2 (c' := (24, [some (.ref 20), some (.int (nI ja)), some (.int b)], [.int 0], m)) rfl ?_
        exact mz_ret rfl
      · obtain ⟨jb, hjb, rfl⟩ := nI_of q3
        by_cases q4 : HH ≤ jb
        · refine ⟨0, ⟨?_, rfl⟩⟩
          refine mz_go 3 (c' := (3, [some (.ref 20), some (.int (nI ja)), some (.int (nI jb))], [.int (nI jb), .int (nI ja), .ref 20], m)) rfl ?_
          refine mz_doQ (R := mz_r4) (as := [.ref 20, .int (nI ja), .int (nI jb)]) (rest := []) (r1 := some (.int 0)) (m1 := m) mz_t4 mz_v4_20 rfl rfl rfl rfl rfl ⟨?_, rfl⟩ ?_
          · refine mz_go 2 (c' := (if (nI ja) < 0 then 40 else 4, [some (.ref 20), some (.int (nI ja)), some (.int (nI jb))], [], m)) rfl ?_
            refine mz_ifF q1 ?_
            refine mz_go 3 (c' := (9, [some (.ref 20), some (.int (nI ja)), some (.int (nI jb))], [.int (m 20 2), .int (nI ja)], m)) rfl ?_
            rw [h202]
            refine mz_go 1 (c' := (if (nI WW) ≤ (nI ja) then 40 else 12, [some (.ref 20), some (.int (nI ja)), some (.int (nI jb))], [], m)) rfl ?_
            refine mz_ifF (show ¬ ((nI WW) ≤ (nI ja)) from (sm_nleN rfl rfl (show ja < WW by omega) (show WW < 2 ^ 31 by omega))) ?_
            refine mz_go 3 (c' := (if 6 ≤ (nI ja) then 40 else 18, [some (.ref 20), some (.int (nI ja)), some (.int (nI jb))], [], m)) rfl ?_
            refine mz_ifF (show ¬ (6 ≤ (nI ja)) from (sm_nleN rfl rfl (show ja < 6 by omega) (show 6 < 2 ^ 31 by omega))) ?_
            refine mz_go 2 (c' := (if (nI jb) < 0 then 40 else 22, [some (.ref 20), some (.int (nI ja)), some (.int (nI jb))], [], m)) rfl ?_
            refine mz_ifF q3 ?_
            refine mz_go 3 (c' := (27, [some (.ref 20), some (.int (nI ja)), some (.int (nI jb))], [.int (m 20 3), .int (nI jb)], m)) rfl ?_
            rw [h203]
            refine mz_go 1 (c' := (if (nI HH) ≤ (nI jb) then 40 else 30, [some (.ref 20), some (.int (nI ja)), some (.int (nI jb))], [], m)) rfl ?_
            refine mz_ifT (show ((nI HH) ≤ (nI jb)) from (sm_leN rfl rfl (show HH ≤ jb by omega) (show jb < 2 ^ 31 by omega))) ?_
            refine mz_go 1 (c' := (41, [some (.ref 20), some (.int (nI ja)), some (.int (nI jb))], [.int 0], m)) rfl ?_
            exact mz_ret rfl
          refine mz_go 2 (c' := (24, [some (.ref 20), some (.int (nI ja)), some (.int (nI jb))], [.int 0], m)) rfl ?_
          exact mz_ret rfl
        · refine ⟨m 22 ((jb * 6) + ja), ⟨?_, rfl⟩⟩
          refine mz_go 3 (c' := (3, [some (.ref 20), some (.int (nI ja)), some (.int (nI jb))], [.int (nI jb), .int (nI ja), .ref 20], m)) rfl ?_
          refine mz_doQ (R := mz_r4) (as := [.ref 20, .int (nI ja), .int (nI jb)]) (rest := []) (r1 := some (.int 1)) (m1 := m) mz_t4 mz_v4_20 rfl rfl rfl rfl rfl ⟨?_, rfl⟩ ?_
          · refine mz_go 2 (c' := (if (nI ja) < 0 then 40 else 4, [some (.ref 20), some (.int (nI ja)), some (.int (nI jb))], [], m)) rfl ?_
            refine mz_ifF q1 ?_
            refine mz_go 3 (c' := (9, [some (.ref 20), some (.int (nI ja)), some (.int (nI jb))], [.int (m 20 2), .int (nI ja)], m)) rfl ?_
            rw [h202]
            refine mz_go 1 (c' := (if (nI WW) ≤ (nI ja) then 40 else 12, [some (.ref 20), some (.int (nI ja)), some (.int (nI jb))], [], m)) rfl ?_
            refine mz_ifF (show ¬ ((nI WW) ≤ (nI ja)) from (sm_nleN rfl rfl (show ja < WW by omega) (show WW < 2 ^ 31 by omega))) ?_
            refine mz_go 3 (c' := (if 6 ≤ (nI ja) then 40 else 18, [some (.ref 20), some (.int (nI ja)), some (.int (nI jb))], [], m)) rfl ?_
            refine mz_ifF (show ¬ (6 ≤ (nI ja)) from (sm_nleN rfl rfl (show ja < 6 by omega) (show 6 < 2 ^ 31 by omega))) ?_
            refine mz_go 2 (c' := (if (nI jb) < 0 then 40 else 22, [some (.ref 20), some (.int (nI ja)), some (.int (nI jb))], [], m)) rfl ?_
            refine mz_ifF q3 ?_
            refine mz_go 3 (c' := (27, [some (.ref 20), some (.int (nI ja)), some (.int (nI jb))], [.int (m 20 3), .int (nI jb)], m)) rfl ?_
            rw [h203]
            refine mz_go 1 (c' := (if (nI HH) ≤ (nI jb) then 40 else 30, [some (.ref 20), some (.int (nI ja)), some (.int (nI jb))], [], m)) rfl ?_
            refine mz_ifF (show ¬ ((nI HH) ≤ (nI jb)) from (sm_nleN rfl rfl (show jb < HH by omega) (show HH < 2 ^ 31 by omega))) ?_
            refine mz_go 3 (c' := (if 6 ≤ (nI jb) then 40 else 36, [some (.ref 20), some (.int (nI ja)), some (.int (nI jb))], [], m)) rfl ?_
            refine mz_ifF (show ¬ (6 ≤ (nI jb)) from (sm_nleN rfl rfl (show jb < 6 by omega) (show 6 < 2 ^ 31 by omega))) ?_
            refine mz_go 2 (c' := (41, [some (.ref 20), some (.int (nI ja)), some (.int (nI jb))], [.int 1], m)) rfl ?_
            exact mz_ret rfl
          refine mz_go 8 (c' := (19, [some (.ref 20), some (.int (nI ja)), some (.int (nI jb))], [.int (((nI jb) * 6) + (nI ja)), .ref 22], m)) rfl ?_
          refine mz_arr (c' := (20, [some (.ref 20), some (.int (nI ja)), some (.int (nI jb))], [.int (m 22 ((((nI jb) * 6) + (nI ja)).toNatClampNeg))], m)) rfl (show mz_in (((nI jb) * 6) + (nI ja)) 36 = true from sm_inN (sm_addN (sm_mulN rfl rfl) rfl) (show ((jb * 6) + ja) < 36 by omega) (by decide)) ?_
          rw [show (((nI jb) * 6) + (nI ja) : Int32).toNatClampNeg = ((jb * 6) + ja) from sm_clN (sm_addN (sm_mulN rfl rfl) rfl) (show ((jb * 6) + ja) < 2 ^ 31 by omega)]
          refine mz_go 1 (c' := (24, [some (.ref 20), some (.int (nI ja)), some (.int (nI jb))], [.int (m 22 ((jb * 6) + ja))], m)) rfl ?_
          exact mz_ret rfl
set_option maxHeartbeats 4000000 in
set_option maxRecDepth 100000 in
theorem xc_oth {m : mz_M} {WW HH : Nat} (hWW : WW ≤ 6) (hHH : HH ≤ 6) (h202 : m 20 2 = nI WW) (h203 : m 20 3 = nI HH) (a b c : Int32) : ∃ v, mz_Me 8 mz_r13 [.ref 20, .int a, .int b, .int c] m (some (.int v)) m := by
  obtain ⟨ve1, Ee1⟩ := xc_has (m := m) hWW hHH h202 h203 a b
  by_cases q1 : ve1 = 0
  · refine ⟨0, ⟨?_, rfl⟩⟩
    refine mz_go 3 (c' := (3, [some (.ref 20), some (.int a), some (.int b), some (.int c)], [.int b, .int a, .ref 20], m)) rfl ?_
    refine mz_doQ (R := mz_r4) (as := [.ref 20, .int a, .int b]) (rest := []) (r1 := some (.int ve1)) (m1 := m) mz_t4 mz_v4_20 rfl rfl rfl rfl rfl (Ee1.deep (by decide)) ?_
    refine mz_go 1 (c' := (if ve1 = 0 then 23 else 9, [some (.ref 20), some (.int a), some (.int b), some (.int c)], [], m)) rfl ?_
    refine mz_ifT q1 ?_
    refine mz_go 1 (c' := (24, [some (.ref 20), some (.int a), some (.int b), some (.int c)], [.int 0], m)) rfl ?_
    exact mz_ret rfl
  · obtain ⟨ve2, Ee2⟩ := xc_col (m := m) hWW hHH h202 h203 a b
    by_cases q2 : ve2 = c
    · refine ⟨0, ⟨?_, rfl⟩⟩
      refine mz_go 3 (c' := (3, [some (.ref 20), some (.int a), some (.int b), some (.int c)], [.int b, .int a, .ref 20], m)) rfl ?_
      refine mz_doQ (R := mz_r4) (as := [.ref 20, .int a, .int b]) (rest := []) (r1 := some (.int ve1)) (m1 := m) mz_t4 mz_v4_20 rfl rfl rfl rfl rfl (Ee1.deep (by decide)) ?_
      refine mz_go 1 (c' := (if ve1 = 0 then 23 else 9, [some (.ref 20), some (.int a), some (.int b), some (.int c)], [], m)) rfl ?_
      refine mz_ifF q1 ?_
      refine mz_go 3 (c' := (12, [some (.ref 20), some (.int a), some (.int b), some (.int c)], [.int b, .int a, .ref 20], m)) rfl ?_
      refine mz_doQ (R := mz_r7) (as := [.ref 20, .int a, .int b]) (rest := []) (r1 := some (.int ve2)) (m1 := m) mz_t7 mz_v7_20 rfl rfl rfl rfl rfl (Ee2.deep (by decide)) ?_
      refine mz_go 2 (c' := (if ve2 = c then 23 else 19, [some (.ref 20), some (.int a), some (.int b), some (.int c)], [], m)) rfl ?_
      refine mz_ifT q2 ?_
      refine mz_go 1 (c' := (24, [some (.ref 20), some (.int a), some (.int b), some (.int c)], [.int 0], m)) rfl ?_
      exact mz_ret rfl
    · refine ⟨1, ⟨?_, rfl⟩⟩
      refine mz_go 3 (c' := (3, [some (.ref 20), some (.int a), some (.int b), some (.int c)], [.int b, .int a, .ref 20], m)) rfl ?_
      refine mz_doQ (R := mz_r4) (as := [.ref 20, .int a, .int b]) (rest := []) (r1 := some (.int ve1)) (m1 := m) mz_t4 mz_v4_20 rfl rfl rfl rfl rfl (Ee1.deep (by decide)) ?_
      refine mz_go 1 (c' := (if ve1 = 0 then 23 else 9, [some (.ref 20), some (.int a), some (.int b), some (.int c)], [], m)) rfl ?_
      refine mz_ifF q1 ?_
      refine mz_go 3 (c' := (12, [some (.ref 20), some (.int a), some (.int b), some (.int c)], [.int b, .int a, .ref 20], m)) rfl ?_
      refine mz_doQ (R := mz_r7) (as := [.ref 20, .int a, .int b]) (rest := []) (r1 := some (.int ve2)) (m1 := m) mz_t7 mz_v7_20 rfl rfl rfl rfl rfl (Ee2.deep (by decide)) ?_
      refine mz_go 2 (c' := (if ve2 = c then 23 else 19, [some (.ref 20), some (.int a), some (.int b), some (.int c)], [], m)) rfl ?_
      refine mz_ifF q2 ?_
      refine mz_go 2 (c' := (24, [some (.ref 20), some (.int a), some (.int b), some (.int c)], [.int 1], m)) rfl ?_
      exact mz_ret rfl
set_option maxHeartbeats 4000000 in
set_option maxRecDepth 100000 in
theorem xc_edg {m : mz_M} {WW HH : Nat} (hWW : WW ≤ 6) (hHH : HH ≤ 6) (h202 : m 20 2 = nI WW) (h203 : m 20 3 = nI HH) (a b : Int32) : ∃ v, mz_Me 10 mz_r12 [.ref 20, .int a, .int b] m (some (.int v)) m := by
  obtain ⟨ve1, Ee1⟩ := xc_col (m := m) hWW hHH h202 h203 a b
  obtain ⟨ve2, Ee2⟩ := xc_oth (m := m) hWW hHH h202 h203 (a - 1) b ve1
  by_cases q1 : ve2 = 0
  · obtain ⟨ve3, Ee3⟩ := xc_oth (m := m) hWW hHH h202 h203 (a + 1) b ve1
    by_cases q2 : ve3 = 0
    · obtain ⟨ve4, Ee4⟩ := xc_oth (m := m) hWW hHH h202 h203 a (b - 1) ve1
      by_cases q3 : ve4 = 0
      · obtain ⟨ve5, Ee5⟩ := xc_oth (m := m) hWW hHH h202 h203 a (b + 1) ve1
        by_cases q4 : ve5 = 0
        · refine ⟨0, ⟨?_, rfl⟩⟩
          refine mz_go 3 (c' := (3, [some (.ref 20), some (.int a), some (.int b), none], [.int b, .int a, .ref 20], m)) rfl ?_
          refine mz_doQ (R := mz_r7) (as := [.ref 20, .int a, .int b]) (rest := []) (r1 := some (.int ve1)) (m1 := m) mz_t7 mz_v7_20 rfl rfl rfl rfl rfl (Ee1.deep (by decide)) ?_
          refine mz_go 7 (c' := (13, [some (.ref 20), some (.int a), some (.int b), some (.int ve1)], [.int ve1, .int b, .int (a - 1), .ref 20], m)) rfl ?_
          refine mz_doQ (R := mz_r13) (as := [.ref 20, .int (a - 1), .int b, .int ve1]) (rest := []) (r1 := some (.int ve2)) (m1 := m) mz_t13 mz_v13_20 rfl rfl rfl rfl rfl (Ee2.deep (by decide)) ?_
          refine mz_go 1 (c' := (if ve2 = 0 then 19 else 55, [some (.ref 20), some (.int a), some (.int b), some (.int ve1)], [], m)) rfl ?_
          refine mz_ifT q1 ?_
          refine mz_go 6 (c' := (25, [some (.ref 20), some (.int a), some (.int b), some (.int ve1)], [.int ve1, .int b, .int (a + 1), .ref 20], m)) rfl ?_
          refine mz_doQ (R := mz_r13) (as := [.ref 20, .int (a + 1), .int b, .int ve1]) (rest := []) (r1 := some (.int ve3)) (m1 := m) mz_t13 mz_v13_20 rfl rfl rfl rfl rfl (Ee3.deep (by decide)) ?_
          refine mz_go 1 (c' := (if ve3 = 0 then 31 else 55, [some (.ref 20), some (.int a), some (.int b), some (.int ve1)], [], m)) rfl ?_
          refine mz_ifT q2 ?_
          refine mz_go 6 (c' := (37, [some (.ref 20), some (.int a), some (.int b), some (.int ve1)], [.int ve1, .int (b - 1), .int a, .ref 20], m)) rfl ?_
          refine mz_doQ (R := mz_r13) (as := [.ref 20, .int a, .int (b - 1), .int ve1]) (rest := []) (r1 := some (.int ve4)) (m1 := m) mz_t13 mz_v13_20 rfl rfl rfl rfl rfl (Ee4.deep (by decide)) ?_
          refine mz_go 1 (c' := (if ve4 = 0 then 43 else 55, [some (.ref 20), some (.int a), some (.int b), some (.int ve1)], [], m)) rfl ?_
          refine mz_ifT q3 ?_
          refine mz_go 6 (c' := (49, [some (.ref 20), some (.int a), some (.int b), some (.int ve1)], [.int ve1, .int (b + 1), .int a, .ref 20], m)) rfl ?_
          refine mz_doQ (R := mz_r13) (as := [.ref 20, .int a, .int (b + 1), .int ve1]) (rest := []) (r1 := some (.int ve5)) (m1 := m) mz_t13 mz_v13_20 rfl rfl rfl rfl rfl (Ee5.deep (by decide)) ?_
          refine mz_go 1 (c' := (if ve5 = 0 then 59 else 55, [some (.ref 20), some (.int a), some (.int b), some (.int ve1)], [], m)) rfl ?_
          refine mz_ifT q4 ?_
          refine mz_go 1 (c' := (60, [some (.ref 20), some (.int a), some (.int b), some (.int ve1)], [.int 0], m)) rfl ?_
          exact mz_ret rfl
        · refine ⟨1, ⟨?_, rfl⟩⟩
          refine mz_go 3 (c' := (3, [some (.ref 20), some (.int a), some (.int b), none], [.int b, .int a, .ref 20], m)) rfl ?_
          refine mz_doQ (R := mz_r7) (as := [.ref 20, .int a, .int b]) (rest := []) (r1 := some (.int ve1)) (m1 := m) mz_t7 mz_v7_20 rfl rfl rfl rfl rfl (Ee1.deep (by decide)) ?_
          refine mz_go 7 (c' := (13, [some (.ref 20), some (.int a), some (.int b), some (.int ve1)], [.int ve1, .int b, .int (a - 1), .ref 20], m)) rfl ?_
          refine mz_doQ (R := mz_r13) (as := [.ref 20, .int (a - 1), .int b, .int ve1]) (rest := []) (r1 := some (.int ve2)) (m1 := m) mz_t13 mz_v13_20 rfl rfl rfl rfl rfl (Ee2.deep (by decide)) ?_
          refine mz_go 1 (c' := (if ve2 = 0 then 19 else 55, [some (.ref 20), some (.int a), some (.int b), some (.int ve1)], [], m)) rfl ?_
          refine mz_ifT q1 ?_
          refine mz_go 6 (c' := (25, [some (.ref 20), some (.int a), some (.int b), some (.int ve1)], [.int ve1, .int b, .int (a + 1), .ref 20], m)) rfl ?_
          refine mz_doQ (R := mz_r13) (as := [.ref 20, .int (a + 1), .int b, .int ve1]) (rest := []) (r1 := some (.int ve3)) (m1 := m) mz_t13 mz_v13_20 rfl rfl rfl rfl rfl (Ee3.deep (by decide)) ?_
          refine mz_go 1 (c' := (if ve3 = 0 then 31 else 55, [some (.ref 20), some (.int a), some (.int b), some (.int ve1)], [], m)) rfl ?_
          refine mz_ifT q2 ?_
          refine mz_go 6 (c' := (37, [some (.ref 20), some (.int a), some (.int b), some (.int ve1)], [.int ve1, .int (b - 1), .int a, .ref 20], m)) rfl ?_
          refine mz_doQ (R := mz_r13) (as := [.ref 20, .int a, .int (b - 1), .int ve1]) (rest := []) (r1 := some (.int ve4)) (m1 := m) mz_t13 mz_v13_20 rfl rfl rfl rfl rfl (Ee4.deep (by decide)) ?_
          refine mz_go 1 (c' := (if ve4 = 0 then 43 else 55, [some (.ref 20), some (.int a), some (.int b), some (.int ve1)], [], m)) rfl ?_
          refine mz_ifT q3 ?_
          refine mz_go 6 (c' := (49, [some (.ref 20), some (.int a), some (.int b), some (.int ve1)], [.int ve1, .int (b + 1), .int a, .ref 20], m)) rfl ?_
          refine mz_doQ (R := mz_r13) (as := [.ref 20, .int a, .int (b + 1), .int ve1]) (rest := []) (r1 := some (.int ve5)) (m1 := m) mz_t13 mz_v13_20 rfl rfl rfl rfl rfl (Ee5.deep (by decide)) ?_
          refine mz_go 1 (c' := (if ve5 = 0 then 59 else 55, [some (.ref 20), some (.int a), some (.int b), some (.int ve1)], [], m)) rfl ?_
          refine mz_ifF q4 ?_
          refine mz_go 2 (c' := (60, [some (.ref 20), some (.int a), some (.int b), some (.int ve1)], [.int 1], m)) rfl ?_
          exact mz_ret rfl
      · refine ⟨1, ⟨?_, rfl⟩⟩
        refine mz_go 3 (c' := (3, [some (.ref 20), some (.int a), some (.int b), none], [.int b, .int a, .ref 20], m)) rfl ?_
        refine mz_doQ (R := mz_r7) (as := [.ref 20, .int a, .int b]) (rest := []) (r1 := some (.int ve1)) (m1 := m) mz_t7 mz_v7_20 rfl rfl rfl rfl rfl (Ee1.deep (by decide)) ?_
        refine mz_go 7 (c' := (13, [some (.ref 20), some (.int a), some (.int b), some (.int ve1)], [.int ve1, .int b, .int (a - 1), .ref 20], m)) rfl ?_
        refine mz_doQ (R := mz_r13) (as := [.ref 20, .int (a - 1), .int b, .int ve1]) (rest := []) (r1 := some (.int ve2)) (m1 := m) mz_t13 mz_v13_20 rfl rfl rfl rfl rfl (Ee2.deep (by decide)) ?_
        refine mz_go 1 (c' := (if ve2 = 0 then 19 else 55, [some (.ref 20), some (.int a), some (.int b), some (.int ve1)], [], m)) rfl ?_
        refine mz_ifT q1 ?_
        refine mz_go 6 (c' := (25, [some (.ref 20), some (.int a), some (.int b), some (.int ve1)], [.int ve1, .int b, .int (a + 1), .ref 20], m)) rfl ?_
        refine mz_doQ (R := mz_r13) (as := [.ref 20, .int (a + 1), .int b, .int ve1]) (rest := []) (r1 := some (.int ve3)) (m1 := m) mz_t13 mz_v13_20 rfl rfl rfl rfl rfl (Ee3.deep (by decide)) ?_
        refine mz_go 1 (c' := (if ve3 = 0 then 31 else 55, [some (.ref 20), some (.int a), some (.int b), some (.int ve1)], [], m)) rfl ?_
        refine mz_ifT q2 ?_
        refine mz_go 6 (c' := (37, [some (.ref 20), some (.int a), some (.int b), some (.int ve1)], [.int ve1, .int (b - 1), .int a, .ref 20], m)) rfl ?_
        refine mz_doQ (R := mz_r13) (as := [.ref 20, .int a, .int (b - 1), .int ve1]) (rest := []) (r1 := some (.int ve4)) (m1 := m) mz_t13 mz_v13_20 rfl rfl rfl rfl rfl (Ee4.deep (by decide)) ?_
        refine mz_go 1 (c' := (if ve4 = 0 then 43 else 55, [some (.ref 20), some (.int a), some (.int b), some (.int ve1)], [], m)) rfl ?_
        refine mz_ifF q3 ?_
        refine mz_go 2 (c' := (60, [some (.ref 20), some (.int a), some (.int b), some (.int ve1)], [.int 1], m)) rfl ?_
        exact mz_ret rfl
    · refine ⟨1, ⟨?_, rfl⟩⟩
      refine mz_go 3 (c' := (3, [some (.ref 20), some (.int a), some (.int b), none], [.int b, .int a, .ref 20], m)) rfl ?_
      refine mz_doQ (R := mz_r7) (as := [.ref 20, .int a, .int b]) (rest := []) (r1 := some (.int ve1)) (m1 := m) mz_t7 mz_v7_20 rfl rfl rfl rfl rfl (Ee1.deep (by decide)) ?_
      refine mz_go 7 (c' := (13, [some (.ref 20), some (.int a), some (.int b), some (.int ve1)], [.int ve1, .int b, .int (a - 1), .ref 20], m)) rfl ?_
      refine mz_doQ (R := mz_r13) (as := [.ref 20, .int (a - 1), .int b, .int ve1]) (rest := []) (r1 := some (.int ve2)) (m1 := m) mz_t13 mz_v13_20 rfl rfl rfl rfl rfl (Ee2.deep (by decide)) ?_
      refine mz_go 1 (c' := (if ve2 = 0 then 19 else 55, [some (.ref 20), some (.int a), some (.int b), some (.int ve1)], [], m)) rfl ?_
      refine mz_ifT q1 ?_
      refine mz_go 6 (c' := (25, [some (.ref 20), some (.int a), some (.int b), some (.int ve1)], [.int ve1, .int b, .int (a + 1), .ref 20], m)) rfl ?_
      refine mz_doQ (R := mz_r13) (as := [.ref 20, .int (a + 1), .int b, .int ve1]) (rest := []) (r1 := some (.int ve3)) (m1 := m) mz_t13 mz_v13_20 rfl rfl rfl rfl rfl (Ee3.deep (by decide)) ?_
      refine mz_go 1 (c' := (if ve3 = 0 then 31 else 55, [some (.ref 20), some (.int a), some (.int b), some (.int ve1)], [], m)) rfl ?_
      refine mz_ifF q2 ?_
      refine mz_go 2 (c' := (60, [some (.ref 20), some (.int a), some (.int b), some (.int ve1)], [.int 1], m)) rfl ?_
      exact mz_ret rfl
  · refine ⟨1, ⟨?_, rfl⟩⟩
    refine mz_go 3 (c' := (3, [some (.ref 20), some (.int a), some (.int b), none], [.int b, .int a, .ref 20], m)) rfl ?_
    refine mz_doQ (R := mz_r7) (as := [.ref 20, .int a, .int b]) (rest := []) (r1 := some (.int ve1)) (m1 := m) mz_t7 mz_v7_20 rfl rfl rfl rfl rfl (Ee1.deep (by decide)) ?_
    refine mz_go 7 (c' := (13, [some (.ref 20), some (.int a), some (.int b), some (.int ve1)], [.int ve1, .int b, .int (a - 1), .ref 20], m)) rfl ?_
    refine mz_doQ (R := mz_r13) (as := [.ref 20, .int (a - 1), .int b, .int ve1]) (rest := []) (r1 := some (.int ve2)) (m1 := m) mz_t13 mz_v13_20 rfl rfl rfl rfl rfl (Ee2.deep (by decide)) ?_
    refine mz_go 1 (c' := (if ve2 = 0 then 19 else 55, [some (.ref 20), some (.int a), some (.int b), some (.int ve1)], [], m)) rfl ?_
    refine mz_ifF q1 ?_
    refine mz_go 2 (c' := (60, [some (.ref 20), some (.int a), some (.int b), some (.int ve1)], [.int 1], m)) rfl ?_
    exact mz_ret rfl
set_option maxHeartbeats 4000000 in
set_option maxRecDepth 100000 in
theorem xc_aroi {m : mz_M} {WW HH : Nat} (hWW : WW ≤ 6) (hHH : HH ≤ 6) (h202 : m 20 2 = nI WW) (h203 : m 20 3 = nI HH) {i j d : Int32} (hBi : sm_B 1000 i) (hBj : sm_B 1000 j) (hBd : sm_B 1000 d) (c : Int32) (x6 : Int32) (HX : ∀ (x7 : Int32) (x5 : Int32), ∃ v, mz_Ex 14 mz_k10 (62, [some (.ref 20), some (.int i), some (.int j), some (.int d), some (.int c), some (.int x5), some (.int x6), some (.int x7)], [], m) (some (.int v), m)) : ∀ fu : Nat, ∀ x7 : Int32, (i + d).toInt - x7.toInt < (fu : Int) → ∀ (x5 : Int32), ∃ v, mz_Ex 14 mz_k10 (21, [some (.ref 20), some (.int i), some (.int j), some (.int d), some (.int c), some (.int x5), some (.int x6), some (.int x7)], [], m) (some (.int v), m) := by
  intro fu
  induction fu with
  | zero =>
    intro x7 hms x5
    have hmz : (i + d) < x7 := sm_mz1 hms
    obtain ⟨vr, hr⟩ := HX x7 x5
    refine ⟨vr, ?_⟩
    refine mz_go 5 (c' := (if (i + d) < x7 then 62 else 29, [some (.ref 20), some (.int i), some (.int j), some (.int d), some (.int c), some (.int x5), some (.int x6), some (.int x7)], [], m)) rfl ?_
    refine mz_ifT hmz ?_
    exact hr
  | succ fu ih =>
    intro x7 hms x5
    by_cases q1 : (i + d) < x7
    · obtain ⟨vr, hr⟩ := HX x7 x5
      refine ⟨vr, ?_⟩
      refine mz_go 5 (c' := (if (i + d) < x7 then 62 else 29, [some (.ref 20), some (.int i), some (.int j), some (.int d), some (.int c), some (.int x5), some (.int x6), some (.int x7)], [], m)) rfl ?_
      refine mz_ifT q1 ?_
      exact hr
    · obtain ⟨ve1, Ee1⟩ := xc_has (m := m) hWW hHH h202 h203 x7 x6
      by_cases q2 : ve1 = 0
      · obtain ⟨vr, hr⟩ := ih (x7 + 1) (sm_me1 (sm_hA hBi hBd) q1 hms) x5
        refine ⟨vr, ?_⟩
        refine mz_go 5 (c' := (if (i + d) < x7 then 62 else 29, [some (.ref 20), some (.int i), some (.int j), some (.int d), some (.int c), some (.int x5), some (.int x6), some (.int x7)], [], m)) rfl ?_
        refine mz_ifF q1 ?_
        refine mz_go 3 (c' := (34, [some (.ref 20), some (.int i), some (.int j), some (.int d), some (.int c), some (.int x5), some (.int x6), some (.int x7)], [.int x6, .int x7, .ref 20], m)) rfl ?_
        refine mz_doQ (R := mz_r4) (as := [.ref 20, .int x7, .int x6]) (rest := []) (r1 := some (.int ve1)) (m1 := m) mz_t4 mz_v4_20 rfl rfl rfl rfl rfl (Ee1.deep (by decide)) ?_
        refine mz_go 1 (c' := (if ve1 = 0 then 56 else 40, [some (.ref 20), some (.int i), some (.int j), some (.int d), some (.int c), some (.int x5), some (.int x6), some (.int x7)], [], m)) rfl ?_
        refine mz_ifT q2 ?_
        refine mz_go 2 (c' := (21, [some (.ref 20), some (.int i), some (.int j), some (.int d), some (.int c), some (.int x5), some (.int x6), some (.int (x7 + 1))], [], m)) rfl ?_
        exact hr
      · obtain ⟨ve2, Ee2⟩ := xc_col (m := m) hWW hHH h202 h203 x7 x6
        by_cases q3 : ve2 = c
        · obtain ⟨vr, hr⟩ := ih (x7 + 1) (sm_me1 (sm_hA hBi hBd) q1 hms) (x5 + 1)
          refine ⟨vr, ?_⟩
          refine mz_go 5 (c' := (if (i + d) < x7 then 62 else 29, [some (.ref 20), some (.int i), some (.int j), some (.int d), some (.int c), some (.int x5), some (.int x6), some (.int x7)], [], m)) rfl ?_
          refine mz_ifF q1 ?_
          refine mz_go 3 (c' := (34, [some (.ref 20), some (.int i), some (.int j), some (.int d), some (.int c), some (.int x5), some (.int x6), some (.int x7)], [.int x6, .int x7, .ref 20], m)) rfl ?_
          refine mz_doQ (R := mz_r4) (as := [.ref 20, .int x7, .int x6]) (rest := []) (r1 := some (.int ve1)) (m1 := m) mz_t4 mz_v4_20 rfl rfl rfl rfl rfl (Ee1.deep (by decide)) ?_
          refine mz_go 1 (c' := (if ve1 = 0 then 56 else 40, [some (.ref 20), some (.int i), some (.int j), some (.int d), some (.int c), some (.int x5), some (.int x6), some (.int x7)], [], m)) rfl ?_
          refine mz_ifF q2 ?_
          refine mz_go 3 (c' := (45, [some (.ref 20), some (.int i), some (.int j), some (.int d), some (.int c), some (.int x5), some (.int x6), some (.int x7)], [.int x6, .int x7, .ref 20], m)) rfl ?_
          refine mz_doQ (R := mz_r7) (as := [.ref 20, .int x7, .int x6]) (rest := []) (r1 := some (.int ve2)) (m1 := m) mz_t7 mz_v7_20 rfl rfl rfl rfl rfl (Ee2.deep (by decide)) ?_
          refine mz_go 2 (c' := (if ve2 = c then 53 else 56, [some (.ref 20), some (.int i), some (.int j), some (.int d), some (.int c), some (.int x5), some (.int x6), some (.int x7)], [], m)) rfl ?_
          refine mz_ifT q3 ?_
          refine mz_go 3 (c' := (21, [some (.ref 20), some (.int i), some (.int j), some (.int d), some (.int c), some (.int (x5 + 1)), some (.int x6), some (.int (x7 + 1))], [], m)) rfl ?_
          exact hr
        · obtain ⟨vr, hr⟩ := ih (x7 + 1) (sm_me1 (sm_hA hBi hBd) q1 hms) x5
          refine ⟨vr, ?_⟩
          refine mz_go 5 (c' := (if (i + d) < x7 then 62 else 29, [some (.ref 20), some (.int i), some (.int j), some (.int d), some (.int c), some (.int x5), some (.int x6), some (.int x7)], [], m)) rfl ?_
          refine mz_ifF q1 ?_
          refine mz_go 3 (c' := (34, [some (.ref 20), some (.int i), some (.int j), some (.int d), some (.int c), some (.int x5), some (.int x6), some (.int x7)], [.int x6, .int x7, .ref 20], m)) rfl ?_
          refine mz_doQ (R := mz_r4) (as := [.ref 20, .int x7, .int x6]) (rest := []) (r1 := some (.int ve1)) (m1 := m) mz_t4 mz_v4_20 rfl rfl rfl rfl rfl (Ee1.deep (by decide)) ?_
          refine mz_go 1 (c' := (if ve1 = 0 then 56 else 40, [some (.ref 20), some (.int i), some (.int j), some (.int d), some (.int c), some (.int x5), some (.int x6), some (.int x7)], [], m)) rfl ?_
          refine mz_ifF q2 ?_
          refine mz_go 3 (c' := (45, [some (.ref 20), some (.int i), some (.int j), some (.int d), some (.int c), some (.int x5), some (.int x6), some (.int x7)], [.int x6, .int x7, .ref 20], m)) rfl ?_
          refine mz_doQ (R := mz_r7) (as := [.ref 20, .int x7, .int x6]) (rest := []) (r1 := some (.int ve2)) (m1 := m) mz_t7 mz_v7_20 rfl rfl rfl rfl rfl (Ee2.deep (by decide)) ?_
          refine mz_go 2 (c' := (if ve2 = c then 53 else 56, [some (.ref 20), some (.int i), some (.int j), some (.int d), some (.int c), some (.int x5), some (.int x6), some (.int x7)], [], m)) rfl ?_
          refine mz_ifF q3 ?_
          refine mz_go 2 (c' := (21, [some (.ref 20), some (.int i), some (.int j), some (.int d), some (.int c), some (.int x5), some (.int x6), some (.int (x7 + 1))], [], m)) rfl ?_
          exact hr
set_option maxHeartbeats 4000000 in
set_option maxRecDepth 100000 in
theorem xc_aroj {m : mz_M} {WW HH : Nat} (hWW : WW ≤ 6) (hHH : HH ≤ 6) (h202 : m 20 2 = nI WW) (h203 : m 20 3 = nI HH) {i j d : Int32} (hBi : sm_B 1000 i) (hBj : sm_B 1000 j) (hBd : sm_B 1000 d) (c : Int32)  (HX : ∀ (x6 : Int32) (x5 : Int32) (x7 : Option Value), ∃ v, mz_Ex 14 mz_k10 (68, [some (.ref 20), some (.int i), some (.int j), some (.int d), some (.int c), some (.int x5), some (.int x6), x7], [], m) (some (.int v), m)) : ∀ fu : Nat, ∀ x6 : Int32, (j + d).toInt - x6.toInt < (fu : Int) → ∀ (x5 : Int32) (x7 : Option Value), ∃ v, mz_Ex 14 mz_k10 (8, [some (.ref 20), some (.int i), some (.int j), some (.int d), some (.int c), some (.int x5), some (.int x6), x7], [], m) (some (.int v), m) := by
  intro fu
  induction fu with
  | zero =>
    intro x6 hms x5 x7
    have hmz : (j + d) < x6 := sm_mz1 hms
    obtain ⟨vr, hr⟩ := HX x6 x5 x7
    refine ⟨vr, ?_⟩
    refine mz_go 5 (c' := (if (j + d) < x6 then 68 else 16, [some (.ref 20), some (.int i), some (.int j), some (.int d), some (.int c), some (.int x5), some (.int x6), x7], [], m)) rfl ?_
    refine mz_ifT hmz ?_
    exact hr
  | succ fu ih =>
    intro x6 hms x5 x7
    by_cases q1 : (j + d) < x6
    · obtain ⟨vr, hr⟩ := HX x6 x5 x7
      refine ⟨vr, ?_⟩
      refine mz_go 5 (c' := (if (j + d) < x6 then 68 else 16, [some (.ref 20), some (.int i), some (.int j), some (.int d), some (.int c), some (.int x5), some (.int x6), x7], [], m)) rfl ?_
      refine mz_ifT q1 ?_
      exact hr
    · have HX1 : ∀ (x7_1 : Int32) (x5_1 : Int32), ∃ v, mz_Ex 14 mz_k10 (62, [some (.ref 20), some (.int i), some (.int j), some (.int d), some (.int c), some (.int x5_1), some (.int x6), some (.int x7_1)], [], m) (some (.int v), m) := by
        intro x7_1 x5_1
        obtain ⟨vr, hr⟩ := ih (x6 + 1) (sm_me1 (sm_hA hBj hBd) q1 hms) x5_1 (some (.int x7_1))
        refine ⟨vr, ?_⟩
        refine mz_go 2 (c' := (8, [some (.ref 20), some (.int i), some (.int j), some (.int d), some (.int c), some (.int x5_1), some (.int (x6 + 1)), some (.int x7_1)], [], m)) rfl ?_
        exact hr
      obtain ⟨vr, hr⟩ := xc_aroi hWW hHH h202 h203 hBi hBj hBd c x6 HX1 ((i + d : Int32).toInt - (i - d : Int32).toInt + 1).toNat (i - d) (by omega) x5
      refine ⟨vr, ?_⟩
      refine mz_go 5 (c' := (if (j + d) < x6 then 68 else 16, [some (.ref 20), some (.int i), some (.int j), some (.int d), some (.int c), some (.int x5), some (.int x6), x7], [], m)) rfl ?_
      refine mz_ifF q1 ?_
      refine mz_go 4 (c' := (21, [some (.ref 20), some (.int i), some (.int j), some (.int d), some (.int c), some (.int x5), some (.int x6), some (.int (i - d))], [], m)) rfl ?_
      exact hr
set_option maxHeartbeats 4000000 in
set_option maxRecDepth 100000 in
theorem xc_aro {m : mz_M} {WW HH : Nat} (hWW : WW ≤ 6) (hHH : HH ≤ 6) (h202 : m 20 2 = nI WW) (h203 : m 20 3 = nI HH) {i j d : Int32} (hBi : sm_B 1000 i) (hBj : sm_B 1000 j) (hBd : sm_B 1000 d) (c : Int32) : ∃ v, mz_Me 14 mz_r10 [.ref 20, .int i, .int j, .int d, .int c] m (some (.int v)) m := by
  have HX2 : ∀ (x6_2 : Int32) (x5_2 : Int32) (x7_2 : Option Value), ∃ v, mz_Ex 14 mz_k10 (68, [some (.ref 20), some (.int i), some (.int j), some (.int d), some (.int c), some (.int x5_2), some (.int x6_2), x7_2], [], m) (some (.int v), m) := by
    intro x6_2 x5_2 x7_2
    refine ⟨x5_2, ?_⟩
    refine mz_go 1 (c' := (70, [some (.ref 20), some (.int i), some (.int j), some (.int d), some (.int c), some (.int x5_2), some (.int x6_2), x7_2], [.int x5_2], m)) rfl ?_
    exact mz_ret rfl
  obtain ⟨vr, hr⟩ := xc_aroj hWW hHH h202 h203 hBi hBj hBd c  HX2 ((j + d : Int32).toInt - (j - d : Int32).toInt + 1).toNat (j - d) (by omega) 0 none
  refine ⟨vr, ⟨?_, rfl⟩⟩
  refine mz_go 6 (c' := (8, [some (.ref 20), some (.int i), some (.int j), some (.int d), some (.int c), some (.int 0), some (.int (j - d)), none], [], m)) rfl ?_
  exact hr
set_option maxHeartbeats 4000000 in
set_option maxRecDepth 100000 in
theorem xc_cof {m : mz_M} {WW HH : Nat} (hWW : WW ≤ 6) (hHH : HH ≤ 6) (h202 : m 20 2 = nI WW) (h203 : m 20 3 = nI HH) (c : Int32) : ∃ v, mz_Me 16 mz_r9 [.ref 20, .int c] m (some (.int v)) m := by
  obtain ⟨ve1, Ee1⟩ := xc_aro (m := m) hWW hHH h202 h203 (show sm_B 1000 0 by unfold sm_B; decide) (show sm_B 1000 0 by unfold sm_B; decide) (show sm_B 1000 6 by unfold sm_B; decide) c
  refine ⟨ve1, ⟨?_, rfl⟩⟩
  refine mz_go 5 (c' := (6, [some (.ref 20), some (.int c)], [.int c, .int 6, .int 0, .int 0, .ref 20], m)) rfl ?_
  refine mz_doQ (R := mz_r10) (as := [.ref 20, .int 0, .int 0, .int 6, .int c]) (rest := []) (r1 := some (.int ve1)) (m1 := m) mz_t10 mz_v10_20 rfl rfl rfl rfl rfl (Ee1.deep (by decide)) ?_
  exact mz_ret rfl
set_option maxHeartbeats 4000000 in
set_option maxRecDepth 100000 in
theorem xc_edgesi {m : mz_M} {WW HH : Nat} (hWW : WW ≤ 6) (hHH : HH ≤ 6) (h202 : m 20 2 = nI WW) (h203 : m 20 3 = nI HH) (x2 : Int32) (HX : ∀ (x3 : Int32) (x1 : Int32), ∃ v, mz_Ex 16 mz_k14 (40, [some (.ref 20), some (.int x1), some (.int x2), some (.int x3)], [], m) (some (.int v), m)) : ∀ fu : Nat, ∀ x3 : Int32, (nI WW).toInt - x3.toInt < (fu : Int) → ∀ (x1 : Int32), ∃ v, mz_Ex 16 mz_k14 (14, [some (.ref 20), some (.int x1), some (.int x2), some (.int x3)], [], m) (some (.int v), m) := by
  intro fu
  induction fu with
  | zero =>
    intro x3 hms x1
    have hmz : (nI WW) ≤ x3 := sm_mz2 hms
    obtain ⟨vr, hr⟩ := HX x3 x1
    refine ⟨vr, ?_⟩
    refine mz_go 3 (c' := (19, [some (.ref 20), some (.int x1), some (.int x2), some (.int x3)], [.int (m 20 2), .int x3], m)) rfl ?_
    rw [h202]
    refine mz_go 1 (c' := (if (nI WW) ≤ x3 then 40 else 22, [some (.ref 20), some (.int x1), some (.int x2), some (.int x3)], [], m)) rfl ?_
    refine mz_ifT hmz ?_
    exact hr
  | succ fu ih =>
    intro x3 hms x1
    by_cases q1 : (nI WW) ≤ x3
    · obtain ⟨vr, hr⟩ := HX x3 x1
      refine ⟨vr, ?_⟩
      refine mz_go 3 (c' := (19, [some (.ref 20), some (.int x1), some (.int x2), some (.int x3)], [.int (m 20 2), .int x3], m)) rfl ?_
      rw [h202]
      refine mz_go 1 (c' := (if (nI WW) ≤ x3 then 40 else 22, [some (.ref 20), some (.int x1), some (.int x2), some (.int x3)], [], m)) rfl ?_
      refine mz_ifT q1 ?_
      exact hr
    · obtain ⟨ve1, Ee1⟩ := xc_edg (m := m) hWW hHH h202 h203 x3 x2
      by_cases q2 : ve1 = 0
      · obtain ⟨vr, hr⟩ := ih (x3 + 1) (sm_me2 (sm_hN (by omega)) q1 hms) x1
        refine ⟨vr, ?_⟩
        refine mz_go 3 (c' := (19, [some (.ref 20), some (.int x1), some (.int x2), some (.int x3)], [.int (m 20 2), .int x3], m)) rfl ?_
        rw [h202]
        refine mz_go 1 (c' := (if (nI WW) ≤ x3 then 40 else 22, [some (.ref 20), some (.int x1), some (.int x2), some (.int x3)], [], m)) rfl ?_
        refine mz_ifF q1 ?_
        refine mz_go 3 (c' := (25, [some (.ref 20), some (.int x1), some (.int x2), some (.int x3)], [.int x2, .int x3, .ref 20], m)) rfl ?_
        refine mz_doQ (R := mz_r12) (as := [.ref 20, .int x3, .int x2]) (rest := []) (r1 := some (.int ve1)) (m1 := m) mz_t12 mz_v12_20 rfl rfl rfl rfl rfl (Ee1.deep (by decide)) ?_
        refine mz_go 1 (c' := (if ve1 = 0 then 34 else 31, [some (.ref 20), some (.int x1), some (.int x2), some (.int x3)], [], m)) rfl ?_
        refine mz_ifT q2 ?_
        refine mz_go 2 (c' := (14, [some (.ref 20), some (.int x1), some (.int x2), some (.int (x3 + 1))], [], m)) rfl ?_
        exact hr
      · obtain ⟨vr, hr⟩ := ih (x3 + 1) (sm_me2 (sm_hN (by omega)) q1 hms) (x1 + 1)
        refine ⟨vr, ?_⟩
        refine mz_go 3 (c' := (19, [some (.ref 20), some (.int x1), some (.int x2), some (.int x3)], [.int (m 20 2), .int x3], m)) rfl ?_
        rw [h202]
        refine mz_go 1 (c' := (if (nI WW) ≤ x3 then 40 else 22, [some (.ref 20), some (.int x1), some (.int x2), some (.int x3)], [], m)) rfl ?_
        refine mz_ifF q1 ?_
        refine mz_go 3 (c' := (25, [some (.ref 20), some (.int x1), some (.int x2), some (.int x3)], [.int x2, .int x3, .ref 20], m)) rfl ?_
        refine mz_doQ (R := mz_r12) (as := [.ref 20, .int x3, .int x2]) (rest := []) (r1 := some (.int ve1)) (m1 := m) mz_t12 mz_v12_20 rfl rfl rfl rfl rfl (Ee1.deep (by decide)) ?_
        refine mz_go 1 (c' := (if ve1 = 0 then 34 else 31, [some (.ref 20), some (.int x1), some (.int x2), some (.int x3)], [], m)) rfl ?_
        refine mz_ifF q2 ?_
        refine mz_go 3 (c' := (14, [some (.ref 20), some (.int (x1 + 1)), some (.int x2), some (.int (x3 + 1))], [], m)) rfl ?_
        exact hr
set_option maxHeartbeats 4000000 in
set_option maxRecDepth 100000 in
theorem xc_edgesj {m : mz_M} {WW HH : Nat} (hWW : WW ≤ 6) (hHH : HH ≤ 6) (h202 : m 20 2 = nI WW) (h203 : m 20 3 = nI HH)  (HX : ∀ (x2 : Int32) (x1 : Int32) (x3 : Option Value), ∃ v, mz_Ex 16 mz_k14 (46, [some (.ref 20), some (.int x1), some (.int x2), x3], [], m) (some (.int v), m)) : ∀ fu : Nat, ∀ x2 : Int32, (nI HH).toInt - x2.toInt < (fu : Int) → ∀ (x1 : Int32) (x3 : Option Value), ∃ v, mz_Ex 16 mz_k14 (4, [some (.ref 20), some (.int x1), some (.int x2), x3], [], m) (some (.int v), m) := by
  intro fu
  induction fu with
  | zero =>
    intro x2 hms x1 x3
    have hmz : (nI HH) ≤ x2 := sm_mz2 hms
    obtain ⟨vr, hr⟩ := HX x2 x1 x3
    refine ⟨vr, ?_⟩
    refine mz_go 3 (c' := (9, [some (.ref 20), some (.int x1), some (.int x2), x3], [.int (m 20 3), .int x2], m)) rfl ?_
    rw [h203]
    refine mz_go 1 (c' := (if (nI HH) ≤ x2 then 46 else 12, [some (.ref 20), some (.int x1), some (.int x2), x3], [], m)) rfl ?_
    refine mz_ifT hmz ?_
    exact hr
  | succ fu ih =>
    intro x2 hms x1 x3
    by_cases q1 : (nI HH) ≤ x2
    · obtain ⟨vr, hr⟩ := HX x2 x1 x3
      refine ⟨vr, ?_⟩
      refine mz_go 3 (c' := (9, [some (.ref 20), some (.int x1), some (.int x2), x3], [.int (m 20 3), .int x2], m)) rfl ?_
      rw [h203]
      refine mz_go 1 (c' := (if (nI HH) ≤ x2 then 46 else 12, [some (.ref 20), some (.int x1), some (.int x2), x3], [], m)) rfl ?_
      refine mz_ifT q1 ?_
      exact hr
    · have HX1 : ∀ (x3_1 : Int32) (x1_1 : Int32), ∃ v, mz_Ex 16 mz_k14 (40, [some (.ref 20), some (.int x1_1), some (.int x2), some (.int x3_1)], [], m) (some (.int v), m) := by
        intro x3_1 x1_1
        obtain ⟨vr, hr⟩ := ih (x2 + 1) (sm_me2 (sm_hN (by omega)) q1 hms) x1_1 (some (.int x3_1))
        refine ⟨vr, ?_⟩
        refine mz_go 2 (c' := (4, [some (.ref 20), some (.int x1_1), some (.int (x2 + 1)), some (.int x3_1)], [], m)) rfl ?_
        exact hr
      obtain ⟨vr, hr⟩ := xc_edgesi hWW hHH h202 h203 x2 HX1 ((nI WW : Int32).toInt - (0 : Int32).toInt + 1).toNat 0 (by omega) x1
      refine ⟨vr, ?_⟩
      refine mz_go 3 (c' := (9, [some (.ref 20), some (.int x1), some (.int x2), x3], [.int (m 20 3), .int x2], m)) rfl ?_
      rw [h203]
      refine mz_go 1 (c' := (if (nI HH) ≤ x2 then 46 else 12, [some (.ref 20), some (.int x1), some (.int x2), x3], [], m)) rfl ?_
      refine mz_ifF q1 ?_
      refine mz_go 2 (c' := (14, [some (.ref 20), some (.int x1), some (.int x2), some (.int 0)], [], m)) rfl ?_
      exact hr
set_option maxHeartbeats 4000000 in
set_option maxRecDepth 100000 in
theorem xc_edges {m : mz_M} {WW HH : Nat} (hWW : WW ≤ 6) (hHH : HH ≤ 6) (h202 : m 20 2 = nI WW) (h203 : m 20 3 = nI HH) : ∃ v, mz_Me 16 mz_r14 [.ref 20] m (some (.int v)) m := by
  have HX2 : ∀ (x2_2 : Int32) (x1_2 : Int32) (x3_2 : Option Value), ∃ v, mz_Ex 16 mz_k14 (46, [some (.ref 20), some (.int x1_2), some (.int x2_2), x3_2], [], m) (some (.int v), m) := by
    intro x2_2 x1_2 x3_2
    refine ⟨x1_2, ?_⟩
    refine mz_go 1 (c' := (47, [some (.ref 20), some (.int x1_2), some (.int x2_2), x3_2], [.int x1_2], m)) rfl ?_
    exact mz_ret rfl
  obtain ⟨vr, hr⟩ := xc_edgesj hWW hHH h202 h203  HX2 ((nI HH : Int32).toInt - (0 : Int32).toInt + 1).toNat 0 (by omega) 0 none
  refine ⟨vr, ⟨?_, rfl⟩⟩
  refine mz_go 4 (c' := (4, [some (.ref 20), some (.int 0), some (.int 0), none], [], m)) rfl ?_
  exact hr
set_option maxHeartbeats 4000000 in
set_option maxRecDepth 100000 in
theorem xc_lensi {m : mz_M} {WW HH : Nat} (hWW : WW ≤ 6) (hHH : HH ≤ 6) (h202 : m 20 2 = nI WW) (h203 : m 20 3 = nI HH) (x2 : Int32) (HX : ∀ (x3 : Int32) (x1 : Int32), ∃ v, mz_Ex 16 mz_k17 (37, [some (.ref 20), some (.int x1), some (.int x2), some (.int x3)], [], m) (some (.int v), m)) : ∀ fu : Nat, ∀ x3 : Int32, (nI WW).toInt - x3.toInt < (fu : Int) → ∀ (x1 : Int32), ∃ v, mz_Ex 16 mz_k17 (14, [some (.ref 20), some (.int x1), some (.int x2), some (.int x3)], [], m) (some (.int v), m) := by
  intro fu
  induction fu with
  | zero =>
    intro x3 hms x1
    have hmz : (nI WW) ≤ x3 := sm_mz2 hms
    obtain ⟨vr, hr⟩ := HX x3 x1
    refine ⟨vr, ?_⟩
    refine mz_go 3 (c' := (19, [some (.ref 20), some (.int x1), some (.int x2), some (.int x3)], [.int (m 20 2), .int x3], m)) rfl ?_
    rw [h202]
    refine mz_go 1 (c' := (if (nI WW) ≤ x3 then 37 else 22, [some (.ref 20), some (.int x1), some (.int x2), some (.int x3)], [], m)) rfl ?_
    refine mz_ifT hmz ?_
    exact hr
  | succ fu ih =>
    intro x3 hms x1
    by_cases q1 : (nI WW) ≤ x3
    · obtain ⟨vr, hr⟩ := HX x3 x1
      refine ⟨vr, ?_⟩
      refine mz_go 3 (c' := (19, [some (.ref 20), some (.int x1), some (.int x2), some (.int x3)], [.int (m 20 2), .int x3], m)) rfl ?_
      rw [h202]
      refine mz_go 1 (c' := (if (nI WW) ≤ x3 then 37 else 22, [some (.ref 20), some (.int x1), some (.int x2), some (.int x3)], [], m)) rfl ?_
      refine mz_ifT q1 ?_
      exact hr
    · obtain ⟨ve1, Ee1⟩ := xc_len (m := m) hWW hHH h202 h203 x3 x2
      obtain ⟨vr, hr⟩ := ih (x3 + 1) (sm_me2 (sm_hN (by omega)) q1 hms) (x1 + ve1)
      refine ⟨vr, ?_⟩
      refine mz_go 3 (c' := (19, [some (.ref 20), some (.int x1), some (.int x2), some (.int x3)], [.int (m 20 2), .int x3], m)) rfl ?_
      rw [h202]
      refine mz_go 1 (c' := (if (nI WW) ≤ x3 then 37 else 22, [some (.ref 20), some (.int x1), some (.int x2), some (.int x3)], [], m)) rfl ?_
      refine mz_ifF q1 ?_
      refine mz_go 4 (c' := (26, [some (.ref 20), some (.int x1), some (.int x2), some (.int x3)], [.int x2, .int x3, .ref 20, .int x1], m)) rfl ?_
      refine mz_doQ (R := mz_r8) (as := [.ref 20, .int x3, .int x2]) (rest := [.int x1]) (r1 := some (.int ve1)) (m1 := m) mz_t8 mz_v8_20 rfl rfl rfl rfl rfl (Ee1.deep (by decide)) ?_
      refine mz_go 4 (c' := (14, [some (.ref 20), some (.int (x1 + ve1)), some (.int x2), some (.int (x3 + 1))], [], m)) rfl ?_
      exact hr
set_option maxHeartbeats 4000000 in
set_option maxRecDepth 100000 in
theorem xc_lensj {m : mz_M} {WW HH : Nat} (hWW : WW ≤ 6) (hHH : HH ≤ 6) (h202 : m 20 2 = nI WW) (h203 : m 20 3 = nI HH)  (HX : ∀ (x2 : Int32) (x1 : Int32) (x3 : Option Value), ∃ v, mz_Ex 16 mz_k17 (43, [some (.ref 20), some (.int x1), some (.int x2), x3], [], m) (some (.int v), m)) : ∀ fu : Nat, ∀ x2 : Int32, (nI HH).toInt - x2.toInt < (fu : Int) → ∀ (x1 : Int32) (x3 : Option Value), ∃ v, mz_Ex 16 mz_k17 (4, [some (.ref 20), some (.int x1), some (.int x2), x3], [], m) (some (.int v), m) := by
  intro fu
  induction fu with
  | zero =>
    intro x2 hms x1 x3
    have hmz : (nI HH) ≤ x2 := sm_mz2 hms
    obtain ⟨vr, hr⟩ := HX x2 x1 x3
    refine ⟨vr, ?_⟩
    refine mz_go 3 (c' := (9, [some (.ref 20), some (.int x1), some (.int x2), x3], [.int (m 20 3), .int x2], m)) rfl ?_
    rw [h203]
    refine mz_go 1 (c' := (if (nI HH) ≤ x2 then 43 else 12, [some (.ref 20), some (.int x1), some (.int x2), x3], [], m)) rfl ?_
    refine mz_ifT hmz ?_
    exact hr
  | succ fu ih =>
    intro x2 hms x1 x3
    by_cases q1 : (nI HH) ≤ x2
    · obtain ⟨vr, hr⟩ := HX x2 x1 x3
      refine ⟨vr, ?_⟩
      refine mz_go 3 (c' := (9, [some (.ref 20), some (.int x1), some (.int x2), x3], [.int (m 20 3), .int x2], m)) rfl ?_
      rw [h203]
      refine mz_go 1 (c' := (if (nI HH) ≤ x2 then 43 else 12, [some (.ref 20), some (.int x1), some (.int x2), x3], [], m)) rfl ?_
      refine mz_ifT q1 ?_
      exact hr
    · have HX1 : ∀ (x3_1 : Int32) (x1_1 : Int32), ∃ v, mz_Ex 16 mz_k17 (37, [some (.ref 20), some (.int x1_1), some (.int x2), some (.int x3_1)], [], m) (some (.int v), m) := by
        intro x3_1 x1_1
        obtain ⟨vr, hr⟩ := ih (x2 + 1) (sm_me2 (sm_hN (by omega)) q1 hms) x1_1 (some (.int x3_1))
        refine ⟨vr, ?_⟩
        refine mz_go 2 (c' := (4, [some (.ref 20), some (.int x1_1), some (.int (x2 + 1)), some (.int x3_1)], [], m)) rfl ?_
        exact hr
      obtain ⟨vr, hr⟩ := xc_lensi hWW hHH h202 h203 x2 HX1 ((nI WW : Int32).toInt - (0 : Int32).toInt + 1).toNat 0 (by omega) x1
      refine ⟨vr, ?_⟩
      refine mz_go 3 (c' := (9, [some (.ref 20), some (.int x1), some (.int x2), x3], [.int (m 20 3), .int x2], m)) rfl ?_
      rw [h203]
      refine mz_go 1 (c' := (if (nI HH) ≤ x2 then 43 else 12, [some (.ref 20), some (.int x1), some (.int x2), x3], [], m)) rfl ?_
      refine mz_ifF q1 ?_
      refine mz_go 2 (c' := (14, [some (.ref 20), some (.int x1), some (.int x2), some (.int 0)], [], m)) rfl ?_
      exact hr
set_option maxHeartbeats 4000000 in
set_option maxRecDepth 100000 in
theorem xc_lens {m : mz_M} {WW HH : Nat} (hWW : WW ≤ 6) (hHH : HH ≤ 6) (h202 : m 20 2 = nI WW) (h203 : m 20 3 = nI HH) : ∃ v, mz_Me 16 mz_r17 [.ref 20] m (some (.int v)) m := by
  have HX2 : ∀ (x2_2 : Int32) (x1_2 : Int32) (x3_2 : Option Value), ∃ v, mz_Ex 16 mz_k17 (43, [some (.ref 20), some (.int x1_2), some (.int x2_2), x3_2], [], m) (some (.int v), m) := by
    intro x2_2 x1_2 x3_2
    refine ⟨x1_2, ?_⟩
    refine mz_go 1 (c' := (44, [some (.ref 20), some (.int x1_2), some (.int x2_2), x3_2], [.int x1_2], m)) rfl ?_
    exact mz_ret rfl
  obtain ⟨vr, hr⟩ := xc_lensj hWW hHH h202 h203  HX2 ((nI HH : Int32).toInt - (0 : Int32).toInt + 1).toNat 0 (by omega) 0 none
  refine ⟨vr, ⟨?_, rfl⟩⟩
  refine mz_go 4 (c' := (4, [some (.ref 20), some (.int 0), some (.int 0), none], [], m)) rfl ?_
  exact hr
set_option maxHeartbeats 4000000 in
set_option maxRecDepth 100000 in
theorem xc_squ {m : mz_M} {WW HH : Nat} (hWW : WW ≤ 6) (hHH : HH ≤ 6) (h202 : m 20 2 = nI WW) (h203 : m 20 3 = nI HH) (a b : Int32) : ∃ v, mz_Me 10 mz_r16 [.ref 20, .int a, .int b] m (some (.int v)) m := by
  obtain ⟨ve1, Ee1⟩ := xc_col (m := m) hWW hHH h202 h203 a b
  obtain ⟨ve2, Ee2⟩ := xc_col (m := m) hWW hHH h202 h203 (a + 1) b
  obtain ⟨ve3, Ee3⟩ := xc_col (m := m) hWW hHH h202 h203 a (b + 1)
  obtain ⟨ve4, Ee4⟩ := xc_col (m := m) hWW hHH h202 h203 (a + 1) (b + 1)
  by_cases q1 : ve2 = ve1
  · by_cases q2 : ve3 = ve1
    · by_cases q3 : ve4 = ve1
      · refine ⟨1, ⟨?_, rfl⟩⟩
        refine mz_go 3 (c' := (3, [some (.ref 20), some (.int a), some (.int b), none, none, none, none, none], [.int b, .int a, .ref 20], m)) rfl ?_
        refine mz_doQ (R := mz_r7) (as := [.ref 20, .int a, .int b]) (rest := []) (r1 := some (.int ve1)) (m1 := m) mz_t7 mz_v7_20 rfl rfl rfl rfl rfl (Ee1.deep (by decide)) ?_
        refine mz_go 6 (c' := (12, [some (.ref 20), some (.int a), some (.int b), some (.int ve1), none, none, none, none], [.int b, .int (a + 1), .ref 20], m)) rfl ?_
        refine mz_doQ (R := mz_r7) (as := [.ref 20, .int (a + 1), .int b]) (rest := []) (r1 := some (.int ve2)) (m1 := m) mz_t7 mz_v7_20 rfl rfl rfl rfl rfl (Ee2.deep (by decide)) ?_
        refine mz_go 6 (c' := (22, [some (.ref 20), some (.int a), some (.int b), some (.int ve1), some (.int ve2), none, none, none], [.int (b + 1), .int a, .ref 20], m)) rfl ?_
        refine mz_doQ (R := mz_r7) (as := [.ref 20, .int a, .int (b + 1)]) (rest := []) (r1 := some (.int ve3)) (m1 := m) mz_t7 mz_v7_20 rfl rfl rfl rfl rfl (Ee3.deep (by decide)) ?_
        refine mz_go 8 (c' := (34, [some (.ref 20), some (.int a), some (.int b), some (.int ve1), some (.int ve2), some (.int ve3), none, none], [.int (b + 1), .int (a + 1), .ref 20], m)) rfl ?_
        refine mz_doQ (R := mz_r7) (as := [.ref 20, .int (a + 1), .int (b + 1)]) (rest := []) (r1 := some (.int ve4)) (m1 := m) mz_t7 mz_v7_20 rfl rfl rfl rfl rfl (Ee4.deep (by decide)) ?_
        refine mz_go 7 (c' := (if ve2 = ve1 then 54 else 50, [some (.ref 20), some (.int a), some (.int b), some (.int ve1), some (.int ve2), some (.int ve3), some (.int ve4), some (.int 1)], [.int 1], m)) rfl ?_
        refine mz_ifT q1 ?_
        refine mz_go 7 (c' := (if ve3 = ve1 then 77 else 66, [some (.ref 20), some (.int a), some (.int b), some (.int ve1), some (.int ve2), some (.int ve3), some (.int ve4), some (.int 1)], [.int 1], m)) rfl ?_
        refine mz_ifT q2 ?_
        refine mz_go 7 (c' := (if ve4 = ve1 then 107 else 89, [some (.ref 20), some (.int a), some (.int b), some (.int ve1), some (.int ve2), some (.int ve3), some (.int ve4), some (.int 1)], [.int 1], m)) rfl ?_
        refine mz_ifT q3 ?_
        refine mz_go 4 (c' := (113, [some (.ref 20), some (.int a), some (.int b), some (.int ve1), some (.int ve2), some (.int ve3), some (.int ve4), some (.int 1)], [.int 1], m)) rfl ?_
        exact mz_ret rfl
      · by_cases q4 : ve4 = ve2
        · refine ⟨1, ⟨?_, rfl⟩⟩
          refine mz_go 3 (c' := (3, [some (.ref 20), some (.int a), some (.int b), none, none, none, none, none], [.int b, .int a, .ref 20], m)) rfl ?_
          refine mz_doQ (R := mz_r7) (as := [.ref 20, .int a, .int b]) (rest := []) (r1 := some (.int ve1)) (m1 := m) mz_t7 mz_v7_20 rfl rfl rfl rfl rfl (Ee1.deep (by decide)) ?_
          refine mz_go 6 (c' := (12, [some (.ref 20), some (.int a), some (.int b), some (.int ve1), none, none, none, none], [.int b, .int (a + 1), .ref 20], m)) rfl ?_
          refine mz_doQ (R := mz_r7) (as := [.ref 20, .int (a + 1), .int b]) (rest := []) (r1 := some (.int ve2)) (m1 := m) mz_t7 mz_v7_20 rfl rfl rfl rfl rfl (Ee2.deep (by decide)) ?_
          refine mz_go 6 (c' := (22, [some (.ref 20), some (.int a), some (.int b), some (.int ve1), some (.int ve2), none, none, none], [.int (b + 1), .int a, .ref 20], m)) rfl ?_
          refine mz_doQ (R := mz_r7) (as := [.ref 20, .int a, .int (b + 1)]) (rest := []) (r1 := some (.int ve3)) (m1 := m) mz_t7 mz_v7_20 rfl rfl rfl rfl rfl (Ee3.deep (by decide)) ?_
          refine mz_go 8 (c' := (34, [some (.ref 20), some (.int a), some (.int b), some (.int ve1), some (.int ve2), some (.int ve3), none, none], [.int (b + 1), .int (a + 1), .ref 20], m)) rfl ?_
          refine mz_doQ (R := mz_r7) (as := [.ref 20, .int (a + 1), .int (b + 1)]) (rest := []) (r1 := some (.int ve4)) (m1 := m) mz_t7 mz_v7_20 rfl rfl rfl rfl rfl (Ee4.deep (by decide)) ?_
          refine mz_go 7 (c' := (if ve2 = ve1 then 54 else 50, [some (.ref 20), some (.int a), some (.int b), some (.int ve1), some (.int ve2), some (.int ve3), some (.int ve4), some (.int 1)], [.int 1], m)) rfl ?_
          refine mz_ifT q1 ?_
          refine mz_go 7 (c' := (if ve3 = ve1 then 77 else 66, [some (.ref 20), some (.int a), some (.int b), some (.int ve1), some (.int ve2), some (.int ve3), some (.int ve4), some (.int 1)], [.int 1], m)) rfl ?_
          refine mz_ifT q2 ?_
          refine mz_go 7 (c' := (if ve4 = ve1 then 107 else 89, [some (.ref 20), some (.int a), some (.int b), some (.int ve1), some (.int ve2), some (.int ve3), some (.int ve4), some (.int 1)], [.int 1], m)) rfl ?_
          refine mz_ifF q3 ?_
          refine mz_go 3 (c' := (if ve4 = ve2 then 107 else 96, [some (.ref 20), some (.int a), some (.int b), some (.int ve1), some (.int ve2), some (.int ve3), some (.int ve4), some (.int 1)], [.int 1], m)) rfl ?_
          refine mz_ifT q4 ?_
          refine mz_go 4 (c' := (113, [some (.ref 20), some (.int a), some (.int b), some (.int ve1), some (.int ve2), some (.int ve3), some (.int ve4), some (.int 1)], [.int 1], m)) rfl ?_
          exact mz_ret rfl
        · by_cases q5 : ve4 = ve3
          · refine ⟨1, ⟨?_, rfl⟩⟩
            refine mz_go 3 (c' := (3, [some (.ref 20), some (.int a), some (.int b), none, none, none, none, none], [.int b, .int a, .ref 20], m)) rfl ?_
            refine mz_doQ (R := mz_r7) (as := [.ref 20, .int a, .int b]) (rest := []) (r1 := some (.int ve1)) (m1 := m) mz_t7 mz_v7_20 rfl rfl rfl rfl rfl (Ee1.deep (by decide)) ?_
            refine mz_go 6 (c' := (12, [some (.ref 20), some (.int a), some (.int b), some (.int ve1), none, none, none, none], [.int b, .int (a + 1), .ref 20], m)) rfl ?_
            refine mz_doQ (R := mz_r7) (as := [.ref 20, .int (a + 1), .int b]) (rest := []) (r1 := some (.int ve2)) (m1 := m) mz_t7 mz_v7_20 rfl rfl rfl rfl rfl (Ee2.deep (by decide)) ?_
            refine mz_go 6 (c' := (22, [some (.ref 20), some (.int a), some (.int b), some (.int ve1), some (.int ve2), none, none, none], [.int (b + 1), .int a, .ref 20], m)) rfl ?_
            refine mz_doQ (R := mz_r7) (as := [.ref 20, .int a, .int (b + 1)]) (rest := []) (r1 := some (.int ve3)) (m1 := m) mz_t7 mz_v7_20 rfl rfl rfl rfl rfl (Ee3.deep (by decide)) ?_
            refine mz_go 8 (c' := (34, [some (.ref 20), some (.int a), some (.int b), some (.int ve1), some (.int ve2), some (.int ve3), none, none], [.int (b + 1), .int (a + 1), .ref 20], m)) rfl ?_
            refine mz_doQ (R := mz_r7) (as := [.ref 20, .int (a + 1), .int (b + 1)]) (rest := []) (r1 := some (.int ve4)) (m1 := m) mz_t7 mz_v7_20 rfl rfl rfl rfl rfl (Ee4.deep (by decide)) ?_
            refine mz_go 7 (c' := (if ve2 = ve1 then 54 else 50, [some (.ref 20), some (.int a), some (.int b), some (.int ve1), some (.int ve2), some (.int ve3), some (.int ve4), some (.int 1)], [.int 1], m)) rfl ?_
            refine mz_ifT q1 ?_
            refine mz_go 7 (c' := (if ve3 = ve1 then 77 else 66, [some (.ref 20), some (.int a), some (.int b), some (.int ve1), some (.int ve2), some (.int ve3), some (.int ve4), some (.int 1)], [.int 1], m)) rfl ?_
            refine mz_ifT q2 ?_
            refine mz_go 7 (c' := (if ve4 = ve1 then 107 else 89, [some (.ref 20), some (.int a), some (.int b), some (.int ve1), some (.int ve2), some (.int ve3), some (.int ve4), some (.int 1)], [.int 1], m)) rfl ?_
            refine mz_ifF q3 ?_
            refine mz_go 3 (c' := (if ve4 = ve2 then 107 else 96, [some (.ref 20), some (.int a), some (.int b), some (.int ve1), some (.int ve2), some (.int ve3), some (.int ve4), some (.int 1)], [.int 1], m)) rfl ?_
            refine mz_ifF q4 ?_
            refine mz_go 3 (c' := (if ve4 = ve3 then 107 else 103, [some (.ref 20), some (.int a), some (.int b), some (.int ve1), some (.int ve2), some (.int ve3), some (.int ve4), some (.int 1)], [.int 1], m)) rfl ?_
            refine mz_ifT q5 ?_
            refine mz_go 4 (c' := (113, [some (.ref 20), some (.int a), some (.int b), some (.int ve1), some (.int ve2), some (.int ve3), some (.int ve4), some (.int 1)], [.int 1], m)) rfl ?_
            exact mz_ret rfl
          · refine ⟨2, ⟨?_, rfl⟩⟩
            refine mz_go 3 (c' := (3, [some (.ref 20), some (.int a), some (.int b), none, none, none, none, none], [.int b, .int a, .ref 20], m)) rfl ?_
            refine mz_doQ (R := mz_r7) (as := [.ref 20, .int a, .int b]) (rest := []) (r1 := some (.int ve1)) (m1 := m) mz_t7 mz_v7_20 rfl rfl rfl rfl rfl (Ee1.deep (by decide)) ?_
            refine mz_go 6 (c' := (12, [some (.ref 20), some (.int a), some (.int b), some (.int ve1), none, none, none, none], [.int b, .int (a + 1), .ref 20], m)) rfl ?_
            refine mz_doQ (R := mz_r7) (as := [.ref 20, .int (a + 1), .int b]) (rest := []) (r1 := some (.int ve2)) (m1 := m) mz_t7 mz_v7_20 rfl rfl rfl rfl rfl (Ee2.deep (by decide)) ?_
            refine mz_go 6 (c' := (22, [some (.ref 20), some (.int a), some (.int b), some (.int ve1), some (.int ve2), none, none, none], [.int (b + 1), .int a, .ref 20], m)) rfl ?_
            refine mz_doQ (R := mz_r7) (as := [.ref 20, .int a, .int (b + 1)]) (rest := []) (r1 := some (.int ve3)) (m1 := m) mz_t7 mz_v7_20 rfl rfl rfl rfl rfl (Ee3.deep (by decide)) ?_
            refine mz_go 8 (c' := (34, [some (.ref 20), some (.int a), some (.int b), some (.int ve1), some (.int ve2), some (.int ve3), none, none], [.int (b + 1), .int (a + 1), .ref 20], m)) rfl ?_
            refine mz_doQ (R := mz_r7) (as := [.ref 20, .int (a + 1), .int (b + 1)]) (rest := []) (r1 := some (.int ve4)) (m1 := m) mz_t7 mz_v7_20 rfl rfl rfl rfl rfl (Ee4.deep (by decide)) ?_
            refine mz_go 7 (c' := (if ve2 = ve1 then 54 else 50, [some (.ref 20), some (.int a), some (.int b), some (.int ve1), some (.int ve2), some (.int ve3), some (.int ve4), some (.int 1)], [.int 1], m)) rfl ?_
            refine mz_ifT q1 ?_
            refine mz_go 7 (c' := (if ve3 = ve1 then 77 else 66, [some (.ref 20), some (.int a), some (.int b), some (.int ve1), some (.int ve2), some (.int ve3), some (.int ve4), some (.int 1)], [.int 1], m)) rfl ?_
            refine mz_ifT q2 ?_
            refine mz_go 7 (c' := (if ve4 = ve1 then 107 else 89, [some (.ref 20), some (.int a), some (.int b), some (.int ve1), some (.int ve2), some (.int ve3), some (.int ve4), some (.int 1)], [.int 1], m)) rfl ?_
            refine mz_ifF q3 ?_
            refine mz_go 3 (c' := (if ve4 = ve2 then 107 else 96, [some (.ref 20), some (.int a), some (.int b), some (.int ve1), some (.int ve2), some (.int ve3), some (.int ve4), some (.int 1)], [.int 1], m)) rfl ?_
            refine mz_ifF q4 ?_
            refine mz_go 3 (c' := (if ve4 = ve3 then 107 else 103, [some (.ref 20), some (.int a), some (.int b), some (.int ve1), some (.int ve2), some (.int ve3), some (.int ve4), some (.int 1)], [.int 1], m)) rfl ?_
            refine mz_ifF q5 ?_
            refine mz_go 5 (c' := (113, [some (.ref 20), some (.int a), some (.int b), some (.int ve1), some (.int ve2), some (.int ve3), some (.int ve4), some (.int 2)], [.int 2], m)) rfl ?_
            exact mz_ret rfl
    · by_cases q6 : ve3 = ve2
      · by_cases q7 : ve4 = ve1
        · refine ⟨1, ⟨?_, rfl⟩⟩
          refine mz_go 3 (c' := (3, [some (.ref 20), some (.int a), some (.int b), none, none, none, none, none], [.int b, .int a, .ref 20], m)) rfl ?_
          refine mz_doQ (R := mz_r7) (as := [.ref 20, .int a, .int b]) (rest := []) (r1 := some (.int ve1)) (m1 := m) mz_t7 mz_v7_20 rfl rfl rfl rfl rfl (Ee1.deep (by decide)) ?_
          refine mz_go 6 (c' := (12, [some (.ref 20), some (.int a), some (.int b), some (.int ve1), none, none, none, none], [.int b, .int (a + 1), .ref 20], m)) rfl ?_
          refine mz_doQ (R := mz_r7) (as := [.ref 20, .int (a + 1), .int b]) (rest := []) (r1 := some (.int ve2)) (m1 := m) mz_t7 mz_v7_20 rfl rfl rfl rfl rfl (Ee2.deep (by decide)) ?_
          refine mz_go 6 (c' := (22, [some (.ref 20), some (.int a), some (.int b), some (.int ve1), some (.int ve2), none, none, none], [.int (b + 1), .int a, .ref 20], m)) rfl ?_
          refine mz_doQ (R := mz_r7) (as := [.ref 20, .int a, .int (b + 1)]) (rest := []) (r1 := some (.int ve3)) (m1 := m) mz_t7 mz_v7_20 rfl rfl rfl rfl rfl (Ee3.deep (by decide)) ?_
          refine mz_go 8 (c' := (34, [some (.ref 20), some (.int a), some (.int b), some (.int ve1), some (.int ve2), some (.int ve3), none, none], [.int (b + 1), .int (a + 1), .ref 20], m)) rfl ?_
          refine mz_doQ (R := mz_r7) (as := [.ref 20, .int (a + 1), .int (b + 1)]) (rest := []) (r1 := some (.int ve4)) (m1 := m) mz_t7 mz_v7_20 rfl rfl rfl rfl rfl (Ee4.deep (by decide)) ?_
          refine mz_go 7 (c' := (if ve2 = ve1 then 54 else 50, [some (.ref 20), some (.int a), some (.int b), some (.int ve1), some (.int ve2), some (.int ve3), some (.int ve4), some (.int 1)], [.int 1], m)) rfl ?_
          refine mz_ifT q1 ?_
          refine mz_go 7 (c' := (if ve3 = ve1 then 77 else 66, [some (.ref 20), some (.int a), some (.int b), some (.int ve1), some (.int ve2), some (.int ve3), some (.int ve4), some (.int 1)], [.int 1], m)) rfl ?_
          refine mz_ifF q2 ?_
          refine mz_go 3 (c' := (if ve3 = ve2 then 77 else 73, [some (.ref 20), some (.int a), some (.int b), some (.int ve1), some (.int ve2), some (.int ve3), some (.int ve4), some (.int 1)], [.int 1], m)) rfl ?_
          refine mz_ifT q6 ?_
          refine mz_go 7 (c' := (if ve4 = ve1 then 107 else 89, [some (.ref 20), some (.int a), some (.int b), some (.int ve1), some (.int ve2), some (.int ve3), some (.int ve4), some (.int 1)], [.int 1], m)) rfl ?_
          refine mz_ifT q7 ?_
          refine mz_go 4 (c' := (113, [some (.ref 20), some (.int a), some (.int b), some (.int ve1), some (.int ve2), some (.int ve3), some (.int ve4), some (.int 1)], [.int 1], m)) rfl ?_
          exact mz_ret rfl
        · by_cases q8 : ve4 = ve2
          · refine ⟨1, ⟨?_, rfl⟩⟩
            refine mz_go 3 (c' := (3, [some (.ref 20), some (.int a), some (.int b), none, none, none, none, none], [.int b, .int a, .ref 20], m)) rfl ?_
            refine mz_doQ (R := mz_r7) (as := [.ref 20, .int a, .int b]) (rest := []) (r1 := some (.int ve1)) (m1 := m) mz_t7 mz_v7_20 rfl rfl rfl rfl rfl (Ee1.deep (by decide)) ?_
            refine mz_go 6 (c' := (12, [some (.ref 20), some (.int a), some (.int b), some (.int ve1), none, none, none, none], [.int b, .int (a + 1), .ref 20], m)) rfl ?_
            refine mz_doQ (R := mz_r7) (as := [.ref 20, .int (a + 1), .int b]) (rest := []) (r1 := some (.int ve2)) (m1 := m) mz_t7 mz_v7_20 rfl rfl rfl rfl rfl (Ee2.deep (by decide)) ?_
            refine mz_go 6 (c' := (22, [some (.ref 20), some (.int a), some (.int b), some (.int ve1), some (.int ve2), none, none, none], [.int (b + 1), .int a, .ref 20], m)) rfl ?_
            refine mz_doQ (R := mz_r7) (as := [.ref 20, .int a, .int (b + 1)]) (rest := []) (r1 := some (.int ve3)) (m1 := m) mz_t7 mz_v7_20 rfl rfl rfl rfl rfl (Ee3.deep (by decide)) ?_
            refine mz_go 8 (c' := (34, [some (.ref 20), some (.int a), some (.int b), some (.int ve1), some (.int ve2), some (.int ve3), none, none], [.int (b + 1), .int (a + 1), .ref 20], m)) rfl ?_
            refine mz_doQ (R := mz_r7) (as := [.ref 20, .int (a + 1), .int (b + 1)]) (rest := []) (r1 := some (.int ve4)) (m1 := m) mz_t7 mz_v7_20 rfl rfl rfl rfl rfl (Ee4.deep (by decide)) ?_
            refine mz_go 7 (c' := (if ve2 = ve1 then 54 else 50, [some (.ref 20), some (.int a), some (.int b), some (.int ve1), some (.int ve2), some (.int ve3), some (.int ve4), some (.int 1)], [.int 1], m)) rfl ?_
            refine mz_ifT q1 ?_
            refine mz_go 7 (c' := (if ve3 = ve1 then 77 else 66, [some (.ref 20), some (.int a), some (.int b), some (.int ve1), some (.int ve2), some (.int ve3), some (.int ve4), some (.int 1)], [.int 1], m)) rfl ?_
            refine mz_ifF q2 ?_
            refine mz_go 3 (c' := (if ve3 = ve2 then 77 else 73, [some (.ref 20), some (.int a), some (.int b), some (.int ve1), some (.int ve2), some (.int ve3), some (.int ve4), some (.int 1)], [.int 1], m)) rfl ?_
            refine mz_ifT q6 ?_
            refine mz_go 7 (c' := (if ve4 = ve1 then 107 else 89, [some (.ref 20), some (.int a), some (.int b), some (.int ve1), some (.int ve2), some (.int ve3), some (.int ve4), some (.int 1)], [.int 1], m)) rfl ?_
            refine mz_ifF q7 ?_
            refine mz_go 3 (c' := (if ve4 = ve2 then 107 else 96, [some (.ref 20), some (.int a), some (.int b), some (.int ve1), some (.int ve2), some (.int ve3), some (.int ve4), some (.int 1)], [.int 1], m)) rfl ?_
            refine mz_ifT q8 ?_
            refine mz_go 4 (c' := (113, [some (.ref 20), some (.int a), some (.int b), some (.int ve1), some (.int ve2), some (.int ve3), some (.int ve4), some (.int 1)], [.int 1], m)) rfl ?_
            exact mz_ret rfl
          · by_cases q9 : ve4 = ve3
            · refine ⟨1, ⟨?_, rfl⟩⟩
              refine mz_go 3 (c' := (3, [some (.ref 20), some (.int a), some (.int b), none, none, none, none, none], [.int b, .int a, .ref 20], m)) rfl ?_
              refine mz_doQ (R := mz_r7) (as := [.ref 20, .int a, .int b]) (rest := []) (r1 := some (.int ve1)) (m1 := m) mz_t7 mz_v7_20 rfl rfl rfl rfl rfl (Ee1.deep (by decide)) ?_
              refine mz_go 6 (c' := (12, [some (.ref 20), some (.int a), some (.int b), some (.int ve1), none, none, none, none], [.int b, .int (a + 1), .ref 20], m)) rfl ?_
              refine mz_doQ (R := mz_r7) (as := [.ref 20, .int (a + 1), .int b]) (rest := []) (r1 := some (.int ve2)) (m1 := m) mz_t7 mz_v7_20 rfl rfl rfl rfl rfl (Ee2.deep (by decide)) ?_
              refine mz_go 6 (c' := (22, [some (.ref 20), some (.int a), some (.int b), some (.int ve1), some (.int ve2), none, none, none], [.int (b + 1), .int a, .ref 20], m)) rfl ?_
              refine mz_doQ (R := mz_r7) (as := [.ref 20, .int a, .int (b + 1)]) (rest := []) (r1 := some (.int ve3)) (m1 := m) mz_t7 mz_v7_20 rfl rfl rfl rfl rfl (Ee3.deep (by decide)) ?_
              refine mz_go 8 (c' := (34, [some (.ref 20), some (.int a), some (.int b), some (.int ve1), some (.int ve2), some (.int ve3), none, none], [.int (b + 1), .int (a + 1), .ref 20], m)) rfl ?_
              refine mz_doQ (R := mz_r7) (as := [.ref 20, .int (a + 1), .int (b + 1)]) (rest := []) (r1 := some (.int ve4)) (m1 := m) mz_t7 mz_v7_20 rfl rfl rfl rfl rfl (Ee4.deep (by decide)) ?_
              refine mz_go 7 (c' := (if ve2 = ve1 then 54 else 50, [some (.ref 20), some (.int a), some (.int b), some (.int ve1), some (.int ve2), some (.int ve3), some (.int ve4), some (.int 1)], [.int 1], m)) rfl ?_
              refine mz_ifT q1 ?_
              refine mz_go 7 (c' := (if ve3 = ve1 then 77 else 66, [some (.ref 20), some (.int a), some (.int b), some (.int ve1), some (.int ve2), some (.int ve3), some (.int ve4), some (.int 1)], [.int 1], m)) rfl ?_
              refine mz_ifF q2 ?_
              refine mz_go 3 (c' := (if ve3 = ve2 then 77 else 73, [some (.ref 20), some (.int a), some (.int b), some (.int ve1), some (.int ve2), some (.int ve3), some (.int ve4), some (.int 1)], [.int 1], m)) rfl ?_
              refine mz_ifT q6 ?_
              refine mz_go 7 (c' := (if ve4 = ve1 then 107 else 89, [some (.ref 20), some (.int a), some (.int b), some (.int ve1), some (.int ve2), some (.int ve3), some (.int ve4), some (.int 1)], [.int 1], m)) rfl ?_
              refine mz_ifF q7 ?_
              refine mz_go 3 (c' := (if ve4 = ve2 then 107 else 96, [some (.ref 20), some (.int a), some (.int b), some (.int ve1), some (.int ve2), some (.int ve3), some (.int ve4), some (.int 1)], [.int 1], m)) rfl ?_
              refine mz_ifF q8 ?_
              refine mz_go 3 (c' := (if ve4 = ve3 then 107 else 103, [some (.ref 20), some (.int a), some (.int b), some (.int ve1), some (.int ve2), some (.int ve3), some (.int ve4), some (.int 1)], [.int 1], m)) rfl ?_
              refine mz_ifT q9 ?_
              refine mz_go 4 (c' := (113, [some (.ref 20), some (.int a), some (.int b), some (.int ve1), some (.int ve2), some (.int ve3), some (.int ve4), some (.int 1)], [.int 1], m)) rfl ?_
              exact mz_ret rfl
            · refine ⟨2, ⟨?_, rfl⟩⟩
              refine mz_go 3 (c' := (3, [some (.ref 20), some (.int a), some (.int b), none, none, none, none, none], [.int b, .int a, .ref 20], m)) rfl ?_
              refine mz_doQ (R := mz_r7) (as := [.ref 20, .int a, .int b]) (rest := []) (r1 := some (.int ve1)) (m1 := m) mz_t7 mz_v7_20 rfl rfl rfl rfl rfl (Ee1.deep (by decide)) ?_
              refine mz_go 6 (c' := (12, [some (.ref 20), some (.int a), some (.int b), some (.int ve1), none, none, none, none], [.int b, .int (a + 1), .ref 20], m)) rfl ?_
              refine mz_doQ (R := mz_r7) (as := [.ref 20, .int (a + 1), .int b]) (rest := []) (r1 := some (.int ve2)) (m1 := m) mz_t7 mz_v7_20 rfl rfl rfl rfl rfl (Ee2.deep (by decide)) ?_
              refine mz_go 6 (c' := (22, [some (.ref 20), some (.int a), some (.int b), some (.int ve1), some (.int ve2), none, none, none], [.int (b + 1), .int a, .ref 20], m)) rfl ?_
              refine mz_doQ (R := mz_r7) (as := [.ref 20, .int a, .int (b + 1)]) (rest := []) (r1 := some (.int ve3)) (m1 := m) mz_t7 mz_v7_20 rfl rfl rfl rfl rfl (Ee3.deep (by decide)) ?_
              refine mz_go 8 (c' := (34, [some (.ref 20), some (.int a), some (.int b), some (.int ve1), some (.int ve2), some (.int ve3), none, none], [.int (b + 1), .int (a + 1), .ref 20], m)) rfl ?_
              refine mz_doQ (R := mz_r7) (as := [.ref 20, .int (a + 1), .int (b + 1)]) (rest := []) (r1 := some (.int ve4)) (m1 := m) mz_t7 mz_v7_20 rfl rfl rfl rfl rfl (Ee4.deep (by decide)) ?_
              refine mz_go 7 (c' := (if ve2 = ve1 then 54 else 50, [some (.ref 20), some (.int a), some (.int b), some (.int ve1), some (.int ve2), some (.int ve3), some (.int ve4), some (.int 1)], [.int 1], m)) rfl ?_
              refine mz_ifT q1 ?_
              refine mz_go 7 (c' := (if ve3 = ve1 then 77 else 66, [some (.ref 20), some (.int a), some (.int b), some (.int ve1), some (.int ve2), some (.int ve3), some (.int ve4), some (.int 1)], [.int 1], m)) rfl ?_
              refine mz_ifF q2 ?_
              refine mz_go 3 (c' := (if ve3 = ve2 then 77 else 73, [some (.ref 20), some (.int a), some (.int b), some (.int ve1), some (.int ve2), some (.int ve3), some (.int ve4), some (.int 1)], [.int 1], m)) rfl ?_
              refine mz_ifT q6 ?_
              refine mz_go 7 (c' := (if ve4 = ve1 then 107 else 89, [some (.ref 20), some (.int a), some (.int b), some (.int ve1), some (.int ve2), some (.int ve3), some (.int ve4), some (.int 1)], [.int 1], m)) rfl ?_
              refine mz_ifF q7 ?_
              refine mz_go 3 (c' := (if ve4 = ve2 then 107 else 96, [some (.ref 20), some (.int a), some (.int b), some (.int ve1), some (.int ve2), some (.int ve3), some (.int ve4), some (.int 1)], [.int 1], m)) rfl ?_
              refine mz_ifF q8 ?_
              refine mz_go 3 (c' := (if ve4 = ve3 then 107 else 103, [some (.ref 20), some (.int a), some (.int b), some (.int ve1), some (.int ve2), some (.int ve3), some (.int ve4), some (.int 1)], [.int 1], m)) rfl ?_
              refine mz_ifF q9 ?_
              refine mz_go 5 (c' := (113, [some (.ref 20), some (.int a), some (.int b), some (.int ve1), some (.int ve2), some (.int ve3), some (.int ve4), some (.int 2)], [.int 2], m)) rfl ?_
              exact mz_ret rfl
      · by_cases q10 : ve4 = ve1
        · refine ⟨2, ⟨?_, rfl⟩⟩
          refine mz_go 3 (c' := (3, [some (.ref 20), some (.int a), some (.int b), none, none, none, none, none], [.int b, .int a, .ref 20], m)) rfl ?_
          refine mz_doQ (R := mz_r7) (as := [.ref 20, .int a, .int b]) (rest := []) (r1 := some (.int ve1)) (m1 := m) mz_t7 mz_v7_20 rfl rfl rfl rfl rfl (Ee1.deep (by decide)) ?_
          refine mz_go 6 (c' := (12, [some (.ref 20), some (.int a), some (.int b), some (.int ve1), none, none, none, none], [.int b, .int (a + 1), .ref 20], m)) rfl ?_
          refine mz_doQ (R := mz_r7) (as := [.ref 20, .int (a + 1), .int b]) (rest := []) (r1 := some (.int ve2)) (m1 := m) mz_t7 mz_v7_20 rfl rfl rfl rfl rfl (Ee2.deep (by decide)) ?_
          refine mz_go 6 (c' := (22, [some (.ref 20), some (.int a), some (.int b), some (.int ve1), some (.int ve2), none, none, none], [.int (b + 1), .int a, .ref 20], m)) rfl ?_
          refine mz_doQ (R := mz_r7) (as := [.ref 20, .int a, .int (b + 1)]) (rest := []) (r1 := some (.int ve3)) (m1 := m) mz_t7 mz_v7_20 rfl rfl rfl rfl rfl (Ee3.deep (by decide)) ?_
          refine mz_go 8 (c' := (34, [some (.ref 20), some (.int a), some (.int b), some (.int ve1), some (.int ve2), some (.int ve3), none, none], [.int (b + 1), .int (a + 1), .ref 20], m)) rfl ?_
          refine mz_doQ (R := mz_r7) (as := [.ref 20, .int (a + 1), .int (b + 1)]) (rest := []) (r1 := some (.int ve4)) (m1 := m) mz_t7 mz_v7_20 rfl rfl rfl rfl rfl (Ee4.deep (by decide)) ?_
          refine mz_go 7 (c' := (if ve2 = ve1 then 54 else 50, [some (.ref 20), some (.int a), some (.int b), some (.int ve1), some (.int ve2), some (.int ve3), some (.int ve4), some (.int 1)], [.int 1], m)) rfl ?_
          refine mz_ifT q1 ?_
          refine mz_go 7 (c' := (if ve3 = ve1 then 77 else 66, [some (.ref 20), some (.int a), some (.int b), some (.int ve1), some (.int ve2), some (.int ve3), some (.int ve4), some (.int 1)], [.int 1], m)) rfl ?_
          refine mz_ifF q2 ?_
          refine mz_go 3 (c' := (if ve3 = ve2 then 77 else 73, [some (.ref 20), some (.int a), some (.int b), some (.int ve1), some (.int ve2), some (.int ve3), some (.int ve4), some (.int 1)], [.int 1], m)) rfl ?_
          refine mz_ifF q6 ?_
          refine mz_go 8 (c' := (if ve4 = ve1 then 107 else 89, [some (.ref 20), some (.int a), some (.int b), some (.int ve1), some (.int ve2), some (.int ve3), some (.int ve4), some (.int 2)], [.int 2], m)) rfl ?_
          refine mz_ifT q10 ?_
          refine mz_go 4 (c' := (113, [some (.ref 20), some (.int a), some (.int b), some (.int ve1), some (.int ve2), some (.int ve3), some (.int ve4), some (.int 2)], [.int 2], m)) rfl ?_
          exact mz_ret rfl
        · by_cases q11 : ve4 = ve2
          · refine ⟨2, ⟨?_, rfl⟩⟩
            refine mz_go 3 (c' := (3, [some (.ref 20), some (.int a), some (.int b), none, none, none, none, none], [.int b, .int a, .ref 20], m)) rfl ?_
            refine mz_doQ (R := mz_r7) (as := [.ref 20, .int a, .int b]) (rest := []) (r1 := some (.int ve1)) (m1 := m) mz_t7 mz_v7_20 rfl rfl rfl rfl rfl (Ee1.deep (by decide)) ?_
            refine mz_go 6 (c' := (12, [some (.ref 20), some (.int a), some (.int b), some (.int ve1), none, none, none, none], [.int b, .int (a + 1), .ref 20], m)) rfl ?_
            refine mz_doQ (R := mz_r7) (as := [.ref 20, .int (a + 1), .int b]) (rest := []) (r1 := some (.int ve2)) (m1 := m) mz_t7 mz_v7_20 rfl rfl rfl rfl rfl (Ee2.deep (by decide)) ?_
            refine mz_go 6 (c' := (22, [some (.ref 20), some (.int a), some (.int b), some (.int ve1), some (.int ve2), none, none, none], [.int (b + 1), .int a, .ref 20], m)) rfl ?_
            refine mz_doQ (R := mz_r7) (as := [.ref 20, .int a, .int (b + 1)]) (rest := []) (r1 := some (.int ve3)) (m1 := m) mz_t7 mz_v7_20 rfl rfl rfl rfl rfl (Ee3.deep (by decide)) ?_
            refine mz_go 8 (c' := (34, [some (.ref 20), some (.int a), some (.int b), some (.int ve1), some (.int ve2), some (.int ve3), none, none], [.int (b + 1), .int (a + 1), .ref 20], m)) rfl ?_
            refine mz_doQ (R := mz_r7) (as := [.ref 20, .int (a + 1), .int (b + 1)]) (rest := []) (r1 := some (.int ve4)) (m1 := m) mz_t7 mz_v7_20 rfl rfl rfl rfl rfl (Ee4.deep (by decide)) ?_
            refine mz_go 7 (c' := (if ve2 = ve1 then 54 else 50, [some (.ref 20), some (.int a), some (.int b), some (.int ve1), some (.int ve2), some (.int ve3), some (.int ve4), some (.int 1)], [.int 1], m)) rfl ?_
            refine mz_ifT q1 ?_
            refine mz_go 7 (c' := (if ve3 = ve1 then 77 else 66, [some (.ref 20), some (.int a), some (.int b), some (.int ve1), some (.int ve2), some (.int ve3), some (.int ve4), some (.int 1)], [.int 1], m)) rfl ?_
            refine mz_ifF q2 ?_
            refine mz_go 3 (c' := (if ve3 = ve2 then 77 else 73, [some (.ref 20), some (.int a), some (.int b), some (.int ve1), some (.int ve2), some (.int ve3), some (.int ve4), some (.int 1)], [.int 1], m)) rfl ?_
            refine mz_ifF q6 ?_
            refine mz_go 8 (c' := (if ve4 = ve1 then 107 else 89, [some (.ref 20), some (.int a), some (.int b), some (.int ve1), some (.int ve2), some (.int ve3), some (.int ve4), some (.int 2)], [.int 2], m)) rfl ?_
            refine mz_ifF q10 ?_
            refine mz_go 3 (c' := (if ve4 = ve2 then 107 else 96, [some (.ref 20), some (.int a), some (.int b), some (.int ve1), some (.int ve2), some (.int ve3), some (.int ve4), some (.int 2)], [.int 2], m)) rfl ?_
            refine mz_ifT q11 ?_
            refine mz_go 4 (c' := (113, [some (.ref 20), some (.int a), some (.int b), some (.int ve1), some (.int ve2), some (.int ve3), some (.int ve4), some (.int 2)], [.int 2], m)) rfl ?_
            exact mz_ret rfl
          · by_cases q12 : ve4 = ve3
            · refine ⟨2, ⟨?_, rfl⟩⟩
              refine mz_go 3 (c' := (3, [some (.ref 20), some (.int a), some (.int b), none, none, none, none, none], [.int b, .int a, .ref 20], m)) rfl ?_
              refine mz_doQ (R := mz_r7) (as := [.ref 20, .int a, .int b]) (rest := []) (r1 := some (.int ve1)) (m1 := m) mz_t7 mz_v7_20 rfl rfl rfl rfl rfl (Ee1.deep (by decide)) ?_
              refine mz_go 6 (c' := (12, [some (.ref 20), some (.int a), some (.int b), some (.int ve1), none, none, none, none], [.int b, .int (a + 1), .ref 20], m)) rfl ?_
              refine mz_doQ (R := mz_r7) (as := [.ref 20, .int (a + 1), .int b]) (rest := []) (r1 := some (.int ve2)) (m1 := m) mz_t7 mz_v7_20 rfl rfl rfl rfl rfl (Ee2.deep (by decide)) ?_
              refine mz_go 6 (c' := (22, [some (.ref 20), some (.int a), some (.int b), some (.int ve1), some (.int ve2), none, none, none], [.int (b + 1), .int a, .ref 20], m)) rfl ?_
              refine mz_doQ (R := mz_r7) (as := [.ref 20, .int a, .int (b + 1)]) (rest := []) (r1 := some (.int ve3)) (m1 := m) mz_t7 mz_v7_20 rfl rfl rfl rfl rfl (Ee3.deep (by decide)) ?_
              refine mz_go 8 (c' := (34, [some (.ref 20), some (.int a), some (.int b), some (.int ve1), some (.int ve2), some (.int ve3), none, none], [.int (b + 1), .int (a + 1), .ref 20], m)) rfl ?_
              refine mz_doQ (R := mz_r7) (as := [.ref 20, .int (a + 1), .int (b + 1)]) (rest := []) (r1 := some (.int ve4)) (m1 := m) mz_t7 mz_v7_20 rfl rfl rfl rfl rfl (Ee4.deep (by decide)) ?_
              refine mz_go 7 (c' := (if ve2 = ve1 then 54 else 50, [some (.ref 20), some (.int a), some (.int b), some (.int ve1), some (.int ve2), some (.int ve3), some (.int ve4), some (.int 1)], [.int 1], m)) rfl ?_
              refine mz_ifT q1 ?_
              refine mz_go 7 (c' := (if ve3 = ve1 then 77 else 66, [some (.ref 20), some (.int a), some (.int b), some (.int ve1), some (.int ve2), some (.int ve3), some (.int ve4), some (.int 1)], [.int 1], m)) rfl ?_
              refine mz_ifF q2 ?_
              refine mz_go 3 (c' := (if ve3 = ve2 then 77 else 73, [some (.ref 20), some (.int a), some (.int b), some (.int ve1), some (.int ve2), some (.int ve3), some (.int ve4), some (.int 1)], [.int 1], m)) rfl ?_
              refine mz_ifF q6 ?_
              refine mz_go 8 (c' := (if ve4 = ve1 then 107 else 89, [some (.ref 20), some (.int a), some (.int b), some (.int ve1), some (.int ve2), some (.int ve3), some (.int ve4), some (.int 2)], [.int 2], m)) rfl ?_
              refine mz_ifF q10 ?_
              refine mz_go 3 (c' := (if ve4 = ve2 then 107 else 96, [some (.ref 20), some (.int a), some (.int b), some (.int ve1), some (.int ve2), some (.int ve3), some (.int ve4), some (.int 2)], [.int 2], m)) rfl ?_
              refine mz_ifF q11 ?_
              refine mz_go 3 (c' := (if ve4 = ve3 then 107 else 103, [some (.ref 20), some (.int a), some (.int b), some (.int ve1), some (.int ve2), some (.int ve3), some (.int ve4), some (.int 2)], [.int 2], m)) rfl ?_
              refine mz_ifT q12 ?_
              refine mz_go 4 (c' := (113, [some (.ref 20), some (.int a), some (.int b), some (.int ve1), some (.int ve2), some (.int ve3), some (.int ve4), some (.int 2)], [.int 2], m)) rfl ?_
              exact mz_ret rfl
            · refine ⟨3, ⟨?_, rfl⟩⟩
              refine mz_go 3 (c' := (3, [some (.ref 20), some (.int a), some (.int b), none, none, none, none, none], [.int b, .int a, .ref 20], m)) rfl ?_
              refine mz_doQ (R := mz_r7) (as := [.ref 20, .int a, .int b]) (rest := []) (r1 := some (.int ve1)) (m1 := m) mz_t7 mz_v7_20 rfl rfl rfl rfl rfl (Ee1.deep (by decide)) ?_
              refine mz_go 6 (c' := (12, [some (.ref 20), some (.int a), some (.int b), some (.int ve1), none, none, none, none], [.int b, .int (a + 1), .ref 20], m)) rfl ?_
              refine mz_doQ (R := mz_r7) (as := [.ref 20, .int (a + 1), .int b]) (rest := []) (r1 := some (.int ve2)) (m1 := m) mz_t7 mz_v7_20 rfl rfl rfl rfl rfl (Ee2.deep (by decide)) ?_
              refine mz_go 6 (c' := (22, [some (.ref 20), some (.int a), some (.int b), some (.int ve1), some (.int ve2), none, none, none], [.int (b + 1), .int a, .ref 20], m)) rfl ?_
              refine mz_doQ (R := mz_r7) (as := [.ref 20, .int a, .int (b + 1)]) (rest := []) (r1 := some (.int ve3)) (m1 := m) mz_t7 mz_v7_20 rfl rfl rfl rfl rfl (Ee3.deep (by decide)) ?_
              refine mz_go 8 (c' := (34, [some (.ref 20), some (.int a), some (.int b), some (.int ve1), some (.int ve2), some (.int ve3), none, none], [.int (b + 1), .int (a + 1), .ref 20], m)) rfl ?_
              refine mz_doQ (R := mz_r7) (as := [.ref 20, .int (a + 1), .int (b + 1)]) (rest := []) (r1 := some (.int ve4)) (m1 := m) mz_t7 mz_v7_20 rfl rfl rfl rfl rfl (Ee4.deep (by decide)) ?_
              refine mz_go 7 (c' := (if ve2 = ve1 then 54 else 50, [some (.ref 20), some (.int a), some (.int b), some (.int ve1), some (.int ve2), some (.int ve3), some (.int ve4), some (.int 1)], [.int 1], m)) rfl ?_
              refine mz_ifT q1 ?_
              refine mz_go 7 (c' := (if ve3 = ve1 then 77 else 66, [some (.ref 20), some (.int a), some (.int b), some (.int ve1), some (.int ve2), some (.int ve3), some (.int ve4), some (.int 1)], [.int 1], m)) rfl ?_
              refine mz_ifF q2 ?_
              refine mz_go 3 (c' := (if ve3 = ve2 then 77 else 73, [some (.ref 20), some (.int a), some (.int b), some (.int ve1), some (.int ve2), some (.int ve3), some (.int ve4), some (.int 1)], [.int 1], m)) rfl ?_
              refine mz_ifF q6 ?_
              refine mz_go 8 (c' := (if ve4 = ve1 then 107 else 89, [some (.ref 20), some (.int a), some (.int b), some (.int ve1), some (.int ve2), some (.int ve3), some (.int ve4), some (.int 2)], [.int 2], m)) rfl ?_
              refine mz_ifF q10 ?_
              refine mz_go 3 (c' := (if ve4 = ve2 then 107 else 96, [some (.ref 20), some (.int a), some (.int b), some (.int ve1), some (.int ve2), some (.int ve3), some (.int ve4), some (.int 2)], [.int 2], m)) rfl ?_
              refine mz_ifF q11 ?_
              refine mz_go 3 (c' := (if ve4 = ve3 then 107 else 103, [some (.ref 20), some (.int a), some (.int b), some (.int ve1), some (.int ve2), some (.int ve3), some (.int ve4), some (.int 2)], [.int 2], m)) rfl ?_
              refine mz_ifF q12 ?_
              refine mz_go 5 (c' := (113, [some (.ref 20), some (.int a), some (.int b), some (.int ve1), some (.int ve2), some (.int ve3), some (.int ve4), some (.int 3)], [.int 3], m)) rfl ?_
              exact mz_ret rfl
  · by_cases q13 : ve3 = ve1
    · by_cases q14 : ve4 = ve1
      · refine ⟨2, ⟨?_, rfl⟩⟩
        refine mz_go 3 (c' := (3, [some (.ref 20), some (.int a), some (.int b), none, none, none, none, none], [.int b, .int a, .ref 20], m)) rfl ?_
        refine mz_doQ (R := mz_r7) (as := [.ref 20, .int a, .int b]) (rest := []) (r1 := some (.int ve1)) (m1 := m) mz_t7 mz_v7_20 rfl rfl rfl rfl rfl (Ee1.deep (by decide)) ?_
        refine mz_go 6 (c' := (12, [some (.ref 20), some (.int a), some (.int b), some (.int ve1), none, none, none, none], [.int b, .int (a + 1), .ref 20], m)) rfl ?_
        refine mz_doQ (R := mz_r7) (as := [.ref 20, .int (a + 1), .int b]) (rest := []) (r1 := some (.int ve2)) (m1 := m) mz_t7 mz_v7_20 rfl rfl rfl rfl rfl (Ee2.deep (by decide)) ?_
        refine mz_go 6 (c' := (22, [some (.ref 20), some (.int a), some (.int b), some (.int ve1), some (.int ve2), none, none, none], [.int (b + 1), .int a, .ref 20], m)) rfl ?_
        refine mz_doQ (R := mz_r7) (as := [.ref 20, .int a, .int (b + 1)]) (rest := []) (r1 := some (.int ve3)) (m1 := m) mz_t7 mz_v7_20 rfl rfl rfl rfl rfl (Ee3.deep (by decide)) ?_
        refine mz_go 8 (c' := (34, [some (.ref 20), some (.int a), some (.int b), some (.int ve1), some (.int ve2), some (.int ve3), none, none], [.int (b + 1), .int (a + 1), .ref 20], m)) rfl ?_
        refine mz_doQ (R := mz_r7) (as := [.ref 20, .int (a + 1), .int (b + 1)]) (rest := []) (r1 := some (.int ve4)) (m1 := m) mz_t7 mz_v7_20 rfl rfl rfl rfl rfl (Ee4.deep (by decide)) ?_
        refine mz_go 7 (c' := (if ve2 = ve1 then 54 else 50, [some (.ref 20), some (.int a), some (.int b), some (.int ve1), some (.int ve2), some (.int ve3), some (.int ve4), some (.int 1)], [.int 1], m)) rfl ?_
        refine mz_ifF q1 ?_
        refine mz_go 8 (c' := (if ve3 = ve1 then 77 else 66, [some (.ref 20), some (.int a), some (.int b), some (.int ve1), some (.int ve2), some (.int ve3), some (.int ve4), some (.int 2)], [.int 2], m)) rfl ?_
        refine mz_ifT q13 ?_
        refine mz_go 7 (c' := (if ve4 = ve1 then 107 else 89, [some (.ref 20), some (.int a), some (.int b), some (.int ve1), some (.int ve2), some (.int ve3), some (.int ve4), some (.int 2)], [.int 2], m)) rfl ?_
        refine mz_ifT q14 ?_
        refine mz_go 4 (c' := (113, [some (.ref 20), some (.int a), some (.int b), some (.int ve1), some (.int ve2), some (.int ve3), some (.int ve4), some (.int 2)], [.int 2], m)) rfl ?_
        exact mz_ret rfl
      · by_cases q15 : ve4 = ve2
        · refine ⟨2, ⟨?_, rfl⟩⟩
          refine mz_go 3 (c' := (3, [some (.ref 20), some (.int a), some (.int b), none, none, none, none, none], [.int b, .int a, .ref 20], m)) rfl ?_
          refine mz_doQ (R := mz_r7) (as := [.ref 20, .int a, .int b]) (rest := []) (r1 := some (.int ve1)) (m1 := m) mz_t7 mz_v7_20 rfl rfl rfl rfl rfl (Ee1.deep (by decide)) ?_
          refine mz_go 6 (c' := (12, [some (.ref 20), some (.int a), some (.int b), some (.int ve1), none, none, none, none], [.int b, .int (a + 1), .ref 20], m)) rfl ?_
          refine mz_doQ (R := mz_r7) (as := [.ref 20, .int (a + 1), .int b]) (rest := []) (r1 := some (.int ve2)) (m1 := m) mz_t7 mz_v7_20 rfl rfl rfl rfl rfl (Ee2.deep (by decide)) ?_
          refine mz_go 6 (c' := (22, [some (.ref 20), some (.int a), some (.int b), some (.int ve1), some (.int ve2), none, none, none], [.int (b + 1), .int a, .ref 20], m)) rfl ?_
          refine mz_doQ (R := mz_r7) (as := [.ref 20, .int a, .int (b + 1)]) (rest := []) (r1 := some (.int ve3)) (m1 := m) mz_t7 mz_v7_20 rfl rfl rfl rfl rfl (Ee3.deep (by decide)) ?_
          refine mz_go 8 (c' := (34, [some (.ref 20), some (.int a), some (.int b), some (.int ve1), some (.int ve2), some (.int ve3), none, none], [.int (b + 1), .int (a + 1), .ref 20], m)) rfl ?_
          refine mz_doQ (R := mz_r7) (as := [.ref 20, .int (a + 1), .int (b + 1)]) (rest := []) (r1 := some (.int ve4)) (m1 := m) mz_t7 mz_v7_20 rfl rfl rfl rfl rfl (Ee4.deep (by decide)) ?_
          refine mz_go 7 (c' := (if ve2 = ve1 then 54 else 50, [some (.ref 20), some (.int a), some (.int b), some (.int ve1), some (.int ve2), some (.int ve3), some (.int ve4), some (.int 1)], [.int 1], m)) rfl ?_
          refine mz_ifF q1 ?_
          refine mz_go 8 (c' := (if ve3 = ve1 then 77 else 66, [some (.ref 20), some (.int a), some (.int b), some (.int ve1), some (.int ve2), some (.int ve3), some (.int ve4), some (.int 2)], [.int 2], m)) rfl ?_
          refine mz_ifT q13 ?_
          refine mz_go 7 (c' := (if ve4 = ve1 then 107 else 89, [some (.ref 20), some (.int a), some (.int b), some (.int ve1), some (.int ve2), some (.int ve3), some (.int ve4), some (.int 2)], [.int 2], m)) rfl ?_
          refine mz_ifF q14 ?_
          refine mz_go 3 (c' := (if ve4 = ve2 then 107 else 96, [some (.ref 20), some (.int a), some (.int b), some (.int ve1), some (.int ve2), some (.int ve3), some (.int ve4), some (.int 2)], [.int 2], m)) rfl ?_
          refine mz_ifT q15 ?_
          refine mz_go 4 (c' := (113, [some (.ref 20), some (.int a), some (.int b), some (.int ve1), some (.int ve2), some (.int ve3), some (.int ve4), some (.int 2)], [.int 2], m)) rfl ?_
          exact mz_ret rfl
        · by_cases q16 : ve4 = ve3
          · refine ⟨2, ⟨?_, rfl⟩⟩
            refine mz_go 3 (c' := (3, [some (.ref 20), some (.int a), some (.int b), none, none, none, none, none], [.int b, .int a, .ref 20], m)) rfl ?_
            refine mz_doQ (R := mz_r7) (as := [.ref 20, .int a, .int b]) (rest := []) (r1 := some (.int ve1)) (m1 := m) mz_t7 mz_v7_20 rfl rfl rfl rfl rfl (Ee1.deep (by decide)) ?_
            refine mz_go 6 (c' := (12, [some (.ref 20), some (.int a), some (.int b), some (.int ve1), none, none, none, none], [.int b, .int (a + 1), .ref 20], m)) rfl ?_
            refine mz_doQ (R := mz_r7) (as := [.ref 20, .int (a + 1), .int b]) (rest := []) (r1 := some (.int ve2)) (m1 := m) mz_t7 mz_v7_20 rfl rfl rfl rfl rfl (Ee2.deep (by decide)) ?_
            refine mz_go 6 (c' := (22, [some (.ref 20), some (.int a), some (.int b), some (.int ve1), some (.int ve2), none, none, none], [.int (b + 1), .int a, .ref 20], m)) rfl ?_
            refine mz_doQ (R := mz_r7) (as := [.ref 20, .int a, .int (b + 1)]) (rest := []) (r1 := some (.int ve3)) (m1 := m) mz_t7 mz_v7_20 rfl rfl rfl rfl rfl (Ee3.deep (by decide)) ?_
            refine mz_go 8 (c' := (34, [some (.ref 20), some (.int a), some (.int b), some (.int ve1), some (.int ve2), some (.int ve3), none, none], [.int (b + 1), .int (a + 1), .ref 20], m)) rfl ?_
            refine mz_doQ (R := mz_r7) (as := [.ref 20, .int (a + 1), .int (b + 1)]) (rest := []) (r1 := some (.int ve4)) (m1 := m) mz_t7 mz_v7_20 rfl rfl rfl rfl rfl (Ee4.deep (by decide)) ?_
            refine mz_go 7 (c' := (if ve2 = ve1 then 54 else 50, [some (.ref 20), some (.int a), some (.int b), some (.int ve1), some (.int ve2), some (.int ve3), some (.int ve4), some (.int 1)], [.int 1], m)) rfl ?_
            refine mz_ifF q1 ?_
            refine mz_go 8 (c' := (if ve3 = ve1 then 77 else 66, [some (.ref 20), some (.int a), some (.int b), some (.int ve1), some (.int ve2), some (.int ve3), some (.int ve4), some (.int 2)], [.int 2], m)) rfl ?_
            refine mz_ifT q13 ?_
            refine mz_go 7 (c' := (if ve4 = ve1 then 107 else 89, [some (.ref 20), some (.int a), some (.int b), some (.int ve1), some (.int ve2), some (.int ve3), some (.int ve4), some (.int 2)], [.int 2], m)) rfl ?_
            refine mz_ifF q14 ?_
            refine mz_go 3 (c' := (if ve4 = ve2 then 107 else 96, [some (.ref 20), some (.int a), some (.int b), some (.int ve1), some (.int ve2), some (.int ve3), some (.int ve4), some (.int 2)], [.int 2], m)) rfl ?_
            refine mz_ifF q15 ?_
            refine mz_go 3 (c' := (if ve4 = ve3 then 107 else 103, [some (.ref 20), some (.int a), some (.int b), some (.int ve1), some (.int ve2), some (.int ve3), some (.int ve4), some (.int 2)], [.int 2], m)) rfl ?_
            refine mz_ifT q16 ?_
            refine mz_go 4 (c' := (113, [some (.ref 20), some (.int a), some (.int b), some (.int ve1), some (.int ve2), some (.int ve3), some (.int ve4), some (.int 2)], [.int 2], m)) rfl ?_
            exact mz_ret rfl
          · refine ⟨3, ⟨?_, rfl⟩⟩
            refine mz_go 3 (c' := (3, [some (.ref 20), some (.int a), some (.int b), none, none, none, none, none], [.int b, .int a, .ref 20], m)) rfl ?_
            refine mz_doQ (R := mz_r7) (as := [.ref 20, .int a, .int b]) (rest := []) (r1 := some (.int ve1)) (m1 := m) mz_t7 mz_v7_20 rfl rfl rfl rfl rfl (Ee1.deep (by decide)) ?_
            refine mz_go 6 (c' := (12, [some (.ref 20), some (.int a), some (.int b), some (.int ve1), none, none, none, none], [.int b, .int (a + 1), .ref 20], m)) rfl ?_
            refine mz_doQ (R := mz_r7) (as := [.ref 20, .int (a + 1), .int b]) (rest := []) (r1 := some (.int ve2)) (m1 := m) mz_t7 mz_v7_20 rfl rfl rfl rfl rfl (Ee2.deep (by decide)) ?_
            refine mz_go 6 (c' := (22, [some (.ref 20), some (.int a), some (.int b), some (.int ve1), some (.int ve2), none, none, none], [.int (b + 1), .int a, .ref 20], m)) rfl ?_
            refine mz_doQ (R := mz_r7) (as := [.ref 20, .int a, .int (b + 1)]) (rest := []) (r1 := some (.int ve3)) (m1 := m) mz_t7 mz_v7_20 rfl rfl rfl rfl rfl (Ee3.deep (by decide)) ?_
            refine mz_go 8 (c' := (34, [some (.ref 20), some (.int a), some (.int b), some (.int ve1), some (.int ve2), some (.int ve3), none, none], [.int (b + 1), .int (a + 1), .ref 20], m)) rfl ?_
            refine mz_doQ (R := mz_r7) (as := [.ref 20, .int (a + 1), .int (b + 1)]) (rest := []) (r1 := some (.int ve4)) (m1 := m) mz_t7 mz_v7_20 rfl rfl rfl rfl rfl (Ee4.deep (by decide)) ?_
            refine mz_go 7 (c' := (if ve2 = ve1 then 54 else 50, [some (.ref 20), some (.int a), some (.int b), some (.int ve1), some (.int ve2), some (.int ve3), some (.int ve4), some (.int 1)], [.int 1], m)) rfl ?_
            refine mz_ifF q1 ?_
            refine mz_go 8 (c' := (if ve3 = ve1 then 77 else 66, [some (.ref 20), some (.int a), some (.int b), some (.int ve1), some (.int ve2), some (.int ve3), some (.int ve4), some (.int 2)], [.int 2], m)) rfl ?_
            refine mz_ifT q13 ?_
            refine mz_go 7 (c' := (if ve4 = ve1 then 107 else 89, [some (.ref 20), some (.int a), some (.int b), some (.int ve1), some (.int ve2), some (.int ve3), some (.int ve4), some (.int 2)], [.int 2], m)) rfl ?_
            refine mz_ifF q14 ?_
            refine mz_go 3 (c' := (if ve4 = ve2 then 107 else 96, [some (.ref 20), some (.int a), some (.int b), some (.int ve1), some (.int ve2), some (.int ve3), some (.int ve4), some (.int 2)], [.int 2], m)) rfl ?_
            refine mz_ifF q15 ?_
            refine mz_go 3 (c' := (if ve4 = ve3 then 107 else 103, [some (.ref 20), some (.int a), some (.int b), some (.int ve1), some (.int ve2), some (.int ve3), some (.int ve4), some (.int 2)], [.int 2], m)) rfl ?_
            refine mz_ifF q16 ?_
            refine mz_go 5 (c' := (113, [some (.ref 20), some (.int a), some (.int b), some (.int ve1), some (.int ve2), some (.int ve3), some (.int ve4), some (.int 3)], [.int 3], m)) rfl ?_
            exact mz_ret rfl
    · by_cases q17 : ve3 = ve2
      · by_cases q18 : ve4 = ve1
        · refine ⟨2, ⟨?_, rfl⟩⟩
          refine mz_go 3 (c' := (3, [some (.ref 20), some (.int a), some (.int b), none, none, none, none, none], [.int b, .int a, .ref 20], m)) rfl ?_
          refine mz_doQ (R := mz_r7) (as := [.ref 20, .int a, .int b]) (rest := []) (r1 := some (.int ve1)) (m1 := m) mz_t7 mz_v7_20 rfl rfl rfl rfl rfl (Ee1.deep (by decide)) ?_
          refine mz_go 6 (c' := (12, [some (.ref 20), some (.int a), some (.int b), some (.int ve1), none, none, none, none], [.int b, .int (a + 1), .ref 20], m)) rfl ?_
          refine mz_doQ (R := mz_r7) (as := [.ref 20, .int (a + 1), .int b]) (rest := []) (r1 := some (.int ve2)) (m1 := m) mz_t7 mz_v7_20 rfl rfl rfl rfl rfl (Ee2.deep (by decide)) ?_
          refine mz_go 6 (c' := (22, [some (.ref 20), some (.int a), some (.int b), some (.int ve1), some (.int ve2), none, none, none], [.int (b + 1), .int a, .ref 20], m)) rfl ?_
          refine mz_doQ (R := mz_r7) (as := [.ref 20, .int a, .int (b + 1)]) (rest := []) (r1 := some (.int ve3)) (m1 := m) mz_t7 mz_v7_20 rfl rfl rfl rfl rfl (Ee3.deep (by decide)) ?_
          refine mz_go 8 (c' := (34, [some (.ref 20), some (.int a), some (.int b), some (.int ve1), some (.int ve2), some (.int ve3), none, none], [.int (b + 1), .int (a + 1), .ref 20], m)) rfl ?_
          refine mz_doQ (R := mz_r7) (as := [.ref 20, .int (a + 1), .int (b + 1)]) (rest := []) (r1 := some (.int ve4)) (m1 := m) mz_t7 mz_v7_20 rfl rfl rfl rfl rfl (Ee4.deep (by decide)) ?_
          refine mz_go 7 (c' := (if ve2 = ve1 then 54 else 50, [some (.ref 20), some (.int a), some (.int b), some (.int ve1), some (.int ve2), some (.int ve3), some (.int ve4), some (.int 1)], [.int 1], m)) rfl ?_
          refine mz_ifF q1 ?_
          refine mz_go 8 (c' := (if ve3 = ve1 then 77 else 66, [some (.ref 20), some (.int a), some (.int b), some (.int ve1), some (.int ve2), some (.int ve3), some (.int ve4), some (.int 2)], [.int 2], m)) rfl ?_
          refine mz_ifF q13 ?_
          refine mz_go 3 (c' := (if ve3 = ve2 then 77 else 73, [some (.ref 20), some (.int a), some (.int b), some (.int ve1), some (.int ve2), some (.int ve3), some (.int ve4), some (.int 2)], [.int 2], m)) rfl ?_
          refine mz_ifT q17 ?_
          refine mz_go 7 (c' := (if ve4 = ve1 then 107 else 89, [some (.ref 20), some (.int a), some (.int b), some (.int ve1), some (.int ve2), some (.int ve3), some (.int ve4), some (.int 2)], [.int 2], m)) rfl ?_
          refine mz_ifT q18 ?_
          refine mz_go 4 (c' := (113, [some (.ref 20), some (.int a), some (.int b), some (.int ve1), some (.int ve2), some (.int ve3), some (.int ve4), some (.int 2)], [.int 2], m)) rfl ?_
          exact mz_ret rfl
        · by_cases q19 : ve4 = ve2
          · refine ⟨2, ⟨?_, rfl⟩⟩
            refine mz_go 3 (c' := (3, [some (.ref 20), some (.int a), some (.int b), none, none, none, none, none], [.int b, .int a, .ref 20], m)) rfl ?_
            refine mz_doQ (R := mz_r7) (as := [.ref 20, .int a, .int b]) (rest := []) (r1 := some (.int ve1)) (m1 := m) mz_t7 mz_v7_20 rfl rfl rfl rfl rfl (Ee1.deep (by decide)) ?_
            refine mz_go 6 (c' := (12, [some (.ref 20), some (.int a), some (.int b), some (.int ve1), none, none, none, none], [.int b, .int (a + 1), .ref 20], m)) rfl ?_
            refine mz_doQ (R := mz_r7) (as := [.ref 20, .int (a + 1), .int b]) (rest := []) (r1 := some (.int ve2)) (m1 := m) mz_t7 mz_v7_20 rfl rfl rfl rfl rfl (Ee2.deep (by decide)) ?_
            refine mz_go 6 (c' := (22, [some (.ref 20), some (.int a), some (.int b), some (.int ve1), some (.int ve2), none, none, none], [.int (b + 1), .int a, .ref 20], m)) rfl ?_
            refine mz_doQ (R := mz_r7) (as := [.ref 20, .int a, .int (b + 1)]) (rest := []) (r1 := some (.int ve3)) (m1 := m) mz_t7 mz_v7_20 rfl rfl rfl rfl rfl (Ee3.deep (by decide)) ?_
            refine mz_go 8 (c' := (34, [some (.ref 20), some (.int a), some (.int b), some (.int ve1), some (.int ve2), some (.int ve3), none, none], [.int (b + 1), .int (a + 1), .ref 20], m)) rfl ?_
            refine mz_doQ (R := mz_r7) (as := [.ref 20, .int (a + 1), .int (b + 1)]) (rest := []) (r1 := some (.int ve4)) (m1 := m) mz_t7 mz_v7_20 rfl rfl rfl rfl rfl (Ee4.deep (by decide)) ?_
            refine mz_go 7 (c' := (if ve2 = ve1 then 54 else 50, [some (.ref 20), some (.int a), some (.int b), some (.int ve1), some (.int ve2), some (.int ve3), some (.int ve4), some (.int 1)], [.int 1], m)) rfl ?_
            refine mz_ifF q1 ?_
            refine mz_go 8 (c' := (if ve3 = ve1 then 77 else 66, [some (.ref 20), some (.int a), some (.int b), some (.int ve1), some (.int ve2), some (.int ve3), some (.int ve4), some (.int 2)], [.int 2], m)) rfl ?_
            refine mz_ifF q13 ?_
            refine mz_go 3 (c' := (if ve3 = ve2 then 77 else 73, [some (.ref 20), some (.int a), some (.int b), some (.int ve1), some (.int ve2), some (.int ve3), some (.int ve4), some (.int 2)], [.int 2], m)) rfl ?_
            refine mz_ifT q17 ?_
            refine mz_go 7 (c' := (if ve4 = ve1 then 107 else 89, [some (.ref 20), some (.int a), some (.int b), some (.int ve1), some (.int ve2), some (.int ve3), some (.int ve4), some (.int 2)], [.int 2], m)) rfl ?_
            refine mz_ifF q18 ?_
            refine mz_go 3 (c' := (if ve4 = ve2 then 107 else 96, [some (.ref 20), some (.int a), some (.int b), some (.int ve1), some (.int ve2), some (.int ve3), some (.int ve4), some (.int 2)], [.int 2], m)) rfl ?_
            refine mz_ifT q19 ?_
            refine mz_go 4 (c' := (113, [some (.ref 20), some (.int a), some (.int b), some (.int ve1), some (.int ve2), some (.int ve3), some (.int ve4), some (.int 2)], [.int 2], m)) rfl ?_
            exact mz_ret rfl
          · by_cases q20 : ve4 = ve3
            · refine ⟨2, ⟨?_, rfl⟩⟩
              refine mz_go 3 (c' := (3, [some (.ref 20), some (.int a), some (.int b), none, none, none, none, none], [.int b, .int a, .ref 20], m)) rfl ?_
              refine mz_doQ (R := mz_r7) (as := [.ref 20, .int a, .int b]) (rest := []) (r1 := some (.int ve1)) (m1 := m) mz_t7 mz_v7_20 rfl rfl rfl rfl rfl (Ee1.deep (by decide)) ?_
              refine mz_go 6 (c' := (12, [some (.ref 20), some (.int a), some (.int b), some (.int ve1), none, none, none, none], [.int b, .int (a + 1), .ref 20], m)) rfl ?_
              refine mz_doQ (R := mz_r7) (as := [.ref 20, .int (a + 1), .int b]) (rest := []) (r1 := some (.int ve2)) (m1 := m) mz_t7 mz_v7_20 rfl rfl rfl rfl rfl (Ee2.deep (by decide)) ?_
              refine mz_go 6 (c' := (22, [some (.ref 20), some (.int a), some (.int b), some (.int ve1), some (.int ve2), none, none, none], [.int (b + 1), .int a, .ref 20], m)) rfl ?_
              refine mz_doQ (R := mz_r7) (as := [.ref 20, .int a, .int (b + 1)]) (rest := []) (r1 := some (.int ve3)) (m1 := m) mz_t7 mz_v7_20 rfl rfl rfl rfl rfl (Ee3.deep (by decide)) ?_
              refine mz_go 8 (c' := (34, [some (.ref 20), some (.int a), some (.int b), some (.int ve1), some (.int ve2), some (.int ve3), none, none], [.int (b + 1), .int (a + 1), .ref 20], m)) rfl ?_
              refine mz_doQ (R := mz_r7) (as := [.ref 20, .int (a + 1), .int (b + 1)]) (rest := []) (r1 := some (.int ve4)) (m1 := m) mz_t7 mz_v7_20 rfl rfl rfl rfl rfl (Ee4.deep (by decide)) ?_
              refine mz_go 7 (c' := (if ve2 = ve1 then 54 else 50, [some (.ref 20), some (.int a), some (.int b), some (.int ve1), some (.int ve2), some (.int ve3), some (.int ve4), some (.int 1)], [.int 1], m)) rfl ?_
              refine mz_ifF q1 ?_
              refine mz_go 8 (c' := (if ve3 = ve1 then 77 else 66, [some (.ref 20), some (.int a), some (.int b), some (.int ve1), some (.int ve2), some (.int ve3), some (.int ve4), some (.int 2)], [.int 2], m)) rfl ?_
              refine mz_ifF q13 ?_
              refine mz_go 3 (c' := (if ve3 = ve2 then 77 else 73, [some (.ref 20), some (.int a), some (.int b), some (.int ve1), some (.int ve2), some (.int ve3), some (.int ve4), some (.int 2)], [.int 2], m)) rfl ?_
              refine mz_ifT q17 ?_
              refine mz_go 7 (c' := (if ve4 = ve1 then 107 else 89, [some (.ref 20), some (.int a), some (.int b), some (.int ve1), some (.int ve2), some (.int ve3), some (.int ve4), some (.int 2)], [.int 2], m)) rfl ?_
              refine mz_ifF q18 ?_
              refine mz_go 3 (c' := (if ve4 = ve2 then 107 else 96, [some (.ref 20), some (.int a), some (.int b), some (.int ve1), some (.int ve2), some (.int ve3), some (.int ve4), some (.int 2)], [.int 2], m)) rfl ?_
              refine mz_ifF q19 ?_
              refine mz_go 3 (c' := (if ve4 = ve3 then 107 else 103, [some (.ref 20), some (.int a), some (.int b), some (.int ve1), some (.int ve2), some (.int ve3), some (.int ve4), some (.int 2)], [.int 2], m)) rfl ?_
              refine mz_ifT q20 ?_
              refine mz_go 4 (c' := (113, [some (.ref 20), some (.int a), some (.int b), some (.int ve1), some (.int ve2), some (.int ve3), some (.int ve4), some (.int 2)], [.int 2], m)) rfl ?_
              exact mz_ret rfl
            · refine ⟨3, ⟨?_, rfl⟩⟩
              refine mz_go 3 (c' := (3, [some (.ref 20), some (.int a), some (.int b), none, none, none, none, none], [.int b, .int a, .ref 20], m)) rfl ?_
              refine mz_doQ (R := mz_r7) (as := [.ref 20, .int a, .int b]) (rest := []) (r1 := some (.int ve1)) (m1 := m) mz_t7 mz_v7_20 rfl rfl rfl rfl rfl (Ee1.deep (by decide)) ?_
              refine mz_go 6 (c' := (12, [some (.ref 20), some (.int a), some (.int b), some (.int ve1), none, none, none, none], [.int b, .int (a + 1), .ref 20], m)) rfl ?_
              refine mz_doQ (R := mz_r7) (as := [.ref 20, .int (a + 1), .int b]) (rest := []) (r1 := some (.int ve2)) (m1 := m) mz_t7 mz_v7_20 rfl rfl rfl rfl rfl (Ee2.deep (by decide)) ?_
              refine mz_go 6 (c' := (22, [some (.ref 20), some (.int a), some (.int b), some (.int ve1), some (.int ve2), none, none, none], [.int (b + 1), .int a, .ref 20], m)) rfl ?_
              refine mz_doQ (R := mz_r7) (as := [.ref 20, .int a, .int (b + 1)]) (rest := []) (r1 := some (.int ve3)) (m1 := m) mz_t7 mz_v7_20 rfl rfl rfl rfl rfl (Ee3.deep (by decide)) ?_
              refine mz_go 8 (c' := (34, [some (.ref 20), some (.int a), some (.int b), some (.int ve1), some (.int ve2), some (.int ve3), none, none], [.int (b + 1), .int (a + 1), .ref 20], m)) rfl ?_
              refine mz_doQ (R := mz_r7) (as := [.ref 20, .int (a + 1), .int (b + 1)]) (rest := []) (r1 := some (.int ve4)) (m1 := m) mz_t7 mz_v7_20 rfl rfl rfl rfl rfl (Ee4.deep (by decide)) ?_
              refine mz_go 7 (c' := (if ve2 = ve1 then 54 else 50, [some (.ref 20), some (.int a), some (.int b), some (.int ve1), some (.int ve2), some (.int ve3), some (.int ve4), some (.int 1)], [.int 1], m)) rfl ?_
              refine mz_ifF q1 ?_
              refine mz_go 8 (c' := (if ve3 = ve1 then 77 else 66, [some (.ref 20), some (.int a), some (.int b), some (.int ve1), some (.int ve2), some (.int ve3), some (.int ve4), some (.int 2)], [.int 2], m)) rfl ?_
              refine mz_ifF q13 ?_
              refine mz_go 3 (c' := (if ve3 = ve2 then 77 else 73, [some (.ref 20), some (.int a), some (.int b), some (.int ve1), some (.int ve2), some (.int ve3), some (.int ve4), some (.int 2)], [.int 2], m)) rfl ?_
              refine mz_ifT q17 ?_
              refine mz_go 7 (c' := (if ve4 = ve1 then 107 else 89, [some (.ref 20), some (.int a), some (.int b), some (.int ve1), some (.int ve2), some (.int ve3), some (.int ve4), some (.int 2)], [.int 2], m)) rfl ?_
              refine mz_ifF q18 ?_
              refine mz_go 3 (c' := (if ve4 = ve2 then 107 else 96, [some (.ref 20), some (.int a), some (.int b), some (.int ve1), some (.int ve2), some (.int ve3), some (.int ve4), some (.int 2)], [.int 2], m)) rfl ?_
              refine mz_ifF q19 ?_
              refine mz_go 3 (c' := (if ve4 = ve3 then 107 else 103, [some (.ref 20), some (.int a), some (.int b), some (.int ve1), some (.int ve2), some (.int ve3), some (.int ve4), some (.int 2)], [.int 2], m)) rfl ?_
              refine mz_ifF q20 ?_
              refine mz_go 5 (c' := (113, [some (.ref 20), some (.int a), some (.int b), some (.int ve1), some (.int ve2), some (.int ve3), some (.int ve4), some (.int 3)], [.int 3], m)) rfl ?_
              exact mz_ret rfl
      · by_cases q21 : ve4 = ve1
        · refine ⟨3, ⟨?_, rfl⟩⟩
          refine mz_go 3 (c' := (3, [some (.ref 20), some (.int a), some (.int b), none, none, none, none, none], [.int b, .int a, .ref 20], m)) rfl ?_
          refine mz_doQ (R := mz_r7) (as := [.ref 20, .int a, .int b]) (rest := []) (r1 := some (.int ve1)) (m1 := m) mz_t7 mz_v7_20 rfl rfl rfl rfl rfl (Ee1.deep (by decide)) ?_
          refine mz_go 6 (c' := (12, [some (.ref 20), some (.int a), some (.int b), some (.int ve1), none, none, none, none], [.int b, .int (a + 1), .ref 20], m)) rfl ?_
          refine mz_doQ (R := mz_r7) (as := [.ref 20, .int (a + 1), .int b]) (rest := []) (r1 := some (.int ve2)) (m1 := m) mz_t7 mz_v7_20 rfl rfl rfl rfl rfl (Ee2.deep (by decide)) ?_
          refine mz_go 6 (c' := (22, [some (.ref 20), some (.int a), some (.int b), some (.int ve1), some (.int ve2), none, none, none], [.int (b + 1), .int a, .ref 20], m)) rfl ?_
          refine mz_doQ (R := mz_r7) (as := [.ref 20, .int a, .int (b + 1)]) (rest := []) (r1 := some (.int ve3)) (m1 := m) mz_t7 mz_v7_20 rfl rfl rfl rfl rfl (Ee3.deep (by decide)) ?_
          refine mz_go 8 (c' := (34, [some (.ref 20), some (.int a), some (.int b), some (.int ve1), some (.int ve2), some (.int ve3), none, none], [.int (b + 1), .int (a + 1), .ref 20], m)) rfl ?_
          refine mz_doQ (R := mz_r7) (as := [.ref 20, .int (a + 1), .int (b + 1)]) (rest := []) (r1 := some (.int ve4)) (m1 := m) mz_t7 mz_v7_20 rfl rfl rfl rfl rfl (Ee4.deep (by decide)) ?_
          refine mz_go 7 (c' := (if ve2 = ve1 then 54 else 50, [some (.ref 20), some (.int a), some (.int b), some (.int ve1), some (.int ve2), some (.int ve3), some (.int ve4), some (.int 1)], [.int 1], m)) rfl ?_
          refine mz_ifF q1 ?_
          refine mz_go 8 (c' := (if ve3 = ve1 then 77 else 66, [some (.ref 20), some (.int a), some (.int b), some (.int ve1), some (.int ve2), some (.int ve3), some (.int ve4), some (.int 2)], [.int 2], m)) rfl ?_
          refine mz_ifF q13 ?_
          refine mz_go 3 (c' := (if ve3 = ve2 then 77 else 73, [some (.ref 20), some (.int a), some (.int b), some (.int ve1), some (.int ve2), some (.int ve3), some (.int ve4), some (.int 2)], [.int 2], m)) rfl ?_
          refine mz_ifF q17 ?_
          refine mz_go 8 (c' := (if ve4 = ve1 then 107 else 89, [some (.ref 20), some (.int a), some (.int b), some (.int ve1), some (.int ve2), some (.int ve3), some (.int ve4), some (.int 3)], [.int 3], m)) rfl ?_
          refine mz_ifT q21 ?_
          refine mz_go 4 (c' := (113, [some (.ref 20), some (.int a), some (.int b), some (.int ve1), some (.int ve2), some (.int ve3), some (.int ve4), some (.int 3)], [.int 3], m)) rfl ?_
          exact mz_ret rfl
        · by_cases q22 : ve4 = ve2
          · refine ⟨3, ⟨?_, rfl⟩⟩
            refine mz_go 3 (c' := (3, [some (.ref 20), some (.int a), some (.int b), none, none, none, none, none], [.int b, .int a, .ref 20], m)) rfl ?_
            refine mz_doQ (R := mz_r7) (as := [.ref 20, .int a, .int b]) (rest := []) (r1 := some (.int ve1)) (m1 := m) mz_t7 mz_v7_20 rfl rfl rfl rfl rfl (Ee1.deep (by decide)) ?_
            refine mz_go 6 (c' := (12, [some (.ref 20), some (.int a), some (.int b), some (.int ve1), none, none, none, none], [.int b, .int (a + 1), .ref 20], m)) rfl ?_
            refine mz_doQ (R := mz_r7) (as := [.ref 20, .int (a + 1), .int b]) (rest := []) (r1 := some (.int ve2)) (m1 := m) mz_t7 mz_v7_20 rfl rfl rfl rfl rfl (Ee2.deep (by decide)) ?_
            refine mz_go 6 (c' := (22, [some (.ref 20), some (.int a), some (.int b), some (.int ve1), some (.int ve2), none, none, none], [.int (b + 1), .int a, .ref 20], m)) rfl ?_
            refine mz_doQ (R := mz_r7) (as := [.ref 20, .int a, .int (b + 1)]) (rest := []) (r1 := some (.int ve3)) (m1 := m) mz_t7 mz_v7_20 rfl rfl rfl rfl rfl (Ee3.deep (by decide)) ?_
            refine mz_go 8 (c' := (34, [some (.ref 20), some (.int a), some (.int b), some (.int ve1), some (.int ve2), some (.int ve3), none, none], [.int (b + 1), .int (a + 1), .ref 20], m)) rfl ?_
            refine mz_doQ (R := mz_r7) (as := [.ref 20, .int (a + 1), .int (b + 1)]) (rest := []) (r1 := some (.int ve4)) (m1 := m) mz_t7 mz_v7_20 rfl rfl rfl rfl rfl (Ee4.deep (by decide)) ?_
            refine mz_go 7 (c' := (if ve2 = ve1 then 54 else 50, [some (.ref 20), some (.int a), some (.int b), some (.int ve1), some (.int ve2), some (.int ve3), some (.int ve4), some (.int 1)], [.int 1], m)) rfl ?_
            refine mz_ifF q1 ?_
            refine mz_go 8 (c' := (if ve3 = ve1 then 77 else 66, [some (.ref 20), some (.int a), some (.int b), some (.int ve1), some (.int ve2), some (.int ve3), some (.int ve4), some (.int 2)], [.int 2], m)) rfl ?_
            refine mz_ifF q13 ?_
            refine mz_go 3 (c' := (if ve3 = ve2 then 77 else 73, [some (.ref 20), some (.int a), some (.int b), some (.int ve1), some (.int ve2), some (.int ve3), some (.int ve4), some (.int 2)], [.int 2], m)) rfl ?_
            refine mz_ifF q17 ?_
            refine mz_go 8 (c' := (if ve4 = ve1 then 107 else 89, [some (.ref 20), some (.int a), some (.int b), some (.int ve1), some (.int ve2), some (.int ve3), some (.int ve4), some (.int 3)], [.int 3], m)) rfl ?_
            refine mz_ifF q21 ?_
            refine mz_go 3 (c' := (if ve4 = ve2 then 107 else 96, [some (.ref 20), some (.int a), some (.int b), some (.int ve1), some (.int ve2), some (.int ve3), some (.int ve4), some (.int 3)], [.int 3], m)) rfl ?_
            refine mz_ifT q22 ?_
            refine mz_go 4 (c' := (113, [some (.ref 20), some (.int a), some (.int b), some (.int ve1), some (.int ve2), some (.int ve3), some (.int ve4), some (.int 3)], [.int 3], m)) rfl ?_
            exact mz_ret rfl
          · by_cases q23 : ve4 = ve3
            · refine ⟨3, ⟨?_, rfl⟩⟩
              refine mz_go 3 (c' := (3, [some (.ref 20), some (.int a), some (.int b), none, none, none, none, none], [.int b, .int a, .ref 20], m)) rfl ?_
              refine mz_doQ (R := mz_r7) (as := [.ref 20, .int a, .int b]) (rest := []) (r1 := some (.int ve1)) (m1 := m) mz_t7 mz_v7_20 rfl rfl rfl rfl rfl (Ee1.deep (by decide)) ?_
              refine mz_go 6 (c' := (12, [some (.ref 20), some (.int a), some (.int b), some (.int ve1), none, none, none, none], [.int b, .int (a + 1), .ref 20], m)) rfl ?_
              refine mz_doQ (R := mz_r7) (as := [.ref 20, .int (a + 1), .int b]) (rest := []) (r1 := some (.int ve2)) (m1 := m) mz_t7 mz_v7_20 rfl rfl rfl rfl rfl (Ee2.deep (by decide)) ?_
              refine mz_go 6 (c' := (22, [some (.ref 20), some (.int a), some (.int b), some (.int ve1), some (.int ve2), none, none, none], [.int (b + 1), .int a, .ref 20], m)) rfl ?_
              refine mz_doQ (R := mz_r7) (as := [.ref 20, .int a, .int (b + 1)]) (rest := []) (r1 := some (.int ve3)) (m1 := m) mz_t7 mz_v7_20 rfl rfl rfl rfl rfl (Ee3.deep (by decide)) ?_
              refine mz_go 8 (c' := (34, [some (.ref 20), some (.int a), some (.int b), some (.int ve1), some (.int ve2), some (.int ve3), none, none], [.int (b + 1), .int (a + 1), .ref 20], m)) rfl ?_
              refine mz_doQ (R := mz_r7) (as := [.ref 20, .int (a + 1), .int (b + 1)]) (rest := []) (r1 := some (.int ve4)) (m1 := m) mz_t7 mz_v7_20 rfl rfl rfl rfl rfl (Ee4.deep (by decide)) ?_
              refine mz_go 7 (c' := (if ve2 = ve1 then 54 else 50, [some (.ref 20), some (.int a), some (.int b), some (.int ve1), some (.int ve2), some (.int ve3), some (.int ve4), some (.int 1)], [.int 1], m)) rfl ?_
              refine mz_ifF q1 ?_
              refine mz_go 8 (c' := (if ve3 = ve1 then 77 else 66, [some (.ref 20), some (.int a), some (.int b), some (.int ve1), some (.int ve2), some (.int ve3), some (.int ve4), some (.int 2)], [.int 2], m)) rfl ?_
              refine mz_ifF q13 ?_
              refine mz_go 3 (c' := (if ve3 = ve2 then 77 else 73, [some (.ref 20), some (.int a), some (.int b), some (.int ve1), some (.int ve2), some (.int ve3), some (.int ve4), some (.int 2)], [.int 2], m)) rfl ?_
              refine mz_ifF q17 ?_
              refine mz_go 8 (c' := (if ve4 = ve1 then 107 else 89, [some (.ref 20), some (.int a), some (.int b), some (.int ve1), some (.int ve2), some (.int ve3), some (.int ve4), some (.int 3)], [.int 3], m)) rfl ?_
              refine mz_ifF q21 ?_
              refine mz_go 3 (c' := (if ve4 = ve2 then 107 else 96, [some (.ref 20), some (.int a), some (.int b), some (.int ve1), some (.int ve2), some (.int ve3), some (.int ve4), some (.int 3)], [.int 3], m)) rfl ?_
              refine mz_ifF q22 ?_
              refine mz_go 3 (c' := (if ve4 = ve3 then 107 else 103, [some (.ref 20), some (.int a), some (.int b), some (.int ve1), some (.int ve2), some (.int ve3), some (.int ve4), some (.int 3)], [.int 3], m)) rfl ?_
              refine mz_ifT q23 ?_
              refine mz_go 4 (c' := (113, [some (.ref 20), some (.int a), some (.int b), some (.int ve1), some (.int ve2), some (.int ve3), some (.int ve4), some (.int 3)], [.int 3], m)) rfl ?_
              exact mz_ret rfl
            · refine ⟨4, ⟨?_, rfl⟩⟩
              refine mz_go 3 (c' := (3, [some (.ref 20), some (.int a), some (.int b), none, none, none, none, none], [.int b, .int a, .ref 20], m)) rfl ?_
              refine mz_doQ (R := mz_r7) (as := [.ref 20, .int a, .int b]) (rest := []) (r1 := some (.int ve1)) (m1 := m) mz_t7 mz_v7_20 rfl rfl rfl rfl rfl (Ee1.deep (by decide)) ?_
              refine mz_go 6 (c' := (12, [some (.ref 20), some (.int a), some (.int b), some (.int ve1), none, none, none, none], [.int b, .int (a + 1), .ref 20], m)) rfl ?_
              refine mz_doQ (R := mz_r7) (as := [.ref 20, .int (a + 1), .int b]) (rest := []) (r1 := some (.int ve2)) (m1 := m) mz_t7 mz_v7_20 rfl rfl rfl rfl rfl (Ee2.deep (by decide)) ?_
              refine mz_go 6 (c' := (22, [some (.ref 20), some (.int a), some (.int b), some (.int ve1), some (.int ve2), none, none, none], [.int (b + 1), .int a, .ref 20], m)) rfl ?_
              refine mz_doQ (R := mz_r7) (as := [.ref 20, .int a, .int (b + 1)]) (rest := []) (r1 := some (.int ve3)) (m1 := m) mz_t7 mz_v7_20 rfl rfl rfl rfl rfl (Ee3.deep (by decide)) ?_
              refine mz_go 8 (c' := (34, [some (.ref 20), some (.int a), some (.int b), some (.int ve1), some (.int ve2), some (.int ve3), none, none], [.int (b + 1), .int (a + 1), .ref 20], m)) rfl ?_
              refine mz_doQ (R := mz_r7) (as := [.ref 20, .int (a + 1), .int (b + 1)]) (rest := []) (r1 := some (.int ve4)) (m1 := m) mz_t7 mz_v7_20 rfl rfl rfl rfl rfl (Ee4.deep (by decide)) ?_
              refine mz_go 7 (c' := (if ve2 = ve1 then 54 else 50, [some (.ref 20), some (.int a), some (.int b), some (.int ve1), some (.int ve2), some (.int ve3), some (.int ve4), some (.int 1)], [.int 1], m)) rfl ?_
              refine mz_ifF q1 ?_
              refine mz_go 8 (c' := (if ve3 = ve1 then 77 else 66, [some (.ref 20), some (.int a), some (.int b), some (.int ve1), some (.int ve2), some (.int ve3), some (.int ve4), some (.int 2)], [.int 2], m)) rfl ?_
              refine mz_ifF q13 ?_
              refine mz_go 3 (c' := (if ve3 = ve2 then 77 else 73, [some (.ref 20), some (.int a), some (.int b), some (.int ve1), some (.int ve2), some (.int ve3), some (.int ve4), some (.int 2)], [.int 2], m)) rfl ?_
              refine mz_ifF q17 ?_
              refine mz_go 8 (c' := (if ve4 = ve1 then 107 else 89, [some (.ref 20), some (.int a), some (.int b), some (.int ve1), some (.int ve2), some (.int ve3), some (.int ve4), some (.int 3)], [.int 3], m)) rfl ?_
              refine mz_ifF q21 ?_
              refine mz_go 3 (c' := (if ve4 = ve2 then 107 else 96, [some (.ref 20), some (.int a), some (.int b), some (.int ve1), some (.int ve2), some (.int ve3), some (.int ve4), some (.int 3)], [.int 3], m)) rfl ?_
              refine mz_ifF q22 ?_
              refine mz_go 3 (c' := (if ve4 = ve3 then 107 else 103, [some (.ref 20), some (.int a), some (.int b), some (.int ve1), some (.int ve2), some (.int ve3), some (.int ve4), some (.int 3)], [.int 3], m)) rfl ?_
              refine mz_ifF q23 ?_
              refine mz_go 5 (c' := (113, [some (.ref 20), some (.int a), some (.int b), some (.int ve1), some (.int ve2), some (.int ve3), some (.int ve4), some (.int 4)], [.int 4], m)) rfl ?_
              exact mz_ret rfl
set_option maxHeartbeats 4000000 in
set_option maxRecDepth 100000 in
theorem xc_thri {m : mz_M} {WW HH : Nat} (hWW : WW ≤ 6) (hHH : HH ≤ 6) (h202 : m 20 2 = nI WW) (h203 : m 20 3 = nI HH) (x2 : Int32) (HX : ∀ (x3 : Int32) (x1 : Int32), ∃ v, mz_Ex 16 mz_k15 (45, [some (.ref 20), some (.int x1), some (.int x2), some (.int x3)], [], m) (some (.int v), m)) : ∀ j k : Nat, k + j = WW → ∀ (x1 : Int32), ∃ v, mz_Ex 16 mz_k15 (16, [some (.ref 20), some (.int x1), some (.int x2), some (.int (nI k))], [], m) (some (.int v), m) := by
  intro j
  induction j with
  | zero =>
    intro k hk x1
    rw [show k = WW by omega]
    obtain ⟨vr, hr⟩ := HX (nI WW) x1
    refine ⟨vr, ?_⟩
    refine mz_go 5 (c' := (23, [some (.ref 20), some (.int x1), some (.int x2), some (.int (nI WW))], [.int (m 20 2), .int ((nI WW) + 1)], m)) rfl ?_
    rw [h202]
    refine mz_go 1 (c' := (if (nI WW) ≤ ((nI WW) + 1) then 45 else 26, [some (.ref 20), some (.int x1), some (.int x2), some (.int (nI WW))], [], m)) rfl ?_
    refine mz_ifT (show ((nI WW) ≤ ((nI WW) + 1)) from (sm_leN rfl (sm_addN rfl rfl) (show WW ≤ (WW + 1) by omega) (show (WW + 1) < 2 ^ 31 by omega))) ?_
    exact hr
  | succ j ih =>
    intro k hk x1
    by_cases q1 : WW ≤ (k + 1)
    · obtain ⟨vr, hr⟩ := HX (nI k) x1
      refine ⟨vr, ?_⟩
      refine mz_go 5 (c' := (23, [some (.ref 20), some (.int x1), some (.int x2), some (.int (nI k))], [.int (m 20 2), .int ((nI k) + 1)], m)) rfl ?_
      rw [h202]
      refine mz_go 1 (c' := (if (nI WW) ≤ ((nI k) + 1) then 45 else 26, [some (.ref 20), some (.int x1), some (.int x2), some (.int (nI k))], [], m)) rfl ?_
      refine mz_ifT (show ((nI WW) ≤ ((nI k) + 1)) from (sm_leN rfl (sm_addN rfl rfl) (show WW ≤ (k + 1) by omega) (show (k + 1) < 2 ^ 31 by omega))) ?_
      exact hr
    · obtain ⟨ve1, Ee1⟩ := xc_squ (m := m) hWW hHH h202 h203 (nI k) x2
      by_cases q2 : ve1 < 3
      · obtain ⟨vr, hr⟩ := ih (k + 1) (by omega) x1
        rw [nI_succ k] at hr
        refine ⟨vr, ?_⟩
        refine mz_go 5 (c' := (23, [some (.ref 20), some (.int x1), some (.int x2), some (.int (nI k))], [.int (m 20 2), .int ((nI k) + 1)], m)) rfl ?_
        rw [h202]
        refine mz_go 1 (c' := (if (nI WW) ≤ ((nI k) + 1) then 45 else 26, [some (.ref 20), some (.int x1), some (.int x2), some (.int (nI k))], [], m)) rfl ?_
        refine mz_ifF (show ¬ ((nI WW) ≤ ((nI k) + 1)) from (sm_nleN rfl (sm_addN rfl rfl) (show (k + 1) < WW by omega) (show WW < 2 ^ 31 by omega))) ?_
        refine mz_go 3 (c' := (29, [some (.ref 20), some (.int x1), some (.int x2), some (.int (nI k))], [.int x2, .int (nI k), .ref 20], m)) rfl ?_
        refine mz_doQ (R := mz_r16) (as := [.ref 20, .int (nI k), .int x2]) (rest := []) (r1 := some (.int ve1)) (m1 := m) mz_t16 mz_v16_20 rfl rfl rfl rfl rfl (Ee1.deep (by decide)) ?_
        refine mz_go 2 (c' := (if ve1 < 3 then 39 else 36, [some (.ref 20), some (.int x1), some (.int x2), some (.int (nI k))], [], m)) rfl ?_
        refine mz_ifT q2 ?_
        refine mz_go 2 (c' := (16, [some (.ref 20), some (.int x1), some (.int x2), some (.int ((nI k) + 1))], [], m)) rfl ?_
        exact hr
      · obtain ⟨vr, hr⟩ := ih (k + 1) (by omega) (x1 + 1)
        rw [nI_succ k] at hr
        refine ⟨vr, ?_⟩
        refine mz_go 5 (c' := (23, [some (.ref 20), some (.int x1), some (.int x2), some (.int (nI k))], [.int (m 20 2), .int ((nI k) + 1)], m)) rfl ?_
        rw [h202]
        refine mz_go 1 (c' := (if (nI WW) ≤ ((nI k) + 1) then 45 else 26, [some (.ref 20), some (.int x1), some (.int x2), some (.int (nI k))], [], m)) rfl ?_
        refine mz_ifF (show ¬ ((nI WW) ≤ ((nI k) + 1)) from (sm_nleN rfl (sm_addN rfl rfl) (show (k + 1) < WW by omega) (show WW < 2 ^ 31 by omega))) ?_
        refine mz_go 3 (c' := (29, [some (.ref 20), some (.int x1), some (.int x2), some (.int (nI k))], [.int x2, .int (nI k), .ref 20], m)) rfl ?_
        refine mz_doQ (R := mz_r16) (as := [.ref 20, .int (nI k), .int x2]) (rest := []) (r1 := some (.int ve1)) (m1 := m) mz_t16 mz_v16_20 rfl rfl rfl rfl rfl (Ee1.deep (by decide)) ?_
        refine mz_go 2 (c' := (if ve1 < 3 then 39 else 36, [some (.ref 20), some (.int x1), some (.int x2), some (.int (nI k))], [], m)) rfl ?_
        refine mz_ifF q2 ?_
        refine mz_go 3 (c' := (16, [some (.ref 20), some (.int (x1 + 1)), some (.int x2), some (.int ((nI k) + 1))], [], m)) rfl ?_
        exact hr
set_option maxHeartbeats 4000000 in
set_option maxRecDepth 100000 in
theorem xc_thrj {m : mz_M} {WW HH : Nat} (hWW : WW ≤ 6) (hHH : HH ≤ 6) (h202 : m 20 2 = nI WW) (h203 : m 20 3 = nI HH)  (HX : ∀ (x2 : Int32) (x1 : Int32) (x3 : Option Value), ∃ v, mz_Ex 16 mz_k15 (51, [some (.ref 20), some (.int x1), some (.int x2), x3], [], m) (some (.int v), m)) : ∀ j k : Nat, k + j = HH → ∀ (x1 : Int32) (x3 : Option Value), ∃ v, mz_Ex 16 mz_k15 (4, [some (.ref 20), some (.int x1), some (.int (nI k)), x3], [], m) (some (.int v), m) := by
  intro j
  induction j with
  | zero =>
    intro k hk x1 x3
    rw [show k = HH by omega]
    obtain ⟨vr, hr⟩ := HX (nI HH) x1 x3
    refine ⟨vr, ?_⟩
    refine mz_go 5 (c' := (11, [some (.ref 20), some (.int x1), some (.int (nI HH)), x3], [.int (m 20 3), .int ((nI HH) + 1)], m)) rfl ?_
    rw [h203]
    refine mz_go 1 (c' := (if (nI HH) ≤ ((nI HH) + 1) then 51 else 14, [some (.ref 20), some (.int x1), some (.int (nI HH)), x3], [], m)) rfl ?_
    refine mz_ifT (show ((nI HH) ≤ ((nI HH) + 1)) from (sm_leN rfl (sm_addN rfl rfl) (show HH ≤ (HH + 1) by omega) (show (HH + 1) < 2 ^ 31 by omega))) ?_
    exact hr
  | succ j ih =>
    intro k hk x1 x3
    by_cases q1 : HH ≤ (k + 1)
    · obtain ⟨vr, hr⟩ := HX (nI k) x1 x3
      refine ⟨vr, ?_⟩
      refine mz_go 5 (c' := (11, [some (.ref 20), some (.int x1), some (.int (nI k)), x3], [.int (m 20 3), .int ((nI k) + 1)], m)) rfl ?_
      rw [h203]
      refine mz_go 1 (c' := (if (nI HH) ≤ ((nI k) + 1) then 51 else 14, [some (.ref 20), some (.int x1), some (.int (nI k)), x3], [], m)) rfl ?_
      refine mz_ifT (show ((nI HH) ≤ ((nI k) + 1)) from (sm_leN rfl (sm_addN rfl rfl) (show HH ≤ (k + 1) by omega) (show (k + 1) < 2 ^ 31 by omega))) ?_
      exact hr
    · have HX1 : ∀ (x3_1 : Int32) (x1_1 : Int32), ∃ v, mz_Ex 16 mz_k15 (45, [some (.ref 20), some (.int x1_1), some (.int (nI k)), some (.int x3_1)], [], m) (some (.int v), m) := by
        intro x3_1 x1_1
        obtain ⟨vr, hr⟩ := ih (k + 1) (by omega) x1_1 (some (.int x3_1))
        rw [nI_succ k] at hr
        refine ⟨vr, ?_⟩
        refine mz_go 2 (c' := (4, [some (.ref 20), some (.int x1_1), some (.int ((nI k) + 1)), some (.int x3_1)], [], m)) rfl ?_
        exact hr
      obtain ⟨vr, hr⟩ := xc_thri hWW hHH h202 h203 (nI k) HX1 WW 0 (by omega) x1
      refine ⟨vr, ?_⟩
      refine mz_go 5 (c' := (11, [some (.ref 20), some (.int x1), some (.int (nI k)), x3], [.int (m 20 3), .int ((nI k) + 1)], m)) rfl ?_
      rw [h203]
      refine mz_go 1 (c' := (if (nI HH) ≤ ((nI k) + 1) then 51 else 14, [some (.ref 20), some (.int x1), some (.int (nI k)), x3], [], m)) rfl ?_
      refine mz_ifF (show ¬ ((nI HH) ≤ ((nI k) + 1)) from (sm_nleN rfl (sm_addN rfl rfl) (show (k + 1) < HH by omega) (show HH < 2 ^ 31 by omega))) ?_
      refine mz_go 2 (c' := (16, [some (.ref 20), some (.int x1), some (.int (nI k)), some (.int 0)], [], m)) rfl ?_
      exact hr
set_option maxHeartbeats 4000000 in
set_option maxRecDepth 100000 in
theorem xc_thr {m : mz_M} {WW HH : Nat} (hWW : WW ≤ 6) (hHH : HH ≤ 6) (h202 : m 20 2 = nI WW) (h203 : m 20 3 = nI HH) : ∃ v, mz_Me 16 mz_r15 [.ref 20] m (some (.int v)) m := by
  have HX2 : ∀ (x2_2 : Int32) (x1_2 : Int32) (x3_2 : Option Value), ∃ v, mz_Ex 16 mz_k15 (51, [some (.ref 20), some (.int x1_2), some (.int x2_2), x3_2], [], m) (some (.int v), m) := by
    intro x2_2 x1_2 x3_2
    refine ⟨x1_2, ?_⟩
    refine mz_go 1 (c' := (52, [some (.ref 20), some (.int x1_2), some (.int x2_2), x3_2], [.int x1_2], m)) rfl ?_
    exact mz_ret rfl
  obtain ⟨vr, hr⟩ := xc_thrj hWW hHH h202 h203  HX2 HH 0 (by omega) 0 none
  refine ⟨vr, ⟨?_, rfl⟩⟩
  refine mz_go 4 (c' := (4, [some (.ref 20), some (.int 0), some (.int 0), none], [], m)) rfl ?_
  exact hr
set_option maxHeartbeats 4000000 in
set_option maxRecDepth 100000 in
theorem xc_tuc_l {m : mz_M} {WW HH : Nat} (hWW : WW ≤ 6) (hHH : HH ≤ 6) (h202 : m 20 2 = nI WW) (h203 : m 20 3 = nI HH) (a : Int32) {q : Int32} (hq : q.toInt < 1000000)  (HX : ∀ (x5 : Int32) (x3 : Int32) (x4 : Int32) (x6 : Option Value), ∃ v, mz_Ex 10 mz_k19 (69, [some (.ref 20), some (.int a), some (.int q), some (.int x3), some (.int x4), some (.int x5), x6], [], m) (some (.int v), m)) : ∀ fu : Nat, ∀ x5 : Int32, (q).toInt - x5.toInt < (fu : Int) → ∀ (x3 : Int32) (x4 : Int32) (x6 : Option Value), ∃ v, mz_Ex 10 mz_k19 (40, [some (.ref 20), some (.int a), some (.int q), some (.int x3), some (.int x4), some (.int x5), x6], [], m) (some (.int v), m) := by
  intro fu
  induction fu with
  | zero =>
    intro x5 hms x3 x4 x6
    have hmz : q ≤ x5 := sm_mz2 hms
    obtain ⟨vr, hr⟩ := HX x5 x3 x4 x6
    refine ⟨vr, ?_⟩
    refine mz_go 3 (c' := (if q ≤ x5 then 69 else 46, [some (.ref 20), some (.int a), some (.int q), some (.int x3), some (.int x4), some (.int x5), x6], [], m)) rfl ?_
    refine mz_ifT hmz ?_
    exact hr
  | succ fu ih =>
    intro x5 hms x3 x4 x6
    by_cases q1 : q ≤ x5
    · obtain ⟨vr, hr⟩ := HX x5 x3 x4 x6
      refine ⟨vr, ?_⟩
      refine mz_go 3 (c' := (if q ≤ x5 then 69 else 46, [some (.ref 20), some (.int a), some (.int q), some (.int x3), some (.int x4), some (.int x5), x6], [], m)) rfl ?_
      refine mz_ifT q1 ?_
      exact hr
    · by_cases q2 : WW = 0
      · obtain ⟨vr, hr⟩ := ih (x5 + 1) (sm_me2 hq q1 hms) ((-1) - x4) x3 (some (.int x3))
        refine ⟨vr, ?_⟩
        refine mz_go 3 (c' := (if q ≤ x5 then 69 else 46, [some (.ref 20), some (.int a), some (.int q), some (.int x3), some (.int x4), some (.int x5), x6], [], m)) rfl ?_
        refine mz_ifF q1 ?_
        refine mz_go 4 (c' := (53, [some (.ref 20), some (.int a), some (.int q), some (.int x3), some (.int x4), some (.int x5), some (.int x3)], [.int (m 20 2)], m)) rfl ?_
        rw [h202]
        refine mz_go 2 (c' := (55, [some (.ref 20), some (.int a), some (.int q), some (.int x3), some (.int x4), some (.int x5), some (.int x3)], [.int ((nI WW) - 1)], m)) rfl ?_
        rw [show nI WW - 1 = -1 from by rw [show WW = 0 by omega]; decide]
        refine mz_go 7 (c' := (40, [some (.ref 20), some (.int a), some (.int q), some (.int ((-1) - x4)), some (.int x3), some (.int (x5 + 1)), some (.int x3)], [], m)) rfl ?_
        exact hr
      · obtain ⟨vr, hr⟩ := ih (x5 + 1) (sm_me2 hq q1 hms) (((nI WW) - 1) - x4) x3 (some (.int x3))
        refine ⟨vr, ?_⟩
        refine mz_go 3 (c' := (if q ≤ x5 then 69 else 46, [some (.ref 20), some (.int a), some (.int q), some (.int x3), some (.int x4), some (.int x5), x6], [], m)) rfl ?_
        refine mz_ifF q1 ?_
        refine mz_go 4 (c' := (53, [some (.ref 20), some (.int a), some (.int q), some (.int x3), some (.int x4), some (.int x5), some (.int x3)], [.int (m 20 2)], m)) rfl ?_
        rw [h202]
        refine mz_go 9 (c' := (40, [some (.ref 20), some (.int a), some (.int q), some (.int (((nI WW) - 1) - x4)), some (.int x3), some (.int (x5 + 1)), some (.int x3)], [], m)) rfl ?_
        exact hr
set_option maxHeartbeats 4000000 in
set_option maxRecDepth 100000 in
theorem xc_tuc {m : mz_M} {WW HH : Nat} (hWW : WW ≤ 6) (hHH : HH ≤ 6) (h202 : m 20 2 = nI WW) (h203 : m 20 3 = nI HH) (a : Int32) {q : Int32} (hq : q.toInt < 1000000) : ∃ v, mz_Me 10 mz_r19 [.ref 20, .int a, .int q] m (some (.int v)) m := by
  by_cases q1 : WW ≤ 0
  · have HX1 : ∀ (x5_1 : Int32) (x3_1 : Int32) (x4_1 : Int32) (x6_1 : Option Value), ∃ v, mz_Ex 10 mz_k19 (69, [some (.ref 20), some (.int a), some (.int q), some (.int x3_1), some (.int x4_1), some (.int x5_1), x6_1], [], m) (some (.int v), m) := by
      intro x5_1 x3_1 x4_1 x6_1
      obtain ⟨ve1, Ee1⟩ := xc_col (m := m) hWW hHH h202 h203 x3_1 x4_1
      refine ⟨ve1, ?_⟩
      refine mz_go 3 (c' := (73, [some (.ref 20), some (.int a), some (.int q), some (.int x3_1), some (.int x4_1), some (.int x5_1), x6_1], [.int x4_1, .int x3_1, .ref 20], m)) rfl ?_
      refine mz_doQ (R := mz_r7) (as := [.ref 20, .int x3_1, .int x4_1]) (rest := []) (r1 := some (.int ve1)) (m1 := m) mz_t7 mz_v7_20 rfl rfl rfl rfl rfl (Ee1.deep (by decide)) ?_
      exact mz_ret rfl
    obtain ⟨vr, hr⟩ := xc_tuc_l hWW hHH h202 h203 a hq  HX1 ((q : Int32).toInt - (0 : Int32).toInt + 1).toNat 0 (by omega) 0 0 none
    refine ⟨vr, ⟨?_, rfl⟩⟩
    refine mz_go 2 (c' := (4, [some (.ref 20), some (.int a), some (.int q), none, none, none, none], [.int (m 20 2)], m)) rfl ?_
    rw [h202]
    refine mz_go 1 (c' := (if (nI WW) ≤ 0 then 16 else 7, [some (.ref 20), some (.int a), some (.int q), none, none, none, none], [], m)) rfl ?_
    refine mz_ifT (show ((nI WW) ≤ 0) from (sm_leN rfl rfl (show WW ≤ 0 by omega) (show 0 < 2 ^ 31 by omega))) ?_
    refine mz_go 4 (c' := (22, [some (.ref 20), some (.int a), some (.int q), some (.int 0), none, none, none], [.int (m 20 2)], m)) rfl ?_
    rw [h202]
    refine mz_go 1 (c' := (if (nI WW) ≤ 0 then 34 else 25, [some (.ref 20), some (.int a), some (.int q), some (.int 0), none, none, none], [], m)) rfl ?_
    refine mz_ifT (show ((nI WW) ≤ 0) from (sm_leN rfl rfl (show WW ≤ 0 by omega) (show 0 < 2 ^ 31 by omega))) ?_
    refine mz_go 4 (c' := (40, [some (.ref 20), some (.int a), some (.int q), some (.int 0), some (.int 0), some (.int 0), none], [], m)) rfl ?_
    exact hr
  · have HX2 : ∀ (x5_2 : Int32) (x3_2 : Int32) (x4_2 : Int32) (x6_2 : Option Value), ∃ v, mz_Ex 10 mz_k19 (69, [some (.ref 20), some (.int a), some (.int q), some (.int x3_2), some (.int x4_2), some (.int x5_2), x6_2], [], m) (some (.int v), m) := by
      intro x5_2 x3_2 x4_2 x6_2
      obtain ⟨ve1, Ee1⟩ := xc_col (m := m) hWW hHH h202 h203 x3_2 x4_2
      refine ⟨ve1, ?_⟩
      refine mz_go 3 (c' := (73, [some (.ref 20), some (.int a), some (.int q), some (.int x3_2), some (.int x4_2), some (.int x5_2), x6_2], [.int x4_2, .int x3_2, .ref 20], m)) rfl ?_
      refine mz_doQ (R := mz_r7) (as := [.ref 20, .int x3_2, .int x4_2]) (rest := []) (r1 := some (.int ve1)) (m1 := m) mz_t7 mz_v7_20 rfl rfl rfl rfl rfl (Ee1.deep (by decide)) ?_
      exact mz_ret rfl
    obtain ⟨vr, hr⟩ := xc_tuc_l hWW hHH h202 h203 a hq  HX2 ((q : Int32).toInt - (0 : Int32).toInt + 1).toNat 0 (by omega) (a - a / (nI WW) * (nI WW)) (a / (nI WW)) none
    refine ⟨vr, ⟨?_, rfl⟩⟩
    refine mz_go 2 (c' := (4, [some (.ref 20), some (.int a), some (.int q), none, none, none, none], [.int (m 20 2)], m)) rfl ?_
    rw [h202]
    refine mz_go 1 (c' := (if (nI WW) ≤ 0 then 16 else 7, [some (.ref 20), some (.int a), some (.int q), none, none, none, none], [], m)) rfl ?_
    refine mz_ifF (show ¬ ((nI WW) ≤ 0) from (sm_nleN rfl rfl (show 0 < WW by omega) (show WW < 2 ^ 31 by omega))) ?_
    refine mz_go 3 (c' := (12, [some (.ref 20), some (.int a), some (.int q), none, none, none, none], [.int (m 20 2), .int a], m)) rfl ?_
    rw [h202]
    refine mz_div (c' := (13, [some (.ref 20), some (.int a), some (.int q), none, none, none, none], [.int (a - a / (nI WW) * (nI WW))], m)) rfl (sm_nz (k := WW) (by omega)) ?_
    refine mz_go 4 (c' := (22, [some (.ref 20), some (.int a), some (.int q), some (.int (a - a / (nI WW) * (nI WW))), none, none, none], [.int (m 20 2)], m)) rfl ?_
    rw [h202]
    refine mz_go 1 (c' := (if (nI WW) ≤ 0 then 34 else 25, [some (.ref 20), some (.int a), some (.int q), some (.int (a - a / (nI WW) * (nI WW))), none, none, none], [], m)) rfl ?_
    refine mz_ifF (show ¬ ((nI WW) ≤ 0) from (sm_nleN rfl rfl (show 0 < WW by omega) (show WW < 2 ^ 31 by omega))) ?_
    refine mz_go 3 (c' := (30, [some (.ref 20), some (.int a), some (.int q), some (.int (a - a / (nI WW) * (nI WW))), none, none, none], [.int (m 20 2), .int a], m)) rfl ?_
    rw [h202]
    refine mz_div (c' := (31, [some (.ref 20), some (.int a), some (.int q), some (.int (a - a / (nI WW) * (nI WW))), none, none, none], [.int (a / (nI WW))], m)) rfl (sm_nz (k := WW) (by omega)) ?_
    refine mz_go 4 (c' := (40, [some (.ref 20), some (.int a), some (.int q), some (.int (a - a / (nI WW) * (nI WW))), some (.int (a / (nI WW))), some (.int 0), none], [], m)) rfl ?_
    exact hr
set_option maxHeartbeats 4000000 in
set_option maxRecDepth 100000 in
theorem xc_alib {m : mz_M} {WW HH : Nat} (hWW : WW ≤ 6) (hHH : HH ≤ 6) (h202 : m 20 2 = nI WW) (h203 : m 20 3 = nI HH) {q : Int32} (hq : q.toInt < 1000000) (x2 : Int32) (hx2 : x2.toInt < 1000000) (HX : ∀ (x3 : Int32) (x4 : Option Value) (x5 : Option Value), ∃ v, mz_Ex 16 mz_k18 (76, [some (.ref 20), some (.int q), some (.int x2), some (.int x3), x4, x5], [], m) (some (.int v), m) ∧ (v = 0 ∨ v = 1)) : ∀ fu : Nat, ∀ x3 : Int32, (x2).toInt - x3.toInt < (fu : Int) → ∀ (x4 : Option Value) (x5 : Option Value), ∃ v, mz_Ex 16 mz_k18 (12, [some (.ref 20), some (.int q), some (.int x2), some (.int x3), x4, x5], [], m) (some (.int v), m) ∧ (v = 0 ∨ v = 1) := by
  intro fu
  induction fu with
  | zero =>
    intro x3 hms x4 x5
    have hmz : x2 ≤ x3 := sm_mz2 hms
    obtain ⟨vr, hr, hpo⟩ := HX x3 x4 x5
    refine ⟨vr, ?_, hpo⟩
    refine mz_go 3 (c' := (if x2 ≤ x3 then 76 else 17, [some (.ref 20), some (.int q), some (.int x2), some (.int x3), x4, x5], [], m)) rfl ?_
    refine mz_ifT hmz ?_
    exact hr
  | succ fu ih =>
    intro x3 hms x4 x5
    by_cases q1 : x2 ≤ x3
    · obtain ⟨vr, hr, hpo⟩ := HX x3 x4 x5
      refine ⟨vr, ?_, hpo⟩
      refine mz_go 3 (c' := (if x2 ≤ x3 then 76 else 17, [some (.ref 20), some (.int q), some (.int x2), some (.int x3), x4, x5], [], m)) rfl ?_
      refine mz_ifT q1 ?_
      exact hr
    · obtain ⟨ve1, Ee1⟩ := xc_tuc (m := m) hWW hHH h202 h203 x2 (q := 0) (by decide)
      obtain ⟨ve2, Ee2⟩ := xc_tuc (m := m) hWW hHH h202 h203 x3 (q := 0) (by decide)
      by_cases q2 : ve1 = ve2
      · obtain ⟨ve3, Ee3⟩ := xc_tuc (m := m) hWW hHH h202 h203 x2 (q := q) hq
        obtain ⟨ve4, Ee4⟩ := xc_tuc (m := m) hWW hHH h202 h203 x3 (q := q) hq
        by_cases q3 : ve3 = ve4
        · obtain ⟨vr, hr, hpo⟩ := ih (x3 + 1) (sm_me2 hx2 q1 hms) (some (.int 1)) (some (.int 1))
          refine ⟨vr, ?_, hpo⟩
          refine mz_go 3 (c' := (if x2 ≤ x3 then 76 else 17, [some (.ref 20), some (.int q), some (.int x2), some (.int x3), x4, x5], [], m)) rfl ?_
          refine mz_ifF q1 ?_
          refine mz_go 3 (c' := (20, [some (.ref 20), some (.int q), some (.int x2), some (.int x3), x4, x5], [.int 0, .int x2, .ref 20], m)) rfl ?_
          refine mz_doQ (R := mz_r19) (as := [.ref 20, .int x2, .int 0]) (rest := []) (r1 := some (.int ve1)) (m1 := m) mz_t19 mz_v19_20 rfl rfl rfl rfl rfl (Ee1.deep (by decide)) ?_
          refine mz_go 3 (c' := (26, [some (.ref 20), some (.int q), some (.int x2), some (.int x3), x4, x5], [.int 0, .int x3, .ref 20, .int ve1], m)) rfl ?_
          refine mz_doQ (R := mz_r19) (as := [.ref 20, .int x3, .int 0]) (rest := [.int ve1]) (r1 := some (.int ve2)) (m1 := m) mz_t19 mz_v19_20 rfl rfl rfl rfl rfl (Ee2.deep (by decide)) ?_
          refine mz_go 1 (c' := (if ve1 = ve2 then 32 else 36, [some (.ref 20), some (.int q), some (.int x2), some (.int x3), x4, x5], [], m)) rfl ?_
          refine mz_ifT q2 ?_
          refine mz_go 6 (c' := (42, [some (.ref 20), some (.int q), some (.int x2), some (.int x3), some (.int 1), x5], [.int q, .int x2, .ref 20], m)) rfl ?_
          refine mz_doQ (R := mz_r19) (as := [.ref 20, .int x2, .int q]) (rest := []) (r1 := some (.int ve3)) (m1 := m) mz_t19 mz_v19_20 rfl rfl rfl rfl rfl (Ee3.deep (by decide)) ?_
          refine mz_go 3 (c' := (48, [some (.ref 20), some (.int q), some (.int x2), some (.int x3), some (.int 1), x5], [.int q, .int x3, .ref 20, .int ve3], m)) rfl ?_
          refine mz_doQ (R := mz_r19) (as := [.ref 20, .int x3, .int q]) (rest := [.int ve3]) (r1 := some (.int ve4)) (m1 := m) mz_t19 mz_v19_20 rfl rfl rfl rfl rfl (Ee4.deep (by decide)) ?_
          refine mz_go 1 (c' := (if ve3 = ve4 then 54 else 58, [some (.ref 20), some (.int q), some (.int x2), some (.int x3), some (.int 1), x5], [], m)) rfl ?_
          refine mz_ifT q3 ?_
          refine mz_go 8 (c' := (12, [some (.ref 20), some (.int q), some (.int x2), some (.int (x3 + 1)), some (.int 1), some (.int 1)], [], m)) rfl ?_
          exact hr
        · refine ⟨0, ?_, Or.inl rfl⟩
          refine mz_go 3 (c' := (if x2 ≤ x3 then 76 else 17, [some (.ref 20), some (.int q), some (.int x2), some (.int x3), x4, x5], [], m)) rfl ?_
          refine mz_ifF q1 ?_
          refine mz_go 3 (c' := (20, [some (.ref 20), some (.int q), some (.int x2), some (.int x3), x4, x5], [.int 0, .int x2, .ref 20], m)) rfl ?_
          refine mz_doQ (R := mz_r19) (as := [.ref 20, .int x2, .int 0]) (rest := []) (r1 := some (.int ve1)) (m1 := m) mz_t19 mz_v19_20 rfl rfl rfl rfl rfl (Ee1.deep (by decide)) ?_
          refine mz_go 3 (c' := (26, [some (.ref 20), some (.int q), some (.int x2), some (.int x3), x4, x5], [.int 0, .int x3, .ref 20, .int ve1], m)) rfl ?_
          refine mz_doQ (R := mz_r19) (as := [.ref 20, .int x3, .int 0]) (rest := [.int ve1]) (r1 := some (.int ve2)) (m1 := m) mz_t19 mz_v19_20 rfl rfl rfl rfl rfl (Ee2.deep (by decide)) ?_
          refine mz_go 1 (c' := (if ve1 = ve2 then 32 else 36, [some (.ref 20), some (.int q), some (.int x2), some (.int x3), x4, x5], [], m)) rfl ?_
          refine mz_ifT q2 ?_
          refine mz_go 6 (c' := (42, [some (.ref 20), some (.int q), some (.int x2), some (.int x3), some (.int 1), x5], [.int q, .int x2, .ref 20], m)) rfl ?_
          refine mz_doQ (R := mz_r19) (as := [.ref 20, .int x2, .int q]) (rest := []) (r1 := some (.int ve3)) (m1 := m) mz_t19 mz_v19_20 rfl rfl rfl rfl rfl (Ee3.deep (by decide)) ?_
          refine mz_go 3 (c' := (48, [some (.ref 20), some (.int q), some (.int x2), some (.int x3), some (.int 1), x5], [.int q, .int x3, .ref 20, .int ve3], m)) rfl ?_
          refine mz_doQ (R := mz_r19) (as := [.ref 20, .int x3, .int q]) (rest := [.int ve3]) (r1 := some (.int ve4)) (m1 := m) mz_t19 mz_v19_20 rfl rfl rfl rfl rfl (Ee4.deep (by decide)) ?_
          refine mz_go 1 (c' := (if ve3 = ve4 then 54 else 58, [some (.ref 20), some (.int q), some (.int x2), some (.int x3), some (.int 1), x5], [], m)) rfl ?_
          refine mz_ifF q3 ?_
          refine mz_go 6 (c' := (69, [some (.ref 20), some (.int q), some (.int x2), some (.int x3), some (.int 1), some (.int 0)], [.int 0], m)) rfl ?_
          exact mz_ret rfl
      · obtain ⟨ve3, Ee3⟩ := xc_tuc (m := m) hWW hHH h202 h203 x2 (q := q) hq
        obtain ⟨ve4, Ee4⟩ := xc_tuc (m := m) hWW hHH h202 h203 x3 (q := q) hq
        by_cases q4 : ve3 = ve4
        · refine ⟨0, ?_, Or.inl rfl⟩
          refine mz_go 3 (c' := (if x2 ≤ x3 then 76 else 17, [some (.ref 20), some (.int q), some (.int x2), some (.int x3), x4, x5], [], m)) rfl ?_
          refine mz_ifF q1 ?_
          refine mz_go 3 (c' := (20, [some (.ref 20), some (.int q), some (.int x2), some (.int x3), x4, x5], [.int 0, .int x2, .ref 20], m)) rfl ?_
          refine mz_doQ (R := mz_r19) (as := [.ref 20, .int x2, .int 0]) (rest := []) (r1 := some (.int ve1)) (m1 := m) mz_t19 mz_v19_20 rfl rfl rfl rfl rfl (Ee1.deep (by decide)) ?_
          refine mz_go 3 (c' := (26, [some (.ref 20), some (.int q), some (.int x2), some (.int x3), x4, x5], [.int 0, .int x3, .ref 20, .int ve1], m)) rfl ?_
          refine mz_doQ (R := mz_r19) (as := [.ref 20, .int x3, .int 0]) (rest := [.int ve1]) (r1 := some (.int ve2)) (m1 := m) mz_t19 mz_v19_20 rfl rfl rfl rfl rfl (Ee2.deep (by decide)) ?_
          refine mz_go 1 (c' := (if ve1 = ve2 then 32 else 36, [some (.ref 20), some (.int q), some (.int x2), some (.int x3), x4, x5], [], m)) rfl ?_
          refine mz_ifF q2 ?_
          refine mz_go 5 (c' := (42, [some (.ref 20), some (.int q), some (.int x2), some (.int x3), some (.int 0), x5], [.int q, .int x2, .ref 20], m)) rfl ?_
          refine mz_doQ (R := mz_r19) (as := [.ref 20, .int x2, .int q]) (rest := []) (r1 := some (.int ve3)) (m1 := m) mz_t19 mz_v19_20 rfl rfl rfl rfl rfl (Ee3.deep (by decide)) ?_
          refine mz_go 3 (c' := (48, [some (.ref 20), some (.int q), some (.int x2), some (.int x3), some (.int 0), x5], [.int q, .int x3, .ref 20, .int ve3], m)) rfl ?_
          refine mz_doQ (R := mz_r19) (as := [.ref 20, .int x3, .int q]) (rest := [.int ve3]) (r1 := some (.int ve4)) (m1 := m) mz_t19 mz_v19_20 rfl rfl rfl rfl rfl (Ee4.deep (by decide)) ?_
          refine mz_go 1 (c' := (if ve3 = ve4 then 54 else 58, [some (.ref 20), some (.int q), some (.int x2), some (.int x3), some (.int 0), x5], [], m)) rfl ?_
          refine mz_ifT q4 ?_
          refine mz_go 7 (c' := (69, [some (.ref 20), some (.int q), some (.int x2), some (.int x3), some (.int 0), some (.int 1)], [.int 0], m)) rfl ?_
          exact mz_ret rfl
        · obtain ⟨vr, hr, hpo⟩ := ih (x3 + 1) (sm_me2 hx2 q1 hms) (some (.int 0)) (some (.int 0))
          refine ⟨vr, ?_, hpo⟩
          refine mz_go 3 (c' := (if x2 ≤ x3 then 76 else 17, [some (.ref 20), some (.int q), some (.int x2), some (.int x3), x4, x5], [], m)) rfl ?_
          refine mz_ifF q1 ?_
          refine mz_go 3 (c' := (20, [some (.ref 20), some (.int q), some (.int x2), some (.int x3), x4, x5], [.int 0, .int x2, .ref 20], m)) rfl ?_
          refine mz_doQ (R := mz_r19) (as := [.ref 20, .int x2, .int 0]) (rest := []) (r1 := some (.int ve1)) (m1 := m) mz_t19 mz_v19_20 rfl rfl rfl rfl rfl (Ee1.deep (by decide)) ?_
          refine mz_go 3 (c' := (26, [some (.ref 20), some (.int q), some (.int x2), some (.int x3), x4, x5], [.int 0, .int x3, .ref 20, .int ve1], m)) rfl ?_
          refine mz_doQ (R := mz_r19) (as := [.ref 20, .int x3, .int 0]) (rest := [.int ve1]) (r1 := some (.int ve2)) (m1 := m) mz_t19 mz_v19_20 rfl rfl rfl rfl rfl (Ee2.deep (by decide)) ?_
          refine mz_go 1 (c' := (if ve1 = ve2 then 32 else 36, [some (.ref 20), some (.int q), some (.int x2), some (.int x3), x4, x5], [], m)) rfl ?_
          refine mz_ifF q2 ?_
          refine mz_go 5 (c' := (42, [some (.ref 20), some (.int q), some (.int x2), some (.int x3), some (.int 0), x5], [.int q, .int x2, .ref 20], m)) rfl ?_
          refine mz_doQ (R := mz_r19) (as := [.ref 20, .int x2, .int q]) (rest := []) (r1 := some (.int ve3)) (m1 := m) mz_t19 mz_v19_20 rfl rfl rfl rfl rfl (Ee3.deep (by decide)) ?_
          refine mz_go 3 (c' := (48, [some (.ref 20), some (.int q), some (.int x2), some (.int x3), some (.int 0), x5], [.int q, .int x3, .ref 20, .int ve3], m)) rfl ?_
          refine mz_doQ (R := mz_r19) (as := [.ref 20, .int x3, .int q]) (rest := [.int ve3]) (r1 := some (.int ve4)) (m1 := m) mz_t19 mz_v19_20 rfl rfl rfl rfl rfl (Ee4.deep (by decide)) ?_
          refine mz_go 1 (c' := (if ve3 = ve4 then 54 else 58, [some (.ref 20), some (.int q), some (.int x2), some (.int x3), some (.int 0), x5], [], m)) rfl ?_
          refine mz_ifF q4 ?_
          refine mz_go 7 (c' := (12, [some (.ref 20), some (.int q), some (.int x2), some (.int (x3 + 1)), some (.int 0), some (.int 0)], [], m)) rfl ?_
          exact hr
set_option maxHeartbeats 4000000 in
set_option maxRecDepth 100000 in
theorem xc_alia {m : mz_M} {WW HH : Nat} (hWW : WW ≤ 6) (hHH : HH ≤ 6) (h202 : m 20 2 = nI WW) (h203 : m 20 3 = nI HH) {q : Int32} (hq : q.toInt < 1000000)  (HX : ∀ (x2 : Int32) (x3 : Option Value) (x4 : Option Value) (x5 : Option Value), ∃ v, mz_Ex 16 mz_k18 (82, [some (.ref 20), some (.int q), some (.int x2), x3, x4, x5], [], m) (some (.int v), m) ∧ (v = 0 ∨ v = 1)) : ∀ fu : Nat, ∀ x2 : Int32, ((nI WW) * (nI HH)).toInt - x2.toInt < (fu : Int) → ∀ (x3 : Option Value) (x4 : Option Value) (x5 : Option Value), ∃ v, mz_Ex 16 mz_k18 (2, [some (.ref 20), some (.int q), some (.int x2), x3, x4, x5], [], m) (some (.int v), m) ∧ (v = 0 ∨ v = 1) := by
  intro fu
  induction fu with
  | zero =>
    intro x2 hms x3 x4 x5
    have hmz : ((nI WW) * (nI HH)) ≤ x2 := sm_mz2 hms
    obtain ⟨vr, hr, hpo⟩ := HX x2 x3 x4 x5
    refine ⟨vr, ?_, hpo⟩
    refine mz_go 2 (c' := (4, [some (.ref 20), some (.int q), some (.int x2), x3, x4, x5], [.ref 20, .int x2], m)) rfl ?_
    refine mz_doQ (R := mz_r3) (as := [.ref 20]) (rest := [.int x2]) (r1 := some (.int ((nI WW) * (nI HH)))) (m1 := m) mz_t3 mz_v3_20 rfl rfl rfl rfl rfl ⟨?_, rfl⟩ ?_
    · refine mz_go 2 (c' := (4, [some (.ref 20)], [.int (m 20 2)], m)) rfl ?_
      rw [h202]
      refine mz_go 2 (c' := (8, [some (.ref 20)], [.int (m 20 3), .int (nI WW)], m)) rfl ?_
      rw [h203]
      refine mz_go 1 (c' := (9, [some (.ref 20)], [.int ((nI WW) * (nI HH))], m)) rfl ?_
      exact mz_ret rfl
    refine mz_go 1 (c' := (if ((nI WW) * (nI HH)) ≤ x2 then 82 else 10, [some (.ref 20), some (.int q), some (.int x2), x3, x4, x5], [], m)) rfl ?_
    refine mz_ifT hmz ?_
    exact hr
  | succ fu ih =>
    intro x2 hms x3 x4 x5
    by_cases q1 : ((nI WW) * (nI HH)) ≤ x2
    · obtain ⟨vr, hr, hpo⟩ := HX x2 x3 x4 x5
      refine ⟨vr, ?_, hpo⟩
      refine mz_go 2 (c' := (4, [some (.ref 20), some (.int q), some (.int x2), x3, x4, x5], [.ref 20, .int x2], m)) rfl ?_
      refine mz_doQ (R := mz_r3) (as := [.ref 20]) (rest := [.int x2]) (r1 := some (.int ((nI WW) * (nI HH)))) (m1 := m) mz_t3 mz_v3_20 rfl rfl rfl rfl rfl ⟨?_, rfl⟩ ?_
      · refine mz_go 2 (c' := (4, [some (.ref 20)], [.int (m 20 2)], m)) rfl ?_
        rw [h202]
        refine mz_go 2 (c' := (8, [some (.ref 20)], [.int (m 20 3), .int (nI WW)], m)) rfl ?_
        rw [h203]
        refine mz_go 1 (c' := (9, [some (.ref 20)], [.int ((nI WW) * (nI HH))], m)) rfl ?_
        exact mz_ret rfl
      refine mz_go 1 (c' := (if ((nI WW) * (nI HH)) ≤ x2 then 82 else 10, [some (.ref 20), some (.int q), some (.int x2), x3, x4, x5], [], m)) rfl ?_
      refine mz_ifT q1 ?_
      exact hr
    · have HX1 : ∀ (x3_1 : Int32) (x4_1 : Option Value) (x5_1 : Option Value), ∃ v, mz_Ex 16 mz_k18 (76, [some (.ref 20), some (.int q), some (.int x2), some (.int x3_1), x4_1, x5_1], [], m) (some (.int v), m) ∧ (v = 0 ∨ v = 1) := by
        intro x3_1 x4_1 x5_1
        obtain ⟨vr, hr, hpo⟩ := ih (x2 + 1) (sm_me2 (sm_hWH hWW hHH) q1 hms) (some (.int x3_1)) x4_1 x5_1
        refine ⟨vr, ?_, hpo⟩
        refine mz_go 2 (c' := (2, [some (.ref 20), some (.int q), some (.int (x2 + 1)), some (.int x3_1), x4_1, x5_1], [], m)) rfl ?_
        exact hr
      obtain ⟨vr, hr, hpo⟩ := xc_alib hWW hHH h202 h203 hq x2 (sm_ltM (sm_hWH hWW hHH) q1) HX1 ((x2 : Int32).toInt - (0 : Int32).toInt + 1).toNat 0 (by omega) x4 x5
      refine ⟨vr, ?_, hpo⟩
      refine mz_go 2 (c' := (4, [some (.ref 20), some (.int q), some (.int x2), x3, x4, x5], [.ref 20, .int x2], m)) rfl ?_
      refine mz_doQ (R := mz_r3) (as := [.ref 20]) (rest := [.int x2]) (r1 := some (.int ((nI WW) * (nI HH)))) (m1 := m) mz_t3 mz_v3_20 rfl rfl rfl rfl rfl ⟨?_, rfl⟩ ?_
      · refine mz_go 2 (c' := (4, [some (.ref 20)], [.int (m 20 2)], m)) rfl ?_
        rw [h202]
        refine mz_go 2 (c' := (8, [some (.ref 20)], [.int (m 20 3), .int (nI WW)], m)) rfl ?_
        rw [h203]
        refine mz_go 1 (c' := (9, [some (.ref 20)], [.int ((nI WW) * (nI HH))], m)) rfl ?_
        exact mz_ret rfl
      refine mz_go 1 (c' := (if ((nI WW) * (nI HH)) ≤ x2 then 82 else 10, [some (.ref 20), some (.int q), some (.int x2), x3, x4, x5], [], m)) rfl ?_
      refine mz_ifF q1 ?_
      refine mz_go 2 (c' := (12, [some (.ref 20), some (.int q), some (.int x2), some (.int 0), x4, x5], [], m)) rfl ?_
      exact hr
set_option maxHeartbeats 4000000 in
set_option maxRecDepth 100000 in
theorem xc_ali {m : mz_M} {WW HH : Nat} (hWW : WW ≤ 6) (hHH : HH ≤ 6) (h202 : m 20 2 = nI WW) (h203 : m 20 3 = nI HH) {q : Int32} (hq : q.toInt < 1000000) : ∃ v, mz_Me 16 mz_r18 [.ref 20, .int q] m (some (.int v)) m ∧ (v = 0 ∨ v = 1) := by
  have HX2 : ∀ (x2_2 : Int32) (x3_2 : Option Value) (x4_2 : Option Value) (x5_2 : Option Value), ∃ v, mz_Ex 16 mz_k18 (82, [some (.ref 20), some (.int q), some (.int x2_2), x3_2, x4_2, x5_2], [], m) (some (.int v), m) ∧ (v = 0 ∨ v = 1) := by
    intro x2_2 x3_2 x4_2 x5_2
    refine ⟨1, ?_, Or.inr rfl⟩
    refine mz_go 1 (c' := (83, [some (.ref 20), some (.int q), some (.int x2_2), x3_2, x4_2, x5_2], [.int 1], m)) rfl ?_
    exact mz_ret rfl
  obtain ⟨vr, hr, hpo⟩ := xc_alia hWW hHH h202 h203 hq  HX2 (((nI WW) * (nI HH) : Int32).toInt - (0 : Int32).toInt + 1).toNat 0 (by omega) none none none
  refine ⟨vr, ⟨?_, by rcases hpo with h | h <;> rw [h] <;> rfl⟩, hpo⟩
  refine mz_go 2 (c' := (2, [some (.ref 20), some (.int q), some (.int 0), none, none, none], [], m)) rfl ?_
  exact hr
