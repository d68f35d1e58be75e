set_option maxHeartbeats 4000000 in
set_option maxRecDepth 100000 in
theorem ct_txl0 {m : mz_M} {n D : Nat} (hn : n ≤ 60) (h11 : m 65 11 = nI n) {s0 : Nat → Int32} : ∀ j k : Nat, k + j = 2 * n → ∀ s : Nat → Int32, (∀ i, s i = if 171 ≤ i ∧ i < 171 + k then m 69 (i - 171) else s0 i) → ∃ s' : Nat → Int32, (∀ i, s' i = if 171 ≤ i ∧ i < 171 + (2 * n) then m 69 (i - 171) else s0 i) ∧ ∀ res, mz_Ex (D + 1) mz_k170 (137, [some (.ref 65), some (.int 0), some (.int 1), some (.int 170), some (.int (nI (2 * n)))], [], mz_set m 66 s') res → mz_Ex (D + 1) mz_k170 (102, [some (.ref 65), some (.int 0), some (.int 1), some (.int 170), some (.int (nI k))], [], mz_set m 66 s) res := by
  intro j
  induction j with
  | zero =>
    intro k hk s hs
    rw [show k = 2 * n by omega] at hs ⊢
    exact ⟨s, hs, fun res hr => by
      refine mz_go 4 (c' := (109, [some (.ref 65), some (.int 0), some (.int 1), some (.int 170), some (.int (nI (2 * n)))], [.int (m 65 11), .int 2, .int (nI (2 * n))], mz_set m 66 s)) rfl ?_
      rw [h11]
      refine mz_go 2 (c' := (if (2 * (nI n)) ≤ (nI (2 * n)) then 137 else 113, [some (.ref 65), some (.int 0), some (.int 1), some (.int 170), some (.int (nI (2 * n)))], [], mz_set m 66 s)) rfl ?_
      refine mz_ifT (show ((2 * (nI n)) ≤ (nI (2 * n))) from (sm_leN (sm_mulN rfl rfl) rfl (show (2 * n) ≤ (2 * n) by omega) (show (2 * n) < 2 ^ 31 by omega))) ?_
      exact hr⟩
  | succ j ih =>
    intro k hk s hs
    have hm : mz_up (mz_set m 66 s) 66 (171 + k) (m 69 k) = mz_set m 66 (sm_upd s (171 + k) (m 69 k)) := by rw [← sm_up_set]
    obtain ⟨s', h1, E⟩ := ih (k + 1) (by omega) (sm_upd s (171 + k) (m 69 k)) (fun i => by
      unfold sm_upd
      by_cases e : i = 171 + k
      · rw [if_pos e, if_pos (by omega), e, show 171 + k - 171 = k by omega]
      · rw [if_neg e, hs i]
        by_cases e2 : 171 ≤ i ∧ i < 171 + k
        · rw [if_pos e2, if_pos (by omega)]
        · rw [if_neg e2, if_neg (by omega)])
    refine ⟨s', h1, fun res hr0 => ?_⟩
    have hr := E res hr0
    rw [nI_succ k, ← hm] at hr
    refine mz_go 4 (c' := (109, [some (.ref 65), some (.int 0), some (.int 1), some (.int 170), some (.int (nI k))], [.int (m 65 11), .int 2, .int (nI k)], mz_set m 66 s)) rfl ?_
    rw [h11]
    refine mz_go 2 (c' := (if (2 * (nI n)) ≤ (nI k) then 137 else 113, [some (.ref 65), some (.int 0), some (.int 1), some (.int 170), some (.int (nI k))], [], mz_set m 66 s)) rfl ?_
    refine mz_ifF (show ¬ ((2 * (nI n)) ≤ (nI k)) from (sm_nleN (sm_mulN rfl rfl) rfl (show k < (2 * n) by omega) (show (2 * n) < 2 ^ 31 by omega))) ?_
    refine mz_go 10 (c' := (129, [some (.ref 65), some (.int 0), some (.int 1), some (.int 170), some (.int (nI k))], [.int (nI k), .ref 69, .int (171 + (nI k)), .ref 66], mz_set m 66 s)) rfl ?_
    refine mz_arr (c' := (130, [some (.ref 65), some (.int 0), some (.int 1), some (.int 170), some (.int (nI k))], [.int (m 69 ((nI k).toNatClampNeg)), .int (171 + (nI k)), .ref 66], mz_set m 66 s)) rfl (show mz_in (nI k) 124 = true from sm_inN rfl (show k < 124 by omega) (by decide)) ?_
    rw [show (nI k : Int32).toNatClampNeg = k from sm_clN rfl (show k < 2 ^ 31 by omega)]
    refine mz_arr (c' := (131, [some (.ref 65), some (.int 0), some (.int 1), some (.int 170), some (.int (nI k))], [], mz_up (mz_set m 66 s) 66 ((171 + (nI k)).toNatClampNeg) (m 69 k))) rfl (show mz_in (171 + (nI k)) 650 = true from sm_inN (sm_addN rfl rfl) (show (171 + k) < 650 by omega) (by decide)) ?_
    rw [show (171 + (nI k) : Int32).toNatClampNeg = (171 + k) from sm_clN (sm_addN rfl rfl) (show (171 + k) < 2 ^ 31 by omega)]
    refine mz_go 2 (c' := (102, [some (.ref 65), some (.int 0), some (.int 1), some (.int 170), some (.int ((nI k) + 1))], [], mz_up (mz_set m 66 s) 66 (171 + k) (m 69 k))) rfl ?_
    exact hr
set_option maxHeartbeats 4000000 in
set_option maxRecDepth 100000 in
theorem ct_txl1 {m : mz_M} {n D : Nat} (hn : n ≤ 60) (h11 : m 65 11 = nI n) {s0 : Nat → Int32} : ∀ j k : Nat, k + j = 2 * n → ∀ s : Nat → Int32, (∀ i, s i = if 296 ≤ i ∧ i < 296 + k then m 69 (i - 296) else s0 i) → ∃ s' : Nat → Int32, (∀ i, s' i = if 296 ≤ i ∧ i < 296 + (2 * n) then m 69 (i - 296) else s0 i) ∧ ∀ res, mz_Ex (D + 1) mz_k170 (137, [some (.ref 65), some (.int 1), some (.int 1), some (.int 295), some (.int (nI (2 * n)))], [], mz_set m 66 s') res → mz_Ex (D + 1) mz_k170 (102, [some (.ref 65), some (.int 1), some (.int 1), some (.int 295), some (.int (nI k))], [], mz_set m 66 s) res := by
  intro j
  induction j with
  | zero =>
    intro k hk s hs
    rw [show k = 2 * n by omega] at hs ⊢
    exact ⟨s, hs, fun res hr => by
      refine mz_go 4 (c' := (109, [some (.ref 65), some (.int 1), some (.int 1), some (.int 295), some (.int (nI (2 * n)))], [.int (m 65 11), .int 2, .int (nI (2 * n))], mz_set m 66 s)) rfl ?_
      rw [h11]
      refine mz_go 2 (c' := (if (2 * (nI n)) ≤ (nI (2 * n)) then 137 else 113, [some (.ref 65), some (.int 1), some (.int 1), some (.int 295), some (.int (nI (2 * n)))], [], mz_set m 66 s)) rfl ?_
      refine mz_ifT (show ((2 * (nI n)) ≤ (nI (2 * n))) from (sm_leN (sm_mulN rfl rfl) rfl (show (2 * n) ≤ (2 * n) by omega) (show (2 * n) < 2 ^ 31 by omega))) ?_
      exact hr⟩
  | succ j ih =>
    intro k hk s hs
    have hm : mz_up (mz_set m 66 s) 66 (296 + k) (m 69 k) = mz_set m 66 (sm_upd s (296 + k) (m 69 k)) := by rw [← sm_up_set]
    obtain ⟨s', h1, E⟩ := ih (k + 1) (by omega) (sm_upd s (296 + k) (m 69 k)) (fun i => by
      unfold sm_upd
      by_cases e : i = 296 + k
      · rw [if_pos e, if_pos (by omega), e, show 296 + k - 296 = k by omega]
      · rw [if_neg e, hs i]
        by_cases e2 : 296 ≤ i ∧ i < 296 + k
        · rw [if_pos e2, if_pos (by omega)]
        · rw [if_neg e2, if_neg (by omega)])
    refine ⟨s', h1, fun res hr0 => ?_⟩
    have hr := E res hr0
    rw [nI_succ k, ← hm] at hr
    refine mz_go 4 (c' := (109, [some (.ref 65), some (.int 1), some (.int 1), some (.int 295), some (.int (nI k))], [.int (m 65 11), .int 2, .int (nI k)], mz_set m 66 s)) rfl ?_
    rw [h11]
    refine mz_go 2 (c' := (if (2 * (nI n)) ≤ (nI k) then 137 else 113, [some (.ref 65), some (.int 1), some (.int 1), some (.int 295), some (.int (nI k))], [], mz_set m 66 s)) rfl ?_
    refine mz_ifF (show ¬ ((2 * (nI n)) ≤ (nI k)) from (sm_nleN (sm_mulN rfl rfl) rfl (show k < (2 * n) by omega) (show (2 * n) < 2 ^ 31 by omega))) ?_
    refine mz_go 10 (c' := (129, [some (.ref 65), some (.int 1), some (.int 1), some (.int 295), some (.int (nI k))], [.int (nI k), .ref 69, .int (296 + (nI k)), .ref 66], mz_set m 66 s)) rfl ?_
    refine mz_arr (c' := (130, [some (.ref 65), some (.int 1), some (.int 1), some (.int 295), some (.int (nI k))], [.int (m 69 ((nI k).toNatClampNeg)), .int (296 + (nI k)), .ref 66], mz_set m 66 s)) rfl (show mz_in (nI k) 124 = true from sm_inN rfl (show k < 124 by omega) (by decide)) ?_
    rw [show (nI k : Int32).toNatClampNeg = k from sm_clN rfl (show k < 2 ^ 31 by omega)]
    refine mz_arr (c' := (131, [some (.ref 65), some (.int 1), some (.int 1), some (.int 295), some (.int (nI k))], [], mz_up (mz_set m 66 s) 66 ((296 + (nI k)).toNatClampNeg) (m 69 k))) rfl (show mz_in (296 + (nI k)) 650 = true from sm_inN (sm_addN rfl rfl) (show (296 + k) < 650 by omega) (by decide)) ?_
    rw [show (296 + (nI k) : Int32).toNatClampNeg = (296 + k) from sm_clN (sm_addN rfl rfl) (show (296 + k) < 2 ^ 31 by omega)]
    refine mz_go 2 (c' := (102, [some (.ref 65), some (.int 1), some (.int 1), some (.int 295), some (.int ((nI k) + 1))], [], mz_up (mz_set m 66 s) 66 (296 + k) (m 69 k))) rfl ?_
    exact hr
set_option maxHeartbeats 4000000 in
set_option maxRecDepth 100000 in
theorem ct_txl2 {m : mz_M} {n D : Nat} (hn : n ≤ 60) (h11 : m 65 11 = nI n) {s0 : Nat → Int32} : ∀ j k : Nat, k + j = 2 * n → ∀ s : Nat → Int32, (∀ i, s i = if 421 ≤ i ∧ i < 421 + k then m 69 (i - 421) else s0 i) → ∃ s' : Nat → Int32, (∀ i, s' i = if 421 ≤ i ∧ i < 421 + (2 * n) then m 69 (i - 421) else s0 i) ∧ ∀ res, mz_Ex (D + 1) mz_k170 (137, [some (.ref 65), some (.int 2), some (.int 1), some (.int 420), some (.int (nI (2 * n)))], [], mz_set m 66 s') res → mz_Ex (D + 1) mz_k170 (102, [some (.ref 65), some (.int 2), some (.int 1), some (.int 420), some (.int (nI k))], [], mz_set m 66 s) res := by
  intro j
  induction j with
  | zero =>
    intro k hk s hs
    rw [show k = 2 * n by omega] at hs ⊢
    exact ⟨s, hs, fun res hr => by
      refine mz_go 4 (c' := (109, [some (.ref 65), some (.int 2), some (.int 1), some (.int 420), some (.int (nI (2 * n)))], [.int (m 65 11), .int 2, .int (nI (2 * n))], mz_set m 66 s)) rfl ?_
      rw [h11]
      refine mz_go 2 (c' := (if (2 * (nI n)) ≤ (nI (2 * n)) then 137 else 113, [some (.ref 65), some (.int 2), some (.int 1), some (.int 420), some (.int (nI (2 * n)))], [], mz_set m 66 s)) rfl ?_
      refine mz_ifT (show ((2 * (nI n)) ≤ (nI (2 * n))) from (sm_leN (sm_mulN rfl rfl) rfl (show (2 * n) ≤ (2 * n) by omega) (show (2 * n) < 2 ^ 31 by omega))) ?_
      exact hr⟩
  | succ j ih =>
    intro k hk s hs
    have hm : mz_up (mz_set m 66 s) 66 (421 + k) (m 69 k) = mz_set m 66 (sm_upd s (421 + k) (m 69 k)) := by rw [← sm_up_set]
    obtain ⟨s', h1, E⟩ := ih (k + 1) (by omega) (sm_upd s (421 + k) (m 69 k)) (fun i => by
      unfold sm_upd
      by_cases e : i = 421 + k
      · rw [if_pos e, if_pos (by omega), e, show 421 + k - 421 = k by omega]
      · rw [if_neg e, hs i]
        by_cases e2 : 421 ≤ i ∧ i < 421 + k
        · rw [if_pos e2, if_pos (by omega)]
        · rw [if_neg e2, if_neg (by omega)])
    refine ⟨s', h1, fun res hr0 => ?_⟩
    have hr := E res hr0
    rw [nI_succ k, ← hm] at hr
    refine mz_go 4 (c' := (109, [some (.ref 65), some (.int 2), some (.int 1), some (.int 420), some (.int (nI k))], [.int (m 65 11), .int 2, .int (nI k)], mz_set m 66 s)) rfl ?_
    rw [h11]
    refine mz_go 2 (c' := (if (2 * (nI n)) ≤ (nI k) then 137 else 113, [some (.ref 65), some (.int 2), some (.int 1), some (.int 420), some (.int (nI k))], [], mz_set m 66 s)) rfl ?_
    refine mz_ifF (show ¬ ((2 * (nI n)) ≤ (nI k)) from (sm_nleN (sm_mulN rfl rfl) rfl (show k < (2 * n) by omega) (show (2 * n) < 2 ^ 31 by omega))) ?_
    refine mz_go 10 (c' := (129, [some (.ref 65), some (.int 2), some (.int 1), some (.int 420), some (.int (nI k))], [.int (nI k), .ref 69, .int (421 + (nI k)), .ref 66], mz_set m 66 s)) rfl ?_
    refine mz_arr (c' := (130, [some (.ref 65), some (.int 2), some (.int 1), some (.int 420), some (.int (nI k))], [.int (m 69 ((nI k).toNatClampNeg)), .int (421 + (nI k)), .ref 66], mz_set m 66 s)) rfl (show mz_in (nI k) 124 = true from sm_inN rfl (show k < 124 by omega) (by decide)) ?_
    rw [show (nI k : Int32).toNatClampNeg = k from sm_clN rfl (show k < 2 ^ 31 by omega)]
    refine mz_arr (c' := (131, [some (.ref 65), some (.int 2), some (.int 1), some (.int 420), some (.int (nI k))], [], mz_up (mz_set m 66 s) 66 ((421 + (nI k)).toNatClampNeg) (m 69 k))) rfl (show mz_in (421 + (nI k)) 650 = true from sm_inN (sm_addN rfl rfl) (show (421 + k) < 650 by omega) (by decide)) ?_
    rw [show (421 + (nI k) : Int32).toNatClampNeg = (421 + k) from sm_clN (sm_addN rfl rfl) (show (421 + k) < 2 ^ 31 by omega)]
    refine mz_go 2 (c' := (102, [some (.ref 65), some (.int 2), some (.int 1), some (.int 420), some (.int ((nI k) + 1))], [], mz_up (mz_set m 66 s) 66 (421 + k) (m 69 k))) rfl ?_
    exact hr
set_option maxHeartbeats 4000000 in
set_option maxRecDepth 100000 in
theorem sc_text0 {n : Nat} (hn : n < 64) {w : mz_M} (hI : sm_I n w) : ∃ v1 v2 m1 m2, mz_Me 100 mz_r75 [.ref 0, .int 0] w (some (.int v1)) m1 ∧ mz_Me 100 mz_r170 [.ref 65, .int 0] m1 (some (.int v2)) m2 ∧ sm_I (n + 1) m2 ∧ v1 = v2 := by
  have hI2 := hI
  obtain ⟨hn0, ⟨-, ⟨hr80, hr5, hrr⟩, ⟨⟨TT, hTT, h81, h661⟩, htp⟩, ⟨⟨T0, hT0, hU0, hV0, -⟩, ⟨T1, hT1, hU1, hV1, -⟩, ⟨T2, hT2, hU2, hV2, -⟩⟩, ⟨hbx, hby, hbl⟩, ⟨⟨WW, HH, hWW, hHH, hWH, h202, h203, h6660, h6661⟩, h6662, h6663, h6664, hpc⟩, ⟨hth, h66160, hthr⟩, ⟨⟨AA, hAA, h111, h662⟩, h663, hwt⟩⟩, ⟨hsh, hsn⟩, ⟨hcb1, hcb2⟩, ⟨JJ, hJJ, h07, h652, hkept⟩⟩ := hI
  obtain ⟨N, hw, hr2, h660, -, -, h6615⟩ := sm_world hI2
  have hw2 := hw
  obtain ⟨hN, h4, hpb, -, -⟩ := hw2
  have hT60a := sm_T60 hV0
  have hT60b := sm_T60 hV1
  have hT60c := sm_T60 hV2
  obtain ⟨B1, hB1, e571⟩ := sm_Nof (by decide) hcb1
  obtain ⟨B2, hB2, e6519⟩ := sm_Nof (by decide) hcb2
  have hb : ∀ i, i < 60 → sm_N 255 (w 9 i) := fun i hi => (htp i hi).1
  have hG := tx_rd_G (u := 0) (T := TT) (b := w 9) (by decide) 36 0 0 0 (Nat.zero_le TT)
  have hmT : mz_up (mz_up (mz_up (mz_up w 53 2 2001) 53 3 0) 53 4 1) 54 2 0 = mz_set (mz_set (mz_set (mz_set w 53 ((mz_up (mz_up (mz_up (mz_up w 53 2 2001) 53 3 0) 53 4 1) 54 2 0) 53)) 54 ((mz_up (mz_up (mz_up (mz_up w 53 2 2001) 53 3 0) 53 4 1) 54 2 0) 54)) 55 (w 55)) 56 (w 56) := sm_of4 (fun i h1 h2 h3 h4 => by simp only [mz_up_ne h1, mz_up_ne h2])
  obtain ⟨R1, S1, g1, v1, E1, q1⟩ := (tc_all (u := 0) (T := TT) (b := w 9) (by decide) hTT hb 36).2 0 0 (by decide) (by decide) (by decide) w ((mz_up (mz_up (mz_up (mz_up w 53 2 2001) 53 3 0) 53 4 1) 54 2 0) 53) ((mz_up (mz_up (mz_up (mz_up w 53 2 2001) 53 3 0) 53 4 1) 54 2 0) 54) (w 55) (w 56) h81 (fun _ => rfl) 0 0 (Nat.le_refl 0) (Nat.zero_le TT) rfl rfl rfl rfl
  rw [← hmT] at E1
  obtain ⟨r, hr⟩ : ∃ r, tx_rd 0 TT (w 9) 36 0 0 0 = r := ⟨_, rfl⟩
  rw [hr] at q1 hG
  obtain ⟨a1, a2, a3, -, aa⟩ := q1
  obtain ⟨G1, G2, G3⟩ := hG
  by_cases ok : r.1 = true
  · have a4 : R1 4 = 1 := by rw [a2, ok]; rfl
    have a4b : sm_bI r.1 = 1 := by rw [ok]; rfl
    by_cases hT : r.2.1 = TT
    · obtain ⟨a5, a6, -⟩ := aa ok
      obtain ⟨G4, G6, G5⟩ := G3 ok
      rw [Nat.zero_add] at a5 G6
      have hmU : mz_up (mz_up (mz_up (mz_up (mz_up (mz_cp (mz_cp (mz_up (mz_set (mz_set (mz_set (mz_set w 53 R1) 54 S1) 55 g1) 56 v1) 8 1 0) 11 55 0 0 60) 12 56 0 0 60) 10 2 (nI r.2.2.length)) 65 12 0) 65 9 0) 65 10 0) 65 11 0 = mz_set (mz_set (mz_up (mz_cp (mz_cp (mz_up (mz_set (mz_set (mz_set (mz_set w 53 R1) 54 S1) 55 g1) 56 v1) 8 1 0) 11 55 0 0 60) 12 56 0 0 60) 10 2 (nI r.2.2.length)) 65 ((mz_up (mz_up (mz_up (mz_up (mz_up (mz_cp (mz_cp (mz_up (mz_set (mz_set (mz_set (mz_set w 53 R1) 54 S1) 55 g1) 56 v1) 8 1 0) 11 55 0 0 60) 12 56 0 0 60) 10 2 (nI r.2.2.length)) 65 12 0) 65 9 0) 65 10 0) 65 11 0) 65)) 69 (w 69) := sm_of2 (fun i h1 h2 => by simp only [mz_up_ne h1])
      obtain ⟨x1, st1, F1, p1⟩ := (tr_all (u := 0) (T := TT) (b := w 9) (by decide) hTT 36).2 0 0 (by decide) (by decide) (by decide) (mz_up (mz_cp (mz_cp (mz_up (mz_set (mz_set (mz_set (mz_set w 53 R1) 54 S1) 55 g1) 56 v1) 8 1 0) 11 55 0 0 60) 12 56 0 0 60) 10 2 (nI r.2.2.length)) ((mz_up (mz_up (mz_up (mz_up (mz_up (mz_cp (mz_cp (mz_up (mz_set (mz_set (mz_set (mz_set w 53 R1) 54 S1) 55 g1) 56 v1) 8 1 0) 11 55 0 0 60) 12 56 0 0 60) 10 2 (nI r.2.2.length)) 65 12 0) 65 9 0) 65 10 0) 65 11 0) 65) (w 69) h661 (fun i hi => (htp i hi).2) 0 0 (Nat.le_refl 0) (Nat.zero_le TT) rfl rfl rfl rfl
      rw [← hmU] at F1
      rw [hr] at p1 F1
      obtain ⟨b1, b2, bb⟩ := p1
      have x2 : x1 2 = w 65 2 := b2 2 (by decide) (by decide) (by decide)
      have x19 : x1 19 = w 65 19 := b2 19 (by decide) (by decide) (by decide)
      obtain ⟨b4, b5, b6, -⟩ := bb ok
      rw [Nat.zero_add] at b5
      obtain ⟨sX, hsX, EX⟩ := ct_txl0 (m := mz_up (mz_up (mz_set (mz_set (mz_up (mz_cp (mz_cp (mz_up (mz_set (mz_set (mz_set (mz_set w 53 R1) 54 S1) 55 g1) 56 v1) 8 1 0) 11 55 0 0 60) 12 56 0 0 60) 10 2 (nI r.2.2.length)) 65 x1) 69 st1) 66 1 0) 66 170 (nI r.2.2.length)) (n := r.2.2.length) (D := 99) (by omega) b5 (s0 := (mz_up (mz_up (mz_set (mz_set (mz_up (mz_cp (mz_cp (mz_up (mz_set (mz_set (mz_set (mz_set w 53 R1) 54 S1) 55 g1) 56 v1) 8 1 0) 11 55 0 0 60) 12 56 0 0 60) 10 2 (nI r.2.2.length)) 65 x1) 69 st1) 66 1 0) 66 170 (nI r.2.2.length)) 66) (2 * r.2.2.length) 0 (by omega) ((mz_up (mz_up (mz_set (mz_set (mz_up (mz_cp (mz_cp (mz_up (mz_set (mz_set (mz_set (mz_set w 53 R1) 54 S1) 55 g1) 56 v1) 8 1 0) 11 55 0 0 60) 12 56 0 0 60) 10 2 (nI r.2.2.length)) 65 x1) 69 st1) 66 1 0) 66 170 (nI r.2.2.length)) 66) (fun i => (if_neg (by omega)).symm)
      rw [sm_id] at EX
      refine ⟨1, 1, mz_up (mz_cp (mz_cp (mz_up (mz_set (mz_set (mz_set (mz_set w 53 R1) 54 S1) 55 g1) 56 v1) 8 1 0) 11 55 0 0 60) 12 56 0 0 60) 10 2 (nI r.2.2.length), mz_set (mz_up (mz_up (mz_set (mz_set (mz_up (mz_cp (mz_cp (mz_up (mz_set (mz_set (mz_set (mz_set w 53 R1) 54 S1) 55 g1) 56 v1) 8 1 0) 11 55 0 0 60) 12 56 0 0 60) 10 2 (nI r.2.2.length)) 65 x1) 69 st1) 66 1 0) 66 170 (nI r.2.2.length)) 66 sX, ⟨?_, rfl⟩, ⟨?_, rfl⟩, ?_, rfl⟩
      · refine mz_go 1 (c' := (1, [some (.ref 0), some (.int 0), none], [.int 0], w)) rfl ?_
        refine mz_doQ (R := mz_r119) (as := [.int 0]) (rest := []) (r1 := some (.int 1)) (m1 := w) mz_t119 mz_v119 rfl rfl rfl rfl rfl ⟨?_, rfl⟩ ?_
        · refine mz_go 3 (c' := (3, [some (.int 0)], [.int 2, .int 0, .int 0], w)) rfl ?_
          refine mz_doQ (R := mz_r121) (as := [.int 0, .int 0, .int 2]) (rest := []) (r1 := some (.int 1)) (m1 := w) mz_t121 mz_v121 rfl rfl rfl rfl rfl ((cs_in1 (m := w) (v := 0) (a := 0) (b := 2) (by decide) (by decide)).deep (by decide)) ?_
          exact mz_ret rfl
        refine mz_go 4 (c' := (18, [some (.ref 0), some (.int 0), none], [.int 0, .ref 53], w)) rfl ?_
        refine mz_doQ (R := mz_r120) (as := [.int 0]) (rest := [.ref 53]) (r1 := some (.ref 2001)) (m1 := w) mz_t120 mz_v120 rfl rfl rfl rfl rfl ⟨?_, rfl⟩ ?_
        · refine mz_go 4 (c' := (24, [some (.int 0)], [.ref 2001], w)) rfl ?_
          exact mz_ret rfl
        refine mz_doQ (R := mz_r28) (as := [.ref 53, .ref 2001]) (rest := []) (r1 := some (.int (-1))) (m1 := mz_set (mz_set (mz_set (mz_set w 53 R1) 54 S1) 55 g1) 56 v1) mz_t28 mz_v28_53 rfl rfl rfl rfl rfl ⟨?_, rfl⟩ ?_
        · refine mz_go 16 (c' := (26, [some (.ref 53), some (.ref 2001)], [.int 0, .int 0, .ref 53], mz_up (mz_up (mz_up (mz_up w 53 2 2001) 53 3 0) 53 4 1) 54 2 0)) rfl ?_
          refine mz_doQ (R := mz_r29) (as := [.ref 53, .int 0, .int 0]) (rest := []) (r1 := none) (m1 := mz_set (mz_set (mz_set (mz_set w 53 R1) 54 S1) 55 g1) 56 v1) mz_t29 mz_v29_53 rfl rfl rfl rfl rfl (E1.deep (by decide)) ?_
          refine mz_go 2 (c' := (33, [some (.ref 53), some (.ref 2001)], [.int (R1 4)], mz_set (mz_set (mz_set (mz_set w 53 R1) 54 S1) 55 g1) 56 v1)) rfl ?_
          rw [a4]
          refine mz_go 3 (c' := (40, [some (.ref 53), some (.ref 2001)], [.int (R1 3)], mz_set (mz_set (mz_set (mz_set w 53 R1) 54 S1) 55 g1) 56 v1)) rfl ?_
          rw [a1]
          refine mz_go 3 (c' := (47, [some (.ref 53), some (.ref 2001)], [.int (w 8 1), .int (nI r.2.1)], mz_set (mz_set (mz_set (mz_set w 53 R1) 54 S1) 55 g1) 56 v1)) rfl ?_
          rw [h81]
          refine mz_go 1 (c' := (if (nI r.2.1) = (nI TT) then 50 else 54, [some (.ref 53), some (.ref 2001)], [], mz_set (mz_set (mz_set (mz_set w 53 R1) 54 S1) 55 g1) 56 v1)) rfl ?_
          refine mz_ifT (show ((nI r.2.1) = (nI TT)) from (sm_eqN rfl rfl (show r.2.1 = TT by omega))) ?_
          refine mz_go 2 (c' := (58, [some (.ref 53), some (.ref 2001)], [.int (-1)], mz_set (mz_set (mz_set (mz_set w 53 R1) 54 S1) 55 g1) 56 v1)) rfl ?_
          exact mz_ret rfl
        refine mz_go 11 (c' := (50, [some (.ref 0), some (.int 0), some (.int (-1))], [.int 0, .ref 1], mz_up (mz_set (mz_set (mz_set (mz_set w 53 R1) 54 S1) 55 g1) 56 v1) 8 1 0)) rfl ?_
        refine mz_doQ (R := mz_r52) (as := [.ref 1, .int 0]) (rest := []) (r1 := some (.ref 10)) (m1 := mz_up (mz_set (mz_set (mz_set (mz_set w 53 R1) 54 S1) 55 g1) 56 v1) 8 1 0) mz_t52 mz_v52_1 rfl rfl rfl rfl rfl ⟨?_, rfl⟩ ?_
        · refine mz_go 5 (c' := (27, [some (.ref 1), some (.int 0)], [.ref 10], mz_up (mz_set (mz_set (mz_set (mz_set w 53 R1) 54 S1) 55 g1) 56 v1) 8 1 0)) rfl ?_
          exact mz_ret rfl
        refine mz_go 3 (c' := (60, [some (.ref 0), some (.int 0), some (.int (-1))], [.ref 54, .ref 10], mz_up (mz_set (mz_set (mz_set (mz_set w 53 R1) 54 S1) 55 g1) 56 v1) 8 1 0)) rfl ?_
        refine mz_doQ (R := mz_r59) (as := [.ref 10, .ref 54]) (rest := []) (r1 := none) (m1 := mz_up (mz_cp (mz_cp (mz_up (mz_set (mz_set (mz_set (mz_set w 53 R1) 54 S1) 55 g1) 56 v1) 8 1 0) 11 55 0 0 60) 12 56 0 0 60) 10 2 (nI r.2.2.length)) mz_t59 mz_v59_10 rfl rfl rfl rfl rfl ⟨?_, rfl⟩ ?_
        · refine mz_go 4 (c' := (8, [some (.ref 10), some (.ref 54)], [.ref 11, .ref 55], mz_up (mz_set (mz_set (mz_set (mz_set w 53 R1) 54 S1) 55 g1) 56 v1) 8 1 0)) rfl ?_
          refine mz_doQ (R := mz_r126) (as := [.ref 55, .ref 11]) (rest := []) (r1 := none) (m1 := mz_cp (mz_up (mz_set (mz_set (mz_set (mz_set w 53 R1) 54 S1) 55 g1) 56 v1) 8 1 0) 11 55 0 0 60) mz_t126 mz_v126_55 rfl rfl rfl rfl rfl ⟨?_, rfl⟩ ?_
          · refine mz_go 10 (c' := (14, [some (.ref 55), some (.ref 11)], [], mz_cp (mz_up (mz_set (mz_set (mz_set (mz_set w 53 R1) 54 S1) 55 g1) 56 v1) 8 1 0) 11 55 0 0 60)) rfl ?_
            exact mz_ret rfl
          refine mz_go 4 (c' := (19, [some (.ref 10), some (.ref 54)], [.ref 12, .ref 56], mz_cp (mz_up (mz_set (mz_set (mz_set (mz_set w 53 R1) 54 S1) 55 g1) 56 v1) 8 1 0) 11 55 0 0 60)) rfl ?_
          refine mz_doQ (R := mz_r126) (as := [.ref 56, .ref 12]) (rest := []) (r1 := none) (m1 := mz_cp (mz_cp (mz_up (mz_set (mz_set (mz_set (mz_set w 53 R1) 54 S1) 55 g1) 56 v1) 8 1 0) 11 55 0 0 60) 12 56 0 0 60) mz_t126 mz_v126_56 rfl rfl rfl rfl rfl ⟨?_, rfl⟩ ?_
          · refine mz_go 10 (c' := (14, [some (.ref 56), some (.ref 12)], [], mz_cp (mz_cp (mz_up (mz_set (mz_set (mz_set (mz_set w 53 R1) 54 S1) 55 g1) 56 v1) 8 1 0) 11 55 0 0 60) 12 56 0 0 60)) rfl ?_
            exact mz_ret rfl
          refine mz_go 3 (c' := (27, [some (.ref 10), some (.ref 54)], [.int (S1 2), .ref 10], mz_cp (mz_cp (mz_up (mz_set (mz_set (mz_set (mz_set w 53 R1) 54 S1) 55 g1) 56 v1) 8 1 0) 11 55 0 0 60) 12 56 0 0 60)) rfl ?_
          rw [a5]
          refine mz_go 1 (c' := (30, [some (.ref 10), some (.ref 54)], [], mz_up (mz_cp (mz_cp (mz_up (mz_set (mz_set (mz_set (mz_set w 53 R1) 54 S1) 55 g1) 56 v1) 8 1 0) 11 55 0 0 60) 12 56 0 0 60) 10 2 (nI r.2.2.length))) rfl ?_
          exact mz_ret rfl
        refine mz_go 1 (c' := (64, [some (.ref 0), some (.int 0), some (.int (-1))], [.int 1], mz_up (mz_cp (mz_cp (mz_up (mz_set (mz_set (mz_set (mz_set w 53 R1) 54 S1) 55 g1) 56 v1) 8 1 0) 11 55 0 0 60) 12 56 0 0 60) 10 2 (nI r.2.2.length))) rfl ?_
        exact mz_ret rfl
      · refine mz_go 3 (c' := (3, [some (.ref 65), some (.int 0), none, none, none], [.int 2, .int 0, .int 0], mz_up (mz_cp (mz_cp (mz_up (mz_set (mz_set (mz_set (mz_set w 53 R1) 54 S1) 55 g1) 56 v1) 8 1 0) 11 55 0 0 60) 12 56 0 0 60) 10 2 (nI r.2.2.length))) rfl ?_
        refine mz_doQ (R := mz_r128) (as := [.int 0, .int 0, .int 2]) (rest := []) (r1 := some (.int 1)) (m1 := mz_up (mz_cp (mz_cp (mz_up (mz_set (mz_set (mz_set (mz_set w 53 R1) 54 S1) 55 g1) 56 v1) 8 1 0) 11 55 0 0 60) 12 56 0 0 60) 10 2 (nI r.2.2.length)) mz_t128 mz_v128 rfl rfl rfl rfl rfl ((ct_in1 (m := mz_up (mz_cp (mz_cp (mz_up (mz_set (mz_set (mz_set (mz_set w 53 R1) 54 S1) 55 g1) 56 v1) 8 1 0) 11 55 0 0 60) 12 56 0 0 60) 10 2 (nI r.2.2.length)) (v := 0) (a := 0) (b := 2) (by decide) (by decide)).deep (by decide)) ?_
        refine mz_go 14 (c' := (36, [some (.ref 65), some (.int 0), none, none, none], [.ref 65], mz_up (mz_up (mz_up (mz_up (mz_up (mz_cp (mz_cp (mz_up (mz_set (mz_set (mz_set (mz_set w 53 R1) 54 S1) 55 g1) 56 v1) 8 1 0) 11 55 0 0 60) 12 56 0 0 60) 10 2 (nI r.2.2.length)) 65 12 0) 65 9 0) 65 10 0) 65 11 0)) rfl ?_
        refine mz_doQ (R := mz_r162) (as := [.ref 65]) (rest := []) (r1 := some (.int (sm_bI r.1))) (m1 := mz_set (mz_set (mz_up (mz_cp (mz_cp (mz_up (mz_set (mz_set (mz_set (mz_set w 53 R1) 54 S1) 55 g1) 56 v1) 8 1 0) 11 55 0 0 60) 12 56 0 0 60) 10 2 (nI r.2.2.length)) 65 x1) 69 st1) mz_t162 mz_v162_65 rfl rfl rfl rfl rfl (F1.deep (by decide)) ?_
        rw [a4b]
        refine mz_go 3 (c' := (46, [some (.ref 65), some (.int 0), none, none, none], [.int (x1 9)], mz_set (mz_set (mz_up (mz_cp (mz_cp (mz_up (mz_set (mz_set (mz_set (mz_set w 53 R1) 54 S1) 55 g1) 56 v1) 8 1 0) 11 55 0 0 60) 12 56 0 0 60) 10 2 (nI r.2.2.length)) 65 x1) 69 st1)) rfl ?_
        rw [b1]
        refine mz_go 4 (c' := (52, [some (.ref 65), some (.int 0), none, none, none], [.int (w 66 1), .int (nI r.2.1)], mz_set (mz_set (mz_up (mz_cp (mz_cp (mz_up (mz_set (mz_set (mz_set (mz_set w 53 R1) 54 S1) 55 g1) 56 v1) 8 1 0) 11 55 0 0 60) 12 56 0 0 60) 10 2 (nI r.2.2.length)) 65 x1) 69 st1)) rfl ?_
        rw [h661]
        refine mz_go 1 (c' := (if (nI r.2.1) = (nI TT) then 55 else 59, [some (.ref 65), some (.int 0), none, none, none], [], mz_set (mz_set (mz_up (mz_cp (mz_cp (mz_up (mz_set (mz_set (mz_set (mz_set w 53 R1) 54 S1) 55 g1) 56 v1) 8 1 0) 11 55 0 0 60) 12 56 0 0 60) 10 2 (nI r.2.2.length)) 65 x1) 69 st1)) rfl ?_
        refine mz_ifT (show ((nI r.2.1) = (nI TT)) from (sm_eqN rfl rfl (show r.2.1 = TT by omega))) ?_
        refine mz_go 21 (c' := (98, [some (.ref 65), some (.int 0), some (.int 1), some (.int 170), none], [.int (x1 11), .int 170, .ref 66], mz_up (mz_set (mz_set (mz_up (mz_cp (mz_cp (mz_up (mz_set (mz_set (mz_set (mz_set w 53 R1) 54 S1) 55 g1) 56 v1) 8 1 0) 11 55 0 0 60) 12 56 0 0 60) 10 2 (nI r.2.2.length)) 65 x1) 69 st1) 66 1 0)) rfl ?_
        rw [b5]
        refine mz_go 3 (c' := (102, [some (.ref 65), some (.int 0), some (.int 1), some (.int 170), some (.int 0)], [], mz_up (mz_up (mz_set (mz_set (mz_up (mz_cp (mz_cp (mz_up (mz_set (mz_set (mz_set (mz_set w 53 R1) 54 S1) 55 g1) 56 v1) 8 1 0) 11 55 0 0 60) 12 56 0 0 60) 10 2 (nI r.2.2.length)) 65 x1) 69 st1) 66 1 0) 66 170 (nI r.2.2.length))) rfl ?_
        refine EX _ ?_
        refine mz_go 1 (c' := (138, [some (.ref 65), some (.int 0), some (.int 1), some (.int 170), some (.int (nI (2 * r.2.2.length)))], [.int 1], mz_set (mz_up (mz_up (mz_set (mz_set (mz_up (mz_cp (mz_cp (mz_up (mz_set (mz_set (mz_set (mz_set w 53 R1) 54 S1) 55 g1) 56 v1) 8 1 0) 11 55 0 0 60) 12 56 0 0 60) 10 2 (nI r.2.2.length)) 65 x1) 69 st1) 66 1 0) 66 170 (nI r.2.2.length)) 66 sX)) rfl ?_
        exact mz_ret rfl
      · obtain ⟨-, ⟨d1, d2, d3, ⟨d4, d4b, d4c⟩, d5, d6, d7, d8⟩, da, db, dc⟩ := hI2
        have hs : ∀ i, i ≠ 1 ∧ (i < 170 ∨ 295 ≤ i) → sX i = w 66 i := fun i h => by
          rw [hsX i, if_neg (by omega)]
          rw [mz_up_eq, if_neg (by omega), mz_up_eq, if_neg (by omega), mz_set_ne (show (66 : Nat) ≠ 69 by decide), mz_set_ne (show (66 : Nat) ≠ 65 by decide), mz_up_ne (show (66 : Nat) ≠ 10 by decide), mz_cp_ne (show (66 : Nat) ≠ 12 by decide), mz_cp_ne (show (66 : Nat) ≠ 11 by decide), mz_up_ne (show (66 : Nat) ≠ 8 by decide), mz_set_ne (show (66 : Nat) ≠ 56 by decide), mz_set_ne (show (66 : Nat) ≠ 55 by decide), mz_set_ne (show (66 : Nat) ≠ 54 by decide), mz_set_ne (show (66 : Nat) ≠ 53 by decide)]
        have hbs : sX 170 = nI r.2.2.length := by
          rw [hsX 170, if_neg (by omega)]
          rfl
        have hs1 : sX 1 = 0 := by
          rw [hsX 1, if_neg (by omega)]
          rfl
        have hgA : ∀ i, i < 60 → (mz_set (mz_up (mz_up (mz_set (mz_set (mz_up (mz_cp (mz_cp (mz_up (mz_set (mz_set (mz_set (mz_set w 53 R1) 54 S1) 55 g1) 56 v1) 8 1 0) 11 55 0 0 60) 12 56 0 0 60) 10 2 (nI r.2.2.length)) 65 x1) 69 st1) 66 1 0) 66 170 (nI r.2.2.length)) 66 sX) 11 i = g1 i := fun i hi => sm_cpE (m := mz_up (mz_set (mz_set (mz_set (mz_set w 53 R1) 54 S1) 55 g1) 56 v1) 8 1 0) (i := 11) (j := 55) (n := 60) hi
        have hvA : ∀ i, i < 60 → (mz_set (mz_up (mz_up (mz_set (mz_set (mz_up (mz_cp (mz_cp (mz_up (mz_set (mz_set (mz_set (mz_set w 53 R1) 54 S1) 55 g1) 56 v1) 8 1 0) 11 55 0 0 60) 12 56 0 0 60) 10 2 (nI r.2.2.length)) 65 x1) 69 st1) 66 1 0) 66 170 (nI r.2.2.length)) 66 sX) 12 i = v1 i := fun i hi => sm_cpE (m := mz_cp (mz_up (mz_set (mz_set (mz_set (mz_set w 53 R1) 54 S1) 55 g1) 56 v1) 8 1 0) 11 55 0 0 60) (i := 12) (j := 56) (n := 60) hi
        have hin : tx_in r.2.2 0 ((mz_set (mz_up (mz_up (mz_set (mz_set (mz_up (mz_cp (mz_cp (mz_up (mz_set (mz_set (mz_set (mz_set w 53 R1) 54 S1) 55 g1) 56 v1) 8 1 0) 11 55 0 0 60) 12 56 0 0 60) 10 2 (nI r.2.2.length)) 65 x1) 69 st1) 66 1 0) 66 170 (nI r.2.2.length)) 66 sX) 11) ((mz_set (mz_up (mz_up (mz_set (mz_set (mz_up (mz_cp (mz_cp (mz_up (mz_set (mz_set (mz_set (mz_set w 53 R1) 54 S1) 55 g1) 56 v1) 8 1 0) 11 55 0 0 60) 12 56 0 0 60) 10 2 (nI r.2.2.length)) 65 x1) 69 st1) 66 1 0) 66 170 (nI r.2.2.length)) 66 sX) 12) := tx_in_keep a6 (fun i hi => ⟨hgA i (by omega), hvA i (by omega)⟩)
        have hwf : sm_wf r.2.2.length 3 ((mz_set (mz_up (mz_up (mz_set (mz_set (mz_up (mz_cp (mz_cp (mz_up (mz_set (mz_set (mz_set (mz_set w 53 R1) 54 S1) 55 g1) 56 v1) 8 1 0) 11 55 0 0 60) 12 56 0 0 60) 10 2 (nI r.2.2.length)) 65 x1) 69 st1) 66 1 0) 66 170 (nI r.2.2.length)) 66 sX) 11) ((mz_set (mz_up (mz_up (mz_set (mz_set (mz_up (mz_cp (mz_cp (mz_up (mz_set (mz_set (mz_set (mz_set w 53 R1) 54 S1) 55 g1) 56 v1) 8 1 0) 11 55 0 0 60) 12 56 0 0 60) 10 2 (nI r.2.2.length)) 65 x1) 69 st1) 66 1 0) 66 170 (nI r.2.2.length)) 66 sX) 12) := tx_wf (by omega) hin (G5 0)
        have hc4 : sm_c4 ((mz_set (mz_up (mz_up (mz_set (mz_set (mz_up (mz_cp (mz_cp (mz_up (mz_set (mz_set (mz_set (mz_set w 53 R1) 54 S1) 55 g1) 56 v1) 8 1 0) 11 55 0 0 60) 12 56 0 0 60) 10 2 (nI r.2.2.length)) 65 x1) 69 st1) 66 1 0) 66 170 (nI r.2.2.length)) 66 sX) 10) ((mz_set (mz_up (mz_up (mz_set (mz_set (mz_up (mz_cp (mz_cp (mz_up (mz_set (mz_set (mz_set (mz_set w 53 R1) 54 S1) 55 g1) 56 v1) 8 1 0) 11 55 0 0 60) 12 56 0 0 60) 10 2 (nI r.2.2.length)) 65 x1) 69 st1) 66 1 0) 66 170 (nI r.2.2.length)) 66 sX) 11) ((mz_set (mz_up (mz_up (mz_set (mz_set (mz_up (mz_cp (mz_cp (mz_up (mz_set (mz_set (mz_set (mz_set w 53 R1) 54 S1) 55 g1) 56 v1) 8 1 0) 11 55 0 0 60) 12 56 0 0 60) 10 2 (nI r.2.2.length)) 65 x1) 69 st1) 66 1 0) 66 170 (nI r.2.2.length)) 66 sX) 12) 3 170 sm_ch0 sX := by
          refine ⟨r.2.2.length, rfl, hbs, Or.inr hwf, fun k hk => ?_⟩
          have h1 := b6 k hk
          obtain ⟨h2, h3⟩ := hin k hk
          rw [Nat.zero_add] at h1 h2 h3
          rw [h2, h3, hsX (170 + 1 + 2 * k), if_pos (by omega), hsX (170 + 2 + 2 * k), if_pos (by omega), show 170 + 1 + 2 * k - 171 = 2 * k by omega, show 170 + 2 + 2 * k - 171 = 2 * k + 1 by omega]
          exact h1
        have hc3 : sm_c3 ((mz_set (mz_up (mz_up (mz_set (mz_set (mz_up (mz_cp (mz_cp (mz_up (mz_set (mz_set (mz_set (mz_set w 53 R1) 54 S1) 55 g1) 56 v1) 8 1 0) 11 55 0 0 60) 12 56 0 0 60) 10 2 (nI r.2.2.length)) 65 x1) 69 st1) 66 1 0) 66 170 (nI r.2.2.length)) 66 sX) 8) ((mz_set (mz_up (mz_up (mz_set (mz_set (mz_up (mz_cp (mz_cp (mz_up (mz_set (mz_set (mz_set (mz_set w 53 R1) 54 S1) 55 g1) 56 v1) 8 1 0) 11 55 0 0 60) 12 56 0 0 60) 10 2 (nI r.2.2.length)) 65 x1) 69 st1) 66 1 0) 66 170 (nI r.2.2.length)) 66 sX) 9) sX := ⟨⟨0, by decide, rfl, hs1⟩, fun i hi => ⟨(d3.2 i hi).1, (hs (550 + i) (by omega)).trans (d3.2 i hi).2⟩⟩
        exact ⟨hn, ⟨sm_k1 (hs 0 (by omega)) (fun i h1 h2 => hs i (by omega)) d1, sm_k2 (fun i h1 h2 => hs i (by omega)) d2, hc3, ⟨hc4, sm_k4 (fun i h1 h2 => hs i (by omega)) d4b, sm_k4 (fun i h1 h2 => hs i (by omega)) d4c⟩, sm_k5 (fun i h1 h2 => hs i (by omega)) d5, sm_k6 (fun i h1 h2 => hs i (by omega)) d6, sm_k7 (fun i h1 h2 => hs i (by omega)) d7, sm_k8 (hs 2 (by omega)) (hs 3 (by omega)) (fun i h1 h2 => hs i (by omega)) d8⟩, da, (by rw [show (mz_set (mz_up (mz_up (mz_set (mz_set (mz_up (mz_cp (mz_cp (mz_up (mz_set (mz_set (mz_set (mz_set w 53 R1) 54 S1) 55 g1) 56 v1) 8 1 0) 11 55 0 0 60) 12 56 0 0 60) 10 2 (nI r.2.2.length)) 65 x1) 69 st1) 66 1 0) 66 170 (nI r.2.2.length)) 66 sX) 65 19 = w 65 19 from x19]; exact db), (by rw [show (mz_set (mz_up (mz_up (mz_set (mz_set (mz_up (mz_cp (mz_cp (mz_up (mz_set (mz_set (mz_set (mz_set w 53 R1) 54 S1) 55 g1) 56 v1) 8 1 0) 11 55 0 0 60) 12 56 0 0 60) 10 2 (nI r.2.2.length)) 65 x1) 69 st1) 66 1 0) 66 170 (nI r.2.2.length)) 66 sX) 65 2 = w 65 2 from x2]; exact sm_cc_of (fun i h1 h2 => by simp only [mz_cp_ne (show i ≠ 11 by omega), mz_cp_ne (show i ≠ 12 by omega), mz_set_ne (show i ≠ 53 by omega), mz_set_ne (show i ≠ 54 by omega), mz_set_ne (show i ≠ 55 by omega), mz_set_ne (show i ≠ 56 by omega), mz_set_ne (show i ≠ 65 by omega), mz_set_ne (show i ≠ 66 by omega), mz_set_ne (show i ≠ 69 by omega), mz_up_ne (show i ≠ 10 by omega), mz_up_ne (show i ≠ 66 by omega), mz_up_ne (show i ≠ 8 by omega)]) dc)⟩
    · skip
      have hmU : mz_up (mz_up (mz_up (mz_up (mz_up (mz_set (mz_set (mz_set (mz_set w 53 R1) 54 S1) 55 g1) 56 v1) 8 1 0) 65 12 0) 65 9 0) 65 10 0) 65 11 0 = mz_set (mz_set (mz_up (mz_set (mz_set (mz_set (mz_set w 53 R1) 54 S1) 55 g1) 56 v1) 8 1 0) 65 ((mz_up (mz_up (mz_up (mz_up (mz_up (mz_set (mz_set (mz_set (mz_set w 53 R1) 54 S1) 55 g1) 56 v1) 8 1 0) 65 12 0) 65 9 0) 65 10 0) 65 11 0) 65)) 69 (w 69) := sm_of2 (fun i h1 h2 => by simp only [mz_up_ne h1])
      obtain ⟨x1, st1, F1, p1⟩ := (tr_all (u := 0) (T := TT) (b := w 9) (by decide) hTT 36).2 0 0 (by decide) (by decide) (by decide) (mz_up (mz_set (mz_set (mz_set (mz_set w 53 R1) 54 S1) 55 g1) 56 v1) 8 1 0) ((mz_up (mz_up (mz_up (mz_up (mz_up (mz_set (mz_set (mz_set (mz_set w 53 R1) 54 S1) 55 g1) 56 v1) 8 1 0) 65 12 0) 65 9 0) 65 10 0) 65 11 0) 65) (w 69) h661 (fun i hi => (htp i hi).2) 0 0 (Nat.le_refl 0) (Nat.zero_le TT) rfl rfl rfl rfl
      rw [← hmU] at F1
      rw [hr] at p1 F1
      obtain ⟨b1, b2, bb⟩ := p1
      have x2 : x1 2 = w 65 2 := b2 2 (by decide) (by decide) (by decide)
      have x19 : x1 19 = w 65 19 := b2 19 (by decide) (by decide) (by decide)
      refine ⟨(-10) - (nI r.2.1), (-10) - (nI r.2.1), mz_up (mz_set (mz_set (mz_set (mz_set w 53 R1) 54 S1) 55 g1) 56 v1) 8 1 0, mz_up (mz_set (mz_set (mz_up (mz_set (mz_set (mz_set (mz_set w 53 R1) 54 S1) 55 g1) 56 v1) 8 1 0) 65 x1) 69 st1) 66 1 0, ⟨?_, rfl⟩, ⟨?_, rfl⟩, ?_, rfl⟩
      · refine mz_go 1 (c' := (1, [some (.ref 0), some (.int 0), none], [.int 0], w)) rfl ?_
        refine mz_doQ (R := mz_r119) (as := [.int 0]) (rest := []) (r1 := some (.int 1)) (m1 := w) mz_t119 mz_v119 rfl rfl rfl rfl rfl ⟨?_, rfl⟩ ?_
        · refine mz_go 3 (c' := (3, [some (.int 0)], [.int 2, .int 0, .int 0], w)) rfl ?_
          refine mz_doQ (R := mz_r121) (as := [.int 0, .int 0, .int 2]) (rest := []) (r1 := some (.int 1)) (m1 := w) mz_t121 mz_v121 rfl rfl rfl rfl rfl ((cs_in1 (m := w) (v := 0) (a := 0) (b := 2) (by decide) (by decide)).deep (by decide)) ?_
          exact mz_ret rfl
        refine mz_go 4 (c' := (18, [some (.ref 0), some (.int 0), none], [.int 0, .ref 53], w)) rfl ?_
        refine mz_doQ (R := mz_r120) (as := [.int 0]) (rest := [.ref 53]) (r1 := some (.ref 2001)) (m1 := w) mz_t120 mz_v120 rfl rfl rfl rfl rfl ⟨?_, rfl⟩ ?_
        · refine mz_go 4 (c' := (24, [some (.int 0)], [.ref 2001], w)) rfl ?_
          exact mz_ret rfl
        refine mz_doQ (R := mz_r28) (as := [.ref 53, .ref 2001]) (rest := []) (r1 := some (.int (nI r.2.1))) (m1 := mz_set (mz_set (mz_set (mz_set w 53 R1) 54 S1) 55 g1) 56 v1) mz_t28 mz_v28_53 rfl rfl rfl rfl rfl ⟨?_, rfl⟩ ?_
        · refine mz_go 16 (c' := (26, [some (.ref 53), some (.ref 2001)], [.int 0, .int 0, .ref 53], mz_up (mz_up (mz_up (mz_up w 53 2 2001) 53 3 0) 53 4 1) 54 2 0)) rfl ?_
          refine mz_doQ (R := mz_r29) (as := [.ref 53, .int 0, .int 0]) (rest := []) (r1 := none) (m1 := mz_set (mz_set (mz_set (mz_set w 53 R1) 54 S1) 55 g1) 56 v1) mz_t29 mz_v29_53 rfl rfl rfl rfl rfl (E1.deep (by decide)) ?_
          refine mz_go 2 (c' := (33, [some (.ref 53), some (.ref 2001)], [.int (R1 4)], mz_set (mz_set (mz_set (mz_set w 53 R1) 54 S1) 55 g1) 56 v1)) rfl ?_
          rw [a4]
          refine mz_go 3 (c' := (40, [some (.ref 53), some (.ref 2001)], [.int (R1 3)], mz_set (mz_set (mz_set (mz_set w 53 R1) 54 S1) 55 g1) 56 v1)) rfl ?_
          rw [a1]
          refine mz_go 3 (c' := (47, [some (.ref 53), some (.ref 2001)], [.int (w 8 1), .int (nI r.2.1)], mz_set (mz_set (mz_set (mz_set w 53 R1) 54 S1) 55 g1) 56 v1)) rfl ?_
          rw [h81]
          refine mz_go 1 (c' := (if (nI r.2.1) = (nI TT) then 50 else 54, [some (.ref 53), some (.ref 2001)], [], mz_set (mz_set (mz_set (mz_set w 53 R1) 54 S1) 55 g1) 56 v1)) rfl ?_
          refine mz_ifF (show ¬ ((nI r.2.1) = (nI TT)) from (sm_neN rfl rfl (show r.2.1 ≠ TT by omega) (show r.2.1 < 2 ^ 31 by omega) (show TT < 2 ^ 31 by omega))) ?_
          refine mz_go 2 (c' := (58, [some (.ref 53), some (.ref 2001)], [.int (R1 3)], mz_set (mz_set (mz_set (mz_set w 53 R1) 54 S1) 55 g1) 56 v1)) rfl ?_
          rw [a1]
          exact mz_ret rfl
        refine mz_go 8 (c' := (if (nI r.2.1) < 0 then 45 else 40, [some (.ref 0), some (.int 0), some (.int (nI r.2.1))], [], mz_up (mz_set (mz_set (mz_set (mz_set w 53 R1) 54 S1) 55 g1) 56 v1) 8 1 0)) rfl ?_
        refine mz_ifF (show ¬ ((nI r.2.1) < 0) from (sm_nltN rfl rfl (show 0 ≤ r.2.1 by omega) (show r.2.1 < 2 ^ 31 by omega))) ?_
        refine mz_go 3 (c' := (44, [some (.ref 0), some (.int 0), some (.int (nI r.2.1))], [.int ((-10) - (nI r.2.1))], mz_up (mz_set (mz_set (mz_set (mz_set w 53 R1) 54 S1) 55 g1) 56 v1) 8 1 0)) rfl ?_
        exact mz_ret rfl
      · refine mz_go 3 (c' := (3, [some (.ref 65), some (.int 0), none, none, none], [.int 2, .int 0, .int 0], mz_up (mz_set (mz_set (mz_set (mz_set w 53 R1) 54 S1) 55 g1) 56 v1) 8 1 0)) rfl ?_
        refine mz_doQ (R := mz_r128) (as := [.int 0, .int 0, .int 2]) (rest := []) (r1 := some (.int 1)) (m1 := mz_up (mz_set (mz_set (mz_set (mz_set w 53 R1) 54 S1) 55 g1) 56 v1) 8 1 0) mz_t128 mz_v128 rfl rfl rfl rfl rfl ((ct_in1 (m := mz_up (mz_set (mz_set (mz_set (mz_set w 53 R1) 54 S1) 55 g1) 56 v1) 8 1 0) (v := 0) (a := 0) (b := 2) (by decide) (by decide)).deep (by decide)) ?_
        refine mz_go 14 (c' := (36, [some (.ref 65), some (.int 0), none, none, none], [.ref 65], mz_up (mz_up (mz_up (mz_up (mz_up (mz_set (mz_set (mz_set (mz_set w 53 R1) 54 S1) 55 g1) 56 v1) 8 1 0) 65 12 0) 65 9 0) 65 10 0) 65 11 0)) rfl ?_
        refine mz_doQ (R := mz_r162) (as := [.ref 65]) (rest := []) (r1 := some (.int (sm_bI r.1))) (m1 := mz_set (mz_set (mz_up (mz_set (mz_set (mz_set (mz_set w 53 R1) 54 S1) 55 g1) 56 v1) 8 1 0) 65 x1) 69 st1) mz_t162 mz_v162_65 rfl rfl rfl rfl rfl (F1.deep (by decide)) ?_
        rw [a4b]
        refine mz_go 3 (c' := (46, [some (.ref 65), some (.int 0), none, none, none], [.int (x1 9)], mz_set (mz_set (mz_up (mz_set (mz_set (mz_set (mz_set w 53 R1) 54 S1) 55 g1) 56 v1) 8 1 0) 65 x1) 69 st1)) rfl ?_
        rw [b1]
        refine mz_go 4 (c' := (52, [some (.ref 65), some (.int 0), none, none, none], [.int (w 66 1), .int (nI r.2.1)], mz_set (mz_set (mz_up (mz_set (mz_set (mz_set (mz_set w 53 R1) 54 S1) 55 g1) 56 v1) 8 1 0) 65 x1) 69 st1)) rfl ?_
        rw [h661]
        refine mz_go 1 (c' := (if (nI r.2.1) = (nI TT) then 55 else 59, [some (.ref 65), some (.int 0), none, none, none], [], mz_set (mz_set (mz_up (mz_set (mz_set (mz_set (mz_set w 53 R1) 54 S1) 55 g1) 56 v1) 8 1 0) 65 x1) 69 st1)) rfl ?_
        refine mz_ifF (show ¬ ((nI r.2.1) = (nI TT)) from (sm_neN rfl rfl (show r.2.1 ≠ TT by omega) (show r.2.1 < 2 ^ 31 by omega) (show TT < 2 ^ 31 by omega))) ?_
        refine mz_go 12 (c' := (78, [some (.ref 65), some (.int 0), some (.int 0), none, none], [.int (x1 9), .int (-10)], mz_up (mz_set (mz_set (mz_up (mz_set (mz_set (mz_set (mz_set w 53 R1) 54 S1) 55 g1) 56 v1) 8 1 0) 65 x1) 69 st1) 66 1 0)) rfl ?_
        rw [b1]
        refine mz_go 1 (c' := (79, [some (.ref 65), some (.int 0), some (.int 0), none, none], [.int ((-10) - (nI r.2.1))], mz_up (mz_set (mz_set (mz_up (mz_set (mz_set (mz_set (mz_set w 53 R1) 54 S1) 55 g1) 56 v1) 8 1 0) 65 x1) 69 st1) 66 1 0)) rfl ?_
        exact mz_ret rfl
      · obtain ⟨-, ⟨d1, d2, d3, ⟨d4, d4b, d4c⟩, d5, d6, d7, d8⟩, da, db, dc⟩ := hI2
        have hs : ∀ i, i ≠ 1 → (mz_up (mz_set (mz_set (mz_up (mz_set (mz_set (mz_set (mz_set w 53 R1) 54 S1) 55 g1) 56 v1) 8 1 0) 65 x1) 69 st1) 66 1 0) 66 i = w 66 i := fun i h => by
          rw [mz_up_eq, if_neg h, mz_set_ne (show (66 : Nat) ≠ 69 by decide), mz_set_ne (show (66 : Nat) ≠ 65 by decide), mz_up_ne (show (66 : Nat) ≠ 8 by decide), mz_set_ne (show (66 : Nat) ≠ 56 by decide), mz_set_ne (show (66 : Nat) ≠ 55 by decide), mz_set_ne (show (66 : Nat) ≠ 54 by decide), mz_set_ne (show (66 : Nat) ≠ 53 by decide)]
        have hs : ∀ i, i ≠ 1 ∧ i < 650 → (mz_up (mz_set (mz_set (mz_up (mz_set (mz_set (mz_set (mz_set w 53 R1) 54 S1) 55 g1) 56 v1) 8 1 0) 65 x1) 69 st1) 66 1 0) 66 i = w 66 i := fun i h => hs i h.1
        have hc3 : sm_c3 ((mz_up (mz_set (mz_set (mz_up (mz_set (mz_set (mz_set (mz_set w 53 R1) 54 S1) 55 g1) 56 v1) 8 1 0) 65 x1) 69 st1) 66 1 0) 8) ((mz_up (mz_set (mz_set (mz_up (mz_set (mz_set (mz_set (mz_set w 53 R1) 54 S1) 55 g1) 56 v1) 8 1 0) 65 x1) 69 st1) 66 1 0) 9) ((mz_up (mz_set (mz_set (mz_up (mz_set (mz_set (mz_set (mz_set w 53 R1) 54 S1) 55 g1) 56 v1) 8 1 0) 65 x1) 69 st1) 66 1 0) 66) := ⟨⟨0, by decide, rfl, rfl⟩, fun i hi => ⟨(d3.2 i hi).1, (hs (550 + i) (by omega)).trans (d3.2 i hi).2⟩⟩
        exact ⟨hn, ⟨sm_k1 (hs 0 (by omega)) (fun i h1 h2 => hs i (by omega)) d1, sm_k2 (fun i h1 h2 => hs i (by omega)) d2, hc3, ⟨sm_k4 (fun i h1 h2 => hs i (by omega)) d4, sm_k4 (fun i h1 h2 => hs i (by omega)) d4b, sm_k4 (fun i h1 h2 => hs i (by omega)) d4c⟩, sm_k5 (fun i h1 h2 => hs i (by omega)) d5, sm_k6 (fun i h1 h2 => hs i (by omega)) d6, sm_k7 (fun i h1 h2 => hs i (by omega)) d7, sm_k8 (hs 2 (by omega)) (hs 3 (by omega)) (fun i h1 h2 => hs i (by omega)) d8⟩, da, (by rw [show (mz_up (mz_set (mz_set (mz_up (mz_set (mz_set (mz_set (mz_set w 53 R1) 54 S1) 55 g1) 56 v1) 8 1 0) 65 x1) 69 st1) 66 1 0) 65 19 = w 65 19 from x19]; exact db), (by rw [show (mz_up (mz_set (mz_set (mz_up (mz_set (mz_set (mz_set (mz_set w 53 R1) 54 S1) 55 g1) 56 v1) 8 1 0) 65 x1) 69 st1) 66 1 0) 65 2 = w 65 2 from x2]; exact sm_cc_of (fun i h1 h2 => by simp only [mz_set_ne (show i ≠ 53 by omega), mz_set_ne (show i ≠ 54 by omega), mz_set_ne (show i ≠ 55 by omega), mz_set_ne (show i ≠ 56 by omega), mz_set_ne (show i ≠ 65 by omega), mz_set_ne (show i ≠ 69 by omega), mz_up_ne (show i ≠ 66 by omega), mz_up_ne (show i ≠ 8 by omega)]) dc)⟩
  · have a4 : R1 4 = 0 := by rw [a2, eq_false_of_ne_true ok]; rfl
    have a4b : sm_bI r.1 = 0 := by rw [eq_false_of_ne_true ok]; rfl
    have hmU : mz_up (mz_up (mz_up (mz_up (mz_up (mz_set (mz_set (mz_set (mz_set w 53 R1) 54 S1) 55 g1) 56 v1) 8 1 0) 65 12 0) 65 9 0) 65 10 0) 65 11 0 = mz_set (mz_set (mz_up (mz_set (mz_set (mz_set (mz_set w 53 R1) 54 S1) 55 g1) 56 v1) 8 1 0) 65 ((mz_up (mz_up (mz_up (mz_up (mz_up (mz_set (mz_set (mz_set (mz_set w 53 R1) 54 S1) 55 g1) 56 v1) 8 1 0) 65 12 0) 65 9 0) 65 10 0) 65 11 0) 65)) 69 (w 69) := sm_of2 (fun i h1 h2 => by simp only [mz_up_ne h1])
    obtain ⟨x1, st1, F1, p1⟩ := (tr_all (u := 0) (T := TT) (b := w 9) (by decide) hTT 36).2 0 0 (by decide) (by decide) (by decide) (mz_up (mz_set (mz_set (mz_set (mz_set w 53 R1) 54 S1) 55 g1) 56 v1) 8 1 0) ((mz_up (mz_up (mz_up (mz_up (mz_up (mz_set (mz_set (mz_set (mz_set w 53 R1) 54 S1) 55 g1) 56 v1) 8 1 0) 65 12 0) 65 9 0) 65 10 0) 65 11 0) 65) (w 69) h661 (fun i hi => (htp i hi).2) 0 0 (Nat.le_refl 0) (Nat.zero_le TT) rfl rfl rfl rfl
    rw [← hmU] at F1
    rw [hr] at p1 F1
    obtain ⟨b1, b2, bb⟩ := p1
    have x2 : x1 2 = w 65 2 := b2 2 (by decide) (by decide) (by decide)
    have x19 : x1 19 = w 65 19 := b2 19 (by decide) (by decide) (by decide)
    refine ⟨(-10) - (nI r.2.1), (-10) - (nI r.2.1), mz_up (mz_set (mz_set (mz_set (mz_set w 53 R1) 54 S1) 55 g1) 56 v1) 8 1 0, mz_up (mz_set (mz_set (mz_up (mz_set (mz_set (mz_set (mz_set w 53 R1) 54 S1) 55 g1) 56 v1) 8 1 0) 65 x1) 69 st1) 66 1 0, ⟨?_, rfl⟩, ⟨?_, rfl⟩, ?_, rfl⟩
    · refine mz_go 1 (c' := (1, [some (.ref 0), some (.int 0), none], [.int 0], w)) rfl ?_
      refine mz_doQ (R := mz_r119) (as := [.int 0]) (rest := []) (r1 := some (.int 1)) (m1 := w) mz_t119 mz_v119 rfl rfl rfl rfl rfl ⟨?_, rfl⟩ ?_
      · refine mz_go 3 (c' := (3, [some (.int 0)], [.int 2, .int 0, .int 0], w)) rfl ?_
        refine mz_doQ (R := mz_r121) (as := [.int 0, .int 0, .int 2]) (rest := []) (r1 := some (.int 1)) (m1 := w) mz_t121 mz_v121 rfl rfl rfl rfl rfl ((cs_in1 (m := w) (v := 0) (a := 0) (b := 2) (by decide) (by decide)).deep (by decide)) ?_
        exact mz_ret rfl
      refine mz_go 4 (c' := (18, [some (.ref 0), some (.int 0), none], [.int 0, .ref 53], w)) rfl ?_
      refine mz_doQ (R := mz_r120) (as := [.int 0]) (rest := [.ref 53]) (r1 := some (.ref 2001)) (m1 := w) mz_t120 mz_v120 rfl rfl rfl rfl rfl ⟨?_, rfl⟩ ?_
      · refine mz_go 4 (c' := (24, [some (.int 0)], [.ref 2001], w)) rfl ?_
        exact mz_ret rfl
      refine mz_doQ (R := mz_r28) (as := [.ref 53, .ref 2001]) (rest := []) (r1 := some (.int (nI r.2.1))) (m1 := mz_set (mz_set (mz_set (mz_set w 53 R1) 54 S1) 55 g1) 56 v1) mz_t28 mz_v28_53 rfl rfl rfl rfl rfl ⟨?_, rfl⟩ ?_
      · refine mz_go 16 (c' := (26, [some (.ref 53), some (.ref 2001)], [.int 0, .int 0, .ref 53], mz_up (mz_up (mz_up (mz_up w 53 2 2001) 53 3 0) 53 4 1) 54 2 0)) rfl ?_
        refine mz_doQ (R := mz_r29) (as := [.ref 53, .int 0, .int 0]) (rest := []) (r1 := none) (m1 := mz_set (mz_set (mz_set (mz_set w 53 R1) 54 S1) 55 g1) 56 v1) mz_t29 mz_v29_53 rfl rfl rfl rfl rfl (E1.deep (by decide)) ?_
        refine mz_go 2 (c' := (33, [some (.ref 53), some (.ref 2001)], [.int (R1 4)], mz_set (mz_set (mz_set (mz_set w 53 R1) 54 S1) 55 g1) 56 v1)) rfl ?_
        rw [a4]
        refine mz_go 3 (c' := (58, [some (.ref 53), some (.ref 2001)], [.int (R1 3)], mz_set (mz_set (mz_set (mz_set w 53 R1) 54 S1) 55 g1) 56 v1)) rfl ?_
        rw [a1]
        exact mz_ret rfl
      refine mz_go 8 (c' := (if (nI r.2.1) < 0 then 45 else 40, [some (.ref 0), some (.int 0), some (.int (nI r.2.1))], [], mz_up (mz_set (mz_set (mz_set (mz_set w 53 R1) 54 S1) 55 g1) 56 v1) 8 1 0)) rfl ?_
      refine mz_ifF (show ¬ ((nI r.2.1) < 0) from (sm_nltN rfl rfl (show 0 ≤ r.2.1 by omega) (show r.2.1 < 2 ^ 31 by omega))) ?_
      refine mz_go 3 (c' := (44, [some (.ref 0), some (.int 0), some (.int (nI r.2.1))], [.int ((-10) - (nI r.2.1))], mz_up (mz_set (mz_set (mz_set (mz_set w 53 R1) 54 S1) 55 g1) 56 v1) 8 1 0)) rfl ?_
      exact mz_ret rfl
    · refine mz_go 3 (c' := (3, [some (.ref 65), some (.int 0), none, none, none], [.int 2, .int 0, .int 0], mz_up (mz_set (mz_set (mz_set (mz_set w 53 R1) 54 S1) 55 g1) 56 v1) 8 1 0)) rfl ?_
      refine mz_doQ (R := mz_r128) (as := [.int 0, .int 0, .int 2]) (rest := []) (r1 := some (.int 1)) (m1 := mz_up (mz_set (mz_set (mz_set (mz_set w 53 R1) 54 S1) 55 g1) 56 v1) 8 1 0) mz_t128 mz_v128 rfl rfl rfl rfl rfl ((ct_in1 (m := mz_up (mz_set (mz_set (mz_set (mz_set w 53 R1) 54 S1) 55 g1) 56 v1) 8 1 0) (v := 0) (a := 0) (b := 2) (by decide) (by decide)).deep (by decide)) ?_
      refine mz_go 14 (c' := (36, [some (.ref 65), some (.int 0), none, none, none], [.ref 65], mz_up (mz_up (mz_up (mz_up (mz_up (mz_set (mz_set (mz_set (mz_set w 53 R1) 54 S1) 55 g1) 56 v1) 8 1 0) 65 12 0) 65 9 0) 65 10 0) 65 11 0)) rfl ?_
      refine mz_doQ (R := mz_r162) (as := [.ref 65]) (rest := []) (r1 := some (.int (sm_bI r.1))) (m1 := mz_set (mz_set (mz_up (mz_set (mz_set (mz_set (mz_set w 53 R1) 54 S1) 55 g1) 56 v1) 8 1 0) 65 x1) 69 st1) mz_t162 mz_v162_65 rfl rfl rfl rfl rfl (F1.deep (by decide)) ?_
      rw [a4b]
      refine mz_go 13 (c' := (78, [some (.ref 65), some (.int 0), some (.int 0), none, none], [.int (x1 9), .int (-10)], mz_up (mz_set (mz_set (mz_up (mz_set (mz_set (mz_set (mz_set w 53 R1) 54 S1) 55 g1) 56 v1) 8 1 0) 65 x1) 69 st1) 66 1 0)) rfl ?_
      rw [b1]
      refine mz_go 1 (c' := (79, [some (.ref 65), some (.int 0), some (.int 0), none, none], [.int ((-10) - (nI r.2.1))], mz_up (mz_set (mz_set (mz_up (mz_set (mz_set (mz_set (mz_set w 53 R1) 54 S1) 55 g1) 56 v1) 8 1 0) 65 x1) 69 st1) 66 1 0)) rfl ?_
      exact mz_ret rfl
    · obtain ⟨-, ⟨d1, d2, d3, ⟨d4, d4b, d4c⟩, d5, d6, d7, d8⟩, da, db, dc⟩ := hI2
      have hs : ∀ i, i ≠ 1 → (mz_up (mz_set (mz_set (mz_up (mz_set (mz_set (mz_set (mz_set w 53 R1) 54 S1) 55 g1) 56 v1) 8 1 0) 65 x1) 69 st1) 66 1 0) 66 i = w 66 i := fun i h => by
        rw [mz_up_eq, if_neg h, mz_set_ne (show (66 : Nat) ≠ 69 by decide), mz_set_ne (show (66 : Nat) ≠ 65 by decide), mz_up_ne (show (66 : Nat) ≠ 8 by decide), mz_set_ne (show (66 : Nat) ≠ 56 by decide), mz_set_ne (show (66 : Nat) ≠ 55 by decide), mz_set_ne (show (66 : Nat) ≠ 54 by decide), mz_set_ne (show (66 : Nat) ≠ 53 by decide)]
      have hs : ∀ i, i ≠ 1 ∧ i < 650 → (mz_up (mz_set (mz_set (mz_up (mz_set (mz_set (mz_set (mz_set w 53 R1) 54 S1) 55 g1) 56 v1) 8 1 0) 65 x1) 69 st1) 66 1 0) 66 i = w 66 i := fun i h => hs i h.1
      have hc3 : sm_c3 ((mz_up (mz_set (mz_set (mz_up (mz_set (mz_set (mz_set (mz_set w 53 R1) 54 S1) 55 g1) 56 v1) 8 1 0) 65 x1) 69 st1) 66 1 0) 8) ((mz_up (mz_set (mz_set (mz_up (mz_set (mz_set (mz_set (mz_set w 53 R1) 54 S1) 55 g1) 56 v1) 8 1 0) 65 x1) 69 st1) 66 1 0) 9) ((mz_up (mz_set (mz_set (mz_up (mz_set (mz_set (mz_set (mz_set w 53 R1) 54 S1) 55 g1) 56 v1) 8 1 0) 65 x1) 69 st1) 66 1 0) 66) := ⟨⟨0, by decide, rfl, rfl⟩, fun i hi => ⟨(d3.2 i hi).1, (hs (550 + i) (by omega)).trans (d3.2 i hi).2⟩⟩
      exact ⟨hn, ⟨sm_k1 (hs 0 (by omega)) (fun i h1 h2 => hs i (by omega)) d1, sm_k2 (fun i h1 h2 => hs i (by omega)) d2, hc3, ⟨sm_k4 (fun i h1 h2 => hs i (by omega)) d4, sm_k4 (fun i h1 h2 => hs i (by omega)) d4b, sm_k4 (fun i h1 h2 => hs i (by omega)) d4c⟩, sm_k5 (fun i h1 h2 => hs i (by omega)) d5, sm_k6 (fun i h1 h2 => hs i (by omega)) d6, sm_k7 (fun i h1 h2 => hs i (by omega)) d7, sm_k8 (hs 2 (by omega)) (hs 3 (by omega)) (fun i h1 h2 => hs i (by omega)) d8⟩, da, (by rw [show (mz_up (mz_set (mz_set (mz_up (mz_set (mz_set (mz_set (mz_set w 53 R1) 54 S1) 55 g1) 56 v1) 8 1 0) 65 x1) 69 st1) 66 1 0) 65 19 = w 65 19 from x19]; exact db), (by rw [show (mz_up (mz_set (mz_set (mz_up (mz_set (mz_set (mz_set (mz_set w 53 R1) 54 S1) 55 g1) 56 v1) 8 1 0) 65 x1) 69 st1) 66 1 0) 65 2 = w 65 2 from x2]; exact sm_cc_of (fun i h1 h2 => by simp only [mz_set_ne (show i ≠ 53 by omega), mz_set_ne (show i ≠ 54 by omega), mz_set_ne (show i ≠ 55 by omega), mz_set_ne (show i ≠ 56 by omega), mz_set_ne (show i ≠ 65 by omega), mz_set_ne (show i ≠ 69 by omega), mz_up_ne (show i ≠ 66 by omega), mz_up_ne (show i ≠ 8 by omega)]) dc)⟩
set_option maxHeartbeats 4000000 in
set_option maxRecDepth 100000 in
theorem sc_text1 {n : Nat} (hn : n < 64) {w : mz_M} (hI : sm_I n w) : ∃ v1 v2 m1 m2, mz_Me 100 mz_r75 [.ref 0, .int 1] w (some (.int v1)) m1 ∧ mz_Me 100 mz_r170 [.ref 65, .int 1] m1 (some (.int v2)) m2 ∧ sm_I (n + 1) m2 ∧ v1 = v2 := by
  have hI2 := hI
  obtain ⟨hn0, ⟨-, ⟨hr80, hr5, hrr⟩, ⟨⟨TT, hTT, h81, h661⟩, htp⟩, ⟨⟨T0, hT0, hU0, hV0, -⟩, ⟨T1, hT1, hU1, hV1, -⟩, ⟨T2, hT2, hU2, hV2, -⟩⟩, ⟨hbx, hby, hbl⟩, ⟨⟨WW, HH, hWW, hHH, hWH, h202, h203, h6660, h6661⟩, h6662, h6663, h6664, hpc⟩, ⟨hth, h66160, hthr⟩, ⟨⟨AA, hAA, h111, h662⟩, h663, hwt⟩⟩, ⟨hsh, hsn⟩, ⟨hcb1, hcb2⟩, ⟨JJ, hJJ, h07, h652, hkept⟩⟩ := hI
  obtain ⟨N, hw, hr2, h660, -, -, h6615⟩ := sm_world hI2
  have hw2 := hw
  obtain ⟨hN, h4, hpb, -, -⟩ := hw2
  have hT60a := sm_T60 hV0
  have hT60b := sm_T60 hV1
  have hT60c := sm_T60 hV2
  obtain ⟨B1, hB1, e571⟩ := sm_Nof (by decide) hcb1
  obtain ⟨B2, hB2, e6519⟩ := sm_Nof (by decide) hcb2
  have hb : ∀ i, i < 60 → sm_N 255 (w 9 i) := fun i hi => (htp i hi).1
  have hG := tx_rd_G (u := 1) (T := TT) (b := w 9) (by decide) 36 0 0 0 (Nat.zero_le TT)
  have hmT : mz_up (mz_up (mz_up (mz_up w 53 2 2002) 53 3 0) 53 4 1) 54 2 0 = mz_set (mz_set (mz_set (mz_set w 53 ((mz_up (mz_up (mz_up (mz_up w 53 2 2002) 53 3 0) 53 4 1) 54 2 0) 53)) 54 ((mz_up (mz_up (mz_up (mz_up w 53 2 2002) 53 3 0) 53 4 1) 54 2 0) 54)) 55 (w 55)) 56 (w 56) := sm_of4 (fun i h1 h2 h3 h4 => by simp only [mz_up_ne h1, mz_up_ne h2])
  obtain ⟨R1, S1, g1, v1, E1, q1⟩ := (tc_all (u := 1) (T := TT) (b := w 9) (by decide) hTT hb 36).2 0 0 (by decide) (by decide) (by decide) w ((mz_up (mz_up (mz_up (mz_up w 53 2 2002) 53 3 0) 53 4 1) 54 2 0) 53) ((mz_up (mz_up (mz_up (mz_up w 53 2 2002) 53 3 0) 53 4 1) 54 2 0) 54) (w 55) (w 56) h81 (fun _ => rfl) 0 0 (Nat.le_refl 0) (Nat.zero_le TT) rfl rfl rfl rfl
  rw [← hmT] at E1
  obtain ⟨r, hr⟩ : ∃ r, tx_rd 1 TT (w 9) 36 0 0 0 = r := ⟨_, rfl⟩
  rw [hr] at q1 hG
  obtain ⟨a1, a2, a3, -, aa⟩ := q1
  obtain ⟨G1, G2, G3⟩ := hG
  by_cases ok : r.1 = true
  · have a4 : R1 4 = 1 := by rw [a2, ok]; rfl
    have a4b : sm_bI r.1 = 1 := by rw [ok]; rfl
    by_cases hT : r.2.1 = TT
    · obtain ⟨a5, a6, -⟩ := aa ok
      obtain ⟨G4, G6, G5⟩ := G3 ok
      rw [Nat.zero_add] at a5 G6
      have hmU : mz_up (mz_up (mz_up (mz_up (mz_up (mz_cp (mz_cp (mz_up (mz_set (mz_set (mz_set (mz_set w 53 R1) 54 S1) 55 g1) 56 v1) 8 1 0) 14 55 0 0 60) 15 56 0 0 60) 13 2 (nI r.2.2.length)) 65 12 1) 65 9 0) 65 10 0) 65 11 0 = mz_set (mz_set (mz_up (mz_cp (mz_cp (mz_up (mz_set (mz_set (mz_set (mz_set w 53 R1) 54 S1) 55 g1) 56 v1) 8 1 0) 14 55 0 0 60) 15 56 0 0 60) 13 2 (nI r.2.2.length)) 65 ((mz_up (mz_up (mz_up (mz_up (mz_up (mz_cp (mz_cp (mz_up (mz_set (mz_set (mz_set (mz_set w 53 R1) 54 S1) 55 g1) 56 v1) 8 1 0) 14 55 0 0 60) 15 56 0 0 60) 13 2 (nI r.2.2.length)) 65 12 1) 65 9 0) 65 10 0) 65 11 0) 65)) 69 (w 69) := sm_of2 (fun i h1 h2 => by simp only [mz_up_ne h1])
      obtain ⟨x1, st1, F1, p1⟩ := (tr_all (u := 1) (T := TT) (b := w 9) (by decide) hTT 36).2 0 0 (by decide) (by decide) (by decide) (mz_up (mz_cp (mz_cp (mz_up (mz_set (mz_set (mz_set (mz_set w 53 R1) 54 S1) 55 g1) 56 v1) 8 1 0) 14 55 0 0 60) 15 56 0 0 60) 13 2 (nI r.2.2.length)) ((mz_up (mz_up (mz_up (mz_up (mz_up (mz_cp (mz_cp (mz_up (mz_set (mz_set (mz_set (mz_set w 53 R1) 54 S1) 55 g1) 56 v1) 8 1 0) 14 55 0 0 60) 15 56 0 0 60) 13 2 (nI r.2.2.length)) 65 12 1) 65 9 0) 65 10 0) 65 11 0) 65) (w 69) h661 (fun i hi => (htp i hi).2) 0 0 (Nat.le_refl 0) (Nat.zero_le TT) rfl rfl rfl rfl
      rw [← hmU] at F1
      rw [hr] at p1 F1
      obtain ⟨b1, b2, bb⟩ := p1
      have x2 : x1 2 = w 65 2 := b2 2 (by decide) (by decide) (by decide)
      have x19 : x1 19 = w 65 19 := b2 19 (by decide) (by decide) (by decide)
      obtain ⟨b4, b5, b6, -⟩ := bb ok
      rw [Nat.zero_add] at b5
      obtain ⟨sX, hsX, EX⟩ := ct_txl1 (m := mz_up (mz_up (mz_set (mz_set (mz_up (mz_cp (mz_cp (mz_up (mz_set (mz_set (mz_set (mz_set w 53 R1) 54 S1) 55 g1) 56 v1) 8 1 0) 14 55 0 0 60) 15 56 0 0 60) 13 2 (nI r.2.2.length)) 65 x1) 69 st1) 66 1 0) 66 295 (nI r.2.2.length)) (n := r.2.2.length) (D := 99) (by omega) b5 (s0 := (mz_up (mz_up (mz_set (mz_set (mz_up (mz_cp (mz_cp (mz_up (mz_set (mz_set (mz_set (mz_set w 53 R1) 54 S1) 55 g1) 56 v1) 8 1 0) 14 55 0 0 60) 15 56 0 0 60) 13 2 (nI r.2.2.length)) 65 x1) 69 st1) 66 1 0) 66 295 (nI r.2.2.length)) 66) (2 * r.2.2.length) 0 (by omega) ((mz_up (mz_up (mz_set (mz_set (mz_up (mz_cp (mz_cp (mz_up (mz_set (mz_set (mz_set (mz_set w 53 R1) 54 S1) 55 g1) 56 v1) 8 1 0) 14 55 0 0 60) 15 56 0 0 60) 13 2 (nI r.2.2.length)) 65 x1) 69 st1) 66 1 0) 66 295 (nI r.2.2.length)) 66) (fun i => (if_neg (by omega)).symm)
      rw [sm_id] at EX
      refine ⟨1, 1, mz_up (mz_cp (mz_cp (mz_up (mz_set (mz_set (mz_set (mz_set w 53 R1) 54 S1) 55 g1) 56 v1) 8 1 0) 14 55 0 0 60) 15 56 0 0 60) 13 2 (nI r.2.2.length), mz_set (mz_up (mz_up (mz_set (mz_set (mz_up (mz_cp (mz_cp (mz_up (mz_set (mz_set (mz_set (mz_set w 53 R1) 54 S1) 55 g1) 56 v1) 8 1 0) 14 55 0 0 60) 15 56 0 0 60) 13 2 (nI r.2.2.length)) 65 x1) 69 st1) 66 1 0) 66 295 (nI r.2.2.length)) 66 sX, ⟨?_, rfl⟩, ⟨?_, rfl⟩, ?_, rfl⟩
      · refine mz_go 1 (c' := (1, [some (.ref 0), some (.int 1), none], [.int 1], w)) rfl ?_
        refine mz_doQ (R := mz_r119) (as := [.int 1]) (rest := []) (r1 := some (.int 1)) (m1 := w) mz_t119 mz_v119 rfl rfl rfl rfl rfl ⟨?_, rfl⟩ ?_
        · refine mz_go 3 (c' := (3, [some (.int 1)], [.int 2, .int 0, .int 1], w)) rfl ?_
          refine mz_doQ (R := mz_r121) (as := [.int 1, .int 0, .int 2]) (rest := []) (r1 := some (.int 1)) (m1 := w) mz_t121 mz_v121 rfl rfl rfl rfl rfl ((cs_in1 (m := w) (v := 1) (a := 0) (b := 2) (by decide) (by decide)).deep (by decide)) ?_
          exact mz_ret rfl
        refine mz_go 4 (c' := (18, [some (.ref 0), some (.int 1), none], [.int 1, .ref 53], w)) rfl ?_
        refine mz_doQ (R := mz_r120) (as := [.int 1]) (rest := [.ref 53]) (r1 := some (.ref 2002)) (m1 := w) mz_t120 mz_v120 rfl rfl rfl rfl rfl ⟨?_, rfl⟩ ?_
        · refine mz_go 7 (c' := (24, [some (.int 1)], [.ref 2002], w)) rfl ?_
          exact mz_ret rfl
        refine mz_doQ (R := mz_r28) (as := [.ref 53, .ref 2002]) (rest := []) (r1 := some (.int (-1))) (m1 := mz_set (mz_set (mz_set (mz_set w 53 R1) 54 S1) 55 g1) 56 v1) mz_t28 mz_v28_53 rfl rfl rfl rfl rfl ⟨?_, rfl⟩ ?_
        · refine mz_go 16 (c' := (26, [some (.ref 53), some (.ref 2002)], [.int 0, .int 0, .ref 53], mz_up (mz_up (mz_up (mz_up w 53 2 2002) 53 3 0) 53 4 1) 54 2 0)) rfl ?_
          refine mz_doQ (R := mz_r29) (as := [.ref 53, .int 0, .int 0]) (rest := []) (r1 := none) (m1 := mz_set (mz_set (mz_set (mz_set w 53 R1) 54 S1) 55 g1) 56 v1) mz_t29 mz_v29_53 rfl rfl rfl rfl rfl (E1.deep (by decide)) ?_
          refine mz_go 2 (c' := (33, [some (.ref 53), some (.ref 2002)], [.int (R1 4)], mz_set (mz_set (mz_set (mz_set w 53 R1) 54 S1) 55 g1) 56 v1)) rfl ?_
          rw [a4]
          refine mz_go 3 (c' := (40, [some (.ref 53), some (.ref 2002)], [.int (R1 3)], mz_set (mz_set (mz_set (mz_set w 53 R1) 54 S1) 55 g1) 56 v1)) rfl ?_
          rw [a1]
          refine mz_go 3 (c' := (47, [some (.ref 53), some (.ref 2002)], [.int (w 8 1), .int (nI r.2.1)], mz_set (mz_set (mz_set (mz_set w 53 R1) 54 S1) 55 g1) 56 v1)) rfl ?_
          rw [h81]
          refine mz_go 1 (c' := (if (nI r.2.1) = (nI TT) then 50 else 54, [some (.ref 53), some (.ref 2002)], [], mz_set (mz_set (mz_set (mz_set w 53 R1) 54 S1) 55 g1) 56 v1)) rfl ?_
          refine mz_ifT (show ((nI r.2.1) = (nI TT)) from (sm_eqN rfl rfl (show r.2.1 = TT by omega))) ?_
          refine mz_go 2 (c' := (58, [some (.ref 53), some (.ref 2002)], [.int (-1)], mz_set (mz_set (mz_set (mz_set w 53 R1) 54 S1) 55 g1) 56 v1)) rfl ?_
          exact mz_ret rfl
        refine mz_go 11 (c' := (50, [some (.ref 0), some (.int 1), some (.int (-1))], [.int 1, .ref 1], mz_up (mz_set (mz_set (mz_set (mz_set w 53 R1) 54 S1) 55 g1) 56 v1) 8 1 0)) rfl ?_
        refine mz_doQ (R := mz_r52) (as := [.ref 1, .int 1]) (rest := []) (r1 := some (.ref 13)) (m1 := mz_up (mz_set (mz_set (mz_set (mz_set w 53 R1) 54 S1) 55 g1) 56 v1) 8 1 0) mz_t52 mz_v52_1 rfl rfl rfl rfl rfl ⟨?_, rfl⟩ ?_
        · refine mz_go 8 (c' := (27, [some (.ref 1), some (.int 1)], [.ref 13], mz_up (mz_set (mz_set (mz_set (mz_set w 53 R1) 54 S1) 55 g1) 56 v1) 8 1 0)) rfl ?_
          exact mz_ret rfl
        refine mz_go 3 (c' := (60, [some (.ref 0), some (.int 1), some (.int (-1))], [.ref 54, .ref 13], mz_up (mz_set (mz_set (mz_set (mz_set w 53 R1) 54 S1) 55 g1) 56 v1) 8 1 0)) rfl ?_
        refine mz_doQ (R := mz_r59) (as := [.ref 13, .ref 54]) (rest := []) (r1 := none) (m1 := mz_up (mz_cp (mz_cp (mz_up (mz_set (mz_set (mz_set (mz_set w 53 R1) 54 S1) 55 g1) 56 v1) 8 1 0) 14 55 0 0 60) 15 56 0 0 60) 13 2 (nI r.2.2.length)) mz_t59 mz_v59_13 rfl rfl rfl rfl rfl ⟨?_, rfl⟩ ?_
        · refine mz_go 4 (c' := (8, [some (.ref 13), some (.ref 54)], [.ref 14, .ref 55], mz_up (mz_set (mz_set (mz_set (mz_set w 53 R1) 54 S1) 55 g1) 56 v1) 8 1 0)) rfl ?_
          refine mz_doQ (R := mz_r126) (as := [.ref 55, .ref 14]) (rest := []) (r1 := none) (m1 := mz_cp (mz_up (mz_set (mz_set (mz_set (mz_set w 53 R1) 54 S1) 55 g1) 56 v1) 8 1 0) 14 55 0 0 60) mz_t126 mz_v126_55 rfl rfl rfl rfl rfl ⟨?_, rfl⟩ ?_
          · refine mz_go 10 (c' := (14, [some (.ref 55), some (.ref 14)], [], mz_cp (mz_up (mz_set (mz_set (mz_set (mz_set w 53 R1) 54 S1) 55 g1) 56 v1) 8 1 0) 14 55 0 0 60)) rfl ?_
            exact mz_ret rfl
          refine mz_go 4 (c' := (19, [some (.ref 13), some (.ref 54)], [.ref 15, .ref 56], mz_cp (mz_up (mz_set (mz_set (mz_set (mz_set w 53 R1) 54 S1) 55 g1) 56 v1) 8 1 0) 14 55 0 0 60)) rfl ?_
          refine mz_doQ (R := mz_r126) (as := [.ref 56, .ref 15]) (rest := []) (r1 := none) (m1 := mz_cp (mz_cp (mz_up (mz_set (mz_set (mz_set (mz_set w 53 R1) 54 S1) 55 g1) 56 v1) 8 1 0) 14 55 0 0 60) 15 56 0 0 60) mz_t126 mz_v126_56 rfl rfl rfl rfl rfl ⟨?_, rfl⟩ ?_
          · refine mz_go 10 (c' := (14, [some (.ref 56), some (.ref 15)], [], mz_cp (mz_cp (mz_up (mz_set (mz_set (mz_set (mz_set w 53 R1) 54 S1) 55 g1) 56 v1) 8 1 0) 14 55 0 0 60) 15 56 0 0 60)) rfl ?_
            exact mz_ret rfl
          refine mz_go 3 (c' := (27, [some (.ref 13), some (.ref 54)], [.int (S1 2), .ref 13], mz_cp (mz_cp (mz_up (mz_set (mz_set (mz_set (mz_set w 53 R1) 54 S1) 55 g1) 56 v1) 8 1 0) 14 55 0 0 60) 15 56 0 0 60)) rfl ?_
          rw [a5]
          refine mz_go 1 (c' := (30, [some (.ref 13), some (.ref 54)], [], mz_up (mz_cp (mz_cp (mz_up (mz_set (mz_set (mz_set (mz_set w 53 R1) 54 S1) 55 g1) 56 v1) 8 1 0) 14 55 0 0 60) 15 56 0 0 60) 13 2 (nI r.2.2.length))) rfl ?_
          exact mz_ret rfl
        refine mz_go 1 (c' := (64, [some (.ref 0), some (.int 1), some (.int (-1))], [.int 1], mz_up (mz_cp (mz_cp (mz_up (mz_set (mz_set (mz_set (mz_set w 53 R1) 54 S1) 55 g1) 56 v1) 8 1 0) 14 55 0 0 60) 15 56 0 0 60) 13 2 (nI r.2.2.length))) rfl ?_
        exact mz_ret rfl
      · refine mz_go 3 (c' := (3, [some (.ref 65), some (.int 1), none, none, none], [.int 2, .int 0, .int 1], mz_up (mz_cp (mz_cp (mz_up (mz_set (mz_set (mz_set (mz_set w 53 R1) 54 S1) 55 g1) 56 v1) 8 1 0) 14 55 0 0 60) 15 56 0 0 60) 13 2 (nI r.2.2.length))) rfl ?_
        refine mz_doQ (R := mz_r128) (as := [.int 1, .int 0, .int 2]) (rest := []) (r1 := some (.int 1)) (m1 := mz_up (mz_cp (mz_cp (mz_up (mz_set (mz_set (mz_set (mz_set w 53 R1) 54 S1) 55 g1) 56 v1) 8 1 0) 14 55 0 0 60) 15 56 0 0 60) 13 2 (nI r.2.2.length)) mz_t128 mz_v128 rfl rfl rfl rfl rfl ((ct_in1 (m := mz_up (mz_cp (mz_cp (mz_up (mz_set (mz_set (mz_set (mz_set w 53 R1) 54 S1) 55 g1) 56 v1) 8 1 0) 14 55 0 0 60) 15 56 0 0 60) 13 2 (nI r.2.2.length)) (v := 1) (a := 0) (b := 2) (by decide) (by decide)).deep (by decide)) ?_
        refine mz_go 14 (c' := (36, [some (.ref 65), some (.int 1), none, none, none], [.ref 65], mz_up (mz_up (mz_up (mz_up (mz_up (mz_cp (mz_cp (mz_up (mz_set (mz_set (mz_set (mz_set w 53 R1) 54 S1) 55 g1) 56 v1) 8 1 0) 14 55 0 0 60) 15 56 0 0 60) 13 2 (nI r.2.2.length)) 65 12 1) 65 9 0) 65 10 0) 65 11 0)) rfl ?_
        refine mz_doQ (R := mz_r162) (as := [.ref 65]) (rest := []) (r1 := some (.int (sm_bI r.1))) (m1 := mz_set (mz_set (mz_up (mz_cp (mz_cp (mz_up (mz_set (mz_set (mz_set (mz_set w 53 R1) 54 S1) 55 g1) 56 v1) 8 1 0) 14 55 0 0 60) 15 56 0 0 60) 13 2 (nI r.2.2.length)) 65 x1) 69 st1) mz_t162 mz_v162_65 rfl rfl rfl rfl rfl (F1.deep (by decide)) ?_
        rw [a4b]
        refine mz_go 3 (c' := (46, [some (.ref 65), some (.int 1), none, none, none], [.int (x1 9)], mz_set (mz_set (mz_up (mz_cp (mz_cp (mz_up (mz_set (mz_set (mz_set (mz_set w 53 R1) 54 S1) 55 g1) 56 v1) 8 1 0) 14 55 0 0 60) 15 56 0 0 60) 13 2 (nI r.2.2.length)) 65 x1) 69 st1)) rfl ?_
        rw [b1]
        refine mz_go 4 (c' := (52, [some (.ref 65), some (.int 1), none, none, none], [.int (w 66 1), .int (nI r.2.1)], mz_set (mz_set (mz_up (mz_cp (mz_cp (mz_up (mz_set (mz_set (mz_set (mz_set w 53 R1) 54 S1) 55 g1) 56 v1) 8 1 0) 14 55 0 0 60) 15 56 0 0 60) 13 2 (nI r.2.2.length)) 65 x1) 69 st1)) rfl ?_
        rw [h661]
        refine mz_go 1 (c' := (if (nI r.2.1) = (nI TT) then 55 else 59, [some (.ref 65), some (.int 1), none, none, none], [], mz_set (mz_set (mz_up (mz_cp (mz_cp (mz_up (mz_set (mz_set (mz_set (mz_set w 53 R1) 54 S1) 55 g1) 56 v1) 8 1 0) 14 55 0 0 60) 15 56 0 0 60) 13 2 (nI r.2.2.length)) 65 x1) 69 st1)) rfl ?_
        refine mz_ifT (show ((nI r.2.1) = (nI TT)) from (sm_eqN rfl rfl (show r.2.1 = TT by omega))) ?_
        refine mz_go 21 (c' := (98, [some (.ref 65), some (.int 1), some (.int 1), some (.int 295), none], [.int (x1 11), .int 295, .ref 66], mz_up (mz_set (mz_set (mz_up (mz_cp (mz_cp (mz_up (mz_set (mz_set (mz_set (mz_set w 53 R1) 54 S1) 55 g1) 56 v1) 8 1 0) 14 55 0 0 60) 15 56 0 0 60) 13 2 (nI r.2.2.length)) 65 x1) 69 st1) 66 1 0)) rfl ?_
        rw [b5]
        refine mz_go 3 (c' := (102, [some (.ref 65), some (.int 1), some (.int 1), some (.int 295), some (.int 0)], [], mz_up (mz_up (mz_set (mz_set (mz_up (mz_cp (mz_cp (mz_up (mz_set (mz_set (mz_set (mz_set w 53 R1) 54 S1) 55 g1) 56 v1) 8 1 0) 14 55 0 0 60) 15 56 0 0 60) 13 2 (nI r.2.2.length)) 65 x1) 69 st1) 66 1 0) 66 295 (nI r.2.2.length))) rfl ?_
        refine EX _ ?_
        refine mz_go 1 (c' := (138, [some (.ref 65), some (.int 1), some (.int 1), some (.int 295), some (.int (nI (2 * r.2.2.length)))], [.int 1], mz_set (mz_up (mz_up (mz_set (mz_set (mz_up (mz_cp (mz_cp (mz_up (mz_set (mz_set (mz_set (mz_set w 53 R1) 54 S1) 55 g1) 56 v1) 8 1 0) 14 55 0 0 60) 15 56 0 0 60) 13 2 (nI r.2.2.length)) 65 x1) 69 st1) 66 1 0) 66 295 (nI r.2.2.length)) 66 sX)) rfl ?_
        exact mz_ret rfl
      · obtain ⟨-, ⟨d1, d2, d3, ⟨d4, d4b, d4c⟩, d5, d6, d7, d8⟩, da, db, dc⟩ := hI2
        have hs : ∀ i, i ≠ 1 ∧ (i < 295 ∨ 420 ≤ i) → sX i = w 66 i := fun i h => by
          rw [hsX i, if_neg (by omega)]
          rw [mz_up_eq, if_neg (by omega), mz_up_eq, if_neg (by omega), mz_set_ne (show (66 : Nat) ≠ 69 by decide), mz_set_ne (show (66 : Nat) ≠ 65 by decide), mz_up_ne (show (66 : Nat) ≠ 13 by decide), mz_cp_ne (show (66 : Nat) ≠ 15 by decide), mz_cp_ne (show (66 : Nat) ≠ 14 by decide), mz_up_ne (show (66 : Nat) ≠ 8 by decide), mz_set_ne (show (66 : Nat) ≠ 56 by decide), mz_set_ne (show (66 : Nat) ≠ 55 by decide), mz_set_ne (show (66 : Nat) ≠ 54 by decide), mz_set_ne (show (66 : Nat) ≠ 53 by decide)]
        have hbs : sX 295 = nI r.2.2.length := by
          rw [hsX 295, if_neg (by omega)]
          rfl
        have hs1 : sX 1 = 0 := by
          rw [hsX 1, if_neg (by omega)]
          rfl
        have hgA : ∀ i, i < 60 → (mz_set (mz_up (mz_up (mz_set (mz_set (mz_up (mz_cp (mz_cp (mz_up (mz_set (mz_set (mz_set (mz_set w 53 R1) 54 S1) 55 g1) 56 v1) 8 1 0) 14 55 0 0 60) 15 56 0 0 60) 13 2 (nI r.2.2.length)) 65 x1) 69 st1) 66 1 0) 66 295 (nI r.2.2.length)) 66 sX) 14 i = g1 i := fun i hi => sm_cpE (m := mz_up (mz_set (mz_set (mz_set (mz_set w 53 R1) 54 S1) 55 g1) 56 v1) 8 1 0) (i := 14) (j := 55) (n := 60) hi
        have hvA : ∀ i, i < 60 → (mz_set (mz_up (mz_up (mz_set (mz_set (mz_up (mz_cp (mz_cp (mz_up (mz_set (mz_set (mz_set (mz_set w 53 R1) 54 S1) 55 g1) 56 v1) 8 1 0) 14 55 0 0 60) 15 56 0 0 60) 13 2 (nI r.2.2.length)) 65 x1) 69 st1) 66 1 0) 66 295 (nI r.2.2.length)) 66 sX) 15 i = v1 i := fun i hi => sm_cpE (m := mz_cp (mz_up (mz_set (mz_set (mz_set (mz_set w 53 R1) 54 S1) 55 g1) 56 v1) 8 1 0) 14 55 0 0 60) (i := 15) (j := 56) (n := 60) hi
        have hin : tx_in r.2.2 0 ((mz_set (mz_up (mz_up (mz_set (mz_set (mz_up (mz_cp (mz_cp (mz_up (mz_set (mz_set (mz_set (mz_set w 53 R1) 54 S1) 55 g1) 56 v1) 8 1 0) 14 55 0 0 60) 15 56 0 0 60) 13 2 (nI r.2.2.length)) 65 x1) 69 st1) 66 1 0) 66 295 (nI r.2.2.length)) 66 sX) 14) ((mz_set (mz_up (mz_up (mz_set (mz_set (mz_up (mz_cp (mz_cp (mz_up (mz_set (mz_set (mz_set (mz_set w 53 R1) 54 S1) 55 g1) 56 v1) 8 1 0) 14 55 0 0 60) 15 56 0 0 60) 13 2 (nI r.2.2.length)) 65 x1) 69 st1) 66 1 0) 66 295 (nI r.2.2.length)) 66 sX) 15) := tx_in_keep a6 (fun i hi => ⟨hgA i (by omega), hvA i (by omega)⟩)
        have hwf : sm_wf r.2.2.length 3 ((mz_set (mz_up (mz_up (mz_set (mz_set (mz_up (mz_cp (mz_cp (mz_up (mz_set (mz_set (mz_set (mz_set w 53 R1) 54 S1) 55 g1) 56 v1) 8 1 0) 14 55 0 0 60) 15 56 0 0 60) 13 2 (nI r.2.2.length)) 65 x1) 69 st1) 66 1 0) 66 295 (nI r.2.2.length)) 66 sX) 14) ((mz_set (mz_up (mz_up (mz_set (mz_set (mz_up (mz_cp (mz_cp (mz_up (mz_set (mz_set (mz_set (mz_set w 53 R1) 54 S1) 55 g1) 56 v1) 8 1 0) 14 55 0 0 60) 15 56 0 0 60) 13 2 (nI r.2.2.length)) 65 x1) 69 st1) 66 1 0) 66 295 (nI r.2.2.length)) 66 sX) 15) := tx_wf (by omega) hin (G5 0)
        have hc4 : sm_c4 ((mz_set (mz_up (mz_up (mz_set (mz_set (mz_up (mz_cp (mz_cp (mz_up (mz_set (mz_set (mz_set (mz_set w 53 R1) 54 S1) 55 g1) 56 v1) 8 1 0) 14 55 0 0 60) 15 56 0 0 60) 13 2 (nI r.2.2.length)) 65 x1) 69 st1) 66 1 0) 66 295 (nI r.2.2.length)) 66 sX) 13) ((mz_set (mz_up (mz_up (mz_set (mz_set (mz_up (mz_cp (mz_cp (mz_up (mz_set (mz_set (mz_set (mz_set w 53 R1) 54 S1) 55 g1) 56 v1) 8 1 0) 14 55 0 0 60) 15 56 0 0 60) 13 2 (nI r.2.2.length)) 65 x1) 69 st1) 66 1 0) 66 295 (nI r.2.2.length)) 66 sX) 14) ((mz_set (mz_up (mz_up (mz_set (mz_set (mz_up (mz_cp (mz_cp (mz_up (mz_set (mz_set (mz_set (mz_set w 53 R1) 54 S1) 55 g1) 56 v1) 8 1 0) 14 55 0 0 60) 15 56 0 0 60) 13 2 (nI r.2.2.length)) 65 x1) 69 st1) 66 1 0) 66 295 (nI r.2.2.length)) 66 sX) 15) 3 295 sm_ch1 sX := by
          refine ⟨r.2.2.length, rfl, hbs, Or.inr hwf, fun k hk => ?_⟩
          have h1 := b6 k hk
          obtain ⟨h2, h3⟩ := hin k hk
          rw [Nat.zero_add] at h1 h2 h3
          rw [h2, h3, hsX (295 + 1 + 2 * k), if_pos (by omega), hsX (295 + 2 + 2 * k), if_pos (by omega), show 295 + 1 + 2 * k - 296 = 2 * k by omega, show 295 + 2 + 2 * k - 296 = 2 * k + 1 by omega]
          exact h1
        have hc3 : sm_c3 ((mz_set (mz_up (mz_up (mz_set (mz_set (mz_up (mz_cp (mz_cp (mz_up (mz_set (mz_set (mz_set (mz_set w 53 R1) 54 S1) 55 g1) 56 v1) 8 1 0) 14 55 0 0 60) 15 56 0 0 60) 13 2 (nI r.2.2.length)) 65 x1) 69 st1) 66 1 0) 66 295 (nI r.2.2.length)) 66 sX) 8) ((mz_set (mz_up (mz_up (mz_set (mz_set (mz_up (mz_cp (mz_cp (mz_up (mz_set (mz_set (mz_set (mz_set w 53 R1) 54 S1) 55 g1) 56 v1) 8 1 0) 14 55 0 0 60) 15 56 0 0 60) 13 2 (nI r.2.2.length)) 65 x1) 69 st1) 66 1 0) 66 295 (nI r.2.2.length)) 66 sX) 9) sX := ⟨⟨0, by decide, rfl, hs1⟩, fun i hi => ⟨(d3.2 i hi).1, (hs (550 + i) (by omega)).trans (d3.2 i hi).2⟩⟩
        exact ⟨hn, ⟨sm_k1 (hs 0 (by omega)) (fun i h1 h2 => hs i (by omega)) d1, sm_k2 (fun i h1 h2 => hs i (by omega)) d2, hc3, ⟨sm_k4 (fun i h1 h2 => hs i (by omega)) d4, hc4, sm_k4 (fun i h1 h2 => hs i (by omega)) d4c⟩, sm_k5 (fun i h1 h2 => hs i (by omega)) d5, sm_k6 (fun i h1 h2 => hs i (by omega)) d6, sm_k7 (fun i h1 h2 => hs i (by omega)) d7, sm_k8 (hs 2 (by omega)) (hs 3 (by omega)) (fun i h1 h2 => hs i (by omega)) d8⟩, da, (by rw [show (mz_set (mz_up (mz_up (mz_set (mz_set (mz_up (mz_cp (mz_cp (mz_up (mz_set (mz_set (mz_set (mz_set w 53 R1) 54 S1) 55 g1) 56 v1) 8 1 0) 14 55 0 0 60) 15 56 0 0 60) 13 2 (nI r.2.2.length)) 65 x1) 69 st1) 66 1 0) 66 295 (nI r.2.2.length)) 66 sX) 65 19 = w 65 19 from x19]; exact db), (by rw [show (mz_set (mz_up (mz_up (mz_set (mz_set (mz_up (mz_cp (mz_cp (mz_up (mz_set (mz_set (mz_set (mz_set w 53 R1) 54 S1) 55 g1) 56 v1) 8 1 0) 14 55 0 0 60) 15 56 0 0 60) 13 2 (nI r.2.2.length)) 65 x1) 69 st1) 66 1 0) 66 295 (nI r.2.2.length)) 66 sX) 65 2 = w 65 2 from x2]; exact sm_cc_of (fun i h1 h2 => by simp only [mz_cp_ne (show i ≠ 14 by omega), mz_cp_ne (show i ≠ 15 by omega), mz_set_ne (show i ≠ 53 by omega), mz_set_ne (show i ≠ 54 by omega), mz_set_ne (show i ≠ 55 by omega), mz_set_ne (show i ≠ 56 by omega), mz_set_ne (show i ≠ 65 by omega), mz_set_ne (show i ≠ 66 by omega), mz_set_ne (show i ≠ 69 by omega), mz_up_ne (show i ≠ 13 by omega), mz_up_ne (show i ≠ 66 by omega), mz_up_ne (show i ≠ 8 by omega)]) dc)⟩
    · skip
      have hmU : mz_up (mz_up (mz_up (mz_up (mz_up (mz_set (mz_set (mz_set (mz_set w 53 R1) 54 S1) 55 g1) 56 v1) 8 1 0) 65 12 1) 65 9 0) 65 10 0) 65 11 0 = mz_set (mz_set (mz_up (mz_set (mz_set (mz_set (mz_set w 53 R1) 54 S1) 55 g1) 56 v1) 8 1 0) 65 ((mz_up (mz_up (mz_up (mz_up (mz_up (mz_set (mz_set (mz_set (mz_set w 53 R1) 54 S1) 55 g1) 56 v1) 8 1 0) 65 12 1) 65 9 0) 65 10 0) 65 11 0) 65)) 69 (w 69) := sm_of2 (fun i h1 h2 => by simp only [mz_up_ne h1])
      obtain ⟨x1, st1, F1, p1⟩ := (tr_all (u := 1) (T := TT) (b := w 9) (by decide) hTT 36).2 0 0 (by decide) (by decide) (by decide) (mz_up (mz_set (mz_set (mz_set (mz_set w 53 R1) 54 S1) 55 g1) 56 v1) 8 1 0) ((mz_up (mz_up (mz_up (mz_up (mz_up (mz_set (mz_set (mz_set (mz_set w 53 R1) 54 S1) 55 g1) 56 v1) 8 1 0) 65 12 1) 65 9 0) 65 10 0) 65 11 0) 65) (w 69) h661 (fun i hi => (htp i hi).2) 0 0 (Nat.le_refl 0) (Nat.zero_le TT) rfl rfl rfl rfl
      rw [← hmU] at F1
      rw [hr] at p1 F1
      obtain ⟨b1, b2, bb⟩ := p1
      have x2 : x1 2 = w 65 2 := b2 2 (by decide) (by decide) (by decide)
      have x19 : x1 19 = w 65 19 := b2 19 (by decide) (by decide) (by decide)
      refine ⟨(-10) - (nI r.2.1), (-10) - (nI r.2.1), mz_up (mz_set (mz_set (mz_set (mz_set w 53 R1) 54 S1) 55 g1) 56 v1) 8 1 0, mz_up (mz_set (mz_set (mz_up (mz_set (mz_set (mz_set (mz_set w 53 R1) 54 S1) 55 g1) 56 v1) 8 1 0) 65 x1) 69 st1) 66 1 0, ⟨?_, rfl⟩, ⟨?_, rfl⟩, ?_, rfl⟩
      · refine mz_go 1 (c' := (1, [some (.ref 0), some (.int 1), none], [.int 1], w)) rfl ?_
        refine mz_doQ (R := mz_r119) (as := [.int 1]) (rest := []) (r1 := some (.int 1)) (m1 := w) mz_t119 mz_v119 rfl rfl rfl rfl rfl ⟨?_, rfl⟩ ?_
        · refine mz_go 3 (c' := (3, [some (.int 1)], [.int 2, .int 0, .int 1], w)) rfl ?_
          refine mz_doQ (R := mz_r121) (as := [.int 1, .int 0, .int 2]) (rest := []) (r1 := some (.int 1)) (m1 := w) mz_t121 mz_v121 rfl rfl rfl rfl rfl ((cs_in1 (m := w) (v := 1) (a := 0) (b := 2) (by decide) (by decide)).deep (by decide)) ?_
          exact mz_ret rfl
        refine mz_go 4 (c' := (18, [some (.ref 0), some (.int 1), none], [.int 1, .ref 53], w)) rfl ?_
        refine mz_doQ (R := mz_r120) (as := [.int 1]) (rest := [.ref 53]) (r1 := some (.ref 2002)) (m1 := w) mz_t120 mz_v120 rfl rfl rfl rfl rfl ⟨?_, rfl⟩ ?_
        · refine mz_go 7 (c' := (24, [some (.int 1)], [.ref 2002], w)) rfl ?_
          exact mz_ret rfl
        refine mz_doQ (R := mz_r28) (as := [.ref 53, .ref 2002]) (rest := []) (r1 := some (.int (nI r.2.1))) (m1 := mz_set (mz_set (mz_set (mz_set w 53 R1) 54 S1) 55 g1) 56 v1) mz_t28 mz_v28_53 rfl rfl rfl rfl rfl ⟨?_, rfl⟩ ?_
        · refine mz_go 16 (c' := (26, [some (.ref 53), some (.ref 2002)], [.int 0, .int 0, .ref 53], mz_up (mz_up (mz_up (mz_up w 53 2 2002) 53 3 0) 53 4 1) 54 2 0)) rfl ?_
          refine mz_doQ (R := mz_r29) (as := [.ref 53, .int 0, .int 0]) (rest := []) (r1 := none) (m1 := mz_set (mz_set (mz_set (mz_set w 53 R1) 54 S1) 55 g1) 56 v1) mz_t29 mz_v29_53 rfl rfl rfl rfl rfl (E1.deep (by decide)) ?_
          refine mz_go 2 (c' := (33, [some (.ref 53), some (.ref 2002)], [.int (R1 4)], mz_set (mz_set (mz_set (mz_set w 53 R1) 54 S1) 55 g1) 56 v1)) rfl ?_
          rw [a4]
          refine mz_go 3 (c' := (40, [some (.ref 53), some (.ref 2002)], [.int (R1 3)], mz_set (mz_set (mz_set (mz_set w 53 R1) 54 S1) 55 g1) 56 v1)) rfl ?_
          rw [a1]
          refine mz_go 3 (c' := (47, [some (.ref 53), some (.ref 2002)], [.int (w 8 1), .int (nI r.2.1)], mz_set (mz_set (mz_set (mz_set w 53 R1) 54 S1) 55 g1) 56 v1)) rfl ?_
          rw [h81]
          refine mz_go 1 (c' := (if (nI r.2.1) = (nI TT) then 50 else 54, [some (.ref 53), some (.ref 2002)], [], mz_set (mz_set (mz_set (mz_set w 53 R1) 54 S1) 55 g1) 56 v1)) rfl ?_
          refine mz_ifF (show ¬ ((nI r.2.1) = (nI TT)) from (sm_neN rfl rfl (show r.2.1 ≠ TT by omega) (show r.2.1 < 2 ^ 31 by omega) (show TT < 2 ^ 31 by omega))) ?_
          refine mz_go 2 (c' := (58, [some (.ref 53), some (.ref 2002)], [.int (R1 3)], mz_set (mz_set (mz_set (mz_set w 53 R1) 54 S1) 55 g1) 56 v1)) rfl ?_
          rw [a1]
          exact mz_ret rfl
        refine mz_go 8 (c' := (if (nI r.2.1) < 0 then 45 else 40, [some (.ref 0), some (.int 1), some (.int (nI r.2.1))], [], mz_up (mz_set (mz_set (mz_set (mz_set w 53 R1) 54 S1) 55 g1) 56 v1) 8 1 0)) rfl ?_
        refine mz_ifF (show ¬ ((nI r.2.1) < 0) from (sm_nltN rfl rfl (show 0 ≤ r.2.1 by omega) (show r.2.1 < 2 ^ 31 by omega))) ?_
        refine mz_go 3 (c' := (44, [some (.ref 0), some (.int 1), some (.int (nI r.2.1))], [.int ((-10) - (nI r.2.1))], mz_up (mz_set (mz_set (mz_set (mz_set w 53 R1) 54 S1) 55 g1) 56 v1) 8 1 0)) rfl ?_
        exact mz_ret rfl
      · refine mz_go 3 (c' := (3, [some (.ref 65), some (.int 1), none, none, none], [.int 2, .int 0, .int 1], mz_up (mz_set (mz_set (mz_set (mz_set w 53 R1) 54 S1) 55 g1) 56 v1) 8 1 0)) rfl ?_
        refine mz_doQ (R := mz_r128) (as := [.int 1, .int 0, .int 2]) (rest := []) (r1 := some (.int 1)) (m1 := mz_up (mz_set (mz_set (mz_set (mz_set w 53 R1) 54 S1) 55 g1) 56 v1) 8 1 0) mz_t128 mz_v128 rfl rfl rfl rfl rfl ((ct_in1 (m := mz_up (mz_set (mz_set (mz_set (mz_set w 53 R1) 54 S1) 55 g1) 56 v1) 8 1 0) (v := 1) (a := 0) (b := 2) (by decide) (by decide)).deep (by decide)) ?_
        refine mz_go 14 (c' := (36, [some (.ref 65), some (.int 1), none, none, none], [.ref 65], mz_up (mz_up (mz_up (mz_up (mz_up (mz_set (mz_set (mz_set (mz_set w 53 R1) 54 S1) 55 g1) 56 v1) 8 1 0) 65 12 1) 65 9 0) 65 10 0) 65 11 0)) rfl ?_
        refine mz_doQ (R := mz_r162) (as := [.ref 65]) (rest := []) (r1 := some (.int (sm_bI r.1))) (m1 := mz_set (mz_set (mz_up (mz_set (mz_set (mz_set (mz_set w 53 R1) 54 S1) 55 g1) 56 v1) 8 1 0) 65 x1) 69 st1) mz_t162 mz_v162_65 rfl rfl rfl rfl rfl (F1.deep (by decide)) ?_
        rw [a4b]
        refine mz_go 3 (c' := (46, [some (.ref 65), some (.int 1), none, none, none], [.int (x1 9)], mz_set (mz_set (mz_up (mz_set (mz_set (mz_set (mz_set w 53 R1) 54 S1) 55 g1) 56 v1) 8 1 0) 65 x1) 69 st1)) rfl ?_
        rw [b1]
        refine mz_go 4 (c' := (52, [some (.ref 65), some (.int 1), none, none, none], [.int (w 66 1), .int (nI r.2.1)], mz_set (mz_set (mz_up (mz_set (mz_set (mz_set (mz_set w 53 R1) 54 S1) 55 g1) 56 v1) 8 1 0) 65 x1) 69 st1)) rfl ?_
        rw [h661]
        refine mz_go 1 (c' := (if (nI r.2.1) = (nI TT) then 55 else 59, [some (.ref 65), some (.int 1), none, none, none], [], mz_set (mz_set (mz_up (mz_set (mz_set (mz_set (mz_set w 53 R1) 54 S1) 55 g1) 56 v1) 8 1 0) 65 x1) 69 st1)) rfl ?_
        refine mz_ifF (show ¬ ((nI r.2.1) = (nI TT)) from (sm_neN rfl rfl (show r.2.1 ≠ TT by omega) (show r.2.1 < 2 ^ 31 by omega) (show TT < 2 ^ 31 by omega))) ?_
        refine mz_go 12 (c' := (78, [some (.ref 65), some (.int 1), some (.int 0), none, none], [.int (x1 9), .int (-10)], mz_up (mz_set (mz_set (mz_up (mz_set (mz_set (mz_set (mz_set w 53 R1) 54 S1) 55 g1) 56 v1) 8 1 0) 65 x1) 69 st1) 66 1 0)) rfl ?_
        rw [b1]
        refine mz_go 1 (c' := (79, [some (.ref 65), some (.int 1), some (.int 0), none, none], [.int ((-10) - (nI r.2.1))], mz_up (mz_set (mz_set (mz_up (mz_set (mz_set (mz_set (mz_set w 53 R1) 54 S1) 55 g1) 56 v1) 8 1 0) 65 x1) 69 st1) 66 1 0)) rfl ?_
        exact mz_ret rfl
      · obtain ⟨-, ⟨d1, d2, d3, ⟨d4, d4b, d4c⟩, d5, d6, d7, d8⟩, da, db, dc⟩ := hI2
        have hs : ∀ i, i ≠ 1 → (mz_up (mz_set (mz_set (mz_up (mz_set (mz_set (mz_set (mz_set w 53 R1) 54 S1) 55 g1) 56 v1) 8 1 0) 65 x1) 69 st1) 66 1 0) 66 i = w 66 i := fun i h => by
          rw [mz_up_eq, if_neg h, mz_set_ne (show (66 : Nat) ≠ 69 by decide), mz_set_ne (show (66 : Nat) ≠ 65 by decide), mz_up_ne (show (66 : Nat) ≠ 8 by decide), mz_set_ne (show (66 : Nat) ≠ 56 by decide), mz_set_ne (show (66 : Nat) ≠ 55 by decide), mz_set_ne (show (66 : Nat) ≠ 54 by decide), mz_set_ne (show (66 : Nat) ≠ 53 by decide)]
        have hs : ∀ i, i ≠ 1 ∧ i < 650 → (mz_up (mz_set (mz_set (mz_up (mz_set (mz_set (mz_set (mz_set w 53 R1) 54 S1) 55 g1) 56 v1) 8 1 0) 65 x1) 69 st1) 66 1 0) 66 i = w 66 i := fun i h => hs i h.1
        have hc3 : sm_c3 ((mz_up (mz_set (mz_set (mz_up (mz_set (mz_set (mz_set (mz_set w 53 R1) 54 S1) 55 g1) 56 v1) 8 1 0) 65 x1) 69 st1) 66 1 0) 8) ((mz_up (mz_set (mz_set (mz_up (mz_set (mz_set (mz_set (mz_set w 53 R1) 54 S1) 55 g1) 56 v1) 8 1 0) 65 x1) 69 st1) 66 1 0) 9) ((mz_up (mz_set (mz_set (mz_up (mz_set (mz_set (mz_set (mz_set w 53 R1) 54 S1) 55 g1) 56 v1) 8 1 0) 65 x1) 69 st1) 66 1 0) 66) := ⟨⟨0, by decide, rfl, rfl⟩, fun i hi => ⟨(d3.2 i hi).1, (hs (550 + i) (by omega)).trans (d3.2 i hi).2⟩⟩
        exact ⟨hn, ⟨sm_k1 (hs 0 (by omega)) (fun i h1 h2 => hs i (by omega)) d1, sm_k2 (fun i h1 h2 => hs i (by omega)) d2, hc3, ⟨sm_k4 (fun i h1 h2 => hs i (by omega)) d4, sm_k4 (fun i h1 h2 => hs i (by omega)) d4b, sm_k4 (fun i h1 h2 => hs i (by omega)) d4c⟩, sm_k5 (fun i h1 h2 => hs i (by omega)) d5, sm_k6 (fun i h1 h2 => hs i (by omega)) d6, sm_k7 (fun i h1 h2 => hs i (by omega)) d7, sm_k8 (hs 2 (by omega)) (hs 3 (by omega)) (fun i h1 h2 => hs i (by omega)) d8⟩, da, (by rw [show (mz_up (mz_set (mz_set (mz_up (mz_set (mz_set (mz_set (mz_set w 53 R1) 54 S1) 55 g1) 56 v1) 8 1 0) 65 x1) 69 st1) 66 1 0) 65 19 = w 65 19 from x19]; exact db), (by rw [show (mz_up (mz_set (mz_set (mz_up (mz_set (mz_set (mz_set (mz_set w 53 R1) 54 S1) 55 g1) 56 v1) 8 1 0) 65 x1) 69 st1) 66 1 0) 65 2 = w 65 2 from x2]; exact sm_cc_of (fun i h1 h2 => by simp only [mz_set_ne (show i ≠ 53 by omega), mz_set_ne (show i ≠ 54 by omega), mz_set_ne (show i ≠ 55 by omega), mz_set_ne (show i ≠ 56 by omega), mz_set_ne (show i ≠ 65 by omega), mz_set_ne (show i ≠ 69 by omega), mz_up_ne (show i ≠ 66 by omega), mz_up_ne (show i ≠ 8 by omega)]) dc)⟩
  · have a4 : R1 4 = 0 := by rw [a2, eq_false_of_ne_true ok]; rfl
    have a4b : sm_bI r.1 = 0 := by rw [eq_false_of_ne_true ok]; rfl
    have hmU : mz_up (mz_up (mz_up (mz_up (mz_up (mz_set (mz_set (mz_set (mz_set w 53 R1) 54 S1) 55 g1) 56 v1) 8 1 0) 65 12 1) 65 9 0) 65 10 0) 65 11 0 = mz_set (mz_set (mz_up (mz_set (mz_set (mz_set (mz_set w 53 R1) 54 S1) 55 g1) 56 v1) 8 1 0) 65 ((mz_up (mz_up (mz_up (mz_up (mz_up (mz_set (mz_set (mz_set (mz_set w 53 R1) 54 S1) 55 g1) 56 v1) 8 1 0) 65 12 1) 65 9 0) 65 10 0) 65 11 0) 65)) 69 (w 69) := sm_of2 (fun i h1 h2 => by simp only [mz_up_ne h1])
    obtain ⟨x1, st1, F1, p1⟩ := (tr_all (u := 1) (T := TT) (b := w 9) (by decide) hTT 36).2 0 0 (by decide) (by decide) (by decide) (mz_up (mz_set (mz_set (mz_set (mz_set w 53 R1) 54 S1) 55 g1) 56 v1) 8 1 0) ((mz_up (mz_up (mz_up (mz_up (mz_up (mz_set (mz_set (mz_set (mz_set w 53 R1) 54 S1) 55 g1) 56 v1) 8 1 0) 65 12 1) 65 9 0) 65 10 0) 65 11 0) 65) (w 69) h661 (fun i hi => (htp i hi).2) 0 0 (Nat.le_refl 0) (Nat.zero_le TT) rfl rfl rfl rfl
    rw [← hmU] at F1
    rw [hr] at p1 F1
    obtain ⟨b1, b2, bb⟩ := p1
    have x2 : x1 2 = w 65 2 := b2 2 (by decide) (by decide) (by decide)
    have x19 : x1 19 = w 65 19 := b2 19 (by decide) (by decide) (by decide)
    refine ⟨(-10) - (nI r.2.1), (-10) - (nI r.2.1), mz_up (mz_set (mz_set (mz_set (mz_set w 53 R1) 54 S1) 55 g1) 56 v1) 8 1 0, mz_up (mz_set (mz_set (mz_up (mz_set (mz_set (mz_set (mz_set w 53 R1) 54 S1) 55 g1) 56 v1) 8 1 0) 65 x1) 69 st1) 66 1 0, ⟨?_, rfl⟩, ⟨?_, rfl⟩, ?_, rfl⟩
    · refine mz_go 1 (c' := (1, [some (.ref 0), some (.int 1), none], [.int 1], w)) rfl ?_
      refine mz_doQ (R := mz_r119) (as := [.int 1]) (rest := []) (r1 := some (.int 1)) (m1 := w) mz_t119 mz_v119 rfl rfl rfl rfl rfl ⟨?_, rfl⟩ ?_
      · refine mz_go 3 (c' := (3, [some (.int 1)], [.int 2, .int 0, .int 1], w)) rfl ?_
        refine mz_doQ (R := mz_r121) (as := [.int 1, .int 0, .int 2]) (rest := []) (r1 := some (.int 1)) (m1 := w) mz_t121 mz_v121 rfl rfl rfl rfl rfl ((cs_in1 (m := w) (v := 1) (a := 0) (b := 2) (by decide) (by decide)).deep (by decide)) ?_
        exact mz_ret rfl
      refine mz_go 4 (c' := (18, [some (.ref 0), some (.int 1), none], [.int 1, .ref 53], w)) rfl ?_
      refine mz_doQ (R := mz_r120) (as := [.int 1]) (rest := [.ref 53]) (r1 := some (.ref 2002)) (m1 := w) mz_t120 mz_v120 rfl rfl rfl rfl rfl ⟨?_, rfl⟩ ?_
      · refine mz_go 7 (c' := (24, [some (.int 1)], [.ref 2002], w)) rfl ?_
        exact mz_ret rfl
      refine mz_doQ (R := mz_r28) (as := [.ref 53, .ref 2002]) (rest := []) (r1 := some (.int (nI r.2.1))) (m1 := mz_set (mz_set (mz_set (mz_set w 53 R1) 54 S1) 55 g1) 56 v1) mz_t28 mz_v28_53 rfl rfl rfl rfl rfl ⟨?_, rfl⟩ ?_
      · refine mz_go 16 (c' := (26, [some (.ref 53), some (.ref 2002)], [.int 0, .int 0, .ref 53], mz_up (mz_up (mz_up (mz_up w 53 2 2002) 53 3 0) 53 4 1) 54 2 0)) rfl ?_
        refine mz_doQ (R := mz_r29) (as := [.ref 53, .int 0, .int 0]) (rest := []) (r1 := none) (m1 := mz_set (mz_set (mz_set (mz_set w 53 R1) 54 S1) 55 g1) 56 v1) mz_t29 mz_v29_53 rfl rfl rfl rfl rfl (E1.deep (by decide)) ?_
        refine mz_go 2 (c' := (33, [some (.ref 53), some (.ref 2002)], [.int (R1 4)], mz_set (mz_set (mz_set (mz_set w 53 R1) 54 S1) 55 g1) 56 v1)) rfl ?_
        rw [a4]
        refine mz_go 3 (c' := (58, [some (.ref 53), some (.ref 2002)], [.int (R1 3)], mz_set (mz_set (mz_set (mz_set w 53 R1) 54 S1) 55 g1) 56 v1)) rfl ?_
        rw [a1]
        exact mz_ret rfl
      refine mz_go 8 (c' := (if (nI r.2.1) < 0 then 45 else 40, [some (.ref 0), some (.int 1), some (.int (nI r.2.1))], [], mz_up (mz_set (mz_set (mz_set (mz_set w 53 R1) 54 S1) 55 g1) 56 v1) 8 1 0)) rfl ?_
      refine mz_ifF (show ¬ ((nI r.2.1) < 0) from (sm_nltN rfl rfl (show 0 ≤ r.2.1 by omega) (show r.2.1 < 2 ^ 31 by omega))) ?_
      refine mz_go 3 (c' := (44, [some (.ref 0), some (.int 1), some (.int (nI r.2.1))], [.int ((-10) - (nI r.2.1))], mz_up (mz_set (mz_set (mz_set (mz_set w 53 R1) 54 S1) 55 g1) 56 v1) 8 1 0)) rfl ?_
      exact mz_ret rfl
    · refine mz_go 3 (c' := (3, [some (.ref 65), some (.int 1), none, none, none], [.int 2, .int 0, .int 1], mz_up (mz_set (mz_set (mz_set (mz_set w 53 R1) 54 S1) 55 g1) 56 v1) 8 1 0)) rfl ?_
      refine mz_doQ (R := mz_r128) (as := [.int 1, .int 0, .int 2]) (rest := []) (r1 := some (.int 1)) (m1 := mz_up (mz_set (mz_set (mz_set (mz_set w 53 R1) 54 S1) 55 g1) 56 v1) 8 1 0) mz_t128 mz_v128 rfl rfl rfl rfl rfl ((ct_in1 (m := mz_up (mz_set (mz_set (mz_set (mz_set w 53 R1) 54 S1) 55 g1) 56 v1) 8 1 0) (v := 1) (a := 0) (b := 2) (by decide) (by decide)).deep (by decide)) ?_
      refine mz_go 14 (c' := (36, [some (.ref 65), some (.int 1), none, none, none], [.ref 65], mz_up (mz_up (mz_up (mz_up (mz_up (mz_set (mz_set (mz_set (mz_set w 53 R1) 54 S1) 55 g1) 56 v1) 8 1 0) 65 12 1) 65 9 0) 65 10 0) 65 11 0)) rfl ?_
      refine mz_doQ (R := mz_r162) (as := [.ref 65]) (rest := []) (r1 := some (.int (sm_bI r.1))) (m1 := mz_set (mz_set (mz_up (mz_set (mz_set (mz_set (mz_set w 53 R1) 54 S1) 55 g1) 56 v1) 8 1 0) 65 x1) 69 st1) mz_t162 mz_v162_65 rfl rfl rfl rfl rfl (F1.deep (by decide)) ?_
      rw [a4b]
      refine mz_go 13 (c' := (78, [some (.ref 65), some (.int 1), some (.int 0), none, none], [.int (x1 9), .int (-10)], mz_up (mz_set (mz_set (mz_up (mz_set (mz_set (mz_set (mz_set w 53 R1) 54 S1) 55 g1) 56 v1) 8 1 0) 65 x1) 69 st1) 66 1 0)) rfl ?_
      rw [b1]
      refine mz_go 1 (c' := (79, [some (.ref 65), some (.int 1), some (.int 0), none, none], [.int ((-10) - (nI r.2.1))], mz_up (mz_set (mz_set (mz_up (mz_set (mz_set (mz_set (mz_set w 53 R1) 54 S1) 55 g1) 56 v1) 8 1 0) 65 x1) 69 st1) 66 1 0)) rfl ?_
      exact mz_ret rfl
    · obtain ⟨-, ⟨d1, d2, d3, ⟨d4, d4b, d4c⟩, d5, d6, d7, d8⟩, da, db, dc⟩ := hI2
      have hs : ∀ i, i ≠ 1 → (mz_up (mz_set (mz_set (mz_up (mz_set (mz_set (mz_set (mz_set w 53 R1) 54 S1) 55 g1) 56 v1) 8 1 0) 65 x1) 69 st1) 66 1 0) 66 i = w 66 i := fun i h => by
        rw [mz_up_eq, if_neg h, mz_set_ne (show (66 : Nat) ≠ 69 by decide), mz_set_ne (show (66 : Nat) ≠ 65 by decide), mz_up_ne (show (66 : Nat) ≠ 8 by decide), mz_set_ne (show (66 : Nat) ≠ 56 by decide), mz_set_ne (show (66 : Nat) ≠ 55 by decide), mz_set_ne (show (66 : Nat) ≠ 54 by decide), mz_set_ne (show (66 : Nat) ≠ 53 by decide)]
      have hs : ∀ i, i ≠ 1 ∧ i < 650 → (mz_up (mz_set (mz_set (mz_up (mz_set (mz_set (mz_set (mz_set w 53 R1) 54 S1) 55 g1) 56 v1) 8 1 0) 65 x1) 69 st1) 66 1 0) 66 i = w 66 i := fun i h => hs i h.1
      have hc3 : sm_c3 ((mz_up (mz_set (mz_set (mz_up (mz_set (mz_set (mz_set (mz_set w 53 R1) 54 S1) 55 g1) 56 v1) 8 1 0) 65 x1) 69 st1) 66 1 0) 8) ((mz_up (mz_set (mz_set (mz_up (mz_set (mz_set (mz_set (mz_set w 53 R1) 54 S1) 55 g1) 56 v1) 8 1 0) 65 x1) 69 st1) 66 1 0) 9) ((mz_up (mz_set (mz_set (mz_up (mz_set (mz_set (mz_set (mz_set w 53 R1) 54 S1) 55 g1) 56 v1) 8 1 0) 65 x1) 69 st1) 66 1 0) 66) := ⟨⟨0, by decide, rfl, rfl⟩, fun i hi => ⟨(d3.2 i hi).1, (hs (550 + i) (by omega)).trans (d3.2 i hi).2⟩⟩
      exact ⟨hn, ⟨sm_k1 (hs 0 (by omega)) (fun i h1 h2 => hs i (by omega)) d1, sm_k2 (fun i h1 h2 => hs i (by omega)) d2, hc3, ⟨sm_k4 (fun i h1 h2 => hs i (by omega)) d4, sm_k4 (fun i h1 h2 => hs i (by omega)) d4b, sm_k4 (fun i h1 h2 => hs i (by omega)) d4c⟩, sm_k5 (fun i h1 h2 => hs i (by omega)) d5, sm_k6 (fun i h1 h2 => hs i (by omega)) d6, sm_k7 (fun i h1 h2 => hs i (by omega)) d7, sm_k8 (hs 2 (by omega)) (hs 3 (by omega)) (fun i h1 h2 => hs i (by omega)) d8⟩, da, (by rw [show (mz_up (mz_set (mz_set (mz_up (mz_set (mz_set (mz_set (mz_set w 53 R1) 54 S1) 55 g1) 56 v1) 8 1 0) 65 x1) 69 st1) 66 1 0) 65 19 = w 65 19 from x19]; exact db), (by rw [show (mz_up (mz_set (mz_set (mz_up (mz_set (mz_set (mz_set (mz_set w 53 R1) 54 S1) 55 g1) 56 v1) 8 1 0) 65 x1) 69 st1) 66 1 0) 65 2 = w 65 2 from x2]; exact sm_cc_of (fun i h1 h2 => by simp only [mz_set_ne (show i ≠ 53 by omega), mz_set_ne (show i ≠ 54 by omega), mz_set_ne (show i ≠ 55 by omega), mz_set_ne (show i ≠ 56 by omega), mz_set_ne (show i ≠ 65 by omega), mz_set_ne (show i ≠ 69 by omega), mz_up_ne (show i ≠ 66 by omega), mz_up_ne (show i ≠ 8 by omega)]) dc)⟩
set_option maxHeartbeats 4000000 in
set_option maxRecDepth 100000 in
theorem sc_text2 {n : Nat} (hn : n < 64) {w : mz_M} (hI : sm_I n w) : ∃ v1 v2 m1 m2, mz_Me 100 mz_r75 [.ref 0, .int 2] w (some (.int v1)) m1 ∧ mz_Me 100 mz_r170 [.ref 65, .int 2] m1 (some (.int v2)) m2 ∧ sm_I (n + 1) m2 ∧ v1 = v2 := by
  have hI2 := hI
  obtain ⟨hn0, ⟨-, ⟨hr80, hr5, hrr⟩, ⟨⟨TT, hTT, h81, h661⟩, htp⟩, ⟨⟨T0, hT0, hU0, hV0, -⟩, ⟨T1, hT1, hU1, hV1, -⟩, ⟨T2, hT2, hU2, hV2, -⟩⟩, ⟨hbx, hby, hbl⟩, ⟨⟨WW, HH, hWW, hHH, hWH, h202, h203, h6660, h6661⟩, h6662, h6663, h6664, hpc⟩, ⟨hth, h66160, hthr⟩, ⟨⟨AA, hAA, h111, h662⟩, h663, hwt⟩⟩, ⟨hsh, hsn⟩, ⟨hcb1, hcb2⟩, ⟨JJ, hJJ, h07, h652, hkept⟩⟩ := hI
  obtain ⟨N, hw, hr2, h660, -, -, h6615⟩ := sm_world hI2
  have hw2 := hw
  obtain ⟨hN, h4, hpb, -, -⟩ := hw2
  have hT60a := sm_T60 hV0
  have hT60b := sm_T60 hV1
  have hT60c := sm_T60 hV2
  obtain ⟨B1, hB1, e571⟩ := sm_Nof (by decide) hcb1
  obtain ⟨B2, hB2, e6519⟩ := sm_Nof (by decide) hcb2
  have hb : ∀ i, i < 60 → sm_N 255 (w 9 i) := fun i hi => (htp i hi).1
  have hG := tx_rd_G (u := 2) (T := TT) (b := w 9) (by decide) 36 0 0 0 (Nat.zero_le TT)
  have hmT : mz_up (mz_up (mz_up (mz_up w 53 2 2003) 53 3 0) 53 4 1) 54 2 0 = mz_set (mz_set (mz_set (mz_set w 53 ((mz_up (mz_up (mz_up (mz_up w 53 2 2003) 53 3 0) 53 4 1) 54 2 0) 53)) 54 ((mz_up (mz_up (mz_up (mz_up w 53 2 2003) 53 3 0) 53 4 1) 54 2 0) 54)) 55 (w 55)) 56 (w 56) := sm_of4 (fun i h1 h2 h3 h4 => by simp only [mz_up_ne h1, mz_up_ne h2])
  obtain ⟨R1, S1, g1, v1, E1, q1⟩ := (tc_all (u := 2) (T := TT) (b := w 9) (by decide) hTT hb 36).2 0 0 (by decide) (by decide) (by decide) w ((mz_up (mz_up (mz_up (mz_up w 53 2 2003) 53 3 0) 53 4 1) 54 2 0) 53) ((mz_up (mz_up (mz_up (mz_up w 53 2 2003) 53 3 0) 53 4 1) 54 2 0) 54) (w 55) (w 56) h81 (fun _ => rfl) 0 0 (Nat.le_refl 0) (Nat.zero_le TT) rfl rfl rfl rfl
  rw [← hmT] at E1
  obtain ⟨r, hr⟩ : ∃ r, tx_rd 2 TT (w 9) 36 0 0 0 = r := ⟨_, rfl⟩
  rw [hr] at q1 hG
  obtain ⟨a1, a2, a3, -, aa⟩ := q1
  obtain ⟨G1, G2, G3⟩ := hG
  by_cases ok : r.1 = true
  · have a4 : R1 4 = 1 := by rw [a2, ok]; rfl
    have a4b : sm_bI r.1 = 1 := by rw [ok]; rfl
    by_cases hT : r.2.1 = TT
    · obtain ⟨a5, a6, -⟩ := aa ok
      obtain ⟨G4, G6, G5⟩ := G3 ok
      rw [Nat.zero_add] at a5 G6
      have hmU : mz_up (mz_up (mz_up (mz_up (mz_up (mz_cp (mz_cp (mz_up (mz_set (mz_set (mz_set (mz_set w 53 R1) 54 S1) 55 g1) 56 v1) 8 1 0) 17 55 0 0 60) 18 56 0 0 60) 16 2 (nI r.2.2.length)) 65 12 2) 65 9 0) 65 10 0) 65 11 0 = mz_set (mz_set (mz_up (mz_cp (mz_cp (mz_up (mz_set (mz_set (mz_set (mz_set w 53 R1) 54 S1) 55 g1) 56 v1) 8 1 0) 17 55 0 0 60) 18 56 0 0 60) 16 2 (nI r.2.2.length)) 65 ((mz_up (mz_up (mz_up (mz_up (mz_up (mz_cp (mz_cp (mz_up (mz_set (mz_set (mz_set (mz_set w 53 R1) 54 S1) 55 g1) 56 v1) 8 1 0) 17 55 0 0 60) 18 56 0 0 60) 16 2 (nI r.2.2.length)) 65 12 2) 65 9 0) 65 10 0) 65 11 0) 65)) 69 (w 69) := sm_of2 (fun i h1 h2 => by simp only [mz_up_ne h1])
      obtain ⟨x1, st1, F1, p1⟩ := (tr_all (u := 2) (T := TT) (b := w 9) (by decide) hTT 36).2 0 0 (by decide) (by decide) (by decide) (mz_up (mz_cp (mz_cp (mz_up (mz_set (mz_set (mz_set (mz_set w 53 R1) 54 S1) 55 g1) 56 v1) 8 1 0) 17 55 0 0 60) 18 56 0 0 60) 16 2 (nI r.2.2.length)) ((mz_up (mz_up (mz_up (mz_up (mz_up (mz_cp (mz_cp (mz_up (mz_set (mz_set (mz_set (mz_set w 53 R1) 54 S1) 55 g1) 56 v1) 8 1 0) 17 55 0 0 60) 18 56 0 0 60) 16 2 (nI r.2.2.length)) 65 12 2) 65 9 0) 65 10 0) 65 11 0) 65) (w 69) h661 (fun i hi => (htp i hi).2) 0 0 (Nat.le_refl 0) (Nat.zero_le TT) rfl rfl rfl rfl
      rw [← hmU] at F1
      rw [hr] at p1 F1
      obtain ⟨b1, b2, bb⟩ := p1
      have x2 : x1 2 = w 65 2 := b2 2 (by decide) (by decide) (by decide)
      have x19 : x1 19 = w 65 19 := b2 19 (by decide) (by decide) (by decide)
      obtain ⟨b4, b5, b6, -⟩ := bb ok
      rw [Nat.zero_add] at b5
      obtain ⟨sX, hsX, EX⟩ := ct_txl2 (m := mz_up (mz_up (mz_set (mz_set (mz_up (mz_cp (mz_cp (mz_up (mz_set (mz_set (mz_set (mz_set w 53 R1) 54 S1) 55 g1) 56 v1) 8 1 0) 17 55 0 0 60) 18 56 0 0 60) 16 2 (nI r.2.2.length)) 65 x1) 69 st1) 66 1 0) 66 420 (nI r.2.2.length)) (n := r.2.2.length) (D := 99) (by omega) b5 (s0 := (mz_up (mz_up (mz_set (mz_set (mz_up (mz_cp (mz_cp (mz_up (mz_set (mz_set (mz_set (mz_set w 53 R1) 54 S1) 55 g1) 56 v1) 8 1 0) 17 55 0 0 60) 18 56 0 0 60) 16 2 (nI r.2.2.length)) 65 x1) 69 st1) 66 1 0) 66 420 (nI r.2.2.length)) 66) (2 * r.2.2.length) 0 (by omega) ((mz_up (mz_up (mz_set (mz_set (mz_up (mz_cp (mz_cp (mz_up (mz_set (mz_set (mz_set (mz_set w 53 R1) 54 S1) 55 g1) 56 v1) 8 1 0) 17 55 0 0 60) 18 56 0 0 60) 16 2 (nI r.2.2.length)) 65 x1) 69 st1) 66 1 0) 66 420 (nI r.2.2.length)) 66) (fun i => (if_neg (by omega)).symm)
      rw [sm_id] at EX
      refine ⟨1, 1, mz_up (mz_cp (mz_cp (mz_up (mz_set (mz_set (mz_set (mz_set w 53 R1) 54 S1) 55 g1) 56 v1) 8 1 0) 17 55 0 0 60) 18 56 0 0 60) 16 2 (nI r.2.2.length), mz_set (mz_up (mz_up (mz_set (mz_set (mz_up (mz_cp (mz_cp (mz_up (mz_set (mz_set (mz_set (mz_set w 53 R1) 54 S1) 55 g1) 56 v1) 8 1 0) 17 55 0 0 60) 18 56 0 0 60) 16 2 (nI r.2.2.length)) 65 x1) 69 st1) 66 1 0) 66 420 (nI r.2.2.length)) 66 sX, ⟨?_, rfl⟩, ⟨?_, rfl⟩, ?_, rfl⟩
      · refine mz_go 1 (c' := (1, [some (.ref 0), some (.int 2), none], [.int 2], w)) rfl ?_
        refine mz_doQ (R := mz_r119) (as := [.int 2]) (rest := []) (r1 := some (.int 1)) (m1 := w) mz_t119 mz_v119 rfl rfl rfl rfl rfl ⟨?_, rfl⟩ ?_
        · refine mz_go 3 (c' := (3, [some (.int 2)], [.int 2, .int 0, .int 2], w)) rfl ?_
          refine mz_doQ (R := mz_r121) (as := [.int 2, .int 0, .int 2]) (rest := []) (r1 := some (.int 1)) (m1 := w) mz_t121 mz_v121 rfl rfl rfl rfl rfl ((cs_in1 (m := w) (v := 2) (a := 0) (b := 2) (by decide) (by decide)).deep (by decide)) ?_
          exact mz_ret rfl
        refine mz_go 4 (c' := (18, [some (.ref 0), some (.int 2), none], [.int 2, .ref 53], w)) rfl ?_
        refine mz_doQ (R := mz_r120) (as := [.int 2]) (rest := [.ref 53]) (r1 := some (.ref 2003)) (m1 := w) mz_t120 mz_v120 rfl rfl rfl rfl rfl ⟨?_, rfl⟩ ?_
        · refine mz_go 6 (c' := (24, [some (.int 2)], [.ref 2003], w)) rfl ?_
          exact mz_ret rfl
        refine mz_doQ (R := mz_r28) (as := [.ref 53, .ref 2003]) (rest := []) (r1 := some (.int (-1))) (m1 := mz_set (mz_set (mz_set (mz_set w 53 R1) 54 S1) 55 g1) 56 v1) mz_t28 mz_v28_53 rfl rfl rfl rfl rfl ⟨?_, rfl⟩ ?_
        · refine mz_go 16 (c' := (26, [some (.ref 53), some (.ref 2003)], [.int 0, .int 0, .ref 53], mz_up (mz_up (mz_up (mz_up w 53 2 2003) 53 3 0) 53 4 1) 54 2 0)) rfl ?_
          refine mz_doQ (R := mz_r29) (as := [.ref 53, .int 0, .int 0]) (rest := []) (r1 := none) (m1 := mz_set (mz_set (mz_set (mz_set w 53 R1) 54 S1) 55 g1) 56 v1) mz_t29 mz_v29_53 rfl rfl rfl rfl rfl (E1.deep (by decide)) ?_
          refine mz_go 2 (c' := (33, [some (.ref 53), some (.ref 2003)], [.int (R1 4)], mz_set (mz_set (mz_set (mz_set w 53 R1) 54 S1) 55 g1) 56 v1)) rfl ?_
          rw [a4]
          refine mz_go 3 (c' := (40, [some (.ref 53), some (.ref 2003)], [.int (R1 3)], mz_set (mz_set (mz_set (mz_set w 53 R1) 54 S1) 55 g1) 56 v1)) rfl ?_
          rw [a1]
          refine mz_go 3 (c' := (47, [some (.ref 53), some (.ref 2003)], [.int (w 8 1), .int (nI r.2.1)], mz_set (mz_set (mz_set (mz_set w 53 R1) 54 S1) 55 g1) 56 v1)) rfl ?_
          rw [h81]
          refine mz_go 1 (c' := (if (nI r.2.1) = (nI TT) then 50 else 54, [some (.ref 53), some (.ref 2003)], [], mz_set (mz_set (mz_set (mz_set w 53 R1) 54 S1) 55 g1) 56 v1)) rfl ?_
          refine mz_ifT (show ((nI r.2.1) = (nI TT)) from (sm_eqN rfl rfl (show r.2.1 = TT by omega))) ?_
          refine mz_go 2 (c' := (58, [some (.ref 53), some (.ref 2003)], [.int (-1)], mz_set (mz_set (mz_set (mz_set w 53 R1) 54 S1) 55 g1) 56 v1)) rfl ?_
          exact mz_ret rfl
        refine mz_go 11 (c' := (50, [some (.ref 0), some (.int 2), some (.int (-1))], [.int 2, .ref 1], mz_up (mz_set (mz_set (mz_set (mz_set w 53 R1) 54 S1) 55 g1) 56 v1) 8 1 0)) rfl ?_
        refine mz_doQ (R := mz_r52) (as := [.ref 1, .int 2]) (rest := []) (r1 := some (.ref 16)) (m1 := mz_up (mz_set (mz_set (mz_set (mz_set w 53 R1) 54 S1) 55 g1) 56 v1) 8 1 0) mz_t52 mz_v52_1 rfl rfl rfl rfl rfl ⟨?_, rfl⟩ ?_
        · refine mz_go 7 (c' := (27, [some (.ref 1), some (.int 2)], [.ref 16], mz_up (mz_set (mz_set (mz_set (mz_set w 53 R1) 54 S1) 55 g1) 56 v1) 8 1 0)) rfl ?_
          exact mz_ret rfl
        refine mz_go 3 (c' := (60, [some (.ref 0), some (.int 2), some (.int (-1))], [.ref 54, .ref 16], mz_up (mz_set (mz_set (mz_set (mz_set w 53 R1) 54 S1) 55 g1) 56 v1) 8 1 0)) rfl ?_
        refine mz_doQ (R := mz_r59) (as := [.ref 16, .ref 54]) (rest := []) (r1 := none) (m1 := mz_up (mz_cp (mz_cp (mz_up (mz_set (mz_set (mz_set (mz_set w 53 R1) 54 S1) 55 g1) 56 v1) 8 1 0) 17 55 0 0 60) 18 56 0 0 60) 16 2 (nI r.2.2.length)) mz_t59 mz_v59_16 rfl rfl rfl rfl rfl ⟨?_, rfl⟩ ?_
        · refine mz_go 4 (c' := (8, [some (.ref 16), some (.ref 54)], [.ref 17, .ref 55], mz_up (mz_set (mz_set (mz_set (mz_set w 53 R1) 54 S1) 55 g1) 56 v1) 8 1 0)) rfl ?_
          refine mz_doQ (R := mz_r126) (as := [.ref 55, .ref 17]) (rest := []) (r1 := none) (m1 := mz_cp (mz_up (mz_set (mz_set (mz_set (mz_set w 53 R1) 54 S1) 55 g1) 56 v1) 8 1 0) 17 55 0 0 60) mz_t126 mz_v126_55 rfl rfl rfl rfl rfl ⟨?_, rfl⟩ ?_
          · refine mz_go 10 (c' := (14, [some (.ref 55), some (.ref 17)], [], mz_cp (mz_up (mz_set (mz_set (mz_set (mz_set w 53 R1) 54 S1) 55 g1) 56 v1) 8 1 0) 17 55 0 0 60)) rfl ?_
            exact mz_ret rfl
          refine mz_go 4 (c' := (19, [some (.ref 16), some (.ref 54)], [.ref 18, .ref 56], mz_cp (mz_up (mz_set (mz_set (mz_set (mz_set w 53 R1) 54 S1) 55 g1) 56 v1) 8 1 0) 17 55 0 0 60)) rfl ?_
          refine mz_doQ (R := mz_r126) (as := [.ref 56, .ref 18]) (rest := []) (r1 := none) (m1 := mz_cp (mz_cp (mz_up (mz_set (mz_set (mz_set (mz_set w 53 R1) 54 S1) 55 g1) 56 v1) 8 1 0) 17 55 0 0 60) 18 56 0 0 60) mz_t126 mz_v126_56 rfl rfl rfl rfl rfl ⟨?_, rfl⟩ ?_
          · refine mz_go 10 (c' := (14, [some (.ref 56), some (.ref 18)], [], mz_cp (mz_cp (mz_up (mz_set (mz_set (mz_set (mz_set w 53 R1) 54 S1) 55 g1) 56 v1) 8 1 0) 17 55 0 0 60) 18 56 0 0 60)) rfl ?_
            exact mz_ret rfl
          refine mz_go 3 (c' := (27, [some (.ref 16), some (.ref 54)], [.int (S1 2), .ref 16], mz_cp (mz_cp (mz_up (mz_set (mz_set (mz_set (mz_set w 53 R1) 54 S1) 55 g1) 56 v1) 8 1 0) 17 55 0 0 60) 18 56 0 0 60)) rfl ?_
          rw [a5]
          refine mz_go 1 (c' := (30, [some (.ref 16), some (.ref 54)], [], mz_up (mz_cp (mz_cp (mz_up (mz_set (mz_set (mz_set (mz_set w 53 R1) 54 S1) 55 g1) 56 v1) 8 1 0) 17 55 0 0 60) 18 56 0 0 60) 16 2 (nI r.2.2.length))) rfl ?_
          exact mz_ret rfl
        refine mz_go 1 (c' := (64, [some (.ref 0), some (.int 2), some (.int (-1))], [.int 1], mz_up (mz_cp (mz_cp (mz_up (mz_set (mz_set (mz_set (mz_set w 53 R1) 54 S1) 55 g1) 56 v1) 8 1 0) 17 55 0 0 60) 18 56 0 0 60) 16 2 (nI r.2.2.length))) rfl ?_
        exact mz_ret rfl
      · refine mz_go 3 (c' := (3, [some (.ref 65), some (.int 2), none, none, none], [.int 2, .int 0, .int 2], mz_up (mz_cp (mz_cp (mz_up (mz_set (mz_set (mz_set (mz_set w 53 R1) 54 S1) 55 g1) 56 v1) 8 1 0) 17 55 0 0 60) 18 56 0 0 60) 16 2 (nI r.2.2.length))) rfl ?_
        refine mz_doQ (R := mz_r128) (as := [.int 2, .int 0, .int 2]) (rest := []) (r1 := some (.int 1)) (m1 := mz_up (mz_cp (mz_cp (mz_up (mz_set (mz_set (mz_set (mz_set w 53 R1) 54 S1) 55 g1) 56 v1) 8 1 0) 17 55 0 0 60) 18 56 0 0 60) 16 2 (nI r.2.2.length)) mz_t128 mz_v128 rfl rfl rfl rfl rfl ((ct_in1 (m := mz_up (mz_cp (mz_cp (mz_up (mz_set (mz_set (mz_set (mz_set w 53 R1) 54 S1) 55 g1) 56 v1) 8 1 0) 17 55 0 0 60) 18 56 0 0 60) 16 2 (nI r.2.2.length)) (v := 2) (a := 0) (b := 2) (by decide) (by decide)).deep (by decide)) ?_
        refine mz_go 14 (c' := (36, [some (.ref 65), some (.int 2), none, none, none], [.ref 65], mz_up (mz_up (mz_up (mz_up (mz_up (mz_cp (mz_cp (mz_up (mz_set (mz_set (mz_set (mz_set w 53 R1) 54 S1) 55 g1) 56 v1) 8 1 0) 17 55 0 0 60) 18 56 0 0 60) 16 2 (nI r.2.2.length)) 65 12 2) 65 9 0) 65 10 0) 65 11 0)) rfl ?_
        refine mz_doQ (R := mz_r162) (as := [.ref 65]) (rest := []) (r1 := some (.int (sm_bI r.1))) (m1 := mz_set (mz_set (mz_up (mz_cp (mz_cp (mz_up (mz_set (mz_set (mz_set (mz_set w 53 R1) 54 S1) 55 g1) 56 v1) 8 1 0) 17 55 0 0 60) 18 56 0 0 60) 16 2 (nI r.2.2.length)) 65 x1) 69 st1) mz_t162 mz_v162_65 rfl rfl rfl rfl rfl (F1.deep (by decide)) ?_
        rw [a4b]
        refine mz_go 3 (c' := (46, [some (.ref 65), some (.int 2), none, none, none], [.int (x1 9)], mz_set (mz_set (mz_up (mz_cp (mz_cp (mz_up (mz_set (mz_set (mz_set (mz_set w 53 R1) 54 S1) 55 g1) 56 v1) 8 1 0) 17 55 0 0 60) 18 56 0 0 60) 16 2 (nI r.2.2.length)) 65 x1) 69 st1)) rfl ?_
        rw [b1]
        refine mz_go 4 (c' := (52, [some (.ref 65), some (.int 2), none, none, none], [.int (w 66 1), .int (nI r.2.1)], mz_set (mz_set (mz_up (mz_cp (mz_cp (mz_up (mz_set (mz_set (mz_set (mz_set w 53 R1) 54 S1) 55 g1) 56 v1) 8 1 0) 17 55 0 0 60) 18 56 0 0 60) 16 2 (nI r.2.2.length)) 65 x1) 69 st1)) rfl ?_
        rw [h661]
        refine mz_go 1 (c' := (if (nI r.2.1) = (nI TT) then 55 else 59, [some (.ref 65), some (.int 2), none, none, none], [], mz_set (mz_set (mz_up (mz_cp (mz_cp (mz_up (mz_set (mz_set (mz_set (mz_set w 53 R1) 54 S1) 55 g1) 56 v1) 8 1 0) 17 55 0 0 60) 18 56 0 0 60) 16 2 (nI r.2.2.length)) 65 x1) 69 st1)) rfl ?_
        refine mz_ifT (show ((nI r.2.1) = (nI TT)) from (sm_eqN rfl rfl (show r.2.1 = TT by omega))) ?_
        refine mz_go 21 (c' := (98, [some (.ref 65), some (.int 2), some (.int 1), some (.int 420), none], [.int (x1 11), .int 420, .ref 66], mz_up (mz_set (mz_set (mz_up (mz_cp (mz_cp (mz_up (mz_set (mz_set (mz_set (mz_set w 53 R1) 54 S1) 55 g1) 56 v1) 8 1 0) 17 55 0 0 60) 18 56 0 0 60) 16 2 (nI r.2.2.length)) 65 x1) 69 st1) 66 1 0)) rfl ?_
        rw [b5]
        refine mz_go 3 (c' := (102, [some (.ref 65), some (.int 2), some (.int 1), some (.int 420), some (.int 0)], [], mz_up (mz_up (mz_set (mz_set (mz_up (mz_cp (mz_cp (mz_up (mz_set (mz_set (mz_set (mz_set w 53 R1) 54 S1) 55 g1) 56 v1) 8 1 0) 17 55 0 0 60) 18 56 0 0 60) 16 2 (nI r.2.2.length)) 65 x1) 69 st1) 66 1 0) 66 420 (nI r.2.2.length))) rfl ?_
        refine EX _ ?_
        refine mz_go 1 (c' := (138, [some (.ref 65), some (.int 2), some (.int 1), some (.int 420), some (.int (nI (2 * r.2.2.length)))], [.int 1], mz_set (mz_up (mz_up (mz_set (mz_set (mz_up (mz_cp (mz_cp (mz_up (mz_set (mz_set (mz_set (mz_set w 53 R1) 54 S1) 55 g1) 56 v1) 8 1 0) 17 55 0 0 60) 18 56 0 0 60) 16 2 (nI r.2.2.length)) 65 x1) 69 st1) 66 1 0) 66 420 (nI r.2.2.length)) 66 sX)) rfl ?_
        exact mz_ret rfl
      · obtain ⟨-, ⟨d1, d2, d3, ⟨d4, d4b, d4c⟩, d5, d6, d7, d8⟩, da, db, dc⟩ := hI2
        have hs : ∀ i, i ≠ 1 ∧ (i < 420 ∨ 545 ≤ i) → sX i = w 66 i := fun i h => by
          rw [hsX i, if_neg (by omega)]
          rw [mz_up_eq, if_neg (by omega), mz_up_eq, if_neg (by omega), mz_set_ne (show (66 : Nat) ≠ 69 by decide), mz_set_ne (show (66 : Nat) ≠ 65 by decide), mz_up_ne (show (66 : Nat) ≠ 16 by decide), mz_cp_ne (show (66 : Nat) ≠ 18 by decide), mz_cp_ne (show (66 : Nat) ≠ 17 by decide), mz_up_ne (show (66 : Nat) ≠ 8 by decide), mz_set_ne (show (66 : Nat) ≠ 56 by decide), mz_set_ne (show (66 : Nat) ≠ 55 by decide), mz_set_ne (show (66 : Nat) ≠ 54 by decide), mz_set_ne (show (66 : Nat) ≠ 53 by decide)]
        have hbs : sX 420 = nI r.2.2.length := by
          rw [hsX 420, if_neg (by omega)]
          rfl
        have hs1 : sX 1 = 0 := by
          rw [hsX 1, if_neg (by omega)]
          rfl
        have hgA : ∀ i, i < 60 → (mz_set (mz_up (mz_up (mz_set (mz_set (mz_up (mz_cp (mz_cp (mz_up (mz_set (mz_set (mz_set (mz_set w 53 R1) 54 S1) 55 g1) 56 v1) 8 1 0) 17 55 0 0 60) 18 56 0 0 60) 16 2 (nI r.2.2.length)) 65 x1) 69 st1) 66 1 0) 66 420 (nI r.2.2.length)) 66 sX) 17 i = g1 i := fun i hi => sm_cpE (m := mz_up (mz_set (mz_set (mz_set (mz_set w 53 R1) 54 S1) 55 g1) 56 v1) 8 1 0) (i := 17) (j := 55) (n := 60) hi
        have hvA : ∀ i, i < 60 → (mz_set (mz_up (mz_up (mz_set (mz_set (mz_up (mz_cp (mz_cp (mz_up (mz_set (mz_set (mz_set (mz_set w 53 R1) 54 S1) 55 g1) 56 v1) 8 1 0) 17 55 0 0 60) 18 56 0 0 60) 16 2 (nI r.2.2.length)) 65 x1) 69 st1) 66 1 0) 66 420 (nI r.2.2.length)) 66 sX) 18 i = v1 i := fun i hi => sm_cpE (m := mz_cp (mz_up (mz_set (mz_set (mz_set (mz_set w 53 R1) 54 S1) 55 g1) 56 v1) 8 1 0) 17 55 0 0 60) (i := 18) (j := 56) (n := 60) hi
        have hin : tx_in r.2.2 0 ((mz_set (mz_up (mz_up (mz_set (mz_set (mz_up (mz_cp (mz_cp (mz_up (mz_set (mz_set (mz_set (mz_set w 53 R1) 54 S1) 55 g1) 56 v1) 8 1 0) 17 55 0 0 60) 18 56 0 0 60) 16 2 (nI r.2.2.length)) 65 x1) 69 st1) 66 1 0) 66 420 (nI r.2.2.length)) 66 sX) 17) ((mz_set (mz_up (mz_up (mz_set (mz_set (mz_up (mz_cp (mz_cp (mz_up (mz_set (mz_set (mz_set (mz_set w 53 R1) 54 S1) 55 g1) 56 v1) 8 1 0) 17 55 0 0 60) 18 56 0 0 60) 16 2 (nI r.2.2.length)) 65 x1) 69 st1) 66 1 0) 66 420 (nI r.2.2.length)) 66 sX) 18) := tx_in_keep a6 (fun i hi => ⟨hgA i (by omega), hvA i (by omega)⟩)
        have hwf : sm_wf r.2.2.length 5 ((mz_set (mz_up (mz_up (mz_set (mz_set (mz_up (mz_cp (mz_cp (mz_up (mz_set (mz_set (mz_set (mz_set w 53 R1) 54 S1) 55 g1) 56 v1) 8 1 0) 17 55 0 0 60) 18 56 0 0 60) 16 2 (nI r.2.2.length)) 65 x1) 69 st1) 66 1 0) 66 420 (nI r.2.2.length)) 66 sX) 17) ((mz_set (mz_up (mz_up (mz_set (mz_set (mz_up (mz_cp (mz_cp (mz_up (mz_set (mz_set (mz_set (mz_set w 53 R1) 54 S1) 55 g1) 56 v1) 8 1 0) 17 55 0 0 60) 18 56 0 0 60) 16 2 (nI r.2.2.length)) 65 x1) 69 st1) 66 1 0) 66 420 (nI r.2.2.length)) 66 sX) 18) := tx_wf (by omega) hin (G5 0)
        have hc4 : sm_c4 ((mz_set (mz_up (mz_up (mz_set (mz_set (mz_up (mz_cp (mz_cp (mz_up (mz_set (mz_set (mz_set (mz_set w 53 R1) 54 S1) 55 g1) 56 v1) 8 1 0) 17 55 0 0 60) 18 56 0 0 60) 16 2 (nI r.2.2.length)) 65 x1) 69 st1) 66 1 0) 66 420 (nI r.2.2.length)) 66 sX) 16) ((mz_set (mz_up (mz_up (mz_set (mz_set (mz_up (mz_cp (mz_cp (mz_up (mz_set (mz_set (mz_set (mz_set w 53 R1) 54 S1) 55 g1) 56 v1) 8 1 0) 17 55 0 0 60) 18 56 0 0 60) 16 2 (nI r.2.2.length)) 65 x1) 69 st1) 66 1 0) 66 420 (nI r.2.2.length)) 66 sX) 17) ((mz_set (mz_up (mz_up (mz_set (mz_set (mz_up (mz_cp (mz_cp (mz_up (mz_set (mz_set (mz_set (mz_set w 53 R1) 54 S1) 55 g1) 56 v1) 8 1 0) 17 55 0 0 60) 18 56 0 0 60) 16 2 (nI r.2.2.length)) 65 x1) 69 st1) 66 1 0) 66 420 (nI r.2.2.length)) 66 sX) 18) 5 420 sm_ch2 sX := by
          refine ⟨r.2.2.length, rfl, hbs, Or.inr hwf, fun k hk => ?_⟩
          have h1 := b6 k hk
          obtain ⟨h2, h3⟩ := hin k hk
          rw [Nat.zero_add] at h1 h2 h3
          rw [h2, h3, hsX (420 + 1 + 2 * k), if_pos (by omega), hsX (420 + 2 + 2 * k), if_pos (by omega), show 420 + 1 + 2 * k - 421 = 2 * k by omega, show 420 + 2 + 2 * k - 421 = 2 * k + 1 by omega]
          exact h1
        have hc3 : sm_c3 ((mz_set (mz_up (mz_up (mz_set (mz_set (mz_up (mz_cp (mz_cp (mz_up (mz_set (mz_set (mz_set (mz_set w 53 R1) 54 S1) 55 g1) 56 v1) 8 1 0) 17 55 0 0 60) 18 56 0 0 60) 16 2 (nI r.2.2.length)) 65 x1) 69 st1) 66 1 0) 66 420 (nI r.2.2.length)) 66 sX) 8) ((mz_set (mz_up (mz_up (mz_set (mz_set (mz_up (mz_cp (mz_cp (mz_up (mz_set (mz_set (mz_set (mz_set w 53 R1) 54 S1) 55 g1) 56 v1) 8 1 0) 17 55 0 0 60) 18 56 0 0 60) 16 2 (nI r.2.2.length)) 65 x1) 69 st1) 66 1 0) 66 420 (nI r.2.2.length)) 66 sX) 9) sX := ⟨⟨0, by decide, rfl, hs1⟩, fun i hi => ⟨(d3.2 i hi).1, (hs (550 + i) (by omega)).trans (d3.2 i hi).2⟩⟩
        exact ⟨hn, ⟨sm_k1 (hs 0 (by omega)) (fun i h1 h2 => hs i (by omega)) d1, sm_k2 (fun i h1 h2 => hs i (by omega)) d2, hc3, ⟨sm_k4 (fun i h1 h2 => hs i (by omega)) d4, sm_k4 (fun i h1 h2 => hs i (by omega)) d4b, hc4⟩, sm_k5 (fun i h1 h2 => hs i (by omega)) d5, sm_k6 (fun i h1 h2 => hs i (by omega)) d6, sm_k7 (fun i h1 h2 => hs i (by omega)) d7, sm_k8 (hs 2 (by omega)) (hs 3 (by omega)) (fun i h1 h2 => hs i (by omega)) d8⟩, da, (by rw [show (mz_set (mz_up (mz_up (mz_set (mz_set (mz_up (mz_cp (mz_cp (mz_up (mz_set (mz_set (mz_set (mz_set w 53 R1) 54 S1) 55 g1) 56 v1) 8 1 0) 17 55 0 0 60) 18 56 0 0 60) 16 2 (nI r.2.2.length)) 65 x1) 69 st1) 66 1 0) 66 420 (nI r.2.2.length)) 66 sX) 65 19 = w 65 19 from x19]; exact db), (by rw [show (mz_set (mz_up (mz_up (mz_set (mz_set (mz_up (mz_cp (mz_cp (mz_up (mz_set (mz_set (mz_set (mz_set w 53 R1) 54 S1) 55 g1) 56 v1) 8 1 0) 17 55 0 0 60) 18 56 0 0 60) 16 2 (nI r.2.2.length)) 65 x1) 69 st1) 66 1 0) 66 420 (nI r.2.2.length)) 66 sX) 65 2 = w 65 2 from x2]; exact sm_cc_of (fun i h1 h2 => by simp only [mz_cp_ne (show i ≠ 17 by omega), mz_cp_ne (show i ≠ 18 by omega), mz_set_ne (show i ≠ 53 by omega), mz_set_ne (show i ≠ 54 by omega), mz_set_ne (show i ≠ 55 by omega), mz_set_ne (show i ≠ 56 by omega), mz_set_ne (show i ≠ 65 by omega), mz_set_ne (show i ≠ 66 by omega), mz_set_ne (show i ≠ 69 by omega), mz_up_ne (show i ≠ 16 by omega), mz_up_ne (show i ≠ 66 by omega), mz_up_ne (show i ≠ 8 by omega)]) dc)⟩
    · skip
      have hmU : mz_up (mz_up (mz_up (mz_up (mz_up (mz_set (mz_set (mz_set (mz_set w 53 R1) 54 S1) 55 g1) 56 v1) 8 1 0) 65 12 2) 65 9 0) 65 10 0) 65 11 0 = mz_set (mz_set (mz_up (mz_set (mz_set (mz_set (mz_set w 53 R1) 54 S1) 55 g1) 56 v1) 8 1 0) 65 ((mz_up (mz_up (mz_up (mz_up (mz_up (mz_set (mz_set (mz_set (mz_set w 53 R1) 54 S1) 55 g1) 56 v1) 8 1 0) 65 12 2) 65 9 0) 65 10 0) 65 11 0) 65)) 69 (w 69) := sm_of2 (fun i h1 h2 => by simp only [mz_up_ne h1])
      obtain ⟨x1, st1, F1, p1⟩ := (tr_all (u := 2) (T := TT) (b := w 9) (by decide) hTT 36).2 0 0 (by decide) (by decide) (by decide) (mz_up (mz_set (mz_set (mz_set (mz_set w 53 R1) 54 S1) 55 g1) 56 v1) 8 1 0) ((mz_up (mz_up (mz_up (mz_up (mz_up (mz_set (mz_set (mz_set (mz_set w 53 R1) 54 S1) 55 g1) 56 v1) 8 1 0) 65 12 2) 65 9 0) 65 10 0) 65 11 0) 65) (w 69) h661 (fun i hi => (htp i hi).2) 0 0 (Nat.le_refl 0) (Nat.zero_le TT) rfl rfl rfl rfl
      rw [← hmU] at F1
      rw [hr] at p1 F1
      obtain ⟨b1, b2, bb⟩ := p1
      have x2 : x1 2 = w 65 2 := b2 2 (by decide) (by decide) (by decide)
      have x19 : x1 19 = w 65 19 := b2 19 (by decide) (by decide) (by decide)
      refine ⟨(-10) - (nI r.2.1), (-10) - (nI r.2.1), mz_up (mz_set (mz_set (mz_set (mz_set w 53 R1) 54 S1) 55 g1) 56 v1) 8 1 0, mz_up (mz_set (mz_set (mz_up (mz_set (mz_set (mz_set (mz_set w 53 R1) 54 S1) 55 g1) 56 v1) 8 1 0) 65 x1) 69 st1) 66 1 0, ⟨?_, rfl⟩, ⟨?_, rfl⟩, ?_, rfl⟩
      · refine mz_go 1 (c' := (1, [some (.ref 0), some (.int 2), none], [.int 2], w)) rfl ?_
        refine mz_doQ (R := mz_r119) (as := [.int 2]) (rest := []) (r1 := some (.int 1)) (m1 := w) mz_t119 mz_v119 rfl rfl rfl rfl rfl ⟨?_, rfl⟩ ?_
        · refine mz_go 3 (c' := (3, [some (.int 2)], [.int 2, .int 0, .int 2], w)) rfl ?_
          refine mz_doQ (R := mz_r121) (as := [.int 2, .int 0, .int 2]) (rest := []) (r1 := some (.int 1)) (m1 := w) mz_t121 mz_v121 rfl rfl rfl rfl rfl ((cs_in1 (m := w) (v := 2) (a := 0) (b := 2) (by decide) (by decide)).deep (by decide)) ?_
          exact mz_ret rfl
        refine mz_go 4 (c' := (18, [some (.ref 0), some (.int 2), none], [.int 2, .ref 53], w)) rfl ?_
        refine mz_doQ (R := mz_r120) (as := [.int 2]) (rest := [.ref 53]) (r1 := some (.ref 2003)) (m1 := w) mz_t120 mz_v120 rfl rfl rfl rfl rfl ⟨?_, rfl⟩ ?_
        · refine mz_go 6 (c' := (24, [some (.int 2)], [.ref 2003], w)) rfl ?_
          exact mz_ret rfl
        refine mz_doQ (R := mz_r28) (as := [.ref 53, .ref 2003]) (rest := []) (r1 := some (.int (nI r.2.1))) (m1 := mz_set (mz_set (mz_set (mz_set w 53 R1) 54 S1) 55 g1) 56 v1) mz_t28 mz_v28_53 rfl rfl rfl rfl rfl ⟨?_, rfl⟩ ?_
        · refine mz_go 16 (c' := (26, [some (.ref 53), some (.ref 2003)], [.int 0, .int 0, .ref 53], mz_up (mz_up (mz_up (mz_up w 53 2 2003) 53 3 0) 53 4 1) 54 2 0)) rfl ?_
          refine mz_doQ (R := mz_r29) (as := [.ref 53, .int 0, .int 0]) (rest := []) (r1 := none) (m1 := mz_set (mz_set (mz_set (mz_set w 53 R1) 54 S1) 55 g1) 56 v1) mz_t29 mz_v29_53 rfl rfl rfl rfl rfl (E1.deep (by decide)) ?_
          refine mz_go 2 (c' := (33, [some (.ref 53), some (.ref 2003)], [.int (R1 4)], mz_set (mz_set (mz_set (mz_set w 53 R1) 54 S1) 55 g1) 56 v1)) rfl ?_
          rw [a4]
          refine mz_go 3 (c' := (40, [some (.ref 53), some (.ref 2003)], [.int (R1 3)], mz_set (mz_set (mz_set (mz_set w 53 R1) 54 S1) 55 g1) 56 v1)) rfl ?_
          rw [a1]
          refine mz_go 3 (c' := (47, [some (.ref 53), some (.ref 2003)], [.int (w 8 1), .int (nI r.2.1)], mz_set (mz_set (mz_set (mz_set w 53 R1) 54 S1) 55 g1) 56 v1)) rfl ?_
          rw [h81]
          refine mz_go 1 (c' := (if (nI r.2.1) = (nI TT) then 50 else 54, [some (.ref 53), some (.ref 2003)], [], mz_set (mz_set (mz_set (mz_set w 53 R1) 54 S1) 55 g1) 56 v1)) rfl ?_
          refine mz_ifF (show ¬ ((nI r.2.1) = (nI TT)) from (sm_neN rfl rfl (show r.2.1 ≠ TT by omega) (show r.2.1 < 2 ^ 31 by omega) (show TT < 2 ^ 31 by omega))) ?_
          refine mz_go 2 (c' := (58, [some (.ref 53), some (.ref 2003)], [.int (R1 3)], mz_set (mz_set (mz_set (mz_set w 53 R1) 54 S1) 55 g1) 56 v1)) rfl ?_
          rw [a1]
          exact mz_ret rfl
        refine mz_go 8 (c' := (if (nI r.2.1) < 0 then 45 else 40, [some (.ref 0), some (.int 2), some (.int (nI r.2.1))], [], mz_up (mz_set (mz_set (mz_set (mz_set w 53 R1) 54 S1) 55 g1) 56 v1) 8 1 0)) rfl ?_
        refine mz_ifF (show ¬ ((nI r.2.1) < 0) from (sm_nltN rfl rfl (show 0 ≤ r.2.1 by omega) (show r.2.1 < 2 ^ 31 by omega))) ?_
        refine mz_go 3 (c' := (44, [some (.ref 0), some (.int 2), some (.int (nI r.2.1))], [.int ((-10) - (nI r.2.1))], mz_up (mz_set (mz_set (mz_set (mz_set w 53 R1) 54 S1) 55 g1) 56 v1) 8 1 0)) rfl ?_
        exact mz_ret rfl
      · refine mz_go 3 (c' := (3, [some (.ref 65), some (.int 2), none, none, none], [.int 2, .int 0, .int 2], mz_up (mz_set (mz_set (mz_set (mz_set w 53 R1) 54 S1) 55 g1) 56 v1) 8 1 0)) rfl ?_
        refine mz_doQ (R := mz_r128) (as := [.int 2, .int 0, .int 2]) (rest := []) (r1 := some (.int 1)) (m1 := mz_up (mz_set (mz_set (mz_set (mz_set w 53 R1) 54 S1) 55 g1) 56 v1) 8 1 0) mz_t128 mz_v128 rfl rfl rfl rfl rfl ((ct_in1 (m := mz_up (mz_set (mz_set (mz_set (mz_set w 53 R1) 54 S1) 55 g1) 56 v1) 8 1 0) (v := 2) (a := 0) (b := 2) (by decide) (by decide)).deep (by decide)) ?_
        refine mz_go 14 (c' := (36, [some (.ref 65), some (.int 2), none, none, none], [.ref 65], mz_up (mz_up (mz_up (mz_up (mz_up (mz_set (mz_set (mz_set (mz_set w 53 R1) 54 S1) 55 g1) 56 v1) 8 1 0) 65 12 2) 65 9 0) 65 10 0) 65 11 0)) rfl ?_
        refine mz_doQ (R := mz_r162) (as := [.ref 65]) (rest := []) (r1 := some (.int (sm_bI r.1))) (m1 := mz_set (mz_set (mz_up (mz_set (mz_set (mz_set (mz_set w 53 R1) 54 S1) 55 g1) 56 v1) 8 1 0) 65 x1) 69 st1) mz_t162 mz_v162_65 rfl rfl rfl rfl rfl (F1.deep (by decide)) ?_
        rw [a4b]
        refine mz_go 3 (c' := (46, [some (.ref 65), some (.int 2), none, none, none], [.int (x1 9)], mz_set (mz_set (mz_up (mz_set (mz_set (mz_set (mz_set w 53 R1) 54 S1) 55 g1) 56 v1) 8 1 0) 65 x1) 69 st1)) rfl ?_
        rw [b1]
        refine mz_go 4 (c' := (52, [some (.ref 65), some (.int 2), none, none, none], [.int (w 66 1), .int (nI r.2.1)], mz_set (mz_set (mz_up (mz_set (mz_set (mz_set (mz_set w 53 R1) 54 S1) 55 g1) 56 v1) 8 1 0) 65 x1) 69 st1)) rfl ?_
        rw [h661]
        refine mz_go 1 (c' := (if (nI r.2.1) = (nI TT) then 55 else 59, [some (.ref 65), some (.int 2), none, none, none], [], mz_set (mz_set (mz_up (mz_set (mz_set (mz_set (mz_set w 53 R1) 54 S1) 55 g1) 56 v1) 8 1 0) 65 x1) 69 st1)) rfl ?_
        refine mz_ifF (show ¬ ((nI r.2.1) = (nI TT)) from (sm_neN rfl rfl (show r.2.1 ≠ TT by omega) (show r.2.1 < 2 ^ 31 by omega) (show TT < 2 ^ 31 by omega))) ?_
        refine mz_go 12 (c' := (78, [some (.ref 65), some (.int 2), some (.int 0), none, none], [.int (x1 9), .int (-10)], mz_up (mz_set (mz_set (mz_up (mz_set (mz_set (mz_set (mz_set w 53 R1) 54 S1) 55 g1) 56 v1) 8 1 0) 65 x1) 69 st1) 66 1 0)) rfl ?_
        rw [b1]
        refine mz_go 1 (c' := (79, [some (.ref 65), some (.int 2), some (.int 0), none, none], [.int ((-10) - (nI r.2.1))], mz_up (mz_set (mz_set (mz_up (mz_set (mz_set (mz_set (mz_set w 53 R1) 54 S1) 55 g1) 56 v1) 8 1 0) 65 x1) 69 st1) 66 1 0)) rfl ?_
        exact mz_ret rfl
      · obtain ⟨-, ⟨d1, d2, d3, ⟨d4, d4b, d4c⟩, d5, d6, d7, d8⟩, da, db, dc⟩ := hI2
        have hs : ∀ i, i ≠ 1 → (mz_up (mz_set (mz_set (mz_up (mz_set (mz_set (mz_set (mz_set w 53 R1) 54 S1) 55 g1) 56 v1) 8 1 0) 65 x1) 69 st1) 66 1 0) 66 i = w 66 i := fun i h => by
          rw [mz_up_eq, if_neg h, mz_set_ne (show (66 : Nat) ≠ 69 by decide), mz_set_ne (show (66 : Nat) ≠ 65 by decide), mz_up_ne (show (66 : Nat) ≠ 8 by decide), mz_set_ne (show (66 : Nat) ≠ 56 by decide), mz_set_ne (show (66 : Nat) ≠ 55 by decide), mz_set_ne (show (66 : Nat) ≠ 54 by decide), mz_set_ne (show (66 : Nat) ≠ 53 by decide)]
        have hs : ∀ i, i ≠ 1 ∧ i < 650 → (mz_up (mz_set (mz_set (mz_up (mz_set (mz_set (mz_set (mz_set w 53 R1) 54 S1) 55 g1) 56 v1) 8 1 0) 65 x1) 69 st1) 66 1 0) 66 i = w 66 i := fun i h => hs i h.1
        have hc3 : sm_c3 ((mz_up (mz_set (mz_set (mz_up (mz_set (mz_set (mz_set (mz_set w 53 R1) 54 S1) 55 g1) 56 v1) 8 1 0) 65 x1) 69 st1) 66 1 0) 8) ((mz_up (mz_set (mz_set (mz_up (mz_set (mz_set (mz_set (mz_set w 53 R1) 54 S1) 55 g1) 56 v1) 8 1 0) 65 x1) 69 st1) 66 1 0) 9) ((mz_up (mz_set (mz_set (mz_up (mz_set (mz_set (mz_set (mz_set w 53 R1) 54 S1) 55 g1) 56 v1) 8 1 0) 65 x1) 69 st1) 66 1 0) 66) := ⟨⟨0, by decide, rfl, rfl⟩, fun i hi => ⟨(d3.2 i hi).1, (hs (550 + i) (by omega)).trans (d3.2 i hi).2⟩⟩
        exact ⟨hn, ⟨sm_k1 (hs 0 (by omega)) (fun i h1 h2 => hs i (by omega)) d1, sm_k2 (fun i h1 h2 => hs i (by omega)) d2, hc3, ⟨sm_k4 (fun i h1 h2 => hs i (by omega)) d4, sm_k4 (fun i h1 h2 => hs i (by omega)) d4b, sm_k4 (fun i h1 h2 => hs i (by omega)) d4c⟩, sm_k5 (fun i h1 h2 => hs i (by omega)) d5, sm_k6 (fun i h1 h2 => hs i (by omega)) d6, sm_k7 (fun i h1 h2 => hs i (by omega)) d7, sm_k8 (hs 2 (by omega)) (hs 3 (by omega)) (fun i h1 h2 => hs i (by omega)) d8⟩, da, (by rw [show (mz_up (mz_set (mz_set (mz_up (mz_set (mz_set (mz_set (mz_set w 53 R1) 54 S1) 55 g1) 56 v1) 8 1 0) 65 x1) 69 st1) 66 1 0) 65 19 = w 65 19 from x19]; exact db), (by rw [show (mz_up (mz_set (mz_set (mz_up (mz_set (mz_set (mz_set (mz_set w 53 R1) 54 S1) 55 g1) 56 v1) 8 1 0) 65 x1) 69 st1) 66 1 0) 65 2 = w 65 2 from x2]; exact sm_cc_of (fun i h1 h2 => by simp only [mz_set_ne (show i ≠ 53 by omega), mz_set_ne (show i ≠ 54 by omega), mz_set_ne (show i ≠ 55 by omega), mz_set_ne (show i ≠ 56 by omega), mz_set_ne (show i ≠ 65 by omega), mz_set_ne (show i ≠ 69 by omega), mz_up_ne (show i ≠ 66 by omega), mz_up_ne (show i ≠ 8 by omega)]) dc)⟩
  · have a4 : R1 4 = 0 := by rw [a2, eq_false_of_ne_true ok]; rfl
    have a4b : sm_bI r.1 = 0 := by rw [eq_false_of_ne_true ok]; rfl
    have hmU : mz_up (mz_up (mz_up (mz_up (mz_up (mz_set (mz_set (mz_set (mz_set w 53 R1) 54 S1) 55 g1) 56 v1) 8 1 0) 65 12 2) 65 9 0) 65 10 0) 65 11 0 = mz_set (mz_set (mz_up (mz_set (mz_set (mz_set (mz_set w 53 R1) 54 S1) 55 g1) 56 v1) 8 1 0) 65 ((mz_up (mz_up (mz_up (mz_up (mz_up (mz_set (mz_set (mz_set (mz_set w 53 R1) 54 S1) 55 g1) 56 v1) 8 1 0) 65 12 2) 65 9 0) 65 10 0) 65 11 0) 65)) 69 (w 69) := sm_of2 (fun i h1 h2 => by simp only [mz_up_ne h1])
    obtain ⟨x1, st1, F1, p1⟩ := (tr_all (u := 2) (T := TT) (b := w 9) (by decide) hTT 36).2 0 0 (by decide) (by decide) (by decide) (mz_up (mz_set (mz_set (mz_set (mz_set w 53 R1) 54 S1) 55 g1) 56 v1) 8 1 0) ((mz_up (mz_up (mz_up (mz_up (mz_up (mz_set (mz_set (mz_set (mz_set w 53 R1) 54 S1) 55 g1) 56 v1) 8 1 0) 65 12 2) 65 9 0) 65 10 0) 65 11 0) 65) (w 69) h661 (fun i hi => (htp i hi).2) 0 0 (Nat.le_refl 0) (Nat.zero_le TT) rfl rfl rfl rfl
    rw [← hmU] at F1
    rw [hr] at p1 F1
    obtain ⟨b1, b2, bb⟩ := p1
    have x2 : x1 2 = w 65 2 := b2 2 (by decide) (by decide) (by decide)
    have x19 : x1 19 = w 65 19 := b2 19 (by decide) (by decide) (by decide)
    refine ⟨(-10) - (nI r.2.1), (-10) - (nI r.2.1), mz_up (mz_set (mz_set (mz_set (mz_set w 53 R1) 54 S1) 55 g1) 56 v1) 8 1 0, mz_up (mz_set (mz_set (mz_up (mz_set (mz_set (mz_set (mz_set w 53 R1) 54 S1) 55 g1) 56 v1) 8 1 0) 65 x1) 69 st1) 66 1 0, ⟨?_, rfl⟩, ⟨?_, rfl⟩, ?_, rfl⟩
    · refine mz_go 1 (c' := (1, [some (.ref 0), some (.int 2), none], [.int 2], w)) rfl ?_
      refine mz_doQ (R := mz_r119) (as := [.int 2]) (rest := []) (r1 := some (.int 1)) (m1 := w) mz_t119 mz_v119 rfl rfl rfl rfl rfl ⟨?_, rfl⟩ ?_
      · refine mz_go 3 (c' := (3, [some (.int 2)], [.int 2, .int 0, .int 2], w)) rfl ?_
        refine mz_doQ (R := mz_r121) (as := [.int 2, .int 0, .int 2]) (rest := []) (r1 := some (.int 1)) (m1 := w) mz_t121 mz_v121 rfl rfl rfl rfl rfl ((cs_in1 (m := w) (v := 2) (a := 0) (b := 2) (by decide) (by decide)).deep (by decide)) ?_
        exact mz_ret rfl
      refine mz_go 4 (c' := (18, [some (.ref 0), some (.int 2), none], [.int 2, .ref 53], w)) rfl ?_
      refine mz_doQ (R := mz_r120) (as := [.int 2]) (rest := [.ref 53]) (r1 := some (.ref 2003)) (m1 := w) mz_t120 mz_v120 rfl rfl rfl rfl rfl ⟨?_, rfl⟩ ?_
      · refine mz_go 6 (c' := (24, [some (.int 2)], [.ref 2003], w)) rfl ?_
        exact mz_ret rfl
      refine mz_doQ (R := mz_r28) (as := [.ref 53, .ref 2003]) (rest := []) (r1 := some (.int (nI r.2.1))) (m1 := mz_set (mz_set (mz_set (mz_set w 53 R1) 54 S1) 55 g1) 56 v1) mz_t28 mz_v28_53 rfl rfl rfl rfl rfl ⟨?_, rfl⟩ ?_
      · refine mz_go 16 (c' := (26, [some (.ref 53), some (.ref 2003)], [.int 0, .int 0, .ref 53], mz_up (mz_up (mz_up (mz_up w 53 2 2003) 53 3 0) 53 4 1) 54 2 0)) rfl ?_
        refine mz_doQ (R := mz_r29) (as := [.ref 53, .int 0, .int 0]) (rest := []) (r1 := none) (m1 := mz_set (mz_set (mz_set (mz_set w 53 R1) 54 S1) 55 g1) 56 v1) mz_t29 mz_v29_53 rfl rfl rfl rfl rfl (E1.deep (by decide)) ?_
        refine mz_go 2 (c' := (33, [some (.ref 53), some (.ref 2003)], [.int (R1 4)], mz_set (mz_set (mz_set (mz_set w 53 R1) 54 S1) 55 g1) 56 v1)) rfl ?_
        rw [a4]
        refine mz_go 3 (c' := (58, [some (.ref 53), some (.ref 2003)], [.int (R1 3)], mz_set (mz_set (mz_set (mz_set w 53 R1) 54 S1) 55 g1) 56 v1)) rfl ?_
        rw [a1]
        exact mz_ret rfl
      refine mz_go 8 (c' := (if (nI r.2.1) < 0 then 45 else 40, [some (.ref 0), some (.int 2), some (.int (nI r.2.1))], [], mz_up (mz_set (mz_set (mz_set (mz_set w 53 R1) 54 S1) 55 g1) 56 v1) 8 1 0)) rfl ?_
      refine mz_ifF (show ¬ ((nI r.2.1) < 0) from (sm_nltN rfl rfl (show 0 ≤ r.2.1 by omega) (show r.2.1 < 2 ^ 31 by omega))) ?_
      refine mz_go 3 (c' := (44, [some (.ref 0), some (.int 2), some (.int (nI r.2.1))], [.int ((-10) - (nI r.2.1))], mz_up (mz_set (mz_set (mz_set (mz_set w 53 R1) 54 S1) 55 g1) 56 v1) 8 1 0)) rfl ?_
      exact mz_ret rfl
    · refine mz_go 3 (c' := (3, [some (.ref 65), some (.int 2), none, none, none], [.int 2, .int 0, .int 2], mz_up (mz_set (mz_set (mz_set (mz_set w 53 R1) 54 S1) 55 g1) 56 v1) 8 1 0)) rfl ?_
      refine mz_doQ (R := mz_r128) (as := [.int 2, .int 0, .int 2]) (rest := []) (r1 := some (.int 1)) (m1 := mz_up (mz_set (mz_set (mz_set (mz_set w 53 R1) 54 S1) 55 g1) 56 v1) 8 1 0) mz_t128 mz_v128 rfl rfl rfl rfl rfl ((ct_in1 (m := mz_up (mz_set (mz_set (mz_set (mz_set w 53 R1) 54 S1) 55 g1) 56 v1) 8 1 0) (v := 2) (a := 0) (b := 2) (by decide) (by decide)).deep (by decide)) ?_
      refine mz_go 14 (c' := (36, [some (.ref 65), some (.int 2), none, none, none], [.ref 65], mz_up (mz_up (mz_up (mz_up (mz_up (mz_set (mz_set (mz_set (mz_set w 53 R1) 54 S1) 55 g1) 56 v1) 8 1 0) 65 12 2) 65 9 0) 65 10 0) 65 11 0)) rfl ?_
      refine mz_doQ (R := mz_r162) (as := [.ref 65]) (rest := []) (r1 := some (.int (sm_bI r.1))) (m1 := mz_set (mz_set (mz_up (mz_set (mz_set (mz_set (mz_set w 53 R1) 54 S1) 55 g1) 56 v1) 8 1 0) 65 x1) 69 st1) mz_t162 mz_v162_65 rfl rfl rfl rfl rfl (F1.deep (by decide)) ?_
      rw [a4b]
      refine mz_go 13 (c' := (78, [some (.ref 65), some (.int 2), some (.int 0), none, none], [.int (x1 9), .int (-10)], mz_up (mz_set (mz_set (mz_up (mz_set (mz_set (mz_set (mz_set w 53 R1) 54 S1) 55 g1) 56 v1) 8 1 0) 65 x1) 69 st1) 66 1 0)) rfl ?_
      rw [b1]
      refine mz_go 1 (c' := (79, [some (.ref 65), some (.int 2), some (.int 0), none, none], [.int ((-10) - (nI r.2.1))], mz_up (mz_set (mz_set (mz_up (mz_set (mz_set (mz_set (mz_set w 53 R1) 54 S1) 55 g1) 56 v1) 8 1 0) 65 x1) 69 st1) 66 1 0)) rfl ?_
      exact mz_ret rfl
    · obtain ⟨-, ⟨d1, d2, d3, ⟨d4, d4b, d4c⟩, d5, d6, d7, d8⟩, da, db, dc⟩ := hI2
      have hs : ∀ i, i ≠ 1 → (mz_up (mz_set (mz_set (mz_up (mz_set (mz_set (mz_set (mz_set w 53 R1) 54 S1) 55 g1) 56 v1) 8 1 0) 65 x1) 69 st1) 66 1 0) 66 i = w 66 i := fun i h => by
        rw [mz_up_eq, if_neg h, mz_set_ne (show (66 : Nat) ≠ 69 by decide), mz_set_ne (show (66 : Nat) ≠ 65 by decide), mz_up_ne (show (66 : Nat) ≠ 8 by decide), mz_set_ne (show (66 : Nat) ≠ 56 by decide), mz_set_ne (show (66 : Nat) ≠ 55 by decide), mz_set_ne (show (66 : Nat) ≠ 54 by decide), mz_set_ne (show (66 : Nat) ≠ 53 by decide)]
      have hs : ∀ i, i ≠ 1 ∧ i < 650 → (mz_up (mz_set (mz_set (mz_up (mz_set (mz_set (mz_set (mz_set w 53 R1) 54 S1) 55 g1) 56 v1) 8 1 0) 65 x1) 69 st1) 66 1 0) 66 i = w 66 i := fun i h => hs i h.1
      have hc3 : sm_c3 ((mz_up (mz_set (mz_set (mz_up (mz_set (mz_set (mz_set (mz_set w 53 R1) 54 S1) 55 g1) 56 v1) 8 1 0) 65 x1) 69 st1) 66 1 0) 8) ((mz_up (mz_set (mz_set (mz_up (mz_set (mz_set (mz_set (mz_set w 53 R1) 54 S1) 55 g1) 56 v1) 8 1 0) 65 x1) 69 st1) 66 1 0) 9) ((mz_up (mz_set (mz_set (mz_up (mz_set (mz_set (mz_set (mz_set w 53 R1) 54 S1) 55 g1) 56 v1) 8 1 0) 65 x1) 69 st1) 66 1 0) 66) := ⟨⟨0, by decide, rfl, rfl⟩, fun i hi => ⟨(d3.2 i hi).1, (hs (550 + i) (by omega)).trans (d3.2 i hi).2⟩⟩
      exact ⟨hn, ⟨sm_k1 (hs 0 (by omega)) (fun i h1 h2 => hs i (by omega)) d1, sm_k2 (fun i h1 h2 => hs i (by omega)) d2, hc3, ⟨sm_k4 (fun i h1 h2 => hs i (by omega)) d4, sm_k4 (fun i h1 h2 => hs i (by omega)) d4b, sm_k4 (fun i h1 h2 => hs i (by omega)) d4c⟩, sm_k5 (fun i h1 h2 => hs i (by omega)) d5, sm_k6 (fun i h1 h2 => hs i (by omega)) d6, sm_k7 (fun i h1 h2 => hs i (by omega)) d7, sm_k8 (hs 2 (by omega)) (hs 3 (by omega)) (fun i h1 h2 => hs i (by omega)) d8⟩, da, (by rw [show (mz_up (mz_set (mz_set (mz_up (mz_set (mz_set (mz_set (mz_set w 53 R1) 54 S1) 55 g1) 56 v1) 8 1 0) 65 x1) 69 st1) 66 1 0) 65 19 = w 65 19 from x19]; exact db), (by rw [show (mz_up (mz_set (mz_set (mz_up (mz_set (mz_set (mz_set (mz_set w 53 R1) 54 S1) 55 g1) 56 v1) 8 1 0) 65 x1) 69 st1) 66 1 0) 65 2 = w 65 2 from x2]; exact sm_cc_of (fun i h1 h2 => by simp only [mz_set_ne (show i ≠ 53 by omega), mz_set_ne (show i ≠ 54 by omega), mz_set_ne (show i ≠ 55 by omega), mz_set_ne (show i ≠ 56 by omega), mz_set_ne (show i ≠ 65 by omega), mz_set_ne (show i ≠ 69 by omega), mz_up_ne (show i ≠ 66 by omega), mz_up_ne (show i ≠ 8 by omega)]) dc)⟩
set_option maxHeartbeats 4000000 in
set_option maxRecDepth 100000 in
theorem sc_text {n : Nat} (hn : n < 64) {w : mz_M} (hI : sm_I n w) (xa : Int32) : ∃ v1 v2 m1 m2, mz_Me 100 mz_r75 [.ref 0, .int xa] w (some (.int v1)) m1 ∧ mz_Me 100 mz_r170 [.ref 65, .int xa] m1 (some (.int v2)) m2 ∧ sm_I (n + 1) m2 ∧ v1 = v2 := by
  by_cases q1 : xa < 0
  · have hI2 := hI
    obtain ⟨hn0, ⟨-, ⟨hr80, hr5, hrr⟩, ⟨⟨TT, hTT, h81, h661⟩, htp⟩, ⟨⟨T0, hT0, hU0, hV0, -⟩, ⟨T1, hT1, hU1, hV1, -⟩, ⟨T2, hT2, hU2, hV2, -⟩⟩, ⟨hbx, hby, hbl⟩, ⟨⟨WW, HH, hWW, hHH, hWH, h202, h203, h6660, h6661⟩, h6662, h6663, h6664, hpc⟩, ⟨hth, h66160, hthr⟩, ⟨⟨AA, hAA, h111, h662⟩, h663, hwt⟩⟩, ⟨hsh, hsn⟩, ⟨hcb1, hcb2⟩, ⟨JJ, hJJ, h07, h652, hkept⟩⟩ := hI
    obtain ⟨N, hw, hr2, h660, -, -, h6615⟩ := sm_world hI2
    have hw2 := hw
    obtain ⟨hN, h4, hpb, -, -⟩ := hw2
    have hT60a := sm_T60 hV0
    have hT60b := sm_T60 hV1
    have hT60c := sm_T60 hV2
    obtain ⟨B1, hB1, e571⟩ := sm_Nof (by decide) hcb1
    obtain ⟨B2, hB2, e6519⟩ := sm_Nof (by decide) hcb2
    refine ⟨(-1000001), (-1000001), mz_up w 64 1 ((w 64 1) + 1), mz_up (mz_up w 64 1 ((w 64 1) + 1)) 68 1 ((w 68 1) + 1), ⟨?_, rfl⟩, ⟨?_, rfl⟩, ?_, rfl⟩
    · refine mz_go 1 (c' := (1, [some (.ref 0), some (.int xa), none], [.int xa], w)) rfl ?_
      refine mz_doQ (R := mz_r119) (as := [.int xa]) (rest := []) (r1 := some (.int 0)) (m1 := w) mz_t119 mz_v119 rfl rfl rfl rfl rfl ⟨?_, rfl⟩ ?_
      · refine mz_go 3 (c' := (3, [some (.int xa)], [.int 2, .int 0, .int xa], w)) rfl ?_
        refine mz_doQ (R := mz_r121) (as := [.int xa, .int 0, .int 2]) (rest := []) (r1 := some (.int 0)) (m1 := w) mz_t121 mz_v121 rfl rfl rfl rfl rfl ((cs_inL (m := w) (v := xa) (a := 0) (b := 2) q1).deep (by decide)) ?_
        exact mz_ret rfl
      refine mz_go 3 (c' := (9, [some (.ref 0), some (.int xa), none], [.int 1, .ref 0], w)) rfl ?_
      refine mz_doQ (R := mz_r109) (as := [.ref 0, .int 1]) (rest := []) (r1 := some (.int (-1000001))) (m1 := mz_up w 64 1 ((w 64 1) + 1)) mz_t109 mz_v109_0 rfl rfl rfl rfl rfl ((cs_err1 (m := w)).deep (by decide)) ?_
      exact mz_ret rfl
    · refine mz_go 3 (c' := (3, [some (.ref 65), some (.int xa), none, none, none], [.int 2, .int 0, .int xa], mz_up w 64 1 ((w 64 1) + 1))) rfl ?_
      refine mz_doQ (R := mz_r128) (as := [.int xa, .int 0, .int 2]) (rest := []) (r1 := some (.int 0)) (m1 := mz_up w 64 1 ((w 64 1) + 1)) mz_t128 mz_v128 rfl rfl rfl rfl rfl ((ct_inL (m := mz_up w 64 1 ((w 64 1) + 1)) (v := xa) (a := 0) (b := 2) q1).deep (by decide)) ?_
      refine mz_go 3 (c' := (11, [some (.ref 65), some (.int xa), none, none, none], [.int 1, .ref 65], mz_up w 64 1 ((w 64 1) + 1))) rfl ?_
      refine mz_doQ (R := mz_r127) (as := [.ref 65, .int 1]) (rest := []) (r1 := some (.int (-1000001))) (m1 := mz_up (mz_up w 64 1 ((w 64 1) + 1)) 68 1 ((w 68 1) + 1)) mz_t127 mz_v127_65 rfl rfl rfl rfl rfl ((ct_err1 (m := mz_up w 64 1 ((w 64 1) + 1))).deep (by decide)) ?_
      exact mz_ret rfl
    · exact sm_I_scr hn hI2 (fun i hi => by
        have hne : ∀ r, sm_scr r = true → i ≠ r := fun r hr e => by
          rw [e, hr] at hi
          cases hi
        simp only [mz_up_ne (hne 64 rfl), mz_up_ne (hne 68 rfl)]) rfl rfl
  · by_cases q2 : 2 < xa
    · have hI2 := hI
      obtain ⟨hn0, ⟨-, ⟨hr80, hr5, hrr⟩, ⟨⟨TT, hTT, h81, h661⟩, htp⟩, ⟨⟨T0, hT0, hU0, hV0, -⟩, ⟨T1, hT1, hU1, hV1, -⟩, ⟨T2, hT2, hU2, hV2, -⟩⟩, ⟨hbx, hby, hbl⟩, ⟨⟨WW, HH, hWW, hHH, hWH, h202, h203, h6660, h6661⟩, h6662, h6663, h6664, hpc⟩, ⟨hth, h66160, hthr⟩, ⟨⟨AA, hAA, h111, h662⟩, h663, hwt⟩⟩, ⟨hsh, hsn⟩, ⟨hcb1, hcb2⟩, ⟨JJ, hJJ, h07, h652, hkept⟩⟩ := hI
      obtain ⟨N, hw, hr2, h660, -, -, h6615⟩ := sm_world hI2
      have hw2 := hw
      obtain ⟨hN, h4, hpb, -, -⟩ := hw2
      have hT60a := sm_T60 hV0
      have hT60b := sm_T60 hV1
      have hT60c := sm_T60 hV2
      obtain ⟨B1, hB1, e571⟩ := sm_Nof (by decide) hcb1
      obtain ⟨B2, hB2, e6519⟩ := sm_Nof (by decide) hcb2
      refine ⟨(-1000001), (-1000001), mz_up w 64 1 ((w 64 1) + 1), mz_up (mz_up w 64 1 ((w 64 1) + 1)) 68 1 ((w 68 1) + 1), ⟨?_, rfl⟩, ⟨?_, rfl⟩, ?_, rfl⟩
      · refine mz_go 1 (c' := (1, [some (.ref 0), some (.int xa), none], [.int xa], w)) rfl ?_
        refine mz_doQ (R := mz_r119) (as := [.int xa]) (rest := []) (r1 := some (.int 0)) (m1 := w) mz_t119 mz_v119 rfl rfl rfl rfl rfl ⟨?_, rfl⟩ ?_
        · refine mz_go 3 (c' := (3, [some (.int xa)], [.int 2, .int 0, .int xa], w)) rfl ?_
          refine mz_doQ (R := mz_r121) (as := [.int xa, .int 0, .int 2]) (rest := []) (r1 := some (.int 0)) (m1 := w) mz_t121 mz_v121 rfl rfl rfl rfl rfl ((cs_inG (m := w) (v := xa) (a := 0) (b := 2) q1 q2).deep (by decide)) ?_
          exact mz_ret rfl
        refine mz_go 3 (c' := (9, [some (.ref 0), some (.int xa), none], [.int 1, .ref 0], w)) rfl ?_
        refine mz_doQ (R := mz_r109) (as := [.ref 0, .int 1]) (rest := []) (r1 := some (.int (-1000001))) (m1 := mz_up w 64 1 ((w 64 1) + 1)) mz_t109 mz_v109_0 rfl rfl rfl rfl rfl ((cs_err1 (m := w)).deep (by decide)) ?_
        exact mz_ret rfl
      · refine mz_go 3 (c' := (3, [some (.ref 65), some (.int xa), none, none, none], [.int 2, .int 0, .int xa], mz_up w 64 1 ((w 64 1) + 1))) rfl ?_
        refine mz_doQ (R := mz_r128) (as := [.int xa, .int 0, .int 2]) (rest := []) (r1 := some (.int 0)) (m1 := mz_up w 64 1 ((w 64 1) + 1)) mz_t128 mz_v128 rfl rfl rfl rfl rfl ((ct_inG (m := mz_up w 64 1 ((w 64 1) + 1)) (v := xa) (a := 0) (b := 2) q1 q2).deep (by decide)) ?_
        refine mz_go 3 (c' := (11, [some (.ref 65), some (.int xa), none, none, none], [.int 1, .ref 65], mz_up w 64 1 ((w 64 1) + 1))) rfl ?_
        refine mz_doQ (R := mz_r127) (as := [.ref 65, .int 1]) (rest := []) (r1 := some (.int (-1000001))) (m1 := mz_up (mz_up w 64 1 ((w 64 1) + 1)) 68 1 ((w 68 1) + 1)) mz_t127 mz_v127_65 rfl rfl rfl rfl rfl ((ct_err1 (m := mz_up w 64 1 ((w 64 1) + 1))).deep (by decide)) ?_
        exact mz_ret rfl
      · exact sm_I_scr hn hI2 (fun i hi => by
          have hne : ∀ r, sm_scr r = true → i ≠ r := fun r hr e => by
            rw [e, hr] at hi
            cases hi
          simp only [mz_up_ne (hne 64 rfl), mz_up_ne (hne 68 rfl)]) rfl rfl
    · obtain ⟨k, hk, rfl⟩ := sm_Nof (by decide) (sm_N_of (n := 2) (by decide) q1 q2)
      rcases (show k = 0 ∨ k = 1 ∨ k = 2 by omega) with rfl | rfl | rfl
      · exact sc_text0 hn hI
      · exact sc_text1 hn hI
      · exact sc_text2 hn hI
