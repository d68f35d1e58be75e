set_option maxHeartbeats 4000000 in
set_option maxRecDepth 100000 in
theorem cs_acp {m : mz_M} {A B k : Nat} (hA : A + k ≤ 96) (hB : B + k ≤ 96) (L : List (Option Value)) : mz_sts mz_k51 1 (46, L, [.int (nI k), .int (nI B), .ref 63, .int (nI A), .ref 63], m) = some (49, L, [], mz_cp m 63 63 A B k) := by
  have c1 : (nI A).toNatClampNeg = A := nI_clamp (by omega)
  have c2 : (nI B).toNatClampNeg = B := nI_clamp (by omega)
  have c3 : (nI k).toNatClampNeg = k := nI_clamp (by omega)
  have hc : (!decide (nI A < 0) && !decide (nI B < 0) && !decide (nI k < 0) && decide ((nI A).toNatClampNeg + (nI k).toNatClampNeg ≤ 96) && decide ((nI B).toNatClampNeg + (nI k).toNatClampNeg ≤ 96) && decide (mz_cat [] ≤ 8)) = true := by
    rw [c1, c2, c3, decide_eq_false (nI_pos (show A < 2 ^ 31 by omega)), decide_eq_false (nI_pos (show B < 2 ^ 31 by omega)), decide_eq_false (nI_pos (show k < 2 ^ 31 by omega)), decide_eq_true hA, decide_eq_true hB]
    rfl
  show (match (cond (!decide (nI A < 0) && !decide (nI B < 0) && !decide (nI k < 0) && decide ((nI A).toNatClampNeg + (nI k).toNatClampNeg ≤ 96) && decide ((nI B).toNatClampNeg + (nI k).toNatClampNeg ≤ 96) && decide (mz_cat [] ≤ 8)) (mz_next (46 + 3) L [] (mz_cp m 63 63 (nI A).toNatClampNeg (nI B).toNatClampNeg (nI k).toNatClampNeg)) none) with | some (.inl c) => mz_sts mz_k51 0 c | _ => none) = _
  rw [hc, c1, c2, c3]
  rfl
set_option maxHeartbeats 4000000 in
set_option maxRecDepth 100000 in
theorem cs_carry {m : mz_M} {S I O J k z y : Nat} (hS : S < 4) (hO : O < 4) (e1 : m 62 S = nI z) (e2 : m 62 O = nI y) (hz : z ≤ 24) (hy : y ≤ 24) (h1 : I + k ≤ z) (h2 : J + k ≤ y) : mz_Me 8 mz_r51 [.ref 60, .int (nI S), .int (nI I), .int (nI O), .int (nI J), .int (nI k)] m none (mz_cp m 63 63 ((S * 24) + I) ((O * 24) + J) k) := by
  have hr : mz_Ex 8 mz_k51 (46, [some (.ref 60), some (.int (nI S)), some (.int (nI I)), some (.int (nI O)), some (.int (nI J)), some (.int (nI k))], [.int (nI k), .int (((nI O) * 24) + (nI J)), .ref 63, .int (((nI S) * 24) + (nI I)), .ref 63], m) (none, mz_cp m 63 63 ((S * 24) + I) ((O * 24) + J) k) := by
    rw [show ((nI S) * 24) + (nI I) = nI ((S * 24) + I) from (sm_addN (sm_mulN rfl rfl) rfl), show ((nI O) * 24) + (nI J) = nI ((O * 24) + J) from (sm_addN (sm_mulN rfl rfl) rfl)]
    refine mz_go 1 (cs_acp (by omega) (by omega) _) ?_
    exact mz_ret rfl
  refine ⟨?_, rfl⟩
  refine mz_go 4 (c' := (5, [some (.ref 60), some (.int (nI S)), some (.int (nI I)), some (.int (nI O)), some (.int (nI J)), some (.int (nI k))], [.int (nI k), .int (nI I), .int (nI S), .ref 60], m)) rfl ?_
  refine mz_doQ (R := mz_r48) (as := [.ref 60, .int (nI S), .int (nI I), .int (nI k)]) (rest := []) (r1 := some (.int 1)) (m1 := m) mz_t48 mz_v48_60 rfl rfl rfl rfl rfl ⟨?_, rfl⟩ ?_
  · refine mz_go 2 (c' := (2, [some (.ref 60), some (.int (nI S)), some (.int (nI I)), some (.int (nI k))], [.int (nI S), .ref 60], m)) rfl ?_
    refine mz_doQ (R := mz_r45) (as := [.ref 60, .int (nI S)]) (rest := []) (r1 := some (.int 1)) (m1 := m) mz_t45 mz_v45_60 rfl rfl rfl rfl rfl ⟨?_, rfl⟩ ?_
    · refine mz_go 2 (c' := (if (nI S) < 0 then 13 else 4, [some (.ref 60), some (.int (nI S))], [], m)) rfl ?_
      refine mz_ifF (show ¬ ((nI S) < 0) from (sm_nltN rfl rfl (show 0 ≤ S by omega) (show S < 2 ^ 31 by omega))) ?_
      refine mz_go 3 (c' := (if 4 ≤ (nI S) then 13 else 9, [some (.ref 60), some (.int (nI S))], [], m)) rfl ?_
      refine mz_ifF (show ¬ (4 ≤ (nI S)) from (sm_nleN rfl rfl (show S < 4 by omega) (show 4 < 2 ^ 31 by omega))) ?_
      refine mz_go 2 (c' := (14, [some (.ref 60), some (.int (nI S))], [.int 1], m)) rfl ?_
      exact mz_ret rfl
    refine mz_go 3 (c' := (if (nI k) < 0 then 42 else 12, [some (.ref 60), some (.int (nI S)), some (.int (nI I)), some (.int (nI k))], [], m)) rfl ?_
    refine mz_ifF (show ¬ ((nI k) < 0) from (sm_nltN rfl rfl (show 0 ≤ k by omega) (show k < 2 ^ 31 by omega))) ?_
    refine mz_go 2 (c' := (if (nI I) < 0 then 42 else 16, [some (.ref 60), some (.int (nI S)), some (.int (nI I)), some (.int (nI k))], [], m)) rfl ?_
    refine mz_ifF (show ¬ ((nI I) < 0) from (sm_nltN rfl rfl (show 0 ≤ I by omega) (show I < 2 ^ 31 by omega))) ?_
    refine mz_go 4 (c' := (22, [some (.ref 60), some (.int (nI S)), some (.int (nI I)), some (.int (nI k))], [.int (nI S), .ref 62, .int (nI k)], m)) rfl ?_
    refine mz_arr (c' := (23, [some (.ref 60), some (.int (nI S)), some (.int (nI I)), some (.int (nI k))], [.int (m 62 ((nI S).toNatClampNeg)), .int (nI k)], m)) rfl (show mz_in (nI S) 4 = true from sm_inN rfl (show S < 4 by omega) (by decide)) ?_
    rw [show (nI S : Int32).toNatClampNeg = S from sm_clN rfl (show S < 2 ^ 31 by omega)]
    rw [e1]
    refine mz_go 1 (c' := (if (nI z) < (nI k) then 42 else 26, [some (.ref 60), some (.int (nI S)), some (.int (nI I)), some (.int (nI k))], [], m)) rfl ?_
    refine mz_ifF (show ¬ ((nI z) < (nI k)) from (sm_nltN rfl rfl (show k ≤ z by omega) (show z < 2 ^ 31 by omega))) ?_
    refine mz_go 4 (c' := (32, [some (.ref 60), some (.int (nI S)), some (.int (nI I)), some (.int (nI k))], [.int (nI S), .ref 62, .int (nI I)], m)) rfl ?_
    refine mz_arr (c' := (33, [some (.ref 60), some (.int (nI S)), some (.int (nI I)), some (.int (nI k))], [.int (m 62 ((nI S).toNatClampNeg)), .int (nI I)], m)) rfl (show mz_in (nI S) 4 = true from sm_inN rfl (show S < 4 by omega) (by decide)) ?_
    rw [show (nI S : Int32).toNatClampNeg = S from sm_clN rfl (show S < 2 ^ 31 by omega)]
    rw [e1]
    refine mz_go 3 (c' := (if ((nI z) - (nI k)) < (nI I) then 42 else 38, [some (.ref 60), some (.int (nI S)), some (.int (nI I)), some (.int (nI k))], [], m)) rfl ?_
    refine mz_ifF (show ¬ (((nI z) - (nI k)) < (nI I)) from (sm_nltN (sm_subN (a := z) (b := k) rfl rfl (by omega)) rfl (show I ≤ (z - k) by omega) (show (z - k) < 2 ^ 31 by omega))) ?_
    refine mz_go 2 (c' := (43, [some (.ref 60), some (.int (nI S)), some (.int (nI I)), some (.int (nI k))], [.int 1], m)) rfl ?_
    exact mz_ret rfl
  refine mz_go 5 (c' := (17, [some (.ref 60), some (.int (nI S)), some (.int (nI I)), some (.int (nI O)), some (.int (nI J)), some (.int (nI k))], [.int (nI k), .int (nI J), .int (nI O), .ref 60], m)) rfl ?_
  refine mz_doQ (R := mz_r48) (as := [.ref 60, .int (nI O), .int (nI J), .int (nI k)]) (rest := []) (r1 := some (.int 1)) (m1 := m) mz_t48 mz_v48_60 rfl rfl rfl rfl rfl ⟨?_, rfl⟩ ?_
  · refine mz_go 2 (c' := (2, [some (.ref 60), some (.int (nI O)), some (.int (nI J)), some (.int (nI k))], [.int (nI O), .ref 60], m)) rfl ?_
    refine mz_doQ (R := mz_r45) (as := [.ref 60, .int (nI O)]) (rest := []) (r1 := some (.int 1)) (m1 := m) mz_t45 mz_v45_60 rfl rfl rfl rfl rfl ⟨?_, rfl⟩ ?_
    · refine mz_go 2 (c' := (if (nI O) < 0 then 13 else 4, [some (.ref 60), some (.int (nI O))], [], m)) rfl ?_
      refine mz_ifF (show ¬ ((nI O) < 0) from (sm_nltN rfl rfl (show 0 ≤ O by omega) (show O < 2 ^ 31 by omega))) ?_
      refine mz_go 3 (c' := (if 4 ≤ (nI O) then 13 else 9, [some (.ref 60), some (.int (nI O))], [], m)) rfl ?_
      refine mz_ifF (show ¬ (4 ≤ (nI O)) from (sm_nleN rfl rfl (show O < 4 by omega) (show 4 < 2 ^ 31 by omega))) ?_
      refine mz_go 2 (c' := (14, [some (.ref 60), some (.int (nI O))], [.int 1], m)) rfl ?_
      exact mz_ret rfl
    refine mz_go 3 (c' := (if (nI k) < 0 then 42 else 12, [some (.ref 60), some (.int (nI O)), some (.int (nI J)), some (.int (nI k))], [], m)) rfl ?_
    refine mz_ifF (show ¬ ((nI k) < 0) from (sm_nltN rfl rfl (show 0 ≤ k by omega) (show k < 2 ^ 31 by omega))) ?_
    refine mz_go 2 (c' := (if (nI J) < 0 then 42 else 16, [some (.ref 60), some (.int (nI O)), some (.int (nI J)), some (.int (nI k))], [], m)) rfl ?_
    refine mz_ifF (show ¬ ((nI J) < 0) from (sm_nltN rfl rfl (show 0 ≤ J by omega) (show J < 2 ^ 31 by omega))) ?_
    refine mz_go 4 (c' := (22, [some (.ref 60), some (.int (nI O)), some (.int (nI J)), some (.int (nI k))], [.int (nI O), .ref 62, .int (nI k)], m)) rfl ?_
    refine mz_arr (c' := (23, [some (.ref 60), some (.int (nI O)), some (.int (nI J)), some (.int (nI k))], [.int (m 62 ((nI O).toNatClampNeg)), .int (nI k)], m)) rfl (show mz_in (nI O) 4 = true from sm_inN rfl (show O < 4 by omega) (by decide)) ?_
    rw [show (nI O : Int32).toNatClampNeg = O from sm_clN rfl (show O < 2 ^ 31 by omega)]
    rw [e2]
    refine mz_go 1 (c' := (if (nI y) < (nI k) then 42 else 26, [some (.ref 60), some (.int (nI O)), some (.int (nI J)), some (.int (nI k))], [], m)) rfl ?_
    refine mz_ifF (show ¬ ((nI y) < (nI k)) from (sm_nltN rfl rfl (show k ≤ y by omega) (show y < 2 ^ 31 by omega))) ?_
    refine mz_go 4 (c' := (32, [some (.ref 60), some (.int (nI O)), some (.int (nI J)), some (.int (nI k))], [.int (nI O), .ref 62, .int (nI J)], m)) rfl ?_
    refine mz_arr (c' := (33, [some (.ref 60), some (.int (nI O)), some (.int (nI J)), some (.int (nI k))], [.int (m 62 ((nI O).toNatClampNeg)), .int (nI J)], m)) rfl (show mz_in (nI O) 4 = true from sm_inN rfl (show O < 4 by omega) (by decide)) ?_
    rw [show (nI O : Int32).toNatClampNeg = O from sm_clN rfl (show O < 2 ^ 31 by omega)]
    rw [e2]
    refine mz_go 3 (c' := (if ((nI y) - (nI k)) < (nI J) then 42 else 38, [some (.ref 60), some (.int (nI O)), some (.int (nI J)), some (.int (nI k))], [], m)) rfl ?_
    refine mz_ifF (show ¬ (((nI y) - (nI k)) < (nI J)) from (sm_nltN (sm_subN (a := y) (b := k) rfl rfl (by omega)) rfl (show J ≤ (y - k) by omega) (show (y - k) < 2 ^ 31 by omega))) ?_
    refine mz_go 2 (c' := (43, [some (.ref 60), some (.int (nI O)), some (.int (nI J)), some (.int (nI k))], [.int 1], m)) rfl ?_
    exact mz_ret rfl
  refine mz_go 16 (c' := (46, [some (.ref 60), some (.int (nI S)), some (.int (nI I)), some (.int (nI O)), some (.int (nI J)), some (.int (nI k))], [.int (nI k), .int (((nI O) * 24) + (nI J)), .ref 63, .int (((nI S) * 24) + (nI I)), .ref 63], m)) rfl ?_
  exact hr
set_option maxHeartbeats 4000000 in
set_option maxRecDepth 100000 in
theorem ct_mv1 {m : mz_M} {S I O J n D : Nat} (hS : S < 4) (hO : O < 4) (h1 : I + n ≤ 24) (h2 : J + n ≤ 24) : ∀ j k : Nat, k + j = n → ∀ g : Nat → Int32, (∀ i, i < k → g i = m 77 (24 * S + I + i)) → ∃ g' : Nat → Int32, (∀ i, i < n → g' i = m 77 (24 * S + I + i)) ∧ ∀ res, mz_Ex (D + 1) mz_k222 (149, [some (.ref 65), some (.int (nI S)), some (.int (nI I)), some (.int (nI O)), some (.int (nI J)), some (.int (nI n)), some (.int (nI n))], [], mz_set m 78 g') res → mz_Ex (D + 1) mz_k222 (115, [some (.ref 65), some (.int (nI S)), some (.int (nI I)), some (.int (nI O)), some (.int (nI J)), some (.int (nI n)), some (.int (nI k))], [], mz_set m 78 g) res := by
  intro j
  induction j with
  | zero =>
    intro k hk g hg
    rw [show k = n by omega]
    exact ⟨g, fun i hi => hg i (by omega), fun res hr => by
      refine mz_go 3 (c' := (if (nI n) ≤ (nI n) then 149 else 122, [some (.ref 65), some (.int (nI S)), some (.int (nI I)), some (.int (nI O)), some (.int (nI J)), some (.int (nI n)), some (.int (nI n))], [], mz_set m 78 g)) rfl ?_
      refine mz_ifT (show ((nI n) ≤ (nI n)) from (sm_leN rfl rfl (show n ≤ n by omega) (show n < 2 ^ 31 by omega))) ?_
      exact hr⟩
  | succ j ih =>
    intro k hk g hg
    obtain ⟨g', h, E⟩ := ih (k + 1) (by omega) (sm_upd g k (m 77 (((24 * S) + I) + k))) (fun i hi => by
      unfold sm_upd
      by_cases e : i = k
      · rw [if_pos e, e, show 24 * S + I + k = ((24 * S) + I) + k by omega]
      · rw [if_neg e]
        exact hg i (by omega))
    refine ⟨g', h, fun res hr => ?_⟩
    rw [nI_succ k, ← sm_up_set] at E
    refine mz_go 3 (c' := (if (nI n) ≤ (nI k) then 149 else 122, [some (.ref 65), some (.int (nI S)), some (.int (nI I)), some (.int (nI O)), some (.int (nI J)), some (.int (nI n)), some (.int (nI k))], [], mz_set m 78 g)) rfl ?_
    refine mz_ifF (show ¬ ((nI n) ≤ (nI k)) from (sm_nleN rfl rfl (show k < n by omega) (show n < 2 ^ 31 by omega))) ?_
    refine mz_go 12 (c' := (141, [some (.ref 65), some (.int (nI S)), some (.int (nI I)), some (.int (nI O)), some (.int (nI J)), some (.int (nI n)), some (.int (nI k))], [.int (((24 * (nI S)) + (nI I)) + (nI k)), .ref 77, .int (nI k), .ref 78], mz_set m 78 g)) rfl ?_
    refine mz_arr (c' := (142, [some (.ref 65), some (.int (nI S)), some (.int (nI I)), some (.int (nI O)), some (.int (nI J)), some (.int (nI n)), some (.int (nI k))], [.int (m 77 ((((24 * (nI S)) + (nI I)) + (nI k)).toNatClampNeg)), .int (nI k), .ref 78], mz_set m 78 g)) rfl (show mz_in (((24 * (nI S)) + (nI I)) + (nI k)) 96 = true from sm_inN (sm_addN (sm_addN (sm_mulN rfl rfl) rfl) rfl) (show (((24 * S) + I) + k) < 96 by omega) (by decide)) ?_
    rw [show (((24 * (nI S)) + (nI I)) + (nI k) : Int32).toNatClampNeg = (((24 * S) + I) + k) from sm_clN (sm_addN (sm_addN (sm_mulN rfl rfl) rfl) rfl) (show (((24 * S) + I) + k) < 2 ^ 31 by omega)]
    refine mz_arr (c' := (143, [some (.ref 65), some (.int (nI S)), some (.int (nI I)), some (.int (nI O)), some (.int (nI J)), some (.int (nI n)), some (.int (nI k))], [], mz_up (mz_set m 78 g) 78 ((nI k).toNatClampNeg) (m 77 (((24 * S) + I) + k)))) rfl (show mz_in (nI k) 24 = true from sm_inN rfl (show k < 24 by omega) (by decide)) ?_
    rw [show (nI k : Int32).toNatClampNeg = k from sm_clN rfl (show k < 2 ^ 31 by omega)]
    refine mz_go 2 (c' := (115, [some (.ref 65), some (.int (nI S)), some (.int (nI I)), some (.int (nI O)), some (.int (nI J)), some (.int (nI n)), some (.int ((nI k) + 1))], [], mz_up (mz_set m 78 g) 78 k (m 77 (((24 * S) + I) + k)))) rfl ?_
    exact E res hr
set_option maxHeartbeats 4000000 in
set_option maxRecDepth 100000 in
theorem ct_mv2 {m : mz_M} {S I O J n D : Nat} (hS : S < 4) (hO : O < 4) (h1 : I + n ≤ 24) (h2 : J + n ≤ 24) : ∀ j k : Nat, k + j = n → ∀ g : Nat → Int32, (∀ i, g i = if 24 * O + J ≤ i ∧ i < 24 * O + J + k then m 78 (i - (24 * O + J)) else m 77 i) → ∃ g' : Nat → Int32, (∀ i, g' i = if 24 * O + J ≤ i ∧ i < 24 * O + J + n then m 78 (i - (24 * O + J)) else m 77 i) ∧ ∀ res, mz_Ex (D + 1) mz_k222 (187, [some (.ref 65), some (.int (nI S)), some (.int (nI I)), some (.int (nI O)), some (.int (nI J)), some (.int (nI n)), some (.int (nI n))], [], mz_set m 77 g') res → mz_Ex (D + 1) mz_k222 (152, [some (.ref 65), some (.int (nI S)), some (.int (nI I)), some (.int (nI O)), some (.int (nI J)), some (.int (nI n)), some (.int (nI k))], [], mz_set m 77 g) res := by
  intro j
  induction j with
  | zero =>
    intro k hk g hg
    rw [show k = n by omega]
    exact ⟨g, fun i => by rw [hg i, show k = n by omega], fun res hr => by
      refine mz_go 3 (c' := (if (nI n) ≤ (nI n) then 187 else 159, [some (.ref 65), some (.int (nI S)), some (.int (nI I)), some (.int (nI O)), some (.int (nI J)), some (.int (nI n)), some (.int (nI n))], [], mz_set m 77 g)) rfl ?_
      refine mz_ifT (show ((nI n) ≤ (nI n)) from (sm_leN rfl rfl (show n ≤ n by omega) (show n < 2 ^ 31 by omega))) ?_
      exact hr⟩
  | succ j ih =>
    intro k hk g hg
    obtain ⟨g', h, E⟩ := ih (k + 1) (by omega) (sm_upd g (((24 * O) + J) + k) (m 78 k)) (fun i => by
      unfold sm_upd
      by_cases e : i = (((24 * O) + J) + k)
      · rw [if_pos e, if_pos (by omega), show i - (24 * O + J) = k by omega]
      · rw [if_neg e, hg i]
        by_cases e2 : 24 * O + J ≤ i ∧ i < 24 * O + J + k
        · rw [if_pos e2, if_pos (by omega)]
        · rw [if_neg e2, if_neg (by omega)])
    refine ⟨g', h, fun res hr => ?_⟩
    rw [nI_succ k, ← sm_up_set] at E
    refine mz_go 3 (c' := (if (nI n) ≤ (nI k) then 187 else 159, [some (.ref 65), some (.int (nI S)), some (.int (nI I)), some (.int (nI O)), some (.int (nI J)), some (.int (nI n)), some (.int (nI k))], [], mz_set m 77 g)) rfl ?_
    refine mz_ifF (show ¬ ((nI n) ≤ (nI k)) from (sm_nleN rfl rfl (show k < n by omega) (show n < 2 ^ 31 by omega))) ?_
    refine mz_go 12 (c' := (179, [some (.ref 65), some (.int (nI S)), some (.int (nI I)), some (.int (nI O)), some (.int (nI J)), some (.int (nI n)), some (.int (nI k))], [.int (nI k), .ref 78, .int (((24 * (nI O)) + (nI J)) + (nI k)), .ref 77], mz_set m 77 g)) rfl ?_
    refine mz_arr (c' := (180, [some (.ref 65), some (.int (nI S)), some (.int (nI I)), some (.int (nI O)), some (.int (nI J)), some (.int (nI n)), some (.int (nI k))], [.int (m 78 ((nI k).toNatClampNeg)), .int (((24 * (nI O)) + (nI J)) + (nI k)), .ref 77], mz_set m 77 g)) rfl (show mz_in (nI k) 24 = true from sm_inN rfl (show k < 24 by omega) (by decide)) ?_
    rw [show (nI k : Int32).toNatClampNeg = k from sm_clN rfl (show k < 2 ^ 31 by omega)]
    refine mz_arr (c' := (181, [some (.ref 65), some (.int (nI S)), some (.int (nI I)), some (.int (nI O)), some (.int (nI J)), some (.int (nI n)), some (.int (nI k))], [], mz_up (mz_set m 77 g) 77 ((((24 * (nI O)) + (nI J)) + (nI k)).toNatClampNeg) (m 78 k))) rfl (show mz_in (((24 * (nI O)) + (nI J)) + (nI k)) 96 = true from sm_inN (sm_addN (sm_addN (sm_mulN rfl rfl) rfl) rfl) (show (((24 * O) + J) + k) < 96 by omega) (by decide)) ?_
    rw [show (((24 * (nI O)) + (nI J)) + (nI k) : Int32).toNatClampNeg = (((24 * O) + J) + k) from sm_clN (sm_addN (sm_addN (sm_mulN rfl rfl) rfl) rfl) (show (((24 * O) + J) + k) < 2 ^ 31 by omega)]
    refine mz_go 2 (c' := (152, [some (.ref 65), some (.int (nI S)), some (.int (nI I)), some (.int (nI O)), some (.int (nI J)), some (.int (nI n)), some (.int ((nI k) + 1))], [], mz_up (mz_set m 77 g) 77 (((24 * O) + J) + k) (m 78 k))) rfl ?_
    exact E res hr
theorem sm_moved {w C g a : Nat → Int32} {S I O J n : Nat} (hS : S < 4) (hO : O < 4) (h1 : I + n ≤ 24) (h2 : J + n ≤ 24) {c : Nat → Int32} (hc : ∀ i, i < 96 → c i = w i) (ha : ∀ i, i < n → a i = c (24 * S + I + i)) (hg : ∀ i, g i = if 24 * O + J ≤ i ∧ i < 24 * O + J + n then a (i - (24 * O + J)) else c i) (hC : ∀ i, C i = cond (decide (O * 24 + J ≤ i) && decide (i < O * 24 + J + n)) (w (S * 24 + I + (i - (O * 24 + J)))) (w i)) : ∀ i, i < 96 → g i = C i := by
  intro i hi
  rw [hg, hC]
  by_cases e : 24 * O + J ≤ i ∧ i < 24 * O + J + n
  · rw [if_pos e, decide_eq_true (show O * 24 + J ≤ i by omega), decide_eq_true (show i < O * 24 + J + n by omega), ha _ (by omega), hc _ (by omega), show 24 * S + I + (i - (24 * O + J)) = S * 24 + I + (i - (O * 24 + J)) by omega]
    rfl
  · rw [if_neg e, hc i hi]
    rcases (show ¬ O * 24 + J ≤ i ∨ ¬ i < O * 24 + J + n by omega) with e2 | e2
    · rw [decide_eq_false e2]
      rfl
    · rw [decide_eq_false e2, Bool.and_false]
      rfl
theorem sm_sublt {x y z : Int32} {a b c : Nat} (h1 : x = nI a) (h2 : y = nI b) (h3 : z = nI c) (h : a < b) (hb : b < 2 ^ 31) (hc : c < 2 ^ 31) : x - y < z := by
  subst h1
  subst h2
  subst h3
  rw [Int32.lt_iff_toInt_lt, sm_sub (by rw [nI_toInt (by omega), nI_toInt hb]; omega) (by rw [nI_toInt (by omega), nI_toInt hb]; omega), nI_toInt (by omega), nI_toInt hb, nI_toInt hc]
  omega
set_option maxHeartbeats 4000000 in
set_option maxRecDepth 100000 in
theorem sc_move {n : Nat} (hn : n < 64) {w : mz_M} (hI : sm_I n w) (xa : Int32) (xb : Int32) (xc : Int32) (xd : Int32) (xe : Int32) : ∃ v1 v2 m1 m2, mz_Me 100 mz_r101 [.ref 0, .int xa, .int xb, .int xc, .int xd, .int xe] w (some (.int v1)) m1 ∧ mz_Me 100 mz_r222 [.ref 65, .int xa, .int xb, .int xc, .int xd, .int xe] m1 (some (.int v2)) m2 ∧ sm_I (n + 1) m2 ∧ v1 = v2 := by
  have hI2 := hI
  obtain ⟨hn0, ⟨-, ⟨hr80, hr5, hrr⟩, ⟨⟨TT, hTT, h81, h661⟩, htp⟩, ⟨⟨T0, hT0, hU0, hV0, -⟩, ⟨T1, hT1, hU1, hV1, -⟩, ⟨T2, hT2, hU2, hV2, -⟩⟩, ⟨hbx, hby, hbl⟩, ⟨⟨WW, HH, hWW, hHH, hWH, h202, h203, h6660, h6661⟩, h6662, h6663, h6664, hpc⟩, ⟨hth, h66160, hthr⟩, ⟨⟨AA, hAA, h111, h662⟩, h663, hwt⟩⟩, ⟨hsh, hsn⟩, ⟨hcb1, hcb2⟩, ⟨JJ, hJJ, h07, h652, hkept⟩⟩ := hI
  obtain ⟨N, hw, hr2, h660, -, -, h6615⟩ := sm_world hI2
  have hw2 := hw
  obtain ⟨hN, h4, hpb, -, -⟩ := hw2
  have hT60a := sm_T60 hV0
  have hT60b := sm_T60 hV1
  have hT60c := sm_T60 hV2
  obtain ⟨B1, hB1, e571⟩ := sm_Nof (by decide) hcb1
  obtain ⟨B2, hB2, e6519⟩ := sm_Nof (by decide) hcb2
  refine mz_two (fun _ => rfl) (fun _ => rfl) ?_
  by_cases q1 : xa < 0
  · refine mz_goP 3 (c' := (5, [some (.ref 0), some (.int xa), some (.int xb), some (.int xc), some (.int xd), some (.int xe)], [.int xa, .ref 60], w)) rfl ?_
    refine mz_doPQ (R := mz_r45) (as := [.ref 60, .int xa]) (rest := []) (r1 := some (.int 0)) (m1 := w) mz_t45 mz_v45_60 rfl rfl rfl rfl rfl ⟨?_, rfl⟩ ?_
    · refine mz_go 2 (c' := (if xa < 0 then 13 else 4, [some (.ref 60), some (.int xa)], [], w)) rfl ?_
      refine mz_ifT q1 ?_
      refine mz_go 1 (c' := (14, [some (.ref 60), some (.int xa)], [.int 0], w)) rfl ?_
      exact mz_ret rfl
    refine mz_goP 3 (c' := (24, [some (.ref 0), some (.int xa), some (.int xb), some (.int xc), some (.int xd), some (.int xe)], [.int 1, .ref 0], w)) rfl ?_
    refine mz_doPQ (R := mz_r109) (as := [.ref 0, .int 1]) (rest := []) (r1 := some (.int (-1000001))) (m1 := mz_up w 64 1 ((w 64 1) + 1)) mz_t109 mz_v109_0 rfl rfl rfl rfl rfl ((cs_err1 (m := w)).deep (by decide)) ?_
    refine mz_retP (r := (some (.int ((-1000001))), mz_up w 64 1 ((w 64 1) + 1))) rfl ⟨(-1000001), rfl, ?_⟩
    refine mz_goP 1 (c' := (1, [some (.ref 65), some (.int xa), some (.int xb), some (.int xc), some (.int xd), some (.int xe), none], [.int xa], mz_up w 64 1 ((w 64 1) + 1))) rfl ?_
    refine mz_doPQ (R := mz_r219) (as := [.int xa]) (rest := []) (r1 := some (.int 0)) (m1 := mz_up w 64 1 ((w 64 1) + 1)) mz_t219 mz_v219 rfl rfl rfl rfl rfl ⟨?_, rfl⟩ ?_
    · refine mz_go 3 (c' := (3, [some (.int xa)], [.int 3, .int 0, .int xa], mz_up w 64 1 ((w 64 1) + 1))) rfl ?_
      refine mz_doQ (R := mz_r128) (as := [.int xa, .int 0, .int 3]) (rest := []) (r1 := some (.int 0)) (m1 := mz_up w 64 1 ((w 64 1) + 1)) mz_t128 mz_v128 rfl rfl rfl rfl rfl ((ct_inL (m := mz_up w 64 1 ((w 64 1) + 1)) (v := xa) (a := 0) (b := 3) q1).deep (by decide)) ?_
      exact mz_ret rfl
    refine mz_goP 3 (c' := (16, [some (.ref 65), some (.int xa), some (.int xb), some (.int xc), some (.int xd), some (.int xe), none], [.int 1, .ref 65], mz_up w 64 1 ((w 64 1) + 1))) rfl ?_
    refine mz_doPQ (R := mz_r127) (as := [.ref 65, .int 1]) (rest := []) (r1 := some (.int (-1000001))) (m1 := mz_up (mz_up w 64 1 ((w 64 1) + 1)) 68 1 ((w 68 1) + 1)) mz_t127 mz_v127_65 rfl rfl rfl rfl rfl ((ct_err1 (m := mz_up w 64 1 ((w 64 1) + 1))).deep (by decide)) ?_
    refine mz_retP (r := (some (.int ((-1000001))), mz_up (mz_up w 64 1 ((w 64 1) + 1)) 68 1 ((w 68 1) + 1))) rfl ⟨(-1000001), rfl, ?_, rfl⟩
    show sm_I (n + 1) (mz_up (mz_up w 64 1 ((w 64 1) + 1)) 68 1 ((w 68 1) + 1))
    exact sm_I_scr hn hI2 (fun i hi => by
      have hne : ∀ r, sm_scr r = true → i ≠ r := fun r hr e => by
        rw [e, hr] at hi
        cases hi
      simp only [mz_up_ne (hne 64 rfl), mz_up_ne (hne 68 rfl)]) rfl rfl
  · by_cases q2 : 4 ≤ xa
    · refine mz_goP 3 (c' := (5, [some (.ref 0), some (.int xa), some (.int xb), some (.int xc), some (.int xd), some (.int xe)], [.int xa, .ref 60], w)) rfl ?_
      refine mz_doPQ (R := mz_r45) (as := [.ref 60, .int xa]) (rest := []) (r1 := some (.int 0)) (m1 := w) mz_t45 mz_v45_60 rfl rfl rfl rfl rfl ⟨?_, rfl⟩ ?_
      · refine mz_go 2 (c' := (if xa < 0 then 13 else 4, [some (.ref 60), some (.int xa)], [], w)) rfl ?_
        refine mz_ifF q1 ?_
        refine mz_go 3 (c' := (if 4 ≤ xa then 13 else 9, [some (.ref 60), some (.int xa)], [], w)) rfl ?_
        refine mz_ifT q2 ?_
        refine mz_go 1 (c' := (14, [some (.ref 60), some (.int xa)], [.int 0], w)) rfl ?_
        exact mz_ret rfl
      refine mz_goP 3 (c' := (24, [some (.ref 0), some (.int xa), some (.int xb), some (.int xc), some (.int xd), some (.int xe)], [.int 1, .ref 0], w)) rfl ?_
      refine mz_doPQ (R := mz_r109) (as := [.ref 0, .int 1]) (rest := []) (r1 := some (.int (-1000001))) (m1 := mz_up w 64 1 ((w 64 1) + 1)) mz_t109 mz_v109_0 rfl rfl rfl rfl rfl ((cs_err1 (m := w)).deep (by decide)) ?_
      refine mz_retP (r := (some (.int ((-1000001))), mz_up w 64 1 ((w 64 1) + 1))) rfl ⟨(-1000001), rfl, ?_⟩
      refine mz_goP 1 (c' := (1, [some (.ref 65), some (.int xa), some (.int xb), some (.int xc), some (.int xd), some (.int xe), none], [.int xa], mz_up w 64 1 ((w 64 1) + 1))) rfl ?_
      refine mz_doPQ (R := mz_r219) (as := [.int xa]) (rest := []) (r1 := some (.int 0)) (m1 := mz_up w 64 1 ((w 64 1) + 1)) mz_t219 mz_v219 rfl rfl rfl rfl rfl ⟨?_, rfl⟩ ?_
      · refine mz_go 3 (c' := (3, [some (.int xa)], [.int 3, .int 0, .int xa], mz_up w 64 1 ((w 64 1) + 1))) rfl ?_
        refine mz_doQ (R := mz_r128) (as := [.int xa, .int 0, .int 3]) (rest := []) (r1 := some (.int 0)) (m1 := mz_up w 64 1 ((w 64 1) + 1)) mz_t128 mz_v128 rfl rfl rfl rfl rfl ((ct_inG (m := mz_up w 64 1 ((w 64 1) + 1)) (v := xa) (a := 0) (b := 3) q1 (by have hl : (4 : Int) ≤ (xa).toInt := Int32.le_iff_toInt_le.mp q2; exact Int32.lt_iff_toInt_lt.mpr (show (3 : Int) < (xa).toInt by omega))).deep (by decide)) ?_
        exact mz_ret rfl
      refine mz_goP 3 (c' := (16, [some (.ref 65), some (.int xa), some (.int xb), some (.int xc), some (.int xd), some (.int xe), none], [.int 1, .ref 65], mz_up w 64 1 ((w 64 1) + 1))) rfl ?_
      refine mz_doPQ (R := mz_r127) (as := [.ref 65, .int 1]) (rest := []) (r1 := some (.int (-1000001))) (m1 := mz_up (mz_up w 64 1 ((w 64 1) + 1)) 68 1 ((w 68 1) + 1)) mz_t127 mz_v127_65 rfl rfl rfl rfl rfl ((ct_err1 (m := mz_up w 64 1 ((w 64 1) + 1))).deep (by decide)) ?_
      refine mz_retP (r := (some (.int ((-1000001))), mz_up (mz_up w 64 1 ((w 64 1) + 1)) 68 1 ((w 68 1) + 1))) rfl ⟨(-1000001), rfl, ?_, rfl⟩
      show sm_I (n + 1) (mz_up (mz_up w 64 1 ((w 64 1) + 1)) 68 1 ((w 68 1) + 1))
      exact sm_I_scr hn hI2 (fun i hi => by
        have hne : ∀ r, sm_scr r = true → i ≠ r := fun r hr e => by
          rw [e, hr] at hi
          cases hi
        simp only [mz_up_ne (hne 64 rfl), mz_up_ne (hne 68 rfl)]) rfl rfl
    · by_cases q3 : xc < 0
      · refine mz_goP 3 (c' := (5, [some (.ref 0), some (.int xa), some (.int xb), some (.int xc), some (.int xd), some (.int xe)], [.int xa, .ref 60], w)) rfl ?_
        refine mz_doPQ (R := mz_r45) (as := [.ref 60, .int xa]) (rest := []) (r1 := some (.int 1)) (m1 := w) mz_t45 mz_v45_60 rfl rfl rfl rfl rfl ⟨?_, rfl⟩ ?_
        · refine mz_go 2 (c' := (if xa < 0 then 13 else 4, [some (.ref 60), some (.int xa)], [], w)) rfl ?_
          refine mz_ifF q1 ?_
          refine mz_go 3 (c' := (if 4 ≤ xa then 13 else 9, [some (.ref 60), some (.int xa)], [], w)) rfl ?_
          refine mz_ifF q2 ?_
          refine mz_go 2 (c' := (14, [some (.ref 60), some (.int xa)], [.int 1], w)) rfl ?_
          exact mz_ret rfl
        refine mz_goP 4 (c' := (16, [some (.ref 0), some (.int xa), some (.int xb), some (.int xc), some (.int xd), some (.int xe)], [.int xc, .ref 60], w)) rfl ?_
        refine mz_doPQ (R := mz_r45) (as := [.ref 60, .int xc]) (rest := []) (r1 := some (.int 0)) (m1 := w) mz_t45 mz_v45_60 rfl rfl rfl rfl rfl ⟨?_, rfl⟩ ?_
        · refine mz_go 2 (c' := (if xc < 0 then 13 else 4, [some (.ref 60), some (.int xc)], [], w)) rfl ?_
          refine mz_ifT q3 ?_
          refine mz_go 1 (c' := (14, [some (.ref 60), some (.int xc)], [.int 0], w)) rfl ?_
          exact mz_ret rfl
        refine mz_goP 3 (c' := (24, [some (.ref 0), some (.int xa), some (.int xb), some (.int xc), some (.int xd), some (.int xe)], [.int 1, .ref 0], w)) rfl ?_
        refine mz_doPQ (R := mz_r109) (as := [.ref 0, .int 1]) (rest := []) (r1 := some (.int (-1000001))) (m1 := mz_up w 64 1 ((w 64 1) + 1)) mz_t109 mz_v109_0 rfl rfl rfl rfl rfl ((cs_err1 (m := w)).deep (by decide)) ?_
        refine mz_retP (r := (some (.int ((-1000001))), mz_up w 64 1 ((w 64 1) + 1))) rfl ⟨(-1000001), rfl, ?_⟩
        refine mz_goP 1 (c' := (1, [some (.ref 65), some (.int xa), some (.int xb), some (.int xc), some (.int xd), some (.int xe), none], [.int xa], mz_up w 64 1 ((w 64 1) + 1))) rfl ?_
        refine mz_doPQ (R := mz_r219) (as := [.int xa]) (rest := []) (r1 := some (.int 1)) (m1 := mz_up w 64 1 ((w 64 1) + 1)) mz_t219 mz_v219 rfl rfl rfl rfl rfl ⟨?_, rfl⟩ ?_
        · refine mz_go 3 (c' := (3, [some (.int xa)], [.int 3, .int 0, .int xa], mz_up w 64 1 ((w 64 1) + 1))) rfl ?_
          refine mz_doQ (R := mz_r128) (as := [.int xa, .int 0, .int 3]) (rest := []) (r1 := some (.int 1)) (m1 := mz_up w 64 1 ((w 64 1) + 1)) mz_t128 mz_v128 rfl rfl rfl rfl rfl ((ct_in1 (m := mz_up w 64 1 ((w 64 1) + 1)) (v := xa) (a := 0) (b := 3) q1 (by have hl : (0 : Int) ≤ (xa).toInt := Int32.le_iff_toInt_le.mp (Int32.not_lt.mp q1); have hu : (xa).toInt < (4 : Int) := Int32.lt_iff_toInt_lt.mp (Int32.not_le.mp q2); exact Int32.not_lt.mpr (Int32.le_iff_toInt_le.mpr (show (xa).toInt ≤ (3 : Int) by omega)))).deep (by decide)) ?_
          exact mz_ret rfl
        refine mz_goP 2 (c' := (8, [some (.ref 65), some (.int xa), some (.int xb), some (.int xc), some (.int xd), some (.int xe), none], [.int xc], mz_up w 64 1 ((w 64 1) + 1))) rfl ?_
        refine mz_doPQ (R := mz_r219) (as := [.int xc]) (rest := []) (r1 := some (.int 0)) (m1 := mz_up w 64 1 ((w 64 1) + 1)) mz_t219 mz_v219 rfl rfl rfl rfl rfl ⟨?_, rfl⟩ ?_
        · refine mz_go 3 (c' := (3, [some (.int xc)], [.int 3, .int 0, .int xc], mz_up w 64 1 ((w 64 1) + 1))) rfl ?_
          refine mz_doQ (R := mz_r128) (as := [.int xc, .int 0, .int 3]) (rest := []) (r1 := some (.int 0)) (m1 := mz_up w 64 1 ((w 64 1) + 1)) mz_t128 mz_v128 rfl rfl rfl rfl rfl ((ct_inL (m := mz_up w 64 1 ((w 64 1) + 1)) (v := xc) (a := 0) (b := 3) q3).deep (by decide)) ?_
          exact mz_ret rfl
        refine mz_goP 3 (c' := (16, [some (.ref 65), some (.int xa), some (.int xb), some (.int xc), some (.int xd), some (.int xe), none], [.int 1, .ref 65], mz_up w 64 1 ((w 64 1) + 1))) rfl ?_
        refine mz_doPQ (R := mz_r127) (as := [.ref 65, .int 1]) (rest := []) (r1 := some (.int (-1000001))) (m1 := mz_up (mz_up w 64 1 ((w 64 1) + 1)) 68 1 ((w 68 1) + 1)) mz_t127 mz_v127_65 rfl rfl rfl rfl rfl ((ct_err1 (m := mz_up w 64 1 ((w 64 1) + 1))).deep (by decide)) ?_
        refine mz_retP (r := (some (.int ((-1000001))), mz_up (mz_up w 64 1 ((w 64 1) + 1)) 68 1 ((w 68 1) + 1))) rfl ⟨(-1000001), rfl, ?_, rfl⟩
        show sm_I (n + 1) (mz_up (mz_up w 64 1 ((w 64 1) + 1)) 68 1 ((w 68 1) + 1))
        exact sm_I_scr hn hI2 (fun i hi => by
          have hne : ∀ r, sm_scr r = true → i ≠ r := fun r hr e => by
            rw [e, hr] at hi
            cases hi
          simp only [mz_up_ne (hne 64 rfl), mz_up_ne (hne 68 rfl)]) rfl rfl
      · by_cases q4 : 4 ≤ xc
        · refine mz_goP 3 (c' := (5, [some (.ref 0), some (.int xa), some (.int xb), some (.int xc), some (.int xd), some (.int xe)], [.int xa, .ref 60], w)) rfl ?_
          refine mz_doPQ (R := mz_r45) (as := [.ref 60, .int xa]) (rest := []) (r1 := some (.int 1)) (m1 := w) mz_t45 mz_v45_60 rfl rfl rfl rfl rfl ⟨?_, rfl⟩ ?_
          · refine mz_go 2 (c' := (if xa < 0 then 13 else 4, [some (.ref 60), some (.int xa)], [], w)) rfl ?_
            refine mz_ifF q1 ?_
            refine mz_go 3 (c' := (if 4 ≤ xa then 13 else 9, [some (.ref 60), some (.int xa)], [], w)) rfl ?_
            refine mz_ifF q2 ?_
            refine mz_go 2 (c' := (14, [some (.ref 60), some (.int xa)], [.int 1], w)) rfl ?_
            exact mz_ret rfl
          refine mz_goP 4 (c' := (16, [some (.ref 0), some (.int xa), some (.int xb), some (.int xc), some (.int xd), some (.int xe)], [.int xc, .ref 60], w)) rfl ?_
          refine mz_doPQ (R := mz_r45) (as := [.ref 60, .int xc]) (rest := []) (r1 := some (.int 0)) (m1 := w) mz_t45 mz_v45_60 rfl rfl rfl rfl rfl ⟨?_, rfl⟩ ?_
          · refine mz_go 2 (c' := (if xc < 0 then 13 else 4, [some (.ref 60), some (.int xc)], [], w)) rfl ?_
            refine mz_ifF q3 ?_
            refine mz_go 3 (c' := (if 4 ≤ xc then 13 else 9, [some (.ref 60), some (.int xc)], [], w)) rfl ?_
            refine mz_ifT q4 ?_
            refine mz_go 1 (c' := (14, [some (.ref 60), some (.int xc)], [.int 0], w)) rfl ?_
            exact mz_ret rfl
          refine mz_goP 3 (c' := (24, [some (.ref 0), some (.int xa), some (.int xb), some (.int xc), some (.int xd), some (.int xe)], [.int 1, .ref 0], w)) rfl ?_
          refine mz_doPQ (R := mz_r109) (as := [.ref 0, .int 1]) (rest := []) (r1 := some (.int (-1000001))) (m1 := mz_up w 64 1 ((w 64 1) + 1)) mz_t109 mz_v109_0 rfl rfl rfl rfl rfl ((cs_err1 (m := w)).deep (by decide)) ?_
          refine mz_retP (r := (some (.int ((-1000001))), mz_up w 64 1 ((w 64 1) + 1))) rfl ⟨(-1000001), rfl, ?_⟩
          refine mz_goP 1 (c' := (1, [some (.ref 65), some (.int xa), some (.int xb), some (.int xc), some (.int xd), some (.int xe), none], [.int xa], mz_up w 64 1 ((w 64 1) + 1))) rfl ?_
          refine mz_doPQ (R := mz_r219) (as := [.int xa]) (rest := []) (r1 := some (.int 1)) (m1 := mz_up w 64 1 ((w 64 1) + 1)) mz_t219 mz_v219 rfl rfl rfl rfl rfl ⟨?_, rfl⟩ ?_
          · refine mz_go 3 (c' := (3, [some (.int xa)], [.int 3, .int 0, .int xa], mz_up w 64 1 ((w 64 1) + 1))) rfl ?_
            refine mz_doQ (R := mz_r128) (as := [.int xa, .int 0, .int 3]) (rest := []) (r1 := some (.int 1)) (m1 := mz_up w 64 1 ((w 64 1) + 1)) mz_t128 mz_v128 rfl rfl rfl rfl rfl ((ct_in1 (m := mz_up w 64 1 ((w 64 1) + 1)) (v := xa) (a := 0) (b := 3) q1 (by have hl : (0 : Int) ≤ (xa).toInt := Int32.le_iff_toInt_le.mp (Int32.not_lt.mp q1); have hu : (xa).toInt < (4 : Int) := Int32.lt_iff_toInt_lt.mp (Int32.not_le.mp q2); exact Int32.not_lt.mpr (Int32.le_iff_toInt_le.mpr (show (xa).toInt ≤ (3 : Int) by omega)))).deep (by decide)) ?_
            exact mz_ret rfl
          refine mz_goP 2 (c' := (8, [some (.ref 65), some (.int xa), some (.int xb), some (.int xc), some (.int xd), some (.int xe), none], [.int xc], mz_up w 64 1 ((w 64 1) + 1))) rfl ?_
          refine mz_doPQ (R := mz_r219) (as := [.int xc]) (rest := []) (r1 := some (.int 0)) (m1 := mz_up w 64 1 ((w 64 1) + 1)) mz_t219 mz_v219 rfl rfl rfl rfl rfl ⟨?_, rfl⟩ ?_
          · refine mz_go 3 (c' := (3, [some (.int xc)], [.int 3, .int 0, .int xc], mz_up w 64 1 ((w 64 1) + 1))) rfl ?_
            refine mz_doQ (R := mz_r128) (as := [.int xc, .int 0, .int 3]) (rest := []) (r1 := some (.int 0)) (m1 := mz_up w 64 1 ((w 64 1) + 1)) mz_t128 mz_v128 rfl rfl rfl rfl rfl ((ct_inG (m := mz_up w 64 1 ((w 64 1) + 1)) (v := xc) (a := 0) (b := 3) q3 (by have hl : (4 : Int) ≤ (xc).toInt := Int32.le_iff_toInt_le.mp q4; exact Int32.lt_iff_toInt_lt.mpr (show (3 : Int) < (xc).toInt by omega))).deep (by decide)) ?_
            exact mz_ret rfl
          refine mz_goP 3 (c' := (16, [some (.ref 65), some (.int xa), some (.int xb), some (.int xc), some (.int xd), some (.int xe), none], [.int 1, .ref 65], mz_up w 64 1 ((w 64 1) + 1))) rfl ?_
          refine mz_doPQ (R := mz_r127) (as := [.ref 65, .int 1]) (rest := []) (r1 := some (.int (-1000001))) (m1 := mz_up (mz_up w 64 1 ((w 64 1) + 1)) 68 1 ((w 68 1) + 1)) mz_t127 mz_v127_65 rfl rfl rfl rfl rfl ((ct_err1 (m := mz_up w 64 1 ((w 64 1) + 1))).deep (by decide)) ?_
          refine mz_retP (r := (some (.int ((-1000001))), mz_up (mz_up w 64 1 ((w 64 1) + 1)) 68 1 ((w 68 1) + 1))) rfl ⟨(-1000001), rfl, ?_, rfl⟩
          show sm_I (n + 1) (mz_up (mz_up w 64 1 ((w 64 1) + 1)) 68 1 ((w 68 1) + 1))
          exact sm_I_scr hn hI2 (fun i hi => by
            have hne : ∀ r, sm_scr r = true → i ≠ r := fun r hr e => by
              rw [e, hr] at hi
              cases hi
            simp only [mz_up_ne (hne 64 rfl), mz_up_ne (hne 68 rfl)]) rfl rfl
        · obtain ⟨jxa, hjxa, rfl⟩ := nI_of q1
          have zxa0 : ¬ 4 ≤ jxa := fun z => q2 ((nI_leI (by decide) hjxa).mpr z)
          by_cases q5 : (w 61 jxa) = 0
          · refine mz_goP 3 (c' := (5, [some (.ref 0), some (.int (nI jxa)), some (.int xb), some (.int xc), some (.int xd), some (.int xe)], [.int (nI jxa), .ref 60], w)) rfl ?_
            refine mz_doPQ (R := mz_r45) (as := [.ref 60, .int (nI jxa)]) (rest := []) (r1 := some (.int 1)) (m1 := w) mz_t45 mz_v45_60 rfl rfl rfl rfl rfl ⟨?_, rfl⟩ ?_
            · refine mz_go 2 (c' := (if (nI jxa) < 0 then 13 else 4, [some (.ref 60), some (.int (nI jxa))], [], w)) rfl ?_
              refine mz_ifF q1 ?_
              refine mz_go 3 (c' := (if 4 ≤ (nI jxa) then 13 else 9, [some (.ref 60), some (.int (nI jxa))], [], w)) rfl ?_
              refine mz_ifF q2 ?_
              refine mz_go 2 (c' := (14, [some (.ref 60), some (.int (nI jxa))], [.int 1], w)) rfl ?_
              exact mz_ret rfl
            refine mz_goP 4 (c' := (16, [some (.ref 0), some (.int (nI jxa)), some (.int xb), some (.int xc), some (.int xd), some (.int xe)], [.int xc, .ref 60], w)) rfl ?_
            refine mz_doPQ (R := mz_r45) (as := [.ref 60, .int xc]) (rest := []) (r1 := some (.int 1)) (m1 := w) mz_t45 mz_v45_60 rfl rfl rfl rfl rfl ⟨?_, rfl⟩ ?_
            · refine mz_go 2 (c' := (if xc < 0 then 13 else 4, [some (.ref 60), some (.int xc)], [], w)) rfl ?_
              refine mz_ifF q3 ?_
              refine mz_go 3 (c' := (if 4 ≤ xc then 13 else 9, [some (.ref 60), some (.int xc)], [], w)) rfl ?_
              refine mz_ifF q4 ?_
              refine mz_go 2 (c' := (14, [some (.ref 60), some (.int xc)], [.int 1], w)) rfl ?_
              exact mz_ret rfl
            refine mz_goP 4 (c' := (33, [some (.ref 0), some (.int (nI jxa)), some (.int xb), some (.int xc), some (.int xd), some (.int xe)], [.int (nI jxa), .ref 60], w)) rfl ?_
            refine mz_doPQ (R := mz_r46) (as := [.ref 60, .int (nI jxa)]) (rest := []) (r1 := some (.int 1)) (m1 := w) mz_t46 mz_v46_60 rfl rfl rfl rfl rfl ⟨?_, rfl⟩ ?_
            · refine mz_go 2 (c' := (2, [some (.ref 60), some (.int (nI jxa))], [.int (nI jxa), .ref 60], w)) rfl ?_
              refine mz_doQ (R := mz_r45) (as := [.ref 60, .int (nI jxa)]) (rest := []) (r1 := some (.int 1)) (m1 := w) mz_t45 mz_v45_60 rfl rfl rfl rfl rfl ⟨?_, rfl⟩ ?_
              · refine mz_go 2 (c' := (if (nI jxa) < 0 then 13 else 4, [some (.ref 60), some (.int (nI jxa))], [], w)) rfl ?_
                refine mz_ifF q1 ?_
                refine mz_go 3 (c' := (if 4 ≤ (nI jxa) then 13 else 9, [some (.ref 60), some (.int (nI jxa))], [], w)) rfl ?_
                refine mz_ifF q2 ?_
                refine mz_go 2 (c' := (14, [some (.ref 60), some (.int (nI jxa))], [.int 1], w)) rfl ?_
                exact mz_ret rfl
              refine mz_go 4 (c' := (13, [some (.ref 60), some (.int (nI jxa))], [.int (nI jxa), .ref 61], w)) rfl ?_
              refine mz_arr (c' := (14, [some (.ref 60), some (.int (nI jxa))], [.int (w 61 ((nI jxa).toNatClampNeg))], w)) rfl (show mz_in (nI jxa) 4 = true from sm_inN rfl (show jxa < 4 by omega) (by decide)) ?_
              rw [show (nI jxa : Int32).toNatClampNeg = jxa from sm_clN rfl (show jxa < 2 ^ 31 by omega)]
              refine mz_go 1 (c' := (if (w 61 jxa) = 0 then 17 else 21, [some (.ref 60), some (.int (nI jxa))], [], w)) rfl ?_
              refine mz_ifT q5 ?_
              refine mz_go 2 (c' := (22, [some (.ref 60), some (.int (nI jxa))], [.int 1], w)) rfl ?_
              exact mz_ret rfl
            refine mz_goP 3 (c' := (52, [some (.ref 0), some (.int (nI jxa)), some (.int xb), some (.int xc), some (.int xd), some (.int xe)], [.int 2, .ref 0], w)) rfl ?_
            refine mz_doPQ (R := mz_r109) (as := [.ref 0, .int 2]) (rest := []) (r1 := some (.int (-1000002))) (m1 := mz_up w 64 2 ((w 64 2) + 1)) mz_t109 mz_v109_0 rfl rfl rfl rfl rfl ((cs_err2 (m := w)).deep (by decide)) ?_
            refine mz_retP (r := (some (.int ((-1000002))), mz_up w 64 2 ((w 64 2) + 1))) rfl ⟨(-1000002), rfl, ?_⟩
            refine mz_goP 1 (c' := (1, [some (.ref 65), some (.int (nI jxa)), some (.int xb), some (.int xc), some (.int xd), some (.int xe), none], [.int (nI jxa)], mz_up w 64 2 ((w 64 2) + 1))) rfl ?_
            refine mz_doPQ (R := mz_r219) (as := [.int (nI jxa)]) (rest := []) (r1 := some (.int 1)) (m1 := mz_up w 64 2 ((w 64 2) + 1)) mz_t219 mz_v219 rfl rfl rfl rfl rfl ⟨?_, rfl⟩ ?_
            · refine mz_go 3 (c' := (3, [some (.int (nI jxa))], [.int 3, .int 0, .int (nI jxa)], mz_up w 64 2 ((w 64 2) + 1))) rfl ?_
              refine mz_doQ (R := mz_r128) (as := [.int (nI jxa), .int 0, .int 3]) (rest := []) (r1 := some (.int 1)) (m1 := mz_up w 64 2 ((w 64 2) + 1)) mz_t128 mz_v128 rfl rfl rfl rfl rfl ((ct_in1 (m := mz_up w 64 2 ((w 64 2) + 1)) (v := nI jxa) (a := 0) (b := 3) q1 (show ¬ (3 < (nI jxa)) from (sm_nltN rfl rfl (show jxa ≤ 3 by omega) (show 3 < 2 ^ 31 by omega)))).deep (by decide)) ?_
              exact mz_ret rfl
            refine mz_goP 2 (c' := (8, [some (.ref 65), some (.int (nI jxa)), some (.int xb), some (.int xc), some (.int xd), some (.int xe), none], [.int xc], mz_up w 64 2 ((w 64 2) + 1))) rfl ?_
            refine mz_doPQ (R := mz_r219) (as := [.int xc]) (rest := []) (r1 := some (.int 1)) (m1 := mz_up w 64 2 ((w 64 2) + 1)) mz_t219 mz_v219 rfl rfl rfl rfl rfl ⟨?_, rfl⟩ ?_
            · refine mz_go 3 (c' := (3, [some (.int xc)], [.int 3, .int 0, .int xc], mz_up w 64 2 ((w 64 2) + 1))) rfl ?_
              refine mz_doQ (R := mz_r128) (as := [.int xc, .int 0, .int 3]) (rest := []) (r1 := some (.int 1)) (m1 := mz_up w 64 2 ((w 64 2) + 1)) mz_t128 mz_v128 rfl rfl rfl rfl rfl ((ct_in1 (m := mz_up w 64 2 ((w 64 2) + 1)) (v := xc) (a := 0) (b := 3) q3 (by have hl : (0 : Int) ≤ (xc).toInt := Int32.le_iff_toInt_le.mp (Int32.not_lt.mp q3); have hu : (xc).toInt < (4 : Int) := Int32.lt_iff_toInt_lt.mp (Int32.not_le.mp q4); exact Int32.not_lt.mpr (Int32.le_iff_toInt_le.mpr (show (xc).toInt ≤ (3 : Int) by omega)))).deep (by decide)) ?_
              exact mz_ret rfl
            refine mz_goP 4 (c' := (25, [some (.ref 65), some (.int (nI jxa)), some (.int xb), some (.int xc), some (.int xd), some (.int xe), none], [.int (nI jxa), .ref 75], mz_up w 64 2 ((w 64 2) + 1))) rfl ?_
            refine mz_arrP (c' := (26, [some (.ref 65), some (.int (nI jxa)), some (.int xb), some (.int xc), some (.int xd), some (.int xe), none], [.int (w 75 ((nI jxa).toNatClampNeg))], mz_up w 64 2 ((w 64 2) + 1))) rfl (show mz_in (nI jxa) 4 = true from sm_inN rfl (show jxa < 4 by omega) (by decide)) ?_
            rw [show (nI jxa : Int32).toNatClampNeg = jxa from sm_clN rfl (show jxa < 2 ^ 31 by omega)]
            rw [show w 75 jxa = w 61 jxa from (hsh jxa (by omega)).2.2.1]
            refine mz_goP 1 (c' := (if (w 61 jxa) = 0 then 38 else 29, [some (.ref 65), some (.int (nI jxa)), some (.int xb), some (.int xc), some (.int xd), some (.int xe), none], [], mz_up w 64 2 ((w 64 2) + 1))) rfl ?_
            refine mz_ifTP q5 ?_
            refine mz_goP 2 (c' := (40, [some (.ref 65), some (.int (nI jxa)), some (.int xb), some (.int xc), some (.int xd), some (.int xe), none], [.int 2, .ref 65], mz_up w 64 2 ((w 64 2) + 1))) rfl ?_
            refine mz_doPQ (R := mz_r127) (as := [.ref 65, .int 2]) (rest := []) (r1 := some (.int (-1000002))) (m1 := mz_up (mz_up w 64 2 ((w 64 2) + 1)) 68 2 ((w 68 2) + 1)) mz_t127 mz_v127_65 rfl rfl rfl rfl rfl ((ct_err2 (m := mz_up w 64 2 ((w 64 2) + 1))).deep (by decide)) ?_
            refine mz_retP (r := (some (.int ((-1000002))), mz_up (mz_up w 64 2 ((w 64 2) + 1)) 68 2 ((w 68 2) + 1))) rfl ⟨(-1000002), rfl, ?_, rfl⟩
            show sm_I (n + 1) (mz_up (mz_up w 64 2 ((w 64 2) + 1)) 68 2 ((w 68 2) + 1))
            exact sm_I_scr hn hI2 (fun i hi => by
              have hne : ∀ r, sm_scr r = true → i ≠ r := fun r hr e => by
                rw [e, hr] at hi
                cases hi
              simp only [mz_up_ne (hne 64 rfl), mz_up_ne (hne 68 rfl)]) rfl rfl
          · obtain ⟨jxc, hjxc, rfl⟩ := nI_of q3
            have zxc0 : ¬ 4 ≤ jxc := fun z => q4 ((nI_leI (by decide) hjxc).mpr z)
            by_cases q6 : (w 61 jxc) = 0
            · refine mz_goP 3 (c' := (5, [some (.ref 0), some (.int (nI jxa)), some (.int xb), some (.int (nI jxc)), some (.int xd), some (.int xe)], [.int (nI jxa), .ref 60], w)) rfl ?_
              refine mz_doPQ (R := mz_r45) (as := [.ref 60, .int (nI jxa)]) (rest := []) (r1 := some (.int 1)) (m1 := w) mz_t45 mz_v45_60 rfl rfl rfl rfl rfl ⟨?_, rfl⟩ ?_
              · refine mz_go 2 (c' := (if (nI jxa) < 0 then 13 else 4, [some (.ref 60), some (.int (nI jxa))], [], w)) rfl ?_
                refine mz_ifF q1 ?_
                refine mz_go 3 (c' := (if 4 ≤ (nI jxa) then 13 else 9, [some (.ref 60), some (.int (nI jxa))], [], w)) rfl ?_
                refine mz_ifF q2 ?_
                refine mz_go 2 (c' := (14, [some (.ref 60), some (.int (nI jxa))], [.int 1], w)) rfl ?_
                exact mz_ret rfl
              refine mz_goP 4 (c' := (16, [some (.ref 0), some (.int (nI jxa)), some (.int xb), some (.int (nI jxc)), some (.int xd), some (.int xe)], [.int (nI jxc), .ref 60], w)) rfl ?_
              refine mz_doPQ (R := mz_r45) (as := [.ref 60, .int (nI jxc)]) (rest := []) (r1 := some (.int 1)) (m1 := w) mz_t45 mz_v45_60 rfl rfl rfl rfl rfl ⟨?_, rfl⟩ ?_
              · refine mz_go 2 (c' := (if (nI jxc) < 0 then 13 else 4, [some (.ref 60), some (.int (nI jxc))], [], w)) rfl ?_
                refine mz_ifF q3 ?_
                refine mz_go 3 (c' := (if 4 ≤ (nI jxc) then 13 else 9, [some (.ref 60), some (.int (nI jxc))], [], w)) rfl ?_
                refine mz_ifF q4 ?_
                refine mz_go 2 (c' := (14, [some (.ref 60), some (.int (nI jxc))], [.int 1], w)) rfl ?_
                exact mz_ret rfl
              refine mz_goP 4 (c' := (33, [some (.ref 0), some (.int (nI jxa)), some (.int xb), some (.int (nI jxc)), some (.int xd), some (.int xe)], [.int (nI jxa), .ref 60], w)) rfl ?_
              refine mz_doPQ (R := mz_r46) (as := [.ref 60, .int (nI jxa)]) (rest := []) (r1 := some (.int 0)) (m1 := w) mz_t46 mz_v46_60 rfl rfl rfl rfl rfl ⟨?_, rfl⟩ ?_
              · refine mz_go 2 (c' := (2, [some (.ref 60), some (.int (nI jxa))], [.int (nI jxa), .ref 60], w)) rfl ?_
                refine mz_doQ (R := mz_r45) (as := [.ref 60, .int (nI jxa)]) (rest := []) (r1 := some (.int 1)) (m1 := w) mz_t45 mz_v45_60 rfl rfl rfl rfl rfl ⟨?_, rfl⟩ ?_
                · refine mz_go 2 (c' := (if (nI jxa) < 0 then 13 else 4, [some (.ref 60), some (.int (nI jxa))], [], w)) rfl ?_
                  refine mz_ifF q1 ?_
                  refine mz_go 3 (c' := (if 4 ≤ (nI jxa) then 13 else 9, [some (.ref 60), some (.int (nI jxa))], [], w)) rfl ?_
                  refine mz_ifF q2 ?_
                  refine mz_go 2 (c' := (14, [some (.ref 60), some (.int (nI jxa))], [.int 1], w)) rfl ?_
                  exact mz_ret rfl
                refine mz_go 4 (c' := (13, [some (.ref 60), some (.int (nI jxa))], [.int (nI jxa), .ref 61], w)) rfl ?_
                refine mz_arr (c' := (14, [some (.ref 60), some (.int (nI jxa))], [.int (w 61 ((nI jxa).toNatClampNeg))], w)) rfl (show mz_in (nI jxa) 4 = true from sm_inN rfl (show jxa < 4 by omega) (by decide)) ?_
                rw [show (nI jxa : Int32).toNatClampNeg = jxa from sm_clN rfl (show jxa < 2 ^ 31 by omega)]
                refine mz_go 1 (c' := (if (w 61 jxa) = 0 then 17 else 21, [some (.ref 60), some (.int (nI jxa))], [], w)) rfl ?_
                refine mz_ifF q5 ?_
                refine mz_go 1 (c' := (22, [some (.ref 60), some (.int (nI jxa))], [.int 0], w)) rfl ?_
                exact mz_ret rfl
              refine mz_goP 4 (c' := (44, [some (.ref 0), some (.int (nI jxa)), some (.int xb), some (.int (nI jxc)), some (.int xd), some (.int xe)], [.int (nI jxc), .ref 60], w)) rfl ?_
              refine mz_doPQ (R := mz_r46) (as := [.ref 60, .int (nI jxc)]) (rest := []) (r1 := some (.int 1)) (m1 := w) mz_t46 mz_v46_60 rfl rfl rfl rfl rfl ⟨?_, rfl⟩ ?_
              · refine mz_go 2 (c' := (2, [some (.ref 60), some (.int (nI jxc))], [.int (nI jxc), .ref 60], w)) rfl ?_
                refine mz_doQ (R := mz_r45) (as := [.ref 60, .int (nI jxc)]) (rest := []) (r1 := some (.int 1)) (m1 := w) mz_t45 mz_v45_60 rfl rfl rfl rfl rfl ⟨?_, rfl⟩ ?_
                · refine mz_go 2 (c' := (if (nI jxc) < 0 then 13 else 4, [some (.ref 60), some (.int (nI jxc))], [], w)) rfl ?_
                  refine mz_ifF q3 ?_
                  refine mz_go 3 (c' := (if 4 ≤ (nI jxc) then 13 else 9, [some (.ref 60), some (.int (nI jxc))], [], w)) rfl ?_
                  refine mz_ifF q4 ?_
                  refine mz_go 2 (c' := (14, [some (.ref 60), some (.int (nI jxc))], [.int 1], w)) rfl ?_
                  exact mz_ret rfl
                refine mz_go 4 (c' := (13, [some (.ref 60), some (.int (nI jxc))], [.int (nI jxc), .ref 61], w)) rfl ?_
                refine mz_arr (c' := (14, [some (.ref 60), some (.int (nI jxc))], [.int (w 61 ((nI jxc).toNatClampNeg))], w)) rfl (show mz_in (nI jxc) 4 = true from sm_inN rfl (show jxc < 4 by omega) (by decide)) ?_
                rw [show (nI jxc : Int32).toNatClampNeg = jxc from sm_clN rfl (show jxc < 2 ^ 31 by omega)]
                refine mz_go 1 (c' := (if (w 61 jxc) = 0 then 17 else 21, [some (.ref 60), some (.int (nI jxc))], [], w)) rfl ?_
                refine mz_ifT q6 ?_
                refine mz_go 2 (c' := (22, [some (.ref 60), some (.int (nI jxc))], [.int 1], w)) rfl ?_
                exact mz_ret rfl
              refine mz_goP 3 (c' := (52, [some (.ref 0), some (.int (nI jxa)), some (.int xb), some (.int (nI jxc)), some (.int xd), some (.int xe)], [.int 2, .ref 0], w)) rfl ?_
              refine mz_doPQ (R := mz_r109) (as := [.ref 0, .int 2]) (rest := []) (r1 := some (.int (-1000002))) (m1 := mz_up w 64 2 ((w 64 2) + 1)) mz_t109 mz_v109_0 rfl rfl rfl rfl rfl ((cs_err2 (m := w)).deep (by decide)) ?_
              refine mz_retP (r := (some (.int ((-1000002))), mz_up w 64 2 ((w 64 2) + 1))) rfl ⟨(-1000002), rfl, ?_⟩
              refine mz_goP 1 (c' := (1, [some (.ref 65), some (.int (nI jxa)), some (.int xb), some (.int (nI jxc)), some (.int xd), some (.int xe), none], [.int (nI jxa)], mz_up w 64 2 ((w 64 2) + 1))) rfl ?_
              refine mz_doPQ (R := mz_r219) (as := [.int (nI jxa)]) (rest := []) (r1 := some (.int 1)) (m1 := mz_up w 64 2 ((w 64 2) + 1)) mz_t219 mz_v219 rfl rfl rfl rfl rfl ⟨?_, rfl⟩ ?_
              · refine mz_go 3 (c' := (3, [some (.int (nI jxa))], [.int 3, .int 0, .int (nI jxa)], mz_up w 64 2 ((w 64 2) + 1))) rfl ?_
                refine mz_doQ (R := mz_r128) (as := [.int (nI jxa), .int 0, .int 3]) (rest := []) (r1 := some (.int 1)) (m1 := mz_up w 64 2 ((w 64 2) + 1)) mz_t128 mz_v128 rfl rfl rfl rfl rfl ((ct_in1 (m := mz_up w 64 2 ((w 64 2) + 1)) (v := nI jxa) (a := 0) (b := 3) q1 (show ¬ (3 < (nI jxa)) from (sm_nltN rfl rfl (show jxa ≤ 3 by omega) (show 3 < 2 ^ 31 by omega)))).deep (by decide)) ?_
                exact mz_ret rfl
              refine mz_goP 2 (c' := (8, [some (.ref 65), some (.int (nI jxa)), some (.int xb), some (.int (nI jxc)), some (.int xd), some (.int xe), none], [.int (nI jxc)], mz_up w 64 2 ((w 64 2) + 1))) rfl ?_
              refine mz_doPQ (R := mz_r219) (as := [.int (nI jxc)]) (rest := []) (r1 := some (.int 1)) (m1 := mz_up w 64 2 ((w 64 2) + 1)) mz_t219 mz_v219 rfl rfl rfl rfl rfl ⟨?_, rfl⟩ ?_
              · refine mz_go 3 (c' := (3, [some (.int (nI jxc))], [.int 3, .int 0, .int (nI jxc)], mz_up w 64 2 ((w 64 2) + 1))) rfl ?_
                refine mz_doQ (R := mz_r128) (as := [.int (nI jxc), .int 0, .int 3]) (rest := []) (r1 := some (.int 1)) (m1 := mz_up w 64 2 ((w 64 2) + 1)) mz_t128 mz_v128 rfl rfl rfl rfl rfl ((ct_in1 (m := mz_up w 64 2 ((w 64 2) + 1)) (v := nI jxc) (a := 0) (b := 3) q3 (show ¬ (3 < (nI jxc)) from (sm_nltN rfl rfl (show jxc ≤ 3 by omega) (show 3 < 2 ^ 31 by omega)))).deep (by decide)) ?_
                exact mz_ret rfl
              refine mz_goP 4 (c' := (25, [some (.ref 65), some (.int (nI jxa)), some (.int xb), some (.int (nI jxc)), some (.int xd), some (.int xe), none], [.int (nI jxa), .ref 75], mz_up w 64 2 ((w 64 2) + 1))) rfl ?_
              refine mz_arrP (c' := (26, [some (.ref 65), some (.int (nI jxa)), some (.int xb), some (.int (nI jxc)), some (.int xd), some (.int xe), none], [.int (w 75 ((nI jxa).toNatClampNeg))], mz_up w 64 2 ((w 64 2) + 1))) rfl (show mz_in (nI jxa) 4 = true from sm_inN rfl (show jxa < 4 by omega) (by decide)) ?_
              rw [show (nI jxa : Int32).toNatClampNeg = jxa from sm_clN rfl (show jxa < 2 ^ 31 by omega)]
              rw [show w 75 jxa = w 61 jxa from (hsh jxa (by omega)).2.2.1]
              refine mz_goP 1 (c' := (if (w 61 jxa) = 0 then 38 else 29, [some (.ref 65), some (.int (nI jxa)), some (.int xb), some (.int (nI jxc)), some (.int xd), some (.int xe), none], [], mz_up w 64 2 ((w 64 2) + 1))) rfl ?_
              refine mz_ifFP q5 ?_
              refine mz_goP 3 (c' := (34, [some (.ref 65), some (.int (nI jxa)), some (.int xb), some (.int (nI jxc)), some (.int xd), some (.int xe), none], [.int (nI jxc), .ref 75], mz_up w 64 2 ((w 64 2) + 1))) rfl ?_
              refine mz_arrP (c' := (35, [some (.ref 65), some (.int (nI jxa)), some (.int xb), some (.int (nI jxc)), some (.int xd), some (.int xe), none], [.int (w 75 ((nI jxc).toNatClampNeg))], mz_up w 64 2 ((w 64 2) + 1))) rfl (show mz_in (nI jxc) 4 = true from sm_inN rfl (show jxc < 4 by omega) (by decide)) ?_
              rw [show (nI jxc : Int32).toNatClampNeg = jxc from sm_clN rfl (show jxc < 2 ^ 31 by omega)]
              rw [show w 75 jxc = w 61 jxc from (hsh jxc (by omega)).2.2.1]
              refine mz_goP 1 (c' := (if (w 61 jxc) = 0 then 38 else 44, [some (.ref 65), some (.int (nI jxa)), some (.int xb), some (.int (nI jxc)), some (.int xd), some (.int xe), none], [], mz_up w 64 2 ((w 64 2) + 1))) rfl ?_
              refine mz_ifTP q6 ?_
              refine mz_goP 2 (c' := (40, [some (.ref 65), some (.int (nI jxa)), some (.int xb), some (.int (nI jxc)), some (.int xd), some (.int xe), none], [.int 2, .ref 65], mz_up w 64 2 ((w 64 2) + 1))) rfl ?_
              refine mz_doPQ (R := mz_r127) (as := [.ref 65, .int 2]) (rest := []) (r1 := some (.int (-1000002))) (m1 := mz_up (mz_up w 64 2 ((w 64 2) + 1)) 68 2 ((w 68 2) + 1)) mz_t127 mz_v127_65 rfl rfl rfl rfl rfl ((ct_err2 (m := mz_up w 64 2 ((w 64 2) + 1))).deep (by decide)) ?_
              refine mz_retP (r := (some (.int ((-1000002))), mz_up (mz_up w 64 2 ((w 64 2) + 1)) 68 2 ((w 68 2) + 1))) rfl ⟨(-1000002), rfl, ?_, rfl⟩
              show sm_I (n + 1) (mz_up (mz_up w 64 2 ((w 64 2) + 1)) 68 2 ((w 68 2) + 1))
              exact sm_I_scr hn hI2 (fun i hi => by
                have hne : ∀ r, sm_scr r = true → i ≠ r := fun r hr e => by
                  rw [e, hr] at hi
                  cases hi
                simp only [mz_up_ne (hne 64 rfl), mz_up_ne (hne 68 rfl)]) rfl rfl
            · by_cases q7 : (w 61 jxa) = (w 61 jxc)
              · by_cases q8 : xe < 0
                · refine mz_goP 3 (c' := (5, [some (.ref 0), some (.int (nI jxa)), some (.int xb), some (.int (nI jxc)), some (.int xd), some (.int xe)], [.int (nI jxa), .ref 60], w)) rfl ?_
                  refine mz_doPQ (R := mz_r45) (as := [.ref 60, .int (nI jxa)]) (rest := []) (r1 := some (.int 1)) (m1 := w) mz_t45 mz_v45_60 rfl rfl rfl rfl rfl ⟨?_, rfl⟩ ?_
                  · refine mz_go 2 (c' := (if (nI jxa) < 0 then 13 else 4, [some (.ref 60), some (.int (nI jxa))], [], w)) rfl ?_
                    refine mz_ifF q1 ?_
                    refine mz_go 3 (c' := (if 4 ≤ (nI jxa) then 13 else 9, [some (.ref 60), some (.int (nI jxa))], [], w)) rfl ?_
                    refine mz_ifF q2 ?_
                    refine mz_go 2 (c' := (14, [some (.ref 60), some (.int (nI jxa))], [.int 1], w)) rfl ?_
                    exact mz_ret rfl
                  refine mz_goP 4 (c' := (16, [some (.ref 0), some (.int (nI jxa)), some (.int xb), some (.int (nI jxc)), some (.int xd), some (.int xe)], [.int (nI jxc), .ref 60], w)) rfl ?_
                  refine mz_doPQ (R := mz_r45) (as := [.ref 60, .int (nI jxc)]) (rest := []) (r1 := some (.int 1)) (m1 := w) mz_t45 mz_v45_60 rfl rfl rfl rfl rfl ⟨?_, rfl⟩ ?_
                  · refine mz_go 2 (c' := (if (nI jxc) < 0 then 13 else 4, [some (.ref 60), some (.int (nI jxc))], [], w)) rfl ?_
                    refine mz_ifF q3 ?_
                    refine mz_go 3 (c' := (if 4 ≤ (nI jxc) then 13 else 9, [some (.ref 60), some (.int (nI jxc))], [], w)) rfl ?_
                    refine mz_ifF q4 ?_
                    refine mz_go 2 (c' := (14, [some (.ref 60), some (.int (nI jxc))], [.int 1], w)) rfl ?_
                    exact mz_ret rfl
                  refine mz_goP 4 (c' := (33, [some (.ref 0), some (.int (nI jxa)), some (.int xb), some (.int (nI jxc)), some (.int xd), some (.int xe)], [.int (nI jxa), .ref 60], w)) rfl ?_
                  refine mz_doPQ (R := mz_r46) (as := [.ref 60, .int (nI jxa)]) (rest := []) (r1 := some (.int 0)) (m1 := w) mz_t46 mz_v46_60 rfl rfl rfl rfl rfl ⟨?_, rfl⟩ ?_
                  · refine mz_go 2 (c' := (2, [some (.ref 60), some (.int (nI jxa))], [.int (nI jxa), .ref 60], w)) rfl ?_
                    refine mz_doQ (R := mz_r45) (as := [.ref 60, .int (nI jxa)]) (rest := []) (r1 := some (.int 1)) (m1 := w) mz_t45 mz_v45_60 rfl rfl rfl rfl rfl ⟨?_, rfl⟩ ?_
                    · refine mz_go 2 (c' := (if (nI jxa) < 0 then 13 else 4, [some (.ref 60), some (.int (nI jxa))], [], w)) rfl ?_
                      refine mz_ifF q1 ?_
                      refine mz_go 3 (c' := (if 4 ≤ (nI jxa) then 13 else 9, [some (.ref 60), some (.int (nI jxa))], [], w)) rfl ?_
                      refine mz_ifF q2 ?_
                      refine mz_go 2 (c' := (14, [some (.ref 60), some (.int (nI jxa))], [.int 1], w)) rfl ?_
                      exact mz_ret rfl
                    refine mz_go 4 (c' := (13, [some (.ref 60), some (.int (nI jxa))], [.int (nI jxa), .ref 61], w)) rfl ?_
                    refine mz_arr (c' := (14, [some (.ref 60), some (.int (nI jxa))], [.int (w 61 ((nI jxa).toNatClampNeg))], w)) rfl (show mz_in (nI jxa) 4 = true from sm_inN rfl (show jxa < 4 by omega) (by decide)) ?_
                    rw [show (nI jxa : Int32).toNatClampNeg = jxa from sm_clN rfl (show jxa < 2 ^ 31 by omega)]
                    refine mz_go 1 (c' := (if (w 61 jxa) = 0 then 17 else 21, [some (.ref 60), some (.int (nI jxa))], [], w)) rfl ?_
                    refine mz_ifF q5 ?_
                    refine mz_go 1 (c' := (22, [some (.ref 60), some (.int (nI jxa))], [.int 0], w)) rfl ?_
                    exact mz_ret rfl
                  refine mz_goP 4 (c' := (44, [some (.ref 0), some (.int (nI jxa)), some (.int xb), some (.int (nI jxc)), some (.int xd), some (.int xe)], [.int (nI jxc), .ref 60], w)) rfl ?_
                  refine mz_doPQ (R := mz_r46) (as := [.ref 60, .int (nI jxc)]) (rest := []) (r1 := some (.int 0)) (m1 := w) mz_t46 mz_v46_60 rfl rfl rfl rfl rfl ⟨?_, rfl⟩ ?_
                  · refine mz_go 2 (c' := (2, [some (.ref 60), some (.int (nI jxc))], [.int (nI jxc), .ref 60], w)) rfl ?_
                    refine mz_doQ (R := mz_r45) (as := [.ref 60, .int (nI jxc)]) (rest := []) (r1 := some (.int 1)) (m1 := w) mz_t45 mz_v45_60 rfl rfl rfl rfl rfl ⟨?_, rfl⟩ ?_
                    · refine mz_go 2 (c' := (if (nI jxc) < 0 then 13 else 4, [some (.ref 60), some (.int (nI jxc))], [], w)) rfl ?_
                      refine mz_ifF q3 ?_
                      refine mz_go 3 (c' := (if 4 ≤ (nI jxc) then 13 else 9, [some (.ref 60), some (.int (nI jxc))], [], w)) rfl ?_
                      refine mz_ifF q4 ?_
                      refine mz_go 2 (c' := (14, [some (.ref 60), some (.int (nI jxc))], [.int 1], w)) rfl ?_
                      exact mz_ret rfl
                    refine mz_go 4 (c' := (13, [some (.ref 60), some (.int (nI jxc))], [.int (nI jxc), .ref 61], w)) rfl ?_
                    refine mz_arr (c' := (14, [some (.ref 60), some (.int (nI jxc))], [.int (w 61 ((nI jxc).toNatClampNeg))], w)) rfl (show mz_in (nI jxc) 4 = true from sm_inN rfl (show jxc < 4 by omega) (by decide)) ?_
                    rw [show (nI jxc : Int32).toNatClampNeg = jxc from sm_clN rfl (show jxc < 2 ^ 31 by omega)]
                    refine mz_go 1 (c' := (if (w 61 jxc) = 0 then 17 else 21, [some (.ref 60), some (.int (nI jxc))], [], w)) rfl ?_
                    refine mz_ifF q6 ?_
                    refine mz_go 1 (c' := (22, [some (.ref 60), some (.int (nI jxc))], [.int 0], w)) rfl ?_
                    exact mz_ret rfl
                  refine mz_goP 5 (c' := (64, [some (.ref 0), some (.int (nI jxa)), some (.int xb), some (.int (nI jxc)), some (.int xd), some (.int xe)], [.int (nI jxa), .ref 61], w)) rfl ?_
                  refine mz_arrP (c' := (65, [some (.ref 0), some (.int (nI jxa)), some (.int xb), some (.int (nI jxc)), some (.int xd), some (.int xe)], [.int (w 61 ((nI jxa).toNatClampNeg))], w)) rfl (show mz_in (nI jxa) 4 = true from sm_inN rfl (show jxa < 4 by omega) (by decide)) ?_
                  rw [show (nI jxa : Int32).toNatClampNeg = jxa from sm_clN rfl (show jxa < 2 ^ 31 by omega)]
                  refine mz_goP 4 (c' := (73, [some (.ref 0), some (.int (nI jxa)), some (.int xb), some (.int (nI jxc)), some (.int xd), some (.int xe)], [.int (nI jxc), .ref 61, .int (w 61 jxa)], w)) rfl ?_
                  refine mz_arrP (c' := (74, [some (.ref 0), some (.int (nI jxa)), some (.int xb), some (.int (nI jxc)), some (.int xd), some (.int xe)], [.int (w 61 ((nI jxc).toNatClampNeg)), .int (w 61 jxa)], w)) rfl (show mz_in (nI jxc) 4 = true from sm_inN rfl (show jxc < 4 by omega) (by decide)) ?_
                  rw [show (nI jxc : Int32).toNatClampNeg = jxc from sm_clN rfl (show jxc < 2 ^ 31 by omega)]
                  refine mz_goP 1 (c' := (if (w 61 jxa) = (w 61 jxc) then 83 else 77, [some (.ref 0), some (.int (nI jxa)), some (.int xb), some (.int (nI jxc)), some (.int xd), some (.int xe)], [], w)) rfl ?_
                  refine mz_ifTP q7 ?_
                  refine mz_goP 5 (c' := (91, [some (.ref 0), some (.int (nI jxa)), some (.int xb), some (.int (nI jxc)), some (.int xd), some (.int xe)], [.int xe, .int xb, .int (nI jxa), .ref 60], w)) rfl ?_
                  refine mz_doPQ (R := mz_r48) (as := [.ref 60, .int (nI jxa), .int xb, .int xe]) (rest := []) (r1 := some (.int 0)) (m1 := w) mz_t48 mz_v48_60 rfl rfl rfl rfl rfl ⟨?_, rfl⟩ ?_
                  · refine mz_go 2 (c' := (2, [some (.ref 60), some (.int (nI jxa)), some (.int xb), some (.int xe)], [.int (nI jxa), .ref 60], w)) rfl ?_
                    refine mz_doQ (R := mz_r45) (as := [.ref 60, .int (nI jxa)]) (rest := []) (r1 := some (.int 1)) (m1 := w) mz_t45 mz_v45_60 rfl rfl rfl rfl rfl ⟨?_, rfl⟩ ?_
                    · refine mz_go 2 (c' := (if (nI jxa) < 0 then 13 else 4, [some (.ref 60), some (.int (nI jxa))], [], w)) rfl ?_
                      refine mz_ifF q1 ?_
                      refine mz_go 3 (c' := (if 4 ≤ (nI jxa) then 13 else 9, [some (.ref 60), some (.int (nI jxa))], [], w)) rfl ?_
                      refine mz_ifF q2 ?_
                      refine mz_go 2 (c' := (14, [some (.ref 60), some (.int (nI jxa))], [.int 1], w)) rfl ?_
                      exact mz_ret rfl
                    refine mz_go 3 (c' := (if xe < 0 then 42 else 12, [some (.ref 60), some (.int (nI jxa)), some (.int xb), some (.int xe)], [], w)) rfl ?_
                    refine mz_ifT q8 ?_
                    refine mz_go 1 (c' := (43, [some (.ref 60), some (.int (nI jxa)), some (.int xb), some (.int xe)], [.int 0], w)) rfl ?_
                    exact mz_ret rfl
                  refine mz_goP 3 (c' := (114, [some (.ref 0), some (.int (nI jxa)), some (.int xb), some (.int (nI jxc)), some (.int xd), some (.int xe)], [.int 1, .ref 0], w)) rfl ?_
                  refine mz_doPQ (R := mz_r109) (as := [.ref 0, .int 1]) (rest := []) (r1 := some (.int (-1000001))) (m1 := mz_up w 64 1 ((w 64 1) + 1)) mz_t109 mz_v109_0 rfl rfl rfl rfl rfl ((cs_err1 (m := w)).deep (by decide)) ?_
                  refine mz_retP (r := (some (.int ((-1000001))), mz_up w 64 1 ((w 64 1) + 1))) rfl ⟨(-1000001), rfl, ?_⟩
                  refine mz_goP 1 (c' := (1, [some (.ref 65), some (.int (nI jxa)), some (.int xb), some (.int (nI jxc)), some (.int xd), some (.int xe), none], [.int (nI jxa)], mz_up w 64 1 ((w 64 1) + 1))) rfl ?_
                  refine mz_doPQ (R := mz_r219) (as := [.int (nI jxa)]) (rest := []) (r1 := some (.int 1)) (m1 := mz_up w 64 1 ((w 64 1) + 1)) mz_t219 mz_v219 rfl rfl rfl rfl rfl ⟨?_, rfl⟩ ?_
                  · refine mz_go 3 (c' := (3, [some (.int (nI jxa))], [.int 3, .int 0, .int (nI jxa)], mz_up w 64 1 ((w 64 1) + 1))) rfl ?_
                    refine mz_doQ (R := mz_r128) (as := [.int (nI jxa), .int 0, .int 3]) (rest := []) (r1 := some (.int 1)) (m1 := mz_up w 64 1 ((w 64 1) + 1)) mz_t128 mz_v128 rfl rfl rfl rfl rfl ((ct_in1 (m := mz_up w 64 1 ((w 64 1) + 1)) (v := nI jxa) (a := 0) (b := 3) q1 (show ¬ (3 < (nI jxa)) from (sm_nltN rfl rfl (show jxa ≤ 3 by omega) (show 3 < 2 ^ 31 by omega)))).deep (by decide)) ?_
                    exact mz_ret rfl
                  refine mz_goP 2 (c' := (8, [some (.ref 65), some (.int (nI jxa)), some (.int xb), some (.int (nI jxc)), some (.int xd), some (.int xe), none], [.int (nI jxc)], mz_up w 64 1 ((w 64 1) + 1))) rfl ?_
                  refine mz_doPQ (R := mz_r219) (as := [.int (nI jxc)]) (rest := []) (r1 := some (.int 1)) (m1 := mz_up w 64 1 ((w 64 1) + 1)) mz_t219 mz_v219 rfl rfl rfl rfl rfl ⟨?_, rfl⟩ ?_
                  · refine mz_go 3 (c' := (3, [some (.int (nI jxc))], [.int 3, .int 0, .int (nI jxc)], mz_up w 64 1 ((w 64 1) + 1))) rfl ?_
                    refine mz_doQ (R := mz_r128) (as := [.int (nI jxc), .int 0, .int 3]) (rest := []) (r1 := some (.int 1)) (m1 := mz_up w 64 1 ((w 64 1) + 1)) mz_t128 mz_v128 rfl rfl rfl rfl rfl ((ct_in1 (m := mz_up w 64 1 ((w 64 1) + 1)) (v := nI jxc) (a := 0) (b := 3) q3 (show ¬ (3 < (nI jxc)) from (sm_nltN rfl rfl (show jxc ≤ 3 by omega) (show 3 < 2 ^ 31 by omega)))).deep (by decide)) ?_
                    exact mz_ret rfl
                  refine mz_goP 4 (c' := (25, [some (.ref 65), some (.int (nI jxa)), some (.int xb), some (.int (nI jxc)), some (.int xd), some (.int xe), none], [.int (nI jxa), .ref 75], mz_up w 64 1 ((w 64 1) + 1))) rfl ?_
                  refine mz_arrP (c' := (26, [some (.ref 65), some (.int (nI jxa)), some (.int xb), some (.int (nI jxc)), some (.int xd), some (.int xe), none], [.int (w 75 ((nI jxa).toNatClampNeg))], mz_up w 64 1 ((w 64 1) + 1))) rfl (show mz_in (nI jxa) 4 = true from sm_inN rfl (show jxa < 4 by omega) (by decide)) ?_
                  rw [show (nI jxa : Int32).toNatClampNeg = jxa from sm_clN rfl (show jxa < 2 ^ 31 by omega)]
                  rw [show w 75 jxa = w 61 jxa from (hsh jxa (by omega)).2.2.1]
                  refine mz_goP 1 (c' := (if (w 61 jxa) = 0 then 38 else 29, [some (.ref 65), some (.int (nI jxa)), some (.int xb), some (.int (nI jxc)), some (.int xd), some (.int xe), none], [], mz_up w 64 1 ((w 64 1) + 1))) rfl ?_
                  refine mz_ifFP q5 ?_
                  refine mz_goP 3 (c' := (34, [some (.ref 65), some (.int (nI jxa)), some (.int xb), some (.int (nI jxc)), some (.int xd), some (.int xe), none], [.int (nI jxc), .ref 75], mz_up w 64 1 ((w 64 1) + 1))) rfl ?_
                  refine mz_arrP (c' := (35, [some (.ref 65), some (.int (nI jxa)), some (.int xb), some (.int (nI jxc)), some (.int xd), some (.int xe), none], [.int (w 75 ((nI jxc).toNatClampNeg))], mz_up w 64 1 ((w 64 1) + 1))) rfl (show mz_in (nI jxc) 4 = true from sm_inN rfl (show jxc < 4 by omega) (by decide)) ?_
                  rw [show (nI jxc : Int32).toNatClampNeg = jxc from sm_clN rfl (show jxc < 2 ^ 31 by omega)]
                  rw [show w 75 jxc = w 61 jxc from (hsh jxc (by omega)).2.2.1]
                  refine mz_goP 1 (c' := (if (w 61 jxc) = 0 then 38 else 44, [some (.ref 65), some (.int (nI jxa)), some (.int xb), some (.int (nI jxc)), some (.int xd), some (.int xe), none], [], mz_up w 64 1 ((w 64 1) + 1))) rfl ?_
                  refine mz_ifFP q6 ?_
                  refine mz_goP 3 (c' := (49, [some (.ref 65), some (.int (nI jxa)), some (.int xb), some (.int (nI jxc)), some (.int xd), some (.int xe), none], [.int (nI jxa), .ref 75], mz_up w 64 1 ((w 64 1) + 1))) rfl ?_
                  refine mz_arrP (c' := (50, [some (.ref 65), some (.int (nI jxa)), some (.int xb), some (.int (nI jxc)), some (.int xd), some (.int xe), none], [.int (w 75 ((nI jxa).toNatClampNeg))], mz_up w 64 1 ((w 64 1) + 1))) rfl (show mz_in (nI jxa) 4 = true from sm_inN rfl (show jxa < 4 by omega) (by decide)) ?_
                  rw [show (nI jxa : Int32).toNatClampNeg = jxa from sm_clN rfl (show jxa < 2 ^ 31 by omega)]
                  rw [show w 75 jxa = w 61 jxa from (hsh jxa (by omega)).2.2.1]
                  refine mz_goP 3 (c' := (55, [some (.ref 65), some (.int (nI jxa)), some (.int xb), some (.int (nI jxc)), some (.int xd), some (.int xe), none], [.int (nI jxc), .ref 75, .int (w 61 jxa)], mz_up w 64 1 ((w 64 1) + 1))) rfl ?_
                  refine mz_arrP (c' := (56, [some (.ref 65), some (.int (nI jxa)), some (.int xb), some (.int (nI jxc)), some (.int xd), some (.int xe), none], [.int (w 75 ((nI jxc).toNatClampNeg)), .int (w 61 jxa)], mz_up w 64 1 ((w 64 1) + 1))) rfl (show mz_in (nI jxc) 4 = true from sm_inN rfl (show jxc < 4 by omega) (by decide)) ?_
                  rw [show (nI jxc : Int32).toNatClampNeg = jxc from sm_clN rfl (show jxc < 2 ^ 31 by omega)]
                  rw [show w 75 jxc = w 61 jxc from (hsh jxc (by omega)).2.2.1]
                  refine mz_goP 1 (c' := (if (w 61 jxa) = (w 61 jxc) then 65 else 59, [some (.ref 65), some (.int (nI jxa)), some (.int xb), some (.int (nI jxc)), some (.int xd), some (.int xe), none], [], mz_up w 64 1 ((w 64 1) + 1))) rfl ?_
                  refine mz_ifTP q7 ?_
                  refine mz_goP 2 (c' := (if xe < 0 then 106 else 70, [some (.ref 65), some (.int (nI jxa)), some (.int xb), some (.int (nI jxc)), some (.int xd), some (.int xe), none], [], mz_up w 64 1 ((w 64 1) + 1))) rfl ?_
                  refine mz_ifTP q8 ?_
                  refine mz_goP 2 (c' := (108, [some (.ref 65), some (.int (nI jxa)), some (.int xb), some (.int (nI jxc)), some (.int xd), some (.int xe), none], [.int 1, .ref 65], mz_up w 64 1 ((w 64 1) + 1))) rfl ?_
                  refine mz_doPQ (R := mz_r127) (as := [.ref 65, .int 1]) (rest := []) (r1 := some (.int (-1000001))) (m1 := mz_up (mz_up w 64 1 ((w 64 1) + 1)) 68 1 ((w 68 1) + 1)) mz_t127 mz_v127_65 rfl rfl rfl rfl rfl ((ct_err1 (m := mz_up w 64 1 ((w 64 1) + 1))).deep (by decide)) ?_
                  refine mz_retP (r := (some (.int ((-1000001))), mz_up (mz_up w 64 1 ((w 64 1) + 1)) 68 1 ((w 68 1) + 1))) rfl ⟨(-1000001), rfl, ?_, rfl⟩
                  show sm_I (n + 1) (mz_up (mz_up w 64 1 ((w 64 1) + 1)) 68 1 ((w 68 1) + 1))
                  exact sm_I_scr hn hI2 (fun i hi => by
                    have hne : ∀ r, sm_scr r = true → i ≠ r := fun r hr e => by
                      rw [e, hr] at hi
                      cases hi
                    simp only [mz_up_ne (hne 64 rfl), mz_up_ne (hne 68 rfl)]) rfl rfl
                · by_cases q9 : xb < 0
                  · refine mz_goP 3 (c' := (5, [some (.ref 0), some (.int (nI jxa)), some (.int xb), some (.int (nI jxc)), some (.int xd), some (.int xe)], [.int (nI jxa), .ref 60], w)) rfl ?_
                    refine mz_doPQ (R := mz_r45) (as := [.ref 60, .int (nI jxa)]) (rest := []) (r1 := some (.int 1)) (m1 := w) mz_t45 mz_v45_60 rfl rfl rfl rfl rfl ⟨?_, rfl⟩ ?_
                    · refine mz_go 2 (c' := (if (nI jxa) < 0 then 13 else 4, [some (.ref 60), some (.int (nI jxa))], [], w)) rfl ?_
                      refine mz_ifF q1 ?_
                      refine mz_go 3 (c' := (if 4 ≤ (nI jxa) then 13 else 9, [some (.ref 60), some (.int (nI jxa))], [], w)) rfl ?_
                      refine mz_ifF q2 ?_
                      refine mz_go 2 (c' := (14, [some (.ref 60), some (.int (nI jxa))], [.int 1], w)) rfl ?_
                      exact mz_ret rfl
                    refine mz_goP 4 (c' := (16, [some (.ref 0), some (.int (nI jxa)), some (.int xb), some (.int (nI jxc)), some (.int xd), some (.int xe)], [.int (nI jxc), .ref 60], w)) rfl ?_
                    refine mz_doPQ (R := mz_r45) (as := [.ref 60, .int (nI jxc)]) (rest := []) (r1 := some (.int 1)) (m1 := w) mz_t45 mz_v45_60 rfl rfl rfl rfl rfl ⟨?_, rfl⟩ ?_
                    · refine mz_go 2 (c' := (if (nI jxc) < 0 then 13 else 4, [some (.ref 60), some (.int (nI jxc))], [], w)) rfl ?_
                      refine mz_ifF q3 ?_
                      refine mz_go 3 (c' := (if 4 ≤ (nI jxc) then 13 else 9, [some (.ref 60), some (.int (nI jxc))], [], w)) rfl ?_
                      refine mz_ifF q4 ?_
                      refine mz_go 2 (c' := (14, [some (.ref 60), some (.int (nI jxc))], [.int 1], w)) rfl ?_
                      exact mz_ret rfl
                    refine mz_goP 4 (c' := (33, [some (.ref 0), some (.int (nI jxa)), some (.int xb), some (.int (nI jxc)), some (.int xd), some (.int xe)], [.int (nI jxa), .ref 60], w)) rfl ?_
                    refine mz_doPQ (R := mz_r46) (as := [.ref 60, .int (nI jxa)]) (rest := []) (r1 := some (.int 0)) (m1 := w) mz_t46 mz_v46_60 rfl rfl rfl rfl rfl ⟨?_, rfl⟩ ?_
                    · refine mz_go 2 (c' := (2, [some (.ref 60), some (.int (nI jxa))], [.int (nI jxa), .ref 60], w)) rfl ?_
                      refine mz_doQ (R := mz_r45) (as := [.ref 60, .int (nI jxa)]) (rest := []) (r1 := some (.int 1)) (m1 := w) mz_t45 mz_v45_60 rfl rfl rfl rfl rfl ⟨?_, rfl⟩ ?_
                      · refine mz_go 2 (c' := (if (nI jxa) < 0 then 13 else 4, [some (.ref 60), some (.int (nI jxa))], [], w)) rfl ?_
                        refine mz_ifF q1 ?_
                        refine mz_go 3 (c' := (if 4 ≤ (nI jxa) then 13 else 9, [some (.ref 60), some (.int (nI jxa))], [], w)) rfl ?_
                        refine mz_ifF q2 ?_
                        refine mz_go 2 (c' := (14, [some (.ref 60), some (.int (nI jxa))], [.int 1], w)) rfl ?_
                        exact mz_ret rfl
                      refine mz_go 4 (c' := (13, [some (.ref 60), some (.int (nI jxa))], [.int (nI jxa), .ref 61], w)) rfl ?_
                      refine mz_arr (c' := (14, [some (.ref 60), some (.int (nI jxa))], [.int (w 61 ((nI jxa).toNatClampNeg))], w)) rfl (show mz_in (nI jxa) 4 = true from sm_inN rfl (show jxa < 4 by omega) (by decide)) ?_
                      rw [show (nI jxa : Int32).toNatClampNeg = jxa from sm_clN rfl (show jxa < 2 ^ 31 by omega)]
                      refine mz_go 1 (c' := (if (w 61 jxa) = 0 then 17 else 21, [some (.ref 60), some (.int (nI jxa))], [], w)) rfl ?_
                      refine mz_ifF q5 ?_
                      refine mz_go 1 (c' := (22, [some (.ref 60), some (.int (nI jxa))], [.int 0], w)) rfl ?_
                      exact mz_ret rfl
                    refine mz_goP 4 (c' := (44, [some (.ref 0), some (.int (nI jxa)), some (.int xb), some (.int (nI jxc)), some (.int xd), some (.int xe)], [.int (nI jxc), .ref 60], w)) rfl ?_
                    refine mz_doPQ (R := mz_r46) (as := [.ref 60, .int (nI jxc)]) (rest := []) (r1 := some (.int 0)) (m1 := w) mz_t46 mz_v46_60 rfl rfl rfl rfl rfl ⟨?_, rfl⟩ ?_
                    · refine mz_go 2 (c' := (2, [some (.ref 60), some (.int (nI jxc))], [.int (nI jxc), .ref 60], w)) rfl ?_
                      refine mz_doQ (R := mz_r45) (as := [.ref 60, .int (nI jxc)]) (rest := []) (r1 := some (.int 1)) (m1 := w) mz_t45 mz_v45_60 rfl rfl rfl rfl rfl ⟨?_, rfl⟩ ?_
                      · refine mz_go 2 (c' := (if (nI jxc) < 0 then 13 else 4, [some (.ref 60), some (.int (nI jxc))], [], w)) rfl ?_
                        refine mz_ifF q3 ?_
                        refine mz_go 3 (c' := (if 4 ≤ (nI jxc) then 13 else 9, [some (.ref 60), some (.int (nI jxc))], [], w)) rfl ?_
                        refine mz_ifF q4 ?_
                        refine mz_go 2 (c' := (14, [some (.ref 60), some (.int (nI jxc))], [.int 1], w)) rfl ?_
                        exact mz_ret rfl
                      refine mz_go 4 (c' := (13, [some (.ref 60), some (.int (nI jxc))], [.int (nI jxc), .ref 61], w)) rfl ?_
                      refine mz_arr (c' := (14, [some (.ref 60), some (.int (nI jxc))], [.int (w 61 ((nI jxc).toNatClampNeg))], w)) rfl (show mz_in (nI jxc) 4 = true from sm_inN rfl (show jxc < 4 by omega) (by decide)) ?_
                      rw [show (nI jxc : Int32).toNatClampNeg = jxc from sm_clN rfl (show jxc < 2 ^ 31 by omega)]
                      refine mz_go 1 (c' := (if (w 61 jxc) = 0 then 17 else 21, [some (.ref 60), some (.int (nI jxc))], [], w)) rfl ?_
                      refine mz_ifF q6 ?_
                      refine mz_go 1 (c' := (22, [some (.ref 60), some (.int (nI jxc))], [.int 0], w)) rfl ?_
                      exact mz_ret rfl
                    refine mz_goP 5 (c' := (64, [some (.ref 0), some (.int (nI jxa)), some (.int xb), some (.int (nI jxc)), some (.int xd), some (.int xe)], [.int (nI jxa), .ref 61], w)) rfl ?_
                    refine mz_arrP (c' := (65, [some (.ref 0), some (.int (nI jxa)), some (.int xb), some (.int (nI jxc)), some (.int xd), some (.int xe)], [.int (w 61 ((nI jxa).toNatClampNeg))], w)) rfl (show mz_in (nI jxa) 4 = true from sm_inN rfl (show jxa < 4 by omega) (by decide)) ?_
                    rw [show (nI jxa : Int32).toNatClampNeg = jxa from sm_clN rfl (show jxa < 2 ^ 31 by omega)]
                    refine mz_goP 4 (c' := (73, [some (.ref 0), some (.int (nI jxa)), some (.int xb), some (.int (nI jxc)), some (.int xd), some (.int xe)], [.int (nI jxc), .ref 61, .int (w 61 jxa)], w)) rfl ?_
                    refine mz_arrP (c' := (74, [some (.ref 0), some (.int (nI jxa)), some (.int xb), some (.int (nI jxc)), some (.int xd), some (.int xe)], [.int (w 61 ((nI jxc).toNatClampNeg)), .int (w 61 jxa)], w)) rfl (show mz_in (nI jxc) 4 = true from sm_inN rfl (show jxc < 4 by omega) (by decide)) ?_
                    rw [show (nI jxc : Int32).toNatClampNeg = jxc from sm_clN rfl (show jxc < 2 ^ 31 by omega)]
                    refine mz_goP 1 (c' := (if (w 61 jxa) = (w 61 jxc) then 83 else 77, [some (.ref 0), some (.int (nI jxa)), some (.int xb), some (.int (nI jxc)), some (.int xd), some (.int xe)], [], w)) rfl ?_
                    refine mz_ifTP q7 ?_
                    refine mz_goP 5 (c' := (91, [some (.ref 0), some (.int (nI jxa)), some (.int xb), some (.int (nI jxc)), some (.int xd), some (.int xe)], [.int xe, .int xb, .int (nI jxa), .ref 60], w)) rfl ?_
                    refine mz_doPQ (R := mz_r48) (as := [.ref 60, .int (nI jxa), .int xb, .int xe]) (rest := []) (r1 := some (.int 0)) (m1 := w) mz_t48 mz_v48_60 rfl rfl rfl rfl rfl ⟨?_, rfl⟩ ?_
                    · refine mz_go 2 (c' := (2, [some (.ref 60), some (.int (nI jxa)), some (.int xb), some (.int xe)], [.int (nI jxa), .ref 60], w)) rfl ?_
                      refine mz_doQ (R := mz_r45) (as := [.ref 60, .int (nI jxa)]) (rest := []) (r1 := some (.int 1)) (m1 := w) mz_t45 mz_v45_60 rfl rfl rfl rfl rfl ⟨?_, rfl⟩ ?_
                      · refine mz_go 2 (c' := (if (nI jxa) < 0 then 13 else 4, [some (.ref 60), some (.int (nI jxa))], [], w)) rfl ?_
                        refine mz_ifF q1 ?_
                        refine mz_go 3 (c' := (if 4 ≤ (nI jxa) then 13 else 9, [some (.ref 60), some (.int (nI jxa))], [], w)) rfl ?_
                        refine mz_ifF q2 ?_
                        refine mz_go 2 (c' := (14, [some (.ref 60), some (.int (nI jxa))], [.int 1], w)) rfl ?_
                        exact mz_ret rfl
                      refine mz_go 3 (c' := (if xe < 0 then 42 else 12, [some (.ref 60), some (.int (nI jxa)), some (.int xb), some (.int xe)], [], w)) rfl ?_
                      refine mz_ifF q8 ?_
                      refine mz_go 2 (c' := (if xb < 0 then 42 else 16, [some (.ref 60), some (.int (nI jxa)), some (.int xb), some (.int xe)], [], w)) rfl ?_
                      refine mz_ifT q9 ?_
                      refine mz_go 1 (c' := (43, [some (.ref 60), some (.int (nI jxa)), some (.int xb), some (.int xe)], [.int 0], w)) rfl ?_
                      exact mz_ret rfl
                    refine mz_goP 3 (c' := (114, [some (.ref 0), some (.int (nI jxa)), some (.int xb), some (.int (nI jxc)), some (.int xd), some (.int xe)], [.int 1, .ref 0], w)) rfl ?_
                    refine mz_doPQ (R := mz_r109) (as := [.ref 0, .int 1]) (rest := []) (r1 := some (.int (-1000001))) (m1 := mz_up w 64 1 ((w 64 1) + 1)) mz_t109 mz_v109_0 rfl rfl rfl rfl rfl ((cs_err1 (m := w)).deep (by decide)) ?_
                    refine mz_retP (r := (some (.int ((-1000001))), mz_up w 64 1 ((w 64 1) + 1))) rfl ⟨(-1000001), rfl, ?_⟩
                    refine mz_goP 1 (c' := (1, [some (.ref 65), some (.int (nI jxa)), some (.int xb), some (.int (nI jxc)), some (.int xd), some (.int xe), none], [.int (nI jxa)], mz_up w 64 1 ((w 64 1) + 1))) rfl ?_
                    refine mz_doPQ (R := mz_r219) (as := [.int (nI jxa)]) (rest := []) (r1 := some (.int 1)) (m1 := mz_up w 64 1 ((w 64 1) + 1)) mz_t219 mz_v219 rfl rfl rfl rfl rfl ⟨?_, rfl⟩ ?_
                    · refine mz_go 3 (c' := (3, [some (.int (nI jxa))], [.int 3, .int 0, .int (nI jxa)], mz_up w 64 1 ((w 64 1) + 1))) rfl ?_
                      refine mz_doQ (R := mz_r128) (as := [.int (nI jxa), .int 0, .int 3]) (rest := []) (r1 := some (.int 1)) (m1 := mz_up w 64 1 ((w 64 1) + 1)) mz_t128 mz_v128 rfl rfl rfl rfl rfl ((ct_in1 (m := mz_up w 64 1 ((w 64 1) + 1)) (v := nI jxa) (a := 0) (b := 3) q1 (show ¬ (3 < (nI jxa)) from (sm_nltN rfl rfl (show jxa ≤ 3 by omega) (show 3 < 2 ^ 31 by omega)))).deep (by decide)) ?_
                      exact mz_ret rfl
                    refine mz_goP 2 (c' := (8, [some (.ref 65), some (.int (nI jxa)), some (.int xb), some (.int (nI jxc)), some (.int xd), some (.int xe), none], [.int (nI jxc)], mz_up w 64 1 ((w 64 1) + 1))) rfl ?_
                    refine mz_doPQ (R := mz_r219) (as := [.int (nI jxc)]) (rest := []) (r1 := some (.int 1)) (m1 := mz_up w 64 1 ((w 64 1) + 1)) mz_t219 mz_v219 rfl rfl rfl rfl rfl ⟨?_, rfl⟩ ?_
                    · refine mz_go 3 (c' := (3, [some (.int (nI jxc))], [.int 3, .int 0, .int (nI jxc)], mz_up w 64 1 ((w 64 1) + 1))) rfl ?_
                      refine mz_doQ (R := mz_r128) (as := [.int (nI jxc), .int 0, .int 3]) (rest := []) (r1 := some (.int 1)) (m1 := mz_up w 64 1 ((w 64 1) + 1)) mz_t128 mz_v128 rfl rfl rfl rfl rfl ((ct_in1 (m := mz_up w 64 1 ((w 64 1) + 1)) (v := nI jxc) (a := 0) (b := 3) q3 (show ¬ (3 < (nI jxc)) from (sm_nltN rfl rfl (show jxc ≤ 3 by omega) (show 3 < 2 ^ 31 by omega)))).deep (by decide)) ?_
                      exact mz_ret rfl
                    refine mz_goP 4 (c' := (25, [some (.ref 65), some (.int (nI jxa)), some (.int xb), some (.int (nI jxc)), some (.int xd), some (.int xe), none], [.int (nI jxa), .ref 75], mz_up w 64 1 ((w 64 1) + 1))) rfl ?_
                    refine mz_arrP (c' := (26, [some (.ref 65), some (.int (nI jxa)), some (.int xb), some (.int (nI jxc)), some (.int xd), some (.int xe), none], [.int (w 75 ((nI jxa).toNatClampNeg))], mz_up w 64 1 ((w 64 1) + 1))) rfl (show mz_in (nI jxa) 4 = true from sm_inN rfl (show jxa < 4 by omega) (by decide)) ?_
                    rw [show (nI jxa : Int32).toNatClampNeg = jxa from sm_clN rfl (show jxa < 2 ^ 31 by omega)]
                    rw [show w 75 jxa = w 61 jxa from (hsh jxa (by omega)).2.2.1]
                    refine mz_goP 1 (c' := (if (w 61 jxa) = 0 then 38 else 29, [some (.ref 65), some (.int (nI jxa)), some (.int xb), some (.int (nI jxc)), some (.int xd), some (.int xe), none], [], mz_up w 64 1 ((w 64 1) + 1))) rfl ?_
                    refine mz_ifFP q5 ?_
                    refine mz_goP 3 (c' := (34, [some (.ref 65), some (.int (nI jxa)), some (.int xb), some (.int (nI jxc)), some (.int xd), some (.int xe), none], [.int (nI jxc), .ref 75], mz_up w 64 1 ((w 64 1) + 1))) rfl ?_
                    refine mz_arrP (c' := (35, [some (.ref 65), some (.int (nI jxa)), some (.int xb), some (.int (nI jxc)), some (.int xd), some (.int xe), none], [.int (w 75 ((nI jxc).toNatClampNeg))], mz_up w 64 1 ((w 64 1) + 1))) rfl (show mz_in (nI jxc) 4 = true from sm_inN rfl (show jxc < 4 by omega) (by decide)) ?_
                    rw [show (nI jxc : Int32).toNatClampNeg = jxc from sm_clN rfl (show jxc < 2 ^ 31 by omega)]
                    rw [show w 75 jxc = w 61 jxc from (hsh jxc (by omega)).2.2.1]
                    refine mz_goP 1 (c' := (if (w 61 jxc) = 0 then 38 else 44, [some (.ref 65), some (.int (nI jxa)), some (.int xb), some (.int (nI jxc)), some (.int xd), some (.int xe), none], [], mz_up w 64 1 ((w 64 1) + 1))) rfl ?_
                    refine mz_ifFP q6 ?_
                    refine mz_goP 3 (c' := (49, [some (.ref 65), some (.int (nI jxa)), some (.int xb), some (.int (nI jxc)), some (.int xd), some (.int xe), none], [.int (nI jxa), .ref 75], mz_up w 64 1 ((w 64 1) + 1))) rfl ?_
                    refine mz_arrP (c' := (50, [some (.ref 65), some (.int (nI jxa)), some (.int xb), some (.int (nI jxc)), some (.int xd), some (.int xe), none], [.int (w 75 ((nI jxa).toNatClampNeg))], mz_up w 64 1 ((w 64 1) + 1))) rfl (show mz_in (nI jxa) 4 = true from sm_inN rfl (show jxa < 4 by omega) (by decide)) ?_
                    rw [show (nI jxa : Int32).toNatClampNeg = jxa from sm_clN rfl (show jxa < 2 ^ 31 by omega)]
                    rw [show w 75 jxa = w 61 jxa from (hsh jxa (by omega)).2.2.1]
                    refine mz_goP 3 (c' := (55, [some (.ref 65), some (.int (nI jxa)), some (.int xb), some (.int (nI jxc)), some (.int xd), some (.int xe), none], [.int (nI jxc), .ref 75, .int (w 61 jxa)], mz_up w 64 1 ((w 64 1) + 1))) rfl ?_
                    refine mz_arrP (c' := (56, [some (.ref 65), some (.int (nI jxa)), some (.int xb), some (.int (nI jxc)), some (.int xd), some (.int xe), none], [.int (w 75 ((nI jxc).toNatClampNeg)), .int (w 61 jxa)], mz_up w 64 1 ((w 64 1) + 1))) rfl (show mz_in (nI jxc) 4 = true from sm_inN rfl (show jxc < 4 by omega) (by decide)) ?_
                    rw [show (nI jxc : Int32).toNatClampNeg = jxc from sm_clN rfl (show jxc < 2 ^ 31 by omega)]
                    rw [show w 75 jxc = w 61 jxc from (hsh jxc (by omega)).2.2.1]
                    refine mz_goP 1 (c' := (if (w 61 jxa) = (w 61 jxc) then 65 else 59, [some (.ref 65), some (.int (nI jxa)), some (.int xb), some (.int (nI jxc)), some (.int xd), some (.int xe), none], [], mz_up w 64 1 ((w 64 1) + 1))) rfl ?_
                    refine mz_ifTP q7 ?_
                    refine mz_goP 2 (c' := (if xe < 0 then 106 else 70, [some (.ref 65), some (.int (nI jxa)), some (.int xb), some (.int (nI jxc)), some (.int xd), some (.int xe), none], [], mz_up w 64 1 ((w 64 1) + 1))) rfl ?_
                    refine mz_ifFP q8 ?_
                    refine mz_goP 2 (c' := (if xb < 0 then 106 else 74, [some (.ref 65), some (.int (nI jxa)), some (.int xb), some (.int (nI jxc)), some (.int xd), some (.int xe), none], [], mz_up w 64 1 ((w 64 1) + 1))) rfl ?_
                    refine mz_ifTP q9 ?_
                    refine mz_goP 2 (c' := (108, [some (.ref 65), some (.int (nI jxa)), some (.int xb), some (.int (nI jxc)), some (.int xd), some (.int xe), none], [.int 1, .ref 65], mz_up w 64 1 ((w 64 1) + 1))) rfl ?_
                    refine mz_doPQ (R := mz_r127) (as := [.ref 65, .int 1]) (rest := []) (r1 := some (.int (-1000001))) (m1 := mz_up (mz_up w 64 1 ((w 64 1) + 1)) 68 1 ((w 68 1) + 1)) mz_t127 mz_v127_65 rfl rfl rfl rfl rfl ((ct_err1 (m := mz_up w 64 1 ((w 64 1) + 1))).deep (by decide)) ?_
                    refine mz_retP (r := (some (.int ((-1000001))), mz_up (mz_up w 64 1 ((w 64 1) + 1)) 68 1 ((w 68 1) + 1))) rfl ⟨(-1000001), rfl, ?_, rfl⟩
                    show sm_I (n + 1) (mz_up (mz_up w 64 1 ((w 64 1) + 1)) 68 1 ((w 68 1) + 1))
                    exact sm_I_scr hn hI2 (fun i hi => by
                      have hne : ∀ r, sm_scr r = true → i ≠ r := fun r hr e => by
                        rw [e, hr] at hi
                        cases hi
                      simp only [mz_up_ne (hne 64 rfl), mz_up_ne (hne 68 rfl)]) rfl rfl
                  · obtain ⟨zz10, hzz10, ezz10⟩ := sm_Nof (by decide) (hsh jxa (by omega)).2.1
                    obtain ⟨jxe, hjxe, rfl⟩ := nI_of q8
                    by_cases q11 : zz10 < jxe
                    · by_cases q12 : xd < 0
                      · refine mz_goP 3 (c' := (5, [some (.ref 0), some (.int (nI jxa)), some (.int xb), some (.int (nI jxc)), some (.int xd), some (.int (nI jxe))], [.int (nI jxa), .ref 60], w)) rfl ?_
                        refine mz_doPQ (R := mz_r45) (as := [.ref 60, .int (nI jxa)]) (rest := []) (r1 := some (.int 1)) (m1 := w) mz_t45 mz_v45_60 rfl rfl rfl rfl rfl ⟨?_, rfl⟩ ?_
                        · refine mz_go 2 (c' := (if (nI jxa) < 0 then 13 else 4, [some (.ref 60), some (.int (nI jxa))], [], w)) rfl ?_
                          refine mz_ifF q1 ?_
                          refine mz_go 3 (c' := (if 4 ≤ (nI jxa) then 13 else 9, [some (.ref 60), some (.int (nI jxa))], [], w)) rfl ?_
                          refine mz_ifF q2 ?_
                          refine mz_go 2 (c' := (14, [some (.ref 60), some (.int (nI jxa))], [.int 1], w)) rfl ?_
                          exact mz_ret rfl
                        refine mz_goP 4 (c' := (16, [some (.ref 0), some (.int (nI jxa)), some (.int xb), some (.int (nI jxc)), some (.int xd), some (.int (nI jxe))], [.int (nI jxc), .ref 60], w)) rfl ?_
                        refine mz_doPQ (R := mz_r45) (as := [.ref 60, .int (nI jxc)]) (rest := []) (r1 := some (.int 1)) (m1 := w) mz_t45 mz_v45_60 rfl rfl rfl rfl rfl ⟨?_, rfl⟩ ?_
                        · refine mz_go 2 (c' := (if (nI jxc) < 0 then 13 else 4, [some (.ref 60), some (.int (nI jxc))], [], w)) rfl ?_
                          refine mz_ifF q3 ?_
                          refine mz_go 3 (c' := (if 4 ≤ (nI jxc) then 13 else 9, [some (.ref 60), some (.int (nI jxc))], [], w)) rfl ?_
                          refine mz_ifF q4 ?_
                          refine mz_go 2 (c' := (14, [some (.ref 60), some (.int (nI jxc))], [.int 1], w)) rfl ?_
                          exact mz_ret rfl
                        refine mz_goP 4 (c' := (33, [some (.ref 0), some (.int (nI jxa)), some (.int xb), some (.int (nI jxc)), some (.int xd), some (.int (nI jxe))], [.int (nI jxa), .ref 60], w)) rfl ?_
                        refine mz_doPQ (R := mz_r46) (as := [.ref 60, .int (nI jxa)]) (rest := []) (r1 := some (.int 0)) (m1 := w) mz_t46 mz_v46_60 rfl rfl rfl rfl rfl ⟨?_, rfl⟩ ?_
                        · refine mz_go 2 (c' := (2, [some (.ref 60), some (.int (nI jxa))], [.int (nI jxa), .ref 60], w)) rfl ?_
                          refine mz_doQ (R := mz_r45) (as := [.ref 60, .int (nI jxa)]) (rest := []) (r1 := some (.int 1)) (m1 := w) mz_t45 mz_v45_60 rfl rfl rfl rfl rfl ⟨?_, rfl⟩ ?_
                          · refine mz_go 2 (c' := (if (nI jxa) < 0 then 13 else 4, [some (.ref 60), some (.int (nI jxa))], [], w)) rfl ?_
                            refine mz_ifF q1 ?_
                            refine mz_go 3 (c' := (if 4 ≤ (nI jxa) then 13 else 9, [some (.ref 60), some (.int (nI jxa))], [], w)) rfl ?_
                            refine mz_ifF q2 ?_
                            refine mz_go 2 (c' := (14, [some (.ref 60), some (.int (nI jxa))], [.int 1], w)) rfl ?_
                            exact mz_ret rfl
                          refine mz_go 4 (c' := (13, [some (.ref 60), some (.int (nI jxa))], [.int (nI jxa), .ref 61], w)) rfl ?_
                          refine mz_arr (c' := (14, [some (.ref 60), some (.int (nI jxa))], [.int (w 61 ((nI jxa).toNatClampNeg))], w)) rfl (show mz_in (nI jxa) 4 = true from sm_inN rfl (show jxa < 4 by omega) (by decide)) ?_
                          rw [show (nI jxa : Int32).toNatClampNeg = jxa from sm_clN rfl (show jxa < 2 ^ 31 by omega)]
                          refine mz_go 1 (c' := (if (w 61 jxa) = 0 then 17 else 21, [some (.ref 60), some (.int (nI jxa))], [], w)) rfl ?_
                          refine mz_ifF q5 ?_
                          refine mz_go 1 (c' := (22, [some (.ref 60), some (.int (nI jxa))], [.int 0], w)) rfl ?_
                          exact mz_ret rfl
                        refine mz_goP 4 (c' := (44, [some (.ref 0), some (.int (nI jxa)), some (.int xb), some (.int (nI jxc)), some (.int xd), some (.int (nI jxe))], [.int (nI jxc), .ref 60], w)) rfl ?_
                        refine mz_doPQ (R := mz_r46) (as := [.ref 60, .int (nI jxc)]) (rest := []) (r1 := some (.int 0)) (m1 := w) mz_t46 mz_v46_60 rfl rfl rfl rfl rfl ⟨?_, rfl⟩ ?_
                        · refine mz_go 2 (c' := (2, [some (.ref 60), some (.int (nI jxc))], [.int (nI jxc), .ref 60], w)) rfl ?_
                          refine mz_doQ (R := mz_r45) (as := [.ref 60, .int (nI jxc)]) (rest := []) (r1 := some (.int 1)) (m1 := w) mz_t45 mz_v45_60 rfl rfl rfl rfl rfl ⟨?_, rfl⟩ ?_
                          · refine mz_go 2 (c' := (if (nI jxc) < 0 then 13 else 4, [some (.ref 60), some (.int (nI jxc))], [], w)) rfl ?_
                            refine mz_ifF q3 ?_
                            refine mz_go 3 (c' := (if 4 ≤ (nI jxc) then 13 else 9, [some (.ref 60), some (.int (nI jxc))], [], w)) rfl ?_
                            refine mz_ifF q4 ?_
                            refine mz_go 2 (c' := (14, [some (.ref 60), some (.int (nI jxc))], [.int 1], w)) rfl ?_
                            exact mz_ret rfl
                          refine mz_go 4 (c' := (13, [some (.ref 60), some (.int (nI jxc))], [.int (nI jxc), .ref 61], w)) rfl ?_
                          refine mz_arr (c' := (14, [some (.ref 60), some (.int (nI jxc))], [.int (w 61 ((nI jxc).toNatClampNeg))], w)) rfl (show mz_in (nI jxc) 4 = true from sm_inN rfl (show jxc < 4 by omega) (by decide)) ?_
                          rw [show (nI jxc : Int32).toNatClampNeg = jxc from sm_clN rfl (show jxc < 2 ^ 31 by omega)]
                          refine mz_go 1 (c' := (if (w 61 jxc) = 0 then 17 else 21, [some (.ref 60), some (.int (nI jxc))], [], w)) rfl ?_
                          refine mz_ifF q6 ?_
                          refine mz_go 1 (c' := (22, [some (.ref 60), some (.int (nI jxc))], [.int 0], w)) rfl ?_
                          exact mz_ret rfl
                        refine mz_goP 5 (c' := (64, [some (.ref 0), some (.int (nI jxa)), some (.int xb), some (.int (nI jxc)), some (.int xd), some (.int (nI jxe))], [.int (nI jxa), .ref 61], w)) rfl ?_
                        refine mz_arrP (c' := (65, [some (.ref 0), some (.int (nI jxa)), some (.int xb), some (.int (nI jxc)), some (.int xd), some (.int (nI jxe))], [.int (w 61 ((nI jxa).toNatClampNeg))], w)) rfl (show mz_in (nI jxa) 4 = true from sm_inN rfl (show jxa < 4 by omega) (by decide)) ?_
                        rw [show (nI jxa : Int32).toNatClampNeg = jxa from sm_clN rfl (show jxa < 2 ^ 31 by omega)]
                        refine mz_goP 4 (c' := (73, [some (.ref 0), some (.int (nI jxa)), some (.int xb), some (.int (nI jxc)), some (.int xd), some (.int (nI jxe))], [.int (nI jxc), .ref 61, .int (w 61 jxa)], w)) rfl ?_
                        refine mz_arrP (c' := (74, [some (.ref 0), some (.int (nI jxa)), some (.int xb), some (.int (nI jxc)), some (.int xd), some (.int (nI jxe))], [.int (w 61 ((nI jxc).toNatClampNeg)), .int (w 61 jxa)], w)) rfl (show mz_in (nI jxc) 4 = true from sm_inN rfl (show jxc < 4 by omega) (by decide)) ?_
                        rw [show (nI jxc : Int32).toNatClampNeg = jxc from sm_clN rfl (show jxc < 2 ^ 31 by omega)]
                        refine mz_goP 1 (c' := (if (w 61 jxa) = (w 61 jxc) then 83 else 77, [some (.ref 0), some (.int (nI jxa)), some (.int xb), some (.int (nI jxc)), some (.int xd), some (.int (nI jxe))], [], w)) rfl ?_
                        refine mz_ifTP q7 ?_
                        refine mz_goP 5 (c' := (91, [some (.ref 0), some (.int (nI jxa)), some (.int xb), some (.int (nI jxc)), some (.int xd), some (.int (nI jxe))], [.int (nI jxe), .int xb, .int (nI jxa), .ref 60], w)) rfl ?_
                        refine mz_doPQ (R := mz_r48) (as := [.ref 60, .int (nI jxa), .int xb, .int (nI jxe)]) (rest := []) (r1 := some (.int 0)) (m1 := w) mz_t48 mz_v48_60 rfl rfl rfl rfl rfl ⟨?_, rfl⟩ ?_
                        · refine mz_go 2 (c' := (2, [some (.ref 60), some (.int (nI jxa)), some (.int xb), some (.int (nI jxe))], [.int (nI jxa), .ref 60], w)) rfl ?_
                          refine mz_doQ (R := mz_r45) (as := [.ref 60, .int (nI jxa)]) (rest := []) (r1 := some (.int 1)) (m1 := w) mz_t45 mz_v45_60 rfl rfl rfl rfl rfl ⟨?_, rfl⟩ ?_
                          · refine mz_go 2 (c' := (if (nI jxa) < 0 then 13 else 4, [some (.ref 60), some (.int (nI jxa))], [], w)) rfl ?_
                            refine mz_ifF q1 ?_
                            refine mz_go 3 (c' := (if 4 ≤ (nI jxa) then 13 else 9, [some (.ref 60), some (.int (nI jxa))], [], w)) rfl ?_
                            refine mz_ifF q2 ?_
                            refine mz_go 2 (c' := (14, [some (.ref 60), some (.int (nI jxa))], [.int 1], w)) rfl ?_
                            exact mz_ret rfl
                          refine mz_go 3 (c' := (if (nI jxe) < 0 then 42 else 12, [some (.ref 60), some (.int (nI jxa)), some (.int xb), some (.int (nI jxe))], [], w)) rfl ?_
                          refine mz_ifF q8 ?_
                          refine mz_go 2 (c' := (if xb < 0 then 42 else 16, [some (.ref 60), some (.int (nI jxa)), some (.int xb), some (.int (nI jxe))], [], w)) rfl ?_
                          refine mz_ifF q9 ?_
                          refine mz_go 4 (c' := (22, [some (.ref 60), some (.int (nI jxa)), some (.int xb), some (.int (nI jxe))], [.int (nI jxa), .ref 62, .int (nI jxe)], w)) rfl ?_
                          refine mz_arr (c' := (23, [some (.ref 60), some (.int (nI jxa)), some (.int xb), some (.int (nI jxe))], [.int (w 62 ((nI jxa).toNatClampNeg)), .int (nI jxe)], w)) rfl (show mz_in (nI jxa) 4 = true from sm_inN rfl (show jxa < 4 by omega) (by decide)) ?_
                          rw [show (nI jxa : Int32).toNatClampNeg = jxa from sm_clN rfl (show jxa < 2 ^ 31 by omega)]
                          rw [ezz10]
                          refine mz_go 1 (c' := (if (nI zz10) < (nI jxe) then 42 else 26, [some (.ref 60), some (.int (nI jxa)), some (.int xb), some (.int (nI jxe))], [], w)) rfl ?_
                          refine mz_ifT (show ((nI zz10) < (nI jxe)) from (sm_ltN rfl rfl (show zz10 < jxe by omega) (show jxe < 2 ^ 31 by omega))) ?_
                          refine mz_go 1 (c' := (43, [some (.ref 60), some (.int (nI jxa)), some (.int xb), some (.int (nI jxe))], [.int 0], w)) rfl ?_
                          exact mz_ret rfl
                        refine mz_goP 3 (c' := (114, [some (.ref 0), some (.int (nI jxa)), some (.int xb), some (.int (nI jxc)), some (.int xd), some (.int (nI jxe))], [.int 1, .ref 0], w)) rfl ?_
                        refine mz_doPQ (R := mz_r109) (as := [.ref 0, .int 1]) (rest := []) (r1 := some (.int (-1000001))) (m1 := mz_up w 64 1 ((w 64 1) + 1)) mz_t109 mz_v109_0 rfl rfl rfl rfl rfl ((cs_err1 (m := w)).deep (by decide)) ?_
                        refine mz_retP (r := (some (.int ((-1000001))), mz_up w 64 1 ((w 64 1) + 1))) rfl ⟨(-1000001), rfl, ?_⟩
                        refine mz_goP 1 (c' := (1, [some (.ref 65), some (.int (nI jxa)), some (.int xb), some (.int (nI jxc)), some (.int xd), some (.int (nI jxe)), none], [.int (nI jxa)], mz_up w 64 1 ((w 64 1) + 1))) rfl ?_
                        refine mz_doPQ (R := mz_r219) (as := [.int (nI jxa)]) (rest := []) (r1 := some (.int 1)) (m1 := mz_up w 64 1 ((w 64 1) + 1)) mz_t219 mz_v219 rfl rfl rfl rfl rfl ⟨?_, rfl⟩ ?_
                        · refine mz_go 3 (c' := (3, [some (.int (nI jxa))], [.int 3, .int 0, .int (nI jxa)], mz_up w 64 1 ((w 64 1) + 1))) rfl ?_
                          refine mz_doQ (R := mz_r128) (as := [.int (nI jxa), .int 0, .int 3]) (rest := []) (r1 := some (.int 1)) (m1 := mz_up w 64 1 ((w 64 1) + 1)) mz_t128 mz_v128 rfl rfl rfl rfl rfl ((ct_in1 (m := mz_up w 64 1 ((w 64 1) + 1)) (v := nI jxa) (a := 0) (b := 3) q1 (show ¬ (3 < (nI jxa)) from (sm_nltN rfl rfl (show jxa ≤ 3 by omega) (show 3 < 2 ^ 31 by omega)))).deep (by decide)) ?_
                          exact mz_ret rfl
                        refine mz_goP 2 (c' := (8, [some (.ref 65), some (.int (nI jxa)), some (.int xb), some (.int (nI jxc)), some (.int xd), some (.int (nI jxe)), none], [.int (nI jxc)], mz_up w 64 1 ((w 64 1) + 1))) rfl ?_
                        refine mz_doPQ (R := mz_r219) (as := [.int (nI jxc)]) (rest := []) (r1 := some (.int 1)) (m1 := mz_up w 64 1 ((w 64 1) + 1)) mz_t219 mz_v219 rfl rfl rfl rfl rfl ⟨?_, rfl⟩ ?_
                        · refine mz_go 3 (c' := (3, [some (.int (nI jxc))], [.int 3, .int 0, .int (nI jxc)], mz_up w 64 1 ((w 64 1) + 1))) rfl ?_
                          refine mz_doQ (R := mz_r128) (as := [.int (nI jxc), .int 0, .int 3]) (rest := []) (r1 := some (.int 1)) (m1 := mz_up w 64 1 ((w 64 1) + 1)) mz_t128 mz_v128 rfl rfl rfl rfl rfl ((ct_in1 (m := mz_up w 64 1 ((w 64 1) + 1)) (v := nI jxc) (a := 0) (b := 3) q3 (show ¬ (3 < (nI jxc)) from (sm_nltN rfl rfl (show jxc ≤ 3 by omega) (show 3 < 2 ^ 31 by omega)))).deep (by decide)) ?_
                          exact mz_ret rfl
                        refine mz_goP 4 (c' := (25, [some (.ref 65), some (.int (nI jxa)), some (.int xb), some (.int (nI jxc)), some (.int xd), some (.int (nI jxe)), none], [.int (nI jxa), .ref 75], mz_up w 64 1 ((w 64 1) + 1))) rfl ?_
                        refine mz_arrP (c' := (26, [some (.ref 65), some (.int (nI jxa)), some (.int xb), some (.int (nI jxc)), some (.int xd), some (.int (nI jxe)), none], [.int (w 75 ((nI jxa).toNatClampNeg))], mz_up w 64 1 ((w 64 1) + 1))) rfl (show mz_in (nI jxa) 4 = true from sm_inN rfl (show jxa < 4 by omega) (by decide)) ?_
                        rw [show (nI jxa : Int32).toNatClampNeg = jxa from sm_clN rfl (show jxa < 2 ^ 31 by omega)]
                        rw [show w 75 jxa = w 61 jxa from (hsh jxa (by omega)).2.2.1]
                        refine mz_goP 1 (c' := (if (w 61 jxa) = 0 then 38 else 29, [some (.ref 65), some (.int (nI jxa)), some (.int xb), some (.int (nI jxc)), some (.int xd), some (.int (nI jxe)), none], [], mz_up w 64 1 ((w 64 1) + 1))) rfl ?_
                        refine mz_ifFP q5 ?_
                        refine mz_goP 3 (c' := (34, [some (.ref 65), some (.int (nI jxa)), some (.int xb), some (.int (nI jxc)), some (.int xd), some (.int (nI jxe)), none], [.int (nI jxc), .ref 75], mz_up w 64 1 ((w 64 1) + 1))) rfl ?_
                        refine mz_arrP (c' := (35, [some (.ref 65), some (.int (nI jxa)), some (.int xb), some (.int (nI jxc)), some (.int xd), some (.int (nI jxe)), none], [.int (w 75 ((nI jxc).toNatClampNeg))], mz_up w 64 1 ((w 64 1) + 1))) rfl (show mz_in (nI jxc) 4 = true from sm_inN rfl (show jxc < 4 by omega) (by decide)) ?_
                        rw [show (nI jxc : Int32).toNatClampNeg = jxc from sm_clN rfl (show jxc < 2 ^ 31 by omega)]
                        rw [show w 75 jxc = w 61 jxc from (hsh jxc (by omega)).2.2.1]
                        refine mz_goP 1 (c' := (if (w 61 jxc) = 0 then 38 else 44, [some (.ref 65), some (.int (nI jxa)), some (.int xb), some (.int (nI jxc)), some (.int xd), some (.int (nI jxe)), none], [], mz_up w 64 1 ((w 64 1) + 1))) rfl ?_
                        refine mz_ifFP q6 ?_
                        refine mz_goP 3 (c' := (49, [some (.ref 65), some (.int (nI jxa)), some (.int xb), some (.int (nI jxc)), some (.int xd), some (.int (nI jxe)), none], [.int (nI jxa), .ref 75], mz_up w 64 1 ((w 64 1) + 1))) rfl ?_
                        refine mz_arrP (c' := (50, [some (.ref 65), some (.int (nI jxa)), some (.int xb), some (.int (nI jxc)), some (.int xd), some (.int (nI jxe)), none], [.int (w 75 ((nI jxa).toNatClampNeg))], mz_up w 64 1 ((w 64 1) + 1))) rfl (show mz_in (nI jxa) 4 = true from sm_inN rfl (show jxa < 4 by omega) (by decide)) ?_
                        rw [show (nI jxa : Int32).toNatClampNeg = jxa from sm_clN rfl (show jxa < 2 ^ 31 by omega)]
                        rw [show w 75 jxa = w 61 jxa from (hsh jxa (by omega)).2.2.1]
                        refine mz_goP 3 (c' := (55, [some (.ref 65), some (.int (nI jxa)), some (.int xb), some (.int (nI jxc)), some (.int xd), some (.int (nI jxe)), none], [.int (nI jxc), .ref 75, .int (w 61 jxa)], mz_up w 64 1 ((w 64 1) + 1))) rfl ?_
                        refine mz_arrP (c' := (56, [some (.ref 65), some (.int (nI jxa)), some (.int xb), some (.int (nI jxc)), some (.int xd), some (.int (nI jxe)), none], [.int (w 75 ((nI jxc).toNatClampNeg)), .int (w 61 jxa)], mz_up w 64 1 ((w 64 1) + 1))) rfl (show mz_in (nI jxc) 4 = true from sm_inN rfl (show jxc < 4 by omega) (by decide)) ?_
                        rw [show (nI jxc : Int32).toNatClampNeg = jxc from sm_clN rfl (show jxc < 2 ^ 31 by omega)]
                        rw [show w 75 jxc = w 61 jxc from (hsh jxc (by omega)).2.2.1]
                        refine mz_goP 1 (c' := (if (w 61 jxa) = (w 61 jxc) then 65 else 59, [some (.ref 65), some (.int (nI jxa)), some (.int xb), some (.int (nI jxc)), some (.int xd), some (.int (nI jxe)), none], [], mz_up w 64 1 ((w 64 1) + 1))) rfl ?_
                        refine mz_ifTP q7 ?_
                        refine mz_goP 2 (c' := (if (nI jxe) < 0 then 106 else 70, [some (.ref 65), some (.int (nI jxa)), some (.int xb), some (.int (nI jxc)), some (.int xd), some (.int (nI jxe)), none], [], mz_up w 64 1 ((w 64 1) + 1))) rfl ?_
                        refine mz_ifFP q8 ?_
                        refine mz_goP 2 (c' := (if xb < 0 then 106 else 74, [some (.ref 65), some (.int (nI jxa)), some (.int xb), some (.int (nI jxc)), some (.int xd), some (.int (nI jxe)), none], [], mz_up w 64 1 ((w 64 1) + 1))) rfl ?_
                        refine mz_ifFP q9 ?_
                        refine mz_goP 2 (c' := (if xd < 0 then 106 else 79, [some (.ref 65), some (.int (nI jxa)), some (.int xb), some (.int (nI jxc)), some (.int xd), some (.int (nI jxe)), none], [], mz_up w 64 1 ((w 64 1) + 1))) rfl ?_
                        refine mz_ifTP q12 ?_
                        refine mz_goP 2 (c' := (108, [some (.ref 65), some (.int (nI jxa)), some (.int xb), some (.int (nI jxc)), some (.int xd), some (.int (nI jxe)), none], [.int 1, .ref 65], mz_up w 64 1 ((w 64 1) + 1))) rfl ?_
                        refine mz_doPQ (R := mz_r127) (as := [.ref 65, .int 1]) (rest := []) (r1 := some (.int (-1000001))) (m1 := mz_up (mz_up w 64 1 ((w 64 1) + 1)) 68 1 ((w 68 1) + 1)) mz_t127 mz_v127_65 rfl rfl rfl rfl rfl ((ct_err1 (m := mz_up w 64 1 ((w 64 1) + 1))).deep (by decide)) ?_
                        refine mz_retP (r := (some (.int ((-1000001))), mz_up (mz_up w 64 1 ((w 64 1) + 1)) 68 1 ((w 68 1) + 1))) rfl ⟨(-1000001), rfl, ?_, rfl⟩
                        show sm_I (n + 1) (mz_up (mz_up w 64 1 ((w 64 1) + 1)) 68 1 ((w 68 1) + 1))
                        exact sm_I_scr hn hI2 (fun i hi => by
                          have hne : ∀ r, sm_scr r = true → i ≠ r := fun r hr e => by
                            rw [e, hr] at hi
                            cases hi
                          simp only [mz_up_ne (hne 64 rfl), mz_up_ne (hne 68 rfl)]) rfl rfl
                      · obtain ⟨jxb, hjxb, rfl⟩ := nI_of q9
                        refine mz_goP 3 (c' := (5, [some (.ref 0), some (.int (nI jxa)), some (.int (nI jxb)), some (.int (nI jxc)), some (.int xd), some (.int (nI jxe))], [.int (nI jxa), .ref 60], w)) rfl ?_
                        refine mz_doPQ (R := mz_r45) (as := [.ref 60, .int (nI jxa)]) (rest := []) (r1 := some (.int 1)) (m1 := w) mz_t45 mz_v45_60 rfl rfl rfl rfl rfl ⟨?_, rfl⟩ ?_
                        · refine mz_go 2 (c' := (if (nI jxa) < 0 then 13 else 4, [some (.ref 60), some (.int (nI jxa))], [], w)) rfl ?_
                          refine mz_ifF q1 ?_
                          refine mz_go 3 (c' := (if 4 ≤ (nI jxa) then 13 else 9, [some (.ref 60), some (.int (nI jxa))], [], w)) rfl ?_
                          refine mz_ifF q2 ?_
                          refine mz_go 2 (c' := (14, [some (.ref 60), some (.int (nI jxa))], [.int 1], w)) rfl ?_
                          exact mz_ret rfl
                        refine mz_goP 4 (c' := (16, [some (.ref 0), some (.int (nI jxa)), some (.int (nI jxb)), some (.int (nI jxc)), some (.int xd), some (.int (nI jxe))], [.int (nI jxc), .ref 60], w)) rfl ?_
                        refine mz_doPQ (R := mz_r45) (as := [.ref 60, .int (nI jxc)]) (rest := []) (r1 := some (.int 1)) (m1 := w) mz_t45 mz_v45_60 rfl rfl rfl rfl rfl ⟨?_, rfl⟩ ?_
                        · refine mz_go 2 (c' := (if (nI jxc) < 0 then 13 else 4, [some (.ref 60), some (.int (nI jxc))], [], w)) rfl ?_
                          refine mz_ifF q3 ?_
                          refine mz_go 3 (c' := (if 4 ≤ (nI jxc) then 13 else 9, [some (.ref 60), some (.int (nI jxc))], [], w)) rfl ?_
                          refine mz_ifF q4 ?_
                          refine mz_go 2 (c' := (14, [some (.ref 60), some (.int (nI jxc))], [.int 1], w)) rfl ?_
                          exact mz_ret rfl
                        refine mz_goP 4 (c' := (33, [some (.ref 0), some (.int (nI jxa)), some (.int (nI jxb)), some (.int (nI jxc)), some (.int xd), some (.int (nI jxe))], [.int (nI jxa), .ref 60], w)) rfl ?_
                        refine mz_doPQ (R := mz_r46) (as := [.ref 60, .int (nI jxa)]) (rest := []) (r1 := some (.int 0)) (m1 := w) mz_t46 mz_v46_60 rfl rfl rfl rfl rfl ⟨?_, rfl⟩ ?_
                        · refine mz_go 2 (c' := (2, [some (.ref 60), some (.int (nI jxa))], [.int (nI jxa), .ref 60], w)) rfl ?_
                          refine mz_doQ (R := mz_r45) (as := [.ref 60, .int (nI jxa)]) (rest := []) (r1 := some (.int 1)) (m1 := w) mz_t45 mz_v45_60 rfl rfl rfl rfl rfl ⟨?_, rfl⟩ ?_
                          · refine mz_go 2 (c' := (if (nI jxa) < 0 then 13 else 4, [some (.ref 60), some (.int (nI jxa))], [], w)) rfl ?_
                            refine mz_ifF q1 ?_
                            refine mz_go 3 (c' := (if 4 ≤ (nI jxa) then 13 else 9, [some (.ref 60), some (.int (nI jxa))], [], w)) rfl ?_
                            refine mz_ifF q2 ?_
                            refine mz_go 2 (c' := (14, [some (.ref 60), some (.int (nI jxa))], [.int 1], w)) rfl ?_
                            exact mz_ret rfl
                          refine mz_go 4 (c' := (13, [some (.ref 60), some (.int (nI jxa))], [.int (nI jxa), .ref 61], w)) rfl ?_
                          refine mz_arr (c' := (14, [some (.ref 60), some (.int (nI jxa))], [.int (w 61 ((nI jxa).toNatClampNeg))], w)) rfl (show mz_in (nI jxa) 4 = true from sm_inN rfl (show jxa < 4 by omega) (by decide)) ?_
                          rw [show (nI jxa : Int32).toNatClampNeg = jxa from sm_clN rfl (show jxa < 2 ^ 31 by omega)]
                          refine mz_go 1 (c' := (if (w 61 jxa) = 0 then 17 else 21, [some (.ref 60), some (.int (nI jxa))], [], w)) rfl ?_
                          refine mz_ifF q5 ?_
                          refine mz_go 1 (c' := (22, [some (.ref 60), some (.int (nI jxa))], [.int 0], w)) rfl ?_
                          exact mz_ret rfl
                        refine mz_goP 4 (c' := (44, [some (.ref 0), some (.int (nI jxa)), some (.int (nI jxb)), some (.int (nI jxc)), some (.int xd), some (.int (nI jxe))], [.int (nI jxc), .ref 60], w)) rfl ?_
                        refine mz_doPQ (R := mz_r46) (as := [.ref 60, .int (nI jxc)]) (rest := []) (r1 := some (.int 0)) (m1 := w) mz_t46 mz_v46_60 rfl rfl rfl rfl rfl ⟨?_, rfl⟩ ?_
                        · refine mz_go 2 (c' := (2, [some (.ref 60), some (.int (nI jxc))], [.int (nI jxc), .ref 60], w)) rfl ?_
                          refine mz_doQ (R := mz_r45) (as := [.ref 60, .int (nI jxc)]) (rest := []) (r1 := some (.int 1)) (m1 := w) mz_t45 mz_v45_60 rfl rfl rfl rfl rfl ⟨?_, rfl⟩ ?_
                          · refine mz_go 2 (c' := (if (nI jxc) < 0 then 13 else 4, [some (.ref 60), some (.int (nI jxc))], [], w)) rfl ?_
                            refine mz_ifF q3 ?_
                            refine mz_go 3 (c' := (if 4 ≤ (nI jxc) then 13 else 9, [some (.ref 60), some (.int (nI jxc))], [], w)) rfl ?_
                            refine mz_ifF q4 ?_
                            refine mz_go 2 (c' := (14, [some (.ref 60), some (.int (nI jxc))], [.int 1], w)) rfl ?_
                            exact mz_ret rfl
                          refine mz_go 4 (c' := (13, [some (.ref 60), some (.int (nI jxc))], [.int (nI jxc), .ref 61], w)) rfl ?_
                          refine mz_arr (c' := (14, [some (.ref 60), some (.int (nI jxc))], [.int (w 61 ((nI jxc).toNatClampNeg))], w)) rfl (show mz_in (nI jxc) 4 = true from sm_inN rfl (show jxc < 4 by omega) (by decide)) ?_
                          rw [show (nI jxc : Int32).toNatClampNeg = jxc from sm_clN rfl (show jxc < 2 ^ 31 by omega)]
                          refine mz_go 1 (c' := (if (w 61 jxc) = 0 then 17 else 21, [some (.ref 60), some (.int (nI jxc))], [], w)) rfl ?_
                          refine mz_ifF q6 ?_
                          refine mz_go 1 (c' := (22, [some (.ref 60), some (.int (nI jxc))], [.int 0], w)) rfl ?_
                          exact mz_ret rfl
                        refine mz_goP 5 (c' := (64, [some (.ref 0), some (.int (nI jxa)), some (.int (nI jxb)), some (.int (nI jxc)), some (.int xd), some (.int (nI jxe))], [.int (nI jxa), .ref 61], w)) rfl ?_
                        refine mz_arrP (c' := (65, [some (.ref 0), some (.int (nI jxa)), some (.int (nI jxb)), some (.int (nI jxc)), some (.int xd), some (.int (nI jxe))], [.int (w 61 ((nI jxa).toNatClampNeg))], w)) rfl (show mz_in (nI jxa) 4 = true from sm_inN rfl (show jxa < 4 by omega) (by decide)) ?_
                        rw [show (nI jxa : Int32).toNatClampNeg = jxa from sm_clN rfl (show jxa < 2 ^ 31 by omega)]
                        refine mz_goP 4 (c' := (73, [some (.ref 0), some (.int (nI jxa)), some (.int (nI jxb)), some (.int (nI jxc)), some (.int xd), some (.int (nI jxe))], [.int (nI jxc), .ref 61, .int (w 61 jxa)], w)) rfl ?_
                        refine mz_arrP (c' := (74, [some (.ref 0), some (.int (nI jxa)), some (.int (nI jxb)), some (.int (nI jxc)), some (.int xd), some (.int (nI jxe))], [.int (w 61 ((nI jxc).toNatClampNeg)), .int (w 61 jxa)], w)) rfl (show mz_in (nI jxc) 4 = true from sm_inN rfl (show jxc < 4 by omega) (by decide)) ?_
                        rw [show (nI jxc : Int32).toNatClampNeg = jxc from sm_clN rfl (show jxc < 2 ^ 31 by omega)]
                        refine mz_goP 1 (c' := (if (w 61 jxa) = (w 61 jxc) then 83 else 77, [some (.ref 0), some (.int (nI jxa)), some (.int (nI jxb)), some (.int (nI jxc)), some (.int xd), some (.int (nI jxe))], [], w)) rfl ?_
                        refine mz_ifTP q7 ?_
                        refine mz_goP 5 (c' := (91, [some (.ref 0), some (.int (nI jxa)), some (.int (nI jxb)), some (.int (nI jxc)), some (.int xd), some (.int (nI jxe))], [.int (nI jxe), .int (nI jxb), .int (nI jxa), .ref 60], w)) rfl ?_
                        refine mz_doPQ (R := mz_r48) (as := [.ref 60, .int (nI jxa), .int (nI jxb), .int (nI jxe)]) (rest := []) (r1 := some (.int 0)) (m1 := w) mz_t48 mz_v48_60 rfl rfl rfl rfl rfl ⟨?_, rfl⟩ ?_
                        · refine mz_go 2 (c' := (2, [some (.ref 60), some (.int (nI jxa)), some (.int (nI jxb)), some (.int (nI jxe))], [.int (nI jxa), .ref 60], w)) rfl ?_
                          refine mz_doQ (R := mz_r45) (as := [.ref 60, .int (nI jxa)]) (rest := []) (r1 := some (.int 1)) (m1 := w) mz_t45 mz_v45_60 rfl rfl rfl rfl rfl ⟨?_, rfl⟩ ?_
                          · refine mz_go 2 (c' := (if (nI jxa) < 0 then 13 else 4, [some (.ref 60), some (.int (nI jxa))], [], w)) rfl ?_
                            refine mz_ifF q1 ?_
                            refine mz_go 3 (c' := (if 4 ≤ (nI jxa) then 13 else 9, [some (.ref 60), some (.int (nI jxa))], [], w)) rfl ?_
                            refine mz_ifF q2 ?_
                            refine mz_go 2 (c' := (14, [some (.ref 60), some (.int (nI jxa))], [.int 1], w)) rfl ?_
                            exact mz_ret rfl
                          refine mz_go 3 (c' := (if (nI jxe) < 0 then 42 else 12, [some (.ref 60), some (.int (nI jxa)), some (.int (nI jxb)), some (.int (nI jxe))], [], w)) rfl ?_
                          refine mz_ifF q8 ?_
                          refine mz_go 2 (c' := (if (nI jxb) < 0 then 42 else 16, [some (.ref 60), some (.int (nI jxa)), some (.int (nI jxb)), some (.int (nI jxe))], [], w)) rfl ?_
                          refine mz_ifF q9 ?_
                          refine mz_go 4 (c' := (22, [some (.ref 60), some (.int (nI jxa)), some (.int (nI jxb)), some (.int (nI jxe))], [.int (nI jxa), .ref 62, .int (nI jxe)], w)) rfl ?_
                          refine mz_arr (c' := (23, [some (.ref 60), some (.int (nI jxa)), some (.int (nI jxb)), some (.int (nI jxe))], [.int (w 62 ((nI jxa).toNatClampNeg)), .int (nI jxe)], w)) rfl (show mz_in (nI jxa) 4 = true from sm_inN rfl (show jxa < 4 by omega) (by decide)) ?_
                          rw [show (nI jxa : Int32).toNatClampNeg = jxa from sm_clN rfl (show jxa < 2 ^ 31 by omega)]
                          rw [ezz10]
                          refine mz_go 1 (c' := (if (nI zz10) < (nI jxe) then 42 else 26, [some (.ref 60), some (.int (nI jxa)), some (.int (nI jxb)), some (.int (nI jxe))], [], w)) rfl ?_
                          refine mz_ifT (show ((nI zz10) < (nI jxe)) from (sm_ltN rfl rfl (show zz10 < jxe by omega) (show jxe < 2 ^ 31 by omega))) ?_
                          refine mz_go 1 (c' := (43, [some (.ref 60), some (.int (nI jxa)), some (.int (nI jxb)), some (.int (nI jxe))], [.int 0], w)) rfl ?_
                          exact mz_ret rfl
                        refine mz_goP 3 (c' := (114, [some (.ref 0), some (.int (nI jxa)), some (.int (nI jxb)), some (.int (nI jxc)), some (.int xd), some (.int (nI jxe))], [.int 1, .ref 0], w)) rfl ?_
                        refine mz_doPQ (R := mz_r109) (as := [.ref 0, .int 1]) (rest := []) (r1 := some (.int (-1000001))) (m1 := mz_up w 64 1 ((w 64 1) + 1)) mz_t109 mz_v109_0 rfl rfl rfl rfl rfl ((cs_err1 (m := w)).deep (by decide)) ?_
                        refine mz_retP (r := (some (.int ((-1000001))), mz_up w 64 1 ((w 64 1) + 1))) rfl ⟨(-1000001), rfl, ?_⟩
                        refine mz_goP 1 (c' := (1, [some (.ref 65), some (.int (nI jxa)), some (.int (nI jxb)), some (.int (nI jxc)), some (.int xd), some (.int (nI jxe)), none], [.int (nI jxa)], mz_up w 64 1 ((w 64 1) + 1))) rfl ?_
                        refine mz_doPQ (R := mz_r219) (as := [.int (nI jxa)]) (rest := []) (r1 := some (.int 1)) (m1 := mz_up w 64 1 ((w 64 1) + 1)) mz_t219 mz_v219 rfl rfl rfl rfl rfl ⟨?_, rfl⟩ ?_
                        · refine mz_go 3 (c' := (3, [some (.int (nI jxa))], [.int 3, .int 0, .int (nI jxa)], mz_up w 64 1 ((w 64 1) + 1))) rfl ?_
                          refine mz_doQ (R := mz_r128) (as := [.int (nI jxa), .int 0, .int 3]) (rest := []) (r1 := some (.int 1)) (m1 := mz_up w 64 1 ((w 64 1) + 1)) mz_t128 mz_v128 rfl rfl rfl rfl rfl ((ct_in1 (m := mz_up w 64 1 ((w 64 1) + 1)) (v := nI jxa) (a := 0) (b := 3) q1 (show ¬ (3 < (nI jxa)) from (sm_nltN rfl rfl (show jxa ≤ 3 by omega) (show 3 < 2 ^ 31 by omega)))).deep (by decide)) ?_
                          exact mz_ret rfl
                        refine mz_goP 2 (c' := (8, [some (.ref 65), some (.int (nI jxa)), some (.int (nI jxb)), some (.int (nI jxc)), some (.int xd), some (.int (nI jxe)), none], [.int (nI jxc)], mz_up w 64 1 ((w 64 1) + 1))) rfl ?_
                        refine mz_doPQ (R := mz_r219) (as := [.int (nI jxc)]) (rest := []) (r1 := some (.int 1)) (m1 := mz_up w 64 1 ((w 64 1) + 1)) mz_t219 mz_v219 rfl rfl rfl rfl rfl ⟨?_, rfl⟩ ?_
                        · refine mz_go 3 (c' := (3, [some (.int (nI jxc))], [.int 3, .int 0, .int (nI jxc)], mz_up w 64 1 ((w 64 1) + 1))) rfl ?_
                          refine mz_doQ (R := mz_r128) (as := [.int (nI jxc), .int 0, .int 3]) (rest := []) (r1 := some (.int 1)) (m1 := mz_up w 64 1 ((w 64 1) + 1)) mz_t128 mz_v128 rfl rfl rfl rfl rfl ((ct_in1 (m := mz_up w 64 1 ((w 64 1) + 1)) (v := nI jxc) (a := 0) (b := 3) q3 (show ¬ (3 < (nI jxc)) from (sm_nltN rfl rfl (show jxc ≤ 3 by omega) (show 3 < 2 ^ 31 by omega)))).deep (by decide)) ?_
                          exact mz_ret rfl
                        refine mz_goP 4 (c' := (25, [some (.ref 65), some (.int (nI jxa)), some (.int (nI jxb)), some (.int (nI jxc)), some (.int xd), some (.int (nI jxe)), none], [.int (nI jxa), .ref 75], mz_up w 64 1 ((w 64 1) + 1))) rfl ?_
                        refine mz_arrP (c' := (26, [some (.ref 65), some (.int (nI jxa)), some (.int (nI jxb)), some (.int (nI jxc)), some (.int xd), some (.int (nI jxe)), none], [.int (w 75 ((nI jxa).toNatClampNeg))], mz_up w 64 1 ((w 64 1) + 1))) rfl (show mz_in (nI jxa) 4 = true from sm_inN rfl (show jxa < 4 by omega) (by decide)) ?_
                        rw [show (nI jxa : Int32).toNatClampNeg = jxa from sm_clN rfl (show jxa < 2 ^ 31 by omega)]
                        rw [show w 75 jxa = w 61 jxa from (hsh jxa (by omega)).2.2.1]
                        refine mz_goP 1 (c' := (if (w 61 jxa) = 0 then 38 else 29, [some (.ref 65), some (.int (nI jxa)), some (.int (nI jxb)), some (.int (nI jxc)), some (.int xd), some (.int (nI jxe)), none], [], mz_up w 64 1 ((w 64 1) + 1))) rfl ?_
                        refine mz_ifFP q5 ?_
                        refine mz_goP 3 (c' := (34, [some (.ref 65), some (.int (nI jxa)), some (.int (nI jxb)), some (.int (nI jxc)), some (.int xd), some (.int (nI jxe)), none], [.int (nI jxc), .ref 75], mz_up w 64 1 ((w 64 1) + 1))) rfl ?_
                        refine mz_arrP (c' := (35, [some (.ref 65), some (.int (nI jxa)), some (.int (nI jxb)), some (.int (nI jxc)), some (.int xd), some (.int (nI jxe)), none], [.int (w 75 ((nI jxc).toNatClampNeg))], mz_up w 64 1 ((w 64 1) + 1))) rfl (show mz_in (nI jxc) 4 = true from sm_inN rfl (show jxc < 4 by omega) (by decide)) ?_
                        rw [show (nI jxc : Int32).toNatClampNeg = jxc from sm_clN rfl (show jxc < 2 ^ 31 by omega)]
                        rw [show w 75 jxc = w 61 jxc from (hsh jxc (by omega)).2.2.1]
                        refine mz_goP 1 (c' := (if (w 61 jxc) = 0 then 38 else 44, [some (.ref 65), some (.int (nI jxa)), some (.int (nI jxb)), some (.int (nI jxc)), some (.int xd), some (.int (nI jxe)), none], [], mz_up w 64 1 ((w 64 1) + 1))) rfl ?_
                        refine mz_ifFP q6 ?_
                        refine mz_goP 3 (c' := (49, [some (.ref 65), some (.int (nI jxa)), some (.int (nI jxb)), some (.int (nI jxc)), some (.int xd), some (.int (nI jxe)), none], [.int (nI jxa), .ref 75], mz_up w 64 1 ((w 64 1) + 1))) rfl ?_
                        refine mz_arrP (c' := (50, [some (.ref 65), some (.int (nI jxa)), some (.int (nI jxb)), some (.int (nI jxc)), some (.int xd), some (.int (nI jxe)), none], [.int (w 75 ((nI jxa).toNatClampNeg))], mz_up w 64 1 ((w 64 1) + 1))) rfl (show mz_in (nI jxa) 4 = true from sm_inN rfl (show jxa < 4 by omega) (by decide)) ?_
                        rw [show (nI jxa : Int32).toNatClampNeg = jxa from sm_clN rfl (show jxa < 2 ^ 31 by omega)]
                        rw [show w 75 jxa = w 61 jxa from (hsh jxa (by omega)).2.2.1]
                        refine mz_goP 3 (c' := (55, [some (.ref 65), some (.int (nI jxa)), some (.int (nI jxb)), some (.int (nI jxc)), some (.int xd), some (.int (nI jxe)), none], [.int (nI jxc), .ref 75, .int (w 61 jxa)], mz_up w 64 1 ((w 64 1) + 1))) rfl ?_
                        refine mz_arrP (c' := (56, [some (.ref 65), some (.int (nI jxa)), some (.int (nI jxb)), some (.int (nI jxc)), some (.int xd), some (.int (nI jxe)), none], [.int (w 75 ((nI jxc).toNatClampNeg)), .int (w 61 jxa)], mz_up w 64 1 ((w 64 1) + 1))) rfl (show mz_in (nI jxc) 4 = true from sm_inN rfl (show jxc < 4 by omega) (by decide)) ?_
                        rw [show (nI jxc : Int32).toNatClampNeg = jxc from sm_clN rfl (show jxc < 2 ^ 31 by omega)]
                        rw [show w 75 jxc = w 61 jxc from (hsh jxc (by omega)).2.2.1]
                        refine mz_goP 1 (c' := (if (w 61 jxa) = (w 61 jxc) then 65 else 59, [some (.ref 65), some (.int (nI jxa)), some (.int (nI jxb)), some (.int (nI jxc)), some (.int xd), some (.int (nI jxe)), none], [], mz_up w 64 1 ((w 64 1) + 1))) rfl ?_
                        refine mz_ifTP q7 ?_
                        refine mz_goP 2 (c' := (if (nI jxe) < 0 then 106 else 70, [some (.ref 65), some (.int (nI jxa)), some (.int (nI jxb)), some (.int (nI jxc)), some (.int xd), some (.int (nI jxe)), none], [], mz_up w 64 1 ((w 64 1) + 1))) rfl ?_
                        refine mz_ifFP q8 ?_
                        refine mz_goP 2 (c' := (if (nI jxb) < 0 then 106 else 74, [some (.ref 65), some (.int (nI jxa)), some (.int (nI jxb)), some (.int (nI jxc)), some (.int xd), some (.int (nI jxe)), none], [], mz_up w 64 1 ((w 64 1) + 1))) rfl ?_
                        refine mz_ifFP q9 ?_
                        refine mz_goP 2 (c' := (if xd < 0 then 106 else 79, [some (.ref 65), some (.int (nI jxa)), some (.int (nI jxb)), some (.int (nI jxc)), some (.int xd), some (.int (nI jxe)), none], [], mz_up w 64 1 ((w 64 1) + 1))) rfl ?_
                        refine mz_ifFP q12 ?_
                        refine mz_goP 4 (c' := (85, [some (.ref 65), some (.int (nI jxa)), some (.int (nI jxb)), some (.int (nI jxc)), some (.int xd), some (.int (nI jxe)), none], [.int (nI jxa), .ref 76, .int (nI jxb)], mz_up w 64 1 ((w 64 1) + 1))) rfl ?_
                        refine mz_arrP (c' := (86, [some (.ref 65), some (.int (nI jxa)), some (.int (nI jxb)), some (.int (nI jxc)), some (.int xd), some (.int (nI jxe)), none], [.int (w 76 ((nI jxa).toNatClampNeg)), .int (nI jxb)], mz_up w 64 1 ((w 64 1) + 1))) rfl (show mz_in (nI jxa) 4 = true from sm_inN rfl (show jxa < 4 by omega) (by decide)) ?_
                        rw [show (nI jxa : Int32).toNatClampNeg = jxa from sm_clN rfl (show jxa < 2 ^ 31 by omega)]
                        rw [show w 76 jxa = w 62 jxa from (hsh jxa (by omega)).2.2.2]
                        rw [ezz10]
                        refine mz_goP 3 (c' := (if ((nI zz10) - (nI jxe)) < (nI jxb) then 106 else 92, [some (.ref 65), some (.int (nI jxa)), some (.int (nI jxb)), some (.int (nI jxc)), some (.int xd), some (.int (nI jxe)), none], [], mz_up w 64 1 ((w 64 1) + 1))) rfl ?_
                        refine mz_ifTP (show (((nI zz10) - (nI jxe)) < (nI jxb)) from (sm_sublt rfl rfl rfl (show zz10 < jxe by omega) (by omega) (by omega))) ?_
                        refine mz_goP 2 (c' := (108, [some (.ref 65), some (.int (nI jxa)), some (.int (nI jxb)), some (.int (nI jxc)), some (.int xd), some (.int (nI jxe)), none], [.int 1, .ref 65], mz_up w 64 1 ((w 64 1) + 1))) rfl ?_
                        refine mz_doPQ (R := mz_r127) (as := [.ref 65, .int 1]) (rest := []) (r1 := some (.int (-1000001))) (m1 := mz_up (mz_up w 64 1 ((w 64 1) + 1)) 68 1 ((w 68 1) + 1)) mz_t127 mz_v127_65 rfl rfl rfl rfl rfl ((ct_err1 (m := mz_up w 64 1 ((w 64 1) + 1))).deep (by decide)) ?_
                        refine mz_retP (r := (some (.int ((-1000001))), mz_up (mz_up w 64 1 ((w 64 1) + 1)) 68 1 ((w 68 1) + 1))) rfl ⟨(-1000001), rfl, ?_, rfl⟩
                        show sm_I (n + 1) (mz_up (mz_up w 64 1 ((w 64 1) + 1)) 68 1 ((w 68 1) + 1))
                        exact sm_I_scr hn hI2 (fun i hi => by
                          have hne : ∀ r, sm_scr r = true → i ≠ r := fun r hr e => by
                            rw [e, hr] at hi
                            cases hi
                          simp only [mz_up_ne (hne 64 rfl), mz_up_ne (hne 68 rfl)]) rfl rfl
                    · obtain ⟨jxb, hjxb, rfl⟩ := nI_of q9
                      by_cases q13 : (zz10 - jxe) < jxb
                      · refine mz_goP 3 (c' := (5, [some (.ref 0), some (.int (nI jxa)), some (.int (nI jxb)), some (.int (nI jxc)), some (.int xd), some (.int (nI jxe))], [.int (nI jxa), .ref 60], w)) rfl ?_
                        refine mz_doPQ (R := mz_r45) (as := [.ref 60, .int (nI jxa)]) (rest := []) (r1 := some (.int 1)) (m1 := w) mz_t45 mz_v45_60 rfl rfl rfl rfl rfl ⟨?_, rfl⟩ ?_
                        · refine mz_go 2 (c' := (if (nI jxa) < 0 then 13 else 4, [some (.ref 60), some (.int (nI jxa))], [], w)) rfl ?_
                          refine mz_ifF q1 ?_
                          refine mz_go 3 (c' := (if 4 ≤ (nI jxa) then 13 else 9, [some (.ref 60), some (.int (nI jxa))], [], w)) rfl ?_
                          refine mz_ifF q2 ?_
                          refine mz_go 2 (c' := (14, [some (.ref 60), some (.int (nI jxa))], [.int 1], w)) rfl ?_
                          exact mz_ret rfl
                        refine mz_goP 4 (c' := (16, [some (.ref 0), some (.int (nI jxa)), some (.int (nI jxb)), some (.int (nI jxc)), some (.int xd), some (.int (nI jxe))], [.int (nI jxc), .ref 60], w)) rfl ?_
                        refine mz_doPQ (R := mz_r45) (as := [.ref 60, .int (nI jxc)]) (rest := []) (r1 := some (.int 1)) (m1 := w) mz_t45 mz_v45_60 rfl rfl rfl rfl rfl ⟨?_, rfl⟩ ?_
                        · refine mz_go 2 (c' := (if (nI jxc) < 0 then 13 else 4, [some (.ref 60), some (.int (nI jxc))], [], w)) rfl ?_
                          refine mz_ifF q3 ?_
                          refine mz_go 3 (c' := (if 4 ≤ (nI jxc) then 13 else 9, [some (.ref 60), some (.int (nI jxc))], [], w)) rfl ?_
                          refine mz_ifF q4 ?_
                          refine mz_go 2 (c' := (14, [some (.ref 60), some (.int (nI jxc))], [.int 1], w)) rfl ?_
                          exact mz_ret rfl
                        refine mz_goP 4 (c' := (33, [some (.ref 0), some (.int (nI jxa)), some (.int (nI jxb)), some (.int (nI jxc)), some (.int xd), some (.int (nI jxe))], [.int (nI jxa), .ref 60], w)) rfl ?_
                        refine mz_doPQ (R := mz_r46) (as := [.ref 60, .int (nI jxa)]) (rest := []) (r1 := some (.int 0)) (m1 := w) mz_t46 mz_v46_60 rfl rfl rfl rfl rfl ⟨?_, rfl⟩ ?_
                        · refine mz_go 2 (c' := (2, [some (.ref 60), some (.int (nI jxa))], [.int (nI jxa), .ref 60], w)) rfl ?_
                          refine mz_doQ (R := mz_r45) (as := [.ref 60, .int (nI jxa)]) (rest := []) (r1 := some (.int 1)) (m1 := w) mz_t45 mz_v45_60 rfl rfl rfl rfl rfl ⟨?_, rfl⟩ ?_
                          · refine mz_go 2 (c' := (if (nI jxa) < 0 then 13 else 4, [some (.ref 60), some (.int (nI jxa))], [], w)) rfl ?_
                            refine mz_ifF q1 ?_
                            refine mz_go 3 (c' := (if 4 ≤ (nI jxa) then 13 else 9, [some (.ref 60), some (.int (nI jxa))], [], w)) rfl ?_
                            refine mz_ifF q2 ?_
                            refine mz_go 2 (c' := (14, [some (.ref 60), some (.int (nI jxa))], [.int 1], w)) rfl ?_
                            exact mz_ret rfl
                          refine mz_go 4 (c' := (13, [some (.ref 60), some (.int (nI jxa))], [.int (nI jxa), .ref 61], w)) rfl ?_
                          refine mz_arr (c' := (14, [some (.ref 60), some (.int (nI jxa))], [.int (w 61 ((nI jxa).toNatClampNeg))], w)) rfl (show mz_in (nI jxa) 4 = true from sm_inN rfl (show jxa < 4 by omega) (by decide)) ?_
                          rw [show (nI jxa : Int32).toNatClampNeg = jxa from sm_clN rfl (show jxa < 2 ^ 31 by omega)]
                          refine mz_go 1 (c' := (if (w 61 jxa) = 0 then 17 else 21, [some (.ref 60), some (.int (nI jxa))], [], w)) rfl ?_
                          refine mz_ifF q5 ?_
                          refine mz_go 1 (c' := (22, [some (.ref 60), some (.int (nI jxa))], [.int 0], w)) rfl ?_
                          exact mz_ret rfl
                        refine mz_goP 4 (c' := (44, [some (.ref 0), some (.int (nI jxa)), some (.int (nI jxb)), some (.int (nI jxc)), some (.int xd), some (.int (nI jxe))], [.int (nI jxc), .ref 60], w)) rfl ?_
                        refine mz_doPQ (R := mz_r46) (as := [.ref 60, .int (nI jxc)]) (rest := []) (r1 := some (.int 0)) (m1 := w) mz_t46 mz_v46_60 rfl rfl rfl rfl rfl ⟨?_, rfl⟩ ?_
                        · refine mz_go 2 (c' := (2, [some (.ref 60), some (.int (nI jxc))], [.int (nI jxc), .ref 60], w)) rfl ?_
                          refine mz_doQ (R := mz_r45) (as := [.ref 60, .int (nI jxc)]) (rest := []) (r1 := some (.int 1)) (m1 := w) mz_t45 mz_v45_60 rfl rfl rfl rfl rfl ⟨?_, rfl⟩ ?_
                          · refine mz_go 2 (c' := (if (nI jxc) < 0 then 13 else 4, [some (.ref 60), some (.int (nI jxc))], [], w)) rfl ?_
                            refine mz_ifF q3 ?_
                            refine mz_go 3 (c' := (if 4 ≤ (nI jxc) then 13 else 9, [some (.ref 60), some (.int (nI jxc))], [], w)) rfl ?_
                            refine mz_ifF q4 ?_
                            refine mz_go 2 (c' := (14, [some (.ref 60), some (.int (nI jxc))], [.int 1], w)) rfl ?_
                            exact mz_ret rfl
                          refine mz_go 4 (c' := (13, [some (.ref 60), some (.int (nI jxc))], [.int (nI jxc), .ref 61], w)) rfl ?_
                          refine mz_arr (c' := (14, [some (.ref 60), some (.int (nI jxc))], [.int (w 61 ((nI jxc).toNatClampNeg))], w)) rfl (show mz_in (nI jxc) 4 = true from sm_inN rfl (show jxc < 4 by omega) (by decide)) ?_
                          rw [show (nI jxc : Int32).toNatClampNeg = jxc from sm_clN rfl (show jxc < 2 ^ 31 by omega)]
                          refine mz_go 1 (c' := (if (w 61 jxc) = 0 then 17 else 21, [some (.ref 60), some (.int (nI jxc))], [], w)) rfl ?_
                          refine mz_ifF q6 ?_
                          refine mz_go 1 (c' := (22, [some (.ref 60), some (.int (nI jxc))], [.int 0], w)) rfl ?_
                          exact mz_ret rfl
                        refine mz_goP 5 (c' := (64, [some (.ref 0), some (.int (nI jxa)), some (.int (nI jxb)), some (.int (nI jxc)), some (.int xd), some (.int (nI jxe))], [.int (nI jxa), .ref 61], w)) rfl ?_
                        refine mz_arrP (c' := (65, [some (.ref 0), some (.int (nI jxa)), some (.int (nI jxb)), some (.int (nI jxc)), some (.int xd), some (.int (nI jxe))], [.int (w 61 ((nI jxa).toNatClampNeg))], w)) rfl (show mz_in (nI jxa) 4 = true from sm_inN rfl (show jxa < 4 by omega) (by decide)) ?_
                        rw [show (nI jxa : Int32).toNatClampNeg = jxa from sm_clN rfl (show jxa < 2 ^ 31 by omega)]
                        refine mz_goP 4 (c' := (73, [some (.ref 0), some (.int (nI jxa)), some (.int (nI jxb)), some (.int (nI jxc)), some (.int xd), some (.int (nI jxe))], [.int (nI jxc), .ref 61, .int (w 61 jxa)], w)) rfl ?_
                        refine mz_arrP (c' := (74, [some (.ref 0), some (.int (nI jxa)), some (.int (nI jxb)), some (.int (nI jxc)), some (.int xd), some (.int (nI jxe))], [.int (w 61 ((nI jxc).toNatClampNeg)), .int (w 61 jxa)], w)) rfl (show mz_in (nI jxc) 4 = true from sm_inN rfl (show jxc < 4 by omega) (by decide)) ?_
                        rw [show (nI jxc : Int32).toNatClampNeg = jxc from sm_clN rfl (show jxc < 2 ^ 31 by omega)]
                        refine mz_goP 1 (c' := (if (w 61 jxa) = (w 61 jxc) then 83 else 77, [some (.ref 0), some (.int (nI jxa)), some (.int (nI jxb)), some (.int (nI jxc)), some (.int xd), some (.int (nI jxe))], [], w)) rfl ?_
                        refine mz_ifTP q7 ?_
                        refine mz_goP 5 (c' := (91, [some (.ref 0), some (.int (nI jxa)), some (.int (nI jxb)), some (.int (nI jxc)), some (.int xd), some (.int (nI jxe))], [.int (nI jxe), .int (nI jxb), .int (nI jxa), .ref 60], w)) rfl ?_
                        refine mz_doPQ (R := mz_r48) (as := [.ref 60, .int (nI jxa), .int (nI jxb), .int (nI jxe)]) (rest := []) (r1 := some (.int 0)) (m1 := w) mz_t48 mz_v48_60 rfl rfl rfl rfl rfl ⟨?_, rfl⟩ ?_
                        · refine mz_go 2 (c' := (2, [some (.ref 60), some (.int (nI jxa)), some (.int (nI jxb)), some (.int (nI jxe))], [.int (nI jxa), .ref 60], w)) rfl ?_
                          refine mz_doQ (R := mz_r45) (as := [.ref 60, .int (nI jxa)]) (rest := []) (r1 := some (.int 1)) (m1 := w) mz_t45 mz_v45_60 rfl rfl rfl rfl rfl ⟨?_, rfl⟩ ?_
                          · refine mz_go 2 (c' := (if (nI jxa) < 0 then 13 else 4, [some (.ref 60), some (.int (nI jxa))], [], w)) rfl ?_
                            refine mz_ifF q1 ?_
                            refine mz_go 3 (c' := (if 4 ≤ (nI jxa) then 13 else 9, [some (.ref 60), some (.int (nI jxa))], [], w)) rfl ?_
                            refine mz_ifF q2 ?_
                            refine mz_go 2 (c' := (14, [some (.ref 60), some (.int (nI jxa))], [.int 1], w)) rfl ?_
                            exact mz_ret rfl
                          refine mz_go 3 (c' := (if (nI jxe) < 0 then 42 else 12, [some (.ref 60), some (.int (nI jxa)), some (.int (nI jxb)), some (.int (nI jxe))], [], w)) rfl ?_
                          refine mz_ifF q8 ?_
                          refine mz_go 2 (c' := (if (nI jxb) < 0 then 42 else 16, [some (.ref 60), some (.int (nI jxa)), some (.int (nI jxb)), some (.int (nI jxe))], [], w)) rfl ?_
                          refine mz_ifF q9 ?_
                          refine mz_go 4 (c' := (22, [some (.ref 60), some (.int (nI jxa)), some (.int (nI jxb)), some (.int (nI jxe))], [.int (nI jxa), .ref 62, .int (nI jxe)], w)) rfl ?_
                          refine mz_arr (c' := (23, [some (.ref 60), some (.int (nI jxa)), some (.int (nI jxb)), some (.int (nI jxe))], [.int (w 62 ((nI jxa).toNatClampNeg)), .int (nI jxe)], w)) rfl (show mz_in (nI jxa) 4 = true from sm_inN rfl (show jxa < 4 by omega) (by decide)) ?_
                          rw [show (nI jxa : Int32).toNatClampNeg = jxa from sm_clN rfl (show jxa < 2 ^ 31 by omega)]
                          rw [ezz10]
                          refine mz_go 1 (c' := (if (nI zz10) < (nI jxe) then 42 else 26, [some (.ref 60), some (.int (nI jxa)), some (.int (nI jxb)), some (.int (nI jxe))], [], w)) rfl ?_
                          refine mz_ifF (show ¬ ((nI zz10) < (nI jxe)) from (sm_nltN rfl rfl (show jxe ≤ zz10 by omega) (show zz10 < 2 ^ 31 by omega))) ?_
                          refine mz_go 4 (c' := (32, [some (.ref 60), some (.int (nI jxa)), some (.int (nI jxb)), some (.int (nI jxe))], [.int (nI jxa), .ref 62, .int (nI jxb)], w)) rfl ?_
                          refine mz_arr (c' := (33, [some (.ref 60), some (.int (nI jxa)), some (.int (nI jxb)), some (.int (nI jxe))], [.int (w 62 ((nI jxa).toNatClampNeg)), .int (nI jxb)], w)) rfl (show mz_in (nI jxa) 4 = true from sm_inN rfl (show jxa < 4 by omega) (by decide)) ?_
                          rw [show (nI jxa : Int32).toNatClampNeg = jxa from sm_clN rfl (show jxa < 2 ^ 31 by omega)]
                          rw [ezz10]
                          refine mz_go 3 (c' := (if ((nI zz10) - (nI jxe)) < (nI jxb) then 42 else 38, [some (.ref 60), some (.int (nI jxa)), some (.int (nI jxb)), some (.int (nI jxe))], [], w)) rfl ?_
                          refine mz_ifT (show (((nI zz10) - (nI jxe)) < (nI jxb)) from (sm_ltN (sm_subN (a := zz10) (b := jxe) rfl rfl (by omega)) rfl (show (zz10 - jxe) < jxb by omega) (show jxb < 2 ^ 31 by omega))) ?_
                          refine mz_go 1 (c' := (43, [some (.ref 60), some (.int (nI jxa)), some (.int (nI jxb)), some (.int (nI jxe))], [.int 0], w)) rfl ?_
                          exact mz_ret rfl
                        refine mz_goP 3 (c' := (114, [some (.ref 0), some (.int (nI jxa)), some (.int (nI jxb)), some (.int (nI jxc)), some (.int xd), some (.int (nI jxe))], [.int 1, .ref 0], w)) rfl ?_
                        refine mz_doPQ (R := mz_r109) (as := [.ref 0, .int 1]) (rest := []) (r1 := some (.int (-1000001))) (m1 := mz_up w 64 1 ((w 64 1) + 1)) mz_t109 mz_v109_0 rfl rfl rfl rfl rfl ((cs_err1 (m := w)).deep (by decide)) ?_
                        refine mz_retP (r := (some (.int ((-1000001))), mz_up w 64 1 ((w 64 1) + 1))) rfl ⟨(-1000001), rfl, ?_⟩
                        refine mz_goP 1 (c' := (1, [some (.ref 65), some (.int (nI jxa)), some (.int (nI jxb)), some (.int (nI jxc)), some (.int xd), some (.int (nI jxe)), none], [.int (nI jxa)], mz_up w 64 1 ((w 64 1) + 1))) rfl ?_
                        refine mz_doPQ (R := mz_r219) (as := [.int (nI jxa)]) (rest := []) (r1 := some (.int 1)) (m1 := mz_up w 64 1 ((w 64 1) + 1)) mz_t219 mz_v219 rfl rfl rfl rfl rfl ⟨?_, rfl⟩ ?_
                        · refine mz_go 3 (c' := (3, [some (.int (nI jxa))], [.int 3, .int 0, .int (nI jxa)], mz_up w 64 1 ((w 64 1) + 1))) rfl ?_
                          refine mz_doQ (R := mz_r128) (as := [.int (nI jxa), .int 0, .int 3]) (rest := []) (r1 := some (.int 1)) (m1 := mz_up w 64 1 ((w 64 1) + 1)) mz_t128 mz_v128 rfl rfl rfl rfl rfl ((ct_in1 (m := mz_up w 64 1 ((w 64 1) + 1)) (v := nI jxa) (a := 0) (b := 3) q1 (show ¬ (3 < (nI jxa)) from (sm_nltN rfl rfl (show jxa ≤ 3 by omega) (show 3 < 2 ^ 31 by omega)))).deep (by decide)) ?_
                          exact mz_ret rfl
                        refine mz_goP 2 (c' := (8, [some (.ref 65), some (.int (nI jxa)), some (.int (nI jxb)), some (.int (nI jxc)), some (.int xd), some (.int (nI jxe)), none], [.int (nI jxc)], mz_up w 64 1 ((w 64 1) + 1))) rfl ?_
                        refine mz_doPQ (R := mz_r219) (as := [.int (nI jxc)]) (rest := []) (r1 := some (.int 1)) (m1 := mz_up w 64 1 ((w 64 1) + 1)) mz_t219 mz_v219 rfl rfl rfl rfl rfl ⟨?_, rfl⟩ ?_
                        · refine mz_go 3 (c' := (3, [some (.int (nI jxc))], [.int 3, .int 0, .int (nI jxc)], mz_up w 64 1 ((w 64 1) + 1))) rfl ?_
                          refine mz_doQ (R := mz_r128) (as := [.int (nI jxc), .int 0, .int 3]) (rest := []) (r1 := some (.int 1)) (m1 := mz_up w 64 1 ((w 64 1) + 1)) mz_t128 mz_v128 rfl rfl rfl rfl rfl ((ct_in1 (m := mz_up w 64 1 ((w 64 1) + 1)) (v := nI jxc) (a := 0) (b := 3) q3 (show ¬ (3 < (nI jxc)) from (sm_nltN rfl rfl (show jxc ≤ 3 by omega) (show 3 < 2 ^ 31 by omega)))).deep (by decide)) ?_
                          exact mz_ret rfl
                        refine mz_goP 4 (c' := (25, [some (.ref 65), some (.int (nI jxa)), some (.int (nI jxb)), some (.int (nI jxc)), some (.int xd), some (.int (nI jxe)), none], [.int (nI jxa), .ref 75], mz_up w 64 1 ((w 64 1) + 1))) rfl ?_
                        refine mz_arrP (c' := (26, [some (.ref 65), some (.int (nI jxa)), some (.int (nI jxb)), some (.int (nI jxc)), some (.int xd), some (.int (nI jxe)), none], [.int (w 75 ((nI jxa).toNatClampNeg))], mz_up w 64 1 ((w 64 1) + 1))) rfl (show mz_in (nI jxa) 4 = true from sm_inN rfl (show jxa < 4 by omega) (by decide)) ?_
                        rw [show (nI jxa : Int32).toNatClampNeg = jxa from sm_clN rfl (show jxa < 2 ^ 31 by omega)]
                        rw [show w 75 jxa = w 61 jxa from (hsh jxa (by omega)).2.2.1]
                        refine mz_goP 1 (c' := (if (w 61 jxa) = 0 then 38 else 29, [some (.ref 65), some (.int (nI jxa)), some (.int (nI jxb)), some (.int (nI jxc)), some (.int xd), some (.int (nI jxe)), none], [], mz_up w 64 1 ((w 64 1) + 1))) rfl ?_
                        refine mz_ifFP q5 ?_
                        refine mz_goP 3 (c' := (34, [some (.ref 65), some (.int (nI jxa)), some (.int (nI jxb)), some (.int (nI jxc)), some (.int xd), some (.int (nI jxe)), none], [.int (nI jxc), .ref 75], mz_up w 64 1 ((w 64 1) + 1))) rfl ?_
                        refine mz_arrP (c' := (35, [some (.ref 65), some (.int (nI jxa)), some (.int (nI jxb)), some (.int (nI jxc)), some (.int xd), some (.int (nI jxe)), none], [.int (w 75 ((nI jxc).toNatClampNeg))], mz_up w 64 1 ((w 64 1) + 1))) rfl (show mz_in (nI jxc) 4 = true from sm_inN rfl (show jxc < 4 by omega) (by decide)) ?_
                        rw [show (nI jxc : Int32).toNatClampNeg = jxc from sm_clN rfl (show jxc < 2 ^ 31 by omega)]
                        rw [show w 75 jxc = w 61 jxc from (hsh jxc (by omega)).2.2.1]
                        refine mz_goP 1 (c' := (if (w 61 jxc) = 0 then 38 else 44, [some (.ref 65), some (.int (nI jxa)), some (.int (nI jxb)), some (.int (nI jxc)), some (.int xd), some (.int (nI jxe)), none], [], mz_up w 64 1 ((w 64 1) + 1))) rfl ?_
                        refine mz_ifFP q6 ?_
                        refine mz_goP 3 (c' := (49, [some (.ref 65), some (.int (nI jxa)), some (.int (nI jxb)), some (.int (nI jxc)), some (.int xd), some (.int (nI jxe)), none], [.int (nI jxa), .ref 75], mz_up w 64 1 ((w 64 1) + 1))) rfl ?_
                        refine mz_arrP (c' := (50, [some (.ref 65), some (.int (nI jxa)), some (.int (nI jxb)), some (.int (nI jxc)), some (.int xd), some (.int (nI jxe)), none], [.int (w 75 ((nI jxa).toNatClampNeg))], mz_up w 64 1 ((w 64 1) + 1))) rfl (show mz_in (nI jxa) 4 = true from sm_inN rfl (show jxa < 4 by omega) (by decide)) ?_
                        rw [show (nI jxa : Int32).toNatClampNeg = jxa from sm_clN rfl (show jxa < 2 ^ 31 by omega)]
                        rw [show w 75 jxa = w 61 jxa from (hsh jxa (by omega)).2.2.1]
                        refine mz_goP 3 (c' := (55, [some (.ref 65), some (.int (nI jxa)), some (.int (nI jxb)), some (.int (nI jxc)), some (.int xd), some (.int (nI jxe)), none], [.int (nI jxc), .ref 75, .int (w 61 jxa)], mz_up w 64 1 ((w 64 1) + 1))) rfl ?_
                        refine mz_arrP (c' := (56, [some (.ref 65), some (.int (nI jxa)), some (.int (nI jxb)), some (.int (nI jxc)), some (.int xd), some (.int (nI jxe)), none], [.int (w 75 ((nI jxc).toNatClampNeg)), .int (w 61 jxa)], mz_up w 64 1 ((w 64 1) + 1))) rfl (show mz_in (nI jxc) 4 = true from sm_inN rfl (show jxc < 4 by omega) (by decide)) ?_
                        rw [show (nI jxc : Int32).toNatClampNeg = jxc from sm_clN rfl (show jxc < 2 ^ 31 by omega)]
                        rw [show w 75 jxc = w 61 jxc from (hsh jxc (by omega)).2.2.1]
                        refine mz_goP 1 (c' := (if (w 61 jxa) = (w 61 jxc) then 65 else 59, [some (.ref 65), some (.int (nI jxa)), some (.int (nI jxb)), some (.int (nI jxc)), some (.int xd), some (.int (nI jxe)), none], [], mz_up w 64 1 ((w 64 1) + 1))) rfl ?_
                        refine mz_ifTP q7 ?_
                        refine mz_goP 2 (c' := (if (nI jxe) < 0 then 106 else 70, [some (.ref 65), some (.int (nI jxa)), some (.int (nI jxb)), some (.int (nI jxc)), some (.int xd), some (.int (nI jxe)), none], [], mz_up w 64 1 ((w 64 1) + 1))) rfl ?_
                        refine mz_ifFP q8 ?_
                        refine mz_goP 2 (c' := (if (nI jxb) < 0 then 106 else 74, [some (.ref 65), some (.int (nI jxa)), some (.int (nI jxb)), some (.int (nI jxc)), some (.int xd), some (.int (nI jxe)), none], [], mz_up w 64 1 ((w 64 1) + 1))) rfl ?_
                        refine mz_ifFP q9 ?_
                        refine mz_goP 2 (c' := (if xd < 0 then 106 else 79, [some (.ref 65), some (.int (nI jxa)), some (.int (nI jxb)), some (.int (nI jxc)), some (.int xd), some (.int (nI jxe)), none], [], mz_up w 64 1 ((w 64 1) + 1))) rfl ?_
                        by_cases q14 : xd < 0
                        · refine mz_ifTP q14 ?_
                          refine mz_goP 2 (c' := (108, [some (.ref 65), some (.int (nI jxa)), some (.int (nI jxb)), some (.int (nI jxc)), some (.int xd), some (.int (nI jxe)), none], [.int 1, .ref 65], mz_up w 64 1 ((w 64 1) + 1))) rfl ?_
                          refine mz_doPQ (R := mz_r127) (as := [.ref 65, .int 1]) (rest := []) (r1 := some (.int (-1000001))) (m1 := mz_up (mz_up w 64 1 ((w 64 1) + 1)) 68 1 ((w 68 1) + 1)) mz_t127 mz_v127_65 rfl rfl rfl rfl rfl ((ct_err1 (m := mz_up w 64 1 ((w 64 1) + 1))).deep (by decide)) ?_
                          refine mz_retP (r := (some (.int ((-1000001))), mz_up (mz_up w 64 1 ((w 64 1) + 1)) 68 1 ((w 68 1) + 1))) rfl ⟨(-1000001), rfl, ?_, rfl⟩
                          show sm_I (n + 1) (mz_up (mz_up w 64 1 ((w 64 1) + 1)) 68 1 ((w 68 1) + 1))
                          exact sm_I_scr hn hI2 (fun i hi => by
                            have hne : ∀ r, sm_scr r = true → i ≠ r := fun r hr e => by
                              rw [e, hr] at hi
                              cases hi
                            simp only [mz_up_ne (hne 64 rfl), mz_up_ne (hne 68 rfl)]) rfl rfl
                        · refine mz_ifFP q14 ?_
                          refine mz_goP 4 (c' := (85, [some (.ref 65), some (.int (nI jxa)), some (.int (nI jxb)), some (.int (nI jxc)), some (.int xd), some (.int (nI jxe)), none], [.int (nI jxa), .ref 76, .int (nI jxb)], mz_up w 64 1 ((w 64 1) + 1))) rfl ?_
                          refine mz_arrP (c' := (86, [some (.ref 65), some (.int (nI jxa)), some (.int (nI jxb)), some (.int (nI jxc)), some (.int xd), some (.int (nI jxe)), none], [.int (w 76 ((nI jxa).toNatClampNeg)), .int (nI jxb)], mz_up w 64 1 ((w 64 1) + 1))) rfl (show mz_in (nI jxa) 4 = true from sm_inN rfl (show jxa < 4 by omega) (by decide)) ?_
                          rw [show (nI jxa : Int32).toNatClampNeg = jxa from sm_clN rfl (show jxa < 2 ^ 31 by omega)]
                          rw [show w 76 jxa = w 62 jxa from (hsh jxa (by omega)).2.2.2]
                          rw [ezz10]
                          refine mz_goP 3 (c' := (if ((nI zz10) - (nI jxe)) < (nI jxb) then 106 else 92, [some (.ref 65), some (.int (nI jxa)), some (.int (nI jxb)), some (.int (nI jxc)), some (.int xd), some (.int (nI jxe)), none], [], mz_up w 64 1 ((w 64 1) + 1))) rfl ?_
                          refine mz_ifTP (show (((nI zz10) - (nI jxe)) < (nI jxb)) from (sm_ltN (sm_subN (a := zz10) (b := jxe) rfl rfl (by omega)) rfl (show (zz10 - jxe) < jxb by omega) (show jxb < 2 ^ 31 by omega))) ?_
                          refine mz_goP 2 (c' := (108, [some (.ref 65), some (.int (nI jxa)), some (.int (nI jxb)), some (.int (nI jxc)), some (.int xd), some (.int (nI jxe)), none], [.int 1, .ref 65], mz_up w 64 1 ((w 64 1) + 1))) rfl ?_
                          refine mz_doPQ (R := mz_r127) (as := [.ref 65, .int 1]) (rest := []) (r1 := some (.int (-1000001))) (m1 := mz_up (mz_up w 64 1 ((w 64 1) + 1)) 68 1 ((w 68 1) + 1)) mz_t127 mz_v127_65 rfl rfl rfl rfl rfl ((ct_err1 (m := mz_up w 64 1 ((w 64 1) + 1))).deep (by decide)) ?_
                          refine mz_retP (r := (some (.int ((-1000001))), mz_up (mz_up w 64 1 ((w 64 1) + 1)) 68 1 ((w 68 1) + 1))) rfl ⟨(-1000001), rfl, ?_, rfl⟩
                          show sm_I (n + 1) (mz_up (mz_up w 64 1 ((w 64 1) + 1)) 68 1 ((w 68 1) + 1))
                          exact sm_I_scr hn hI2 (fun i hi => by
                            have hne : ∀ r, sm_scr r = true → i ≠ r := fun r hr e => by
                              rw [e, hr] at hi
                              cases hi
                            simp only [mz_up_ne (hne 64 rfl), mz_up_ne (hne 68 rfl)]) rfl rfl
                      · by_cases q15 : xd < 0
                        · refine mz_goP 3 (c' := (5, [some (.ref 0), some (.int (nI jxa)), some (.int (nI jxb)), some (.int (nI jxc)), some (.int xd), some (.int (nI jxe))], [.int (nI jxa), .ref 60], w)) rfl ?_
                          refine mz_doPQ (R := mz_r45) (as := [.ref 60, .int (nI jxa)]) (rest := []) (r1 := some (.int 1)) (m1 := w) mz_t45 mz_v45_60 rfl rfl rfl rfl rfl ⟨?_, rfl⟩ ?_
                          · refine mz_go 2 (c' := (if (nI jxa) < 0 then 13 else 4, [some (.ref 60), some (.int (nI jxa))], [], w)) rfl ?_
                            refine mz_ifF q1 ?_
                            refine mz_go 3 (c' := (if 4 ≤ (nI jxa) then 13 else 9, [some (.ref 60), some (.int (nI jxa))], [], w)) rfl ?_
                            refine mz_ifF q2 ?_
                            refine mz_go 2 (c' := (14, [some (.ref 60), some (.int (nI jxa))], [.int 1], w)) rfl ?_
                            exact mz_ret rfl
                          refine mz_goP 4 (c' := (16, [some (.ref 0), some (.int (nI jxa)), some (.int (nI jxb)), some (.int (nI jxc)), some (.int xd), some (.int (nI jxe))], [.int (nI jxc), .ref 60], w)) rfl ?_
                          refine mz_doPQ (R := mz_r45) (as := [.ref 60, .int (nI jxc)]) (rest := []) (r1 := some (.int 1)) (m1 := w) mz_t45 mz_v45_60 rfl rfl rfl rfl rfl ⟨?_, rfl⟩ ?_
                          · refine mz_go 2 (c' := (if (nI jxc) < 0 then 13 else 4, [some (.ref 60), some (.int (nI jxc))], [], w)) rfl ?_
                            refine mz_ifF q3 ?_
                            refine mz_go 3 (c' := (if 4 ≤ (nI jxc) then 13 else 9, [some (.ref 60), some (.int (nI jxc))], [], w)) rfl ?_
                            refine mz_ifF q4 ?_
                            refine mz_go 2 (c' := (14, [some (.ref 60), some (.int (nI jxc))], [.int 1], w)) rfl ?_
                            exact mz_ret rfl
                          refine mz_goP 4 (c' := (33, [some (.ref 0), some (.int (nI jxa)), some (.int (nI jxb)), some (.int (nI jxc)), some (.int xd), some (.int (nI jxe))], [.int (nI jxa), .ref 60], w)) rfl ?_
                          refine mz_doPQ (R := mz_r46) (as := [.ref 60, .int (nI jxa)]) (rest := []) (r1 := some (.int 0)) (m1 := w) mz_t46 mz_v46_60 rfl rfl rfl rfl rfl ⟨?_, rfl⟩ ?_
                          · refine mz_go 2 (c' := (2, [some (.ref 60), some (.int (nI jxa))], [.int (nI jxa), .ref 60], w)) rfl ?_
                            refine mz_doQ (R := mz_r45) (as := [.ref 60, .int (nI jxa)]) (rest := []) (r1 := some (.int 1)) (m1 := w) mz_t45 mz_v45_60 rfl rfl rfl rfl rfl ⟨?_, rfl⟩ ?_
                            · refine mz_go 2 (c' := (if (nI jxa) < 0 then 13 else 4, [some (.ref 60), some (.int (nI jxa))], [], w)) rfl ?_
                              refine mz_ifF q1 ?_
                              refine mz_go 3 (c' := (if 4 ≤ (nI jxa) then 13 else 9, [some (.ref 60), some (.int (nI jxa))], [], w)) rfl ?_
                              refine mz_ifF q2 ?_
                              refine mz_go 2 (c' := (14, [some (.ref 60), some (.int (nI jxa))], [.int 1], w)) rfl ?_
                              exact mz_ret rfl
                            refine mz_go 4 (c' := (13, [some (.ref 60), some (.int (nI jxa))], [.int (nI jxa), .ref 61], w)) rfl ?_
                            refine mz_arr (c' := (14, [some (.ref 60), some (.int (nI jxa))], [.int (w 61 ((nI jxa).toNatClampNeg))], w)) rfl (show mz_in (nI jxa) 4 = true from sm_inN rfl (show jxa < 4 by omega) (by decide)) ?_
                            rw [show (nI jxa : Int32).toNatClampNeg = jxa from sm_clN rfl (show jxa < 2 ^ 31 by omega)]
                            refine mz_go 1 (c' := (if (w 61 jxa) = 0 then 17 else 21, [some (.ref 60), some (.int (nI jxa))], [], w)) rfl ?_
                            refine mz_ifF q5 ?_
                            refine mz_go 1 (c' := (22, [some (.ref 60), some (.int (nI jxa))], [.int 0], w)) rfl ?_
                            exact mz_ret rfl
                          refine mz_goP 4 (c' := (44, [some (.ref 0), some (.int (nI jxa)), some (.int (nI jxb)), some (.int (nI jxc)), some (.int xd), some (.int (nI jxe))], [.int (nI jxc), .ref 60], w)) rfl ?_
                          refine mz_doPQ (R := mz_r46) (as := [.ref 60, .int (nI jxc)]) (rest := []) (r1 := some (.int 0)) (m1 := w) mz_t46 mz_v46_60 rfl rfl rfl rfl rfl ⟨?_, rfl⟩ ?_
                          · refine mz_go 2 (c' := (2, [some (.ref 60), some (.int (nI jxc))], [.int (nI jxc), .ref 60], w)) rfl ?_
                            refine mz_doQ (R := mz_r45) (as := [.ref 60, .int (nI jxc)]) (rest := []) (r1 := some (.int 1)) (m1 := w) mz_t45 mz_v45_60 rfl rfl rfl rfl rfl ⟨?_, rfl⟩ ?_
                            · refine mz_go 2 (c' := (if (nI jxc) < 0 then 13 else 4, [some (.ref 60), some (.int (nI jxc))], [], w)) rfl ?_
                              refine mz_ifF q3 ?_
                              refine mz_go 3 (c' := (if 4 ≤ (nI jxc) then 13 else 9, [some (.ref 60), some (.int (nI jxc))], [], w)) rfl ?_
                              refine mz_ifF q4 ?_
                              refine mz_go 2 (c' := (14, [some (.ref 60), some (.int (nI jxc))], [.int 1], w)) rfl ?_
                              exact mz_ret rfl
                            refine mz_go 4 (c' := (13, [some (.ref 60), some (.int (nI jxc))], [.int (nI jxc), .ref 61], w)) rfl ?_
                            refine mz_arr (c' := (14, [some (.ref 60), some (.int (nI jxc))], [.int (w 61 ((nI jxc).toNatClampNeg))], w)) rfl (show mz_in (nI jxc) 4 = true from sm_inN rfl (show jxc < 4 by omega) (by decide)) ?_
                            rw [show (nI jxc : Int32).toNatClampNeg = jxc from sm_clN rfl (show jxc < 2 ^ 31 by omega)]
                            refine mz_go 1 (c' := (if (w 61 jxc) = 0 then 17 else 21, [some (.ref 60), some (.int (nI jxc))], [], w)) rfl ?_
                            refine mz_ifF q6 ?_
                            refine mz_go 1 (c' := (22, [some (.ref 60), some (.int (nI jxc))], [.int 0], w)) rfl ?_
                            exact mz_ret rfl
                          refine mz_goP 5 (c' := (64, [some (.ref 0), some (.int (nI jxa)), some (.int (nI jxb)), some (.int (nI jxc)), some (.int xd), some (.int (nI jxe))], [.int (nI jxa), .ref 61], w)) rfl ?_
                          refine mz_arrP (c' := (65, [some (.ref 0), some (.int (nI jxa)), some (.int (nI jxb)), some (.int (nI jxc)), some (.int xd), some (.int (nI jxe))], [.int (w 61 ((nI jxa).toNatClampNeg))], w)) rfl (show mz_in (nI jxa) 4 = true from sm_inN rfl (show jxa < 4 by omega) (by decide)) ?_
                          rw [show (nI jxa : Int32).toNatClampNeg = jxa from sm_clN rfl (show jxa < 2 ^ 31 by omega)]
                          refine mz_goP 4 (c' := (73, [some (.ref 0), some (.int (nI jxa)), some (.int (nI jxb)), some (.int (nI jxc)), some (.int xd), some (.int (nI jxe))], [.int (nI jxc), .ref 61, .int (w 61 jxa)], w)) rfl ?_
                          refine mz_arrP (c' := (74, [some (.ref 0), some (.int (nI jxa)), some (.int (nI jxb)), some (.int (nI jxc)), some (.int xd), some (.int (nI jxe))], [.int (w 61 ((nI jxc).toNatClampNeg)), .int (w 61 jxa)], w)) rfl (show mz_in (nI jxc) 4 = true from sm_inN rfl (show jxc < 4 by omega) (by decide)) ?_
                          rw [show (nI jxc : Int32).toNatClampNeg = jxc from sm_clN rfl (show jxc < 2 ^ 31 by omega)]
                          refine mz_goP 1 (c' := (if (w 61 jxa) = (w 61 jxc) then 83 else 77, [some (.ref 0), some (.int (nI jxa)), some (.int (nI jxb)), some (.int (nI jxc)), some (.int xd), some (.int (nI jxe))], [], w)) rfl ?_
                          refine mz_ifTP q7 ?_
                          refine mz_goP 5 (c' := (91, [some (.ref 0), some (.int (nI jxa)), some (.int (nI jxb)), some (.int (nI jxc)), some (.int xd), some (.int (nI jxe))], [.int (nI jxe), .int (nI jxb), .int (nI jxa), .ref 60], w)) rfl ?_
                          refine mz_doPQ (R := mz_r48) (as := [.ref 60, .int (nI jxa), .int (nI jxb), .int (nI jxe)]) (rest := []) (r1 := some (.int 1)) (m1 := w) mz_t48 mz_v48_60 rfl rfl rfl rfl rfl ⟨?_, rfl⟩ ?_
                          · refine mz_go 2 (c' := (2, [some (.ref 60), some (.int (nI jxa)), some (.int (nI jxb)), some (.int (nI jxe))], [.int (nI jxa), .ref 60], w)) rfl ?_
                            refine mz_doQ (R := mz_r45) (as := [.ref 60, .int (nI jxa)]) (rest := []) (r1 := some (.int 1)) (m1 := w) mz_t45 mz_v45_60 rfl rfl rfl rfl rfl ⟨?_, rfl⟩ ?_
                            · refine mz_go 2 (c' := (if (nI jxa) < 0 then 13 else 4, [some (.ref 60), some (.int (nI jxa))], [], w)) rfl ?_
                              refine mz_ifF q1 ?_
                              refine mz_go 3 (c' := (if 4 ≤ (nI jxa) then 13 else 9, [some (.ref 60), some (.int (nI jxa))], [], w)) rfl ?_
                              refine mz_ifF q2 ?_
                              refine mz_go 2 (c' := (14, [some (.ref 60), some (.int (nI jxa))], [.int 1], w)) rfl ?_
                              exact mz_ret rfl
                            refine mz_go 3 (c' := (if (nI jxe) < 0 then 42 else 12, [some (.ref 60), some (.int (nI jxa)), some (.int (nI jxb)), some (.int (nI jxe))], [], w)) rfl ?_
                            refine mz_ifF q8 ?_
                            refine mz_go 2 (c' := (if (nI jxb) < 0 then 42 else 16, [some (.ref 60), some (.int (nI jxa)), some (.int (nI jxb)), some (.int (nI jxe))], [], w)) rfl ?_
                            refine mz_ifF q9 ?_
                            refine mz_go 4 (c' := (22, [some (.ref 60), some (.int (nI jxa)), some (.int (nI jxb)), some (.int (nI jxe))], [.int (nI jxa), .ref 62, .int (nI jxe)], w)) rfl ?_
                            refine mz_arr (c' := (23, [some (.ref 60), some (.int (nI jxa)), some (.int (nI jxb)), some (.int (nI jxe))], [.int (w 62 ((nI jxa).toNatClampNeg)), .int (nI jxe)], w)) rfl (show mz_in (nI jxa) 4 = true from sm_inN rfl (show jxa < 4 by omega) (by decide)) ?_
                            rw [show (nI jxa : Int32).toNatClampNeg = jxa from sm_clN rfl (show jxa < 2 ^ 31 by omega)]
                            rw [ezz10]
                            refine mz_go 1 (c' := (if (nI zz10) < (nI jxe) then 42 else 26, [some (.ref 60), some (.int (nI jxa)), some (.int (nI jxb)), some (.int (nI jxe))], [], w)) rfl ?_
                            refine mz_ifF (show ¬ ((nI zz10) < (nI jxe)) from (sm_nltN rfl rfl (show jxe ≤ zz10 by omega) (show zz10 < 2 ^ 31 by omega))) ?_
                            refine mz_go 4 (c' := (32, [some (.ref 60), some (.int (nI jxa)), some (.int (nI jxb)), some (.int (nI jxe))], [.int (nI jxa), .ref 62, .int (nI jxb)], w)) rfl ?_
                            refine mz_arr (c' := (33, [some (.ref 60), some (.int (nI jxa)), some (.int (nI jxb)), some (.int (nI jxe))], [.int (w 62 ((nI jxa).toNatClampNeg)), .int (nI jxb)], w)) rfl (show mz_in (nI jxa) 4 = true from sm_inN rfl (show jxa < 4 by omega) (by decide)) ?_
                            rw [show (nI jxa : Int32).toNatClampNeg = jxa from sm_clN rfl (show jxa < 2 ^ 31 by omega)]
                            rw [ezz10]
                            refine mz_go 3 (c' := (if ((nI zz10) - (nI jxe)) < (nI jxb) then 42 else 38, [some (.ref 60), some (.int (nI jxa)), some (.int (nI jxb)), some (.int (nI jxe))], [], w)) rfl ?_
                            refine mz_ifF (show ¬ (((nI zz10) - (nI jxe)) < (nI jxb)) from (sm_nltN (sm_subN (a := zz10) (b := jxe) rfl rfl (by omega)) rfl (show jxb ≤ (zz10 - jxe) by omega) (show (zz10 - jxe) < 2 ^ 31 by omega))) ?_
                            refine mz_go 2 (c' := (43, [some (.ref 60), some (.int (nI jxa)), some (.int (nI jxb)), some (.int (nI jxe))], [.int 1], w)) rfl ?_
                            exact mz_ret rfl
                          refine mz_goP 6 (c' := (106, [some (.ref 0), some (.int (nI jxa)), some (.int (nI jxb)), some (.int (nI jxc)), some (.int xd), some (.int (nI jxe))], [.int (nI jxe), .int xd, .int (nI jxc), .ref 60], w)) rfl ?_
                          refine mz_doPQ (R := mz_r48) (as := [.ref 60, .int (nI jxc), .int xd, .int (nI jxe)]) (rest := []) (r1 := some (.int 0)) (m1 := w) mz_t48 mz_v48_60 rfl rfl rfl rfl rfl ⟨?_, rfl⟩ ?_
                          · refine mz_go 2 (c' := (2, [some (.ref 60), some (.int (nI jxc)), some (.int xd), some (.int (nI jxe))], [.int (nI jxc), .ref 60], w)) rfl ?_
                            refine mz_doQ (R := mz_r45) (as := [.ref 60, .int (nI jxc)]) (rest := []) (r1 := some (.int 1)) (m1 := w) mz_t45 mz_v45_60 rfl rfl rfl rfl rfl ⟨?_, rfl⟩ ?_
                            · refine mz_go 2 (c' := (if (nI jxc) < 0 then 13 else 4, [some (.ref 60), some (.int (nI jxc))], [], w)) rfl ?_
                              refine mz_ifF q3 ?_
                              refine mz_go 3 (c' := (if 4 ≤ (nI jxc) then 13 else 9, [some (.ref 60), some (.int (nI jxc))], [], w)) rfl ?_
                              refine mz_ifF q4 ?_
                              refine mz_go 2 (c' := (14, [some (.ref 60), some (.int (nI jxc))], [.int 1], w)) rfl ?_
                              exact mz_ret rfl
                            refine mz_go 3 (c' := (if (nI jxe) < 0 then 42 else 12, [some (.ref 60), some (.int (nI jxc)), some (.int xd), some (.int (nI jxe))], [], w)) rfl ?_
                            refine mz_ifF q8 ?_
                            refine mz_go 2 (c' := (if xd < 0 then 42 else 16, [some (.ref 60), some (.int (nI jxc)), some (.int xd), some (.int (nI jxe))], [], w)) rfl ?_
                            refine mz_ifT q15 ?_
                            refine mz_go 1 (c' := (43, [some (.ref 60), some (.int (nI jxc)), some (.int xd), some (.int (nI jxe))], [.int 0], w)) rfl ?_
                            exact mz_ret rfl
                          refine mz_goP 3 (c' := (114, [some (.ref 0), some (.int (nI jxa)), some (.int (nI jxb)), some (.int (nI jxc)), some (.int xd), some (.int (nI jxe))], [.int 1, .ref 0], w)) rfl ?_
                          refine mz_doPQ (R := mz_r109) (as := [.ref 0, .int 1]) (rest := []) (r1 := some (.int (-1000001))) (m1 := mz_up w 64 1 ((w 64 1) + 1)) mz_t109 mz_v109_0 rfl rfl rfl rfl rfl ((cs_err1 (m := w)).deep (by decide)) ?_
                          refine mz_retP (r := (some (.int ((-1000001))), mz_up w 64 1 ((w 64 1) + 1))) rfl ⟨(-1000001), rfl, ?_⟩
                          refine mz_goP 1 (c' := (1, [some (.ref 65), some (.int (nI jxa)), some (.int (nI jxb)), some (.int (nI jxc)), some (.int xd), some (.int (nI jxe)), none], [.int (nI jxa)], mz_up w 64 1 ((w 64 1) + 1))) rfl ?_
                          refine mz_doPQ (R := mz_r219) (as := [.int (nI jxa)]) (rest := []) (r1 := some (.int 1)) (m1 := mz_up w 64 1 ((w 64 1) + 1)) mz_t219 mz_v219 rfl rfl rfl rfl rfl ⟨?_, rfl⟩ ?_
                          · refine mz_go 3 (c' := (3, [some (.int (nI jxa))], [.int 3, .int 0, .int (nI jxa)], mz_up w 64 1 ((w 64 1) + 1))) rfl ?_
                            refine mz_doQ (R := mz_r128) (as := [.int (nI jxa), .int 0, .int 3]) (rest := []) (r1 := some (.int 1)) (m1 := mz_up w 64 1 ((w 64 1) + 1)) mz_t128 mz_v128 rfl rfl rfl rfl rfl ((ct_in1 (m := mz_up w 64 1 ((w 64 1) + 1)) (v := nI jxa) (a := 0) (b := 3) q1 (show ¬ (3 < (nI jxa)) from (sm_nltN rfl rfl (show jxa ≤ 3 by omega) (show 3 < 2 ^ 31 by omega)))).deep (by decide)) ?_
                            exact mz_ret rfl
                          refine mz_goP 2 (c' := (8, [some (.ref 65), some (.int (nI jxa)), some (.int (nI jxb)), some (.int (nI jxc)), some (.int xd), some (.int (nI jxe)), none], [.int (nI jxc)], mz_up w 64 1 ((w 64 1) + 1))) rfl ?_
                          refine mz_doPQ (R := mz_r219) (as := [.int (nI jxc)]) (rest := []) (r1 := some (.int 1)) (m1 := mz_up w 64 1 ((w 64 1) + 1)) mz_t219 mz_v219 rfl rfl rfl rfl rfl ⟨?_, rfl⟩ ?_
                          · refine mz_go 3 (c' := (3, [some (.int (nI jxc))], [.int 3, .int 0, .int (nI jxc)], mz_up w 64 1 ((w 64 1) + 1))) rfl ?_
                            refine mz_doQ (R := mz_r128) (as := [.int (nI jxc), .int 0, .int 3]) (rest := []) (r1 := some (.int 1)) (m1 := mz_up w 64 1 ((w 64 1) + 1)) mz_t128 mz_v128 rfl rfl rfl rfl rfl ((ct_in1 (m := mz_up w 64 1 ((w 64 1) + 1)) (v := nI jxc) (a := 0) (b := 3) q3 (show ¬ (3 < (nI jxc)) from (sm_nltN rfl rfl (show jxc ≤ 3 by omega) (show 3 < 2 ^ 31 by omega)))).deep (by decide)) ?_
                            exact mz_ret rfl
                          refine mz_goP 4 (c' := (25, [some (.ref 65), some (.int (nI jxa)), some (.int (nI jxb)), some (.int (nI jxc)), some (.int xd), some (.int (nI jxe)), none], [.int (nI jxa), .ref 75], mz_up w 64 1 ((w 64 1) + 1))) rfl ?_
                          refine mz_arrP (c' := (26, [some (.ref 65), some (.int (nI jxa)), some (.int (nI jxb)), some (.int (nI jxc)), some (.int xd), some (.int (nI jxe)), none], [.int (w 75 ((nI jxa).toNatClampNeg))], mz_up w 64 1 ((w 64 1) + 1))) rfl (show mz_in (nI jxa) 4 = true from sm_inN rfl (show jxa < 4 by omega) (by decide)) ?_
                          rw [show (nI jxa : Int32).toNatClampNeg = jxa from sm_clN rfl (show jxa < 2 ^ 31 by omega)]
                          rw [show w 75 jxa = w 61 jxa from (hsh jxa (by omega)).2.2.1]
                          refine mz_goP 1 (c' := (if (w 61 jxa) = 0 then 38 else 29, [some (.ref 65), some (.int (nI jxa)), some (.int (nI jxb)), some (.int (nI jxc)), some (.int xd), some (.int (nI jxe)), none], [], mz_up w 64 1 ((w 64 1) + 1))) rfl ?_
                          refine mz_ifFP q5 ?_
                          refine mz_goP 3 (c' := (34, [some (.ref 65), some (.int (nI jxa)), some (.int (nI jxb)), some (.int (nI jxc)), some (.int xd), some (.int (nI jxe)), none], [.int (nI jxc), .ref 75], mz_up w 64 1 ((w 64 1) + 1))) rfl ?_
                          refine mz_arrP (c' := (35, [some (.ref 65), some (.int (nI jxa)), some (.int (nI jxb)), some (.int (nI jxc)), some (.int xd), some (.int (nI jxe)), none], [.int (w 75 ((nI jxc).toNatClampNeg))], mz_up w 64 1 ((w 64 1) + 1))) rfl (show mz_in (nI jxc) 4 = true from sm_inN rfl (show jxc < 4 by omega) (by decide)) ?_
                          rw [show (nI jxc : Int32).toNatClampNeg = jxc from sm_clN rfl (show jxc < 2 ^ 31 by omega)]
                          rw [show w 75 jxc = w 61 jxc from (hsh jxc (by omega)).2.2.1]
                          refine mz_goP 1 (c' := (if (w 61 jxc) = 0 then 38 else 44, [some (.ref 65), some (.int (nI jxa)), some (.int (nI jxb)), some (.int (nI jxc)), some (.int xd), some (.int (nI jxe)), none], [], mz_up w 64 1 ((w 64 1) + 1))) rfl ?_
                          refine mz_ifFP q6 ?_
                          refine mz_goP 3 (c' := (49, [some (.ref 65), some (.int (nI jxa)), some (.int (nI jxb)), some (.int (nI jxc)), some (.int xd), some (.int (nI jxe)), none], [.int (nI jxa), .ref 75], mz_up w 64 1 ((w 64 1) + 1))) rfl ?_
                          refine mz_arrP (c' := (50, [some (.ref 65), some (.int (nI jxa)), some (.int (nI jxb)), some (.int (nI jxc)), some (.int xd), some (.int (nI jxe)), none], [.int (w 75 ((nI jxa).toNatClampNeg))], mz_up w 64 1 ((w 64 1) + 1))) rfl (show mz_in (nI jxa) 4 = true from sm_inN rfl (show jxa < 4 by omega) (by decide)) ?_
                          rw [show (nI jxa : Int32).toNatClampNeg = jxa from sm_clN rfl (show jxa < 2 ^ 31 by omega)]
                          rw [show w 75 jxa = w 61 jxa from (hsh jxa (by omega)).2.2.1]
                          refine mz_goP 3 (c' := (55, [some (.ref 65), some (.int (nI jxa)), some (.int (nI jxb)), some (.int (nI jxc)), some (.int xd), some (.int (nI jxe)), none], [.int (nI jxc), .ref 75, .int (w 61 jxa)], mz_up w 64 1 ((w 64 1) + 1))) rfl ?_
                          refine mz_arrP (c' := (56, [some (.ref 65), some (.int (nI jxa)), some (.int (nI jxb)), some (.int (nI jxc)), some (.int xd), some (.int (nI jxe)), none], [.int (w 75 ((nI jxc).toNatClampNeg)), .int (w 61 jxa)], mz_up w 64 1 ((w 64 1) + 1))) rfl (show mz_in (nI jxc) 4 = true from sm_inN rfl (show jxc < 4 by omega) (by decide)) ?_
                          rw [show (nI jxc : Int32).toNatClampNeg = jxc from sm_clN rfl (show jxc < 2 ^ 31 by omega)]
                          rw [show w 75 jxc = w 61 jxc from (hsh jxc (by omega)).2.2.1]
                          refine mz_goP 1 (c' := (if (w 61 jxa) = (w 61 jxc) then 65 else 59, [some (.ref 65), some (.int (nI jxa)), some (.int (nI jxb)), some (.int (nI jxc)), some (.int xd), some (.int (nI jxe)), none], [], mz_up w 64 1 ((w 64 1) + 1))) rfl ?_
                          refine mz_ifTP q7 ?_
                          refine mz_goP 2 (c' := (if (nI jxe) < 0 then 106 else 70, [some (.ref 65), some (.int (nI jxa)), some (.int (nI jxb)), some (.int (nI jxc)), some (.int xd), some (.int (nI jxe)), none], [], mz_up w 64 1 ((w 64 1) + 1))) rfl ?_
                          refine mz_ifFP q8 ?_
                          refine mz_goP 2 (c' := (if (nI jxb) < 0 then 106 else 74, [some (.ref 65), some (.int (nI jxa)), some (.int (nI jxb)), some (.int (nI jxc)), some (.int xd), some (.int (nI jxe)), none], [], mz_up w 64 1 ((w 64 1) + 1))) rfl ?_
                          refine mz_ifFP q9 ?_
                          refine mz_goP 2 (c' := (if xd < 0 then 106 else 79, [some (.ref 65), some (.int (nI jxa)), some (.int (nI jxb)), some (.int (nI jxc)), some (.int xd), some (.int (nI jxe)), none], [], mz_up w 64 1 ((w 64 1) + 1))) rfl ?_
                          refine mz_ifTP q15 ?_
                          refine mz_goP 2 (c' := (108, [some (.ref 65), some (.int (nI jxa)), some (.int (nI jxb)), some (.int (nI jxc)), some (.int xd), some (.int (nI jxe)), none], [.int 1, .ref 65], mz_up w 64 1 ((w 64 1) + 1))) rfl ?_
                          refine mz_doPQ (R := mz_r127) (as := [.ref 65, .int 1]) (rest := []) (r1 := some (.int (-1000001))) (m1 := mz_up (mz_up w 64 1 ((w 64 1) + 1)) 68 1 ((w 68 1) + 1)) mz_t127 mz_v127_65 rfl rfl rfl rfl rfl ((ct_err1 (m := mz_up w 64 1 ((w 64 1) + 1))).deep (by decide)) ?_
                          refine mz_retP (r := (some (.int ((-1000001))), mz_up (mz_up w 64 1 ((w 64 1) + 1)) 68 1 ((w 68 1) + 1))) rfl ⟨(-1000001), rfl, ?_, rfl⟩
                          show sm_I (n + 1) (mz_up (mz_up w 64 1 ((w 64 1) + 1)) 68 1 ((w 68 1) + 1))
                          exact sm_I_scr hn hI2 (fun i hi => by
                            have hne : ∀ r, sm_scr r = true → i ≠ r := fun r hr e => by
                              rw [e, hr] at hi
                              cases hi
                            simp only [mz_up_ne (hne 64 rfl), mz_up_ne (hne 68 rfl)]) rfl rfl
                        · obtain ⟨zz16, hzz16, ezz16⟩ := sm_Nof (by decide) (hsh jxc (by omega)).2.1
                          obtain ⟨jxd, hjxd, rfl⟩ := nI_of q15
                          refine mz_goP 3 (c' := (5, [some (.ref 0), some (.int (nI jxa)), some (.int (nI jxb)), some (.int (nI jxc)), some (.int (nI jxd)), some (.int (nI jxe))], [.int (nI jxa), .ref 60], w)) rfl ?_
                          refine mz_doPQ (R := mz_r45) (as := [.ref 60, .int (nI jxa)]) (rest := []) (r1 := some (.int 1)) (m1 := w) mz_t45 mz_v45_60 rfl rfl rfl rfl rfl ⟨?_, rfl⟩ ?_
                          · refine mz_go 2 (c' := (if (nI jxa) < 0 then 13 else 4, [some (.ref 60), some (.int (nI jxa))], [], w)) rfl ?_
                            refine mz_ifF q1 ?_
                            refine mz_go 3 (c' := (if 4 ≤ (nI jxa) then 13 else 9, [some (.ref 60), some (.int (nI jxa))], [], w)) rfl ?_
                            refine mz_ifF q2 ?_
                            refine mz_go 2 (c' := (14, [some (.ref 60), some (.int (nI jxa))], [.int 1], w)) rfl ?_
                            exact mz_ret rfl
                          refine mz_goP 4 (c' := (16, [some (.ref 0), some (.int (nI jxa)), some (.int (nI jxb)), some (.int (nI jxc)), some (.int (nI jxd)), some (.int (nI jxe))], [.int (nI jxc), .ref 60], w)) rfl ?_
                          refine mz_doPQ (R := mz_r45) (as := [.ref 60, .int (nI jxc)]) (rest := []) (r1 := some (.int 1)) (m1 := w) mz_t45 mz_v45_60 rfl rfl rfl rfl rfl ⟨?_, rfl⟩ ?_
                          · refine mz_go 2 (c' := (if (nI jxc) < 0 then 13 else 4, [some (.ref 60), some (.int (nI jxc))], [], w)) rfl ?_
                            refine mz_ifF q3 ?_
                            refine mz_go 3 (c' := (if 4 ≤ (nI jxc) then 13 else 9, [some (.ref 60), some (.int (nI jxc))], [], w)) rfl ?_
                            refine mz_ifF q4 ?_
                            refine mz_go 2 (c' := (14, [some (.ref 60), some (.int (nI jxc))], [.int 1], w)) rfl ?_
                            exact mz_ret rfl
                          refine mz_goP 4 (c' := (33, [some (.ref 0), some (.int (nI jxa)), some (.int (nI jxb)), some (.int (nI jxc)), some (.int (nI jxd)), some (.int (nI jxe))], [.int (nI jxa), .ref 60], w)) rfl ?_
                          refine mz_doPQ (R := mz_r46) (as := [.ref 60, .int (nI jxa)]) (rest := []) (r1 := some (.int 0)) (m1 := w) mz_t46 mz_v46_60 rfl rfl rfl rfl rfl ⟨?_, rfl⟩ ?_
                          · refine mz_go 2 (c' := (2, [some (.ref 60), some (.int (nI jxa))], [.int (nI jxa), .ref 60], w)) rfl ?_
                            refine mz_doQ (R := mz_r45) (as := [.ref 60, .int (nI jxa)]) (rest := []) (r1 := some (.int 1)) (m1 := w) mz_t45 mz_v45_60 rfl rfl rfl rfl rfl ⟨?_, rfl⟩ ?_
                            · refine mz_go 2 (c' := (if (nI jxa) < 0 then 13 else 4, [some (.ref 60), some (.int (nI jxa))], [], w)) rfl ?_
                              refine mz_ifF q1 ?_
                              refine mz_go 3 (c' := (if 4 ≤ (nI jxa) then 13 else 9, [some (.ref 60), some (.int (nI jxa))], [], w)) rfl ?_
                              refine mz_ifF q2 ?_
                              refine mz_go 2 (c' := (14, [some (.ref 60), some (.int (nI jxa))], [.int 1], w)) rfl ?_
                              exact mz_ret rfl
                            refine mz_go 4 (c' := (13, [some (.ref 60), some (.int (nI jxa))], [.int (nI jxa), .ref 61], w)) rfl ?_
                            refine mz_arr (c' := (14, [some (.ref 60), some (.int (nI jxa))], [.int (w 61 ((nI jxa).toNatClampNeg))], w)) rfl (show mz_in (nI jxa) 4 = true from sm_inN rfl (show jxa < 4 by omega) (by decide)) ?_
                            rw [show (nI jxa : Int32).toNatClampNeg = jxa from sm_clN rfl (show jxa < 2 ^ 31 by omega)]
                            refine mz_go 1 (c' := (if (w 61 jxa) = 0 then 17 else 21, [some (.ref 60), some (.int (nI jxa))], [], w)) rfl ?_
                            refine mz_ifF q5 ?_
                            refine mz_go 1 (c' := (22, [some (.ref 60), some (.int (nI jxa))], [.int 0], w)) rfl ?_
                            exact mz_ret rfl
                          refine mz_goP 4 (c' := (44, [some (.ref 0), some (.int (nI jxa)), some (.int (nI jxb)), some (.int (nI jxc)), some (.int (nI jxd)), some (.int (nI jxe))], [.int (nI jxc), .ref 60], w)) rfl ?_
                          refine mz_doPQ (R := mz_r46) (as := [.ref 60, .int (nI jxc)]) (rest := []) (r1 := some (.int 0)) (m1 := w) mz_t46 mz_v46_60 rfl rfl rfl rfl rfl ⟨?_, rfl⟩ ?_
                          · refine mz_go 2 (c' := (2, [some (.ref 60), some (.int (nI jxc))], [.int (nI jxc), .ref 60], w)) rfl ?_
                            refine mz_doQ (R := mz_r45) (as := [.ref 60, .int (nI jxc)]) (rest := []) (r1 := some (.int 1)) (m1 := w) mz_t45 mz_v45_60 rfl rfl rfl rfl rfl ⟨?_, rfl⟩ ?_
                            · refine mz_go 2 (c' := (if (nI jxc) < 0 then 13 else 4, [some (.ref 60), some (.int (nI jxc))], [], w)) rfl ?_
                              refine mz_ifF q3 ?_
                              refine mz_go 3 (c' := (if 4 ≤ (nI jxc) then 13 else 9, [some (.ref 60), some (.int (nI jxc))], [], w)) rfl ?_
                              refine mz_ifF q4 ?_
                              refine mz_go 2 (c' := (14, [some (.ref 60), some (.int (nI jxc))], [.int 1], w)) rfl ?_
                              exact mz_ret rfl
                            refine mz_go 4 (c' := (13, [some (.ref 60), some (.int (nI jxc))], [.int (nI jxc), .ref 61], w)) rfl ?_
                            refine mz_arr (c' := (14, [some (.ref 60), some (.int (nI jxc))], [.int (w 61 ((nI jxc).toNatClampNeg))], w)) rfl (show mz_in (nI jxc) 4 = true from sm_inN rfl (show jxc < 4 by omega) (by decide)) ?_
                            rw [show (nI jxc : Int32).toNatClampNeg = jxc from sm_clN rfl (show jxc < 2 ^ 31 by omega)]
                            refine mz_go 1 (c' := (if (w 61 jxc) = 0 then 17 else 21, [some (.ref 60), some (.int (nI jxc))], [], w)) rfl ?_
                            refine mz_ifF q6 ?_
                            refine mz_go 1 (c' := (22, [some (.ref 60), some (.int (nI jxc))], [.int 0], w)) rfl ?_
                            exact mz_ret rfl
                          refine mz_goP 5 (c' := (64, [some (.ref 0), some (.int (nI jxa)), some (.int (nI jxb)), some (.int (nI jxc)), some (.int (nI jxd)), some (.int (nI jxe))], [.int (nI jxa), .ref 61], w)) rfl ?_
                          refine mz_arrP (c' := (65, [some (.ref 0), some (.int (nI jxa)), some (.int (nI jxb)), some (.int (nI jxc)), some (.int (nI jxd)), some (.int (nI jxe))], [.int (w 61 ((nI jxa).toNatClampNeg))], w)) rfl (show mz_in (nI jxa) 4 = true from sm_inN rfl (show jxa < 4 by omega) (by decide)) ?_
                          rw [show (nI jxa : Int32).toNatClampNeg = jxa from sm_clN rfl (show jxa < 2 ^ 31 by omega)]
                          refine mz_goP 4 (c' := (73, [some (.ref 0), some (.int (nI jxa)), some (.int (nI jxb)), some (.int (nI jxc)), some (.int (nI jxd)), some (.int (nI jxe))], [.int (nI jxc), .ref 61, .int (w 61 jxa)], w)) rfl ?_
                          refine mz_arrP (c' := (74, [some (.ref 0), some (.int (nI jxa)), some (.int (nI jxb)), some (.int (nI jxc)), some (.int (nI jxd)), some (.int (nI jxe))], [.int (w 61 ((nI jxc).toNatClampNeg)), .int (w 61 jxa)], w)) rfl (show mz_in (nI jxc) 4 = true from sm_inN rfl (show jxc < 4 by omega) (by decide)) ?_
                          rw [show (nI jxc : Int32).toNatClampNeg = jxc from sm_clN rfl (show jxc < 2 ^ 31 by omega)]
                          refine mz_goP 1 (c' := (if (w 61 jxa) = (w 61 jxc) then 83 else 77, [some (.ref 0), some (.int (nI jxa)), some (.int (nI jxb)), some (.int (nI jxc)), some (.int (nI jxd)), some (.int (nI jxe))], [], w)) rfl ?_
                          refine mz_ifTP q7 ?_
                          refine mz_goP 5 (c' := (91, [some (.ref 0), some (.int (nI jxa)), some (.int (nI jxb)), some (.int (nI jxc)), some (.int (nI jxd)), some (.int (nI jxe))], [.int (nI jxe), .int (nI jxb), .int (nI jxa), .ref 60], w)) rfl ?_
                          refine mz_doPQ (R := mz_r48) (as := [.ref 60, .int (nI jxa), .int (nI jxb), .int (nI jxe)]) (rest := []) (r1 := some (.int 1)) (m1 := w) mz_t48 mz_v48_60 rfl rfl rfl rfl rfl ⟨?_, rfl⟩ ?_
                          · refine mz_go 2 (c' := (2, [some (.ref 60), some (.int (nI jxa)), some (.int (nI jxb)), some (.int (nI jxe))], [.int (nI jxa), .ref 60], w)) rfl ?_
                            refine mz_doQ (R := mz_r45) (as := [.ref 60, .int (nI jxa)]) (rest := []) (r1 := some (.int 1)) (m1 := w) mz_t45 mz_v45_60 rfl rfl rfl rfl rfl ⟨?_, rfl⟩ ?_
                            · refine mz_go 2 (c' := (if (nI jxa) < 0 then 13 else 4, [some (.ref 60), some (.int (nI jxa))], [], w)) rfl ?_
                              refine mz_ifF q1 ?_
                              refine mz_go 3 (c' := (if 4 ≤ (nI jxa) then 13 else 9, [some (.ref 60), some (.int (nI jxa))], [], w)) rfl ?_
                              refine mz_ifF q2 ?_
                              refine mz_go 2 (c' := (14, [some (.ref 60), some (.int (nI jxa))], [.int 1], w)) rfl ?_
                              exact mz_ret rfl
                            refine mz_go 3 (c' := (if (nI jxe) < 0 then 42 else 12, [some (.ref 60), some (.int (nI jxa)), some (.int (nI jxb)), some (.int (nI jxe))], [], w)) rfl ?_
                            refine mz_ifF q8 ?_
                            refine mz_go 2 (c' := (if (nI jxb) < 0 then 42 else 16, [some (.ref 60), some (.int (nI jxa)), some (.int (nI jxb)), some (.int (nI jxe))], [], w)) rfl ?_
                            refine mz_ifF q9 ?_
                            refine mz_go 4 (c' := (22, [some (.ref 60), some (.int (nI jxa)), some (.int (nI jxb)), some (.int (nI jxe))], [.int (nI jxa), .ref 62, .int (nI jxe)], w)) rfl ?_
                            refine mz_arr (c' := (23, [some (.ref 60), some (.int (nI jxa)), some (.int (nI jxb)), some (.int (nI jxe))], [.int (w 62 ((nI jxa).toNatClampNeg)), .int (nI jxe)], w)) rfl (show mz_in (nI jxa) 4 = true from sm_inN rfl (show jxa < 4 by omega) (by decide)) ?_
                            rw [show (nI jxa : Int32).toNatClampNeg = jxa from sm_clN rfl (show jxa < 2 ^ 31 by omega)]
                            rw [ezz10]
                            refine mz_go 1 (c' := (if (nI zz10) < (nI jxe) then 42 else 26, [some (.ref 60), some (.int (nI jxa)), some (.int (nI jxb)), some (.int (nI jxe))], [], w)) rfl ?_
                            refine mz_ifF (show ¬ ((nI zz10) < (nI jxe)) from (sm_nltN rfl rfl (show jxe ≤ zz10 by omega) (show zz10 < 2 ^ 31 by omega))) ?_
                            refine mz_go 4 (c' := (32, [some (.ref 60), some (.int (nI jxa)), some (.int (nI jxb)), some (.int (nI jxe))], [.int (nI jxa), .ref 62, .int (nI jxb)], w)) rfl ?_
                            refine mz_arr (c' := (33, [some (.ref 60), some (.int (nI jxa)), some (.int (nI jxb)), some (.int (nI jxe))], [.int (w 62 ((nI jxa).toNatClampNeg)), .int (nI jxb)], w)) rfl (show mz_in (nI jxa) 4 = true from sm_inN rfl (show jxa < 4 by omega) (by decide)) ?_
                            rw [show (nI jxa : Int32).toNatClampNeg = jxa from sm_clN rfl (show jxa < 2 ^ 31 by omega)]
                            rw [ezz10]
                            refine mz_go 3 (c' := (if ((nI zz10) - (nI jxe)) < (nI jxb) then 42 else 38, [some (.ref 60), some (.int (nI jxa)), some (.int (nI jxb)), some (.int (nI jxe))], [], w)) rfl ?_
                            refine mz_ifF (show ¬ (((nI zz10) - (nI jxe)) < (nI jxb)) from (sm_nltN (sm_subN (a := zz10) (b := jxe) rfl rfl (by omega)) rfl (show jxb ≤ (zz10 - jxe) by omega) (show (zz10 - jxe) < 2 ^ 31 by omega))) ?_
                            refine mz_go 2 (c' := (43, [some (.ref 60), some (.int (nI jxa)), some (.int (nI jxb)), some (.int (nI jxe))], [.int 1], w)) rfl ?_
                            exact mz_ret rfl
                          refine mz_goP 6 (c' := (106, [some (.ref 0), some (.int (nI jxa)), some (.int (nI jxb)), some (.int (nI jxc)), some (.int (nI jxd)), some (.int (nI jxe))], [.int (nI jxe), .int (nI jxd), .int (nI jxc), .ref 60], w)) rfl ?_
                          by_cases q17 : zz16 < jxe
                          · refine mz_doPQ (R := mz_r48) (as := [.ref 60, .int (nI jxc), .int (nI jxd), .int (nI jxe)]) (rest := []) (r1 := some (.int 0)) (m1 := w) mz_t48 mz_v48_60 rfl rfl rfl rfl rfl ⟨?_, rfl⟩ ?_
                            · refine mz_go 2 (c' := (2, [some (.ref 60), some (.int (nI jxc)), some (.int (nI jxd)), some (.int (nI jxe))], [.int (nI jxc), .ref 60], w)) rfl ?_
                              refine mz_doQ (R := mz_r45) (as := [.ref 60, .int (nI jxc)]) (rest := []) (r1 := some (.int 1)) (m1 := w) mz_t45 mz_v45_60 rfl rfl rfl rfl rfl ⟨?_, rfl⟩ ?_
                              · refine mz_go 2 (c' := (if (nI jxc) < 0 then 13 else 4, [some (.ref 60), some (.int (nI jxc))], [], w)) rfl ?_
                                refine mz_ifF q3 ?_
                                refine mz_go 3 (c' := (if 4 ≤ (nI jxc) then 13 else 9, [some (.ref 60), some (.int (nI jxc))], [], w)) rfl ?_
                                refine mz_ifF q4 ?_
                                refine mz_go 2 (c' := (14, [some (.ref 60), some (.int (nI jxc))], [.int 1], w)) rfl ?_
                                exact mz_ret rfl
                              refine mz_go 3 (c' := (if (nI jxe) < 0 then 42 else 12, [some (.ref 60), some (.int (nI jxc)), some (.int (nI jxd)), some (.int (nI jxe))], [], w)) rfl ?_
                              refine mz_ifF q8 ?_
                              refine mz_go 2 (c' := (if (nI jxd) < 0 then 42 else 16, [some (.ref 60), some (.int (nI jxc)), some (.int (nI jxd)), some (.int (nI jxe))], [], w)) rfl ?_
                              refine mz_ifF q15 ?_
                              refine mz_go 4 (c' := (22, [some (.ref 60), some (.int (nI jxc)), some (.int (nI jxd)), some (.int (nI jxe))], [.int (nI jxc), .ref 62, .int (nI jxe)], w)) rfl ?_
                              refine mz_arr (c' := (23, [some (.ref 60), some (.int (nI jxc)), some (.int (nI jxd)), some (.int (nI jxe))], [.int (w 62 ((nI jxc).toNatClampNeg)), .int (nI jxe)], w)) rfl (show mz_in (nI jxc) 4 = true from sm_inN rfl (show jxc < 4 by omega) (by decide)) ?_
                              rw [show (nI jxc : Int32).toNatClampNeg = jxc from sm_clN rfl (show jxc < 2 ^ 31 by omega)]
                              rw [ezz16]
                              refine mz_go 1 (c' := (if (nI zz16) < (nI jxe) then 42 else 26, [some (.ref 60), some (.int (nI jxc)), some (.int (nI jxd)), some (.int (nI jxe))], [], w)) rfl ?_
                              refine mz_ifT (show ((nI zz16) < (nI jxe)) from (sm_ltN rfl rfl (show zz16 < jxe by omega) (show jxe < 2 ^ 31 by omega))) ?_
                              refine mz_go 1 (c' := (43, [some (.ref 60), some (.int (nI jxc)), some (.int (nI jxd)), some (.int (nI jxe))], [.int 0], w)) rfl ?_
                              exact mz_ret rfl
                            refine mz_goP 3 (c' := (114, [some (.ref 0), some (.int (nI jxa)), some (.int (nI jxb)), some (.int (nI jxc)), some (.int (nI jxd)), some (.int (nI jxe))], [.int 1, .ref 0], w)) rfl ?_
                            refine mz_doPQ (R := mz_r109) (as := [.ref 0, .int 1]) (rest := []) (r1 := some (.int (-1000001))) (m1 := mz_up w 64 1 ((w 64 1) + 1)) mz_t109 mz_v109_0 rfl rfl rfl rfl rfl ((cs_err1 (m := w)).deep (by decide)) ?_
                            refine mz_retP (r := (some (.int ((-1000001))), mz_up w 64 1 ((w 64 1) + 1))) rfl ⟨(-1000001), rfl, ?_⟩
                            refine mz_goP 1 (c' := (1, [some (.ref 65), some (.int (nI jxa)), some (.int (nI jxb)), some (.int (nI jxc)), some (.int (nI jxd)), some (.int (nI jxe)), none], [.int (nI jxa)], mz_up w 64 1 ((w 64 1) + 1))) rfl ?_
                            refine mz_doPQ (R := mz_r219) (as := [.int (nI jxa)]) (rest := []) (r1 := some (.int 1)) (m1 := mz_up w 64 1 ((w 64 1) + 1)) mz_t219 mz_v219 rfl rfl rfl rfl rfl ⟨?_, rfl⟩ ?_
                            · refine mz_go 3 (c' := (3, [some (.int (nI jxa))], [.int 3, .int 0, .int (nI jxa)], mz_up w 64 1 ((w 64 1) + 1))) rfl ?_
                              refine mz_doQ (R := mz_r128) (as := [.int (nI jxa), .int 0, .int 3]) (rest := []) (r1 := some (.int 1)) (m1 := mz_up w 64 1 ((w 64 1) + 1)) mz_t128 mz_v128 rfl rfl rfl rfl rfl ((ct_in1 (m := mz_up w 64 1 ((w 64 1) + 1)) (v := nI jxa) (a := 0) (b := 3) q1 (show ¬ (3 < (nI jxa)) from (sm_nltN rfl rfl (show jxa ≤ 3 by omega) (show 3 < 2 ^ 31 by omega)))).deep (by decide)) ?_
                              exact mz_ret rfl
                            refine mz_goP 2 (c' := (8, [some (.ref 65), some (.int (nI jxa)), some (.int (nI jxb)), some (.int (nI jxc)), some (.int (nI jxd)), some (.int (nI jxe)), none], [.int (nI jxc)], mz_up w 64 1 ((w 64 1) + 1))) rfl ?_
                            refine mz_doPQ (R := mz_r219) (as := [.int (nI jxc)]) (rest := []) (r1 := some (.int 1)) (m1 := mz_up w 64 1 ((w 64 1) + 1)) mz_t219 mz_v219 rfl rfl rfl rfl rfl ⟨?_, rfl⟩ ?_
                            · refine mz_go 3 (c' := (3, [some (.int (nI jxc))], [.int 3, .int 0, .int (nI jxc)], mz_up w 64 1 ((w 64 1) + 1))) rfl ?_
                              refine mz_doQ (R := mz_r128) (as := [.int (nI jxc), .int 0, .int 3]) (rest := []) (r1 := some (.int 1)) (m1 := mz_up w 64 1 ((w 64 1) + 1)) mz_t128 mz_v128 rfl rfl rfl rfl rfl ((ct_in1 (m := mz_up w 64 1 ((w 64 1) + 1)) (v := nI jxc) (a := 0) (b := 3) q3 (show ¬ (3 < (nI jxc)) from (sm_nltN rfl rfl (show jxc ≤ 3 by omega) (show 3 < 2 ^ 31 by omega)))).deep (by decide)) ?_
                              exact mz_ret rfl
                            refine mz_goP 4 (c' := (25, [some (.ref 65), some (.int (nI jxa)), some (.int (nI jxb)), some (.int (nI jxc)), some (.int (nI jxd)), some (.int (nI jxe)), none], [.int (nI jxa), .ref 75], mz_up w 64 1 ((w 64 1) + 1))) rfl ?_
                            refine mz_arrP (c' := (26, [some (.ref 65), some (.int (nI jxa)), some (.int (nI jxb)), some (.int (nI jxc)), some (.int (nI jxd)), some (.int (nI jxe)), none], [.int (w 75 ((nI jxa).toNatClampNeg))], mz_up w 64 1 ((w 64 1) + 1))) rfl (show mz_in (nI jxa) 4 = true from sm_inN rfl (show jxa < 4 by omega) (by decide)) ?_
                            rw [show (nI jxa : Int32).toNatClampNeg = jxa from sm_clN rfl (show jxa < 2 ^ 31 by omega)]
                            rw [show w 75 jxa = w 61 jxa from (hsh jxa (by omega)).2.2.1]
                            refine mz_goP 1 (c' := (if (w 61 jxa) = 0 then 38 else 29, [some (.ref 65), some (.int (nI jxa)), some (.int (nI jxb)), some (.int (nI jxc)), some (.int (nI jxd)), some (.int (nI jxe)), none], [], mz_up w 64 1 ((w 64 1) + 1))) rfl ?_
                            refine mz_ifFP q5 ?_
                            refine mz_goP 3 (c' := (34, [some (.ref 65), some (.int (nI jxa)), some (.int (nI jxb)), some (.int (nI jxc)), some (.int (nI jxd)), some (.int (nI jxe)), none], [.int (nI jxc), .ref 75], mz_up w 64 1 ((w 64 1) + 1))) rfl ?_
                            refine mz_arrP (c' := (35, [some (.ref 65), some (.int (nI jxa)), some (.int (nI jxb)), some (.int (nI jxc)), some (.int (nI jxd)), some (.int (nI jxe)), none], [.int (w 75 ((nI jxc).toNatClampNeg))], mz_up w 64 1 ((w 64 1) + 1))) rfl (show mz_in (nI jxc) 4 = true from sm_inN rfl (show jxc < 4 by omega) (by decide)) ?_
                            rw [show (nI jxc : Int32).toNatClampNeg = jxc from sm_clN rfl (show jxc < 2 ^ 31 by omega)]
                            rw [show w 75 jxc = w 61 jxc from (hsh jxc (by omega)).2.2.1]
                            refine mz_goP 1 (c' := (if (w 61 jxc) = 0 then 38 else 44, [some (.ref 65), some (.int (nI jxa)), some (.int (nI jxb)), some (.int (nI jxc)), some (.int (nI jxd)), some (.int (nI jxe)), none], [], mz_up w 64 1 ((w 64 1) + 1))) rfl ?_
                            refine mz_ifFP q6 ?_
                            refine mz_goP 3 (c' := (49, [some (.ref 65), some (.int (nI jxa)), some (.int (nI jxb)), some (.int (nI jxc)), some (.int (nI jxd)), some (.int (nI jxe)), none], [.int (nI jxa), .ref 75], mz_up w 64 1 ((w 64 1) + 1))) rfl ?_
                            refine mz_arrP (c' := (50, [some (.ref 65), some (.int (nI jxa)), some (.int (nI jxb)), some (.int (nI jxc)), some (.int (nI jxd)), some (.int (nI jxe)), none], [.int (w 75 ((nI jxa).toNatClampNeg))], mz_up w 64 1 ((w 64 1) + 1))) rfl (show mz_in (nI jxa) 4 = true from sm_inN rfl (show jxa < 4 by omega) (by decide)) ?_
                            rw [show (nI jxa : Int32).toNatClampNeg = jxa from sm_clN rfl (show jxa < 2 ^ 31 by omega)]
                            rw [show w 75 jxa = w 61 jxa from (hsh jxa (by omega)).2.2.1]
                            refine mz_goP 3 (c' := (55, [some (.ref 65), some (.int (nI jxa)), some (.int (nI jxb)), some (.int (nI jxc)), some (.int (nI jxd)), some (.int (nI jxe)), none], [.int (nI jxc), .ref 75, .int (w 61 jxa)], mz_up w 64 1 ((w 64 1) + 1))) rfl ?_
                            refine mz_arrP (c' := (56, [some (.ref 65), some (.int (nI jxa)), some (.int (nI jxb)), some (.int (nI jxc)), some (.int (nI jxd)), some (.int (nI jxe)), none], [.int (w 75 ((nI jxc).toNatClampNeg)), .int (w 61 jxa)], mz_up w 64 1 ((w 64 1) + 1))) rfl (show mz_in (nI jxc) 4 = true from sm_inN rfl (show jxc < 4 by omega) (by decide)) ?_
                            rw [show (nI jxc : Int32).toNatClampNeg = jxc from sm_clN rfl (show jxc < 2 ^ 31 by omega)]
                            rw [show w 75 jxc = w 61 jxc from (hsh jxc (by omega)).2.2.1]
                            refine mz_goP 1 (c' := (if (w 61 jxa) = (w 61 jxc) then 65 else 59, [some (.ref 65), some (.int (nI jxa)), some (.int (nI jxb)), some (.int (nI jxc)), some (.int (nI jxd)), some (.int (nI jxe)), none], [], mz_up w 64 1 ((w 64 1) + 1))) rfl ?_
                            refine mz_ifTP q7 ?_
                            refine mz_goP 2 (c' := (if (nI jxe) < 0 then 106 else 70, [some (.ref 65), some (.int (nI jxa)), some (.int (nI jxb)), some (.int (nI jxc)), some (.int (nI jxd)), some (.int (nI jxe)), none], [], mz_up w 64 1 ((w 64 1) + 1))) rfl ?_
                            refine mz_ifFP q8 ?_
                            refine mz_goP 2 (c' := (if (nI jxb) < 0 then 106 else 74, [some (.ref 65), some (.int (nI jxa)), some (.int (nI jxb)), some (.int (nI jxc)), some (.int (nI jxd)), some (.int (nI jxe)), none], [], mz_up w 64 1 ((w 64 1) + 1))) rfl ?_
                            refine mz_ifFP q9 ?_
                            refine mz_goP 2 (c' := (if (nI jxd) < 0 then 106 else 79, [some (.ref 65), some (.int (nI jxa)), some (.int (nI jxb)), some (.int (nI jxc)), some (.int (nI jxd)), some (.int (nI jxe)), none], [], mz_up w 64 1 ((w 64 1) + 1))) rfl ?_
                            refine mz_ifFP q15 ?_
                            refine mz_goP 4 (c' := (85, [some (.ref 65), some (.int (nI jxa)), some (.int (nI jxb)), some (.int (nI jxc)), some (.int (nI jxd)), some (.int (nI jxe)), none], [.int (nI jxa), .ref 76, .int (nI jxb)], mz_up w 64 1 ((w 64 1) + 1))) rfl ?_
                            refine mz_arrP (c' := (86, [some (.ref 65), some (.int (nI jxa)), some (.int (nI jxb)), some (.int (nI jxc)), some (.int (nI jxd)), some (.int (nI jxe)), none], [.int (w 76 ((nI jxa).toNatClampNeg)), .int (nI jxb)], mz_up w 64 1 ((w 64 1) + 1))) rfl (show mz_in (nI jxa) 4 = true from sm_inN rfl (show jxa < 4 by omega) (by decide)) ?_
                            rw [show (nI jxa : Int32).toNatClampNeg = jxa from sm_clN rfl (show jxa < 2 ^ 31 by omega)]
                            rw [show w 76 jxa = w 62 jxa from (hsh jxa (by omega)).2.2.2]
                            rw [ezz10]
                            refine mz_goP 3 (c' := (if ((nI zz10) - (nI jxe)) < (nI jxb) then 106 else 92, [some (.ref 65), some (.int (nI jxa)), some (.int (nI jxb)), some (.int (nI jxc)), some (.int (nI jxd)), some (.int (nI jxe)), none], [], mz_up w 64 1 ((w 64 1) + 1))) rfl ?_
                            refine mz_ifFP (show ¬ (((nI zz10) - (nI jxe)) < (nI jxb)) from (sm_nltN (sm_subN (a := zz10) (b := jxe) rfl rfl (by omega)) rfl (show jxb ≤ (zz10 - jxe) by omega) (show (zz10 - jxe) < 2 ^ 31 by omega))) ?_
                            refine mz_goP 4 (c' := (99, [some (.ref 65), some (.int (nI jxa)), some (.int (nI jxb)), some (.int (nI jxc)), some (.int (nI jxd)), some (.int (nI jxe)), none], [.int (nI jxc), .ref 76, .int (nI jxd)], mz_up w 64 1 ((w 64 1) + 1))) rfl ?_
                            refine mz_arrP (c' := (100, [some (.ref 65), some (.int (nI jxa)), some (.int (nI jxb)), some (.int (nI jxc)), some (.int (nI jxd)), some (.int (nI jxe)), none], [.int (w 76 ((nI jxc).toNatClampNeg)), .int (nI jxd)], mz_up w 64 1 ((w 64 1) + 1))) rfl (show mz_in (nI jxc) 4 = true from sm_inN rfl (show jxc < 4 by omega) (by decide)) ?_
                            rw [show (nI jxc : Int32).toNatClampNeg = jxc from sm_clN rfl (show jxc < 2 ^ 31 by omega)]
                            rw [show w 76 jxc = w 62 jxc from (hsh jxc (by omega)).2.2.2]
                            rw [ezz16]
                            refine mz_goP 3 (c' := (if (nI jxd) ≤ ((nI zz16) - (nI jxe)) then 112 else 106, [some (.ref 65), some (.int (nI jxa)), some (.int (nI jxb)), some (.int (nI jxc)), some (.int (nI jxd)), some (.int (nI jxe)), none], [], mz_up w 64 1 ((w 64 1) + 1))) rfl ?_
                            refine mz_ifFP (Int32.not_le.mpr (sm_sublt rfl rfl rfl (show zz16 < jxe by omega) (by omega) (by omega))) ?_
                            refine mz_goP 2 (c' := (108, [some (.ref 65), some (.int (nI jxa)), some (.int (nI jxb)), some (.int (nI jxc)), some (.int (nI jxd)), some (.int (nI jxe)), none], [.int 1, .ref 65], mz_up w 64 1 ((w 64 1) + 1))) rfl ?_
                            refine mz_doPQ (R := mz_r127) (as := [.ref 65, .int 1]) (rest := []) (r1 := some (.int (-1000001))) (m1 := mz_up (mz_up w 64 1 ((w 64 1) + 1)) 68 1 ((w 68 1) + 1)) mz_t127 mz_v127_65 rfl rfl rfl rfl rfl ((ct_err1 (m := mz_up w 64 1 ((w 64 1) + 1))).deep (by decide)) ?_
                            refine mz_retP (r := (some (.int ((-1000001))), mz_up (mz_up w 64 1 ((w 64 1) + 1)) 68 1 ((w 68 1) + 1))) rfl ⟨(-1000001), rfl, ?_, rfl⟩
                            show sm_I (n + 1) (mz_up (mz_up w 64 1 ((w 64 1) + 1)) 68 1 ((w 68 1) + 1))
                            exact sm_I_scr hn hI2 (fun i hi => by
                              have hne : ∀ r, sm_scr r = true → i ≠ r := fun r hr e => by
                                rw [e, hr] at hi
                                cases hi
                              simp only [mz_up_ne (hne 64 rfl), mz_up_ne (hne 68 rfl)]) rfl rfl
                          · by_cases q18 : (zz16 - jxe) < jxd
                            · refine mz_doPQ (R := mz_r48) (as := [.ref 60, .int (nI jxc), .int (nI jxd), .int (nI jxe)]) (rest := []) (r1 := some (.int 0)) (m1 := w) mz_t48 mz_v48_60 rfl rfl rfl rfl rfl ⟨?_, rfl⟩ ?_
                              · refine mz_go 2 (c' := (2, [some (.ref 60), some (.int (nI jxc)), some (.int (nI jxd)), some (.int (nI jxe))], [.int (nI jxc), .ref 60], w)) rfl ?_
                                refine mz_doQ (R := mz_r45) (as := [.ref 60, .int (nI jxc)]) (rest := []) (r1 := some (.int 1)) (m1 := w) mz_t45 mz_v45_60 rfl rfl rfl rfl rfl ⟨?_, rfl⟩ ?_
                                · refine mz_go 2 (c' := (if (nI jxc) < 0 then 13 else 4, [some (.ref 60), some (.int (nI jxc))], [], w)) rfl ?_
                                  refine mz_ifF q3 ?_
                                  refine mz_go 3 (c' := (if 4 ≤ (nI jxc) then 13 else 9, [some (.ref 60), some (.int (nI jxc))], [], w)) rfl ?_
                                  refine mz_ifF q4 ?_
                                  refine mz_go 2 (c' := (14, [some (.ref 60), some (.int (nI jxc))], [.int 1], w)) rfl ?_
                                  exact mz_ret rfl
                                refine mz_go 3 (c' := (if (nI jxe) < 0 then 42 else 12, [some (.ref 60), some (.int (nI jxc)), some (.int (nI jxd)), some (.int (nI jxe))], [], w)) rfl ?_
                                refine mz_ifF q8 ?_
                                refine mz_go 2 (c' := (if (nI jxd) < 0 then 42 else 16, [some (.ref 60), some (.int (nI jxc)), some (.int (nI jxd)), some (.int (nI jxe))], [], w)) rfl ?_
                                refine mz_ifF q15 ?_
                                refine mz_go 4 (c' := (22, [some (.ref 60), some (.int (nI jxc)), some (.int (nI jxd)), some (.int (nI jxe))], [.int (nI jxc), .ref 62, .int (nI jxe)], w)) rfl ?_
                                refine mz_arr (c' := (23, [some (.ref 60), some (.int (nI jxc)), some (.int (nI jxd)), some (.int (nI jxe))], [.int (w 62 ((nI jxc).toNatClampNeg)), .int (nI jxe)], w)) rfl (show mz_in (nI jxc) 4 = true from sm_inN rfl (show jxc < 4 by omega) (by decide)) ?_
                                rw [show (nI jxc : Int32).toNatClampNeg = jxc from sm_clN rfl (show jxc < 2 ^ 31 by omega)]
                                rw [ezz16]
                                refine mz_go 1 (c' := (if (nI zz16) < (nI jxe) then 42 else 26, [some (.ref 60), some (.int (nI jxc)), some (.int (nI jxd)), some (.int (nI jxe))], [], w)) rfl ?_
                                refine mz_ifF (show ¬ ((nI zz16) < (nI jxe)) from (sm_nltN rfl rfl (show jxe ≤ zz16 by omega) (show zz16 < 2 ^ 31 by omega))) ?_
                                refine mz_go 4 (c' := (32, [some (.ref 60), some (.int (nI jxc)), some (.int (nI jxd)), some (.int (nI jxe))], [.int (nI jxc), .ref 62, .int (nI jxd)], w)) rfl ?_
                                refine mz_arr (c' := (33, [some (.ref 60), some (.int (nI jxc)), some (.int (nI jxd)), some (.int (nI jxe))], [.int (w 62 ((nI jxc).toNatClampNeg)), .int (nI jxd)], w)) rfl (show mz_in (nI jxc) 4 = true from sm_inN rfl (show jxc < 4 by omega) (by decide)) ?_
                                rw [show (nI jxc : Int32).toNatClampNeg = jxc from sm_clN rfl (show jxc < 2 ^ 31 by omega)]
                                rw [ezz16]
                                refine mz_go 3 (c' := (if ((nI zz16) - (nI jxe)) < (nI jxd) then 42 else 38, [some (.ref 60), some (.int (nI jxc)), some (.int (nI jxd)), some (.int (nI jxe))], [], w)) rfl ?_
                                refine mz_ifT (show (((nI zz16) - (nI jxe)) < (nI jxd)) from (sm_ltN (sm_subN (a := zz16) (b := jxe) rfl rfl (by omega)) rfl (show (zz16 - jxe) < jxd by omega) (show jxd < 2 ^ 31 by omega))) ?_
                                refine mz_go 1 (c' := (43, [some (.ref 60), some (.int (nI jxc)), some (.int (nI jxd)), some (.int (nI jxe))], [.int 0], w)) rfl ?_
                                exact mz_ret rfl
                              refine mz_goP 3 (c' := (114, [some (.ref 0), some (.int (nI jxa)), some (.int (nI jxb)), some (.int (nI jxc)), some (.int (nI jxd)), some (.int (nI jxe))], [.int 1, .ref 0], w)) rfl ?_
                              refine mz_doPQ (R := mz_r109) (as := [.ref 0, .int 1]) (rest := []) (r1 := some (.int (-1000001))) (m1 := mz_up w 64 1 ((w 64 1) + 1)) mz_t109 mz_v109_0 rfl rfl rfl rfl rfl ((cs_err1 (m := w)).deep (by decide)) ?_
                              refine mz_retP (r := (some (.int ((-1000001))), mz_up w 64 1 ((w 64 1) + 1))) rfl ⟨(-1000001), rfl, ?_⟩
                              refine mz_goP 1 (c' := (1, [some (.ref 65), some (.int (nI jxa)), some (.int (nI jxb)), some (.int (nI jxc)), some (.int (nI jxd)), some (.int (nI jxe)), none], [.int (nI jxa)], mz_up w 64 1 ((w 64 1) + 1))) rfl ?_
                              refine mz_doPQ (R := mz_r219) (as := [.int (nI jxa)]) (rest := []) (r1 := some (.int 1)) (m1 := mz_up w 64 1 ((w 64 1) + 1)) mz_t219 mz_v219 rfl rfl rfl rfl rfl ⟨?_, rfl⟩ ?_
                              · refine mz_go 3 (c' := (3, [some (.int (nI jxa))], [.int 3, .int 0, .int (nI jxa)], mz_up w 64 1 ((w 64 1) + 1))) rfl ?_
                                refine mz_doQ (R := mz_r128) (as := [.int (nI jxa), .int 0, .int 3]) (rest := []) (r1 := some (.int 1)) (m1 := mz_up w 64 1 ((w 64 1) + 1)) mz_t128 mz_v128 rfl rfl rfl rfl rfl ((ct_in1 (m := mz_up w 64 1 ((w 64 1) + 1)) (v := nI jxa) (a := 0) (b := 3) q1 (show ¬ (3 < (nI jxa)) from (sm_nltN rfl rfl (show jxa ≤ 3 by omega) (show 3 < 2 ^ 31 by omega)))).deep (by decide)) ?_
                                exact mz_ret rfl
                              refine mz_goP 2 (c' := (8, [some (.ref 65), some (.int (nI jxa)), some (.int (nI jxb)), some (.int (nI jxc)), some (.int (nI jxd)), some (.int (nI jxe)), none], [.int (nI jxc)], mz_up w 64 1 ((w 64 1) + 1))) rfl ?_
                              refine mz_doPQ (R := mz_r219) (as := [.int (nI jxc)]) (rest := []) (r1 := some (.int 1)) (m1 := mz_up w 64 1 ((w 64 1) + 1)) mz_t219 mz_v219 rfl rfl rfl rfl rfl ⟨?_, rfl⟩ ?_
                              · refine mz_go 3 (c' := (3, [some (.int (nI jxc))], [.int 3, .int 0, .int (nI jxc)], mz_up w 64 1 ((w 64 1) + 1))) rfl ?_
                                refine mz_doQ (R := mz_r128) (as := [.int (nI jxc), .int 0, .int 3]) (rest := []) (r1 := some (.int 1)) (m1 := mz_up w 64 1 ((w 64 1) + 1)) mz_t128 mz_v128 rfl rfl rfl rfl rfl ((ct_in1 (m := mz_up w 64 1 ((w 64 1) + 1)) (v := nI jxc) (a := 0) (b := 3) q3 (show ¬ (3 < (nI jxc)) from (sm_nltN rfl rfl (show jxc ≤ 3 by omega) (show 3 < 2 ^ 31 by omega)))).deep (by decide)) ?_
                                exact mz_ret rfl
                              refine mz_goP 4 (c' := (25, [some (.ref 65), some (.int (nI jxa)), some (.int (nI jxb)), some (.int (nI jxc)), some (.int (nI jxd)), some (.int (nI jxe)), none], [.int (nI jxa), .ref 75], mz_up w 64 1 ((w 64 1) + 1))) rfl ?_
                              refine mz_arrP (c' := (26, [some (.ref 65), some (.int (nI jxa)), some (.int (nI jxb)), some (.int (nI jxc)), some (.int (nI jxd)), some (.int (nI jxe)), none], [.int (w 75 ((nI jxa).toNatClampNeg))], mz_up w 64 1 ((w 64 1) + 1))) rfl (show mz_in (nI jxa) 4 = true from sm_inN rfl (show jxa < 4 by omega) (by decide)) ?_
                              rw [show (nI jxa : Int32).toNatClampNeg = jxa from sm_clN rfl (show jxa < 2 ^ 31 by omega)]
                              rw [show w 75 jxa = w 61 jxa from (hsh jxa (by omega)).2.2.1]
                              refine mz_goP 1 (c' := (if (w 61 jxa) = 0 then 38 else 29, [some (.ref 65), some (.int (nI jxa)), some (.int (nI jxb)), some (.int (nI jxc)), some (.int (nI jxd)), some (.int (nI jxe)), none], [], mz_up w 64 1 ((w 64 1) + 1))) rfl ?_
                              refine mz_ifFP q5 ?_
                              refine mz_goP 3 (c' := (34, [some (.ref 65), some (.int (nI jxa)), some (.int (nI jxb)), some (.int (nI jxc)), some (.int (nI jxd)), some (.int (nI jxe)), none], [.int (nI jxc), .ref 75], mz_up w 64 1 ((w 64 1) + 1))) rfl ?_
                              refine mz_arrP (c' := (35, [some (.ref 65), some (.int (nI jxa)), some (.int (nI jxb)), some (.int (nI jxc)), some (.int (nI jxd)), some (.int (nI jxe)), none], [.int (w 75 ((nI jxc).toNatClampNeg))], mz_up w 64 1 ((w 64 1) + 1))) rfl (show mz_in (nI jxc) 4 = true from sm_inN rfl (show jxc < 4 by omega) (by decide)) ?_
                              rw [show (nI jxc : Int32).toNatClampNeg = jxc from sm_clN rfl (show jxc < 2 ^ 31 by omega)]
                              rw [show w 75 jxc = w 61 jxc from (hsh jxc (by omega)).2.2.1]
                              refine mz_goP 1 (c' := (if (w 61 jxc) = 0 then 38 else 44, [some (.ref 65), some (.int (nI jxa)), some (.int (nI jxb)), some (.int (nI jxc)), some (.int (nI jxd)), some (.int (nI jxe)), none], [], mz_up w 64 1 ((w 64 1) + 1))) rfl ?_
                              refine mz_ifFP q6 ?_
                              refine mz_goP 3 (c' := (49, [some (.ref 65), some (.int (nI jxa)), some (.int (nI jxb)), some (.int (nI jxc)), some (.int (nI jxd)), some (.int (nI jxe)), none], [.int (nI jxa), .ref 75], mz_up w 64 1 ((w 64 1) + 1))) rfl ?_
                              refine mz_arrP (c' := (50, [some (.ref 65), some (.int (nI jxa)), some (.int (nI jxb)), some (.int (nI jxc)), some (.int (nI jxd)), some (.int (nI jxe)), none], [.int (w 75 ((nI jxa).toNatClampNeg))], mz_up w 64 1 ((w 64 1) + 1))) rfl (show mz_in (nI jxa) 4 = true from sm_inN rfl (show jxa < 4 by omega) (by decide)) ?_
                              rw [show (nI jxa : Int32).toNatClampNeg = jxa from sm_clN rfl (show jxa < 2 ^ 31 by omega)]
                              rw [show w 75 jxa = w 61 jxa from (hsh jxa (by omega)).2.2.1]
                              refine mz_goP 3 (c' := (55, [some (.ref 65), some (.int (nI jxa)), some (.int (nI jxb)), some (.int (nI jxc)), some (.int (nI jxd)), some (.int (nI jxe)), none], [.int (nI jxc), .ref 75, .int (w 61 jxa)], mz_up w 64 1 ((w 64 1) + 1))) rfl ?_
                              refine mz_arrP (c' := (56, [some (.ref 65), some (.int (nI jxa)), some (.int (nI jxb)), some (.int (nI jxc)), some (.int (nI jxd)), some (.int (nI jxe)), none], [.int (w 75 ((nI jxc).toNatClampNeg)), .int (w 61 jxa)], mz_up w 64 1 ((w 64 1) + 1))) rfl (show mz_in (nI jxc) 4 = true from sm_inN rfl (show jxc < 4 by omega) (by decide)) ?_
                              rw [show (nI jxc : Int32).toNatClampNeg = jxc from sm_clN rfl (show jxc < 2 ^ 31 by omega)]
                              rw [show w 75 jxc = w 61 jxc from (hsh jxc (by omega)).2.2.1]
                              refine mz_goP 1 (c' := (if (w 61 jxa) = (w 61 jxc) then 65 else 59, [some (.ref 65), some (.int (nI jxa)), some (.int (nI jxb)), some (.int (nI jxc)), some (.int (nI jxd)), some (.int (nI jxe)), none], [], mz_up w 64 1 ((w 64 1) + 1))) rfl ?_
                              refine mz_ifTP q7 ?_
                              refine mz_goP 2 (c' := (if (nI jxe) < 0 then 106 else 70, [some (.ref 65), some (.int (nI jxa)), some (.int (nI jxb)), some (.int (nI jxc)), some (.int (nI jxd)), some (.int (nI jxe)), none], [], mz_up w 64 1 ((w 64 1) + 1))) rfl ?_
                              refine mz_ifFP q8 ?_
                              refine mz_goP 2 (c' := (if (nI jxb) < 0 then 106 else 74, [some (.ref 65), some (.int (nI jxa)), some (.int (nI jxb)), some (.int (nI jxc)), some (.int (nI jxd)), some (.int (nI jxe)), none], [], mz_up w 64 1 ((w 64 1) + 1))) rfl ?_
                              refine mz_ifFP q9 ?_
                              refine mz_goP 2 (c' := (if (nI jxd) < 0 then 106 else 79, [some (.ref 65), some (.int (nI jxa)), some (.int (nI jxb)), some (.int (nI jxc)), some (.int (nI jxd)), some (.int (nI jxe)), none], [], mz_up w 64 1 ((w 64 1) + 1))) rfl ?_
                              refine mz_ifFP q15 ?_
                              refine mz_goP 4 (c' := (85, [some (.ref 65), some (.int (nI jxa)), some (.int (nI jxb)), some (.int (nI jxc)), some (.int (nI jxd)), some (.int (nI jxe)), none], [.int (nI jxa), .ref 76, .int (nI jxb)], mz_up w 64 1 ((w 64 1) + 1))) rfl ?_
                              refine mz_arrP (c' := (86, [some (.ref 65), some (.int (nI jxa)), some (.int (nI jxb)), some (.int (nI jxc)), some (.int (nI jxd)), some (.int (nI jxe)), none], [.int (w 76 ((nI jxa).toNatClampNeg)), .int (nI jxb)], mz_up w 64 1 ((w 64 1) + 1))) rfl (show mz_in (nI jxa) 4 = true from sm_inN rfl (show jxa < 4 by omega) (by decide)) ?_
                              rw [show (nI jxa : Int32).toNatClampNeg = jxa from sm_clN rfl (show jxa < 2 ^ 31 by omega)]
                              rw [show w 76 jxa = w 62 jxa from (hsh jxa (by omega)).2.2.2]
                              rw [ezz10]
                              refine mz_goP 3 (c' := (if ((nI zz10) - (nI jxe)) < (nI jxb) then 106 else 92, [some (.ref 65), some (.int (nI jxa)), some (.int (nI jxb)), some (.int (nI jxc)), some (.int (nI jxd)), some (.int (nI jxe)), none], [], mz_up w 64 1 ((w 64 1) + 1))) rfl ?_
                              refine mz_ifFP (show ¬ (((nI zz10) - (nI jxe)) < (nI jxb)) from (sm_nltN (sm_subN (a := zz10) (b := jxe) rfl rfl (by omega)) rfl (show jxb ≤ (zz10 - jxe) by omega) (show (zz10 - jxe) < 2 ^ 31 by omega))) ?_
                              refine mz_goP 4 (c' := (99, [some (.ref 65), some (.int (nI jxa)), some (.int (nI jxb)), some (.int (nI jxc)), some (.int (nI jxd)), some (.int (nI jxe)), none], [.int (nI jxc), .ref 76, .int (nI jxd)], mz_up w 64 1 ((w 64 1) + 1))) rfl ?_
                              refine mz_arrP (c' := (100, [some (.ref 65), some (.int (nI jxa)), some (.int (nI jxb)), some (.int (nI jxc)), some (.int (nI jxd)), some (.int (nI jxe)), none], [.int (w 76 ((nI jxc).toNatClampNeg)), .int (nI jxd)], mz_up w 64 1 ((w 64 1) + 1))) rfl (show mz_in (nI jxc) 4 = true from sm_inN rfl (show jxc < 4 by omega) (by decide)) ?_
                              rw [show (nI jxc : Int32).toNatClampNeg = jxc from sm_clN rfl (show jxc < 2 ^ 31 by omega)]
                              rw [show w 76 jxc = w 62 jxc from (hsh jxc (by omega)).2.2.2]
                              rw [ezz16]
                              refine mz_goP 3 (c' := (if (nI jxd) ≤ ((nI zz16) - (nI jxe)) then 112 else 106, [some (.ref 65), some (.int (nI jxa)), some (.int (nI jxb)), some (.int (nI jxc)), some (.int (nI jxd)), some (.int (nI jxe)), none], [], mz_up w 64 1 ((w 64 1) + 1))) rfl ?_
                              refine mz_ifFP (show ¬ ((nI jxd) ≤ ((nI zz16) - (nI jxe))) from (sm_nleN rfl (sm_subN (a := zz16) (b := jxe) rfl rfl (by omega)) (show (zz16 - jxe) < jxd by omega) (show jxd < 2 ^ 31 by omega))) ?_
                              refine mz_goP 2 (c' := (108, [some (.ref 65), some (.int (nI jxa)), some (.int (nI jxb)), some (.int (nI jxc)), some (.int (nI jxd)), some (.int (nI jxe)), none], [.int 1, .ref 65], mz_up w 64 1 ((w 64 1) + 1))) rfl ?_
                              refine mz_doPQ (R := mz_r127) (as := [.ref 65, .int 1]) (rest := []) (r1 := some (.int (-1000001))) (m1 := mz_up (mz_up w 64 1 ((w 64 1) + 1)) 68 1 ((w 68 1) + 1)) mz_t127 mz_v127_65 rfl rfl rfl rfl rfl ((ct_err1 (m := mz_up w 64 1 ((w 64 1) + 1))).deep (by decide)) ?_
                              refine mz_retP (r := (some (.int ((-1000001))), mz_up (mz_up w 64 1 ((w 64 1) + 1)) 68 1 ((w 68 1) + 1))) rfl ⟨(-1000001), rfl, ?_, rfl⟩
                              show sm_I (n + 1) (mz_up (mz_up w 64 1 ((w 64 1) + 1)) 68 1 ((w 68 1) + 1))
                              exact sm_I_scr hn hI2 (fun i hi => by
                                have hne : ∀ r, sm_scr r = true → i ≠ r := fun r hr e => by
                                  rw [e, hr] at hi
                                  cases hi
                                simp only [mz_up_ne (hne 64 rfl), mz_up_ne (hne 68 rfl)]) rfl rfl
                            · refine mz_doPQ (R := mz_r48) (as := [.ref 60, .int (nI jxc), .int (nI jxd), .int (nI jxe)]) (rest := []) (r1 := some (.int 1)) (m1 := w) mz_t48 mz_v48_60 rfl rfl rfl rfl rfl ⟨?_, rfl⟩ ?_
                              · refine mz_go 2 (c' := (2, [some (.ref 60), some (.int (nI jxc)), some (.int (nI jxd)), some (.int (nI jxe))], [.int (nI jxc), .ref 60], w)) rfl ?_
                                refine mz_doQ (R := mz_r45) (as := [.ref 60, .int (nI jxc)]) (rest := []) (r1 := some (.int 1)) (m1 := w) mz_t45 mz_v45_60 rfl rfl rfl rfl rfl ⟨?_, rfl⟩ ?_
                                · refine mz_go 2 (c' := (if (nI jxc) < 0 then 13 else 4, [some (.ref 60), some (.int (nI jxc))], [], w)) rfl ?_
                                  refine mz_ifF q3 ?_
                                  refine mz_go 3 (c' := (if 4 ≤ (nI jxc) then 13 else 9, [some (.ref 60), some (.int (nI jxc))], [], w)) rfl ?_
                                  refine mz_ifF q4 ?_
                                  refine mz_go 2 (c' := (14, [some (.ref 60), some (.int (nI jxc))], [.int 1], w)) rfl ?_
                                  exact mz_ret rfl
                                refine mz_go 3 (c' := (if (nI jxe) < 0 then 42 else 12, [some (.ref 60), some (.int (nI jxc)), some (.int (nI jxd)), some (.int (nI jxe))], [], w)) rfl ?_
                                refine mz_ifF q8 ?_
                                refine mz_go 2 (c' := (if (nI jxd) < 0 then 42 else 16, [some (.ref 60), some (.int (nI jxc)), some (.int (nI jxd)), some (.int (nI jxe))], [], w)) rfl ?_
                                refine mz_ifF q15 ?_
                                refine mz_go 4 (c' := (22, [some (.ref 60), some (.int (nI jxc)), some (.int (nI jxd)), some (.int (nI jxe))], [.int (nI jxc), .ref 62, .int (nI jxe)], w)) rfl ?_
                                refine mz_arr (c' := (23, [some (.ref 60), some (.int (nI jxc)), some (.int (nI jxd)), some (.int (nI jxe))], [.int (w 62 ((nI jxc).toNatClampNeg)), .int (nI jxe)], w)) rfl (show mz_in (nI jxc) 4 = true from sm_inN rfl (show jxc < 4 by omega) (by decide)) ?_
                                rw [show (nI jxc : Int32).toNatClampNeg = jxc from sm_clN rfl (show jxc < 2 ^ 31 by omega)]
                                rw [ezz16]
                                refine mz_go 1 (c' := (if (nI zz16) < (nI jxe) then 42 else 26, [some (.ref 60), some (.int (nI jxc)), some (.int (nI jxd)), some (.int (nI jxe))], [], w)) rfl ?_
                                refine mz_ifF (show ¬ ((nI zz16) < (nI jxe)) from (sm_nltN rfl rfl (show jxe ≤ zz16 by omega) (show zz16 < 2 ^ 31 by omega))) ?_
                                refine mz_go 4 (c' := (32, [some (.ref 60), some (.int (nI jxc)), some (.int (nI jxd)), some (.int (nI jxe))], [.int (nI jxc), .ref 62, .int (nI jxd)], w)) rfl ?_
                                refine mz_arr (c' := (33, [some (.ref 60), some (.int (nI jxc)), some (.int (nI jxd)), some (.int (nI jxe))], [.int (w 62 ((nI jxc).toNatClampNeg)), .int (nI jxd)], w)) rfl (show mz_in (nI jxc) 4 = true from sm_inN rfl (show jxc < 4 by omega) (by decide)) ?_
                                rw [show (nI jxc : Int32).toNatClampNeg = jxc from sm_clN rfl (show jxc < 2 ^ 31 by omega)]
                                rw [ezz16]
                                refine mz_go 3 (c' := (if ((nI zz16) - (nI jxe)) < (nI jxd) then 42 else 38, [some (.ref 60), some (.int (nI jxc)), some (.int (nI jxd)), some (.int (nI jxe))], [], w)) rfl ?_
                                refine mz_ifF (show ¬ (((nI zz16) - (nI jxe)) < (nI jxd)) from (sm_nltN (sm_subN (a := zz16) (b := jxe) rfl rfl (by omega)) rfl (show jxd ≤ (zz16 - jxe) by omega) (show (zz16 - jxe) < 2 ^ 31 by omega))) ?_
                                refine mz_go 2 (c' := (43, [some (.ref 60), some (.int (nI jxc)), some (.int (nI jxd)), some (.int (nI jxe))], [.int 1], w)) rfl ?_
                                exact mz_ret rfl
                              refine mz_goP 8 (c' := (129, [some (.ref 0), some (.int (nI jxa)), some (.int (nI jxb)), some (.int (nI jxc)), some (.int (nI jxd)), some (.int (nI jxe))], [.int (nI jxe), .int (nI jxd), .int (nI jxc), .int (nI jxb), .int (nI jxa), .ref 60], w)) rfl ?_
                              have Ee1 := cs_carry (m := w) (S := jxa) (I := jxb) (O := jxc) (J := jxd) (k := jxe) (z := zz10) (y := zz16) (by omega) (by omega) ezz10 ezz16 (by omega) (by omega) (by omega) (by omega)
                              refine mz_doPQ (R := mz_r51) (as := [.ref 60, .int (nI jxa), .int (nI jxb), .int (nI jxc), .int (nI jxd), .int (nI jxe)]) (rest := []) (r1 := none) (m1 := mz_cp w 63 63 ((jxa * 24) + jxb) ((jxc * 24) + jxd) jxe) mz_t51 mz_v51_60 rfl rfl rfl rfl rfl (Ee1.deep (by decide)) ?_
                              refine mz_goP 1 (c' := (134, [some (.ref 0), some (.int (nI jxa)), some (.int (nI jxb)), some (.int (nI jxc)), some (.int (nI jxd)), some (.int (nI jxe))], [.int (nI jxe)], mz_cp w 63 63 ((jxa * 24) + jxb) ((jxc * 24) + jxd) jxe)) rfl ?_
                              refine mz_retP (r := (some (.int (nI jxe)), mz_cp w 63 63 ((jxa * 24) + jxb) ((jxc * 24) + jxd) jxe)) rfl ⟨nI jxe, rfl, ?_⟩
                              refine mz_goP 1 (c' := (1, [some (.ref 65), some (.int (nI jxa)), some (.int (nI jxb)), some (.int (nI jxc)), some (.int (nI jxd)), some (.int (nI jxe)), none], [.int (nI jxa)], mz_cp w 63 63 ((jxa * 24) + jxb) ((jxc * 24) + jxd) jxe)) rfl ?_
                              refine mz_doPQ (R := mz_r219) (as := [.int (nI jxa)]) (rest := []) (r1 := some (.int 1)) (m1 := mz_cp w 63 63 ((jxa * 24) + jxb) ((jxc * 24) + jxd) jxe) mz_t219 mz_v219 rfl rfl rfl rfl rfl ⟨?_, rfl⟩ ?_
                              · refine mz_go 3 (c' := (3, [some (.int (nI jxa))], [.int 3, .int 0, .int (nI jxa)], mz_cp w 63 63 ((jxa * 24) + jxb) ((jxc * 24) + jxd) jxe)) rfl ?_
                                refine mz_doQ (R := mz_r128) (as := [.int (nI jxa), .int 0, .int 3]) (rest := []) (r1 := some (.int 1)) (m1 := mz_cp w 63 63 ((jxa * 24) + jxb) ((jxc * 24) + jxd) jxe) mz_t128 mz_v128 rfl rfl rfl rfl rfl ((ct_in1 (m := mz_cp w 63 63 ((jxa * 24) + jxb) ((jxc * 24) + jxd) jxe) (v := nI jxa) (a := 0) (b := 3) q1 (show ¬ (3 < (nI jxa)) from (sm_nltN rfl rfl (show jxa ≤ 3 by omega) (show 3 < 2 ^ 31 by omega)))).deep (by decide)) ?_
                                exact mz_ret rfl
                              refine mz_goP 2 (c' := (8, [some (.ref 65), some (.int (nI jxa)), some (.int (nI jxb)), some (.int (nI jxc)), some (.int (nI jxd)), some (.int (nI jxe)), none], [.int (nI jxc)], mz_cp w 63 63 ((jxa * 24) + jxb) ((jxc * 24) + jxd) jxe)) rfl ?_
                              refine mz_doPQ (R := mz_r219) (as := [.int (nI jxc)]) (rest := []) (r1 := some (.int 1)) (m1 := mz_cp w 63 63 ((jxa * 24) + jxb) ((jxc * 24) + jxd) jxe) mz_t219 mz_v219 rfl rfl rfl rfl rfl ⟨?_, rfl⟩ ?_
                              · refine mz_go 3 (c' := (3, [some (.int (nI jxc))], [.int 3, .int 0, .int (nI jxc)], mz_cp w 63 63 ((jxa * 24) + jxb) ((jxc * 24) + jxd) jxe)) rfl ?_
                                refine mz_doQ (R := mz_r128) (as := [.int (nI jxc), .int 0, .int 3]) (rest := []) (r1 := some (.int 1)) (m1 := mz_cp w 63 63 ((jxa * 24) + jxb) ((jxc * 24) + jxd) jxe) mz_t128 mz_v128 rfl rfl rfl rfl rfl ((ct_in1 (m := mz_cp w 63 63 ((jxa * 24) + jxb) ((jxc * 24) + jxd) jxe) (v := nI jxc) (a := 0) (b := 3) q3 (show ¬ (3 < (nI jxc)) from (sm_nltN rfl rfl (show jxc ≤ 3 by omega) (show 3 < 2 ^ 31 by omega)))).deep (by decide)) ?_
                                exact mz_ret rfl
                              refine mz_goP 4 (c' := (25, [some (.ref 65), some (.int (nI jxa)), some (.int (nI jxb)), some (.int (nI jxc)), some (.int (nI jxd)), some (.int (nI jxe)), none], [.int (nI jxa), .ref 75], mz_cp w 63 63 ((jxa * 24) + jxb) ((jxc * 24) + jxd) jxe)) rfl ?_
                              refine mz_arrP (c' := (26, [some (.ref 65), some (.int (nI jxa)), some (.int (nI jxb)), some (.int (nI jxc)), some (.int (nI jxd)), some (.int (nI jxe)), none], [.int (w 75 ((nI jxa).toNatClampNeg))], mz_cp w 63 63 ((jxa * 24) + jxb) ((jxc * 24) + jxd) jxe)) rfl (show mz_in (nI jxa) 4 = true from sm_inN rfl (show jxa < 4 by omega) (by decide)) ?_
                              rw [show (nI jxa : Int32).toNatClampNeg = jxa from sm_clN rfl (show jxa < 2 ^ 31 by omega)]
                              rw [show w 75 jxa = w 61 jxa from (hsh jxa (by omega)).2.2.1]
                              refine mz_goP 1 (c' := (if (w 61 jxa) = 0 then 38 else 29, [some (.ref 65), some (.int (nI jxa)), some (.int (nI jxb)), some (.int (nI jxc)), some (.int (nI jxd)), some (.int (nI jxe)), none], [], mz_cp w 63 63 ((jxa * 24) + jxb) ((jxc * 24) + jxd) jxe)) rfl ?_
                              refine mz_ifFP q5 ?_
                              refine mz_goP 3 (c' := (34, [some (.ref 65), some (.int (nI jxa)), some (.int (nI jxb)), some (.int (nI jxc)), some (.int (nI jxd)), some (.int (nI jxe)), none], [.int (nI jxc), .ref 75], mz_cp w 63 63 ((jxa * 24) + jxb) ((jxc * 24) + jxd) jxe)) rfl ?_
                              refine mz_arrP (c' := (35, [some (.ref 65), some (.int (nI jxa)), some (.int (nI jxb)), some (.int (nI jxc)), some (.int (nI jxd)), some (.int (nI jxe)), none], [.int (w 75 ((nI jxc).toNatClampNeg))], mz_cp w 63 63 ((jxa * 24) + jxb) ((jxc * 24) + jxd) jxe)) rfl (show mz_in (nI jxc) 4 = true from sm_inN rfl (show jxc < 4 by omega) (by decide)) ?_
                              rw [show (nI jxc : Int32).toNatClampNeg = jxc from sm_clN rfl (show jxc < 2 ^ 31 by omega)]
                              rw [show w 75 jxc = w 61 jxc from (hsh jxc (by omega)).2.2.1]
                              refine mz_goP 1 (c' := (if (w 61 jxc) = 0 then 38 else 44, [some (.ref 65), some (.int (nI jxa)), some (.int (nI jxb)), some (.int (nI jxc)), some (.int (nI jxd)), some (.int (nI jxe)), none], [], mz_cp w 63 63 ((jxa * 24) + jxb) ((jxc * 24) + jxd) jxe)) rfl ?_
                              refine mz_ifFP q6 ?_
                              refine mz_goP 3 (c' := (49, [some (.ref 65), some (.int (nI jxa)), some (.int (nI jxb)), some (.int (nI jxc)), some (.int (nI jxd)), some (.int (nI jxe)), none], [.int (nI jxa), .ref 75], mz_cp w 63 63 ((jxa * 24) + jxb) ((jxc * 24) + jxd) jxe)) rfl ?_
                              refine mz_arrP (c' := (50, [some (.ref 65), some (.int (nI jxa)), some (.int (nI jxb)), some (.int (nI jxc)), some (.int (nI jxd)), some (.int (nI jxe)), none], [.int (w 75 ((nI jxa).toNatClampNeg))], mz_cp w 63 63 ((jxa * 24) + jxb) ((jxc * 24) + jxd) jxe)) rfl (show mz_in (nI jxa) 4 = true from sm_inN rfl (show jxa < 4 by omega) (by decide)) ?_
                              rw [show (nI jxa : Int32).toNatClampNeg = jxa from sm_clN rfl (show jxa < 2 ^ 31 by omega)]
                              rw [show w 75 jxa = w 61 jxa from (hsh jxa (by omega)).2.2.1]
                              refine mz_goP 3 (c' := (55, [some (.ref 65), some (.int (nI jxa)), some (.int (nI jxb)), some (.int (nI jxc)), some (.int (nI jxd)), some (.int (nI jxe)), none], [.int (nI jxc), .ref 75, .int (w 61 jxa)], mz_cp w 63 63 ((jxa * 24) + jxb) ((jxc * 24) + jxd) jxe)) rfl ?_
                              refine mz_arrP (c' := (56, [some (.ref 65), some (.int (nI jxa)), some (.int (nI jxb)), some (.int (nI jxc)), some (.int (nI jxd)), some (.int (nI jxe)), none], [.int (w 75 ((nI jxc).toNatClampNeg)), .int (w 61 jxa)], mz_cp w 63 63 ((jxa * 24) + jxb) ((jxc * 24) + jxd) jxe)) rfl (show mz_in (nI jxc) 4 = true from sm_inN rfl (show jxc < 4 by omega) (by decide)) ?_
                              rw [show (nI jxc : Int32).toNatClampNeg = jxc from sm_clN rfl (show jxc < 2 ^ 31 by omega)]
                              rw [show w 75 jxc = w 61 jxc from (hsh jxc (by omega)).2.2.1]
                              refine mz_goP 1 (c' := (if (w 61 jxa) = (w 61 jxc) then 65 else 59, [some (.ref 65), some (.int (nI jxa)), some (.int (nI jxb)), some (.int (nI jxc)), some (.int (nI jxd)), some (.int (nI jxe)), none], [], mz_cp w 63 63 ((jxa * 24) + jxb) ((jxc * 24) + jxd) jxe)) rfl ?_
                              refine mz_ifTP q7 ?_
                              refine mz_goP 2 (c' := (if (nI jxe) < 0 then 106 else 70, [some (.ref 65), some (.int (nI jxa)), some (.int (nI jxb)), some (.int (nI jxc)), some (.int (nI jxd)), some (.int (nI jxe)), none], [], mz_cp w 63 63 ((jxa * 24) + jxb) ((jxc * 24) + jxd) jxe)) rfl ?_
                              refine mz_ifFP q8 ?_
                              refine mz_goP 2 (c' := (if (nI jxb) < 0 then 106 else 74, [some (.ref 65), some (.int (nI jxa)), some (.int (nI jxb)), some (.int (nI jxc)), some (.int (nI jxd)), some (.int (nI jxe)), none], [], mz_cp w 63 63 ((jxa * 24) + jxb) ((jxc * 24) + jxd) jxe)) rfl ?_
                              refine mz_ifFP q9 ?_
                              refine mz_goP 2 (c' := (if (nI jxd) < 0 then 106 else 79, [some (.ref 65), some (.int (nI jxa)), some (.int (nI jxb)), some (.int (nI jxc)), some (.int (nI jxd)), some (.int (nI jxe)), none], [], mz_cp w 63 63 ((jxa * 24) + jxb) ((jxc * 24) + jxd) jxe)) rfl ?_
                              refine mz_ifFP q15 ?_
                              refine mz_goP 4 (c' := (85, [some (.ref 65), some (.int (nI jxa)), some (.int (nI jxb)), some (.int (nI jxc)), some (.int (nI jxd)), some (.int (nI jxe)), none], [.int (nI jxa), .ref 76, .int (nI jxb)], mz_cp w 63 63 ((jxa * 24) + jxb) ((jxc * 24) + jxd) jxe)) rfl ?_
                              refine mz_arrP (c' := (86, [some (.ref 65), some (.int (nI jxa)), some (.int (nI jxb)), some (.int (nI jxc)), some (.int (nI jxd)), some (.int (nI jxe)), none], [.int (w 76 ((nI jxa).toNatClampNeg)), .int (nI jxb)], mz_cp w 63 63 ((jxa * 24) + jxb) ((jxc * 24) + jxd) jxe)) rfl (show mz_in (nI jxa) 4 = true from sm_inN rfl (show jxa < 4 by omega) (by decide)) ?_
                              rw [show (nI jxa : Int32).toNatClampNeg = jxa from sm_clN rfl (show jxa < 2 ^ 31 by omega)]
                              rw [show w 76 jxa = w 62 jxa from (hsh jxa (by omega)).2.2.2]
                              rw [ezz10]
                              refine mz_goP 3 (c' := (if ((nI zz10) - (nI jxe)) < (nI jxb) then 106 else 92, [some (.ref 65), some (.int (nI jxa)), some (.int (nI jxb)), some (.int (nI jxc)), some (.int (nI jxd)), some (.int (nI jxe)), none], [], mz_cp w 63 63 ((jxa * 24) + jxb) ((jxc * 24) + jxd) jxe)) rfl ?_
                              refine mz_ifFP (show ¬ (((nI zz10) - (nI jxe)) < (nI jxb)) from (sm_nltN (sm_subN (a := zz10) (b := jxe) rfl rfl (by omega)) rfl (show jxb ≤ (zz10 - jxe) by omega) (show (zz10 - jxe) < 2 ^ 31 by omega))) ?_
                              refine mz_goP 4 (c' := (99, [some (.ref 65), some (.int (nI jxa)), some (.int (nI jxb)), some (.int (nI jxc)), some (.int (nI jxd)), some (.int (nI jxe)), none], [.int (nI jxc), .ref 76, .int (nI jxd)], mz_cp w 63 63 ((jxa * 24) + jxb) ((jxc * 24) + jxd) jxe)) rfl ?_
                              refine mz_arrP (c' := (100, [some (.ref 65), some (.int (nI jxa)), some (.int (nI jxb)), some (.int (nI jxc)), some (.int (nI jxd)), some (.int (nI jxe)), none], [.int (w 76 ((nI jxc).toNatClampNeg)), .int (nI jxd)], mz_cp w 63 63 ((jxa * 24) + jxb) ((jxc * 24) + jxd) jxe)) rfl (show mz_in (nI jxc) 4 = true from sm_inN rfl (show jxc < 4 by omega) (by decide)) ?_
                              rw [show (nI jxc : Int32).toNatClampNeg = jxc from sm_clN rfl (show jxc < 2 ^ 31 by omega)]
                              rw [show w 76 jxc = w 62 jxc from (hsh jxc (by omega)).2.2.2]
                              rw [ezz16]
                              refine mz_goP 3 (c' := (if (nI jxd) ≤ ((nI zz16) - (nI jxe)) then 112 else 106, [some (.ref 65), some (.int (nI jxa)), some (.int (nI jxb)), some (.int (nI jxc)), some (.int (nI jxd)), some (.int (nI jxe)), none], [], mz_cp w 63 63 ((jxa * 24) + jxb) ((jxc * 24) + jxd) jxe)) rfl ?_
                              refine mz_ifTP (show ((nI jxd) ≤ ((nI zz16) - (nI jxe))) from (sm_leN rfl (sm_subN (a := zz16) (b := jxe) rfl rfl (by omega)) (show jxd ≤ (zz16 - jxe) by omega) (show (zz16 - jxe) < 2 ^ 31 by omega))) ?_
                              refine mz_goP 2 (c' := (115, [some (.ref 65), some (.int (nI jxa)), some (.int (nI jxb)), some (.int (nI jxc)), some (.int (nI jxd)), some (.int (nI jxe)), some (.int 0)], [], mz_cp w 63 63 ((jxa * 24) + jxb) ((jxc * 24) + jxd) jxe)) rfl ?_
                              obtain ⟨gA, hgA, EA⟩ := ct_mv1 (m := mz_cp w 63 63 ((jxa * 24) + jxb) ((jxc * 24) + jxd) jxe) (S := jxa) (I := jxb) (O := jxc) (J := jxd) (n := jxe) (D := 99) (by omega) (by omega) (by omega) (by omega) jxe 0 (by omega) ((mz_cp w 63 63 ((jxa * 24) + jxb) ((jxc * 24) + jxd) jxe) 78) (fun i hi => absurd hi (Nat.not_lt_zero i))
                              rw [sm_id] at EA
                              refine mz_hkP EA ?_
                              refine mz_goP 2 (c' := (152, [some (.ref 65), some (.int (nI jxa)), some (.int (nI jxb)), some (.int (nI jxc)), some (.int (nI jxd)), some (.int (nI jxe)), some (.int 0)], [], mz_set (mz_cp w 63 63 ((jxa * 24) + jxb) ((jxc * 24) + jxd) jxe) 78 gA)) rfl ?_
                              obtain ⟨gB, hgB, EB⟩ := ct_mv2 (m := mz_set (mz_cp w 63 63 ((jxa * 24) + jxb) ((jxc * 24) + jxd) jxe) 78 gA) (S := jxa) (I := jxb) (O := jxc) (J := jxd) (n := jxe) (D := 99) (by omega) (by omega) (by omega) (by omega) jxe 0 (by omega) ((mz_set (mz_cp w 63 63 ((jxa * 24) + jxb) ((jxc * 24) + jxd) jxe) 78 gA) 77) (fun i => (if_neg (by omega)).symm)
                              rw [sm_id] at EB
                              refine mz_hkP EB ?_
                              refine mz_goP 1 (c' := (189, [some (.ref 65), some (.int (nI jxa)), some (.int (nI jxb)), some (.int (nI jxc)), some (.int (nI jxd)), some (.int (nI jxe)), some (.int (nI jxe))], [.int (nI jxe)], mz_set (mz_set (mz_cp w 63 63 ((jxa * 24) + jxb) ((jxc * 24) + jxd) jxe) 78 gA) 77 gB)) rfl ?_
                              refine mz_retP (r := (some (.int (nI jxe)), mz_set (mz_set (mz_cp w 63 63 ((jxa * 24) + jxb) ((jxc * 24) + jxd) jxe) 78 gA) 77 gB)) rfl ⟨nI jxe, rfl, ?_, rfl⟩
                              show sm_I (n + 1) (mz_set (mz_set (mz_cp w 63 63 ((jxa * 24) + jxb) ((jxc * 24) + jxd) jxe) 78 gA) 77 gB)
                              obtain ⟨-, ⟨d1, d2, d3, ⟨d4, d4b, d4c⟩, d5, d6, d7, d8⟩, da, db, dc⟩ := hI2
                              exact ⟨hn, ⟨d1, d2, d3, ⟨d4, d4b, d4c⟩, d5, d6, d7, d8⟩, ⟨da.1, sm_moved (S := jxa) (I := jxb) (O := jxc) (J := jxd) (n := jxe) (by omega) (by omega) (by omega) (by omega) da.2 hgA hgB (fun i => rfl)⟩, db, sm_cc_of (fun i h1 h2 => by simp only [mz_cp_ne (show i ≠ 63 by omega), mz_set_ne (show i ≠ 77 by omega), mz_set_ne (show i ≠ 78 by omega)]) dc⟩
              · refine mz_goP 3 (c' := (5, [some (.ref 0), some (.int (nI jxa)), some (.int xb), some (.int (nI jxc)), some (.int xd), some (.int xe)], [.int (nI jxa), .ref 60], w)) rfl ?_
                refine mz_doPQ (R := mz_r45) (as := [.ref 60, .int (nI jxa)]) (rest := []) (r1 := some (.int 1)) (m1 := w) mz_t45 mz_v45_60 rfl rfl rfl rfl rfl ⟨?_, rfl⟩ ?_
                · refine mz_go 2 (c' := (if (nI jxa) < 0 then 13 else 4, [some (.ref 60), some (.int (nI jxa))], [], w)) rfl ?_
                  refine mz_ifF q1 ?_
                  refine mz_go 3 (c' := (if 4 ≤ (nI jxa) then 13 else 9, [some (.ref 60), some (.int (nI jxa))], [], w)) rfl ?_
                  refine mz_ifF q2 ?_
                  refine mz_go 2 (c' := (14, [some (.ref 60), some (.int (nI jxa))], [.int 1], w)) rfl ?_
                  exact mz_ret rfl
                refine mz_goP 4 (c' := (16, [some (.ref 0), some (.int (nI jxa)), some (.int xb), some (.int (nI jxc)), some (.int xd), some (.int xe)], [.int (nI jxc), .ref 60], w)) rfl ?_
                refine mz_doPQ (R := mz_r45) (as := [.ref 60, .int (nI jxc)]) (rest := []) (r1 := some (.int 1)) (m1 := w) mz_t45 mz_v45_60 rfl rfl rfl rfl rfl ⟨?_, rfl⟩ ?_
                · refine mz_go 2 (c' := (if (nI jxc) < 0 then 13 else 4, [some (.ref 60), some (.int (nI jxc))], [], w)) rfl ?_
                  refine mz_ifF q3 ?_
                  refine mz_go 3 (c' := (if 4 ≤ (nI jxc) then 13 else 9, [some (.ref 60), some (.int (nI jxc))], [], w)) rfl ?_
                  refine mz_ifF q4 ?_
                  refine mz_go 2 (c' := (14, [some (.ref 60), some (.int (nI jxc))], [.int 1], w)) rfl ?_
                  exact mz_ret rfl
                refine mz_goP 4 (c' := (33, [some (.ref 0), some (.int (nI jxa)), some (.int xb), some (.int (nI jxc)), some (.int xd), some (.int xe)], [.int (nI jxa), .ref 60], w)) rfl ?_
                refine mz_doPQ (R := mz_r46) (as := [.ref 60, .int (nI jxa)]) (rest := []) (r1 := some (.int 0)) (m1 := w) mz_t46 mz_v46_60 rfl rfl rfl rfl rfl ⟨?_, rfl⟩ ?_
                · refine mz_go 2 (c' := (2, [some (.ref 60), some (.int (nI jxa))], [.int (nI jxa), .ref 60], w)) rfl ?_
                  refine mz_doQ (R := mz_r45) (as := [.ref 60, .int (nI jxa)]) (rest := []) (r1 := some (.int 1)) (m1 := w) mz_t45 mz_v45_60 rfl rfl rfl rfl rfl ⟨?_, rfl⟩ ?_
                  · refine mz_go 2 (c' := (if (nI jxa) < 0 then 13 else 4, [some (.ref 60), some (.int (nI jxa))], [], w)) rfl ?_
                    refine mz_ifF q1 ?_
                    refine mz_go 3 (c' := (if 4 ≤ (nI jxa) then 13 else 9, [some (.ref 60), some (.int (nI jxa))], [], w)) rfl ?_
                    refine mz_ifF q2 ?_
                    refine mz_go 2 (c' := (14, [some (.ref 60), some (.int (nI jxa))], [.int 1], w)) rfl ?_
                    exact mz_ret rfl
                  refine mz_go 4 (c' := (13, [some (.ref 60), some (.int (nI jxa))], [.int (nI jxa), .ref 61], w)) rfl ?_
                  refine mz_arr (c' := (14, [some (.ref 60), some (.int (nI jxa))], [.int (w 61 ((nI jxa).toNatClampNeg))], w)) rfl (show mz_in (nI jxa) 4 = true from sm_inN rfl (show jxa < 4 by omega) (by decide)) ?_
                  rw [show (nI jxa : Int32).toNatClampNeg = jxa from sm_clN rfl (show jxa < 2 ^ 31 by omega)]
                  refine mz_go 1 (c' := (if (w 61 jxa) = 0 then 17 else 21, [some (.ref 60), some (.int (nI jxa))], [], w)) rfl ?_
                  refine mz_ifF q5 ?_
                  refine mz_go 1 (c' := (22, [some (.ref 60), some (.int (nI jxa))], [.int 0], w)) rfl ?_
                  exact mz_ret rfl
                refine mz_goP 4 (c' := (44, [some (.ref 0), some (.int (nI jxa)), some (.int xb), some (.int (nI jxc)), some (.int xd), some (.int xe)], [.int (nI jxc), .ref 60], w)) rfl ?_
                refine mz_doPQ (R := mz_r46) (as := [.ref 60, .int (nI jxc)]) (rest := []) (r1 := some (.int 0)) (m1 := w) mz_t46 mz_v46_60 rfl rfl rfl rfl rfl ⟨?_, rfl⟩ ?_
                · refine mz_go 2 (c' := (2, [some (.ref 60), some (.int (nI jxc))], [.int (nI jxc), .ref 60], w)) rfl ?_
                  refine mz_doQ (R := mz_r45) (as := [.ref 60, .int (nI jxc)]) (rest := []) (r1 := some (.int 1)) (m1 := w) mz_t45 mz_v45_60 rfl rfl rfl rfl rfl ⟨?_, rfl⟩ ?_
                  · refine mz_go 2 (c' := (if (nI jxc) < 0 then 13 else 4, [some (.ref 60), some (.int (nI jxc))], [], w)) rfl ?_
                    refine mz_ifF q3 ?_
                    refine mz_go 3 (c' := (if 4 ≤ (nI jxc) then 13 else 9, [some (.ref 60), some (.int (nI jxc))], [], w)) rfl ?_
                    refine mz_ifF q4 ?_
                    refine mz_go 2 (c' := (14, [some (.ref 60), some (.int (nI jxc))], [.int 1], w)) rfl ?_
                    exact mz_ret rfl
                  refine mz_go 4 (c' := (13, [some (.ref 60), some (.int (nI jxc))], [.int (nI jxc), .ref 61], w)) rfl ?_
                  refine mz_arr (c' := (14, [some (.ref 60), some (.int (nI jxc))], [.int (w 61 ((nI jxc).toNatClampNeg))], w)) rfl (show mz_in (nI jxc) 4 = true from sm_inN rfl (show jxc < 4 by omega) (by decide)) ?_
                  rw [show (nI jxc : Int32).toNatClampNeg = jxc from sm_clN rfl (show jxc < 2 ^ 31 by omega)]
                  refine mz_go 1 (c' := (if (w 61 jxc) = 0 then 17 else 21, [some (.ref 60), some (.int (nI jxc))], [], w)) rfl ?_
                  refine mz_ifF q6 ?_
                  refine mz_go 1 (c' := (22, [some (.ref 60), some (.int (nI jxc))], [.int 0], w)) rfl ?_
                  exact mz_ret rfl
                refine mz_goP 5 (c' := (64, [some (.ref 0), some (.int (nI jxa)), some (.int xb), some (.int (nI jxc)), some (.int xd), some (.int xe)], [.int (nI jxa), .ref 61], w)) rfl ?_
                refine mz_arrP (c' := (65, [some (.ref 0), some (.int (nI jxa)), some (.int xb), some (.int (nI jxc)), some (.int xd), some (.int xe)], [.int (w 61 ((nI jxa).toNatClampNeg))], w)) rfl (show mz_in (nI jxa) 4 = true from sm_inN rfl (show jxa < 4 by omega) (by decide)) ?_
                rw [show (nI jxa : Int32).toNatClampNeg = jxa from sm_clN rfl (show jxa < 2 ^ 31 by omega)]
                refine mz_goP 4 (c' := (73, [some (.ref 0), some (.int (nI jxa)), some (.int xb), some (.int (nI jxc)), some (.int xd), some (.int xe)], [.int (nI jxc), .ref 61, .int (w 61 jxa)], w)) rfl ?_
                refine mz_arrP (c' := (74, [some (.ref 0), some (.int (nI jxa)), some (.int xb), some (.int (nI jxc)), some (.int xd), some (.int xe)], [.int (w 61 ((nI jxc).toNatClampNeg)), .int (w 61 jxa)], w)) rfl (show mz_in (nI jxc) 4 = true from sm_inN rfl (show jxc < 4 by omega) (by decide)) ?_
                rw [show (nI jxc : Int32).toNatClampNeg = jxc from sm_clN rfl (show jxc < 2 ^ 31 by omega)]
                refine mz_goP 1 (c' := (if (w 61 jxa) = (w 61 jxc) then 83 else 77, [some (.ref 0), some (.int (nI jxa)), some (.int xb), some (.int (nI jxc)), some (.int xd), some (.int xe)], [], w)) rfl ?_
                refine mz_ifFP q7 ?_
                refine mz_goP 2 (c' := (79, [some (.ref 0), some (.int (nI jxa)), some (.int xb), some (.int (nI jxc)), some (.int xd), some (.int xe)], [.int 5, .ref 0], w)) rfl ?_
                refine mz_doPQ (R := mz_r109) (as := [.ref 0, .int 5]) (rest := []) (r1 := some (.int (-1000005))) (m1 := mz_up w 64 5 ((w 64 5) + 1)) mz_t109 mz_v109_0 rfl rfl rfl rfl rfl ((cs_err5 (m := w)).deep (by decide)) ?_
                refine mz_retP (r := (some (.int ((-1000005))), mz_up w 64 5 ((w 64 5) + 1))) rfl ⟨(-1000005), rfl, ?_⟩
                refine mz_goP 1 (c' := (1, [some (.ref 65), some (.int (nI jxa)), some (.int xb), some (.int (nI jxc)), some (.int xd), some (.int xe), none], [.int (nI jxa)], mz_up w 64 5 ((w 64 5) + 1))) rfl ?_
                refine mz_doPQ (R := mz_r219) (as := [.int (nI jxa)]) (rest := []) (r1 := some (.int 1)) (m1 := mz_up w 64 5 ((w 64 5) + 1)) mz_t219 mz_v219 rfl rfl rfl rfl rfl ⟨?_, rfl⟩ ?_
                · refine mz_go 3 (c' := (3, [some (.int (nI jxa))], [.int 3, .int 0, .int (nI jxa)], mz_up w 64 5 ((w 64 5) + 1))) rfl ?_
                  refine mz_doQ (R := mz_r128) (as := [.int (nI jxa), .int 0, .int 3]) (rest := []) (r1 := some (.int 1)) (m1 := mz_up w 64 5 ((w 64 5) + 1)) mz_t128 mz_v128 rfl rfl rfl rfl rfl ((ct_in1 (m := mz_up w 64 5 ((w 64 5) + 1)) (v := nI jxa) (a := 0) (b := 3) q1 (show ¬ (3 < (nI jxa)) from (sm_nltN rfl rfl (show jxa ≤ 3 by omega) (show 3 < 2 ^ 31 by omega)))).deep (by decide)) ?_
                  exact mz_ret rfl
                refine mz_goP 2 (c' := (8, [some (.ref 65), some (.int (nI jxa)), some (.int xb), some (.int (nI jxc)), some (.int xd), some (.int xe), none], [.int (nI jxc)], mz_up w 64 5 ((w 64 5) + 1))) rfl ?_
                refine mz_doPQ (R := mz_r219) (as := [.int (nI jxc)]) (rest := []) (r1 := some (.int 1)) (m1 := mz_up w 64 5 ((w 64 5) + 1)) mz_t219 mz_v219 rfl rfl rfl rfl rfl ⟨?_, rfl⟩ ?_
                · refine mz_go 3 (c' := (3, [some (.int (nI jxc))], [.int 3, .int 0, .int (nI jxc)], mz_up w 64 5 ((w 64 5) + 1))) rfl ?_
                  refine mz_doQ (R := mz_r128) (as := [.int (nI jxc), .int 0, .int 3]) (rest := []) (r1 := some (.int 1)) (m1 := mz_up w 64 5 ((w 64 5) + 1)) mz_t128 mz_v128 rfl rfl rfl rfl rfl ((ct_in1 (m := mz_up w 64 5 ((w 64 5) + 1)) (v := nI jxc) (a := 0) (b := 3) q3 (show ¬ (3 < (nI jxc)) from (sm_nltN rfl rfl (show jxc ≤ 3 by omega) (show 3 < 2 ^ 31 by omega)))).deep (by decide)) ?_
                  exact mz_ret rfl
                refine mz_goP 4 (c' := (25, [some (.ref 65), some (.int (nI jxa)), some (.int xb), some (.int (nI jxc)), some (.int xd), some (.int xe), none], [.int (nI jxa), .ref 75], mz_up w 64 5 ((w 64 5) + 1))) rfl ?_
                refine mz_arrP (c' := (26, [some (.ref 65), some (.int (nI jxa)), some (.int xb), some (.int (nI jxc)), some (.int xd), some (.int xe), none], [.int (w 75 ((nI jxa).toNatClampNeg))], mz_up w 64 5 ((w 64 5) + 1))) rfl (show mz_in (nI jxa) 4 = true from sm_inN rfl (show jxa < 4 by omega) (by decide)) ?_
                rw [show (nI jxa : Int32).toNatClampNeg = jxa from sm_clN rfl (show jxa < 2 ^ 31 by omega)]
                rw [show w 75 jxa = w 61 jxa from (hsh jxa (by omega)).2.2.1]
                refine mz_goP 1 (c' := (if (w 61 jxa) = 0 then 38 else 29, [some (.ref 65), some (.int (nI jxa)), some (.int xb), some (.int (nI jxc)), some (.int xd), some (.int xe), none], [], mz_up w 64 5 ((w 64 5) + 1))) rfl ?_
                refine mz_ifFP q5 ?_
                refine mz_goP 3 (c' := (34, [some (.ref 65), some (.int (nI jxa)), some (.int xb), some (.int (nI jxc)), some (.int xd), some (.int xe), none], [.int (nI jxc), .ref 75], mz_up w 64 5 ((w 64 5) + 1))) rfl ?_
                refine mz_arrP (c' := (35, [some (.ref 65), some (.int (nI jxa)), some (.int xb), some (.int (nI jxc)), some (.int xd), some (.int xe), none], [.int (w 75 ((nI jxc).toNatClampNeg))], mz_up w 64 5 ((w 64 5) + 1))) rfl (show mz_in (nI jxc) 4 = true from sm_inN rfl (show jxc < 4 by omega) (by decide)) ?_
                rw [show (nI jxc : Int32).toNatClampNeg = jxc from sm_clN rfl (show jxc < 2 ^ 31 by omega)]
                rw [show w 75 jxc = w 61 jxc from (hsh jxc (by omega)).2.2.1]
                refine mz_goP 1 (c' := (if (w 61 jxc) = 0 then 38 else 44, [some (.ref 65), some (.int (nI jxa)), some (.int xb), some (.int (nI jxc)), some (.int xd), some (.int xe), none], [], mz_up w 64 5 ((w 64 5) + 1))) rfl ?_
                refine mz_ifFP q6 ?_
                refine mz_goP 3 (c' := (49, [some (.ref 65), some (.int (nI jxa)), some (.int xb), some (.int (nI jxc)), some (.int xd), some (.int xe), none], [.int (nI jxa), .ref 75], mz_up w 64 5 ((w 64 5) + 1))) rfl ?_
                refine mz_arrP (c' := (50, [some (.ref 65), some (.int (nI jxa)), some (.int xb), some (.int (nI jxc)), some (.int xd), some (.int xe), none], [.int (w 75 ((nI jxa).toNatClampNeg))], mz_up w 64 5 ((w 64 5) + 1))) rfl (show mz_in (nI jxa) 4 = true from sm_inN rfl (show jxa < 4 by omega) (by decide)) ?_
                rw [show (nI jxa : Int32).toNatClampNeg = jxa from sm_clN rfl (show jxa < 2 ^ 31 by omega)]
                rw [show w 75 jxa = w 61 jxa from (hsh jxa (by omega)).2.2.1]
                refine mz_goP 3 (c' := (55, [some (.ref 65), some (.int (nI jxa)), some (.int xb), some (.int (nI jxc)), some (.int xd), some (.int xe), none], [.int (nI jxc), .ref 75, .int (w 61 jxa)], mz_up w 64 5 ((w 64 5) + 1))) rfl ?_
                refine mz_arrP (c' := (56, [some (.ref 65), some (.int (nI jxa)), some (.int xb), some (.int (nI jxc)), some (.int xd), some (.int xe), none], [.int (w 75 ((nI jxc).toNatClampNeg)), .int (w 61 jxa)], mz_up w 64 5 ((w 64 5) + 1))) rfl (show mz_in (nI jxc) 4 = true from sm_inN rfl (show jxc < 4 by omega) (by decide)) ?_
                rw [show (nI jxc : Int32).toNatClampNeg = jxc from sm_clN rfl (show jxc < 2 ^ 31 by omega)]
                rw [show w 75 jxc = w 61 jxc from (hsh jxc (by omega)).2.2.1]
                refine mz_goP 1 (c' := (if (w 61 jxa) = (w 61 jxc) then 65 else 59, [some (.ref 65), some (.int (nI jxa)), some (.int xb), some (.int (nI jxc)), some (.int xd), some (.int xe), none], [], mz_up w 64 5 ((w 64 5) + 1))) rfl ?_
                refine mz_ifFP q7 ?_
                refine mz_goP 2 (c' := (61, [some (.ref 65), some (.int (nI jxa)), some (.int xb), some (.int (nI jxc)), some (.int xd), some (.int xe), none], [.int 5, .ref 65], mz_up w 64 5 ((w 64 5) + 1))) rfl ?_
                refine mz_doPQ (R := mz_r127) (as := [.ref 65, .int 5]) (rest := []) (r1 := some (.int (-1000005))) (m1 := mz_up (mz_up w 64 5 ((w 64 5) + 1)) 68 5 ((w 68 5) + 1)) mz_t127 mz_v127_65 rfl rfl rfl rfl rfl ((ct_err5 (m := mz_up w 64 5 ((w 64 5) + 1))).deep (by decide)) ?_
                refine mz_retP (r := (some (.int ((-1000005))), mz_up (mz_up w 64 5 ((w 64 5) + 1)) 68 5 ((w 68 5) + 1))) rfl ⟨(-1000005), rfl, ?_, rfl⟩
                show sm_I (n + 1) (mz_up (mz_up w 64 5 ((w 64 5) + 1)) 68 5 ((w 68 5) + 1))
                exact sm_I_scr hn hI2 (fun i hi => by
                  have hne : ∀ r, sm_scr r = true → i ≠ r := fun r hr e => by
                    rw [e, hr] at hi
                    cases hi
                  simp only [mz_up_ne (hne 64 rfl), mz_up_ne (hne 68 rfl)]) rfl rfl
