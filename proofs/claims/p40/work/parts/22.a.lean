set_option maxHeartbeats 4000000 in
set_option maxRecDepth 100000 in
theorem cs_has {m : mz_M} {N : Nat} (hN : N ≤ 6) (h4 : m 2 4 = nI N) {I : Nat} (hI : I < N) : mz_Me 2 mz_r21 [.ref 2, .int (nI I)] m (some (.int 1)) m := by
  refine ⟨?_, rfl⟩
  refine mz_go 2 (c' := (if (nI I) < 0 then 22 else 4, [some (.ref 2), some (.int (nI I))], [], m)) rfl ?_
  refine mz_ifF (show ¬ ((nI I) < 0) from (sm_nltN rfl rfl (show 0 ≤ I by omega) (show I < 2 ^ 31 by omega))) ?_
  refine mz_go 3 (c' := (9, [some (.ref 2), some (.int (nI I))], [.int (m 2 4), .int (nI I)], m)) rfl ?_
  rw [h4]
  refine mz_go 1 (c' := (if (nI N) ≤ (nI I) then 22 else 12, [some (.ref 2), some (.int (nI I))], [], m)) rfl ?_
  refine mz_ifF (show ¬ ((nI N) ≤ (nI I)) from (sm_nleN rfl rfl (show I < N by omega) (show N < 2 ^ 31 by omega))) ?_
  refine mz_go 3 (c' := (if 6 ≤ (nI I) then 22 else 18, [some (.ref 2), some (.int (nI I))], [], m)) rfl ?_
  refine mz_ifF (show ¬ (6 ≤ (nI I)) from (sm_nleN rfl rfl (show I < 6 by omega) (show 6 < 2 ^ 31 by omega))) ?_
  refine mz_go 2 (c' := (23, [some (.ref 2), some (.int (nI I))], [.int 1], m)) rfl ?_
  exact mz_ret rfl
set_option maxHeartbeats 4000000 in
set_option maxRecDepth 100000 in
theorem cs_hasN {m : mz_M} {N : Nat} (hN : N ≤ 6) (h4 : m 2 4 = nI N) {I : Nat} (hI : N ≤ I) (hI2 : I < 2 ^ 31) : mz_Me 2 mz_r21 [.ref 2, .int (nI I)] m (some (.int 0)) m := by
  refine ⟨?_, rfl⟩
  refine mz_go 2 (c' := (if (nI I) < 0 then 22 else 4, [some (.ref 2), some (.int (nI I))], [], m)) rfl ?_
  refine mz_ifF (show ¬ ((nI I) < 0) from (sm_nltN rfl rfl (show 0 ≤ I by omega) (show I < 2 ^ 31 by omega))) ?_
  refine mz_go 3 (c' := (9, [some (.ref 2), some (.int (nI I))], [.int (m 2 4), .int (nI I)], m)) rfl ?_
  rw [h4]
  refine mz_go 1 (c' := (if (nI N) ≤ (nI I) then 22 else 12, [some (.ref 2), some (.int (nI I))], [], m)) rfl ?_
  refine mz_ifT (show ((nI N) ≤ (nI I)) from (sm_leN rfl rfl (show N ≤ I by omega) (show I < 2 ^ 31 by omega))) ?_
  refine mz_go 1 (c' := (23, [some (.ref 2), some (.int (nI I))], [.int 0], m)) rfl ?_
  exact mz_ret rfl
set_option maxHeartbeats 4000000 in
set_option maxRecDepth 100000 in
theorem cs_far {m : mz_M} {N : Nat} (hN : N ≤ 6) (h4 : m 2 4 = nI N) {I : Nat} (hI : I < N) (x y : Int32) : mz_Me 5 mz_r24 [.ref 2, .int (nI I), .int x, .int y] m (some (.int (sm_far (m 4 I) (m 5 I) x y))) m := by
  refine ⟨?_, rfl⟩
  refine mz_go 2 (c' := (2, [some (.ref 2), some (.int (nI I)), some (.int x), some (.int y), none, none], [.int (nI I), .ref 2], m)) rfl ?_
  refine mz_doQ (R := mz_r21) (as := [.ref 2, .int (nI I)]) (rest := []) (r1 := some (.int 1)) (m1 := m) mz_t21 mz_v21_2 rfl rfl rfl rfl rfl ((cs_has hN (m := m) h4 (show I < N by omega)).deep (by decide)) ?_
  refine mz_go 5 (c' := (19, [some (.ref 2), some (.int (nI I)), some (.int x), some (.int y), none, none], [.int (nI I), .ref 4, .int 16], m)) rfl ?_
  refine mz_arr (c' := (20, [some (.ref 2), some (.int (nI I)), some (.int x), some (.int y), none, none], [.int (m 4 ((nI I).toNatClampNeg)), .int 16], m)) rfl (show mz_in (nI I) 6 = true from sm_inN rfl (show I < 6 by omega) (by decide)) ?_
  rw [show (nI I : Int32).toNatClampNeg = I from sm_clN rfl (show I < 2 ^ 31 by omega)]
  refine mz_go 9 (c' := (35, [some (.ref 2), some (.int (nI I)), some (.int x), some (.int y), some (.int (sm_abs ((16 * (m 4 I)) - x))), none], [.int (nI I), .ref 5, .int 16], m)) rfl ?_
  refine mz_arr (c' := (36, [some (.ref 2), some (.int (nI I)), some (.int x), some (.int y), some (.int (sm_abs ((16 * (m 4 I)) - x))), none], [.int (m 5 ((nI I).toNatClampNeg)), .int 16], m)) rfl (show mz_in (nI I) 6 = true from sm_inN rfl (show I < 6 by omega) (by decide)) ?_
  rw [show (nI I : Int32).toNatClampNeg = I from sm_clN rfl (show I < 2 ^ 31 by omega)]
  refine mz_go 10 (c' := (52, [some (.ref 2), some (.int (nI I)), some (.int x), some (.int y), some (.int (sm_abs ((16 * (m 4 I)) - x))), some (.int (sm_abs ((16 * (m 5 I)) - y)))], [.int (((sm_abs ((16 * (m 4 I)) - x)) + (sm_abs ((16 * (m 5 I)) - y))) / 16)], m)) rfl ?_
  exact mz_ret rfl
set_option maxHeartbeats 4000000 in
set_option maxRecDepth 100000 in
theorem cs_farN {m : mz_M} (x y : Int32) : mz_Me 5 mz_r24 [.ref 2, .int (-1), .int x, .int y] m (some (.int 999)) m := by
  refine ⟨?_, rfl⟩
  refine mz_go 2 (c' := (2, [some (.ref 2), some (.int (-1)), some (.int x), some (.int y), none, none], [.int (-1), .ref 2], m)) rfl ?_
  refine mz_doQ (R := mz_r21) (as := [.ref 2, .int (-1)]) (rest := []) (r1 := some (.int 0)) (m1 := m) mz_t21 mz_v21_2 rfl rfl rfl rfl rfl ⟨?_, rfl⟩ ?_
  · refine mz_go 3 (c' := (23, [some (.ref 2), some (.int (-1))], [.int 0], m)) rfl ?_
    exact mz_ret rfl
  refine mz_go 2 (c' := (11, [some (.ref 2), some (.int (-1)), some (.int x), some (.int y), none, none], [.int 999], m)) rfl ?_
  exact mz_ret rfl
set_option maxHeartbeats 4000000 in
set_option maxRecDepth 100000 in
theorem cs_cut {m : mz_M} {a b : Int32} (h : ¬ b = 0) : mz_Me 2 mz_r123 [.int a, .int b] m (some (.int (a / b))) m := by
  refine ⟨?_, rfl⟩
  refine mz_go 2 (c' := (if b = 0 then 4 else 8, [some (.int a), some (.int b)], [], m)) rfl ?_
  refine mz_ifF h ?_
  refine mz_go 2 (c' := (10, [some (.int a), some (.int b)], [.int b, .int a], m)) rfl ?_
  refine mz_div (c' := (11, [some (.int a), some (.int b)], [.int (a / b)], m)) rfl h ?_
  exact mz_ret rfl
set_option maxHeartbeats 4000000 in
set_option maxRecDepth 100000 in
theorem cs_held {m : mz_M} {v a b : Int32} (h : a ≤ b) : mz_Me 2 mz_r122 [.int v, .int a, .int b] m (some (.int (sm_held v a b))) m := by
  rw [← sm_held_max h]
  refine ⟨?_, rfl⟩
  refine mz_go 5 (c' := (9, [some (.int v), some (.int a), some (.int b)], [.int (sm_max a (sm_min b v))], m)) rfl ?_
  exact mz_ret rfl
set_option maxHeartbeats 4000000 in
set_option maxRecDepth 100000 in
theorem cs_pushes {m : mz_M} {N : Nat} (hN : N ≤ 6) (h4 : m 2 4 = nI N) {I : Nat} (hI : I < N) : mz_Me 5 mz_r26 [.ref 2, .int (nI I)] m (some (.int (sm_bI (sm_push (m 3 I))))) m := by
  unfold sm_push
  by_cases c1 : m 3 I = 2
  · rw [decide_eq_true c1]
    refine ⟨?_, rfl⟩
    refine mz_go 2 (c' := (2, [some (.ref 2), some (.int (nI I))], [.int (nI I), .ref 2], m)) rfl ?_
    refine mz_doQ (R := mz_r21) (as := [.ref 2, .int (nI I)]) (rest := []) (r1 := some (.int 1)) (m1 := m) mz_t21 mz_v21_2 rfl rfl rfl rfl rfl ((cs_has hN (m := m) h4 (show I < N by omega)).deep (by decide)) ?_
    refine mz_go 4 (c' := (13, [some (.ref 2), some (.int (nI I))], [.int (nI I), .ref 3], m)) rfl ?_
    refine mz_arr (c' := (14, [some (.ref 2), some (.int (nI I))], [.int (m 3 ((nI I).toNatClampNeg))], m)) rfl (show mz_in (nI I) 6 = true from sm_inN rfl (show I < 6 by omega) (by decide)) ?_
    rw [show (nI I : Int32).toNatClampNeg = I from sm_clN rfl (show I < 2 ^ 31 by omega)]
    refine mz_go 2 (c' := (if (m 3 I) = 2 then 29 else 18, [some (.ref 2), some (.int (nI I))], [], m)) rfl ?_
    refine mz_ifT c1 ?_
    refine mz_go 2 (c' := (34, [some (.ref 2), some (.int (nI I))], [.int 1], m)) rfl ?_
    exact mz_ret rfl
  · rw [decide_eq_false c1]
    by_cases c2 : m 3 I = 6
    · rw [decide_eq_true c2]
      refine ⟨?_, rfl⟩
      refine mz_go 2 (c' := (2, [some (.ref 2), some (.int (nI I))], [.int (nI I), .ref 2], m)) rfl ?_
      refine mz_doQ (R := mz_r21) (as := [.ref 2, .int (nI I)]) (rest := []) (r1 := some (.int 1)) (m1 := m) mz_t21 mz_v21_2 rfl rfl rfl rfl rfl ((cs_has hN (m := m) h4 (show I < N by omega)).deep (by decide)) ?_
      refine mz_go 4 (c' := (13, [some (.ref 2), some (.int (nI I))], [.int (nI I), .ref 3], m)) rfl ?_
      refine mz_arr (c' := (14, [some (.ref 2), some (.int (nI I))], [.int (m 3 ((nI I).toNatClampNeg))], m)) rfl (show mz_in (nI I) 6 = true from sm_inN rfl (show I < 6 by omega) (by decide)) ?_
      rw [show (nI I : Int32).toNatClampNeg = I from sm_clN rfl (show I < 2 ^ 31 by omega)]
      refine mz_go 2 (c' := (if (m 3 I) = 2 then 29 else 18, [some (.ref 2), some (.int (nI I))], [], m)) rfl ?_
      refine mz_ifF c1 ?_
      refine mz_go 3 (c' := (23, [some (.ref 2), some (.int (nI I))], [.int (nI I), .ref 3], m)) rfl ?_
      refine mz_arr (c' := (24, [some (.ref 2), some (.int (nI I))], [.int (m 3 ((nI I).toNatClampNeg))], m)) rfl (show mz_in (nI I) 6 = true from sm_inN rfl (show I < 6 by omega) (by decide)) ?_
      rw [show (nI I : Int32).toNatClampNeg = I from sm_clN rfl (show I < 2 ^ 31 by omega)]
      refine mz_go 2 (c' := (if (m 3 I) = 6 then 29 else 33, [some (.ref 2), some (.int (nI I))], [], m)) rfl ?_
      refine mz_ifT c2 ?_
      refine mz_go 2 (c' := (34, [some (.ref 2), some (.int (nI I))], [.int 1], m)) rfl ?_
      exact mz_ret rfl
    · rw [decide_eq_false c2]
      refine ⟨?_, rfl⟩
      refine mz_go 2 (c' := (2, [some (.ref 2), some (.int (nI I))], [.int (nI I), .ref 2], m)) rfl ?_
      refine mz_doQ (R := mz_r21) (as := [.ref 2, .int (nI I)]) (rest := []) (r1 := some (.int 1)) (m1 := m) mz_t21 mz_v21_2 rfl rfl rfl rfl rfl ((cs_has hN (m := m) h4 (show I < N by omega)).deep (by decide)) ?_
      refine mz_go 4 (c' := (13, [some (.ref 2), some (.int (nI I))], [.int (nI I), .ref 3], m)) rfl ?_
      refine mz_arr (c' := (14, [some (.ref 2), some (.int (nI I))], [.int (m 3 ((nI I).toNatClampNeg))], m)) rfl (show mz_in (nI I) 6 = true from sm_inN rfl (show I < 6 by omega) (by decide)) ?_
      rw [show (nI I : Int32).toNatClampNeg = I from sm_clN rfl (show I < 2 ^ 31 by omega)]
      refine mz_go 2 (c' := (if (m 3 I) = 2 then 29 else 18, [some (.ref 2), some (.int (nI I))], [], m)) rfl ?_
      refine mz_ifF c1 ?_
      refine mz_go 3 (c' := (23, [some (.ref 2), some (.int (nI I))], [.int (nI I), .ref 3], m)) rfl ?_
      refine mz_arr (c' := (24, [some (.ref 2), some (.int (nI I))], [.int (m 3 ((nI I).toNatClampNeg))], m)) rfl (show mz_in (nI I) 6 = true from sm_inN rfl (show I < 6 by omega) (by decide)) ?_
      rw [show (nI I : Int32).toNatClampNeg = I from sm_clN rfl (show I < 2 ^ 31 by omega)]
      refine mz_go 2 (c' := (if (m 3 I) = 6 then 29 else 33, [some (.ref 2), some (.int (nI I))], [], m)) rfl ?_
      refine mz_ifF c2 ?_
      refine mz_go 1 (c' := (34, [some (.ref 2), some (.int (nI I))], [.int 0], m)) rfl ?_
      exact mz_ret rfl
set_option maxHeartbeats 4000000 in
set_option maxRecDepth 100000 in
theorem cs_nearl0 {m : mz_M} {N : Nat} (hN : N ≤ 6) (h4 : m 2 4 = nI N) (x y : Int32) : ∀ n k : Nat, k + n = N → ∀ l7 : Option Value, mz_Ex 10 mz_k25 (9, [some (.ref 2), some (.int x), some (.int y), some (.int 0), some (.int ((sm_near (m 3) (m 4) (m 5) x y false k).1)), some (.int ((sm_near (m 3) (m 4) (m 5) x y false k).2)), some (.int (nI k)), l7], [], m) (some (.int (sm_near (m 3) (m 4) (m 5) x y false N).1), m) := by
  intro n
  induction n with
  | zero =>
    intro k hk l7
    have hk2 : k = N := by omega
    subst hk2
    refine mz_go 3 (c' := (15, [some (.ref 2), some (.int x), some (.int y), some (.int 0), some (.int ((sm_near (m 3) (m 4) (m 5) x y false k).1)), some (.int ((sm_near (m 3) (m 4) (m 5) x y false k).2)), some (.int (nI k)), l7], [.int (m 2 4), .int (nI k)], m)) rfl ?_
    rw [h4]
    refine mz_go 1 (c' := (if (nI k) ≤ (nI k) then 67 else 18, [some (.ref 2), some (.int x), some (.int y), some (.int 0), some (.int ((sm_near (m 3) (m 4) (m 5) x y false k).1)), some (.int ((sm_near (m 3) (m 4) (m 5) x y false k).2)), some (.int (nI k)), l7], [], m)) rfl ?_
    refine mz_ifT (show ((nI k) ≤ (nI k)) from (sm_leN rfl rfl (show k ≤ k by omega) (show k < 2 ^ 31 by omega))) ?_
    refine mz_go 1 (c' := (69, [some (.ref 2), some (.int x), some (.int y), some (.int 0), some (.int ((sm_near (m 3) (m 4) (m 5) x y false k).1)), some (.int ((sm_near (m 3) (m 4) (m 5) x y false k).2)), some (.int (nI k)), l7], [.int ((sm_near (m 3) (m 4) (m 5) x y false k).1)], m)) rfl ?_
    exact mz_ret rfl
  | succ n ih =>
    intro k hk l7
    by_cases c1 : (sm_near (m 3) (m 4) (m 5) x y false k).1 < 0
    · have hn : sm_near (m 3) (m 4) (m 5) x y false (k + 1) = (nI k, sm_far (m 4 k) (m 5 k) x y) := by
        show (if _ then _ else _) = _
        simp [c1]
      have ih2 := ih (k + 1) (by omega) (some (.int (sm_far (m 4 k) (m 5 k) x y)))
      rw [hn, nI_succ] at ih2
      refine mz_go 3 (c' := (15, [some (.ref 2), some (.int x), some (.int y), some (.int 0), some (.int ((sm_near (m 3) (m 4) (m 5) x y false k).1)), some (.int ((sm_near (m 3) (m 4) (m 5) x y false k).2)), some (.int (nI k)), l7], [.int (m 2 4), .int (nI k)], m)) rfl ?_
      rw [h4]
      refine mz_go 1 (c' := (if (nI N) ≤ (nI k) then 67 else 18, [some (.ref 2), some (.int x), some (.int y), some (.int 0), some (.int ((sm_near (m 3) (m 4) (m 5) x y false k).1)), some (.int ((sm_near (m 3) (m 4) (m 5) x y false k).2)), some (.int (nI k)), l7], [], m)) rfl ?_
      refine mz_ifF (show ¬ ((nI N) ≤ (nI k)) from (sm_nleN rfl rfl (show k < N by omega) (show N < 2 ^ 31 by omega))) ?_
      refine mz_go 4 (c' := (23, [some (.ref 2), some (.int x), some (.int y), some (.int 0), some (.int ((sm_near (m 3) (m 4) (m 5) x y false k).1)), some (.int ((sm_near (m 3) (m 4) (m 5) x y false k).2)), some (.int (nI k)), l7], [.int y, .int x, .int (nI k), .ref 2], m)) rfl ?_
      refine mz_doQ (R := mz_r24) (as := [.ref 2, .int (nI k), .int x, .int y]) (rest := []) (r1 := some (.int (sm_far (m 4 k) (m 5 k) x y))) (m1 := m) mz_t24 mz_v24_2 rfl rfl rfl rfl rfl ((cs_far hN (m := m) h4 (show k < N by omega) x y).deep (by decide)) ?_
      refine mz_go 3 (c' := (if ((sm_near (m 3) (m 4) (m 5) x y false k).1) < 0 then 40 else 33, [some (.ref 2), some (.int x), some (.int y), some (.int 0), some (.int ((sm_near (m 3) (m 4) (m 5) x y false k).1)), some (.int ((sm_near (m 3) (m 4) (m 5) x y false k).2)), some (.int (nI k)), some (.int (sm_far (m 4 k) (m 5 k) x y))], [], m)) rfl ?_
      refine mz_ifT c1 ?_
      refine mz_go 8 (c' := (9, [some (.ref 2), some (.int x), some (.int y), some (.int 0), some (.int (nI k)), some (.int (sm_far (m 4 k) (m 5 k) x y)), some (.int ((nI k) + 1)), some (.int (sm_far (m 4 k) (m 5 k) x y))], [], m)) rfl ?_
      exact ih2
    · by_cases c2 : sm_far (m 4 k) (m 5 k) x y < (sm_near (m 3) (m 4) (m 5) x y false k).2
      · have hn : sm_near (m 3) (m 4) (m 5) x y false (k + 1) = (nI k, sm_far (m 4 k) (m 5 k) x y) := by
          show (if _ then _ else _) = _
          simp [c1, c2]
        have ih2 := ih (k + 1) (by omega) (some (.int (sm_far (m 4 k) (m 5 k) x y)))
        rw [hn, nI_succ] at ih2
        refine mz_go 3 (c' := (15, [some (.ref 2), some (.int x), some (.int y), some (.int 0), some (.int ((sm_near (m 3) (m 4) (m 5) x y false k).1)), some (.int ((sm_near (m 3) (m 4) (m 5) x y false k).2)), some (.int (nI k)), l7], [.int (m 2 4), .int (nI k)], m)) rfl ?_
        rw [h4]
        refine mz_go 1 (c' := (if (nI N) ≤ (nI k) then 67 else 18, [some (.ref 2), some (.int x), some (.int y), some (.int 0), some (.int ((sm_near (m 3) (m 4) (m 5) x y false k).1)), some (.int ((sm_near (m 3) (m 4) (m 5) x y false k).2)), some (.int (nI k)), l7], [], m)) rfl ?_
        refine mz_ifF (show ¬ ((nI N) ≤ (nI k)) from (sm_nleN rfl rfl (show k < N by omega) (show N < 2 ^ 31 by omega))) ?_
        refine mz_go 4 (c' := (23, [some (.ref 2), some (.int x), some (.int y), some (.int 0), some (.int ((sm_near (m 3) (m 4) (m 5) x y false k).1)), some (.int ((sm_near (m 3) (m 4) (m 5) x y false k).2)), some (.int (nI k)), l7], [.int y, .int x, .int (nI k), .ref 2], m)) rfl ?_
        refine mz_doQ (R := mz_r24) (as := [.ref 2, .int (nI k), .int x, .int y]) (rest := []) (r1 := some (.int (sm_far (m 4 k) (m 5 k) x y))) (m1 := m) mz_t24 mz_v24_2 rfl rfl rfl rfl rfl ((cs_far hN (m := m) h4 (show k < N by omega) x y).deep (by decide)) ?_
        refine mz_go 3 (c' := (if ((sm_near (m 3) (m 4) (m 5) x y false k).1) < 0 then 40 else 33, [some (.ref 2), some (.int x), some (.int y), some (.int 0), some (.int ((sm_near (m 3) (m 4) (m 5) x y false k).1)), some (.int ((sm_near (m 3) (m 4) (m 5) x y false k).2)), some (.int (nI k)), some (.int (sm_far (m 4 k) (m 5 k) x y))], [], m)) rfl ?_
        refine mz_ifF c1 ?_
        refine mz_go 3 (c' := (if ((sm_near (m 3) (m 4) (m 5) x y false k).2) ≤ (sm_far (m 4 k) (m 5 k) x y) then 61 else 40, [some (.ref 2), some (.int x), some (.int y), some (.int 0), some (.int ((sm_near (m 3) (m 4) (m 5) x y false k).1)), some (.int ((sm_near (m 3) (m 4) (m 5) x y false k).2)), some (.int (nI k)), some (.int (sm_far (m 4 k) (m 5 k) x y))], [], m)) rfl ?_
        refine mz_ifF (Int32.not_le.mpr c2) ?_
        refine mz_go 8 (c' := (9, [some (.ref 2), some (.int x), some (.int y), some (.int 0), some (.int (nI k)), some (.int (sm_far (m 4 k) (m 5 k) x y)), some (.int ((nI k) + 1)), some (.int (sm_far (m 4 k) (m 5 k) x y))], [], m)) rfl ?_
        exact ih2
      · have hn : sm_near (m 3) (m 4) (m 5) x y false (k + 1) = sm_near (m 3) (m 4) (m 5) x y false k := by
          show (if _ then _ else _) = _
          simp [c1, c2]
        have ih2 := ih (k + 1) (by omega) (some (.int (sm_far (m 4 k) (m 5 k) x y)))
        rw [hn, nI_succ] at ih2
        refine mz_go 3 (c' := (15, [some (.ref 2), some (.int x), some (.int y), some (.int 0), some (.int ((sm_near (m 3) (m 4) (m 5) x y false k).1)), some (.int ((sm_near (m 3) (m 4) (m 5) x y false k).2)), some (.int (nI k)), l7], [.int (m 2 4), .int (nI k)], m)) rfl ?_
        rw [h4]
        refine mz_go 1 (c' := (if (nI N) ≤ (nI k) then 67 else 18, [some (.ref 2), some (.int x), some (.int y), some (.int 0), some (.int ((sm_near (m 3) (m 4) (m 5) x y false k).1)), some (.int ((sm_near (m 3) (m 4) (m 5) x y false k).2)), some (.int (nI k)), l7], [], m)) rfl ?_
        refine mz_ifF (show ¬ ((nI N) ≤ (nI k)) from (sm_nleN rfl rfl (show k < N by omega) (show N < 2 ^ 31 by omega))) ?_
        refine mz_go 4 (c' := (23, [some (.ref 2), some (.int x), some (.int y), some (.int 0), some (.int ((sm_near (m 3) (m 4) (m 5) x y false k).1)), some (.int ((sm_near (m 3) (m 4) (m 5) x y false k).2)), some (.int (nI k)), l7], [.int y, .int x, .int (nI k), .ref 2], m)) rfl ?_
        refine mz_doQ (R := mz_r24) (as := [.ref 2, .int (nI k), .int x, .int y]) (rest := []) (r1 := some (.int (sm_far (m 4 k) (m 5 k) x y))) (m1 := m) mz_t24 mz_v24_2 rfl rfl rfl rfl rfl ((cs_far hN (m := m) h4 (show k < N by omega) x y).deep (by decide)) ?_
        refine mz_go 3 (c' := (if ((sm_near (m 3) (m 4) (m 5) x y false k).1) < 0 then 40 else 33, [some (.ref 2), some (.int x), some (.int y), some (.int 0), some (.int ((sm_near (m 3) (m 4) (m 5) x y false k).1)), some (.int ((sm_near (m 3) (m 4) (m 5) x y false k).2)), some (.int (nI k)), some (.int (sm_far (m 4 k) (m 5 k) x y))], [], m)) rfl ?_
        refine mz_ifF c1 ?_
        refine mz_go 3 (c' := (if ((sm_near (m 3) (m 4) (m 5) x y false k).2) ≤ (sm_far (m 4 k) (m 5 k) x y) then 61 else 40, [some (.ref 2), some (.int x), some (.int y), some (.int 0), some (.int ((sm_near (m 3) (m 4) (m 5) x y false k).1)), some (.int ((sm_near (m 3) (m 4) (m 5) x y false k).2)), some (.int (nI k)), some (.int (sm_far (m 4 k) (m 5 k) x y))], [], m)) rfl ?_
        refine mz_ifT (Int32.not_lt.mp c2) ?_
        refine mz_go 2 (c' := (9, [some (.ref 2), some (.int x), some (.int y), some (.int 0), some (.int ((sm_near (m 3) (m 4) (m 5) x y false k).1)), some (.int ((sm_near (m 3) (m 4) (m 5) x y false k).2)), some (.int ((nI k) + 1)), some (.int (sm_far (m 4 k) (m 5 k) x y))], [], m)) rfl ?_
        exact ih2
set_option maxHeartbeats 4000000 in
set_option maxRecDepth 100000 in
theorem cs_near0 {m : mz_M} {N : Nat} (hN : N ≤ 6) (h4 : m 2 4 = nI N) (x y : Int32) : mz_Me 10 mz_r25 [.ref 2, .int x, .int y, .int 0] m (some (.int (sm_near (m 3) (m 4) (m 5) x y false N).1)) m := by
  refine ⟨?_, rfl⟩
  refine mz_go 6 (c' := (9, [some (.ref 2), some (.int x), some (.int y), some (.int 0), some (.int (-1)), some (.int 0), some (.int (nI 0)), none], [], m)) rfl ?_
  exact cs_nearl0 hN h4 x y N 0 (by omega) none
set_option maxHeartbeats 4000000 in
set_option maxRecDepth 100000 in
theorem cs_nearl1 {m : mz_M} {N : Nat} (hN : N ≤ 6) (h4 : m 2 4 = nI N) (x y : Int32) : ∀ n k : Nat, k + n = N → ∀ l7 : Option Value, mz_Ex 10 mz_k25 (9, [some (.ref 2), some (.int x), some (.int y), some (.int 1), some (.int ((sm_near (m 3) (m 4) (m 5) x y true k).1)), some (.int ((sm_near (m 3) (m 4) (m 5) x y true k).2)), some (.int (nI k)), l7], [], m) (some (.int (sm_near (m 3) (m 4) (m 5) x y true N).1), m) := by
  intro n
  induction n with
  | zero =>
    intro k hk l7
    have hk2 : k = N := by omega
    subst hk2
    refine mz_go 3 (c' := (15, [some (.ref 2), some (.int x), some (.int y), some (.int 1), some (.int ((sm_near (m 3) (m 4) (m 5) x y true k).1)), some (.int ((sm_near (m 3) (m 4) (m 5) x y true k).2)), some (.int (nI k)), l7], [.int (m 2 4), .int (nI k)], m)) rfl ?_
    rw [h4]
    refine mz_go 1 (c' := (if (nI k) ≤ (nI k) then 67 else 18, [some (.ref 2), some (.int x), some (.int y), some (.int 1), some (.int ((sm_near (m 3) (m 4) (m 5) x y true k).1)), some (.int ((sm_near (m 3) (m 4) (m 5) x y true k).2)), some (.int (nI k)), l7], [], m)) rfl ?_
    refine mz_ifT (show ((nI k) ≤ (nI k)) from (sm_leN rfl rfl (show k ≤ k by omega) (show k < 2 ^ 31 by omega))) ?_
    refine mz_go 1 (c' := (69, [some (.ref 2), some (.int x), some (.int y), some (.int 1), some (.int ((sm_near (m 3) (m 4) (m 5) x y true k).1)), some (.int ((sm_near (m 3) (m 4) (m 5) x y true k).2)), some (.int (nI k)), l7], [.int ((sm_near (m 3) (m 4) (m 5) x y true k).1)], m)) rfl ?_
    exact mz_ret rfl
  | succ n ih =>
    intro k hk l7
    by_cases c1 : (sm_near (m 3) (m 4) (m 5) x y true k).1 < 0
    · by_cases c3 : sm_push (m 3 k) = true
      · have hn : sm_near (m 3) (m 4) (m 5) x y true (k + 1) = sm_near (m 3) (m 4) (m 5) x y true k := by
          show (if _ then _ else _) = _
          simp [c1, c3]
        have ih2 := ih (k + 1) (by omega) (some (.int (sm_far (m 4 k) (m 5 k) x y)))
        rw [hn, nI_succ] at ih2
        refine mz_go 3 (c' := (15, [some (.ref 2), some (.int x), some (.int y), some (.int 1), some (.int ((sm_near (m 3) (m 4) (m 5) x y true k).1)), some (.int ((sm_near (m 3) (m 4) (m 5) x y true k).2)), some (.int (nI k)), l7], [.int (m 2 4), .int (nI k)], m)) rfl ?_
        rw [h4]
        refine mz_go 1 (c' := (if (nI N) ≤ (nI k) then 67 else 18, [some (.ref 2), some (.int x), some (.int y), some (.int 1), some (.int ((sm_near (m 3) (m 4) (m 5) x y true k).1)), some (.int ((sm_near (m 3) (m 4) (m 5) x y true k).2)), some (.int (nI k)), l7], [], m)) rfl ?_
        refine mz_ifF (show ¬ ((nI N) ≤ (nI k)) from (sm_nleN rfl rfl (show k < N by omega) (show N < 2 ^ 31 by omega))) ?_
        refine mz_go 4 (c' := (23, [some (.ref 2), some (.int x), some (.int y), some (.int 1), some (.int ((sm_near (m 3) (m 4) (m 5) x y true k).1)), some (.int ((sm_near (m 3) (m 4) (m 5) x y true k).2)), some (.int (nI k)), l7], [.int y, .int x, .int (nI k), .ref 2], m)) rfl ?_
        refine mz_doQ (R := mz_r24) (as := [.ref 2, .int (nI k), .int x, .int y]) (rest := []) (r1 := some (.int (sm_far (m 4 k) (m 5 k) x y))) (m1 := m) mz_t24 mz_v24_2 rfl rfl rfl rfl rfl ((cs_far hN (m := m) h4 (show k < N by omega) x y).deep (by decide)) ?_
        refine mz_go 3 (c' := (if ((sm_near (m 3) (m 4) (m 5) x y true k).1) < 0 then 40 else 33, [some (.ref 2), some (.int x), some (.int y), some (.int 1), some (.int ((sm_near (m 3) (m 4) (m 5) x y true k).1)), some (.int ((sm_near (m 3) (m 4) (m 5) x y true k).2)), some (.int (nI k)), some (.int (sm_far (m 4 k) (m 5 k) x y))], [], m)) rfl ?_
        refine mz_ifT c1 ?_
        refine mz_go 4 (c' := (47, [some (.ref 2), some (.int x), some (.int y), some (.int 1), some (.int ((sm_near (m 3) (m 4) (m 5) x y true k).1)), some (.int ((sm_near (m 3) (m 4) (m 5) x y true k).2)), some (.int (nI k)), some (.int (sm_far (m 4 k) (m 5 k) x y))], [.int (nI k), .ref 2], m)) rfl ?_
        refine mz_doQ (R := mz_r26) (as := [.ref 2, .int (nI k)]) (rest := []) (r1 := some (.int (sm_bI (sm_push (m 3 k))))) (m1 := m) mz_t26 mz_v26_2 rfl rfl rfl rfl rfl ((cs_pushes hN (m := m) h4 (show k < N by omega)).deep (by decide)) ?_
        refine mz_go 1 (c' := (if (sm_bI (sm_push (m 3 k))) = 0 then 53 else 61, [some (.ref 2), some (.int x), some (.int y), some (.int 1), some (.int ((sm_near (m 3) (m 4) (m 5) x y true k).1)), some (.int ((sm_near (m 3) (m 4) (m 5) x y true k).2)), some (.int (nI k)), some (.int (sm_far (m 4 k) (m 5 k) x y))], [], m)) rfl ?_
        refine mz_ifF (by rw [c3]; decide) ?_
        refine mz_go 2 (c' := (9, [some (.ref 2), some (.int x), some (.int y), some (.int 1), some (.int ((sm_near (m 3) (m 4) (m 5) x y true k).1)), some (.int ((sm_near (m 3) (m 4) (m 5) x y true k).2)), some (.int ((nI k) + 1)), some (.int (sm_far (m 4 k) (m 5 k) x y))], [], m)) rfl ?_
        exact ih2
      · have hn : sm_near (m 3) (m 4) (m 5) x y true (k + 1) = (nI k, sm_far (m 4 k) (m 5 k) x y) := by
          show (if _ then _ else _) = _
          simp [c1, c3]
        have ih2 := ih (k + 1) (by omega) (some (.int (sm_far (m 4 k) (m 5 k) x y)))
        rw [hn, nI_succ] at ih2
        refine mz_go 3 (c' := (15, [some (.ref 2), some (.int x), some (.int y), some (.int 1), some (.int ((sm_near (m 3) (m 4) (m 5) x y true k).1)), some (.int ((sm_near (m 3) (m 4) (m 5) x y true k).2)), some (.int (nI k)), l7], [.int (m 2 4), .int (nI k)], m)) rfl ?_
        rw [h4]
        refine mz_go 1 (c' := (if (nI N) ≤ (nI k) then 67 else 18, [some (.ref 2), some (.int x), some (.int y), some (.int 1), some (.int ((sm_near (m 3) (m 4) (m 5) x y true k).1)), some (.int ((sm_near (m 3) (m 4) (m 5) x y true k).2)), some (.int (nI k)), l7], [], m)) rfl ?_
        refine mz_ifF (show ¬ ((nI N) ≤ (nI k)) from (sm_nleN rfl rfl (show k < N by omega) (show N < 2 ^ 31 by omega))) ?_
        refine mz_go 4 (c' := (23, [some (.ref 2), some (.int x), some (.int y), some (.int 1), some (.int ((sm_near (m 3) (m 4) (m 5) x y true k).1)), some (.int ((sm_near (m 3) (m 4) (m 5) x y true k).2)), some (.int (nI k)), l7], [.int y, .int x, .int (nI k), .ref 2], m)) rfl ?_
        refine mz_doQ (R := mz_r24) (as := [.ref 2, .int (nI k), .int x, .int y]) (rest := []) (r1 := some (.int (sm_far (m 4 k) (m 5 k) x y))) (m1 := m) mz_t24 mz_v24_2 rfl rfl rfl rfl rfl ((cs_far hN (m := m) h4 (show k < N by omega) x y).deep (by decide)) ?_
        refine mz_go 3 (c' := (if ((sm_near (m 3) (m 4) (m 5) x y true k).1) < 0 then 40 else 33, [some (.ref 2), some (.int x), some (.int y), some (.int 1), some (.int ((sm_near (m 3) (m 4) (m 5) x y true k).1)), some (.int ((sm_near (m 3) (m 4) (m 5) x y true k).2)), some (.int (nI k)), some (.int (sm_far (m 4 k) (m 5 k) x y))], [], m)) rfl ?_
        refine mz_ifT c1 ?_
        refine mz_go 4 (c' := (47, [some (.ref 2), some (.int x), some (.int y), some (.int 1), some (.int ((sm_near (m 3) (m 4) (m 5) x y true k).1)), some (.int ((sm_near (m 3) (m 4) (m 5) x y true k).2)), some (.int (nI k)), some (.int (sm_far (m 4 k) (m 5 k) x y))], [.int (nI k), .ref 2], m)) rfl ?_
        refine mz_doQ (R := mz_r26) (as := [.ref 2, .int (nI k)]) (rest := []) (r1 := some (.int (sm_bI (sm_push (m 3 k))))) (m1 := m) mz_t26 mz_v26_2 rfl rfl rfl rfl rfl ((cs_pushes hN (m := m) h4 (show k < N by omega)).deep (by decide)) ?_
        refine mz_go 1 (c' := (if (sm_bI (sm_push (m 3 k))) = 0 then 53 else 61, [some (.ref 2), some (.int x), some (.int y), some (.int 1), some (.int ((sm_near (m 3) (m 4) (m 5) x y true k).1)), some (.int ((sm_near (m 3) (m 4) (m 5) x y true k).2)), some (.int (nI k)), some (.int (sm_far (m 4 k) (m 5 k) x y))], [], m)) rfl ?_
        refine mz_ifT (by rw [Bool.not_eq_true] at c3; rw [c3]; rfl) ?_
        refine mz_go 6 (c' := (9, [some (.ref 2), some (.int x), some (.int y), some (.int 1), some (.int (nI k)), some (.int (sm_far (m 4 k) (m 5 k) x y)), some (.int ((nI k) + 1)), some (.int (sm_far (m 4 k) (m 5 k) x y))], [], m)) rfl ?_
        exact ih2
    · by_cases c2 : sm_far (m 4 k) (m 5 k) x y < (sm_near (m 3) (m 4) (m 5) x y true k).2
      · by_cases c3 : sm_push (m 3 k) = true
        · have hn : sm_near (m 3) (m 4) (m 5) x y true (k + 1) = sm_near (m 3) (m 4) (m 5) x y true k := by
            show (if _ then _ else _) = _
            simp [c1, c2, c3]
          have ih2 := ih (k + 1) (by omega) (some (.int (sm_far (m 4 k) (m 5 k) x y)))
          rw [hn, nI_succ] at ih2
          refine mz_go 3 (c' := (15, [some (.ref 2), some (.int x), some (.int y), some (.int 1), some (.int ((sm_near (m 3) (m 4) (m 5) x y true k).1)), some (.int ((sm_near (m 3) (m 4) (m 5) x y true k).2)), some (.int (nI k)), l7], [.int (m 2 4), .int (nI k)], m)) rfl ?_
          rw [h4]
          refine mz_go 1 (c' := (if (nI N) ≤ (nI k) then 67 else 18, [some (.ref 2), some (.int x), some (.int y), some (.int 1), some (.int ((sm_near (m 3) (m 4) (m 5) x y true k).1)), some (.int ((sm_near (m 3) (m 4) (m 5) x y true k).2)), some (.int (nI k)), l7], [], m)) rfl ?_
          refine mz_ifF (show ¬ ((nI N) ≤ (nI k)) from (sm_nleN rfl rfl (show k < N by omega) (show N < 2 ^ 31 by omega))) ?_
          refine mz_go 4 (c' := (23, [some (.ref 2), some (.int x), some (.int y), some (.int 1), some (.int ((sm_near (m 3) (m 4) (m 5) x y true k).1)), some (.int ((sm_near (m 3) (m 4) (m 5) x y true k).2)), some (.int (nI k)), l7], [.int y, .int x, .int (nI k), .ref 2], m)) rfl ?_
          refine mz_doQ (R := mz_r24) (as := [.ref 2, .int (nI k), .int x, .int y]) (rest := []) (r1 := some (.int (sm_far (m 4 k) (m 5 k) x y))) (m1 := m) mz_t24 mz_v24_2 rfl rfl rfl rfl rfl ((cs_far hN (m := m) h4 (show k < N by omega) x y).deep (by decide)) ?_
          refine mz_go 3 (c' := (if ((sm_near (m 3) (m 4) (m 5) x y true k).1) < 0 then 40 else 33, [some (.ref 2), some (.int x), some (.int y), some (.int 1), some (.int ((sm_near (m 3) (m 4) (m 5) x y true k).1)), some (.int ((sm_near (m 3) (m 4) (m 5) x y true k).2)), some (.int (nI k)), some (.int (sm_far (m 4 k) (m 5 k) x y))], [], m)) rfl ?_
          refine mz_ifF c1 ?_
          refine mz_go 3 (c' := (if ((sm_near (m 3) (m 4) (m 5) x y true k).2) ≤ (sm_far (m 4 k) (m 5 k) x y) then 61 else 40, [some (.ref 2), some (.int x), some (.int y), some (.int 1), some (.int ((sm_near (m 3) (m 4) (m 5) x y true k).1)), some (.int ((sm_near (m 3) (m 4) (m 5) x y true k).2)), some (.int (nI k)), some (.int (sm_far (m 4 k) (m 5 k) x y))], [], m)) rfl ?_
          refine mz_ifF (Int32.not_le.mpr c2) ?_
          refine mz_go 4 (c' := (47, [some (.ref 2), some (.int x), some (.int y), some (.int 1), some (.int ((sm_near (m 3) (m 4) (m 5) x y true k).1)), some (.int ((sm_near (m 3) (m 4) (m 5) x y true k).2)), some (.int (nI k)), some (.int (sm_far (m 4 k) (m 5 k) x y))], [.int (nI k), .ref 2], m)) rfl ?_
          refine mz_doQ (R := mz_r26) (as := [.ref 2, .int (nI k)]) (rest := []) (r1 := some (.int (sm_bI (sm_push (m 3 k))))) (m1 := m) mz_t26 mz_v26_2 rfl rfl rfl rfl rfl ((cs_pushes hN (m := m) h4 (show k < N by omega)).deep (by decide)) ?_
          refine mz_go 1 (c' := (if (sm_bI (sm_push (m 3 k))) = 0 then 53 else 61, [some (.ref 2), some (.int x), some (.int y), some (.int 1), some (.int ((sm_near (m 3) (m 4) (m 5) x y true k).1)), some (.int ((sm_near (m 3) (m 4) (m 5) x y true k).2)), some (.int (nI k)), some (.int (sm_far (m 4 k) (m 5 k) x y))], [], m)) rfl ?_
          refine mz_ifF (by rw [c3]; decide) ?_
          refine mz_go 2 (c' := (9, [some (.ref 2), some (.int x), some (.int y), some (.int 1), some (.int ((sm_near (m 3) (m 4) (m 5) x y true k).1)), some (.int ((sm_near (m 3) (m 4) (m 5) x y true k).2)), some (.int ((nI k) + 1)), some (.int (sm_far (m 4 k) (m 5 k) x y))], [], m)) rfl ?_
          exact ih2
        · have hn : sm_near (m 3) (m 4) (m 5) x y true (k + 1) = (nI k, sm_far (m 4 k) (m 5 k) x y) := by
            show (if _ then _ else _) = _
            simp [c1, c2, c3]
          have ih2 := ih (k + 1) (by omega) (some (.int (sm_far (m 4 k) (m 5 k) x y)))
          rw [hn, nI_succ] at ih2
          refine mz_go 3 (c' := (15, [some (.ref 2), some (.int x), some (.int y), some (.int 1), some (.int ((sm_near (m 3) (m 4) (m 5) x y true k).1)), some (.int ((sm_near (m 3) (m 4) (m 5) x y true k).2)), some (.int (nI k)), l7], [.int (m 2 4), .int (nI k)], m)) rfl ?_
          rw [h4]
          refine mz_go 1 (c' := (if (nI N) ≤ (nI k) then 67 else 18, [some (.ref 2), some (.int x), some (.int y), some (.int 1), some (.int ((sm_near (m 3) (m 4) (m 5) x y true k).1)), some (.int ((sm_near (m 3) (m 4) (m 5) x y true k).2)), some (.int (nI k)), l7], [], m)) rfl ?_
          refine mz_ifF (show ¬ ((nI N) ≤ (nI k)) from (sm_nleN rfl rfl (show k < N by omega) (show N < 2 ^ 31 by omega))) ?_
          refine mz_go 4 (c' := (23, [some (.ref 2), some (.int x), some (.int y), some (.int 1), some (.int ((sm_near (m 3) (m 4) (m 5) x y true k).1)), some (.int ((sm_near (m 3) (m 4) (m 5) x y true k).2)), some (.int (nI k)), l7], [.int y, .int x, .int (nI k), .ref 2], m)) rfl ?_
          refine mz_doQ (R := mz_r24) (as := [.ref 2, .int (nI k), .int x, .int y]) (rest := []) (r1 := some (.int (sm_far (m 4 k) (m 5 k) x y))) (m1 := m) mz_t24 mz_v24_2 rfl rfl rfl rfl rfl ((cs_far hN (m := m) h4 (show k < N by omega) x y).deep (by decide)) ?_
          refine mz_go 3 (c' := (if ((sm_near (m 3) (m 4) (m 5) x y true k).1) < 0 then 40 else 33, [some (.ref 2), some (.int x), some (.int y), some (.int 1), some (.int ((sm_near (m 3) (m 4) (m 5) x y true k).1)), some (.int ((sm_near (m 3) (m 4) (m 5) x y true k).2)), some (.int (nI k)), some (.int (sm_far (m 4 k) (m 5 k) x y))], [], m)) rfl ?_
          refine mz_ifF c1 ?_
          refine mz_go 3 (c' := (if ((sm_near (m 3) (m 4) (m 5) x y true k).2) ≤ (sm_far (m 4 k) (m 5 k) x y) then 61 else 40, [some (.ref 2), some (.int x), some (.int y), some (.int 1), some (.int ((sm_near (m 3) (m 4) (m 5) x y true k).1)), some (.int ((sm_near (m 3) (m 4) (m 5) x y true k).2)), some (.int (nI k)), some (.int (sm_far (m 4 k) (m 5 k) x y))], [], m)) rfl ?_
          refine mz_ifF (Int32.not_le.mpr c2) ?_
          refine mz_go 4 (c' := (47, [some (.ref 2), some (.int x), some (.int y), some (.int 1), some (.int ((sm_near (m 3) (m 4) (m 5) x y true k).1)), some (.int ((sm_near (m 3) (m 4) (m 5) x y true k).2)), some (.int (nI k)), some (.int (sm_far (m 4 k) (m 5 k) x y))], [.int (nI k), .ref 2], m)) rfl ?_
          refine mz_doQ (R := mz_r26) (as := [.ref 2, .int (nI k)]) (rest := []) (r1 := some (.int (sm_bI (sm_push (m 3 k))))) (m1 := m) mz_t26 mz_v26_2 rfl rfl rfl rfl rfl ((cs_pushes hN (m := m) h4 (show k < N by omega)).deep (by decide)) ?_
          refine mz_go 1 (c' := (if (sm_bI (sm_push (m 3 k))) = 0 then 53 else 61, [some (.ref 2), some (.int x), some (.int y), some (.int 1), some (.int ((sm_near (m 3) (m 4) (m 5) x y true k).1)), some (.int ((sm_near (m 3) (m 4) (m 5) x y true k).2)), some (.int (nI k)), some (.int (sm_far (m 4 k) (m 5 k) x y))], [], m)) rfl ?_
          refine mz_ifT (by rw [Bool.not_eq_true] at c3; rw [c3]; rfl) ?_
          refine mz_go 6 (c' := (9, [some (.ref 2), some (.int x), some (.int y), some (.int 1), some (.int (nI k)), some (.int (sm_far (m 4 k) (m 5 k) x y)), some (.int ((nI k) + 1)), some (.int (sm_far (m 4 k) (m 5 k) x y))], [], m)) rfl ?_
          exact ih2
      · have hn : sm_near (m 3) (m 4) (m 5) x y true (k + 1) = sm_near (m 3) (m 4) (m 5) x y true k := by
          show (if _ then _ else _) = _
          simp [c1, c2]
        have ih2 := ih (k + 1) (by omega) (some (.int (sm_far (m 4 k) (m 5 k) x y)))
        rw [hn, nI_succ] at ih2
        refine mz_go 3 (c' := (15, [some (.ref 2), some (.int x), some (.int y), some (.int 1), some (.int ((sm_near (m 3) (m 4) (m 5) x y true k).1)), some (.int ((sm_near (m 3) (m 4) (m 5) x y true k).2)), some (.int (nI k)), l7], [.int (m 2 4), .int (nI k)], m)) rfl ?_
        rw [h4]
        refine mz_go 1 (c' := (if (nI N) ≤ (nI k) then 67 else 18, [some (.ref 2), some (.int x), some (.int y), some (.int 1), some (.int ((sm_near (m 3) (m 4) (m 5) x y true k).1)), some (.int ((sm_near (m 3) (m 4) (m 5) x y true k).2)), some (.int (nI k)), l7], [], m)) rfl ?_
        refine mz_ifF (show ¬ ((nI N) ≤ (nI k)) from (sm_nleN rfl rfl (show k < N by omega) (show N < 2 ^ 31 by omega))) ?_
        refine mz_go 4 (c' := (23, [some (.ref 2), some (.int x), some (.int y), some (.int 1), some (.int ((sm_near (m 3) (m 4) (m 5) x y true k).1)), some (.int ((sm_near (m 3) (m 4) (m 5) x y true k).2)), some (.int (nI k)), l7], [.int y, .int x, .int (nI k), .ref 2], m)) rfl ?_
        refine mz_doQ (R := mz_r24) (as := [.ref 2, .int (nI k), .int x, .int y]) (rest := []) (r1 := some (.int (sm_far (m 4 k) (m 5 k) x y))) (m1 := m) mz_t24 mz_v24_2 rfl rfl rfl rfl rfl ((cs_far hN (m := m) h4 (show k < N by omega) x y).deep (by decide)) ?_
        refine mz_go 3 (c' := (if ((sm_near (m 3) (m 4) (m 5) x y true k).1) < 0 then 40 else 33, [some (.ref 2), some (.int x), some (.int y), some (.int 1), some (.int ((sm_near (m 3) (m 4) (m 5) x y true k).1)), some (.int ((sm_near (m 3) (m 4) (m 5) x y true k).2)), some (.int (nI k)), some (.int (sm_far (m 4 k) (m 5 k) x y))], [], m)) rfl ?_
        refine mz_ifF c1 ?_
        refine mz_go 3 (c' := (if ((sm_near (m 3) (m 4) (m 5) x y true k).2) ≤ (sm_far (m 4 k) (m 5 k) x y) then 61 else 40, [some (.ref 2), some (.int x), some (.int y), some (.int 1), some (.int ((sm_near (m 3) (m 4) (m 5) x y true k).1)), some (.int ((sm_near (m 3) (m 4) (m 5) x y true k).2)), some (.int (nI k)), some (.int (sm_far (m 4 k) (m 5 k) x y))], [], m)) rfl ?_
        refine mz_ifT (Int32.not_lt.mp c2) ?_
        refine mz_go 2 (c' := (9, [some (.ref 2), some (.int x), some (.int y), some (.int 1), some (.int ((sm_near (m 3) (m 4) (m 5) x y true k).1)), some (.int ((sm_near (m 3) (m 4) (m 5) x y true k).2)), some (.int ((nI k) + 1)), some (.int (sm_far (m 4 k) (m 5 k) x y))], [], m)) rfl ?_
        exact ih2
set_option maxHeartbeats 4000000 in
set_option maxRecDepth 100000 in
theorem cs_near1 {m : mz_M} {N : Nat} (hN : N ≤ 6) (h4 : m 2 4 = nI N) (x y : Int32) : mz_Me 10 mz_r25 [.ref 2, .int x, .int y, .int 1] m (some (.int (sm_near (m 3) (m 4) (m 5) x y true N).1)) m := by
  refine ⟨?_, rfl⟩
  refine mz_go 6 (c' := (9, [some (.ref 2), some (.int x), some (.int y), some (.int 1), some (.int (-1)), some (.int 0), some (.int (nI 0)), none], [], m)) rfl ?_
  exact cs_nearl1 hN h4 x y N 0 (by omega) none
set_option maxHeartbeats 4000000 in
set_option maxRecDepth 100000 in
theorem cs_tog124 {m : mz_M} (a b : Int32) : mz_Me 2 mz_r58 [.int 124, .int a, .int b] m (some (.int (sm_op 124 a b))) m := by
  by_cases h1 : a = 0
  · by_cases h2 : b = 0
    · have hv : sm_op 124 a b = 0 := by
        unfold sm_op sm_bI
        simp [h1, h2]
      rw [hv]
      refine ⟨?_, rfl⟩
      refine mz_go 4 (c' := (if a = 0 then 88 else 92, [some (.int 124), some (.int a), some (.int b)], [], m)) rfl ?_
      refine mz_ifT h1 ?_
      refine mz_go 2 (c' := (if b = 0 then 96 else 92, [some (.int 124), some (.int a), some (.int b)], [], m)) rfl ?_
      refine mz_ifT h2 ?_
      refine mz_go 1 (c' := (97, [some (.int 124), some (.int a), some (.int b)], [.int 0], m)) rfl ?_
      exact mz_ret rfl
    · have hv : sm_op 124 a b = 1 := by
        unfold sm_op sm_bI
        simp [h1, h2]
      rw [hv]
      refine ⟨?_, rfl⟩
      refine mz_go 4 (c' := (if a = 0 then 88 else 92, [some (.int 124), some (.int a), some (.int b)], [], m)) rfl ?_
      refine mz_ifT h1 ?_
      refine mz_go 2 (c' := (if b = 0 then 96 else 92, [some (.int 124), some (.int a), some (.int b)], [], m)) rfl ?_
      refine mz_ifF h2 ?_
      refine mz_go 2 (c' := (97, [some (.int 124), some (.int a), some (.int b)], [.int 1], m)) rfl ?_
      exact mz_ret rfl
  · have hv : sm_op 124 a b = 1 := by
      unfold sm_op sm_bI
      simp [h1]
    rw [hv]
    refine ⟨?_, rfl⟩
    refine mz_go 4 (c' := (if a = 0 then 88 else 92, [some (.int 124), some (.int a), some (.int b)], [], m)) rfl ?_
    refine mz_ifF h1 ?_
    refine mz_go 2 (c' := (97, [some (.int 124), some (.int a), some (.int b)], [.int 1], m)) rfl ?_
    exact mz_ret rfl
set_option maxHeartbeats 4000000 in
set_option maxRecDepth 100000 in
theorem cs_tog38 {m : mz_M} (a b : Int32) : mz_Me 2 mz_r58 [.int 38, .int a, .int b] m (some (.int (sm_op 38 a b))) m := by
  by_cases h1 : a = 0
  · have hv : sm_op 38 a b = 0 := by
      unfold sm_op sm_bI
      simp [h1]
    rw [hv]
    refine ⟨?_, rfl⟩
    refine mz_go 4 (c' := (if a = 0 then 110 else 102, [some (.int 38), some (.int a), some (.int b)], [], m)) rfl ?_
    refine mz_ifT h1 ?_
    refine mz_go 1 (c' := (111, [some (.int 38), some (.int a), some (.int b)], [.int 0], m)) rfl ?_
    exact mz_ret rfl
  · by_cases h2 : b = 0
    · have hv : sm_op 38 a b = 0 := by
        unfold sm_op sm_bI
        simp [h1, h2]
      rw [hv]
      refine ⟨?_, rfl⟩
      refine mz_go 4 (c' := (if a = 0 then 110 else 102, [some (.int 38), some (.int a), some (.int b)], [], m)) rfl ?_
      refine mz_ifF h1 ?_
      refine mz_go 2 (c' := (if b = 0 then 110 else 106, [some (.int 38), some (.int a), some (.int b)], [], m)) rfl ?_
      refine mz_ifT h2 ?_
      refine mz_go 1 (c' := (111, [some (.int 38), some (.int a), some (.int b)], [.int 0], m)) rfl ?_
      exact mz_ret rfl
    · have hv : sm_op 38 a b = 1 := by
        unfold sm_op sm_bI
        simp [h1, h2]
      rw [hv]
      refine ⟨?_, rfl⟩
      refine mz_go 4 (c' := (if a = 0 then 110 else 102, [some (.int 38), some (.int a), some (.int b)], [], m)) rfl ?_
      refine mz_ifF h1 ?_
      refine mz_go 2 (c' := (if b = 0 then 110 else 106, [some (.int 38), some (.int a), some (.int b)], [], m)) rfl ?_
      refine mz_ifF h2 ?_
      refine mz_go 2 (c' := (111, [some (.int 38), some (.int a), some (.int b)], [.int 1], m)) rfl ?_
      exact mz_ret rfl
set_option maxHeartbeats 4000000 in
set_option maxRecDepth 100000 in
theorem cs_tog60 {m : mz_M} (a b : Int32) : mz_Me 2 mz_r58 [.int 60, .int a, .int b] m (some (.int (sm_op 60 a b))) m := by
  by_cases h1 : b ≤ a
  · have hv : sm_op 60 a b = 0 := by
      unfold sm_op sm_bI
      simp [h1, Int32.not_lt.mpr h1]
    rw [hv]
    refine ⟨?_, rfl⟩
    refine mz_go 5 (c' := (if b ≤ a then 121 else 117, [some (.int 60), some (.int a), some (.int b)], [], m)) rfl ?_
    refine mz_ifT h1 ?_
    refine mz_go 1 (c' := (122, [some (.int 60), some (.int a), some (.int b)], [.int 0], m)) rfl ?_
    exact mz_ret rfl
  · have hv : sm_op 60 a b = 1 := by
      unfold sm_op sm_bI
      simp [h1, Int32.not_le.mp h1]
    rw [hv]
    refine ⟨?_, rfl⟩
    refine mz_go 5 (c' := (if b ≤ a then 121 else 117, [some (.int 60), some (.int a), some (.int b)], [], m)) rfl ?_
    refine mz_ifF h1 ?_
    refine mz_go 2 (c' := (122, [some (.int 60), some (.int a), some (.int b)], [.int 1], m)) rfl ?_
    exact mz_ret rfl
set_option maxHeartbeats 4000000 in
set_option maxRecDepth 100000 in
theorem cs_tog61 {m : mz_M} (a b : Int32) : mz_Me 2 mz_r58 [.int 61, .int a, .int b] m (some (.int (sm_op 61 a b))) m := by
  by_cases h1 : a = b
  · have hv : sm_op 61 a b = 1 := by
      unfold sm_op sm_bI
      simp [h1]
    rw [hv]
    refine ⟨?_, rfl⟩
    refine mz_go 5 (c' := (if a = b then 128 else 132, [some (.int 61), some (.int a), some (.int b)], [], m)) rfl ?_
    refine mz_ifT h1 ?_
    refine mz_go 2 (c' := (133, [some (.int 61), some (.int a), some (.int b)], [.int 1], m)) rfl ?_
    exact mz_ret rfl
  · have hv : sm_op 61 a b = 0 := by
      unfold sm_op sm_bI
      simp [h1]
    rw [hv]
    refine ⟨?_, rfl⟩
    refine mz_go 5 (c' := (if a = b then 128 else 132, [some (.int 61), some (.int a), some (.int b)], [], m)) rfl ?_
    refine mz_ifF h1 ?_
    refine mz_go 1 (c' := (133, [some (.int 61), some (.int a), some (.int b)], [.int 0], m)) rfl ?_
    exact mz_ret rfl
set_option maxHeartbeats 4000000 in
set_option maxRecDepth 100000 in
theorem cs_tog62 {m : mz_M} (a b : Int32) : mz_Me 2 mz_r58 [.int 62, .int a, .int b] m (some (.int (sm_op 62 a b))) m := by
  by_cases h1 : a ≤ b
  · have hv : sm_op 62 a b = 0 := by
      unfold sm_op sm_bI
      simp [h1, Int32.not_lt.mpr h1]
    rw [hv]
    refine ⟨?_, rfl⟩
    refine mz_go 5 (c' := (if a ≤ b then 143 else 139, [some (.int 62), some (.int a), some (.int b)], [], m)) rfl ?_
    refine mz_ifT h1 ?_
    refine mz_go 1 (c' := (144, [some (.int 62), some (.int a), some (.int b)], [.int 0], m)) rfl ?_
    exact mz_ret rfl
  · have hv : sm_op 62 a b = 1 := by
      unfold sm_op sm_bI
      simp [h1, Int32.not_le.mp h1]
    rw [hv]
    refine ⟨?_, rfl⟩
    refine mz_go 5 (c' := (if a ≤ b then 143 else 139, [some (.int 62), some (.int a), some (.int b)], [], m)) rfl ?_
    refine mz_ifF h1 ?_
    refine mz_go 2 (c' := (144, [some (.int 62), some (.int a), some (.int b)], [.int 1], m)) rfl ?_
    exact mz_ret rfl
set_option maxHeartbeats 4000000 in
set_option maxRecDepth 100000 in
theorem cs_tog43 {m : mz_M} (a b : Int32) : mz_Me 2 mz_r58 [.int 43, .int a, .int b] m (some (.int (sm_op 43 a b))) m := by
  have hv : sm_op 43 a b = a + b := by
    unfold sm_op sm_bI
    simp []
  rw [hv]
  refine ⟨?_, rfl⟩
  refine mz_go 5 (c' := (148, [some (.int 43), some (.int a), some (.int b)], [.int (a + b)], m)) rfl ?_
  exact mz_ret rfl
set_option maxHeartbeats 4000000 in
set_option maxRecDepth 100000 in
theorem cs_tog45 {m : mz_M} (a b : Int32) : mz_Me 2 mz_r58 [.int 45, .int a, .int b] m (some (.int (sm_op 45 a b))) m := by
  have hv : sm_op 45 a b = a - b := by
    unfold sm_op sm_bI
    simp []
  rw [hv]
  refine ⟨?_, rfl⟩
  refine mz_go 5 (c' := (152, [some (.int 45), some (.int a), some (.int b)], [.int (a - b)], m)) rfl ?_
  exact mz_ret rfl
set_option maxHeartbeats 4000000 in
set_option maxRecDepth 100000 in
theorem cs_tog42 {m : mz_M} (a b : Int32) : mz_Me 2 mz_r58 [.int 42, .int a, .int b] m (some (.int (sm_op 42 a b))) m := by
  have hv : sm_op 42 a b = a * b := by
    unfold sm_op sm_bI
    simp []
  rw [hv]
  refine ⟨?_, rfl⟩
  refine mz_go 5 (c' := (156, [some (.int 42), some (.int a), some (.int b)], [.int (a * b)], m)) rfl ?_
  exact mz_ret rfl
set_option maxHeartbeats 4000000 in
set_option maxRecDepth 100000 in
theorem cs_tog47 {m : mz_M} (a b : Int32) : mz_Me 2 mz_r58 [.int 47, .int a, .int b] m (some (.int (sm_op 47 a b))) m := by
  by_cases h1 : b = 0
  · have hv : sm_op 47 a b = 0 := by
      unfold sm_op sm_bI
      simp [h1]
    rw [hv]
    refine ⟨?_, rfl⟩
    refine mz_go 4 (c' := (if b = 0 then 161 else 165, [some (.int 47), some (.int a), some (.int b)], [], m)) rfl ?_
    refine mz_ifT h1 ?_
    refine mz_go 2 (c' := (168, [some (.int 47), some (.int a), some (.int b)], [.int 0], m)) rfl ?_
    exact mz_ret rfl
  · have hv : sm_op 47 a b = a / b := by
      unfold sm_op sm_bI
      simp [h1]
    rw [hv]
    refine ⟨?_, rfl⟩
    refine mz_go 4 (c' := (if b = 0 then 161 else 165, [some (.int 47), some (.int a), some (.int b)], [], m)) rfl ?_
    refine mz_ifF h1 ?_
    refine mz_go 2 (c' := (167, [some (.int 47), some (.int a), some (.int b)], [.int b, .int a], m)) rfl ?_
    refine mz_div (c' := (168, [some (.int 47), some (.int a), some (.int b)], [.int (a / b)], m)) rfl h1 ?_
    exact mz_ret rfl
set_option maxHeartbeats 4000000 in
set_option maxRecDepth 100000 in
theorem cs_tog37 {m : mz_M} (a b : Int32) : mz_Me 2 mz_r58 [.int 37, .int a, .int b] m (some (.int (sm_op 37 a b))) m := by
  by_cases h1 : b = 0
  · have hv : sm_op 37 a b = 0 := by
      unfold sm_op sm_bI
      simp [h1]
    rw [hv]
    refine ⟨?_, rfl⟩
    refine mz_go 4 (c' := (if b = 0 then 173 else 177, [some (.int 37), some (.int a), some (.int b)], [], m)) rfl ?_
    refine mz_ifT h1 ?_
    refine mz_go 2 (c' := (180, [some (.int 37), some (.int a), some (.int b)], [.int 0], m)) rfl ?_
    exact mz_ret rfl
  · have hv : sm_op 37 a b = a - a / b * b := by
      unfold sm_op sm_bI
      simp [h1]
    rw [hv]
    refine ⟨?_, rfl⟩
    refine mz_go 4 (c' := (if b = 0 then 173 else 177, [some (.int 37), some (.int a), some (.int b)], [], m)) rfl ?_
    refine mz_ifF h1 ?_
    refine mz_go 2 (c' := (179, [some (.int 37), some (.int a), some (.int b)], [.int b, .int a], m)) rfl ?_
    refine mz_div (c' := (180, [some (.int 37), some (.int a), some (.int b)], [.int (a - a / b * b)], m)) rfl h1 ?_
    exact mz_ret rfl
theorem cs_together {m : mz_M} {s : Int32} (hs : sm_sgn s = true) (a b : Int32) : mz_Me 2 mz_r58 [.int s, .int a, .int b] m (some (.int (sm_op s a b))) m := by
  simp only [sm_sgn, List.contains_cons, List.contains_nil, Bool.or_false, Bool.or_eq_true, beq_iff_eq] at hs
  rcases hs with rfl | rfl | rfl | rfl | rfl | rfl | rfl | rfl | rfl | rfl
  · exact cs_tog124 a b
  · exact cs_tog38 a b
  · exact cs_tog60 a b
  · exact cs_tog61 a b
  · exact cs_tog62 a b
  · exact cs_tog43 a b
  · exact cs_tog45 a b
  · exact cs_tog42 a b
  · exact cs_tog47 a b
  · exact cs_tog37 a b
theorem sm_two (v : Int32) : 2 * (0 - v) = 0 - 2 * v := by rw [Int32.mul_sub]; rfl
theorem sm_max3 {v : Int32} (hv : sm_B 999 v) : sm_max 0 (v - 3) = if 3 < v then v - 3 else 0 := by
  obtain ⟨h1, h2⟩ := hv
  have e : (3 : Int32).toInt = 3 := rfl
  have h3 : (v - 3).toInt = v.toInt - 3 := by rw [sm_sub (by omega) (by omega), e]
  unfold sm_max
  by_cases h : 3 < v
  · rw [if_pos h, if_pos]
    rw [Int32.lt_iff_toInt_lt] at h ⊢
    rw [h3, Int32.toInt_zero]
    omega
  · rw [if_neg h, if_neg]
    rw [Int32.lt_iff_toInt_lt] at h ⊢
    rw [h3, Int32.toInt_zero]
    omega
set_option maxHeartbeats 4000000 in
set_option maxRecDepth 100000 in
theorem cs_kind0 {m : mz_M} {v : Int32} (hv : sm_B 999 v) (r t : Int32) : mz_Me 2 mz_r41 [.int 0, .int v, .int r, .int t] m (some (.int (sm_kind 0 v r t))) m := by
  have hx := sm_two v
  have hv : sm_kind 0 v r t = v := by
    unfold sm_kind
    simp [hx]
  rw [hv]
  refine ⟨?_, rfl⟩
  refine mz_go 12 (c' := (91, [some (.int 0), some (.int v), some (.int r), some (.int t)], [.int v], m)) rfl ?_
  exact mz_ret rfl
set_option maxHeartbeats 4000000 in
set_option maxRecDepth 100000 in
theorem cs_kind1 {m : mz_M} {v : Int32} (hv : sm_B 999 v) (r t : Int32) : mz_Me 2 mz_r41 [.int 1, .int v, .int r, .int t] m (some (.int (sm_kind 1 v r t))) m := by
  have hx := sm_two v
  have hv : sm_kind 1 v r t = v / 2 := by
    unfold sm_kind
    simp [hx]
  rw [hv]
  refine ⟨?_, rfl⟩
  refine mz_go 14 (c' := (71, [some (.int 1), some (.int v), some (.int r), some (.int t)], [.int (v / 2)], m)) rfl ?_
  exact mz_ret rfl
set_option maxHeartbeats 4000000 in
set_option maxRecDepth 100000 in
theorem cs_kind2 {m : mz_M} {v : Int32} (hv : sm_B 999 v) (r t : Int32) : mz_Me 2 mz_r41 [.int 2, .int v, .int r, .int t] m (some (.int (sm_kind 2 v r t))) m := by
  have hx := sm_two v
  have hv : sm_kind 2 v r t = 0 - v := by
    unfold sm_kind
    simp [hx]
  rw [hv]
  refine ⟨?_, rfl⟩
  refine mz_go 14 (c' := (75, [some (.int 2), some (.int v), some (.int r), some (.int t)], [.int (0 - v)], m)) rfl ?_
  exact mz_ret rfl
set_option maxHeartbeats 4000000 in
set_option maxRecDepth 100000 in
theorem cs_kind3 {m : mz_M} {v : Int32} (hv : sm_B 999 v) (r t : Int32) : mz_Me 2 mz_r41 [.int 3, .int v, .int r, .int t] m (some (.int (sm_kind 3 v r t))) m := by
  have hx := sm_two v
  by_cases h1 : (t - t / 2 * 2) = 0
  · have hv : sm_kind 3 v r t = v := by
      unfold sm_kind
      simp [h1, hx]
    rw [hv]
    refine ⟨?_, rfl⟩
    refine mz_go 7 (c' := (if (t - t / 2 * 2) = 0 then 16 else 27, [some (.int 3), some (.int v), some (.int r), some (.int t)], [], m)) rfl ?_
    refine mz_ifT h1 ?_
    refine mz_go 6 (c' := (91, [some (.int 3), some (.int v), some (.int r), some (.int t)], [.int v], m)) rfl ?_
    exact mz_ret rfl
  · have hv : sm_kind 3 v r t = 0 := by
      unfold sm_kind
      simp [h1, hx]
    rw [hv]
    refine ⟨?_, rfl⟩
    refine mz_go 7 (c' := (if (t - t / 2 * 2) = 0 then 16 else 27, [some (.int 3), some (.int v), some (.int r), some (.int t)], [], m)) rfl ?_
    refine mz_ifF h1 ?_
    refine mz_go 1 (c' := (28, [some (.int 3), some (.int v), some (.int r), some (.int t)], [.int 0], m)) rfl ?_
    exact mz_ret rfl
set_option maxHeartbeats 4000000 in
set_option maxRecDepth 100000 in
theorem cs_kind4 {m : mz_M} {v : Int32} (hv : sm_B 999 v) (r t : Int32) : mz_Me 2 mz_r41 [.int 4, .int v, .int r, .int t] m (some (.int (sm_kind 4 v r t))) m := by
  have hx := sm_two v
  by_cases h1 : r ≤ 20
  · have hv : sm_kind 4 v r t = v / 2 := by
      unfold sm_kind
      simp [h1, Int32.not_lt.mpr h1, hx, Int32.not_lt, Int32.not_le]
    rw [hv]
    refine ⟨?_, rfl⟩
    refine mz_go 12 (c' := (if r ≤ 20 then 29 else 27, [some (.int 4), some (.int v), some (.int r), some (.int t)], [], m)) rfl ?_
    refine mz_ifT h1 ?_
    refine mz_go 5 (c' := (71, [some (.int 4), some (.int v), some (.int r), some (.int t)], [.int (v / 2)], m)) rfl ?_
    exact mz_ret rfl
  · have hv : sm_kind 4 v r t = 0 := by
      unfold sm_kind
      simp [h1, Int32.not_le.mp h1, hx, Int32.not_lt, Int32.not_le]
    rw [hv]
    refine ⟨?_, rfl⟩
    refine mz_go 12 (c' := (if r ≤ 20 then 29 else 27, [some (.int 4), some (.int v), some (.int r), some (.int t)], [], m)) rfl ?_
    refine mz_ifF h1 ?_
    refine mz_go 1 (c' := (28, [some (.int 4), some (.int v), some (.int r), some (.int t)], [.int 0], m)) rfl ?_
    exact mz_ret rfl
set_option maxHeartbeats 4000000 in
set_option maxRecDepth 100000 in
theorem cs_kind5 {m : mz_M} {v : Int32} (hv : sm_B 999 v) (r t : Int32) : mz_Me 2 mz_r41 [.int 5, .int v, .int r, .int t] m (some (.int (sm_kind 5 v r t))) m := by
  have hx := sm_max3 hv
  by_cases h1 : (t - t / 2 * 2) = 0
  · have hv : sm_kind 5 v r t = sm_max 0 (v - 3) := by
      unfold sm_kind
      simp [h1, hx]
    rw [hv]
    refine ⟨?_, rfl⟩
    refine mz_go 10 (c' := (if (t - t / 2 * 2) = 0 then 16 else 27, [some (.int 5), some (.int v), some (.int r), some (.int t)], [], m)) rfl ?_
    refine mz_ifT h1 ?_
    refine mz_go 10 (c' := (83, [some (.int 5), some (.int v), some (.int r), some (.int t)], [.int (sm_max 0 (v - 3))], m)) rfl ?_
    exact mz_ret rfl
  · have hv : sm_kind 5 v r t = 0 := by
      unfold sm_kind
      simp [h1, hx]
    rw [hv]
    refine ⟨?_, rfl⟩
    refine mz_go 10 (c' := (if (t - t / 2 * 2) = 0 then 16 else 27, [some (.int 5), some (.int v), some (.int r), some (.int t)], [], m)) rfl ?_
    refine mz_ifF h1 ?_
    refine mz_go 1 (c' := (28, [some (.int 5), some (.int v), some (.int r), some (.int t)], [.int 0], m)) rfl ?_
    exact mz_ret rfl
set_option maxHeartbeats 4000000 in
set_option maxRecDepth 100000 in
theorem cs_kind6 {m : mz_M} {v : Int32} (hv : sm_B 999 v) (r t : Int32) : mz_Me 2 mz_r41 [.int 6, .int v, .int r, .int t] m (some (.int (sm_kind 6 v r t))) m := by
  have hx : sm_kind 6 v r t = 2 * (0 - v) := by
    rw [sm_two]
    rfl
  rw [hx]
  refine ⟨?_, rfl⟩
  refine mz_go 16 (c' := (89, [some (.int 6), some (.int v), some (.int r), some (.int t)], [.int (2 * (0 - v))], m)) rfl ?_
  exact mz_ret rfl
theorem cs_kind {m : mz_M} {k : Nat} (hk : k ≤ 6) {v : Int32} (hv : sm_B 999 v) (r t : Int32) : mz_Me 2 mz_r41 [.int (nI k), .int v, .int r, .int t] m (some (.int (sm_kind (nI k) v r t))) m := by
  rcases (show k = 0 ∨ k = 1 ∨ k = 2 ∨ k = 3 ∨ k = 4 ∨ k = 5 ∨ k = 6 by omega) with rfl | rfl | rfl | rfl | rfl | rfl | rfl
  · exact cs_kind0 hv r t
  · exact cs_kind1 hv r t
  · exact cs_kind2 hv r t
  · exact cs_kind3 hv r t
  · exact cs_kind4 hv r t
  · exact cs_kind5 hv r t
  · exact cs_kind6 hv r t
