set_option maxHeartbeats 4000000 in
set_option maxRecDepth 100000 in
theorem ct_its0 {w m : mz_M} (hr : sm_HR w (m 66)) {I : Nat} (hI : I < 6) : mz_Me 3 mz_r133 [.ref 65, .int (nI I), .int 0] m (some (.int (w 3 I))) m := by
  have hk : m 66 ((30 + 4 * I) + 0) = w 3 I := (hr.2.1 I hI).1
  refine ⟨?_, rfl⟩
  refine mz_go 9 (c' := (12, [some (.ref 65), some (.int (nI I)), some (.int 0)], [.int ((30 + (4 * (nI I))) + 0), .ref 66], m)) rfl ?_
  refine mz_arr (c' := (13, [some (.ref 65), some (.int (nI I)), some (.int 0)], [.int (m 66 (((30 + (4 * (nI I))) + 0).toNatClampNeg))], m)) rfl (show mz_in ((30 + (4 * (nI I))) + 0) 650 = true from sm_inN (sm_addN (sm_addN rfl (sm_mulN rfl rfl)) rfl) (show ((30 + (4 * I)) + 0) < 650 by omega) (by decide)) ?_
  rw [show ((30 + (4 * (nI I))) + 0 : Int32).toNatClampNeg = ((30 + (4 * I)) + 0) from sm_clN (sm_addN (sm_addN rfl (sm_mulN rfl rfl)) rfl) (show ((30 + (4 * I)) + 0) < 2 ^ 31 by omega)]
  rw [hk]
  exact mz_ret rfl
set_option maxHeartbeats 4000000 in
set_option maxRecDepth 100000 in
theorem ct_its1 {w m : mz_M} (hr : sm_HR w (m 66)) {I : Nat} (hI : I < 6) : mz_Me 3 mz_r133 [.ref 65, .int (nI I), .int 1] m (some (.int (w 4 I))) m := by
  have hk : m 66 ((30 + 4 * I) + 1) = w 4 I := (hr.2.1 I hI).2.1
  refine ⟨?_, rfl⟩
  refine mz_go 9 (c' := (12, [some (.ref 65), some (.int (nI I)), some (.int 1)], [.int ((30 + (4 * (nI I))) + 1), .ref 66], m)) rfl ?_
  refine mz_arr (c' := (13, [some (.ref 65), some (.int (nI I)), some (.int 1)], [.int (m 66 (((30 + (4 * (nI I))) + 1).toNatClampNeg))], m)) rfl (show mz_in ((30 + (4 * (nI I))) + 1) 650 = true from sm_inN (sm_addN (sm_addN rfl (sm_mulN rfl rfl)) rfl) (show ((30 + (4 * I)) + 1) < 650 by omega) (by decide)) ?_
  rw [show ((30 + (4 * (nI I))) + 1 : Int32).toNatClampNeg = ((30 + (4 * I)) + 1) from sm_clN (sm_addN (sm_addN rfl (sm_mulN rfl rfl)) rfl) (show ((30 + (4 * I)) + 1) < 2 ^ 31 by omega)]
  rw [hk]
  exact mz_ret rfl
set_option maxHeartbeats 4000000 in
set_option maxRecDepth 100000 in
theorem ct_its2 {w m : mz_M} (hr : sm_HR w (m 66)) {I : Nat} (hI : I < 6) : mz_Me 3 mz_r133 [.ref 65, .int (nI I), .int 2] m (some (.int (w 5 I))) m := by
  have hk : m 66 ((30 + 4 * I) + 2) = w 5 I := (hr.2.1 I hI).2.2.1
  refine ⟨?_, rfl⟩
  refine mz_go 9 (c' := (12, [some (.ref 65), some (.int (nI I)), some (.int 2)], [.int ((30 + (4 * (nI I))) + 2), .ref 66], m)) rfl ?_
  refine mz_arr (c' := (13, [some (.ref 65), some (.int (nI I)), some (.int 2)], [.int (m 66 (((30 + (4 * (nI I))) + 2).toNatClampNeg))], m)) rfl (show mz_in ((30 + (4 * (nI I))) + 2) 650 = true from sm_inN (sm_addN (sm_addN rfl (sm_mulN rfl rfl)) rfl) (show ((30 + (4 * I)) + 2) < 650 by omega) (by decide)) ?_
  rw [show ((30 + (4 * (nI I))) + 2 : Int32).toNatClampNeg = ((30 + (4 * I)) + 2) from sm_clN (sm_addN (sm_addN rfl (sm_mulN rfl rfl)) rfl) (show ((30 + (4 * I)) + 2) < 2 ^ 31 by omega)]
  rw [hk]
  exact mz_ret rfl
set_option maxHeartbeats 4000000 in
set_option maxRecDepth 100000 in
theorem ct_its3 {w m : mz_M} (hr : sm_HR w (m 66)) {I : Nat} (hI : I < 6) : mz_Me 3 mz_r133 [.ref 65, .int (nI I), .int 3] m (some (.int (w 6 I))) m := by
  have hk : m 66 ((30 + 4 * I) + 3) = w 6 I := (hr.2.1 I hI).2.2.2
  refine ⟨?_, rfl⟩
  refine mz_go 9 (c' := (12, [some (.ref 65), some (.int (nI I)), some (.int 3)], [.int ((30 + (4 * (nI I))) + 3), .ref 66], m)) rfl ?_
  refine mz_arr (c' := (13, [some (.ref 65), some (.int (nI I)), some (.int 3)], [.int (m 66 (((30 + (4 * (nI I))) + 3).toNatClampNeg))], m)) rfl (show mz_in ((30 + (4 * (nI I))) + 3) 650 = true from sm_inN (sm_addN (sm_addN rfl (sm_mulN rfl rfl)) rfl) (show ((30 + (4 * I)) + 3) < 650 by omega) (by decide)) ?_
  rw [show ((30 + (4 * (nI I))) + 3 : Int32).toNatClampNeg = ((30 + (4 * I)) + 3) from sm_clN (sm_addN (sm_addN rfl (sm_mulN rfl rfl)) rfl) (show ((30 + (4 * I)) + 3) < 2 ^ 31 by omega)]
  rw [hk]
  exact mz_ret rfl
set_option maxHeartbeats 4000000 in
set_option maxRecDepth 100000 in
theorem ct_size {m : mz_M} (v : Int32) : mz_Me 2 mz_r129 [.int v] m (some (.int (sm_abs v))) m := by
  by_cases h1 : 0 ≤ v
  · have hv : sm_abs v = v := by
      unfold sm_abs
      simp [h1, Int32.not_lt.mpr h1]
    rw [hv]
    refine ⟨?_, rfl⟩
    refine mz_go 2 (c' := (if 0 ≤ v then 9 else 4, [some (.int v)], [], m)) rfl ?_
    refine mz_ifT h1 ?_
    refine mz_go 1 (c' := (10, [some (.int v)], [.int v], m)) rfl ?_
    exact mz_ret rfl
  · have hv : sm_abs v = -v := by
      unfold sm_abs
      simp [h1, Int32.not_le.mp h1]
    rw [hv]
    refine ⟨?_, rfl⟩
    refine mz_go 2 (c' := (if 0 ≤ v then 9 else 4, [some (.int v)], [], m)) rfl ?_
    refine mz_ifF h1 ?_
    refine mz_go 3 (c' := (10, [some (.int v)], [.int (-v)], m)) rfl ?_
    exact mz_ret rfl
set_option maxHeartbeats 4000000 in
set_option maxRecDepth 100000 in
theorem ct_held {m : mz_M} (v a b : Int32) : mz_Me 2 mz_r130 [.int v, .int a, .int b] m (some (.int (sm_held v a b))) m := by
  by_cases h1 : a ≤ v
  · by_cases h2 : v ≤ b
    · have hv : sm_held v a b = v := by
        unfold sm_held
        simp [h1, Int32.not_lt.mpr h1, h2, Int32.not_lt.mpr h2]
      rw [hv]
      refine ⟨?_, rfl⟩
      refine mz_go 3 (c' := (if a ≤ v then 9 else 5, [some (.int v), some (.int a), some (.int b)], [], m)) rfl ?_
      refine mz_ifT h1 ?_
      refine mz_go 3 (c' := (if v ≤ b then 18 else 14, [some (.int v), some (.int a), some (.int b)], [], m)) rfl ?_
      refine mz_ifT h2 ?_
      refine mz_go 1 (c' := (19, [some (.int v), some (.int a), some (.int b)], [.int v], m)) rfl ?_
      exact mz_ret rfl
    · have hv : sm_held v a b = b := by
        unfold sm_held
        simp [h1, Int32.not_lt.mpr h1, h2, Int32.not_le.mp h2]
      rw [hv]
      refine ⟨?_, rfl⟩
      refine mz_go 3 (c' := (if a ≤ v then 9 else 5, [some (.int v), some (.int a), some (.int b)], [], m)) rfl ?_
      refine mz_ifT h1 ?_
      refine mz_go 3 (c' := (if v ≤ b then 18 else 14, [some (.int v), some (.int a), some (.int b)], [], m)) rfl ?_
      refine mz_ifF h2 ?_
      refine mz_go 2 (c' := (19, [some (.int v), some (.int a), some (.int b)], [.int b], m)) rfl ?_
      exact mz_ret rfl
  · have hv : sm_held v a b = a := by
      unfold sm_held
      simp [h1, Int32.not_le.mp h1]
    rw [hv]
    refine ⟨?_, rfl⟩
    refine mz_go 3 (c' := (if a ≤ v then 9 else 5, [some (.int v), some (.int a), some (.int b)], [], m)) rfl ?_
    refine mz_ifF h1 ?_
    refine mz_go 2 (c' := (19, [some (.int v), some (.int a), some (.int b)], [.int a], m)) rfl ?_
    exact mz_ret rfl
set_option maxHeartbeats 4000000 in
set_option maxRecDepth 100000 in
theorem ct_far {w m : mz_M} (hr2 : sm_HR w (m 66)) {I : Nat} (hI : I < 6) : mz_Me 5 mz_r147 [.ref 65, .int (nI I)] m (some (.int (sm_far (w 4 I) (w 5 I) (m 65 4) (m 65 5)))) m := by
  refine ⟨?_, rfl⟩
  refine mz_go 4 (c' := (5, [some (.ref 65), some (.int (nI I))], [.int 1, .int (nI I), .ref 65, .int 16], m)) rfl ?_
  refine mz_doQ (R := mz_r133) (as := [.ref 65, .int (nI I), .int 1]) (rest := [.int 16]) (r1 := some (.int (w 4 I))) (m1 := m) mz_t133 mz_v133_65 rfl rfl rfl rfl rfl ((ct_its1 (w := w) (m := m) hr2 (show I < 6 by omega)).deep (by decide)) ?_
  refine mz_go 4 (c' := (14, [some (.ref 65), some (.int (nI I))], [.int ((16 * (w 4 I)) - (m 65 4))], m)) rfl ?_
  refine mz_doQ (R := mz_r129) (as := [.int ((16 * (w 4 I)) - (m 65 4))]) (rest := []) (r1 := some (.int (sm_abs ((16 * (w 4 I)) - (m 65 4))))) (m1 := m) mz_t129 mz_v129 rfl rfl rfl rfl rfl ((ct_size (m := m) ((16 * (w 4 I)) - (m 65 4))).deep (by decide)) ?_
  refine mz_go 4 (c' := (22, [some (.ref 65), some (.int (nI I))], [.int 2, .int (nI I), .ref 65, .int 16, .int (sm_abs ((16 * (w 4 I)) - (m 65 4)))], m)) rfl ?_
  refine mz_doQ (R := mz_r133) (as := [.ref 65, .int (nI I), .int 2]) (rest := [.int 16, .int (sm_abs ((16 * (w 4 I)) - (m 65 4)))]) (r1 := some (.int (w 5 I))) (m1 := m) mz_t133 mz_v133_65 rfl rfl rfl rfl rfl ((ct_its2 (w := w) (m := m) hr2 (show I < 6 by omega)).deep (by decide)) ?_
  refine mz_go 4 (c' := (31, [some (.ref 65), some (.int (nI I))], [.int ((16 * (w 5 I)) - (m 65 5)), .int (sm_abs ((16 * (w 4 I)) - (m 65 4)))], m)) rfl ?_
  refine mz_doQ (R := mz_r129) (as := [.int ((16 * (w 5 I)) - (m 65 5))]) (rest := [.int (sm_abs ((16 * (w 4 I)) - (m 65 4)))]) (r1 := some (.int (sm_abs ((16 * (w 5 I)) - (m 65 5))))) (m1 := m) mz_t129 mz_v129 rfl rfl rfl rfl rfl ((ct_size (m := m) ((16 * (w 5 I)) - (m 65 5))).deep (by decide)) ?_
  refine mz_go 3 (c' := (38, [some (.ref 65), some (.int (nI I))], [.int (((sm_abs ((16 * (w 4 I)) - (m 65 4))) + (sm_abs ((16 * (w 5 I)) - (m 65 5)))) / 16)], m)) rfl ?_
  exact mz_ret rfl
set_option maxHeartbeats 4000000 in
set_option maxRecDepth 100000 in
theorem ct_under {m : mz_M} (k : Int32) : mz_Me 2 mz_r134 [.int k, .int 2] m (some (.int (sm_bI (sm_push k)))) m := by
  by_cases h1 : k = 2
  · have hv : sm_bI (sm_push k) = 1 := by
      unfold sm_bI sm_push
      simp [h1]
    rw [hv]
    refine ⟨?_, rfl⟩
    refine mz_go 5 (c' := (if k = 2 then 40 else 9, [some (.int k), some (.int 2)], [], m)) rfl ?_
    refine mz_ifT h1 ?_
    refine mz_go 2 (c' := (45, [some (.int k), some (.int 2)], [.int 1], m)) rfl ?_
    exact mz_ret rfl
  · by_cases h2 : k = 6
    · have hv : sm_bI (sm_push k) = 1 := by
        unfold sm_bI sm_push
        simp [h1, h2]
      rw [hv]
      refine ⟨?_, rfl⟩
      refine mz_go 5 (c' := (if k = 2 then 40 else 9, [some (.int k), some (.int 2)], [], m)) rfl ?_
      refine mz_ifF h1 ?_
      refine mz_go 9 (c' := (if k = 6 then 40 else 30, [some (.int k), some (.int 2)], [], m)) rfl ?_
      refine mz_ifT h2 ?_
      refine mz_go 2 (c' := (45, [some (.int k), some (.int 2)], [.int 1], m)) rfl ?_
      exact mz_ret rfl
    · have hv : sm_bI (sm_push k) = 0 := by
        unfold sm_bI sm_push
        simp [h1, h2]
      rw [hv]
      refine ⟨?_, rfl⟩
      refine mz_go 5 (c' := (if k = 2 then 40 else 9, [some (.int k), some (.int 2)], [], m)) rfl ?_
      refine mz_ifF h1 ?_
      refine mz_go 9 (c' := (if k = 6 then 40 else 30, [some (.int k), some (.int 2)], [], m)) rfl ?_
      refine mz_ifF h2 ?_
      refine mz_go 4 (c' := (45, [some (.int k), some (.int 2)], [.int 0], m)) rfl ?_
      exact mz_ret rfl
set_option maxHeartbeats 4000000 in
set_option maxRecDepth 100000 in
theorem ct_nearl1 {w m : mz_M} {N : Nat} (hw : sm_W w N) (hr : sm_HR w (m 66)) : ∀ n k : Nat, k + n = N → ∀ l4 : Option Value, mz_Ex 10 mz_k148 (4, [some (.ref 65), some (.int 1), some (.int ((sm_near (w 3) (w 4) (w 5) (m 65 4) (m 65 5) false k).1)), some (.int (nI k)), l4], [], m) (some (.int (sm_near (w 3) (w 4) (w 5) (m 65 4) (m 65 5) false N).1), m) := by
  have hw2 := hw
  have hr2 := hr
  obtain ⟨hN, h4, hb, hx0, hx1⟩ := hw
  obtain ⟨hr0, hrk, hrr, ht0, ht1, ht2⟩ := hr
  have h0 : m 66 0 = nI N := hr0.trans h4
  intro n
  induction n with
  | zero =>
    intro k hk l4
    have hk2 : k = N := by omega
    subst hk2
    refine mz_go 5 (c' := (11, [some (.ref 65), some (.int 1), some (.int ((sm_near (w 3) (w 4) (w 5) (m 65 4) (m 65 5) false k).1)), some (.int (nI k)), l4], [.int (m 66 0), .int (nI k)], m)) rfl ?_
    rw [h0]
    refine mz_go 1 (c' := (if (nI k) ≤ (nI k) then 72 else 14, [some (.ref 65), some (.int 1), some (.int ((sm_near (w 3) (w 4) (w 5) (m 65 4) (m 65 5) false k).1)), some (.int (nI k)), l4], [], m)) rfl ?_
    refine mz_ifT (show ((nI k) ≤ (nI k)) from (sm_leN rfl rfl (show k ≤ k by omega) (show k < 2 ^ 31 by omega))) ?_
    refine mz_go 1 (c' := (73, [some (.ref 65), some (.int 1), some (.int ((sm_near (w 3) (w 4) (w 5) (m 65 4) (m 65 5) false k).1)), some (.int (nI k)), l4], [.int ((sm_near (w 3) (w 4) (w 5) (m 65 4) (m 65 5) false k).1)], m)) rfl ?_
    exact mz_ret rfl
  | succ n ih =>
    intro k hk l4
    by_cases c1 : (sm_near (w 3) (w 4) (w 5) (m 65 4) (m 65 5) false k).1 < 0
    · have hn : sm_near (w 3) (w 4) (w 5) (m 65 4) (m 65 5) false (k + 1) = (nI k, sm_far (w 4 k) (w 5 k) (m 65 4) (m 65 5)) := by
        show (if _ then _ else _) = _
        simp [c1]
      have ih2 := ih (k + 1) (by omega) (some (.int 1))
      rw [hn, nI_succ] at ih2
      refine mz_go 5 (c' := (11, [some (.ref 65), some (.int 1), some (.int ((sm_near (w 3) (w 4) (w 5) (m 65 4) (m 65 5) false k).1)), some (.int (nI k)), l4], [.int (m 66 0), .int (nI k)], m)) rfl ?_
      rw [h0]
      refine mz_go 1 (c' := (if (nI N) ≤ (nI k) then 72 else 14, [some (.ref 65), some (.int 1), some (.int ((sm_near (w 3) (w 4) (w 5) (m 65 4) (m 65 5) false k).1)), some (.int (nI k)), l4], [], m)) rfl ?_
      refine mz_ifF (show ¬ ((nI N) ≤ (nI k)) from (sm_nleN rfl rfl (show k < N by omega) (show N < 2 ^ 31 by omega))) ?_
      refine mz_go 9 (c' := (if ((sm_near (w 3) (w 4) (w 5) (m 65 4) (m 65 5) false k).1) < 0 then 60 else 47, [some (.ref 65), some (.int 1), some (.int ((sm_near (w 3) (w 4) (w 5) (m 65 4) (m 65 5) false k).1)), some (.int (nI k)), some (.int 1)], [], m)) rfl ?_
      refine mz_ifT c1 ?_
      refine mz_go 5 (c' := (4, [some (.ref 65), some (.int 1), some (.int (nI k)), some (.int ((nI k) + 1)), some (.int 1)], [], m)) rfl ?_
      exact ih2
    · obtain ⟨j, hjk, hj, hf⟩ := sm_near_pos (by omega) c1
      rw [hj]
      by_cases c2 : sm_far (w 4 k) (w 5 k) (m 65 4) (m 65 5) < sm_far (w 4 j) (w 5 j) (m 65 4) (m 65 5)
      · have hn : sm_near (w 3) (w 4) (w 5) (m 65 4) (m 65 5) false (k + 1) = (nI k, sm_far (w 4 k) (w 5 k) (m 65 4) (m 65 5)) := by
          show (if _ then _ else _) = _
          simp [c1, hf, c2]
        have ih2 := ih (k + 1) (by omega) (some (.int 1))
        rw [hn, nI_succ] at ih2
        refine mz_go 5 (c' := (11, [some (.ref 65), some (.int 1), some (.int (nI j)), some (.int (nI k)), l4], [.int (m 66 0), .int (nI k)], m)) rfl ?_
        rw [h0]
        refine mz_go 1 (c' := (if (nI N) ≤ (nI k) then 72 else 14, [some (.ref 65), some (.int 1), some (.int (nI j)), some (.int (nI k)), l4], [], m)) rfl ?_
        refine mz_ifF (show ¬ ((nI N) ≤ (nI k)) from (sm_nleN rfl rfl (show k < N by omega) (show N < 2 ^ 31 by omega))) ?_
        refine mz_go 9 (c' := (if (nI j) < 0 then 60 else 47, [some (.ref 65), some (.int 1), some (.int (nI j)), some (.int (nI k)), some (.int 1)], [], m)) rfl ?_
        refine mz_ifF (show ¬ ((nI j) < 0) from (sm_nltN rfl rfl (show 0 ≤ j by omega) (show j < 2 ^ 31 by omega))) ?_
        refine mz_go 2 (c' := (49, [some (.ref 65), some (.int 1), some (.int (nI j)), some (.int (nI k)), some (.int 1)], [.int (nI k), .ref 65], m)) rfl ?_
        refine mz_doQ (R := mz_r147) (as := [.ref 65, .int (nI k)]) (rest := []) (r1 := some (.int (sm_far (w 4 k) (w 5 k) (m 65 4) (m 65 5)))) (m1 := m) mz_t147 mz_v147_65 rfl rfl rfl rfl rfl ((ct_far (w := w) (m := m) hr2 (show k < 6 by omega)).deep (by decide)) ?_
        refine mz_go 2 (c' := (54, [some (.ref 65), some (.int 1), some (.int (nI j)), some (.int (nI k)), some (.int 1)], [.int (nI j), .ref 65, .int (sm_far (w 4 k) (w 5 k) (m 65 4) (m 65 5))], m)) rfl ?_
        refine mz_doQ (R := mz_r147) (as := [.ref 65, .int (nI j)]) (rest := [.int (sm_far (w 4 k) (w 5 k) (m 65 4) (m 65 5))]) (r1 := some (.int (sm_far (w 4 j) (w 5 j) (m 65 4) (m 65 5)))) (m1 := m) mz_t147 mz_v147_65 rfl rfl rfl rfl rfl ((ct_far (w := w) (m := m) hr2 (show j < 6 by omega)).deep (by decide)) ?_
        refine mz_go 1 (c' := (if (sm_far (w 4 j) (w 5 j) (m 65 4) (m 65 5)) ≤ (sm_far (w 4 k) (w 5 k) (m 65 4) (m 65 5)) then 64 else 60, [some (.ref 65), some (.int 1), some (.int (nI j)), some (.int (nI k)), some (.int 1)], [], m)) rfl ?_
        refine mz_ifF (Int32.not_le.mpr c2) ?_
        refine mz_go 5 (c' := (4, [some (.ref 65), some (.int 1), some (.int (nI k)), some (.int ((nI k) + 1)), some (.int 1)], [], m)) rfl ?_
        exact ih2
      · have hn : sm_near (w 3) (w 4) (w 5) (m 65 4) (m 65 5) false (k + 1) = sm_near (w 3) (w 4) (w 5) (m 65 4) (m 65 5) false k := by
          show (if _ then _ else _) = _
          simp [c1, hf, c2]
        have ih2 := ih (k + 1) (by omega) (some (.int 1))
        rw [hn, nI_succ] at ih2
        rw [hj] at ih2
        refine mz_go 5 (c' := (11, [some (.ref 65), some (.int 1), some (.int (nI j)), some (.int (nI k)), l4], [.int (m 66 0), .int (nI k)], m)) rfl ?_
        rw [h0]
        refine mz_go 1 (c' := (if (nI N) ≤ (nI k) then 72 else 14, [some (.ref 65), some (.int 1), some (.int (nI j)), some (.int (nI k)), l4], [], m)) rfl ?_
        refine mz_ifF (show ¬ ((nI N) ≤ (nI k)) from (sm_nleN rfl rfl (show k < N by omega) (show N < 2 ^ 31 by omega))) ?_
        refine mz_go 9 (c' := (if (nI j) < 0 then 60 else 47, [some (.ref 65), some (.int 1), some (.int (nI j)), some (.int (nI k)), some (.int 1)], [], m)) rfl ?_
        refine mz_ifF (show ¬ ((nI j) < 0) from (sm_nltN rfl rfl (show 0 ≤ j by omega) (show j < 2 ^ 31 by omega))) ?_
        refine mz_go 2 (c' := (49, [some (.ref 65), some (.int 1), some (.int (nI j)), some (.int (nI k)), some (.int 1)], [.int (nI k), .ref 65], m)) rfl ?_
        refine mz_doQ (R := mz_r147) (as := [.ref 65, .int (nI k)]) (rest := []) (r1 := some (.int (sm_far (w 4 k) (w 5 k) (m 65 4) (m 65 5)))) (m1 := m) mz_t147 mz_v147_65 rfl rfl rfl rfl rfl ((ct_far (w := w) (m := m) hr2 (show k < 6 by omega)).deep (by decide)) ?_
        refine mz_go 2 (c' := (54, [some (.ref 65), some (.int 1), some (.int (nI j)), some (.int (nI k)), some (.int 1)], [.int (nI j), .ref 65, .int (sm_far (w 4 k) (w 5 k) (m 65 4) (m 65 5))], m)) rfl ?_
        refine mz_doQ (R := mz_r147) (as := [.ref 65, .int (nI j)]) (rest := [.int (sm_far (w 4 k) (w 5 k) (m 65 4) (m 65 5))]) (r1 := some (.int (sm_far (w 4 j) (w 5 j) (m 65 4) (m 65 5)))) (m1 := m) mz_t147 mz_v147_65 rfl rfl rfl rfl rfl ((ct_far (w := w) (m := m) hr2 (show j < 6 by omega)).deep (by decide)) ?_
        refine mz_go 1 (c' := (if (sm_far (w 4 j) (w 5 j) (m 65 4) (m 65 5)) ≤ (sm_far (w 4 k) (w 5 k) (m 65 4) (m 65 5)) then 64 else 60, [some (.ref 65), some (.int 1), some (.int (nI j)), some (.int (nI k)), some (.int 1)], [], m)) rfl ?_
        refine mz_ifT (Int32.not_lt.mp c2) ?_
        refine mz_go 4 (c' := (4, [some (.ref 65), some (.int 1), some (.int (nI j)), some (.int ((nI k) + 1)), some (.int 1)], [], m)) rfl ?_
        exact ih2
set_option maxHeartbeats 4000000 in
set_option maxRecDepth 100000 in
theorem ct_near1 {w m : mz_M} {N : Nat} (hw : sm_W w N) (hr : sm_HR w (m 66)) : mz_Me 10 mz_r148 [.ref 65, .int 1] m (some (.int (sm_near (w 3) (w 4) (w 5) (m 65 4) (m 65 5) false N).1)) m := by
  refine ⟨?_, rfl⟩
  refine mz_go 4 (c' := (4, [some (.ref 65), some (.int 1), some (.int (-1)), some (.int (nI 0)), none], [], m)) rfl ?_
  have hN := hw.1
  exact ct_nearl1 hw hr N 0 (by omega) none
set_option maxHeartbeats 4000000 in
set_option maxRecDepth 100000 in
theorem ct_nearl0 {w m : mz_M} {N : Nat} (hw : sm_W w N) (hr : sm_HR w (m 66)) : ∀ n k : Nat, k + n = N → ∀ l4 : Option Value, mz_Ex 10 mz_k148 (4, [some (.ref 65), some (.int 0), some (.int ((sm_near (w 3) (w 4) (w 5) (m 65 4) (m 65 5) true k).1)), some (.int (nI k)), l4], [], m) (some (.int (sm_near (w 3) (w 4) (w 5) (m 65 4) (m 65 5) true N).1), m) := by
  have hw2 := hw
  have hr2 := hr
  obtain ⟨hN, h4, hb, hx0, hx1⟩ := hw
  obtain ⟨hr0, hrk, hrr, ht0, ht1, ht2⟩ := hr
  have h0 : m 66 0 = nI N := hr0.trans h4
  intro n
  induction n with
  | zero =>
    intro k hk l4
    have hk2 : k = N := by omega
    subst hk2
    refine mz_go 5 (c' := (11, [some (.ref 65), some (.int 0), some (.int ((sm_near (w 3) (w 4) (w 5) (m 65 4) (m 65 5) true k).1)), some (.int (nI k)), l4], [.int (m 66 0), .int (nI k)], m)) rfl ?_
    rw [h0]
    refine mz_go 1 (c' := (if (nI k) ≤ (nI k) then 72 else 14, [some (.ref 65), some (.int 0), some (.int ((sm_near (w 3) (w 4) (w 5) (m 65 4) (m 65 5) true k).1)), some (.int (nI k)), l4], [], m)) rfl ?_
    refine mz_ifT (show ((nI k) ≤ (nI k)) from (sm_leN rfl rfl (show k ≤ k by omega) (show k < 2 ^ 31 by omega))) ?_
    refine mz_go 1 (c' := (73, [some (.ref 65), some (.int 0), some (.int ((sm_near (w 3) (w 4) (w 5) (m 65 4) (m 65 5) true k).1)), some (.int (nI k)), l4], [.int ((sm_near (w 3) (w 4) (w 5) (m 65 4) (m 65 5) true k).1)], m)) rfl ?_
    exact mz_ret rfl
  | succ n ih =>
    intro k hk l4
    by_cases c3 : sm_push (w 3 k) = true
    · have hn : sm_near (w 3) (w 4) (w 5) (m 65 4) (m 65 5) true (k + 1) = sm_near (w 3) (w 4) (w 5) (m 65 4) (m 65 5) true k := by
        show (if _ then _ else _) = _
        simp [c3]
      have ih2 := ih (k + 1) (by omega) (some (.int 0))
      rw [hn, nI_succ] at ih2
      refine mz_go 5 (c' := (11, [some (.ref 65), some (.int 0), some (.int ((sm_near (w 3) (w 4) (w 5) (m 65 4) (m 65 5) true k).1)), some (.int (nI k)), l4], [.int (m 66 0), .int (nI k)], m)) rfl ?_
      rw [h0]
      refine mz_go 1 (c' := (if (nI N) ≤ (nI k) then 72 else 14, [some (.ref 65), some (.int 0), some (.int ((sm_near (w 3) (w 4) (w 5) (m 65 4) (m 65 5) true k).1)), some (.int (nI k)), l4], [], m)) rfl ?_
      refine mz_ifF (show ¬ ((nI N) ≤ (nI k)) from (sm_nleN rfl rfl (show k < N by omega) (show N < 2 ^ 31 by omega))) ?_
      refine mz_go 5 (c' := (21, [some (.ref 65), some (.int 0), some (.int ((sm_near (w 3) (w 4) (w 5) (m 65 4) (m 65 5) true k).1)), some (.int (nI k)), l4], [.int 0, .int (nI k), .ref 65], m)) rfl ?_
      refine mz_doQ (R := mz_r133) (as := [.ref 65, .int (nI k), .int 0]) (rest := []) (r1 := some (.int (w 3 k))) (m1 := m) mz_t133 mz_v133_65 rfl rfl rfl rfl rfl ((ct_its0 (w := w) (m := m) hr2 (show k < 6 by omega)).deep (by decide)) ?_
      refine mz_go 1 (c' := (25, [some (.ref 65), some (.int 0), some (.int ((sm_near (w 3) (w 4) (w 5) (m 65 4) (m 65 5) true k).1)), some (.int (nI k)), l4], [.int 2, .int (w 3 k)], m)) rfl ?_
      refine mz_doQ (R := mz_r134) (as := [.int (w 3 k), .int 2]) (rest := []) (r1 := some (.int (sm_bI (sm_push (w 3 k))))) (m1 := m) mz_t134 mz_v134 rfl rfl rfl rfl rfl ((ct_under (m := m) (w 3 k)).deep (by decide)) ?_
      refine mz_go 1 (c' := (if (sm_bI (sm_push (w 3 k))) = 0 then 31 else 35, [some (.ref 65), some (.int 0), some (.int ((sm_near (w 3) (w 4) (w 5) (m 65 4) (m 65 5) true k).1)), some (.int (nI k)), l4], [], m)) rfl ?_
      refine mz_ifF (by rw [c3]; decide) ?_
      refine mz_go 8 (c' := (4, [some (.ref 65), some (.int 0), some (.int ((sm_near (w 3) (w 4) (w 5) (m 65 4) (m 65 5) true k).1)), some (.int ((nI k) + 1)), some (.int 0)], [], m)) rfl ?_
      exact ih2
    · by_cases c1 : (sm_near (w 3) (w 4) (w 5) (m 65 4) (m 65 5) true k).1 < 0
      · have hn : sm_near (w 3) (w 4) (w 5) (m 65 4) (m 65 5) true (k + 1) = (nI k, sm_far (w 4 k) (w 5 k) (m 65 4) (m 65 5)) := by
          show (if _ then _ else _) = _
          simp [c3, c1]
        have ih2 := ih (k + 1) (by omega) (some (.int 1))
        rw [hn, nI_succ] at ih2
        refine mz_go 5 (c' := (11, [some (.ref 65), some (.int 0), some (.int ((sm_near (w 3) (w 4) (w 5) (m 65 4) (m 65 5) true k).1)), some (.int (nI k)), l4], [.int (m 66 0), .int (nI k)], m)) rfl ?_
        rw [h0]
        refine mz_go 1 (c' := (if (nI N) ≤ (nI k) then 72 else 14, [some (.ref 65), some (.int 0), some (.int ((sm_near (w 3) (w 4) (w 5) (m 65 4) (m 65 5) true k).1)), some (.int (nI k)), l4], [], m)) rfl ?_
        refine mz_ifF (show ¬ ((nI N) ≤ (nI k)) from (sm_nleN rfl rfl (show k < N by omega) (show N < 2 ^ 31 by omega))) ?_
        refine mz_go 5 (c' := (21, [some (.ref 65), some (.int 0), some (.int ((sm_near (w 3) (w 4) (w 5) (m 65 4) (m 65 5) true k).1)), some (.int (nI k)), l4], [.int 0, .int (nI k), .ref 65], m)) rfl ?_
        refine mz_doQ (R := mz_r133) (as := [.ref 65, .int (nI k), .int 0]) (rest := []) (r1 := some (.int (w 3 k))) (m1 := m) mz_t133 mz_v133_65 rfl rfl rfl rfl rfl ((ct_its0 (w := w) (m := m) hr2 (show k < 6 by omega)).deep (by decide)) ?_
        refine mz_go 1 (c' := (25, [some (.ref 65), some (.int 0), some (.int ((sm_near (w 3) (w 4) (w 5) (m 65 4) (m 65 5) true k).1)), some (.int (nI k)), l4], [.int 2, .int (w 3 k)], m)) rfl ?_
        refine mz_doQ (R := mz_r134) (as := [.int (w 3 k), .int 2]) (rest := []) (r1 := some (.int (sm_bI (sm_push (w 3 k))))) (m1 := m) mz_t134 mz_v134 rfl rfl rfl rfl rfl ((ct_under (m := m) (w 3 k)).deep (by decide)) ?_
        refine mz_go 1 (c' := (if (sm_bI (sm_push (w 3 k))) = 0 then 31 else 35, [some (.ref 65), some (.int 0), some (.int ((sm_near (w 3) (w 4) (w 5) (m 65 4) (m 65 5) true k).1)), some (.int (nI k)), l4], [], m)) rfl ?_
        refine mz_ifT (by rw [Bool.not_eq_true] at c3; rw [c3]; rfl) ?_
        refine mz_go 7 (c' := (if ((sm_near (w 3) (w 4) (w 5) (m 65 4) (m 65 5) true k).1) < 0 then 60 else 47, [some (.ref 65), some (.int 0), some (.int ((sm_near (w 3) (w 4) (w 5) (m 65 4) (m 65 5) true k).1)), some (.int (nI k)), some (.int 1)], [], m)) rfl ?_
        refine mz_ifT c1 ?_
        refine mz_go 5 (c' := (4, [some (.ref 65), some (.int 0), some (.int (nI k)), some (.int ((nI k) + 1)), some (.int 1)], [], m)) rfl ?_
        exact ih2
      · obtain ⟨j, hjk, hj, hf⟩ := sm_near_pos (by omega) c1
        rw [hj]
        by_cases c2 : sm_far (w 4 k) (w 5 k) (m 65 4) (m 65 5) < sm_far (w 4 j) (w 5 j) (m 65 4) (m 65 5)
        · have hn : sm_near (w 3) (w 4) (w 5) (m 65 4) (m 65 5) true (k + 1) = (nI k, sm_far (w 4 k) (w 5 k) (m 65 4) (m 65 5)) := by
            show (if _ then _ else _) = _
            simp [c3, c1, hf, c2]
          have ih2 := ih (k + 1) (by omega) (some (.int 1))
          rw [hn, nI_succ] at ih2
          refine mz_go 5 (c' := (11, [some (.ref 65), some (.int 0), some (.int (nI j)), some (.int (nI k)), l4], [.int (m 66 0), .int (nI k)], m)) rfl ?_
          rw [h0]
          refine mz_go 1 (c' := (if (nI N) ≤ (nI k) then 72 else 14, [some (.ref 65), some (.int 0), some (.int (nI j)), some (.int (nI k)), l4], [], m)) rfl ?_
          refine mz_ifF (show ¬ ((nI N) ≤ (nI k)) from (sm_nleN rfl rfl (show k < N by omega) (show N < 2 ^ 31 by omega))) ?_
          refine mz_go 5 (c' := (21, [some (.ref 65), some (.int 0), some (.int (nI j)), some (.int (nI k)), l4], [.int 0, .int (nI k), .ref 65], m)) rfl ?_
          refine mz_doQ (R := mz_r133) (as := [.ref 65, .int (nI k), .int 0]) (rest := []) (r1 := some (.int (w 3 k))) (m1 := m) mz_t133 mz_v133_65 rfl rfl rfl rfl rfl ((ct_its0 (w := w) (m := m) hr2 (show k < 6 by omega)).deep (by decide)) ?_
          refine mz_go 1 (c' := (25, [some (.ref 65), some (.int 0), some (.int (nI j)), some (.int (nI k)), l4], [.int 2, .int (w 3 k)], m)) rfl ?_
          refine mz_doQ (R := mz_r134) (as := [.int (w 3 k), .int 2]) (rest := []) (r1 := some (.int (sm_bI (sm_push (w 3 k))))) (m1 := m) mz_t134 mz_v134 rfl rfl rfl rfl rfl ((ct_under (m := m) (w 3 k)).deep (by decide)) ?_
          refine mz_go 1 (c' := (if (sm_bI (sm_push (w 3 k))) = 0 then 31 else 35, [some (.ref 65), some (.int 0), some (.int (nI j)), some (.int (nI k)), l4], [], m)) rfl ?_
          refine mz_ifT (by rw [Bool.not_eq_true] at c3; rw [c3]; rfl) ?_
          refine mz_go 7 (c' := (if (nI j) < 0 then 60 else 47, [some (.ref 65), some (.int 0), some (.int (nI j)), some (.int (nI k)), some (.int 1)], [], m)) rfl ?_
          refine mz_ifF (show ¬ ((nI j) < 0) from (sm_nltN rfl rfl (show 0 ≤ j by omega) (show j < 2 ^ 31 by omega))) ?_
          refine mz_go 2 (c' := (49, [some (.ref 65), some (.int 0), some (.int (nI j)), some (.int (nI k)), some (.int 1)], [.int (nI k), .ref 65], m)) rfl ?_
          refine mz_doQ (R := mz_r147) (as := [.ref 65, .int (nI k)]) (rest := []) (r1 := some (.int (sm_far (w 4 k) (w 5 k) (m 65 4) (m 65 5)))) (m1 := m) mz_t147 mz_v147_65 rfl rfl rfl rfl rfl ((ct_far (w := w) (m := m) hr2 (show k < 6 by omega)).deep (by decide)) ?_
          refine mz_go 2 (c' := (54, [some (.ref 65), some (.int 0), some (.int (nI j)), some (.int (nI k)), some (.int 1)], [.int (nI j), .ref 65, .int (sm_far (w 4 k) (w 5 k) (m 65 4) (m 65 5))], m)) rfl ?_
          refine mz_doQ (R := mz_r147) (as := [.ref 65, .int (nI j)]) (rest := [.int (sm_far (w 4 k) (w 5 k) (m 65 4) (m 65 5))]) (r1 := some (.int (sm_far (w 4 j) (w 5 j) (m 65 4) (m 65 5)))) (m1 := m) mz_t147 mz_v147_65 rfl rfl rfl rfl rfl ((ct_far (w := w) (m := m) hr2 (show j < 6 by omega)).deep (by decide)) ?_
          refine mz_go 1 (c' := (if (sm_far (w 4 j) (w 5 j) (m 65 4) (m 65 5)) ≤ (sm_far (w 4 k) (w 5 k) (m 65 4) (m 65 5)) then 64 else 60, [some (.ref 65), some (.int 0), some (.int (nI j)), some (.int (nI k)), some (.int 1)], [], m)) rfl ?_
          refine mz_ifF (Int32.not_le.mpr c2) ?_
          refine mz_go 5 (c' := (4, [some (.ref 65), some (.int 0), some (.int (nI k)), some (.int ((nI k) + 1)), some (.int 1)], [], m)) rfl ?_
          exact ih2
        · have hn : sm_near (w 3) (w 4) (w 5) (m 65 4) (m 65 5) true (k + 1) = sm_near (w 3) (w 4) (w 5) (m 65 4) (m 65 5) true k := by
            show (if _ then _ else _) = _
            simp [c3, c1, hf, c2]
          have ih2 := ih (k + 1) (by omega) (some (.int 1))
          rw [hn, nI_succ] at ih2
          rw [hj] at ih2
          refine mz_go 5 (c' := (11, [some (.ref 65), some (.int 0), some (.int (nI j)), some (.int (nI k)), l4], [.int (m 66 0), .int (nI k)], m)) rfl ?_
          rw [h0]
          refine mz_go 1 (c' := (if (nI N) ≤ (nI k) then 72 else 14, [some (.ref 65), some (.int 0), some (.int (nI j)), some (.int (nI k)), l4], [], m)) rfl ?_
          refine mz_ifF (show ¬ ((nI N) ≤ (nI k)) from (sm_nleN rfl rfl (show k < N by omega) (show N < 2 ^ 31 by omega))) ?_
          refine mz_go 5 (c' := (21, [some (.ref 65), some (.int 0), some (.int (nI j)), some (.int (nI k)), l4], [.int 0, .int (nI k), .ref 65], m)) rfl ?_
          refine mz_doQ (R := mz_r133) (as := [.ref 65, .int (nI k), .int 0]) (rest := []) (r1 := some (.int (w 3 k))) (m1 := m) mz_t133 mz_v133_65 rfl rfl rfl rfl rfl ((ct_its0 (w := w) (m := m) hr2 (show k < 6 by omega)).deep (by decide)) ?_
          refine mz_go 1 (c' := (25, [some (.ref 65), some (.int 0), some (.int (nI j)), some (.int (nI k)), l4], [.int 2, .int (w 3 k)], m)) rfl ?_
          refine mz_doQ (R := mz_r134) (as := [.int (w 3 k), .int 2]) (rest := []) (r1 := some (.int (sm_bI (sm_push (w 3 k))))) (m1 := m) mz_t134 mz_v134 rfl rfl rfl rfl rfl ((ct_under (m := m) (w 3 k)).deep (by decide)) ?_
          refine mz_go 1 (c' := (if (sm_bI (sm_push (w 3 k))) = 0 then 31 else 35, [some (.ref 65), some (.int 0), some (.int (nI j)), some (.int (nI k)), l4], [], m)) rfl ?_
          refine mz_ifT (by rw [Bool.not_eq_true] at c3; rw [c3]; rfl) ?_
          refine mz_go 7 (c' := (if (nI j) < 0 then 60 else 47, [some (.ref 65), some (.int 0), some (.int (nI j)), some (.int (nI k)), some (.int 1)], [], m)) rfl ?_
          refine mz_ifF (show ¬ ((nI j) < 0) from (sm_nltN rfl rfl (show 0 ≤ j by omega) (show j < 2 ^ 31 by omega))) ?_
          refine mz_go 2 (c' := (49, [some (.ref 65), some (.int 0), some (.int (nI j)), some (.int (nI k)), some (.int 1)], [.int (nI k), .ref 65], m)) rfl ?_
          refine mz_doQ (R := mz_r147) (as := [.ref 65, .int (nI k)]) (rest := []) (r1 := some (.int (sm_far (w 4 k) (w 5 k) (m 65 4) (m 65 5)))) (m1 := m) mz_t147 mz_v147_65 rfl rfl rfl rfl rfl ((ct_far (w := w) (m := m) hr2 (show k < 6 by omega)).deep (by decide)) ?_
          refine mz_go 2 (c' := (54, [some (.ref 65), some (.int 0), some (.int (nI j)), some (.int (nI k)), some (.int 1)], [.int (nI j), .ref 65, .int (sm_far (w 4 k) (w 5 k) (m 65 4) (m 65 5))], m)) rfl ?_
          refine mz_doQ (R := mz_r147) (as := [.ref 65, .int (nI j)]) (rest := [.int (sm_far (w 4 k) (w 5 k) (m 65 4) (m 65 5))]) (r1 := some (.int (sm_far (w 4 j) (w 5 j) (m 65 4) (m 65 5)))) (m1 := m) mz_t147 mz_v147_65 rfl rfl rfl rfl rfl ((ct_far (w := w) (m := m) hr2 (show j < 6 by omega)).deep (by decide)) ?_
          refine mz_go 1 (c' := (if (sm_far (w 4 j) (w 5 j) (m 65 4) (m 65 5)) ≤ (sm_far (w 4 k) (w 5 k) (m 65 4) (m 65 5)) then 64 else 60, [some (.ref 65), some (.int 0), some (.int (nI j)), some (.int (nI k)), some (.int 1)], [], m)) rfl ?_
          refine mz_ifT (Int32.not_lt.mp c2) ?_
          refine mz_go 4 (c' := (4, [some (.ref 65), some (.int 0), some (.int (nI j)), some (.int ((nI k) + 1)), some (.int 1)], [], m)) rfl ?_
          exact ih2
set_option maxHeartbeats 4000000 in
set_option maxRecDepth 100000 in
theorem ct_near0 {w m : mz_M} {N : Nat} (hw : sm_W w N) (hr : sm_HR w (m 66)) : mz_Me 10 mz_r148 [.ref 65, .int 0] m (some (.int (sm_near (w 3) (w 4) (w 5) (m 65 4) (m 65 5) true N).1)) m := by
  refine ⟨?_, rfl⟩
  refine mz_go 4 (c' := (4, [some (.ref 65), some (.int 0), some (.int (-1)), some (.int (nI 0)), none], [], m)) rfl ?_
  have hN := hw.1
  exact ct_nearl0 hw hr N 0 (by omega) none
set_option maxHeartbeats 4000000 in
set_option maxRecDepth 100000 in
theorem ct_jo124 {m : mz_M} (a b : Int32) : mz_Me 2 mz_r172 [.int 124, .int a, .int b] m (some (.int (sm_op 124 a b))) m := by
  by_cases h1 : a = 0
  · by_cases h2 : b = 0
    · have hv : sm_op 124 a b = 0 := by
        unfold sm_op sm_bI
        simp [h1, h2]
      rw [hv]
      refine ⟨?_, rfl⟩
      refine mz_go 4 (c' := (if a = 0 then 222 else 226, [some (.int 124), some (.int a), some (.int b)], [], m)) rfl ?_
      refine mz_ifT h1 ?_
      refine mz_go 2 (c' := (if b = 0 then 230 else 226, [some (.int 124), some (.int a), some (.int b)], [], m)) rfl ?_
      refine mz_ifT h2 ?_
      refine mz_go 1 (c' := (231, [some (.int 124), some (.int a), some (.int b)], [.int 0], m)) rfl ?_
      exact mz_ret rfl
    · have hv : sm_op 124 a b = 1 := by
        unfold sm_op sm_bI
        simp [h1, h2]
      rw [hv]
      refine ⟨?_, rfl⟩
      refine mz_go 4 (c' := (if a = 0 then 222 else 226, [some (.int 124), some (.int a), some (.int b)], [], m)) rfl ?_
      refine mz_ifT h1 ?_
      refine mz_go 2 (c' := (if b = 0 then 230 else 226, [some (.int 124), some (.int a), some (.int b)], [], m)) rfl ?_
      refine mz_ifF h2 ?_
      refine mz_go 2 (c' := (231, [some (.int 124), some (.int a), some (.int b)], [.int 1], m)) rfl ?_
      exact mz_ret rfl
  · have hv : sm_op 124 a b = 1 := by
      unfold sm_op sm_bI
      simp [h1]
    rw [hv]
    refine ⟨?_, rfl⟩
    refine mz_go 4 (c' := (if a = 0 then 222 else 226, [some (.int 124), some (.int a), some (.int b)], [], m)) rfl ?_
    refine mz_ifF h1 ?_
    refine mz_go 2 (c' := (231, [some (.int 124), some (.int a), some (.int b)], [.int 1], m)) rfl ?_
    exact mz_ret rfl
set_option maxHeartbeats 4000000 in
set_option maxRecDepth 100000 in
theorem ct_jo38 {m : mz_M} (a b : Int32) : mz_Me 2 mz_r172 [.int 38, .int a, .int b] m (some (.int (sm_op 38 a b))) m := by
  by_cases h1 : a = 0
  · have hv : sm_op 38 a b = 0 := by
      unfold sm_op sm_bI
      simp [h1]
    rw [hv]
    refine ⟨?_, rfl⟩
    refine mz_go 4 (c' := (if a = 0 then 216 else 208, [some (.int 38), some (.int a), some (.int b)], [], m)) rfl ?_
    refine mz_ifT h1 ?_
    refine mz_go 1 (c' := (217, [some (.int 38), some (.int a), some (.int b)], [.int 0], m)) rfl ?_
    exact mz_ret rfl
  · by_cases h2 : b = 0
    · have hv : sm_op 38 a b = 0 := by
        unfold sm_op sm_bI
        simp [h1, h2]
      rw [hv]
      refine ⟨?_, rfl⟩
      refine mz_go 4 (c' := (if a = 0 then 216 else 208, [some (.int 38), some (.int a), some (.int b)], [], m)) rfl ?_
      refine mz_ifF h1 ?_
      refine mz_go 2 (c' := (if b = 0 then 216 else 212, [some (.int 38), some (.int a), some (.int b)], [], m)) rfl ?_
      refine mz_ifT h2 ?_
      refine mz_go 1 (c' := (217, [some (.int 38), some (.int a), some (.int b)], [.int 0], m)) rfl ?_
      exact mz_ret rfl
    · have hv : sm_op 38 a b = 1 := by
        unfold sm_op sm_bI
        simp [h1, h2]
      rw [hv]
      refine ⟨?_, rfl⟩
      refine mz_go 4 (c' := (if a = 0 then 216 else 208, [some (.int 38), some (.int a), some (.int b)], [], m)) rfl ?_
      refine mz_ifF h1 ?_
      refine mz_go 2 (c' := (if b = 0 then 216 else 212, [some (.int 38), some (.int a), some (.int b)], [], m)) rfl ?_
      refine mz_ifF h2 ?_
      refine mz_go 2 (c' := (217, [some (.int 38), some (.int a), some (.int b)], [.int 1], m)) rfl ?_
      exact mz_ret rfl
set_option maxHeartbeats 4000000 in
set_option maxRecDepth 100000 in
theorem ct_jo60 {m : mz_M} (a b : Int32) : mz_Me 2 mz_r172 [.int 60, .int a, .int b] m (some (.int (sm_op 60 a b))) m := by
  by_cases h1 : b ≤ a
  · have hv : sm_op 60 a b = 0 := by
      unfold sm_op sm_bI
      simp [h1, Int32.not_lt.mpr h1]
    rw [hv]
    refine ⟨?_, rfl⟩
    refine mz_go 5 (c' := (if b ≤ a then 180 else 176, [some (.int 60), some (.int a), some (.int b)], [], m)) rfl ?_
    refine mz_ifT h1 ?_
    refine mz_go 1 (c' := (181, [some (.int 60), some (.int a), some (.int b)], [.int 0], m)) rfl ?_
    exact mz_ret rfl
  · have hv : sm_op 60 a b = 1 := by
      unfold sm_op sm_bI
      simp [h1, Int32.not_le.mp h1]
    rw [hv]
    refine ⟨?_, rfl⟩
    refine mz_go 5 (c' := (if b ≤ a then 180 else 176, [some (.int 60), some (.int a), some (.int b)], [], m)) rfl ?_
    refine mz_ifF h1 ?_
    refine mz_go 2 (c' := (181, [some (.int 60), some (.int a), some (.int b)], [.int 1], m)) rfl ?_
    exact mz_ret rfl
set_option maxHeartbeats 4000000 in
set_option maxRecDepth 100000 in
theorem ct_jo61 {m : mz_M} (a b : Int32) : mz_Me 2 mz_r172 [.int 61, .int a, .int b] m (some (.int (sm_op 61 a b))) m := by
  by_cases h1 : a = b
  · have hv : sm_op 61 a b = 1 := by
      unfold sm_op sm_bI
      simp [h1]
    rw [hv]
    refine ⟨?_, rfl⟩
    refine mz_go 5 (c' := (if a = b then 198 else 202, [some (.int 61), some (.int a), some (.int b)], [], m)) rfl ?_
    refine mz_ifT h1 ?_
    refine mz_go 2 (c' := (203, [some (.int 61), some (.int a), some (.int b)], [.int 1], m)) rfl ?_
    exact mz_ret rfl
  · have hv : sm_op 61 a b = 0 := by
      unfold sm_op sm_bI
      simp [h1]
    rw [hv]
    refine ⟨?_, rfl⟩
    refine mz_go 5 (c' := (if a = b then 198 else 202, [some (.int 61), some (.int a), some (.int b)], [], m)) rfl ?_
    refine mz_ifF h1 ?_
    refine mz_go 1 (c' := (203, [some (.int 61), some (.int a), some (.int b)], [.int 0], m)) rfl ?_
    exact mz_ret rfl
set_option maxHeartbeats 4000000 in
set_option maxRecDepth 100000 in
theorem ct_jo62 {m : mz_M} (a b : Int32) : mz_Me 2 mz_r172 [.int 62, .int a, .int b] m (some (.int (sm_op 62 a b))) m := by
  by_cases h1 : a ≤ b
  · have hv : sm_op 62 a b = 0 := by
      unfold sm_op sm_bI
      simp [h1, Int32.not_lt.mpr h1]
    rw [hv]
    refine ⟨?_, rfl⟩
    refine mz_go 5 (c' := (if a ≤ b then 191 else 187, [some (.int 62), some (.int a), some (.int b)], [], m)) rfl ?_
    refine mz_ifT h1 ?_
    refine mz_go 1 (c' := (192, [some (.int 62), some (.int a), some (.int b)], [.int 0], m)) rfl ?_
    exact mz_ret rfl
  · have hv : sm_op 62 a b = 1 := by
      unfold sm_op sm_bI
      simp [h1, Int32.not_le.mp h1]
    rw [hv]
    refine ⟨?_, rfl⟩
    refine mz_go 5 (c' := (if a ≤ b then 191 else 187, [some (.int 62), some (.int a), some (.int b)], [], m)) rfl ?_
    refine mz_ifF h1 ?_
    refine mz_go 2 (c' := (192, [some (.int 62), some (.int a), some (.int b)], [.int 1], m)) rfl ?_
    exact mz_ret rfl
set_option maxHeartbeats 4000000 in
set_option maxRecDepth 100000 in
theorem ct_jo43 {m : mz_M} (a b : Int32) : mz_Me 2 mz_r172 [.int 43, .int a, .int b] m (some (.int (sm_op 43 a b))) m := by
  have hv : sm_op 43 a b = a + b := by
    unfold sm_op sm_bI
    simp []
  rw [hv]
  refine ⟨?_, rfl⟩
  refine mz_go 5 (c' := (123, [some (.int 43), some (.int a), some (.int b)], [.int (a + b)], m)) rfl ?_
  exact mz_ret rfl
set_option maxHeartbeats 4000000 in
set_option maxRecDepth 100000 in
theorem ct_jo45 {m : mz_M} (a b : Int32) : mz_Me 2 mz_r172 [.int 45, .int a, .int b] m (some (.int (sm_op 45 a b))) m := by
  have hv : sm_op 45 a b = a - b := by
    unfold sm_op sm_bI
    simp []
  rw [hv]
  refine ⟨?_, rfl⟩
  refine mz_go 5 (c' := (127, [some (.int 45), some (.int a), some (.int b)], [.int (a - b)], m)) rfl ?_
  exact mz_ret rfl
set_option maxHeartbeats 4000000 in
set_option maxRecDepth 100000 in
theorem ct_jo42 {m : mz_M} (a b : Int32) : mz_Me 2 mz_r172 [.int 42, .int a, .int b] m (some (.int (sm_op 42 a b))) m := by
  have hv : sm_op 42 a b = a * b := by
    unfold sm_op sm_bI
    simp []
  rw [hv]
  refine ⟨?_, rfl⟩
  refine mz_go 5 (c' := (131, [some (.int 42), some (.int a), some (.int b)], [.int (a * b)], m)) rfl ?_
  exact mz_ret rfl
set_option maxHeartbeats 4000000 in
set_option maxRecDepth 100000 in
theorem ct_jo47 {m : mz_M} (a b : Int32) : mz_Me 2 mz_r172 [.int 47, .int a, .int b] m (some (.int (sm_op 47 a b))) m := by
  by_cases h1 : b = 0
  · have hv : sm_op 47 a b = 0 := by
      unfold sm_op sm_bI
      simp [h1, sm_div1]
    rw [hv]
    refine ⟨?_, rfl⟩
    refine mz_go 4 (c' := (if b = 0 then 136 else 140, [some (.int 47), some (.int a), some (.int b)], [], m)) rfl ?_
    refine mz_ifT h1 ?_
    refine mz_go 2 (c' := (153, [some (.int 47), some (.int a), some (.int b)], [.int 0], m)) rfl ?_
    exact mz_ret rfl
  · by_cases h2 : b = (-1)
    · have hv : sm_op 47 a b = -a := by
        unfold sm_op sm_bI
        simp [h1, h2, sm_div1]
      rw [hv]
      refine ⟨?_, rfl⟩
      refine mz_go 4 (c' := (if b = 0 then 136 else 140, [some (.int 47), some (.int a), some (.int b)], [], m)) rfl ?_
      refine mz_ifF h1 ?_
      refine mz_go 3 (c' := (if b = (-1) then 145 else 150, [some (.int 47), some (.int a), some (.int b)], [], m)) rfl ?_
      refine mz_ifT h2 ?_
      refine mz_go 3 (c' := (153, [some (.int 47), some (.int a), some (.int b)], [.int (-a)], m)) rfl ?_
      exact mz_ret rfl
    · have hv : sm_op 47 a b = a / b := by
        unfold sm_op sm_bI
        simp [h1, h2, sm_div1]
      rw [hv]
      refine ⟨?_, rfl⟩
      refine mz_go 4 (c' := (if b = 0 then 136 else 140, [some (.int 47), some (.int a), some (.int b)], [], m)) rfl ?_
      refine mz_ifF h1 ?_
      refine mz_go 3 (c' := (if b = (-1) then 145 else 150, [some (.int 47), some (.int a), some (.int b)], [], m)) rfl ?_
      refine mz_ifF h2 ?_
      refine mz_go 2 (c' := (152, [some (.int 47), some (.int a), some (.int b)], [.int b, .int a], m)) rfl ?_
      refine mz_div (c' := (153, [some (.int 47), some (.int a), some (.int b)], [.int (a / b)], m)) rfl h1 ?_
      exact mz_ret rfl
set_option maxHeartbeats 4000000 in
set_option maxRecDepth 100000 in
theorem ct_jo37 {m : mz_M} (a b : Int32) : mz_Me 2 mz_r172 [.int 37, .int a, .int b] m (some (.int (sm_op 37 a b))) m := by
  by_cases h1 : b = 0
  · have hv : sm_op 37 a b = 0 := by
      unfold sm_op sm_bI
      simp [h1, sm_rem1]
    rw [hv]
    refine ⟨?_, rfl⟩
    refine mz_go 4 (c' := (if b = 0 then 163 else 158, [some (.int 37), some (.int a), some (.int b)], [], m)) rfl ?_
    refine mz_ifT h1 ?_
    refine mz_go 2 (c' := (170, [some (.int 37), some (.int a), some (.int b)], [.int 0], m)) rfl ?_
    exact mz_ret rfl
  · by_cases h2 : b = (-1)
    · have hv : sm_op 37 a b = 0 := by
        unfold sm_op sm_bI
        simp [h1, h2, sm_rem1]
      rw [hv]
      refine ⟨?_, rfl⟩
      refine mz_go 4 (c' := (if b = 0 then 163 else 158, [some (.int 37), some (.int a), some (.int b)], [], m)) rfl ?_
      refine mz_ifF h1 ?_
      refine mz_go 3 (c' := (if b = (-1) then 163 else 167, [some (.int 37), some (.int a), some (.int b)], [], m)) rfl ?_
      refine mz_ifT h2 ?_
      refine mz_go 2 (c' := (170, [some (.int 37), some (.int a), some (.int b)], [.int 0], m)) rfl ?_
      exact mz_ret rfl
    · have hv : sm_op 37 a b = a - a / b * b := by
        unfold sm_op sm_bI
        simp [h1, h2, sm_rem1]
      rw [hv]
      refine ⟨?_, rfl⟩
      refine mz_go 4 (c' := (if b = 0 then 163 else 158, [some (.int 37), some (.int a), some (.int b)], [], m)) rfl ?_
      refine mz_ifF h1 ?_
      refine mz_go 3 (c' := (if b = (-1) then 163 else 167, [some (.int 37), some (.int a), some (.int b)], [], m)) rfl ?_
      refine mz_ifF h2 ?_
      refine mz_go 2 (c' := (169, [some (.int 37), some (.int a), some (.int b)], [.int b, .int a], m)) rfl ?_
      refine mz_div (c' := (170, [some (.int 37), some (.int a), some (.int b)], [.int (a - a / b * b)], m)) rfl h1 ?_
      exact mz_ret rfl
theorem ct_joined {m : mz_M} {s : Int32} (hs : sm_sgn s = true) (a b : Int32) : mz_Me 2 mz_r172 [.int s, .int a, .int b] m (some (.int (sm_op s a b))) m := by
  simp only [sm_sgn, List.contains_cons, List.contains_nil, Bool.or_false, Bool.or_eq_true, beq_iff_eq] at hs
  rcases hs with rfl | rfl | rfl | rfl | rfl | rfl | rfl | rfl | rfl | rfl
  · exact ct_jo124 a b
  · exact ct_jo38 a b
  · exact ct_jo60 a b
  · exact ct_jo61 a b
  · exact ct_jo62 a b
  · exact ct_jo43 a b
  · exact ct_jo45 a b
  · exact ct_jo42 a b
  · exact ct_jo47 a b
  · exact ct_jo37 a b
