noncomputable def sm_undr (k a : Int32) : Bool := decide (a = 0) || decide (k = a) || (decide (a = 1) && decide (k = 4)) || (decide (a = 2) && decide (k = 6)) || (decide (a = 3) && decide (k = 5))
set_option maxHeartbeats 4000000 in
set_option maxRecDepth 100000 in
theorem cs_undr {m : mz_M} {k : Int32} (hk : sm_N 6 k) {a : Nat} (ha : a ≤ 6) : mz_Me 3 mz_r115 [.int k, .int (nI a)] m (some (.int (sm_bI (sm_undr k (nI a))))) m := by
  obtain ⟨k, hk, rfl⟩ := sm_Nof (by decide) hk
  rcases (show k = 0 ∨ k = 1 ∨ k = 2 ∨ k = 3 ∨ k = 4 ∨ k = 5 ∨ k = 6 by omega) with rfl | rfl | rfl | rfl | rfl | rfl | rfl
  · rcases (show a = 0 ∨ a = 1 ∨ a = 2 ∨ a = 3 ∨ a = 4 ∨ a = 5 ∨ a = 6 by omega) with rfl | rfl | rfl | rfl | rfl | rfl | rfl
    · rw [show sm_bI (sm_undr (nI 0) (nI 0)) = 1 from by decide]
      show mz_Me 3 mz_r115 [.int 0, .int 0] m (some (.int 1)) m
      refine ⟨?_, rfl⟩
      refine mz_go 8 (c' := (11, [some (.int 0), some (.int 0), some (.int 0), some (.int 0)], [.int 0], m)) rfl ?_
      refine mz_doQ (R := mz_r114) (as := [.int 0]) (rest := []) (r1 := some (.int 1)) (m1 := m) mz_t114 mz_v114 rfl rfl rfl rfl rfl ⟨?_, rfl⟩ ?_
      · refine mz_go 3 (c' := (4, [some (.int 0)], [.int 6, .int 0, .int 0], m)) rfl ?_
        refine mz_doQ (R := mz_r121) (as := [.int 0, .int 0, .int 6]) (rest := []) (r1 := some (.int 1)) (m1 := m) mz_t121 mz_v121 rfl rfl rfl rfl rfl ⟨?_, rfl⟩ ?_
        · refine mz_go 8 (c' := (15, [some (.int 0), some (.int 0), some (.int 6)], [.int 1], m)) rfl ?_
          exact mz_ret rfl
        exact mz_ret rfl
      refine mz_go 5 (c' := (23, [some (.int 0), some (.int 0), some (.int 0), some (.int 0)], [.int 1], m)) rfl ?_
      exact mz_ret rfl
    · rw [show sm_bI (sm_undr (nI 0) (nI 1)) = 0 from by decide]
      show mz_Me 3 mz_r115 [.int 0, .int 1] m (some (.int 0)) m
      refine ⟨?_, rfl⟩
      refine mz_go 8 (c' := (11, [some (.int 0), some (.int 1), some (.int 0), some (.int 0)], [.int 0], m)) rfl ?_
      refine mz_doQ (R := mz_r114) (as := [.int 0]) (rest := []) (r1 := some (.int 1)) (m1 := m) mz_t114 mz_v114 rfl rfl rfl rfl rfl ⟨?_, rfl⟩ ?_
      · refine mz_go 3 (c' := (4, [some (.int 0)], [.int 6, .int 0, .int 0], m)) rfl ?_
        refine mz_doQ (R := mz_r121) (as := [.int 0, .int 0, .int 6]) (rest := []) (r1 := some (.int 1)) (m1 := m) mz_t121 mz_v121 rfl rfl rfl rfl rfl ⟨?_, rfl⟩ ?_
        · refine mz_go 8 (c' := (15, [some (.int 0), some (.int 0), some (.int 6)], [.int 1], m)) rfl ?_
          exact mz_ret rfl
        exact mz_ret rfl
      refine mz_go 14 (c' := (11, [some (.int 0), some (.int 1), some (.int (-1)), some (.int 1)], [.int (-1)], m)) rfl ?_
      refine mz_doQ (R := mz_r114) (as := [.int (-1)]) (rest := []) (r1 := some (.int 0)) (m1 := m) mz_t114 mz_v114 rfl rfl rfl rfl rfl ⟨?_, rfl⟩ ?_
      · refine mz_go 3 (c' := (4, [some (.int (-1))], [.int 6, .int 0, .int (-1)], m)) rfl ?_
        refine mz_doQ (R := mz_r121) (as := [.int (-1), .int 0, .int 6]) (rest := []) (r1 := some (.int 0)) (m1 := m) mz_t121 mz_v121 rfl rfl rfl rfl rfl ⟨?_, rfl⟩ ?_
        · refine mz_go 4 (c' := (15, [some (.int (-1)), some (.int 0), some (.int 6)], [.int 0], m)) rfl ?_
          exact mz_ret rfl
        exact mz_ret rfl
      refine mz_go 2 (c' := (37, [some (.int 0), some (.int 1), some (.int (-1)), some (.int 1)], [.int 0], m)) rfl ?_
      exact mz_ret rfl
    · rw [show sm_bI (sm_undr (nI 0) (nI 2)) = 0 from by decide]
      show mz_Me 3 mz_r115 [.int 0, .int 2] m (some (.int 0)) m
      refine ⟨?_, rfl⟩
      refine mz_go 8 (c' := (11, [some (.int 0), some (.int 2), some (.int 0), some (.int 0)], [.int 0], m)) rfl ?_
      refine mz_doQ (R := mz_r114) (as := [.int 0]) (rest := []) (r1 := some (.int 1)) (m1 := m) mz_t114 mz_v114 rfl rfl rfl rfl rfl ⟨?_, rfl⟩ ?_
      · refine mz_go 3 (c' := (4, [some (.int 0)], [.int 6, .int 0, .int 0], m)) rfl ?_
        refine mz_doQ (R := mz_r121) (as := [.int 0, .int 0, .int 6]) (rest := []) (r1 := some (.int 1)) (m1 := m) mz_t121 mz_v121 rfl rfl rfl rfl rfl ⟨?_, rfl⟩ ?_
        · refine mz_go 8 (c' := (15, [some (.int 0), some (.int 0), some (.int 6)], [.int 1], m)) rfl ?_
          exact mz_ret rfl
        exact mz_ret rfl
      refine mz_go 14 (c' := (11, [some (.int 0), some (.int 2), some (.int (-1)), some (.int 1)], [.int (-1)], m)) rfl ?_
      refine mz_doQ (R := mz_r114) (as := [.int (-1)]) (rest := []) (r1 := some (.int 0)) (m1 := m) mz_t114 mz_v114 rfl rfl rfl rfl rfl ⟨?_, rfl⟩ ?_
      · refine mz_go 3 (c' := (4, [some (.int (-1))], [.int 6, .int 0, .int (-1)], m)) rfl ?_
        refine mz_doQ (R := mz_r121) (as := [.int (-1), .int 0, .int 6]) (rest := []) (r1 := some (.int 0)) (m1 := m) mz_t121 mz_v121 rfl rfl rfl rfl rfl ⟨?_, rfl⟩ ?_
        · refine mz_go 4 (c' := (15, [some (.int (-1)), some (.int 0), some (.int 6)], [.int 0], m)) rfl ?_
          exact mz_ret rfl
        exact mz_ret rfl
      refine mz_go 2 (c' := (37, [some (.int 0), some (.int 2), some (.int (-1)), some (.int 1)], [.int 0], m)) rfl ?_
      exact mz_ret rfl
    · rw [show sm_bI (sm_undr (nI 0) (nI 3)) = 0 from by decide]
      show mz_Me 3 mz_r115 [.int 0, .int 3] m (some (.int 0)) m
      refine ⟨?_, rfl⟩
      refine mz_go 8 (c' := (11, [some (.int 0), some (.int 3), some (.int 0), some (.int 0)], [.int 0], m)) rfl ?_
      refine mz_doQ (R := mz_r114) (as := [.int 0]) (rest := []) (r1 := some (.int 1)) (m1 := m) mz_t114 mz_v114 rfl rfl rfl rfl rfl ⟨?_, rfl⟩ ?_
      · refine mz_go 3 (c' := (4, [some (.int 0)], [.int 6, .int 0, .int 0], m)) rfl ?_
        refine mz_doQ (R := mz_r121) (as := [.int 0, .int 0, .int 6]) (rest := []) (r1 := some (.int 1)) (m1 := m) mz_t121 mz_v121 rfl rfl rfl rfl rfl ⟨?_, rfl⟩ ?_
        · refine mz_go 8 (c' := (15, [some (.int 0), some (.int 0), some (.int 6)], [.int 1], m)) rfl ?_
          exact mz_ret rfl
        exact mz_ret rfl
      refine mz_go 14 (c' := (11, [some (.int 0), some (.int 3), some (.int (-1)), some (.int 1)], [.int (-1)], m)) rfl ?_
      refine mz_doQ (R := mz_r114) (as := [.int (-1)]) (rest := []) (r1 := some (.int 0)) (m1 := m) mz_t114 mz_v114 rfl rfl rfl rfl rfl ⟨?_, rfl⟩ ?_
      · refine mz_go 3 (c' := (4, [some (.int (-1))], [.int 6, .int 0, .int (-1)], m)) rfl ?_
        refine mz_doQ (R := mz_r121) (as := [.int (-1), .int 0, .int 6]) (rest := []) (r1 := some (.int 0)) (m1 := m) mz_t121 mz_v121 rfl rfl rfl rfl rfl ⟨?_, rfl⟩ ?_
        · refine mz_go 4 (c' := (15, [some (.int (-1)), some (.int 0), some (.int 6)], [.int 0], m)) rfl ?_
          exact mz_ret rfl
        exact mz_ret rfl
      refine mz_go 2 (c' := (37, [some (.int 0), some (.int 3), some (.int (-1)), some (.int 1)], [.int 0], m)) rfl ?_
      exact mz_ret rfl
    · rw [show sm_bI (sm_undr (nI 0) (nI 4)) = 0 from by decide]
      show mz_Me 3 mz_r115 [.int 0, .int 4] m (some (.int 0)) m
      refine ⟨?_, rfl⟩
      refine mz_go 8 (c' := (11, [some (.int 0), some (.int 4), some (.int 0), some (.int 0)], [.int 0], m)) rfl ?_
      refine mz_doQ (R := mz_r114) (as := [.int 0]) (rest := []) (r1 := some (.int 1)) (m1 := m) mz_t114 mz_v114 rfl rfl rfl rfl rfl ⟨?_, rfl⟩ ?_
      · refine mz_go 3 (c' := (4, [some (.int 0)], [.int 6, .int 0, .int 0], m)) rfl ?_
        refine mz_doQ (R := mz_r121) (as := [.int 0, .int 0, .int 6]) (rest := []) (r1 := some (.int 1)) (m1 := m) mz_t121 mz_v121 rfl rfl rfl rfl rfl ⟨?_, rfl⟩ ?_
        · refine mz_go 8 (c' := (15, [some (.int 0), some (.int 0), some (.int 6)], [.int 1], m)) rfl ?_
          exact mz_ret rfl
        exact mz_ret rfl
      refine mz_go 14 (c' := (11, [some (.int 0), some (.int 4), some (.int (-1)), some (.int 1)], [.int (-1)], m)) rfl ?_
      refine mz_doQ (R := mz_r114) (as := [.int (-1)]) (rest := []) (r1 := some (.int 0)) (m1 := m) mz_t114 mz_v114 rfl rfl rfl rfl rfl ⟨?_, rfl⟩ ?_
      · refine mz_go 3 (c' := (4, [some (.int (-1))], [.int 6, .int 0, .int (-1)], m)) rfl ?_
        refine mz_doQ (R := mz_r121) (as := [.int (-1), .int 0, .int 6]) (rest := []) (r1 := some (.int 0)) (m1 := m) mz_t121 mz_v121 rfl rfl rfl rfl rfl ⟨?_, rfl⟩ ?_
        · refine mz_go 4 (c' := (15, [some (.int (-1)), some (.int 0), some (.int 6)], [.int 0], m)) rfl ?_
          exact mz_ret rfl
        exact mz_ret rfl
      refine mz_go 2 (c' := (37, [some (.int 0), some (.int 4), some (.int (-1)), some (.int 1)], [.int 0], m)) rfl ?_
      exact mz_ret rfl
    · rw [show sm_bI (sm_undr (nI 0) (nI 5)) = 0 from by decide]
      show mz_Me 3 mz_r115 [.int 0, .int 5] m (some (.int 0)) m
      refine ⟨?_, rfl⟩
      refine mz_go 8 (c' := (11, [some (.int 0), some (.int 5), some (.int 0), some (.int 0)], [.int 0], m)) rfl ?_
      refine mz_doQ (R := mz_r114) (as := [.int 0]) (rest := []) (r1 := some (.int 1)) (m1 := m) mz_t114 mz_v114 rfl rfl rfl rfl rfl ⟨?_, rfl⟩ ?_
      · refine mz_go 3 (c' := (4, [some (.int 0)], [.int 6, .int 0, .int 0], m)) rfl ?_
        refine mz_doQ (R := mz_r121) (as := [.int 0, .int 0, .int 6]) (rest := []) (r1 := some (.int 1)) (m1 := m) mz_t121 mz_v121 rfl rfl rfl rfl rfl ⟨?_, rfl⟩ ?_
        · refine mz_go 8 (c' := (15, [some (.int 0), some (.int 0), some (.int 6)], [.int 1], m)) rfl ?_
          exact mz_ret rfl
        exact mz_ret rfl
      refine mz_go 14 (c' := (11, [some (.int 0), some (.int 5), some (.int (-1)), some (.int 1)], [.int (-1)], m)) rfl ?_
      refine mz_doQ (R := mz_r114) (as := [.int (-1)]) (rest := []) (r1 := some (.int 0)) (m1 := m) mz_t114 mz_v114 rfl rfl rfl rfl rfl ⟨?_, rfl⟩ ?_
      · refine mz_go 3 (c' := (4, [some (.int (-1))], [.int 6, .int 0, .int (-1)], m)) rfl ?_
        refine mz_doQ (R := mz_r121) (as := [.int (-1), .int 0, .int 6]) (rest := []) (r1 := some (.int 0)) (m1 := m) mz_t121 mz_v121 rfl rfl rfl rfl rfl ⟨?_, rfl⟩ ?_
        · refine mz_go 4 (c' := (15, [some (.int (-1)), some (.int 0), some (.int 6)], [.int 0], m)) rfl ?_
          exact mz_ret rfl
        exact mz_ret rfl
      refine mz_go 2 (c' := (37, [some (.int 0), some (.int 5), some (.int (-1)), some (.int 1)], [.int 0], m)) rfl ?_
      exact mz_ret rfl
    · rw [show sm_bI (sm_undr (nI 0) (nI 6)) = 0 from by decide]
      show mz_Me 3 mz_r115 [.int 0, .int 6] m (some (.int 0)) m
      refine ⟨?_, rfl⟩
      refine mz_go 8 (c' := (11, [some (.int 0), some (.int 6), some (.int 0), some (.int 0)], [.int 0], m)) rfl ?_
      refine mz_doQ (R := mz_r114) (as := [.int 0]) (rest := []) (r1 := some (.int 1)) (m1 := m) mz_t114 mz_v114 rfl rfl rfl rfl rfl ⟨?_, rfl⟩ ?_
      · refine mz_go 3 (c' := (4, [some (.int 0)], [.int 6, .int 0, .int 0], m)) rfl ?_
        refine mz_doQ (R := mz_r121) (as := [.int 0, .int 0, .int 6]) (rest := []) (r1 := some (.int 1)) (m1 := m) mz_t121 mz_v121 rfl rfl rfl rfl rfl ⟨?_, rfl⟩ ?_
        · refine mz_go 8 (c' := (15, [some (.int 0), some (.int 0), some (.int 6)], [.int 1], m)) rfl ?_
          exact mz_ret rfl
        exact mz_ret rfl
      refine mz_go 14 (c' := (11, [some (.int 0), some (.int 6), some (.int (-1)), some (.int 1)], [.int (-1)], m)) rfl ?_
      refine mz_doQ (R := mz_r114) (as := [.int (-1)]) (rest := []) (r1 := some (.int 0)) (m1 := m) mz_t114 mz_v114 rfl rfl rfl rfl rfl ⟨?_, rfl⟩ ?_
      · refine mz_go 3 (c' := (4, [some (.int (-1))], [.int 6, .int 0, .int (-1)], m)) rfl ?_
        refine mz_doQ (R := mz_r121) (as := [.int (-1), .int 0, .int 6]) (rest := []) (r1 := some (.int 0)) (m1 := m) mz_t121 mz_v121 rfl rfl rfl rfl rfl ⟨?_, rfl⟩ ?_
        · refine mz_go 4 (c' := (15, [some (.int (-1)), some (.int 0), some (.int 6)], [.int 0], m)) rfl ?_
          exact mz_ret rfl
        exact mz_ret rfl
      refine mz_go 2 (c' := (37, [some (.int 0), some (.int 6), some (.int (-1)), some (.int 1)], [.int 0], m)) rfl ?_
      exact mz_ret rfl
  · rcases (show a = 0 ∨ a = 1 ∨ a = 2 ∨ a = 3 ∨ a = 4 ∨ a = 5 ∨ a = 6 by omega) with rfl | rfl | rfl | rfl | rfl | rfl | rfl
    · rw [show sm_bI (sm_undr (nI 1) (nI 0)) = 1 from by decide]
      show mz_Me 3 mz_r115 [.int 1, .int 0] m (some (.int 1)) m
      refine ⟨?_, rfl⟩
      refine mz_go 8 (c' := (11, [some (.int 1), some (.int 0), some (.int 1), some (.int 0)], [.int 1], m)) rfl ?_
      refine mz_doQ (R := mz_r114) (as := [.int 1]) (rest := []) (r1 := some (.int 1)) (m1 := m) mz_t114 mz_v114 rfl rfl rfl rfl rfl ⟨?_, rfl⟩ ?_
      · refine mz_go 3 (c' := (4, [some (.int 1)], [.int 6, .int 0, .int 1], m)) rfl ?_
        refine mz_doQ (R := mz_r121) (as := [.int 1, .int 0, .int 6]) (rest := []) (r1 := some (.int 1)) (m1 := m) mz_t121 mz_v121 rfl rfl rfl rfl rfl ⟨?_, rfl⟩ ?_
        · refine mz_go 8 (c' := (15, [some (.int 1), some (.int 0), some (.int 6)], [.int 1], m)) rfl ?_
          exact mz_ret rfl
        exact mz_ret rfl
      refine mz_go 14 (c' := (11, [some (.int 1), some (.int 0), some (.int 0), some (.int 1)], [.int 0], m)) rfl ?_
      refine mz_doQ (R := mz_r114) (as := [.int 0]) (rest := []) (r1 := some (.int 1)) (m1 := m) mz_t114 mz_v114 rfl rfl rfl rfl rfl ⟨?_, rfl⟩ ?_
      · refine mz_go 3 (c' := (4, [some (.int 0)], [.int 6, .int 0, .int 0], m)) rfl ?_
        refine mz_doQ (R := mz_r121) (as := [.int 0, .int 0, .int 6]) (rest := []) (r1 := some (.int 1)) (m1 := m) mz_t121 mz_v121 rfl rfl rfl rfl rfl ⟨?_, rfl⟩ ?_
        · refine mz_go 8 (c' := (15, [some (.int 0), some (.int 0), some (.int 6)], [.int 1], m)) rfl ?_
          exact mz_ret rfl
        exact mz_ret rfl
      refine mz_go 5 (c' := (23, [some (.int 1), some (.int 0), some (.int 0), some (.int 1)], [.int 1], m)) rfl ?_
      exact mz_ret rfl
    · rw [show sm_bI (sm_undr (nI 1) (nI 1)) = 1 from by decide]
      show mz_Me 3 mz_r115 [.int 1, .int 1] m (some (.int 1)) m
      refine ⟨?_, rfl⟩
      refine mz_go 8 (c' := (11, [some (.int 1), some (.int 1), some (.int 1), some (.int 0)], [.int 1], m)) rfl ?_
      refine mz_doQ (R := mz_r114) (as := [.int 1]) (rest := []) (r1 := some (.int 1)) (m1 := m) mz_t114 mz_v114 rfl rfl rfl rfl rfl ⟨?_, rfl⟩ ?_
      · refine mz_go 3 (c' := (4, [some (.int 1)], [.int 6, .int 0, .int 1], m)) rfl ?_
        refine mz_doQ (R := mz_r121) (as := [.int 1, .int 0, .int 6]) (rest := []) (r1 := some (.int 1)) (m1 := m) mz_t121 mz_v121 rfl rfl rfl rfl rfl ⟨?_, rfl⟩ ?_
        · refine mz_go 8 (c' := (15, [some (.int 1), some (.int 0), some (.int 6)], [.int 1], m)) rfl ?_
          exact mz_ret rfl
        exact mz_ret rfl
      refine mz_go 5 (c' := (23, [some (.int 1), some (.int 1), some (.int 1), some (.int 0)], [.int 1], m)) rfl ?_
      exact mz_ret rfl
    · rw [show sm_bI (sm_undr (nI 1) (nI 2)) = 0 from by decide]
      show mz_Me 3 mz_r115 [.int 1, .int 2] m (some (.int 0)) m
      refine ⟨?_, rfl⟩
      refine mz_go 8 (c' := (11, [some (.int 1), some (.int 2), some (.int 1), some (.int 0)], [.int 1], m)) rfl ?_
      refine mz_doQ (R := mz_r114) (as := [.int 1]) (rest := []) (r1 := some (.int 1)) (m1 := m) mz_t114 mz_v114 rfl rfl rfl rfl rfl ⟨?_, rfl⟩ ?_
      · refine mz_go 3 (c' := (4, [some (.int 1)], [.int 6, .int 0, .int 1], m)) rfl ?_
        refine mz_doQ (R := mz_r121) (as := [.int 1, .int 0, .int 6]) (rest := []) (r1 := some (.int 1)) (m1 := m) mz_t121 mz_v121 rfl rfl rfl rfl rfl ⟨?_, rfl⟩ ?_
        · refine mz_go 8 (c' := (15, [some (.int 1), some (.int 0), some (.int 6)], [.int 1], m)) rfl ?_
          exact mz_ret rfl
        exact mz_ret rfl
      refine mz_go 14 (c' := (11, [some (.int 1), some (.int 2), some (.int 0), some (.int 1)], [.int 0], m)) rfl ?_
      refine mz_doQ (R := mz_r114) (as := [.int 0]) (rest := []) (r1 := some (.int 1)) (m1 := m) mz_t114 mz_v114 rfl rfl rfl rfl rfl ⟨?_, rfl⟩ ?_
      · refine mz_go 3 (c' := (4, [some (.int 0)], [.int 6, .int 0, .int 0], m)) rfl ?_
        refine mz_doQ (R := mz_r121) (as := [.int 0, .int 0, .int 6]) (rest := []) (r1 := some (.int 1)) (m1 := m) mz_t121 mz_v121 rfl rfl rfl rfl rfl ⟨?_, rfl⟩ ?_
        · refine mz_go 8 (c' := (15, [some (.int 0), some (.int 0), some (.int 6)], [.int 1], m)) rfl ?_
          exact mz_ret rfl
        exact mz_ret rfl
      refine mz_go 14 (c' := (11, [some (.int 1), some (.int 2), some (.int (-1)), some (.int 2)], [.int (-1)], m)) rfl ?_
      refine mz_doQ (R := mz_r114) (as := [.int (-1)]) (rest := []) (r1 := some (.int 0)) (m1 := m) mz_t114 mz_v114 rfl rfl rfl rfl rfl ⟨?_, rfl⟩ ?_
      · refine mz_go 3 (c' := (4, [some (.int (-1))], [.int 6, .int 0, .int (-1)], m)) rfl ?_
        refine mz_doQ (R := mz_r121) (as := [.int (-1), .int 0, .int 6]) (rest := []) (r1 := some (.int 0)) (m1 := m) mz_t121 mz_v121 rfl rfl rfl rfl rfl ⟨?_, rfl⟩ ?_
        · refine mz_go 4 (c' := (15, [some (.int (-1)), some (.int 0), some (.int 6)], [.int 0], m)) rfl ?_
          exact mz_ret rfl
        exact mz_ret rfl
      refine mz_go 2 (c' := (37, [some (.int 1), some (.int 2), some (.int (-1)), some (.int 2)], [.int 0], m)) rfl ?_
      exact mz_ret rfl
    · rw [show sm_bI (sm_undr (nI 1) (nI 3)) = 0 from by decide]
      show mz_Me 3 mz_r115 [.int 1, .int 3] m (some (.int 0)) m
      refine ⟨?_, rfl⟩
      refine mz_go 8 (c' := (11, [some (.int 1), some (.int 3), some (.int 1), some (.int 0)], [.int 1], m)) rfl ?_
      refine mz_doQ (R := mz_r114) (as := [.int 1]) (rest := []) (r1 := some (.int 1)) (m1 := m) mz_t114 mz_v114 rfl rfl rfl rfl rfl ⟨?_, rfl⟩ ?_
      · refine mz_go 3 (c' := (4, [some (.int 1)], [.int 6, .int 0, .int 1], m)) rfl ?_
        refine mz_doQ (R := mz_r121) (as := [.int 1, .int 0, .int 6]) (rest := []) (r1 := some (.int 1)) (m1 := m) mz_t121 mz_v121 rfl rfl rfl rfl rfl ⟨?_, rfl⟩ ?_
        · refine mz_go 8 (c' := (15, [some (.int 1), some (.int 0), some (.int 6)], [.int 1], m)) rfl ?_
          exact mz_ret rfl
        exact mz_ret rfl
      refine mz_go 14 (c' := (11, [some (.int 1), some (.int 3), some (.int 0), some (.int 1)], [.int 0], m)) rfl ?_
      refine mz_doQ (R := mz_r114) (as := [.int 0]) (rest := []) (r1 := some (.int 1)) (m1 := m) mz_t114 mz_v114 rfl rfl rfl rfl rfl ⟨?_, rfl⟩ ?_
      · refine mz_go 3 (c' := (4, [some (.int 0)], [.int 6, .int 0, .int 0], m)) rfl ?_
        refine mz_doQ (R := mz_r121) (as := [.int 0, .int 0, .int 6]) (rest := []) (r1 := some (.int 1)) (m1 := m) mz_t121 mz_v121 rfl rfl rfl rfl rfl ⟨?_, rfl⟩ ?_
        · refine mz_go 8 (c' := (15, [some (.int 0), some (.int 0), some (.int 6)], [.int 1], m)) rfl ?_
          exact mz_ret rfl
        exact mz_ret rfl
      refine mz_go 14 (c' := (11, [some (.int 1), some (.int 3), some (.int (-1)), some (.int 2)], [.int (-1)], m)) rfl ?_
      refine mz_doQ (R := mz_r114) (as := [.int (-1)]) (rest := []) (r1 := some (.int 0)) (m1 := m) mz_t114 mz_v114 rfl rfl rfl rfl rfl ⟨?_, rfl⟩ ?_
      · refine mz_go 3 (c' := (4, [some (.int (-1))], [.int 6, .int 0, .int (-1)], m)) rfl ?_
        refine mz_doQ (R := mz_r121) (as := [.int (-1), .int 0, .int 6]) (rest := []) (r1 := some (.int 0)) (m1 := m) mz_t121 mz_v121 rfl rfl rfl rfl rfl ⟨?_, rfl⟩ ?_
        · refine mz_go 4 (c' := (15, [some (.int (-1)), some (.int 0), some (.int 6)], [.int 0], m)) rfl ?_
          exact mz_ret rfl
        exact mz_ret rfl
      refine mz_go 2 (c' := (37, [some (.int 1), some (.int 3), some (.int (-1)), some (.int 2)], [.int 0], m)) rfl ?_
      exact mz_ret rfl
    · rw [show sm_bI (sm_undr (nI 1) (nI 4)) = 0 from by decide]
      show mz_Me 3 mz_r115 [.int 1, .int 4] m (some (.int 0)) m
      refine ⟨?_, rfl⟩
      refine mz_go 8 (c' := (11, [some (.int 1), some (.int 4), some (.int 1), some (.int 0)], [.int 1], m)) rfl ?_
      refine mz_doQ (R := mz_r114) (as := [.int 1]) (rest := []) (r1 := some (.int 1)) (m1 := m) mz_t114 mz_v114 rfl rfl rfl rfl rfl ⟨?_, rfl⟩ ?_
      · refine mz_go 3 (c' := (4, [some (.int 1)], [.int 6, .int 0, .int 1], m)) rfl ?_
        refine mz_doQ (R := mz_r121) (as := [.int 1, .int 0, .int 6]) (rest := []) (r1 := some (.int 1)) (m1 := m) mz_t121 mz_v121 rfl rfl rfl rfl rfl ⟨?_, rfl⟩ ?_
        · refine mz_go 8 (c' := (15, [some (.int 1), some (.int 0), some (.int 6)], [.int 1], m)) rfl ?_
          exact mz_ret rfl
        exact mz_ret rfl
      refine mz_go 14 (c' := (11, [some (.int 1), some (.int 4), some (.int 0), some (.int 1)], [.int 0], m)) rfl ?_
      refine mz_doQ (R := mz_r114) (as := [.int 0]) (rest := []) (r1 := some (.int 1)) (m1 := m) mz_t114 mz_v114 rfl rfl rfl rfl rfl ⟨?_, rfl⟩ ?_
      · refine mz_go 3 (c' := (4, [some (.int 0)], [.int 6, .int 0, .int 0], m)) rfl ?_
        refine mz_doQ (R := mz_r121) (as := [.int 0, .int 0, .int 6]) (rest := []) (r1 := some (.int 1)) (m1 := m) mz_t121 mz_v121 rfl rfl rfl rfl rfl ⟨?_, rfl⟩ ?_
        · refine mz_go 8 (c' := (15, [some (.int 0), some (.int 0), some (.int 6)], [.int 1], m)) rfl ?_
          exact mz_ret rfl
        exact mz_ret rfl
      refine mz_go 14 (c' := (11, [some (.int 1), some (.int 4), some (.int (-1)), some (.int 2)], [.int (-1)], m)) rfl ?_
      refine mz_doQ (R := mz_r114) (as := [.int (-1)]) (rest := []) (r1 := some (.int 0)) (m1 := m) mz_t114 mz_v114 rfl rfl rfl rfl rfl ⟨?_, rfl⟩ ?_
      · refine mz_go 3 (c' := (4, [some (.int (-1))], [.int 6, .int 0, .int (-1)], m)) rfl ?_
        refine mz_doQ (R := mz_r121) (as := [.int (-1), .int 0, .int 6]) (rest := []) (r1 := some (.int 0)) (m1 := m) mz_t121 mz_v121 rfl rfl rfl rfl rfl ⟨?_, rfl⟩ ?_
        · refine mz_go 4 (c' := (15, [some (.int (-1)), some (.int 0), some (.int 6)], [.int 0], m)) rfl ?_
          exact mz_ret rfl
        exact mz_ret rfl
      refine mz_go 2 (c' := (37, [some (.int 1), some (.int 4), some (.int (-1)), some (.int 2)], [.int 0], m)) rfl ?_
      exact mz_ret rfl
    · rw [show sm_bI (sm_undr (nI 1) (nI 5)) = 0 from by decide]
      show mz_Me 3 mz_r115 [.int 1, .int 5] m (some (.int 0)) m
      refine ⟨?_, rfl⟩
      refine mz_go 8 (c' := (11, [some (.int 1), some (.int 5), some (.int 1), some (.int 0)], [.int 1], m)) rfl ?_
      refine mz_doQ (R := mz_r114) (as := [.int 1]) (rest := []) (r1 := some (.int 1)) (m1 := m) mz_t114 mz_v114 rfl rfl rfl rfl rfl ⟨?_, rfl⟩ ?_
      · refine mz_go 3 (c' := (4, [some (.int 1)], [.int 6, .int 0, .int 1], m)) rfl ?_
        refine mz_doQ (R := mz_r121) (as := [.int 1, .int 0, .int 6]) (rest := []) (r1 := some (.int 1)) (m1 := m) mz_t121 mz_v121 rfl rfl rfl rfl rfl ⟨?_, rfl⟩ ?_
        · refine mz_go 8 (c' := (15, [some (.int 1), some (.int 0), some (.int 6)], [.int 1], m)) rfl ?_
          exact mz_ret rfl
        exact mz_ret rfl
      refine mz_go 14 (c' := (11, [some (.int 1), some (.int 5), some (.int 0), some (.int 1)], [.int 0], m)) rfl ?_
      refine mz_doQ (R := mz_r114) (as := [.int 0]) (rest := []) (r1 := some (.int 1)) (m1 := m) mz_t114 mz_v114 rfl rfl rfl rfl rfl ⟨?_, rfl⟩ ?_
      · refine mz_go 3 (c' := (4, [some (.int 0)], [.int 6, .int 0, .int 0], m)) rfl ?_
        refine mz_doQ (R := mz_r121) (as := [.int 0, .int 0, .int 6]) (rest := []) (r1 := some (.int 1)) (m1 := m) mz_t121 mz_v121 rfl rfl rfl rfl rfl ⟨?_, rfl⟩ ?_
        · refine mz_go 8 (c' := (15, [some (.int 0), some (.int 0), some (.int 6)], [.int 1], m)) rfl ?_
          exact mz_ret rfl
        exact mz_ret rfl
      refine mz_go 14 (c' := (11, [some (.int 1), some (.int 5), some (.int (-1)), some (.int 2)], [.int (-1)], m)) rfl ?_
      refine mz_doQ (R := mz_r114) (as := [.int (-1)]) (rest := []) (r1 := some (.int 0)) (m1 := m) mz_t114 mz_v114 rfl rfl rfl rfl rfl ⟨?_, rfl⟩ ?_
      · refine mz_go 3 (c' := (4, [some (.int (-1))], [.int 6, .int 0, .int (-1)], m)) rfl ?_
        refine mz_doQ (R := mz_r121) (as := [.int (-1), .int 0, .int 6]) (rest := []) (r1 := some (.int 0)) (m1 := m) mz_t121 mz_v121 rfl rfl rfl rfl rfl ⟨?_, rfl⟩ ?_
        · refine mz_go 4 (c' := (15, [some (.int (-1)), some (.int 0), some (.int 6)], [.int 0], m)) rfl ?_
          exact mz_ret rfl
        exact mz_ret rfl
      refine mz_go 2 (c' := (37, [some (.int 1), some (.int 5), some (.int (-1)), some (.int 2)], [.int 0], m)) rfl ?_
      exact mz_ret rfl
    · rw [show sm_bI (sm_undr (nI 1) (nI 6)) = 0 from by decide]
      show mz_Me 3 mz_r115 [.int 1, .int 6] m (some (.int 0)) m
      refine ⟨?_, rfl⟩
      refine mz_go 8 (c' := (11, [some (.int 1), some (.int 6), some (.int 1), some (.int 0)], [.int 1], m)) rfl ?_
      refine mz_doQ (R := mz_r114) (as := [.int 1]) (rest := []) (r1 := some (.int 1)) (m1 := m) mz_t114 mz_v114 rfl rfl rfl rfl rfl ⟨?_, rfl⟩ ?_
      · refine mz_go 3 (c' := (4, [some (.int 1)], [.int 6, .int 0, .int 1], m)) rfl ?_
        refine mz_doQ (R := mz_r121) (as := [.int 1, .int 0, .int 6]) (rest := []) (r1 := some (.int 1)) (m1 := m) mz_t121 mz_v121 rfl rfl rfl rfl rfl ⟨?_, rfl⟩ ?_
        · refine mz_go 8 (c' := (15, [some (.int 1), some (.int 0), some (.int 6)], [.int 1], m)) rfl ?_
          exact mz_ret rfl
        exact mz_ret rfl
      refine mz_go 14 (c' := (11, [some (.int 1), some (.int 6), some (.int 0), some (.int 1)], [.int 0], m)) rfl ?_
      refine mz_doQ (R := mz_r114) (as := [.int 0]) (rest := []) (r1 := some (.int 1)) (m1 := m) mz_t114 mz_v114 rfl rfl rfl rfl rfl ⟨?_, rfl⟩ ?_
      · refine mz_go 3 (c' := (4, [some (.int 0)], [.int 6, .int 0, .int 0], m)) rfl ?_
        refine mz_doQ (R := mz_r121) (as := [.int 0, .int 0, .int 6]) (rest := []) (r1 := some (.int 1)) (m1 := m) mz_t121 mz_v121 rfl rfl rfl rfl rfl ⟨?_, rfl⟩ ?_
        · refine mz_go 8 (c' := (15, [some (.int 0), some (.int 0), some (.int 6)], [.int 1], m)) rfl ?_
          exact mz_ret rfl
        exact mz_ret rfl
      refine mz_go 14 (c' := (11, [some (.int 1), some (.int 6), some (.int (-1)), some (.int 2)], [.int (-1)], m)) rfl ?_
      refine mz_doQ (R := mz_r114) (as := [.int (-1)]) (rest := []) (r1 := some (.int 0)) (m1 := m) mz_t114 mz_v114 rfl rfl rfl rfl rfl ⟨?_, rfl⟩ ?_
      · refine mz_go 3 (c' := (4, [some (.int (-1))], [.int 6, .int 0, .int (-1)], m)) rfl ?_
        refine mz_doQ (R := mz_r121) (as := [.int (-1), .int 0, .int 6]) (rest := []) (r1 := some (.int 0)) (m1 := m) mz_t121 mz_v121 rfl rfl rfl rfl rfl ⟨?_, rfl⟩ ?_
        · refine mz_go 4 (c' := (15, [some (.int (-1)), some (.int 0), some (.int 6)], [.int 0], m)) rfl ?_
          exact mz_ret rfl
        exact mz_ret rfl
      refine mz_go 2 (c' := (37, [some (.int 1), some (.int 6), some (.int (-1)), some (.int 2)], [.int 0], m)) rfl ?_
      exact mz_ret rfl
  · rcases (show a = 0 ∨ a = 1 ∨ a = 2 ∨ a = 3 ∨ a = 4 ∨ a = 5 ∨ a = 6 by omega) with rfl | rfl | rfl | rfl | rfl | rfl | rfl
    · rw [show sm_bI (sm_undr (nI 2) (nI 0)) = 1 from by decide]
      show mz_Me 3 mz_r115 [.int 2, .int 0] m (some (.int 1)) m
      refine ⟨?_, rfl⟩
      refine mz_go 8 (c' := (11, [some (.int 2), some (.int 0), some (.int 2), some (.int 0)], [.int 2], m)) rfl ?_
      refine mz_doQ (R := mz_r114) (as := [.int 2]) (rest := []) (r1 := some (.int 1)) (m1 := m) mz_t114 mz_v114 rfl rfl rfl rfl rfl ⟨?_, rfl⟩ ?_
      · refine mz_go 3 (c' := (4, [some (.int 2)], [.int 6, .int 0, .int 2], m)) rfl ?_
        refine mz_doQ (R := mz_r121) (as := [.int 2, .int 0, .int 6]) (rest := []) (r1 := some (.int 1)) (m1 := m) mz_t121 mz_v121 rfl rfl rfl rfl rfl ⟨?_, rfl⟩ ?_
        · refine mz_go 8 (c' := (15, [some (.int 2), some (.int 0), some (.int 6)], [.int 1], m)) rfl ?_
          exact mz_ret rfl
        exact mz_ret rfl
      refine mz_go 14 (c' := (11, [some (.int 2), some (.int 0), some (.int 0), some (.int 1)], [.int 0], m)) rfl ?_
      refine mz_doQ (R := mz_r114) (as := [.int 0]) (rest := []) (r1 := some (.int 1)) (m1 := m) mz_t114 mz_v114 rfl rfl rfl rfl rfl ⟨?_, rfl⟩ ?_
      · refine mz_go 3 (c' := (4, [some (.int 0)], [.int 6, .int 0, .int 0], m)) rfl ?_
        refine mz_doQ (R := mz_r121) (as := [.int 0, .int 0, .int 6]) (rest := []) (r1 := some (.int 1)) (m1 := m) mz_t121 mz_v121 rfl rfl rfl rfl rfl ⟨?_, rfl⟩ ?_
        · refine mz_go 8 (c' := (15, [some (.int 0), some (.int 0), some (.int 6)], [.int 1], m)) rfl ?_
          exact mz_ret rfl
        exact mz_ret rfl
      refine mz_go 5 (c' := (23, [some (.int 2), some (.int 0), some (.int 0), some (.int 1)], [.int 1], m)) rfl ?_
      exact mz_ret rfl
    · rw [show sm_bI (sm_undr (nI 2) (nI 1)) = 0 from by decide]
      show mz_Me 3 mz_r115 [.int 2, .int 1] m (some (.int 0)) m
      refine ⟨?_, rfl⟩
      refine mz_go 8 (c' := (11, [some (.int 2), some (.int 1), some (.int 2), some (.int 0)], [.int 2], m)) rfl ?_
      refine mz_doQ (R := mz_r114) (as := [.int 2]) (rest := []) (r1 := some (.int 1)) (m1 := m) mz_t114 mz_v114 rfl rfl rfl rfl rfl ⟨?_, rfl⟩ ?_
      · refine mz_go 3 (c' := (4, [some (.int 2)], [.int 6, .int 0, .int 2], m)) rfl ?_
        refine mz_doQ (R := mz_r121) (as := [.int 2, .int 0, .int 6]) (rest := []) (r1 := some (.int 1)) (m1 := m) mz_t121 mz_v121 rfl rfl rfl rfl rfl ⟨?_, rfl⟩ ?_
        · refine mz_go 8 (c' := (15, [some (.int 2), some (.int 0), some (.int 6)], [.int 1], m)) rfl ?_
          exact mz_ret rfl
        exact mz_ret rfl
      refine mz_go 14 (c' := (11, [some (.int 2), some (.int 1), some (.int 0), some (.int 1)], [.int 0], m)) rfl ?_
      refine mz_doQ (R := mz_r114) (as := [.int 0]) (rest := []) (r1 := some (.int 1)) (m1 := m) mz_t114 mz_v114 rfl rfl rfl rfl rfl ⟨?_, rfl⟩ ?_
      · refine mz_go 3 (c' := (4, [some (.int 0)], [.int 6, .int 0, .int 0], m)) rfl ?_
        refine mz_doQ (R := mz_r121) (as := [.int 0, .int 0, .int 6]) (rest := []) (r1 := some (.int 1)) (m1 := m) mz_t121 mz_v121 rfl rfl rfl rfl rfl ⟨?_, rfl⟩ ?_
        · refine mz_go 8 (c' := (15, [some (.int 0), some (.int 0), some (.int 6)], [.int 1], m)) rfl ?_
          exact mz_ret rfl
        exact mz_ret rfl
      refine mz_go 14 (c' := (11, [some (.int 2), some (.int 1), some (.int (-1)), some (.int 2)], [.int (-1)], m)) rfl ?_
      refine mz_doQ (R := mz_r114) (as := [.int (-1)]) (rest := []) (r1 := some (.int 0)) (m1 := m) mz_t114 mz_v114 rfl rfl rfl rfl rfl ⟨?_, rfl⟩ ?_
      · refine mz_go 3 (c' := (4, [some (.int (-1))], [.int 6, .int 0, .int (-1)], m)) rfl ?_
        refine mz_doQ (R := mz_r121) (as := [.int (-1), .int 0, .int 6]) (rest := []) (r1 := some (.int 0)) (m1 := m) mz_t121 mz_v121 rfl rfl rfl rfl rfl ⟨?_, rfl⟩ ?_
        · refine mz_go 4 (c' := (15, [some (.int (-1)), some (.int 0), some (.int 6)], [.int 0], m)) rfl ?_
          exact mz_ret rfl
        exact mz_ret rfl
      refine mz_go 2 (c' := (37, [some (.int 2), some (.int 1), some (.int (-1)), some (.int 2)], [.int 0], m)) rfl ?_
      exact mz_ret rfl
    · rw [show sm_bI (sm_undr (nI 2) (nI 2)) = 1 from by decide]
      show mz_Me 3 mz_r115 [.int 2, .int 2] m (some (.int 1)) m
      refine ⟨?_, rfl⟩
      refine mz_go 8 (c' := (11, [some (.int 2), some (.int 2), some (.int 2), some (.int 0)], [.int 2], m)) rfl ?_
      refine mz_doQ (R := mz_r114) (as := [.int 2]) (rest := []) (r1 := some (.int 1)) (m1 := m) mz_t114 mz_v114 rfl rfl rfl rfl rfl ⟨?_, rfl⟩ ?_
      · refine mz_go 3 (c' := (4, [some (.int 2)], [.int 6, .int 0, .int 2], m)) rfl ?_
        refine mz_doQ (R := mz_r121) (as := [.int 2, .int 0, .int 6]) (rest := []) (r1 := some (.int 1)) (m1 := m) mz_t121 mz_v121 rfl rfl rfl rfl rfl ⟨?_, rfl⟩ ?_
        · refine mz_go 8 (c' := (15, [some (.int 2), some (.int 0), some (.int 6)], [.int 1], m)) rfl ?_
          exact mz_ret rfl
        exact mz_ret rfl
      refine mz_go 5 (c' := (23, [some (.int 2), some (.int 2), some (.int 2), some (.int 0)], [.int 1], m)) rfl ?_
      exact mz_ret rfl
    · rw [show sm_bI (sm_undr (nI 2) (nI 3)) = 0 from by decide]
      show mz_Me 3 mz_r115 [.int 2, .int 3] m (some (.int 0)) m
      refine ⟨?_, rfl⟩
      refine mz_go 8 (c' := (11, [some (.int 2), some (.int 3), some (.int 2), some (.int 0)], [.int 2], m)) rfl ?_
      refine mz_doQ (R := mz_r114) (as := [.int 2]) (rest := []) (r1 := some (.int 1)) (m1 := m) mz_t114 mz_v114 rfl rfl rfl rfl rfl ⟨?_, rfl⟩ ?_
      · refine mz_go 3 (c' := (4, [some (.int 2)], [.int 6, .int 0, .int 2], m)) rfl ?_
        refine mz_doQ (R := mz_r121) (as := [.int 2, .int 0, .int 6]) (rest := []) (r1 := some (.int 1)) (m1 := m) mz_t121 mz_v121 rfl rfl rfl rfl rfl ⟨?_, rfl⟩ ?_
        · refine mz_go 8 (c' := (15, [some (.int 2), some (.int 0), some (.int 6)], [.int 1], m)) rfl ?_
          exact mz_ret rfl
        exact mz_ret rfl
      refine mz_go 14 (c' := (11, [some (.int 2), some (.int 3), some (.int 0), some (.int 1)], [.int 0], m)) rfl ?_
      refine mz_doQ (R := mz_r114) (as := [.int 0]) (rest := []) (r1 := some (.int 1)) (m1 := m) mz_t114 mz_v114 rfl rfl rfl rfl rfl ⟨?_, rfl⟩ ?_
      · refine mz_go 3 (c' := (4, [some (.int 0)], [.int 6, .int 0, .int 0], m)) rfl ?_
        refine mz_doQ (R := mz_r121) (as := [.int 0, .int 0, .int 6]) (rest := []) (r1 := some (.int 1)) (m1 := m) mz_t121 mz_v121 rfl rfl rfl rfl rfl ⟨?_, rfl⟩ ?_
        · refine mz_go 8 (c' := (15, [some (.int 0), some (.int 0), some (.int 6)], [.int 1], m)) rfl ?_
          exact mz_ret rfl
        exact mz_ret rfl
      refine mz_go 14 (c' := (11, [some (.int 2), some (.int 3), some (.int (-1)), some (.int 2)], [.int (-1)], m)) rfl ?_
      refine mz_doQ (R := mz_r114) (as := [.int (-1)]) (rest := []) (r1 := some (.int 0)) (m1 := m) mz_t114 mz_v114 rfl rfl rfl rfl rfl ⟨?_, rfl⟩ ?_
      · refine mz_go 3 (c' := (4, [some (.int (-1))], [.int 6, .int 0, .int (-1)], m)) rfl ?_
        refine mz_doQ (R := mz_r121) (as := [.int (-1), .int 0, .int 6]) (rest := []) (r1 := some (.int 0)) (m1 := m) mz_t121 mz_v121 rfl rfl rfl rfl rfl ⟨?_, rfl⟩ ?_
        · refine mz_go 4 (c' := (15, [some (.int (-1)), some (.int 0), some (.int 6)], [.int 0], m)) rfl ?_
          exact mz_ret rfl
        exact mz_ret rfl
      refine mz_go 2 (c' := (37, [some (.int 2), some (.int 3), some (.int (-1)), some (.int 2)], [.int 0], m)) rfl ?_
      exact mz_ret rfl
    · rw [show sm_bI (sm_undr (nI 2) (nI 4)) = 0 from by decide]
      show mz_Me 3 mz_r115 [.int 2, .int 4] m (some (.int 0)) m
      refine ⟨?_, rfl⟩
      refine mz_go 8 (c' := (11, [some (.int 2), some (.int 4), some (.int 2), some (.int 0)], [.int 2], m)) rfl ?_
      refine mz_doQ (R := mz_r114) (as := [.int 2]) (rest := []) (r1 := some (.int 1)) (m1 := m) mz_t114 mz_v114 rfl rfl rfl rfl rfl ⟨?_, rfl⟩ ?_
      · refine mz_go 3 (c' := (4, [some (.int 2)], [.int 6, .int 0, .int 2], m)) rfl ?_
        refine mz_doQ (R := mz_r121) (as := [.int 2, .int 0, .int 6]) (rest := []) (r1 := some (.int 1)) (m1 := m) mz_t121 mz_v121 rfl rfl rfl rfl rfl ⟨?_, rfl⟩ ?_
        · refine mz_go 8 (c' := (15, [some (.int 2), some (.int 0), some (.int 6)], [.int 1], m)) rfl ?_
          exact mz_ret rfl
        exact mz_ret rfl
      refine mz_go 14 (c' := (11, [some (.int 2), some (.int 4), some (.int 0), some (.int 1)], [.int 0], m)) rfl ?_
      refine mz_doQ (R := mz_r114) (as := [.int 0]) (rest := []) (r1 := some (.int 1)) (m1 := m) mz_t114 mz_v114 rfl rfl rfl rfl rfl ⟨?_, rfl⟩ ?_
      · refine mz_go 3 (c' := (4, [some (.int 0)], [.int 6, .int 0, .int 0], m)) rfl ?_
        refine mz_doQ (R := mz_r121) (as := [.int 0, .int 0, .int 6]) (rest := []) (r1 := some (.int 1)) (m1 := m) mz_t121 mz_v121 rfl rfl rfl rfl rfl ⟨?_, rfl⟩ ?_
        · refine mz_go 8 (c' := (15, [some (.int 0), some (.int 0), some (.int 6)], [.int 1], m)) rfl ?_
          exact mz_ret rfl
        exact mz_ret rfl
      refine mz_go 14 (c' := (11, [some (.int 2), some (.int 4), some (.int (-1)), some (.int 2)], [.int (-1)], m)) rfl ?_
      refine mz_doQ (R := mz_r114) (as := [.int (-1)]) (rest := []) (r1 := some (.int 0)) (m1 := m) mz_t114 mz_v114 rfl rfl rfl rfl rfl ⟨?_, rfl⟩ ?_
      · refine mz_go 3 (c' := (4, [some (.int (-1))], [.int 6, .int 0, .int (-1)], m)) rfl ?_
        refine mz_doQ (R := mz_r121) (as := [.int (-1), .int 0, .int 6]) (rest := []) (r1 := some (.int 0)) (m1 := m) mz_t121 mz_v121 rfl rfl rfl rfl rfl ⟨?_, rfl⟩ ?_
        · refine mz_go 4 (c' := (15, [some (.int (-1)), some (.int 0), some (.int 6)], [.int 0], m)) rfl ?_
          exact mz_ret rfl
        exact mz_ret rfl
      refine mz_go 2 (c' := (37, [some (.int 2), some (.int 4), some (.int (-1)), some (.int 2)], [.int 0], m)) rfl ?_
      exact mz_ret rfl
    · rw [show sm_bI (sm_undr (nI 2) (nI 5)) = 0 from by decide]
      show mz_Me 3 mz_r115 [.int 2, .int 5] m (some (.int 0)) m
      refine ⟨?_, rfl⟩
      refine mz_go 8 (c' := (11, [some (.int 2), some (.int 5), some (.int 2), some (.int 0)], [.int 2], m)) rfl ?_
      refine mz_doQ (R := mz_r114) (as := [.int 2]) (rest := []) (r1 := some (.int 1)) (m1 := m) mz_t114 mz_v114 rfl rfl rfl rfl rfl ⟨?_, rfl⟩ ?_
      · refine mz_go 3 (c' := (4, [some (.int 2)], [.int 6, .int 0, .int 2], m)) rfl ?_
        refine mz_doQ (R := mz_r121) (as := [.int 2, .int 0, .int 6]) (rest := []) (r1 := some (.int 1)) (m1 := m) mz_t121 mz_v121 rfl rfl rfl rfl rfl ⟨?_, rfl⟩ ?_
        · refine mz_go 8 (c' := (15, [some (.int 2), some (.int 0), some (.int 6)], [.int 1], m)) rfl ?_
          exact mz_ret rfl
        exact mz_ret rfl
      refine mz_go 14 (c' := (11, [some (.int 2), some (.int 5), some (.int 0), some (.int 1)], [.int 0], m)) rfl ?_
      refine mz_doQ (R := mz_r114) (as := [.int 0]) (rest := []) (r1 := some (.int 1)) (m1 := m) mz_t114 mz_v114 rfl rfl rfl rfl rfl ⟨?_, rfl⟩ ?_
      · refine mz_go 3 (c' := (4, [some (.int 0)], [.int 6, .int 0, .int 0], m)) rfl ?_
        refine mz_doQ (R := mz_r121) (as := [.int 0, .int 0, .int 6]) (rest := []) (r1 := some (.int 1)) (m1 := m) mz_t121 mz_v121 rfl rfl rfl rfl rfl ⟨?_, rfl⟩ ?_
        · refine mz_go 8 (c' := (15, [some (.int 0), some (.int 0), some (.int 6)], [.int 1], m)) rfl ?_
          exact mz_ret rfl
        exact mz_ret rfl
      refine mz_go 14 (c' := (11, [some (.int 2), some (.int 5), some (.int (-1)), some (.int 2)], [.int (-1)], m)) rfl ?_
      refine mz_doQ (R := mz_r114) (as := [.int (-1)]) (rest := []) (r1 := some (.int 0)) (m1 := m) mz_t114 mz_v114 rfl rfl rfl rfl rfl ⟨?_, rfl⟩ ?_
      · refine mz_go 3 (c' := (4, [some (.int (-1))], [.int 6, .int 0, .int (-1)], m)) rfl ?_
        refine mz_doQ (R := mz_r121) (as := [.int (-1), .int 0, .int 6]) (rest := []) (r1 := some (.int 0)) (m1 := m) mz_t121 mz_v121 rfl rfl rfl rfl rfl ⟨?_, rfl⟩ ?_
        · refine mz_go 4 (c' := (15, [some (.int (-1)), some (.int 0), some (.int 6)], [.int 0], m)) rfl ?_
          exact mz_ret rfl
        exact mz_ret rfl
      refine mz_go 2 (c' := (37, [some (.int 2), some (.int 5), some (.int (-1)), some (.int 2)], [.int 0], m)) rfl ?_
      exact mz_ret rfl
    · rw [show sm_bI (sm_undr (nI 2) (nI 6)) = 0 from by decide]
      show mz_Me 3 mz_r115 [.int 2, .int 6] m (some (.int 0)) m
      refine ⟨?_, rfl⟩
      refine mz_go 8 (c' := (11, [some (.int 2), some (.int 6), some (.int 2), some (.int 0)], [.int 2], m)) rfl ?_
      refine mz_doQ (R := mz_r114) (as := [.int 2]) (rest := []) (r1 := some (.int 1)) (m1 := m) mz_t114 mz_v114 rfl rfl rfl rfl rfl ⟨?_, rfl⟩ ?_
      · refine mz_go 3 (c' := (4, [some (.int 2)], [.int 6, .int 0, .int 2], m)) rfl ?_
        refine mz_doQ (R := mz_r121) (as := [.int 2, .int 0, .int 6]) (rest := []) (r1 := some (.int 1)) (m1 := m) mz_t121 mz_v121 rfl rfl rfl rfl rfl ⟨?_, rfl⟩ ?_
        · refine mz_go 8 (c' := (15, [some (.int 2), some (.int 0), some (.int 6)], [.int 1], m)) rfl ?_
          exact mz_ret rfl
        exact mz_ret rfl
      refine mz_go 14 (c' := (11, [some (.int 2), some (.int 6), some (.int 0), some (.int 1)], [.int 0], m)) rfl ?_
      refine mz_doQ (R := mz_r114) (as := [.int 0]) (rest := []) (r1 := some (.int 1)) (m1 := m) mz_t114 mz_v114 rfl rfl rfl rfl rfl ⟨?_, rfl⟩ ?_
      · refine mz_go 3 (c' := (4, [some (.int 0)], [.int 6, .int 0, .int 0], m)) rfl ?_
        refine mz_doQ (R := mz_r121) (as := [.int 0, .int 0, .int 6]) (rest := []) (r1 := some (.int 1)) (m1 := m) mz_t121 mz_v121 rfl rfl rfl rfl rfl ⟨?_, rfl⟩ ?_
        · refine mz_go 8 (c' := (15, [some (.int 0), some (.int 0), some (.int 6)], [.int 1], m)) rfl ?_
          exact mz_ret rfl
        exact mz_ret rfl
      refine mz_go 14 (c' := (11, [some (.int 2), some (.int 6), some (.int (-1)), some (.int 2)], [.int (-1)], m)) rfl ?_
      refine mz_doQ (R := mz_r114) (as := [.int (-1)]) (rest := []) (r1 := some (.int 0)) (m1 := m) mz_t114 mz_v114 rfl rfl rfl rfl rfl ⟨?_, rfl⟩ ?_
      · refine mz_go 3 (c' := (4, [some (.int (-1))], [.int 6, .int 0, .int (-1)], m)) rfl ?_
        refine mz_doQ (R := mz_r121) (as := [.int (-1), .int 0, .int 6]) (rest := []) (r1 := some (.int 0)) (m1 := m) mz_t121 mz_v121 rfl rfl rfl rfl rfl ⟨?_, rfl⟩ ?_
        · refine mz_go 4 (c' := (15, [some (.int (-1)), some (.int 0), some (.int 6)], [.int 0], m)) rfl ?_
          exact mz_ret rfl
        exact mz_ret rfl
      refine mz_go 2 (c' := (37, [some (.int 2), some (.int 6), some (.int (-1)), some (.int 2)], [.int 0], m)) rfl ?_
      exact mz_ret rfl
  · rcases (show a = 0 ∨ a = 1 ∨ a = 2 ∨ a = 3 ∨ a = 4 ∨ a = 5 ∨ a = 6 by omega) with rfl | rfl | rfl | rfl | rfl | rfl | rfl
    · rw [show sm_bI (sm_undr (nI 3) (nI 0)) = 1 from by decide]
      show mz_Me 3 mz_r115 [.int 3, .int 0] m (some (.int 1)) m
      refine ⟨?_, rfl⟩
      refine mz_go 8 (c' := (11, [some (.int 3), some (.int 0), some (.int 3), some (.int 0)], [.int 3], m)) rfl ?_
      refine mz_doQ (R := mz_r114) (as := [.int 3]) (rest := []) (r1 := some (.int 1)) (m1 := m) mz_t114 mz_v114 rfl rfl rfl rfl rfl ⟨?_, rfl⟩ ?_
      · refine mz_go 3 (c' := (4, [some (.int 3)], [.int 6, .int 0, .int 3], m)) rfl ?_
        refine mz_doQ (R := mz_r121) (as := [.int 3, .int 0, .int 6]) (rest := []) (r1 := some (.int 1)) (m1 := m) mz_t121 mz_v121 rfl rfl rfl rfl rfl ⟨?_, rfl⟩ ?_
        · refine mz_go 8 (c' := (15, [some (.int 3), some (.int 0), some (.int 6)], [.int 1], m)) rfl ?_
          exact mz_ret rfl
        exact mz_ret rfl
      refine mz_go 14 (c' := (11, [some (.int 3), some (.int 0), some (.int 0), some (.int 1)], [.int 0], m)) rfl ?_
      refine mz_doQ (R := mz_r114) (as := [.int 0]) (rest := []) (r1 := some (.int 1)) (m1 := m) mz_t114 mz_v114 rfl rfl rfl rfl rfl ⟨?_, rfl⟩ ?_
      · refine mz_go 3 (c' := (4, [some (.int 0)], [.int 6, .int 0, .int 0], m)) rfl ?_
        refine mz_doQ (R := mz_r121) (as := [.int 0, .int 0, .int 6]) (rest := []) (r1 := some (.int 1)) (m1 := m) mz_t121 mz_v121 rfl rfl rfl rfl rfl ⟨?_, rfl⟩ ?_
        · refine mz_go 8 (c' := (15, [some (.int 0), some (.int 0), some (.int 6)], [.int 1], m)) rfl ?_
          exact mz_ret rfl
        exact mz_ret rfl
      refine mz_go 5 (c' := (23, [some (.int 3), some (.int 0), some (.int 0), some (.int 1)], [.int 1], m)) rfl ?_
      exact mz_ret rfl
    · rw [show sm_bI (sm_undr (nI 3) (nI 1)) = 0 from by decide]
      show mz_Me 3 mz_r115 [.int 3, .int 1] m (some (.int 0)) m
      refine ⟨?_, rfl⟩
      refine mz_go 8 (c' := (11, [some (.int 3), some (.int 1), some (.int 3), some (.int 0)], [.int 3], m)) rfl ?_
      refine mz_doQ (R := mz_r114) (as := [.int 3]) (rest := []) (r1 := some (.int 1)) (m1 := m) mz_t114 mz_v114 rfl rfl rfl rfl rfl ⟨?_, rfl⟩ ?_
      · refine mz_go 3 (c' := (4, [some (.int 3)], [.int 6, .int 0, .int 3], m)) rfl ?_
        refine mz_doQ (R := mz_r121) (as := [.int 3, .int 0, .int 6]) (rest := []) (r1 := some (.int 1)) (m1 := m) mz_t121 mz_v121 rfl rfl rfl rfl rfl ⟨?_, rfl⟩ ?_
        · refine mz_go 8 (c' := (15, [some (.int 3), some (.int 0), some (.int 6)], [.int 1], m)) rfl ?_
          exact mz_ret rfl
        exact mz_ret rfl
      refine mz_go 14 (c' := (11, [some (.int 3), some (.int 1), some (.int 0), some (.int 1)], [.int 0], m)) rfl ?_
      refine mz_doQ (R := mz_r114) (as := [.int 0]) (rest := []) (r1 := some (.int 1)) (m1 := m) mz_t114 mz_v114 rfl rfl rfl rfl rfl ⟨?_, rfl⟩ ?_
      · refine mz_go 3 (c' := (4, [some (.int 0)], [.int 6, .int 0, .int 0], m)) rfl ?_
        refine mz_doQ (R := mz_r121) (as := [.int 0, .int 0, .int 6]) (rest := []) (r1 := some (.int 1)) (m1 := m) mz_t121 mz_v121 rfl rfl rfl rfl rfl ⟨?_, rfl⟩ ?_
        · refine mz_go 8 (c' := (15, [some (.int 0), some (.int 0), some (.int 6)], [.int 1], m)) rfl ?_
          exact mz_ret rfl
        exact mz_ret rfl
      refine mz_go 14 (c' := (11, [some (.int 3), some (.int 1), some (.int (-1)), some (.int 2)], [.int (-1)], m)) rfl ?_
      refine mz_doQ (R := mz_r114) (as := [.int (-1)]) (rest := []) (r1 := some (.int 0)) (m1 := m) mz_t114 mz_v114 rfl rfl rfl rfl rfl ⟨?_, rfl⟩ ?_
      · refine mz_go 3 (c' := (4, [some (.int (-1))], [.int 6, .int 0, .int (-1)], m)) rfl ?_
        refine mz_doQ (R := mz_r121) (as := [.int (-1), .int 0, .int 6]) (rest := []) (r1 := some (.int 0)) (m1 := m) mz_t121 mz_v121 rfl rfl rfl rfl rfl ⟨?_, rfl⟩ ?_
        · refine mz_go 4 (c' := (15, [some (.int (-1)), some (.int 0), some (.int 6)], [.int 0], m)) rfl ?_
          exact mz_ret rfl
        exact mz_ret rfl
      refine mz_go 2 (c' := (37, [some (.int 3), some (.int 1), some (.int (-1)), some (.int 2)], [.int 0], m)) rfl ?_
      exact mz_ret rfl
    · rw [show sm_bI (sm_undr (nI 3) (nI 2)) = 0 from by decide]
      show mz_Me 3 mz_r115 [.int 3, .int 2] m (some (.int 0)) m
      refine ⟨?_, rfl⟩
      refine mz_go 8 (c' := (11, [some (.int 3), some (.int 2), some (.int 3), some (.int 0)], [.int 3], m)) rfl ?_
      refine mz_doQ (R := mz_r114) (as := [.int 3]) (rest := []) (r1 := some (.int 1)) (m1 := m) mz_t114 mz_v114 rfl rfl rfl rfl rfl ⟨?_, rfl⟩ ?_
      · refine mz_go 3 (c' := (4, [some (.int 3)], [.int 6, .int 0, .int 3], m)) rfl ?_
        refine mz_doQ (R := mz_r121) (as := [.int 3, .int 0, .int 6]) (rest := []) (r1 := some (.int 1)) (m1 := m) mz_t121 mz_v121 rfl rfl rfl rfl rfl ⟨?_, rfl⟩ ?_
        · refine mz_go 8 (c' := (15, [some (.int 3), some (.int 0), some (.int 6)], [.int 1], m)) rfl ?_
          exact mz_ret rfl
        exact mz_ret rfl
      refine mz_go 14 (c' := (11, [some (.int 3), some (.int 2), some (.int 0), some (.int 1)], [.int 0], m)) rfl ?_
      refine mz_doQ (R := mz_r114) (as := [.int 0]) (rest := []) (r1 := some (.int 1)) (m1 := m) mz_t114 mz_v114 rfl rfl rfl rfl rfl ⟨?_, rfl⟩ ?_
      · refine mz_go 3 (c' := (4, [some (.int 0)], [.int 6, .int 0, .int 0], m)) rfl ?_
        refine mz_doQ (R := mz_r121) (as := [.int 0, .int 0, .int 6]) (rest := []) (r1 := some (.int 1)) (m1 := m) mz_t121 mz_v121 rfl rfl rfl rfl rfl ⟨?_, rfl⟩ ?_
        · refine mz_go 8 (c' := (15, [some (.int 0), some (.int 0), some (.int 6)], [.int 1], m)) rfl ?_
          exact mz_ret rfl
        exact mz_ret rfl
      refine mz_go 14 (c' := (11, [some (.int 3), some (.int 2), some (.int (-1)), some (.int 2)], [.int (-1)], m)) rfl ?_
      refine mz_doQ (R := mz_r114) (as := [.int (-1)]) (rest := []) (r1 := some (.int 0)) (m1 := m) mz_t114 mz_v114 rfl rfl rfl rfl rfl ⟨?_, rfl⟩ ?_
      · refine mz_go 3 (c' := (4, [some (.int (-1))], [.int 6, .int 0, .int (-1)], m)) rfl ?_
        refine mz_doQ (R := mz_r121) (as := [.int (-1), .int 0, .int 6]) (rest := []) (r1 := some (.int 0)) (m1 := m) mz_t121 mz_v121 rfl rfl rfl rfl rfl ⟨?_, rfl⟩ ?_
        · refine mz_go 4 (c' := (15, [some (.int (-1)), some (.int 0), some (.int 6)], [.int 0], m)) rfl ?_
          exact mz_ret rfl
        exact mz_ret rfl
      refine mz_go 2 (c' := (37, [some (.int 3), some (.int 2), some (.int (-1)), some (.int 2)], [.int 0], m)) rfl ?_
      exact mz_ret rfl
    · rw [show sm_bI (sm_undr (nI 3) (nI 3)) = 1 from by decide]
      show mz_Me 3 mz_r115 [.int 3, .int 3] m (some (.int 1)) m
      refine ⟨?_, rfl⟩
      refine mz_go 8 (c' := (11, [some (.int 3), some (.int 3), some (.int 3), some (.int 0)], [.int 3], m)) rfl ?_
      refine mz_doQ (R := mz_r114) (as := [.int 3]) (rest := []) (r1 := some (.int 1)) (m1 := m) mz_t114 mz_v114 rfl rfl rfl rfl rfl ⟨?_, rfl⟩ ?_
      · refine mz_go 3 (c' := (4, [some (.int 3)], [.int 6, .int 0, .int 3], m)) rfl ?_
        refine mz_doQ (R := mz_r121) (as := [.int 3, .int 0, .int 6]) (rest := []) (r1 := some (.int 1)) (m1 := m) mz_t121 mz_v121 rfl rfl rfl rfl rfl ⟨?_, rfl⟩ ?_
        · refine mz_go 8 (c' := (15, [some (.int 3), some (.int 0), some (.int 6)], [.int 1], m)) rfl ?_
          exact mz_ret rfl
        exact mz_ret rfl
      refine mz_go 5 (c' := (23, [some (.int 3), some (.int 3), some (.int 3), some (.int 0)], [.int 1], m)) rfl ?_
      exact mz_ret rfl
    · rw [show sm_bI (sm_undr (nI 3) (nI 4)) = 0 from by decide]
      show mz_Me 3 mz_r115 [.int 3, .int 4] m (some (.int 0)) m
      refine ⟨?_, rfl⟩
      refine mz_go 8 (c' := (11, [some (.int 3), some (.int 4), some (.int 3), some (.int 0)], [.int 3], m)) rfl ?_
      refine mz_doQ (R := mz_r114) (as := [.int 3]) (rest := []) (r1 := some (.int 1)) (m1 := m) mz_t114 mz_v114 rfl rfl rfl rfl rfl ⟨?_, rfl⟩ ?_
      · refine mz_go 3 (c' := (4, [some (.int 3)], [.int 6, .int 0, .int 3], m)) rfl ?_
        refine mz_doQ (R := mz_r121) (as := [.int 3, .int 0, .int 6]) (rest := []) (r1 := some (.int 1)) (m1 := m) mz_t121 mz_v121 rfl rfl rfl rfl rfl ⟨?_, rfl⟩ ?_
        · refine mz_go 8 (c' := (15, [some (.int 3), some (.int 0), some (.int 6)], [.int 1], m)) rfl ?_
          exact mz_ret rfl
        exact mz_ret rfl
      refine mz_go 14 (c' := (11, [some (.int 3), some (.int 4), some (.int 0), some (.int 1)], [.int 0], m)) rfl ?_
      refine mz_doQ (R := mz_r114) (as := [.int 0]) (rest := []) (r1 := some (.int 1)) (m1 := m) mz_t114 mz_v114 rfl rfl rfl rfl rfl ⟨?_, rfl⟩ ?_
      · refine mz_go 3 (c' := (4, [some (.int 0)], [.int 6, .int 0, .int 0], m)) rfl ?_
        refine mz_doQ (R := mz_r121) (as := [.int 0, .int 0, .int 6]) (rest := []) (r1 := some (.int 1)) (m1 := m) mz_t121 mz_v121 rfl rfl rfl rfl rfl ⟨?_, rfl⟩ ?_
        · refine mz_go 8 (c' := (15, [some (.int 0), some (.int 0), some (.int 6)], [.int 1], m)) rfl ?_
          exact mz_ret rfl
        exact mz_ret rfl
      refine mz_go 14 (c' := (11, [some (.int 3), some (.int 4), some (.int (-1)), some (.int 2)], [.int (-1)], m)) rfl ?_
      refine mz_doQ (R := mz_r114) (as := [.int (-1)]) (rest := []) (r1 := some (.int 0)) (m1 := m) mz_t114 mz_v114 rfl rfl rfl rfl rfl ⟨?_, rfl⟩ ?_
      · refine mz_go 3 (c' := (4, [some (.int (-1))], [.int 6, .int 0, .int (-1)], m)) rfl ?_
        refine mz_doQ (R := mz_r121) (as := [.int (-1), .int 0, .int 6]) (rest := []) (r1 := some (.int 0)) (m1 := m) mz_t121 mz_v121 rfl rfl rfl rfl rfl ⟨?_, rfl⟩ ?_
        · refine mz_go 4 (c' := (15, [some (.int (-1)), some (.int 0), some (.int 6)], [.int 0], m)) rfl ?_
          exact mz_ret rfl
        exact mz_ret rfl
      refine mz_go 2 (c' := (37, [some (.int 3), some (.int 4), some (.int (-1)), some (.int 2)], [.int 0], m)) rfl ?_
      exact mz_ret rfl
    · rw [show sm_bI (sm_undr (nI 3) (nI 5)) = 0 from by decide]
      show mz_Me 3 mz_r115 [.int 3, .int 5] m (some (.int 0)) m
      refine ⟨?_, rfl⟩
      refine mz_go 8 (c' := (11, [some (.int 3), some (.int 5), some (.int 3), some (.int 0)], [.int 3], m)) rfl ?_
      refine mz_doQ (R := mz_r114) (as := [.int 3]) (rest := []) (r1 := some (.int 1)) (m1 := m) mz_t114 mz_v114 rfl rfl rfl rfl rfl ⟨?_, rfl⟩ ?_
      · refine mz_go 3 (c' := (4, [some (.int 3)], [.int 6, .int 0, .int 3], m)) rfl ?_
        refine mz_doQ (R := mz_r121) (as := [.int 3, .int 0, .int 6]) (rest := []) (r1 := some (.int 1)) (m1 := m) mz_t121 mz_v121 rfl rfl rfl rfl rfl ⟨?_, rfl⟩ ?_
        · refine mz_go 8 (c' := (15, [some (.int 3), some (.int 0), some (.int 6)], [.int 1], m)) rfl ?_
          exact mz_ret rfl
        exact mz_ret rfl
      refine mz_go 14 (c' := (11, [some (.int 3), some (.int 5), some (.int 0), some (.int 1)], [.int 0], m)) rfl ?_
      refine mz_doQ (R := mz_r114) (as := [.int 0]) (rest := []) (r1 := some (.int 1)) (m1 := m) mz_t114 mz_v114 rfl rfl rfl rfl rfl ⟨?_, rfl⟩ ?_
      · refine mz_go 3 (c' := (4, [some (.int 0)], [.int 6, .int 0, .int 0], m)) rfl ?_
        refine mz_doQ (R := mz_r121) (as := [.int 0, .int 0, .int 6]) (rest := []) (r1 := some (.int 1)) (m1 := m) mz_t121 mz_v121 rfl rfl rfl rfl rfl ⟨?_, rfl⟩ ?_
        · refine mz_go 8 (c' := (15, [some (.int 0), some (.int 0), some (.int 6)], [.int 1], m)) rfl ?_
          exact mz_ret rfl
        exact mz_ret rfl
      refine mz_go 14 (c' := (11, [some (.int 3), some (.int 5), some (.int (-1)), some (.int 2)], [.int (-1)], m)) rfl ?_
      refine mz_doQ (R := mz_r114) (as := [.int (-1)]) (rest := []) (r1 := some (.int 0)) (m1 := m) mz_t114 mz_v114 rfl rfl rfl rfl rfl ⟨?_, rfl⟩ ?_
      · refine mz_go 3 (c' := (4, [some (.int (-1))], [.int 6, .int 0, .int (-1)], m)) rfl ?_
        refine mz_doQ (R := mz_r121) (as := [.int (-1), .int 0, .int 6]) (rest := []) (r1 := some (.int 0)) (m1 := m) mz_t121 mz_v121 rfl rfl rfl rfl rfl ⟨?_, rfl⟩ ?_
        · refine mz_go 4 (c' := (15, [some (.int (-1)), some (.int 0), some (.int 6)], [.int 0], m)) rfl ?_
          exact mz_ret rfl
        exact mz_ret rfl
      refine mz_go 2 (c' := (37, [some (.int 3), some (.int 5), some (.int (-1)), some (.int 2)], [.int 0], m)) rfl ?_
      exact mz_ret rfl
    · rw [show sm_bI (sm_undr (nI 3) (nI 6)) = 0 from by decide]
      show mz_Me 3 mz_r115 [.int 3, .int 6] m (some (.int 0)) m
      refine ⟨?_, rfl⟩
      refine mz_go 8 (c' := (11, [some (.int 3), some (.int 6), some (.int 3), some (.int 0)], [.int 3], m)) rfl ?_
      refine mz_doQ (R := mz_r114) (as := [.int 3]) (rest := []) (r1 := some (.int 1)) (m1 := m) mz_t114 mz_v114 rfl rfl rfl rfl rfl ⟨?_, rfl⟩ ?_
      · refine mz_go 3 (c' := (4, [some (.int 3)], [.int 6, .int 0, .int 3], m)) rfl ?_
        refine mz_doQ (R := mz_r121) (as := [.int 3, .int 0, .int 6]) (rest := []) (r1 := some (.int 1)) (m1 := m) mz_t121 mz_v121 rfl rfl rfl rfl rfl ⟨?_, rfl⟩ ?_
        · refine mz_go 8 (c' := (15, [some (.int 3), some (.int 0), some (.int 6)], [.int 1], m)) rfl ?_
          exact mz_ret rfl
        exact mz_ret rfl
      refine mz_go 14 (c' := (11, [some (.int 3), some (.int 6), some (.int 0), some (.int 1)], [.int 0], m)) rfl ?_
      refine mz_doQ (R := mz_r114) (as := [.int 0]) (rest := []) (r1 := some (.int 1)) (m1 := m) mz_t114 mz_v114 rfl rfl rfl rfl rfl ⟨?_, rfl⟩ ?_
      · refine mz_go 3 (c' := (4, [some (.int 0)], [.int 6, .int 0, .int 0], m)) rfl ?_
        refine mz_doQ (R := mz_r121) (as := [.int 0, .int 0, .int 6]) (rest := []) (r1 := some (.int 1)) (m1 := m) mz_t121 mz_v121 rfl rfl rfl rfl rfl ⟨?_, rfl⟩ ?_
        · refine mz_go 8 (c' := (15, [some (.int 0), some (.int 0), some (.int 6)], [.int 1], m)) rfl ?_
          exact mz_ret rfl
        exact mz_ret rfl
      refine mz_go 14 (c' := (11, [some (.int 3), some (.int 6), some (.int (-1)), some (.int 2)], [.int (-1)], m)) rfl ?_
      refine mz_doQ (R := mz_r114) (as := [.int (-1)]) (rest := []) (r1 := some (.int 0)) (m1 := m) mz_t114 mz_v114 rfl rfl rfl rfl rfl ⟨?_, rfl⟩ ?_
      · refine mz_go 3 (c' := (4, [some (.int (-1))], [.int 6, .int 0, .int (-1)], m)) rfl ?_
        refine mz_doQ (R := mz_r121) (as := [.int (-1), .int 0, .int 6]) (rest := []) (r1 := some (.int 0)) (m1 := m) mz_t121 mz_v121 rfl rfl rfl rfl rfl ⟨?_, rfl⟩ ?_
        · refine mz_go 4 (c' := (15, [some (.int (-1)), some (.int 0), some (.int 6)], [.int 0], m)) rfl ?_
          exact mz_ret rfl
        exact mz_ret rfl
      refine mz_go 2 (c' := (37, [some (.int 3), some (.int 6), some (.int (-1)), some (.int 2)], [.int 0], m)) rfl ?_
      exact mz_ret rfl
  · rcases (show a = 0 ∨ a = 1 ∨ a = 2 ∨ a = 3 ∨ a = 4 ∨ a = 5 ∨ a = 6 by omega) with rfl | rfl | rfl | rfl | rfl | rfl | rfl
    · rw [show sm_bI (sm_undr (nI 4) (nI 0)) = 1 from by decide]
      show mz_Me 3 mz_r115 [.int 4, .int 0] m (some (.int 1)) m
      refine ⟨?_, rfl⟩
      refine mz_go 8 (c' := (11, [some (.int 4), some (.int 0), some (.int 4), some (.int 0)], [.int 4], m)) rfl ?_
      refine mz_doQ (R := mz_r114) (as := [.int 4]) (rest := []) (r1 := some (.int 1)) (m1 := m) mz_t114 mz_v114 rfl rfl rfl rfl rfl ⟨?_, rfl⟩ ?_
      · refine mz_go 3 (c' := (4, [some (.int 4)], [.int 6, .int 0, .int 4], m)) rfl ?_
        refine mz_doQ (R := mz_r121) (as := [.int 4, .int 0, .int 6]) (rest := []) (r1 := some (.int 1)) (m1 := m) mz_t121 mz_v121 rfl rfl rfl rfl rfl ⟨?_, rfl⟩ ?_
        · refine mz_go 8 (c' := (15, [some (.int 4), some (.int 0), some (.int 6)], [.int 1], m)) rfl ?_
          exact mz_ret rfl
        exact mz_ret rfl
      refine mz_go 14 (c' := (11, [some (.int 4), some (.int 0), some (.int 1), some (.int 1)], [.int 1], m)) rfl ?_
      refine mz_doQ (R := mz_r114) (as := [.int 1]) (rest := []) (r1 := some (.int 1)) (m1 := m) mz_t114 mz_v114 rfl rfl rfl rfl rfl ⟨?_, rfl⟩ ?_
      · refine mz_go 3 (c' := (4, [some (.int 1)], [.int 6, .int 0, .int 1], m)) rfl ?_
        refine mz_doQ (R := mz_r121) (as := [.int 1, .int 0, .int 6]) (rest := []) (r1 := some (.int 1)) (m1 := m) mz_t121 mz_v121 rfl rfl rfl rfl rfl ⟨?_, rfl⟩ ?_
        · refine mz_go 8 (c' := (15, [some (.int 1), some (.int 0), some (.int 6)], [.int 1], m)) rfl ?_
          exact mz_ret rfl
        exact mz_ret rfl
      refine mz_go 14 (c' := (11, [some (.int 4), some (.int 0), some (.int 0), some (.int 2)], [.int 0], m)) rfl ?_
      refine mz_doQ (R := mz_r114) (as := [.int 0]) (rest := []) (r1 := some (.int 1)) (m1 := m) mz_t114 mz_v114 rfl rfl rfl rfl rfl ⟨?_, rfl⟩ ?_
      · refine mz_go 3 (c' := (4, [some (.int 0)], [.int 6, .int 0, .int 0], m)) rfl ?_
        refine mz_doQ (R := mz_r121) (as := [.int 0, .int 0, .int 6]) (rest := []) (r1 := some (.int 1)) (m1 := m) mz_t121 mz_v121 rfl rfl rfl rfl rfl ⟨?_, rfl⟩ ?_
        · refine mz_go 8 (c' := (15, [some (.int 0), some (.int 0), some (.int 6)], [.int 1], m)) rfl ?_
          exact mz_ret rfl
        exact mz_ret rfl
      refine mz_go 5 (c' := (23, [some (.int 4), some (.int 0), some (.int 0), some (.int 2)], [.int 1], m)) rfl ?_
      exact mz_ret rfl
    · rw [show sm_bI (sm_undr (nI 4) (nI 1)) = 1 from by decide]
      show mz_Me 3 mz_r115 [.int 4, .int 1] m (some (.int 1)) m
      refine ⟨?_, rfl⟩
      refine mz_go 8 (c' := (11, [some (.int 4), some (.int 1), some (.int 4), some (.int 0)], [.int 4], m)) rfl ?_
      refine mz_doQ (R := mz_r114) (as := [.int 4]) (rest := []) (r1 := some (.int 1)) (m1 := m) mz_t114 mz_v114 rfl rfl rfl rfl rfl ⟨?_, rfl⟩ ?_
      · refine mz_go 3 (c' := (4, [some (.int 4)], [.int 6, .int 0, .int 4], m)) rfl ?_
        refine mz_doQ (R := mz_r121) (as := [.int 4, .int 0, .int 6]) (rest := []) (r1 := some (.int 1)) (m1 := m) mz_t121 mz_v121 rfl rfl rfl rfl rfl ⟨?_, rfl⟩ ?_
        · refine mz_go 8 (c' := (15, [some (.int 4), some (.int 0), some (.int 6)], [.int 1], m)) rfl ?_
          exact mz_ret rfl
        exact mz_ret rfl
      refine mz_go 14 (c' := (11, [some (.int 4), some (.int 1), some (.int 1), some (.int 1)], [.int 1], m)) rfl ?_
      refine mz_doQ (R := mz_r114) (as := [.int 1]) (rest := []) (r1 := some (.int 1)) (m1 := m) mz_t114 mz_v114 rfl rfl rfl rfl rfl ⟨?_, rfl⟩ ?_
      · refine mz_go 3 (c' := (4, [some (.int 1)], [.int 6, .int 0, .int 1], m)) rfl ?_
        refine mz_doQ (R := mz_r121) (as := [.int 1, .int 0, .int 6]) (rest := []) (r1 := some (.int 1)) (m1 := m) mz_t121 mz_v121 rfl rfl rfl rfl rfl ⟨?_, rfl⟩ ?_
        · refine mz_go 8 (c' := (15, [some (.int 1), some (.int 0), some (.int 6)], [.int 1], m)) rfl ?_
          exact mz_ret rfl
        exact mz_ret rfl
      refine mz_go 5 (c' := (23, [some (.int 4), some (.int 1), some (.int 1), some (.int 1)], [.int 1], m)) rfl ?_
      exact mz_ret rfl
    · rw [show sm_bI (sm_undr (nI 4) (nI 2)) = 0 from by decide]
      show mz_Me 3 mz_r115 [.int 4, .int 2] m (some (.int 0)) m
      refine ⟨?_, rfl⟩
      refine mz_go 8 (c' := (11, [some (.int 4), some (.int 2), some (.int 4), some (.int 0)], [.int 4], m)) rfl ?_
      refine mz_doQ (R := mz_r114) (as := [.int 4]) (rest := []) (r1 := some (.int 1)) (m1 := m) mz_t114 mz_v114 rfl rfl rfl rfl rfl ⟨?_, rfl⟩ ?_
      · refine mz_go 3 (c' := (4, [some (.int 4)], [.int 6, .int 0, .int 4], m)) rfl ?_
        refine mz_doQ (R := mz_r121) (as := [.int 4, .int 0, .int 6]) (rest := []) (r1 := some (.int 1)) (m1 := m) mz_t121 mz_v121 rfl rfl rfl rfl rfl ⟨?_, rfl⟩ ?_
        · refine mz_go 8 (c' := (15, [some (.int 4), some (.int 0), some (.int 6)], [.int 1], m)) rfl ?_
          exact mz_ret rfl
        exact mz_ret rfl
      refine mz_go 14 (c' := (11, [some (.int 4), some (.int 2), some (.int 1), some (.int 1)], [.int 1], m)) rfl ?_
      refine mz_doQ (R := mz_r114) (as := [.int 1]) (rest := []) (r1 := some (.int 1)) (m1 := m) mz_t114 mz_v114 rfl rfl rfl rfl rfl ⟨?_, rfl⟩ ?_
      · refine mz_go 3 (c' := (4, [some (.int 1)], [.int 6, .int 0, .int 1], m)) rfl ?_
        refine mz_doQ (R := mz_r121) (as := [.int 1, .int 0, .int 6]) (rest := []) (r1 := some (.int 1)) (m1 := m) mz_t121 mz_v121 rfl rfl rfl rfl rfl ⟨?_, rfl⟩ ?_
        · refine mz_go 8 (c' := (15, [some (.int 1), some (.int 0), some (.int 6)], [.int 1], m)) rfl ?_
          exact mz_ret rfl
        exact mz_ret rfl
      refine mz_go 14 (c' := (11, [some (.int 4), some (.int 2), some (.int 0), some (.int 2)], [.int 0], m)) rfl ?_
      refine mz_doQ (R := mz_r114) (as := [.int 0]) (rest := []) (r1 := some (.int 1)) (m1 := m) mz_t114 mz_v114 rfl rfl rfl rfl rfl ⟨?_, rfl⟩ ?_
      · refine mz_go 3 (c' := (4, [some (.int 0)], [.int 6, .int 0, .int 0], m)) rfl ?_
        refine mz_doQ (R := mz_r121) (as := [.int 0, .int 0, .int 6]) (rest := []) (r1 := some (.int 1)) (m1 := m) mz_t121 mz_v121 rfl rfl rfl rfl rfl ⟨?_, rfl⟩ ?_
        · refine mz_go 8 (c' := (15, [some (.int 0), some (.int 0), some (.int 6)], [.int 1], m)) rfl ?_
          exact mz_ret rfl
        exact mz_ret rfl
      refine mz_go 14 (c' := (11, [some (.int 4), some (.int 2), some (.int (-1)), some (.int 3)], [.int (-1)], m)) rfl ?_
      refine mz_doQ (R := mz_r114) (as := [.int (-1)]) (rest := []) (r1 := some (.int 0)) (m1 := m) mz_t114 mz_v114 rfl rfl rfl rfl rfl ⟨?_, rfl⟩ ?_
      · refine mz_go 3 (c' := (4, [some (.int (-1))], [.int 6, .int 0, .int (-1)], m)) rfl ?_
        refine mz_doQ (R := mz_r121) (as := [.int (-1), .int 0, .int 6]) (rest := []) (r1 := some (.int 0)) (m1 := m) mz_t121 mz_v121 rfl rfl rfl rfl rfl ⟨?_, rfl⟩ ?_
        · refine mz_go 4 (c' := (15, [some (.int (-1)), some (.int 0), some (.int 6)], [.int 0], m)) rfl ?_
          exact mz_ret rfl
        exact mz_ret rfl
      refine mz_go 2 (c' := (37, [some (.int 4), some (.int 2), some (.int (-1)), some (.int 3)], [.int 0], m)) rfl ?_
      exact mz_ret rfl
    · rw [show sm_bI (sm_undr (nI 4) (nI 3)) = 0 from by decide]
      show mz_Me 3 mz_r115 [.int 4, .int 3] m (some (.int 0)) m
      refine ⟨?_, rfl⟩
      refine mz_go 8 (c' := (11, [some (.int 4), some (.int 3), some (.int 4), some (.int 0)], [.int 4], m)) rfl ?_
      refine mz_doQ (R := mz_r114) (as := [.int 4]) (rest := []) (r1 := some (.int 1)) (m1 := m) mz_t114 mz_v114 rfl rfl rfl rfl rfl ⟨?_, rfl⟩ ?_
      · refine mz_go 3 (c' := (4, [some (.int 4)], [.int 6, .int 0, .int 4], m)) rfl ?_
        refine mz_doQ (R := mz_r121) (as := [.int 4, .int 0, .int 6]) (rest := []) (r1 := some (.int 1)) (m1 := m) mz_t121 mz_v121 rfl rfl rfl rfl rfl ⟨?_, rfl⟩ ?_
        · refine mz_go 8 (c' := (15, [some (.int 4), some (.int 0), some (.int 6)], [.int 1], m)) rfl ?_
          exact mz_ret rfl
        exact mz_ret rfl
      refine mz_go 14 (c' := (11, [some (.int 4), some (.int 3), some (.int 1), some (.int 1)], [.int 1], m)) rfl ?_
      refine mz_doQ (R := mz_r114) (as := [.int 1]) (rest := []) (r1 := some (.int 1)) (m1 := m) mz_t114 mz_v114 rfl rfl rfl rfl rfl ⟨?_, rfl⟩ ?_
      · refine mz_go 3 (c' := (4, [some (.int 1)], [.int 6, .int 0, .int 1], m)) rfl ?_
        refine mz_doQ (R := mz_r121) (as := [.int 1, .int 0, .int 6]) (rest := []) (r1 := some (.int 1)) (m1 := m) mz_t121 mz_v121 rfl rfl rfl rfl rfl ⟨?_, rfl⟩ ?_
        · refine mz_go 8 (c' := (15, [some (.int 1), some (.int 0), some (.int 6)], [.int 1], m)) rfl ?_
          exact mz_ret rfl
        exact mz_ret rfl
      refine mz_go 14 (c' := (11, [some (.int 4), some (.int 3), some (.int 0), some (.int 2)], [.int 0], m)) rfl ?_
      refine mz_doQ (R := mz_r114) (as := [.int 0]) (rest := []) (r1 := some (.int 1)) (m1 := m) mz_t114 mz_v114 rfl rfl rfl rfl rfl ⟨?_, rfl⟩ ?_
      · refine mz_go 3 (c' := (4, [some (.int 0)], [.int 6, .int 0, .int 0], m)) rfl ?_
        refine mz_doQ (R := mz_r121) (as := [.int 0, .int 0, .int 6]) (rest := []) (r1 := some (.int 1)) (m1 := m) mz_t121 mz_v121 rfl rfl rfl rfl rfl ⟨?_, rfl⟩ ?_
        · refine mz_go 8 (c' := (15, [some (.int 0), some (.int 0), some (.int 6)], [.int 1], m)) rfl ?_
          exact mz_ret rfl
        exact mz_ret rfl
      refine mz_go 14 (c' := (11, [some (.int 4), some (.int 3), some (.int (-1)), some (.int 3)], [.int (-1)], m)) rfl ?_
      refine mz_doQ (R := mz_r114) (as := [.int (-1)]) (rest := []) (r1 := some (.int 0)) (m1 := m) mz_t114 mz_v114 rfl rfl rfl rfl rfl ⟨?_, rfl⟩ ?_
      · refine mz_go 3 (c' := (4, [some (.int (-1))], [.int 6, .int 0, .int (-1)], m)) rfl ?_
        refine mz_doQ (R := mz_r121) (as := [.int (-1), .int 0, .int 6]) (rest := []) (r1 := some (.int 0)) (m1 := m) mz_t121 mz_v121 rfl rfl rfl rfl rfl ⟨?_, rfl⟩ ?_
        · refine mz_go 4 (c' := (15, [some (.int (-1)), some (.int 0), some (.int 6)], [.int 0], m)) rfl ?_
          exact mz_ret rfl
        exact mz_ret rfl
      refine mz_go 2 (c' := (37, [some (.int 4), some (.int 3), some (.int (-1)), some (.int 3)], [.int 0], m)) rfl ?_
      exact mz_ret rfl
    · rw [show sm_bI (sm_undr (nI 4) (nI 4)) = 1 from by decide]
      show mz_Me 3 mz_r115 [.int 4, .int 4] m (some (.int 1)) m
      refine ⟨?_, rfl⟩
      refine mz_go 8 (c' := (11, [some (.int 4), some (.int 4), some (.int 4), some (.int 0)], [.int 4], m)) rfl ?_
      refine mz_doQ (R := mz_r114) (as := [.int 4]) (rest := []) (r1 := some (.int 1)) (m1 := m) mz_t114 mz_v114 rfl rfl rfl rfl rfl ⟨?_, rfl⟩ ?_
      · refine mz_go 3 (c' := (4, [some (.int 4)], [.int 6, .int 0, .int 4], m)) rfl ?_
        refine mz_doQ (R := mz_r121) (as := [.int 4, .int 0, .int 6]) (rest := []) (r1 := some (.int 1)) (m1 := m) mz_t121 mz_v121 rfl rfl rfl rfl rfl ⟨?_, rfl⟩ ?_
        · refine mz_go 8 (c' := (15, [some (.int 4), some (.int 0), some (.int 6)], [.int 1], m)) rfl ?_
          exact mz_ret rfl
        exact mz_ret rfl
      refine mz_go 5 (c' := (23, [some (.int 4), some (.int 4), some (.int 4), some (.int 0)], [.int 1], m)) rfl ?_
      exact mz_ret rfl
    · rw [show sm_bI (sm_undr (nI 4) (nI 5)) = 0 from by decide]
      show mz_Me 3 mz_r115 [.int 4, .int 5] m (some (.int 0)) m
      refine ⟨?_, rfl⟩
      refine mz_go 8 (c' := (11, [some (.int 4), some (.int 5), some (.int 4), some (.int 0)], [.int 4], m)) rfl ?_
      refine mz_doQ (R := mz_r114) (as := [.int 4]) (rest := []) (r1 := some (.int 1)) (m1 := m) mz_t114 mz_v114 rfl rfl rfl rfl rfl ⟨?_, rfl⟩ ?_
      · refine mz_go 3 (c' := (4, [some (.int 4)], [.int 6, .int 0, .int 4], m)) rfl ?_
        refine mz_doQ (R := mz_r121) (as := [.int 4, .int 0, .int 6]) (rest := []) (r1 := some (.int 1)) (m1 := m) mz_t121 mz_v121 rfl rfl rfl rfl rfl ⟨?_, rfl⟩ ?_
        · refine mz_go 8 (c' := (15, [some (.int 4), some (.int 0), some (.int 6)], [.int 1], m)) rfl ?_
          exact mz_ret rfl
        exact mz_ret rfl
      refine mz_go 14 (c' := (11, [some (.int 4), some (.int 5), some (.int 1), some (.int 1)], [.int 1], m)) rfl ?_
      refine mz_doQ (R := mz_r114) (as := [.int 1]) (rest := []) (r1 := some (.int 1)) (m1 := m) mz_t114 mz_v114 rfl rfl rfl rfl rfl ⟨?_, rfl⟩ ?_
      · refine mz_go 3 (c' := (4, [some (.int 1)], [.int 6, .int 0, .int 1], m)) rfl ?_
        refine mz_doQ (R := mz_r121) (as := [.int 1, .int 0, .int 6]) (rest := []) (r1 := some (.int 1)) (m1 := m) mz_t121 mz_v121 rfl rfl rfl rfl rfl ⟨?_, rfl⟩ ?_
        · refine mz_go 8 (c' := (15, [some (.int 1), some (.int 0), some (.int 6)], [.int 1], m)) rfl ?_
          exact mz_ret rfl
        exact mz_ret rfl
      refine mz_go 14 (c' := (11, [some (.int 4), some (.int 5), some (.int 0), some (.int 2)], [.int 0], m)) rfl ?_
      refine mz_doQ (R := mz_r114) (as := [.int 0]) (rest := []) (r1 := some (.int 1)) (m1 := m) mz_t114 mz_v114 rfl rfl rfl rfl rfl ⟨?_, rfl⟩ ?_
      · refine mz_go 3 (c' := (4, [some (.int 0)], [.int 6, .int 0, .int 0], m)) rfl ?_
        refine mz_doQ (R := mz_r121) (as := [.int 0, .int 0, .int 6]) (rest := []) (r1 := some (.int 1)) (m1 := m) mz_t121 mz_v121 rfl rfl rfl rfl rfl ⟨?_, rfl⟩ ?_
        · refine mz_go 8 (c' := (15, [some (.int 0), some (.int 0), some (.int 6)], [.int 1], m)) rfl ?_
          exact mz_ret rfl
        exact mz_ret rfl
      refine mz_go 14 (c' := (11, [some (.int 4), some (.int 5), some (.int (-1)), some (.int 3)], [.int (-1)], m)) rfl ?_
      refine mz_doQ (R := mz_r114) (as := [.int (-1)]) (rest := []) (r1 := some (.int 0)) (m1 := m) mz_t114 mz_v114 rfl rfl rfl rfl rfl ⟨?_, rfl⟩ ?_
      · refine mz_go 3 (c' := (4, [some (.int (-1))], [.int 6, .int 0, .int (-1)], m)) rfl ?_
        refine mz_doQ (R := mz_r121) (as := [.int (-1), .int 0, .int 6]) (rest := []) (r1 := some (.int 0)) (m1 := m) mz_t121 mz_v121 rfl rfl rfl rfl rfl ⟨?_, rfl⟩ ?_
        · refine mz_go 4 (c' := (15, [some (.int (-1)), some (.int 0), some (.int 6)], [.int 0], m)) rfl ?_
          exact mz_ret rfl
        exact mz_ret rfl
      refine mz_go 2 (c' := (37, [some (.int 4), some (.int 5), some (.int (-1)), some (.int 3)], [.int 0], m)) rfl ?_
      exact mz_ret rfl
    · rw [show sm_bI (sm_undr (nI 4) (nI 6)) = 0 from by decide]
      show mz_Me 3 mz_r115 [.int 4, .int 6] m (some (.int 0)) m
      refine ⟨?_, rfl⟩
      refine mz_go 8 (c' := (11, [some (.int 4), some (.int 6), some (.int 4), some (.int 0)], [.int 4], m)) rfl ?_
      refine mz_doQ (R := mz_r114) (as := [.int 4]) (rest := []) (r1 := some (.int 1)) (m1 := m) mz_t114 mz_v114 rfl rfl rfl rfl rfl ⟨?_, rfl⟩ ?_
      · refine mz_go 3 (c' := (4, [some (.int 4)], [.int 6, .int 0, .int 4], m)) rfl ?_
        refine mz_doQ (R := mz_r121) (as := [.int 4, .int 0, .int 6]) (rest := []) (r1 := some (.int 1)) (m1 := m) mz_t121 mz_v121 rfl rfl rfl rfl rfl ⟨?_, rfl⟩ ?_
        · refine mz_go 8 (c' := (15, [some (.int 4), some (.int 0), some (.int 6)], [.int 1], m)) rfl ?_
          exact mz_ret rfl
        exact mz_ret rfl
      refine mz_go 14 (c' := (11, [some (.int 4), some (.int 6), some (.int 1), some (.int 1)], [.int 1], m)) rfl ?_
      refine mz_doQ (R := mz_r114) (as := [.int 1]) (rest := []) (r1 := some (.int 1)) (m1 := m) mz_t114 mz_v114 rfl rfl rfl rfl rfl ⟨?_, rfl⟩ ?_
      · refine mz_go 3 (c' := (4, [some (.int 1)], [.int 6, .int 0, .int 1], m)) rfl ?_
        refine mz_doQ (R := mz_r121) (as := [.int 1, .int 0, .int 6]) (rest := []) (r1 := some (.int 1)) (m1 := m) mz_t121 mz_v121 rfl rfl rfl rfl rfl ⟨?_, rfl⟩ ?_
        · refine mz_go 8 (c' := (15, [some (.int 1), some (.int 0), some (.int 6)], [.int 1], m)) rfl ?_
          exact mz_ret rfl
        exact mz_ret rfl
      refine mz_go 14 (c' := (11, [some (.int 4), some (.int 6), some (.int 0), some (.int 2)], [.int 0], m)) rfl ?_
      refine mz_doQ (R := mz_r114) (as := [.int 0]) (rest := []) (r1 := some (.int 1)) (m1 := m) mz_t114 mz_v114 rfl rfl rfl rfl rfl ⟨?_, rfl⟩ ?_
      · refine mz_go 3 (c' := (4, [some (.int 0)], [.int 6, .int 0, .int 0], m)) rfl ?_
        refine mz_doQ (R := mz_r121) (as := [.int 0, .int 0, .int 6]) (rest := []) (r1 := some (.int 1)) (m1 := m) mz_t121 mz_v121 rfl rfl rfl rfl rfl ⟨?_, rfl⟩ ?_
        · refine mz_go 8 (c' := (15, [some (.int 0), some (.int 0), some (.int 6)], [.int 1], m)) rfl ?_
          exact mz_ret rfl
        exact mz_ret rfl
      refine mz_go 14 (c' := (11, [some (.int 4), some (.int 6), some (.int (-1)), some (.int 3)], [.int (-1)], m)) rfl ?_
      refine mz_doQ (R := mz_r114) (as := [.int (-1)]) (rest := []) (r1 := some (.int 0)) (m1 := m) mz_t114 mz_v114 rfl rfl rfl rfl rfl ⟨?_, rfl⟩ ?_
      · refine mz_go 3 (c' := (4, [some (.int (-1))], [.int 6, .int 0, .int (-1)], m)) rfl ?_
        refine mz_doQ (R := mz_r121) (as := [.int (-1), .int 0, .int 6]) (rest := []) (r1 := some (.int 0)) (m1 := m) mz_t121 mz_v121 rfl rfl rfl rfl rfl ⟨?_, rfl⟩ ?_
        · refine mz_go 4 (c' := (15, [some (.int (-1)), some (.int 0), some (.int 6)], [.int 0], m)) rfl ?_
          exact mz_ret rfl
        exact mz_ret rfl
      refine mz_go 2 (c' := (37, [some (.int 4), some (.int 6), some (.int (-1)), some (.int 3)], [.int 0], m)) rfl ?_
      exact mz_ret rfl
  · rcases (show a = 0 ∨ a = 1 ∨ a = 2 ∨ a = 3 ∨ a = 4 ∨ a = 5 ∨ a = 6 by omega) with rfl | rfl | rfl | rfl | rfl | rfl | rfl
    · rw [show sm_bI (sm_undr (nI 5) (nI 0)) = 1 from by decide]
      show mz_Me 3 mz_r115 [.int 5, .int 0] m (some (.int 1)) m
      refine ⟨?_, rfl⟩
      refine mz_go 8 (c' := (11, [some (.int 5), some (.int 0), some (.int 5), some (.int 0)], [.int 5], m)) rfl ?_
      refine mz_doQ (R := mz_r114) (as := [.int 5]) (rest := []) (r1 := some (.int 1)) (m1 := m) mz_t114 mz_v114 rfl rfl rfl rfl rfl ⟨?_, rfl⟩ ?_
      · refine mz_go 3 (c' := (4, [some (.int 5)], [.int 6, .int 0, .int 5], m)) rfl ?_
        refine mz_doQ (R := mz_r121) (as := [.int 5, .int 0, .int 6]) (rest := []) (r1 := some (.int 1)) (m1 := m) mz_t121 mz_v121 rfl rfl rfl rfl rfl ⟨?_, rfl⟩ ?_
        · refine mz_go 8 (c' := (15, [some (.int 5), some (.int 0), some (.int 6)], [.int 1], m)) rfl ?_
          exact mz_ret rfl
        exact mz_ret rfl
      refine mz_go 14 (c' := (11, [some (.int 5), some (.int 0), some (.int 3), some (.int 1)], [.int 3], m)) rfl ?_
      refine mz_doQ (R := mz_r114) (as := [.int 3]) (rest := []) (r1 := some (.int 1)) (m1 := m) mz_t114 mz_v114 rfl rfl rfl rfl rfl ⟨?_, rfl⟩ ?_
      · refine mz_go 3 (c' := (4, [some (.int 3)], [.int 6, .int 0, .int 3], m)) rfl ?_
        refine mz_doQ (R := mz_r121) (as := [.int 3, .int 0, .int 6]) (rest := []) (r1 := some (.int 1)) (m1 := m) mz_t121 mz_v121 rfl rfl rfl rfl rfl ⟨?_, rfl⟩ ?_
        · refine mz_go 8 (c' := (15, [some (.int 3), some (.int 0), some (.int 6)], [.int 1], m)) rfl ?_
          exact mz_ret rfl
        exact mz_ret rfl
      refine mz_go 14 (c' := (11, [some (.int 5), some (.int 0), some (.int 0), some (.int 2)], [.int 0], m)) rfl ?_
      refine mz_doQ (R := mz_r114) (as := [.int 0]) (rest := []) (r1 := some (.int 1)) (m1 := m) mz_t114 mz_v114 rfl rfl rfl rfl rfl ⟨?_, rfl⟩ ?_
      · refine mz_go 3 (c' := (4, [some (.int 0)], [.int 6, .int 0, .int 0], m)) rfl ?_
        refine mz_doQ (R := mz_r121) (as := [.int 0, .int 0, .int 6]) (rest := []) (r1 := some (.int 1)) (m1 := m) mz_t121 mz_v121 rfl rfl rfl rfl rfl ⟨?_, rfl⟩ ?_
        · refine mz_go 8 (c' := (15, [some (.int 0), some (.int 0), some (.int 6)], [.int 1], m)) rfl ?_
          exact mz_ret rfl
        exact mz_ret rfl
      refine mz_go 5 (c' := (23, [some (.int 5), some (.int 0), some (.int 0), some (.int 2)], [.int 1], m)) rfl ?_
      exact mz_ret rfl
    · rw [show sm_bI (sm_undr (nI 5) (nI 1)) = 0 from by decide]
      show mz_Me 3 mz_r115 [.int 5, .int 1] m (some (.int 0)) m
      refine ⟨?_, rfl⟩
      refine mz_go 8 (c' := (11, [some (.int 5), some (.int 1), some (.int 5), some (.int 0)], [.int 5], m)) rfl ?_
      refine mz_doQ (R := mz_r114) (as := [.int 5]) (rest := []) (r1 := some (.int 1)) (m1 := m) mz_t114 mz_v114 rfl rfl rfl rfl rfl ⟨?_, rfl⟩ ?_
      · refine mz_go 3 (c' := (4, [some (.int 5)], [.int 6, .int 0, .int 5], m)) rfl ?_
        refine mz_doQ (R := mz_r121) (as := [.int 5, .int 0, .int 6]) (rest := []) (r1 := some (.int 1)) (m1 := m) mz_t121 mz_v121 rfl rfl rfl rfl rfl ⟨?_, rfl⟩ ?_
        · refine mz_go 8 (c' := (15, [some (.int 5), some (.int 0), some (.int 6)], [.int 1], m)) rfl ?_
          exact mz_ret rfl
        exact mz_ret rfl
      refine mz_go 14 (c' := (11, [some (.int 5), some (.int 1), some (.int 3), some (.int 1)], [.int 3], m)) rfl ?_
      refine mz_doQ (R := mz_r114) (as := [.int 3]) (rest := []) (r1 := some (.int 1)) (m1 := m) mz_t114 mz_v114 rfl rfl rfl rfl rfl ⟨?_, rfl⟩ ?_
      · refine mz_go 3 (c' := (4, [some (.int 3)], [.int 6, .int 0, .int 3], m)) rfl ?_
        refine mz_doQ (R := mz_r121) (as := [.int 3, .int 0, .int 6]) (rest := []) (r1 := some (.int 1)) (m1 := m) mz_t121 mz_v121 rfl rfl rfl rfl rfl ⟨?_, rfl⟩ ?_
        · refine mz_go 8 (c' := (15, [some (.int 3), some (.int 0), some (.int 6)], [.int 1], m)) rfl ?_
          exact mz_ret rfl
        exact mz_ret rfl
      refine mz_go 14 (c' := (11, [some (.int 5), some (.int 1), some (.int 0), some (.int 2)], [.int 0], m)) rfl ?_
      refine mz_doQ (R := mz_r114) (as := [.int 0]) (rest := []) (r1 := some (.int 1)) (m1 := m) mz_t114 mz_v114 rfl rfl rfl rfl rfl ⟨?_, rfl⟩ ?_
      · refine mz_go 3 (c' := (4, [some (.int 0)], [.int 6, .int 0, .int 0], m)) rfl ?_
        refine mz_doQ (R := mz_r121) (as := [.int 0, .int 0, .int 6]) (rest := []) (r1 := some (.int 1)) (m1 := m) mz_t121 mz_v121 rfl rfl rfl rfl rfl ⟨?_, rfl⟩ ?_
        · refine mz_go 8 (c' := (15, [some (.int 0), some (.int 0), some (.int 6)], [.int 1], m)) rfl ?_
          exact mz_ret rfl
        exact mz_ret rfl
      refine mz_go 14 (c' := (11, [some (.int 5), some (.int 1), some (.int (-1)), some (.int 3)], [.int (-1)], m)) rfl ?_
      refine mz_doQ (R := mz_r114) (as := [.int (-1)]) (rest := []) (r1 := some (.int 0)) (m1 := m) mz_t114 mz_v114 rfl rfl rfl rfl rfl ⟨?_, rfl⟩ ?_
      · refine mz_go 3 (c' := (4, [some (.int (-1))], [.int 6, .int 0, .int (-1)], m)) rfl ?_
        refine mz_doQ (R := mz_r121) (as := [.int (-1), .int 0, .int 6]) (rest := []) (r1 := some (.int 0)) (m1 := m) mz_t121 mz_v121 rfl rfl rfl rfl rfl ⟨?_, rfl⟩ ?_
        · refine mz_go 4 (c' := (15, [some (.int (-1)), some (.int 0), some (.int 6)], [.int 0], m)) rfl ?_
          exact mz_ret rfl
        exact mz_ret rfl
      refine mz_go 2 (c' := (37, [some (.int 5), some (.int 1), some (.int (-1)), some (.int 3)], [.int 0], m)) rfl ?_
      exact mz_ret rfl
    · rw [show sm_bI (sm_undr (nI 5) (nI 2)) = 0 from by decide]
      show mz_Me 3 mz_r115 [.int 5, .int 2] m (some (.int 0)) m
      refine ⟨?_, rfl⟩
      refine mz_go 8 (c' := (11, [some (.int 5), some (.int 2), some (.int 5), some (.int 0)], [.int 5], m)) rfl ?_
      refine mz_doQ (R := mz_r114) (as := [.int 5]) (rest := []) (r1 := some (.int 1)) (m1 := m) mz_t114 mz_v114 rfl rfl rfl rfl rfl ⟨?_, rfl⟩ ?_
      · refine mz_go 3 (c' := (4, [some (.int 5)], [.int 6, .int 0, .int 5], m)) rfl ?_
        refine mz_doQ (R := mz_r121) (as := [.int 5, .int 0, .int 6]) (rest := []) (r1 := some (.int 1)) (m1 := m) mz_t121 mz_v121 rfl rfl rfl rfl rfl ⟨?_, rfl⟩ ?_
        · refine mz_go 8 (c' := (15, [some (.int 5), some (.int 0), some (.int 6)], [.int 1], m)) rfl ?_
          exact mz_ret rfl
        exact mz_ret rfl
      refine mz_go 14 (c' := (11, [some (.int 5), some (.int 2), some (.int 3), some (.int 1)], [.int 3], m)) rfl ?_
      refine mz_doQ (R := mz_r114) (as := [.int 3]) (rest := []) (r1 := some (.int 1)) (m1 := m) mz_t114 mz_v114 rfl rfl rfl rfl rfl ⟨?_, rfl⟩ ?_
      · refine mz_go 3 (c' := (4, [some (.int 3)], [.int 6, .int 0, .int 3], m)) rfl ?_
        refine mz_doQ (R := mz_r121) (as := [.int 3, .int 0, .int 6]) (rest := []) (r1 := some (.int 1)) (m1 := m) mz_t121 mz_v121 rfl rfl rfl rfl rfl ⟨?_, rfl⟩ ?_
        · refine mz_go 8 (c' := (15, [some (.int 3), some (.int 0), some (.int 6)], [.int 1], m)) rfl ?_
          exact mz_ret rfl
        exact mz_ret rfl
      refine mz_go 14 (c' := (11, [some (.int 5), some (.int 2), some (.int 0), some (.int 2)], [.int 0], m)) rfl ?_
      refine mz_doQ (R := mz_r114) (as := [.int 0]) (rest := []) (r1 := some (.int 1)) (m1 := m) mz_t114 mz_v114 rfl rfl rfl rfl rfl ⟨?_, rfl⟩ ?_
      · refine mz_go 3 (c' := (4, [some (.int 0)], [.int 6, .int 0, .int 0], m)) rfl ?_
        refine mz_doQ (R := mz_r121) (as := [.int 0, .int 0, .int 6]) (rest := []) (r1 := some (.int 1)) (m1 := m) mz_t121 mz_v121 rfl rfl rfl rfl rfl ⟨?_, rfl⟩ ?_
        · refine mz_go 8 (c' := (15, [some (.int 0), some (.int 0), some (.int 6)], [.int 1], m)) rfl ?_
          exact mz_ret rfl
        exact mz_ret rfl
      refine mz_go 14 (c' := (11, [some (.int 5), some (.int 2), some (.int (-1)), some (.int 3)], [.int (-1)], m)) rfl ?_
      refine mz_doQ (R := mz_r114) (as := [.int (-1)]) (rest := []) (r1 := some (.int 0)) (m1 := m) mz_t114 mz_v114 rfl rfl rfl rfl rfl ⟨?_, rfl⟩ ?_
      · refine mz_go 3 (c' := (4, [some (.int (-1))], [.int 6, .int 0, .int (-1)], m)) rfl ?_
        refine mz_doQ (R := mz_r121) (as := [.int (-1), .int 0, .int 6]) (rest := []) (r1 := some (.int 0)) (m1 := m) mz_t121 mz_v121 rfl rfl rfl rfl rfl ⟨?_, rfl⟩ ?_
        · refine mz_go 4 (c' := (15, [some (.int (-1)), some (.int 0), some (.int 6)], [.int 0], m)) rfl ?_
          exact mz_ret rfl
        exact mz_ret rfl
      refine mz_go 2 (c' := (37, [some (.int 5), some (.int 2), some (.int (-1)), some (.int 3)], [.int 0], m)) rfl ?_
      exact mz_ret rfl
    · rw [show sm_bI (sm_undr (nI 5) (nI 3)) = 1 from by decide]
      show mz_Me 3 mz_r115 [.int 5, .int 3] m (some (.int 1)) m
      refine ⟨?_, rfl⟩
      refine mz_go 8 (c' := (11, [some (.int 5), some (.int 3), some (.int 5), some (.int 0)], [.int 5], m)) rfl ?_
      refine mz_doQ (R := mz_r114) (as := [.int 5]) (rest := []) (r1 := some (.int 1)) (m1 := m) mz_t114 mz_v114 rfl rfl rfl rfl rfl ⟨?_, rfl⟩ ?_
      · refine mz_go 3 (c' := (4, [some (.int 5)], [.int 6, .int 0, .int 5], m)) rfl ?_
        refine mz_doQ (R := mz_r121) (as := [.int 5, .int 0, .int 6]) (rest := []) (r1 := some (.int 1)) (m1 := m) mz_t121 mz_v121 rfl rfl rfl rfl rfl ⟨?_, rfl⟩ ?_
        · refine mz_go 8 (c' := (15, [some (.int 5), some (.int 0), some (.int 6)], [.int 1], m)) rfl ?_
          exact mz_ret rfl
        exact mz_ret rfl
      refine mz_go 14 (c' := (11, [some (.int 5), some (.int 3), some (.int 3), some (.int 1)], [.int 3], m)) rfl ?_
      refine mz_doQ (R := mz_r114) (as := [.int 3]) (rest := []) (r1 := some (.int 1)) (m1 := m) mz_t114 mz_v114 rfl rfl rfl rfl rfl ⟨?_, rfl⟩ ?_
      · refine mz_go 3 (c' := (4, [some (.int 3)], [.int 6, .int 0, .int 3], m)) rfl ?_
        refine mz_doQ (R := mz_r121) (as := [.int 3, .int 0, .int 6]) (rest := []) (r1 := some (.int 1)) (m1 := m) mz_t121 mz_v121 rfl rfl rfl rfl rfl ⟨?_, rfl⟩ ?_
        · refine mz_go 8 (c' := (15, [some (.int 3), some (.int 0), some (.int 6)], [.int 1], m)) rfl ?_
          exact mz_ret rfl
        exact mz_ret rfl
      refine mz_go 5 (c' := (23, [some (.int 5), some (.int 3), some (.int 3), some (.int 1)], [.int 1], m)) rfl ?_
      exact mz_ret rfl
    · rw [show sm_bI (sm_undr (nI 5) (nI 4)) = 0 from by decide]
      show mz_Me 3 mz_r115 [.int 5, .int 4] m (some (.int 0)) m
      refine ⟨?_, rfl⟩
      refine mz_go 8 (c' := (11, [some (.int 5), some (.int 4), some (.int 5), some (.int 0)], [.int 5], m)) rfl ?_
      refine mz_doQ (R := mz_r114) (as := [.int 5]) (rest := []) (r1 := some (.int 1)) (m1 := m) mz_t114 mz_v114 rfl rfl rfl rfl rfl ⟨?_, rfl⟩ ?_
      · refine mz_go 3 (c' := (4, [some (.int 5)], [.int 6, .int 0, .int 5], m)) rfl ?_
        refine mz_doQ (R := mz_r121) (as := [.int 5, .int 0, .int 6]) (rest := []) (r1 := some (.int 1)) (m1 := m) mz_t121 mz_v121 rfl rfl rfl rfl rfl ⟨?_, rfl⟩ ?_
        · refine mz_go 8 (c' := (15, [some (.int 5), some (.int 0), some (.int 6)], [.int 1], m)) rfl ?_
          exact mz_ret rfl
        exact mz_ret rfl
      refine mz_go 14 (c' := (11, [some (.int 5), some (.int 4), some (.int 3), some (.int 1)], [.int 3], m)) rfl ?_
      refine mz_doQ (R := mz_r114) (as := [.int 3]) (rest := []) (r1 := some (.int 1)) (m1 := m) mz_t114 mz_v114 rfl rfl rfl rfl rfl ⟨?_, rfl⟩ ?_
      · refine mz_go 3 (c' := (4, [some (.int 3)], [.int 6, .int 0, .int 3], m)) rfl ?_
        refine mz_doQ (R := mz_r121) (as := [.int 3, .int 0, .int 6]) (rest := []) (r1 := some (.int 1)) (m1 := m) mz_t121 mz_v121 rfl rfl rfl rfl rfl ⟨?_, rfl⟩ ?_
        · refine mz_go 8 (c' := (15, [some (.int 3), some (.int 0), some (.int 6)], [.int 1], m)) rfl ?_
          exact mz_ret rfl
        exact mz_ret rfl
      refine mz_go 14 (c' := (11, [some (.int 5), some (.int 4), some (.int 0), some (.int 2)], [.int 0], m)) rfl ?_
      refine mz_doQ (R := mz_r114) (as := [.int 0]) (rest := []) (r1 := some (.int 1)) (m1 := m) mz_t114 mz_v114 rfl rfl rfl rfl rfl ⟨?_, rfl⟩ ?_
      · refine mz_go 3 (c' := (4, [some (.int 0)], [.int 6, .int 0, .int 0], m)) rfl ?_
        refine mz_doQ (R := mz_r121) (as := [.int 0, .int 0, .int 6]) (rest := []) (r1 := some (.int 1)) (m1 := m) mz_t121 mz_v121 rfl rfl rfl rfl rfl ⟨?_, rfl⟩ ?_
        · refine mz_go 8 (c' := (15, [some (.int 0), some (.int 0), some (.int 6)], [.int 1], m)) rfl ?_
          exact mz_ret rfl
        exact mz_ret rfl
      refine mz_go 14 (c' := (11, [some (.int 5), some (.int 4), some (.int (-1)), some (.int 3)], [.int (-1)], m)) rfl ?_
      refine mz_doQ (R := mz_r114) (as := [.int (-1)]) (rest := []) (r1 := some (.int 0)) (m1 := m) mz_t114 mz_v114 rfl rfl rfl rfl rfl ⟨?_, rfl⟩ ?_
      · refine mz_go 3 (c' := (4, [some (.int (-1))], [.int 6, .int 0, .int (-1)], m)) rfl ?_
        refine mz_doQ (R := mz_r121) (as := [.int (-1), .int 0, .int 6]) (rest := []) (r1 := some (.int 0)) (m1 := m) mz_t121 mz_v121 rfl rfl rfl rfl rfl ⟨?_, rfl⟩ ?_
        · refine mz_go 4 (c' := (15, [some (.int (-1)), some (.int 0), some (.int 6)], [.int 0], m)) rfl ?_
          exact mz_ret rfl
        exact mz_ret rfl
      refine mz_go 2 (c' := (37, [some (.int 5), some (.int 4), some (.int (-1)), some (.int 3)], [.int 0], m)) rfl ?_
      exact mz_ret rfl
    · rw [show sm_bI (sm_undr (nI 5) (nI 5)) = 1 from by decide]
      show mz_Me 3 mz_r115 [.int 5, .int 5] m (some (.int 1)) m
      refine ⟨?_, rfl⟩
      refine mz_go 8 (c' := (11, [some (.int 5), some (.int 5), some (.int 5), some (.int 0)], [.int 5], m)) rfl ?_
      refine mz_doQ (R := mz_r114) (as := [.int 5]) (rest := []) (r1 := some (.int 1)) (m1 := m) mz_t114 mz_v114 rfl rfl rfl rfl rfl ⟨?_, rfl⟩ ?_
      · refine mz_go 3 (c' := (4, [some (.int 5)], [.int 6, .int 0, .int 5], m)) rfl ?_
        refine mz_doQ (R := mz_r121) (as := [.int 5, .int 0, .int 6]) (rest := []) (r1 := some (.int 1)) (m1 := m) mz_t121 mz_v121 rfl rfl rfl rfl rfl ⟨?_, rfl⟩ ?_
        · refine mz_go 8 (c' := (15, [some (.int 5), some (.int 0), some (.int 6)], [.int 1], m)) rfl ?_
          exact mz_ret rfl
        exact mz_ret rfl
      refine mz_go 5 (c' := (23, [some (.int 5), some (.int 5), some (.int 5), some (.int 0)], [.int 1], m)) rfl ?_
      exact mz_ret rfl
    · rw [show sm_bI (sm_undr (nI 5) (nI 6)) = 0 from by decide]
      show mz_Me 3 mz_r115 [.int 5, .int 6] m (some (.int 0)) m
      refine ⟨?_, rfl⟩
      refine mz_go 8 (c' := (11, [some (.int 5), some (.int 6), some (.int 5), some (.int 0)], [.int 5], m)) rfl ?_
      refine mz_doQ (R := mz_r114) (as := [.int 5]) (rest := []) (r1 := some (.int 1)) (m1 := m) mz_t114 mz_v114 rfl rfl rfl rfl rfl ⟨?_, rfl⟩ ?_
      · refine mz_go 3 (c' := (4, [some (.int 5)], [.int 6, .int 0, .int 5], m)) rfl ?_
        refine mz_doQ (R := mz_r121) (as := [.int 5, .int 0, .int 6]) (rest := []) (r1 := some (.int 1)) (m1 := m) mz_t121 mz_v121 rfl rfl rfl rfl rfl ⟨?_, rfl⟩ ?_
        · refine mz_go 8 (c' := (15, [some (.int 5), some (.int 0), some (.int 6)], [.int 1], m)) rfl ?_
          exact mz_ret rfl
        exact mz_ret rfl
      refine mz_go 14 (c' := (11, [some (.int 5), some (.int 6), some (.int 3), some (.int 1)], [.int 3], m)) rfl ?_
      refine mz_doQ (R := mz_r114) (as := [.int 3]) (rest := []) (r1 := some (.int 1)) (m1 := m) mz_t114 mz_v114 rfl rfl rfl rfl rfl ⟨?_, rfl⟩ ?_
      · refine mz_go 3 (c' := (4, [some (.int 3)], [.int 6, .int 0, .int 3], m)) rfl ?_
        refine mz_doQ (R := mz_r121) (as := [.int 3, .int 0, .int 6]) (rest := []) (r1 := some (.int 1)) (m1 := m) mz_t121 mz_v121 rfl rfl rfl rfl rfl ⟨?_, rfl⟩ ?_
        · refine mz_go 8 (c' := (15, [some (.int 3), some (.int 0), some (.int 6)], [.int 1], m)) rfl ?_
          exact mz_ret rfl
        exact mz_ret rfl
      refine mz_go 14 (c' := (11, [some (.int 5), some (.int 6), some (.int 0), some (.int 2)], [.int 0], m)) rfl ?_
      refine mz_doQ (R := mz_r114) (as := [.int 0]) (rest := []) (r1 := some (.int 1)) (m1 := m) mz_t114 mz_v114 rfl rfl rfl rfl rfl ⟨?_, rfl⟩ ?_
      · refine mz_go 3 (c' := (4, [some (.int 0)], [.int 6, .int 0, .int 0], m)) rfl ?_
        refine mz_doQ (R := mz_r121) (as := [.int 0, .int 0, .int 6]) (rest := []) (r1 := some (.int 1)) (m1 := m) mz_t121 mz_v121 rfl rfl rfl rfl rfl ⟨?_, rfl⟩ ?_
        · refine mz_go 8 (c' := (15, [some (.int 0), some (.int 0), some (.int 6)], [.int 1], m)) rfl ?_
          exact mz_ret rfl
        exact mz_ret rfl
      refine mz_go 14 (c' := (11, [some (.int 5), some (.int 6), some (.int (-1)), some (.int 3)], [.int (-1)], m)) rfl ?_
      refine mz_doQ (R := mz_r114) (as := [.int (-1)]) (rest := []) (r1 := some (.int 0)) (m1 := m) mz_t114 mz_v114 rfl rfl rfl rfl rfl ⟨?_, rfl⟩ ?_
      · refine mz_go 3 (c' := (4, [some (.int (-1))], [.int 6, .int 0, .int (-1)], m)) rfl ?_
        refine mz_doQ (R := mz_r121) (as := [.int (-1), .int 0, .int 6]) (rest := []) (r1 := some (.int 0)) (m1 := m) mz_t121 mz_v121 rfl rfl rfl rfl rfl ⟨?_, rfl⟩ ?_
        · refine mz_go 4 (c' := (15, [some (.int (-1)), some (.int 0), some (.int 6)], [.int 0], m)) rfl ?_
          exact mz_ret rfl
        exact mz_ret rfl
      refine mz_go 2 (c' := (37, [some (.int 5), some (.int 6), some (.int (-1)), some (.int 3)], [.int 0], m)) rfl ?_
      exact mz_ret rfl
  · rcases (show a = 0 ∨ a = 1 ∨ a = 2 ∨ a = 3 ∨ a = 4 ∨ a = 5 ∨ a = 6 by omega) with rfl | rfl | rfl | rfl | rfl | rfl | rfl
    · rw [show sm_bI (sm_undr (nI 6) (nI 0)) = 1 from by decide]
      show mz_Me 3 mz_r115 [.int 6, .int 0] m (some (.int 1)) m
      refine ⟨?_, rfl⟩
      refine mz_go 8 (c' := (11, [some (.int 6), some (.int 0), some (.int 6), some (.int 0)], [.int 6], m)) rfl ?_
      refine mz_doQ (R := mz_r114) (as := [.int 6]) (rest := []) (r1 := some (.int 1)) (m1 := m) mz_t114 mz_v114 rfl rfl rfl rfl rfl ⟨?_, rfl⟩ ?_
      · refine mz_go 3 (c' := (4, [some (.int 6)], [.int 6, .int 0, .int 6], m)) rfl ?_
        refine mz_doQ (R := mz_r121) (as := [.int 6, .int 0, .int 6]) (rest := []) (r1 := some (.int 1)) (m1 := m) mz_t121 mz_v121 rfl rfl rfl rfl rfl ⟨?_, rfl⟩ ?_
        · refine mz_go 8 (c' := (15, [some (.int 6), some (.int 0), some (.int 6)], [.int 1], m)) rfl ?_
          exact mz_ret rfl
        exact mz_ret rfl
      refine mz_go 14 (c' := (11, [some (.int 6), some (.int 0), some (.int 2), some (.int 1)], [.int 2], m)) rfl ?_
      refine mz_doQ (R := mz_r114) (as := [.int 2]) (rest := []) (r1 := some (.int 1)) (m1 := m) mz_t114 mz_v114 rfl rfl rfl rfl rfl ⟨?_, rfl⟩ ?_
      · refine mz_go 3 (c' := (4, [some (.int 2)], [.int 6, .int 0, .int 2], m)) rfl ?_
        refine mz_doQ (R := mz_r121) (as := [.int 2, .int 0, .int 6]) (rest := []) (r1 := some (.int 1)) (m1 := m) mz_t121 mz_v121 rfl rfl rfl rfl rfl ⟨?_, rfl⟩ ?_
        · refine mz_go 8 (c' := (15, [some (.int 2), some (.int 0), some (.int 6)], [.int 1], m)) rfl ?_
          exact mz_ret rfl
        exact mz_ret rfl
      refine mz_go 14 (c' := (11, [some (.int 6), some (.int 0), some (.int 0), some (.int 2)], [.int 0], m)) rfl ?_
      refine mz_doQ (R := mz_r114) (as := [.int 0]) (rest := []) (r1 := some (.int 1)) (m1 := m) mz_t114 mz_v114 rfl rfl rfl rfl rfl ⟨?_, rfl⟩ ?_
      · refine mz_go 3 (c' := (4, [some (.int 0)], [.int 6, .int 0, .int 0], m)) rfl ?_
        refine mz_doQ (R := mz_r121) (as := [.int 0, .int 0, .int 6]) (rest := []) (r1 := some (.int 1)) (m1 := m) mz_t121 mz_v121 rfl rfl rfl rfl rfl ⟨?_, rfl⟩ ?_
        · refine mz_go 8 (c' := (15, [some (.int 0), some (.int 0), some (.int 6)], [.int 1], m)) rfl ?_
          exact mz_ret rfl
        exact mz_ret rfl
      refine mz_go 5 (c' := (23, [some (.int 6), some (.int 0), some (.int 0), some (.int 2)], [.int 1], m)) rfl ?_
      exact mz_ret rfl
    · rw [show sm_bI (sm_undr (nI 6) (nI 1)) = 0 from by decide]
      show mz_Me 3 mz_r115 [.int 6, .int 1] m (some (.int 0)) m
      refine ⟨?_, rfl⟩
      refine mz_go 8 (c' := (11, [some (.int 6), some (.int 1), some (.int 6), some (.int 0)], [.int 6], m)) rfl ?_
      refine mz_doQ (R := mz_r114) (as := [.int 6]) (rest := []) (r1 := some (.int 1)) (m1 := m) mz_t114 mz_v114 rfl rfl rfl rfl rfl ⟨?_, rfl⟩ ?_
      · refine mz_go 3 (c' := (4, [some (.int 6)], [.int 6, .int 0, .int 6], m)) rfl ?_
        refine mz_doQ (R := mz_r121) (as := [.int 6, .int 0, .int 6]) (rest := []) (r1 := some (.int 1)) (m1 := m) mz_t121 mz_v121 rfl rfl rfl rfl rfl ⟨?_, rfl⟩ ?_
        · refine mz_go 8 (c' := (15, [some (.int 6), some (.int 0), some (.int 6)], [.int 1], m)) rfl ?_
          exact mz_ret rfl
        exact mz_ret rfl
      refine mz_go 14 (c' := (11, [some (.int 6), some (.int 1), some (.int 2), some (.int 1)], [.int 2], m)) rfl ?_
      refine mz_doQ (R := mz_r114) (as := [.int 2]) (rest := []) (r1 := some (.int 1)) (m1 := m) mz_t114 mz_v114 rfl rfl rfl rfl rfl ⟨?_, rfl⟩ ?_
      · refine mz_go 3 (c' := (4, [some (.int 2)], [.int 6, .int 0, .int 2], m)) rfl ?_
        refine mz_doQ (R := mz_r121) (as := [.int 2, .int 0, .int 6]) (rest := []) (r1 := some (.int 1)) (m1 := m) mz_t121 mz_v121 rfl rfl rfl rfl rfl ⟨?_, rfl⟩ ?_
        · refine mz_go 8 (c' := (15, [some (.int 2), some (.int 0), some (.int 6)], [.int 1], m)) rfl ?_
          exact mz_ret rfl
        exact mz_ret rfl
      refine mz_go 14 (c' := (11, [some (.int 6), some (.int 1), some (.int 0), some (.int 2)], [.int 0], m)) rfl ?_
      refine mz_doQ (R := mz_r114) (as := [.int 0]) (rest := []) (r1 := some (.int 1)) (m1 := m) mz_t114 mz_v114 rfl rfl rfl rfl rfl ⟨?_, rfl⟩ ?_
      · refine mz_go 3 (c' := (4, [some (.int 0)], [.int 6, .int 0, .int 0], m)) rfl ?_
        refine mz_doQ (R := mz_r121) (as := [.int 0, .int 0, .int 6]) (rest := []) (r1 := some (.int 1)) (m1 := m) mz_t121 mz_v121 rfl rfl rfl rfl rfl ⟨?_, rfl⟩ ?_
        · refine mz_go 8 (c' := (15, [some (.int 0), some (.int 0), some (.int 6)], [.int 1], m)) rfl ?_
          exact mz_ret rfl
        exact mz_ret rfl
      refine mz_go 14 (c' := (11, [some (.int 6), some (.int 1), some (.int (-1)), some (.int 3)], [.int (-1)], m)) rfl ?_
      refine mz_doQ (R := mz_r114) (as := [.int (-1)]) (rest := []) (r1 := some (.int 0)) (m1 := m) mz_t114 mz_v114 rfl rfl rfl rfl rfl ⟨?_, rfl⟩ ?_
      · refine mz_go 3 (c' := (4, [some (.int (-1))], [.int 6, .int 0, .int (-1)], m)) rfl ?_
        refine mz_doQ (R := mz_r121) (as := [.int (-1), .int 0, .int 6]) (rest := []) (r1 := some (.int 0)) (m1 := m) mz_t121 mz_v121 rfl rfl rfl rfl rfl ⟨?_, rfl⟩ ?_
        · refine mz_go 4 (c' := (15, [some (.int (-1)), some (.int 0), some (.int 6)], [.int 0], m)) rfl ?_
          exact mz_ret rfl
        exact mz_ret rfl
      refine mz_go 2 (c' := (37, [some (.int 6), some (.int 1), some (.int (-1)), some (.int 3)], [.int 0], m)) rfl ?_
      exact mz_ret rfl
    · rw [show sm_bI (sm_undr (nI 6) (nI 2)) = 1 from by decide]
      show mz_Me 3 mz_r115 [.int 6, .int 2] m (some (.int 1)) m
      refine ⟨?_, rfl⟩
      refine mz_go 8 (c' := (11, [some (.int 6), some (.int 2), some (.int 6), some (.int 0)], [.int 6], m)) rfl ?_
      refine mz_doQ (R := mz_r114) (as := [.int 6]) (rest := []) (r1 := some (.int 1)) (m1 := m) mz_t114 mz_v114 rfl rfl rfl rfl rfl ⟨?_, rfl⟩ ?_
      · refine mz_go 3 (c' := (4, [some (.int 6)], [.int 6, .int 0, .int 6], m)) rfl ?_
        refine mz_doQ (R := mz_r121) (as := [.int 6, .int 0, .int 6]) (rest := []) (r1 := some (.int 1)) (m1 := m) mz_t121 mz_v121 rfl rfl rfl rfl rfl ⟨?_, rfl⟩ ?_
        · refine mz_go 8 (c' := (15, [some (.int 6), some (.int 0), some (.int 6)], [.int 1], m)) rfl ?_
          exact mz_ret rfl
        exact mz_ret rfl
      refine mz_go 14 (c' := (11, [some (.int 6), some (.int 2), some (.int 2), some (.int 1)], [.int 2], m)) rfl ?_
      refine mz_doQ (R := mz_r114) (as := [.int 2]) (rest := []) (r1 := some (.int 1)) (m1 := m) mz_t114 mz_v114 rfl rfl rfl rfl rfl ⟨?_, rfl⟩ ?_
      · refine mz_go 3 (c' := (4, [some (.int 2)], [.int 6, .int 0, .int 2], m)) rfl ?_
        refine mz_doQ (R := mz_r121) (as := [.int 2, .int 0, .int 6]) (rest := []) (r1 := some (.int 1)) (m1 := m) mz_t121 mz_v121 rfl rfl rfl rfl rfl ⟨?_, rfl⟩ ?_
        · refine mz_go 8 (c' := (15, [some (.int 2), some (.int 0), some (.int 6)], [.int 1], m)) rfl ?_
          exact mz_ret rfl
        exact mz_ret rfl
      refine mz_go 5 (c' := (23, [some (.int 6), some (.int 2), some (.int 2), some (.int 1)], [.int 1], m)) rfl ?_
      exact mz_ret rfl
    · rw [show sm_bI (sm_undr (nI 6) (nI 3)) = 0 from by decide]
      show mz_Me 3 mz_r115 [.int 6, .int 3] m (some (.int 0)) m
      refine ⟨?_, rfl⟩
      refine mz_go 8 (c' := (11, [some (.int 6), some (.int 3), some (.int 6), some (.int 0)], [.int 6], m)) rfl ?_
      refine mz_doQ (R := mz_r114) (as := [.int 6]) (rest := []) (r1 := some (.int 1)) (m1 := m) mz_t114 mz_v114 rfl rfl rfl rfl rfl ⟨?_, rfl⟩ ?_
      · refine mz_go 3 (c' := (4, [some (.int 6)], [.int 6, .int 0, .int 6], m)) rfl ?_
        refine mz_doQ (R := mz_r121) (as := [.int 6, .int 0, .int 6]) (rest := []) (r1 := some (.int 1)) (m1 := m) mz_t121 mz_v121 rfl rfl rfl rfl rfl ⟨?_, rfl⟩ ?_
        · refine mz_go 8 (c' := (15, [some (.int 6), some (.int 0), some (.int 6)], [.int 1], m)) rfl ?_
          exact mz_ret rfl
        exact mz_ret rfl
      refine mz_go 14 (c' := (11, [some (.int 6), some (.int 3), some (.int 2), some (.int 1)], [.int 2], m)) rfl ?_
      refine mz_doQ (R := mz_r114) (as := [.int 2]) (rest := []) (r1 := some (.int 1)) (m1 := m) mz_t114 mz_v114 rfl rfl rfl rfl rfl ⟨?_, rfl⟩ ?_
      · refine mz_go 3 (c' := (4, [some (.int 2)], [.int 6, .int 0, .int 2], m)) rfl ?_
        refine mz_doQ (R := mz_r121) (as := [.int 2, .int 0, .int 6]) (rest := []) (r1 := some (.int 1)) (m1 := m) mz_t121 mz_v121 rfl rfl rfl rfl rfl ⟨?_, rfl⟩ ?_
        · refine mz_go 8 (c' := (15, [some (.int 2), some (.int 0), some (.int 6)], [.int 1], m)) rfl ?_
          exact mz_ret rfl
        exact mz_ret rfl
      refine mz_go 14 (c' := (11, [some (.int 6), some (.int 3), some (.int 0), some (.int 2)], [.int 0], m)) rfl ?_
      refine mz_doQ (R := mz_r114) (as := [.int 0]) (rest := []) (r1 := some (.int 1)) (m1 := m) mz_t114 mz_v114 rfl rfl rfl rfl rfl ⟨?_, rfl⟩ ?_
      · refine mz_go 3 (c' := (4, [some (.int 0)], [.int 6, .int 0, .int 0], m)) rfl ?_
        refine mz_doQ (R := mz_r121) (as := [.int 0, .int 0, .int 6]) (rest := []) (r1 := some (.int 1)) (m1 := m) mz_t121 mz_v121 rfl rfl rfl rfl rfl ⟨?_, rfl⟩ ?_
        · refine mz_go 8 (c' := (15, [some (.int 0), some (.int 0), some (.int 6)], [.int 1], m)) rfl ?_
          exact mz_ret rfl
        exact mz_ret rfl
      refine mz_go 14 (c' := (11, [some (.int 6), some (.int 3), some (.int (-1)), some (.int 3)], [.int (-1)], m)) rfl ?_
      refine mz_doQ (R := mz_r114) (as := [.int (-1)]) (rest := []) (r1 := some (.int 0)) (m1 := m) mz_t114 mz_v114 rfl rfl rfl rfl rfl ⟨?_, rfl⟩ ?_
      · refine mz_go 3 (c' := (4, [some (.int (-1))], [.int 6, .int 0, .int (-1)], m)) rfl ?_
        refine mz_doQ (R := mz_r121) (as := [.int (-1), .int 0, .int 6]) (rest := []) (r1 := some (.int 0)) (m1 := m) mz_t121 mz_v121 rfl rfl rfl rfl rfl ⟨?_, rfl⟩ ?_
        · refine mz_go 4 (c' := (15, [some (.int (-1)), some (.int 0), some (.int 6)], [.int 0], m)) rfl ?_
          exact mz_ret rfl
        exact mz_ret rfl
      refine mz_go 2 (c' := (37, [some (.int 6), some (.int 3), some (.int (-1)), some (.int 3)], [.int 0], m)) rfl ?_
      exact mz_ret rfl
    · rw [show sm_bI (sm_undr (nI 6) (nI 4)) = 0 from by decide]
      show mz_Me 3 mz_r115 [.int 6, .int 4] m (some (.int 0)) m
      refine ⟨?_, rfl⟩
      refine mz_go 8 (c' := (11, [some (.int 6), some (.int 4), some (.int 6), some (.int 0)], [.int 6], m)) rfl ?_
      refine mz_doQ (R := mz_r114) (as := [.int 6]) (rest := []) (r1 := some (.int 1)) (m1 := m) mz_t114 mz_v114 rfl rfl rfl rfl rfl ⟨?_, rfl⟩ ?_
      · refine mz_go 3 (c' := (4, [some (.int 6)], [.int 6, .int 0, .int 6], m)) rfl ?_
        refine mz_doQ (R := mz_r121) (as := [.int 6, .int 0, .int 6]) (rest := []) (r1 := some (.int 1)) (m1 := m) mz_t121 mz_v121 rfl rfl rfl rfl rfl ⟨?_, rfl⟩ ?_
        · refine mz_go 8 (c' := (15, [some (.int 6), some (.int 0), some (.int 6)], [.int 1], m)) rfl ?_
          exact mz_ret rfl
        exact mz_ret rfl
      refine mz_go 14 (c' := (11, [some (.int 6), some (.int 4), some (.int 2), some (.int 1)], [.int 2], m)) rfl ?_
      refine mz_doQ (R := mz_r114) (as := [.int 2]) (rest := []) (r1 := some (.int 1)) (m1 := m) mz_t114 mz_v114 rfl rfl rfl rfl rfl ⟨?_, rfl⟩ ?_
      · refine mz_go 3 (c' := (4, [some (.int 2)], [.int 6, .int 0, .int 2], m)) rfl ?_
        refine mz_doQ (R := mz_r121) (as := [.int 2, .int 0, .int 6]) (rest := []) (r1 := some (.int 1)) (m1 := m) mz_t121 mz_v121 rfl rfl rfl rfl rfl ⟨?_, rfl⟩ ?_
        · refine mz_go 8 (c' := (15, [some (.int 2), some (.int 0), some (.int 6)], [.int 1], m)) rfl ?_
          exact mz_ret rfl
        exact mz_ret rfl
      refine mz_go 14 (c' := (11, [some (.int 6), some (.int 4), some (.int 0), some (.int 2)], [.int 0], m)) rfl ?_
      refine mz_doQ (R := mz_r114) (as := [.int 0]) (rest := []) (r1 := some (.int 1)) (m1 := m) mz_t114 mz_v114 rfl rfl rfl rfl rfl ⟨?_, rfl⟩ ?_
      · refine mz_go 3 (c' := (4, [some (.int 0)], [.int 6, .int 0, .int 0], m)) rfl ?_
        refine mz_doQ (R := mz_r121) (as := [.int 0, .int 0, .int 6]) (rest := []) (r1 := some (.int 1)) (m1 := m) mz_t121 mz_v121 rfl rfl rfl rfl rfl ⟨?_, rfl⟩ ?_
        · refine mz_go 8 (c' := (15, [some (.int 0), some (.int 0), some (.int 6)], [.int 1], m)) rfl ?_
          exact mz_ret rfl
        exact mz_ret rfl
      refine mz_go 14 (c' := (11, [some (.int 6), some (.int 4), some (.int (-1)), some (.int 3)], [.int (-1)], m)) rfl ?_
      refine mz_doQ (R := mz_r114) (as := [.int (-1)]) (rest := []) (r1 := some (.int 0)) (m1 := m) mz_t114 mz_v114 rfl rfl rfl rfl rfl ⟨?_, rfl⟩ ?_
      · refine mz_go 3 (c' := (4, [some (.int (-1))], [.int 6, .int 0, .int (-1)], m)) rfl ?_
        refine mz_doQ (R := mz_r121) (as := [.int (-1), .int 0, .int 6]) (rest := []) (r1 := some (.int 0)) (m1 := m) mz_t121 mz_v121 rfl rfl rfl rfl rfl ⟨?_, rfl⟩ ?_
        · refine mz_go 4 (c' := (15, [some (.int (-1)), some (.int 0), some (.int 6)], [.int 0], m)) rfl ?_
          exact mz_ret rfl
        exact mz_ret rfl
      refine mz_go 2 (c' := (37, [some (.int 6), some (.int 4), some (.int (-1)), some (.int 3)], [.int 0], m)) rfl ?_
      exact mz_ret rfl
    · rw [show sm_bI (sm_undr (nI 6) (nI 5)) = 0 from by decide]
      show mz_Me 3 mz_r115 [.int 6, .int 5] m (some (.int 0)) m
      refine ⟨?_, rfl⟩
      refine mz_go 8 (c' := (11, [some (.int 6), some (.int 5), some (.int 6), some (.int 0)], [.int 6], m)) rfl ?_
      refine mz_doQ (R := mz_r114) (as := [.int 6]) (rest := []) (r1 := some (.int 1)) (m1 := m) mz_t114 mz_v114 rfl rfl rfl rfl rfl ⟨?_, rfl⟩ ?_
      · refine mz_go 3 (c' := (4, [some (.int 6)], [.int 6, .int 0, .int 6], m)) rfl ?_
        refine mz_doQ (R := mz_r121) (as := [.int 6, .int 0, .int 6]) (rest := []) (r1 := some (.int 1)) (m1 := m) mz_t121 mz_v121 rfl rfl rfl rfl rfl ⟨?_, rfl⟩ ?_
        · refine mz_go 8 (c' := (15, [some (.int 6), some (.int 0), some (.int 6)], [.int 1], m)) rfl ?_
          exact mz_ret rfl
        exact mz_ret rfl
      refine mz_go 14 (c' := (11, [some (.int 6), some (.int 5), some (.int 2), some (.int 1)], [.int 2], m)) rfl ?_
      refine mz_doQ (R := mz_r114) (as := [.int 2]) (rest := []) (r1 := some (.int 1)) (m1 := m) mz_t114 mz_v114 rfl rfl rfl rfl rfl ⟨?_, rfl⟩ ?_
      · refine mz_go 3 (c' := (4, [some (.int 2)], [.int 6, .int 0, .int 2], m)) rfl ?_
        refine mz_doQ (R := mz_r121) (as := [.int 2, .int 0, .int 6]) (rest := []) (r1 := some (.int 1)) (m1 := m) mz_t121 mz_v121 rfl rfl rfl rfl rfl ⟨?_, rfl⟩ ?_
        · refine mz_go 8 (c' := (15, [some (.int 2), some (.int 0), some (.int 6)], [.int 1], m)) rfl ?_
          exact mz_ret rfl
        exact mz_ret rfl
      refine mz_go 14 (c' := (11, [some (.int 6), some (.int 5), some (.int 0), some (.int 2)], [.int 0], m)) rfl ?_
      refine mz_doQ (R := mz_r114) (as := [.int 0]) (rest := []) (r1 := some (.int 1)) (m1 := m) mz_t114 mz_v114 rfl rfl rfl rfl rfl ⟨?_, rfl⟩ ?_
      · refine mz_go 3 (c' := (4, [some (.int 0)], [.int 6, .int 0, .int 0], m)) rfl ?_
        refine mz_doQ (R := mz_r121) (as := [.int 0, .int 0, .int 6]) (rest := []) (r1 := some (.int 1)) (m1 := m) mz_t121 mz_v121 rfl rfl rfl rfl rfl ⟨?_, rfl⟩ ?_
        · refine mz_go 8 (c' := (15, [some (.int 0), some (.int 0), some (.int 6)], [.int 1], m)) rfl ?_
          exact mz_ret rfl
        exact mz_ret rfl
      refine mz_go 14 (c' := (11, [some (.int 6), some (.int 5), some (.int (-1)), some (.int 3)], [.int (-1)], m)) rfl ?_
      refine mz_doQ (R := mz_r114) (as := [.int (-1)]) (rest := []) (r1 := some (.int 0)) (m1 := m) mz_t114 mz_v114 rfl rfl rfl rfl rfl ⟨?_, rfl⟩ ?_
      · refine mz_go 3 (c' := (4, [some (.int (-1))], [.int 6, .int 0, .int (-1)], m)) rfl ?_
        refine mz_doQ (R := mz_r121) (as := [.int (-1), .int 0, .int 6]) (rest := []) (r1 := some (.int 0)) (m1 := m) mz_t121 mz_v121 rfl rfl rfl rfl rfl ⟨?_, rfl⟩ ?_
        · refine mz_go 4 (c' := (15, [some (.int (-1)), some (.int 0), some (.int 6)], [.int 0], m)) rfl ?_
          exact mz_ret rfl
        exact mz_ret rfl
      refine mz_go 2 (c' := (37, [some (.int 6), some (.int 5), some (.int (-1)), some (.int 3)], [.int 0], m)) rfl ?_
      exact mz_ret rfl
    · rw [show sm_bI (sm_undr (nI 6) (nI 6)) = 1 from by decide]
      show mz_Me 3 mz_r115 [.int 6, .int 6] m (some (.int 1)) m
      refine ⟨?_, rfl⟩
      refine mz_go 8 (c' := (11, [some (.int 6), some (.int 6), some (.int 6), some (.int 0)], [.int 6], m)) rfl ?_
      refine mz_doQ (R := mz_r114) (as := [.int 6]) (rest := []) (r1 := some (.int 1)) (m1 := m) mz_t114 mz_v114 rfl rfl rfl rfl rfl ⟨?_, rfl⟩ ?_
      · refine mz_go 3 (c' := (4, [some (.int 6)], [.int 6, .int 0, .int 6], m)) rfl ?_
        refine mz_doQ (R := mz_r121) (as := [.int 6, .int 0, .int 6]) (rest := []) (r1 := some (.int 1)) (m1 := m) mz_t121 mz_v121 rfl rfl rfl rfl rfl ⟨?_, rfl⟩ ?_
        · refine mz_go 8 (c' := (15, [some (.int 6), some (.int 0), some (.int 6)], [.int 1], m)) rfl ?_
          exact mz_ret rfl
        exact mz_ret rfl
      refine mz_go 5 (c' := (23, [some (.int 6), some (.int 6), some (.int 6), some (.int 0)], [.int 1], m)) rfl ?_
      exact mz_ret rfl
set_option maxHeartbeats 4000000 in
set_option maxRecDepth 100000 in
theorem ct_undr {m : mz_M} {k : Int32} (hk : sm_N 6 k) {a : Nat} (ha : a ≤ 6) : mz_Me 3 mz_r134 [.int k, .int (nI a)] m (some (.int (sm_bI (sm_undr k (nI a))))) m := by
  obtain ⟨k, hk, rfl⟩ := sm_Nof (by decide) hk
  rcases (show k = 0 ∨ k = 1 ∨ k = 2 ∨ k = 3 ∨ k = 4 ∨ k = 5 ∨ k = 6 by omega) with rfl | rfl | rfl | rfl | rfl | rfl | rfl
  · rcases (show a = 0 ∨ a = 1 ∨ a = 2 ∨ a = 3 ∨ a = 4 ∨ a = 5 ∨ a = 6 by omega) with rfl | rfl | rfl | rfl | rfl | rfl | rfl
    · rw [show sm_bI (sm_undr (nI 0) (nI 0)) = 1 from by decide]
      show mz_Me 3 mz_r134 [.int 0, .int 0] m (some (.int 1)) m
      refine ⟨?_, rfl⟩
      refine mz_go 4 (c' := (45, [some (.int 0), some (.int 0)], [.int 1], m)) rfl ?_
      exact mz_ret rfl
    · rw [show sm_bI (sm_undr (nI 0) (nI 1)) = 0 from by decide]
      show mz_Me 3 mz_r134 [.int 0, .int 1] m (some (.int 0)) m
      refine ⟨?_, rfl⟩
      refine mz_go 18 (c' := (45, [some (.int 0), some (.int 1)], [.int 0], m)) rfl ?_
      exact mz_ret rfl
    · rw [show sm_bI (sm_undr (nI 0) (nI 2)) = 0 from by decide]
      show mz_Me 3 mz_r134 [.int 0, .int 2] m (some (.int 0)) m
      refine ⟨?_, rfl⟩
      refine mz_go 18 (c' := (45, [some (.int 0), some (.int 2)], [.int 0], m)) rfl ?_
      exact mz_ret rfl
    · rw [show sm_bI (sm_undr (nI 0) (nI 3)) = 0 from by decide]
      show mz_Me 3 mz_r134 [.int 0, .int 3] m (some (.int 0)) m
      refine ⟨?_, rfl⟩
      refine mz_go 18 (c' := (45, [some (.int 0), some (.int 3)], [.int 0], m)) rfl ?_
      exact mz_ret rfl
    · rw [show sm_bI (sm_undr (nI 0) (nI 4)) = 0 from by decide]
      show mz_Me 3 mz_r134 [.int 0, .int 4] m (some (.int 0)) m
      refine ⟨?_, rfl⟩
      refine mz_go 15 (c' := (45, [some (.int 0), some (.int 4)], [.int 0], m)) rfl ?_
      exact mz_ret rfl
    · rw [show sm_bI (sm_undr (nI 0) (nI 5)) = 0 from by decide]
      show mz_Me 3 mz_r134 [.int 0, .int 5] m (some (.int 0)) m
      refine ⟨?_, rfl⟩
      refine mz_go 15 (c' := (45, [some (.int 0), some (.int 5)], [.int 0], m)) rfl ?_
      exact mz_ret rfl
    · rw [show sm_bI (sm_undr (nI 0) (nI 6)) = 0 from by decide]
      show mz_Me 3 mz_r134 [.int 0, .int 6] m (some (.int 0)) m
      refine ⟨?_, rfl⟩
      refine mz_go 15 (c' := (45, [some (.int 0), some (.int 6)], [.int 0], m)) rfl ?_
      exact mz_ret rfl
  · rcases (show a = 0 ∨ a = 1 ∨ a = 2 ∨ a = 3 ∨ a = 4 ∨ a = 5 ∨ a = 6 by omega) with rfl | rfl | rfl | rfl | rfl | rfl | rfl
    · rw [show sm_bI (sm_undr (nI 1) (nI 0)) = 1 from by decide]
      show mz_Me 3 mz_r134 [.int 1, .int 0] m (some (.int 1)) m
      refine ⟨?_, rfl⟩
      refine mz_go 4 (c' := (45, [some (.int 1), some (.int 0)], [.int 1], m)) rfl ?_
      exact mz_ret rfl
    · rw [show sm_bI (sm_undr (nI 1) (nI 1)) = 1 from by decide]
      show mz_Me 3 mz_r134 [.int 1, .int 1] m (some (.int 1)) m
      refine ⟨?_, rfl⟩
      refine mz_go 7 (c' := (45, [some (.int 1), some (.int 1)], [.int 1], m)) rfl ?_
      exact mz_ret rfl
    · rw [show sm_bI (sm_undr (nI 1) (nI 2)) = 0 from by decide]
      show mz_Me 3 mz_r134 [.int 1, .int 2] m (some (.int 0)) m
      refine ⟨?_, rfl⟩
      refine mz_go 18 (c' := (45, [some (.int 1), some (.int 2)], [.int 0], m)) rfl ?_
      exact mz_ret rfl
    · rw [show sm_bI (sm_undr (nI 1) (nI 3)) = 0 from by decide]
      show mz_Me 3 mz_r134 [.int 1, .int 3] m (some (.int 0)) m
      refine ⟨?_, rfl⟩
      refine mz_go 18 (c' := (45, [some (.int 1), some (.int 3)], [.int 0], m)) rfl ?_
      exact mz_ret rfl
    · rw [show sm_bI (sm_undr (nI 1) (nI 4)) = 0 from by decide]
      show mz_Me 3 mz_r134 [.int 1, .int 4] m (some (.int 0)) m
      refine ⟨?_, rfl⟩
      refine mz_go 15 (c' := (45, [some (.int 1), some (.int 4)], [.int 0], m)) rfl ?_
      exact mz_ret rfl
    · rw [show sm_bI (sm_undr (nI 1) (nI 5)) = 0 from by decide]
      show mz_Me 3 mz_r134 [.int 1, .int 5] m (some (.int 0)) m
      refine ⟨?_, rfl⟩
      refine mz_go 15 (c' := (45, [some (.int 1), some (.int 5)], [.int 0], m)) rfl ?_
      exact mz_ret rfl
    · rw [show sm_bI (sm_undr (nI 1) (nI 6)) = 0 from by decide]
      show mz_Me 3 mz_r134 [.int 1, .int 6] m (some (.int 0)) m
      refine ⟨?_, rfl⟩
      refine mz_go 15 (c' := (45, [some (.int 1), some (.int 6)], [.int 0], m)) rfl ?_
      exact mz_ret rfl
  · rcases (show a = 0 ∨ a = 1 ∨ a = 2 ∨ a = 3 ∨ a = 4 ∨ a = 5 ∨ a = 6 by omega) with rfl | rfl | rfl | rfl | rfl | rfl | rfl
    · rw [show sm_bI (sm_undr (nI 2) (nI 0)) = 1 from by decide]
      show mz_Me 3 mz_r134 [.int 2, .int 0] m (some (.int 1)) m
      refine ⟨?_, rfl⟩
      refine mz_go 4 (c' := (45, [some (.int 2), some (.int 0)], [.int 1], m)) rfl ?_
      exact mz_ret rfl
    · rw [show sm_bI (sm_undr (nI 2) (nI 1)) = 0 from by decide]
      show mz_Me 3 mz_r134 [.int 2, .int 1] m (some (.int 0)) m
      refine ⟨?_, rfl⟩
      refine mz_go 18 (c' := (45, [some (.int 2), some (.int 1)], [.int 0], m)) rfl ?_
      exact mz_ret rfl
    · rw [show sm_bI (sm_undr (nI 2) (nI 2)) = 1 from by decide]
      show mz_Me 3 mz_r134 [.int 2, .int 2] m (some (.int 1)) m
      refine ⟨?_, rfl⟩
      refine mz_go 7 (c' := (45, [some (.int 2), some (.int 2)], [.int 1], m)) rfl ?_
      exact mz_ret rfl
    · rw [show sm_bI (sm_undr (nI 2) (nI 3)) = 0 from by decide]
      show mz_Me 3 mz_r134 [.int 2, .int 3] m (some (.int 0)) m
      refine ⟨?_, rfl⟩
      refine mz_go 18 (c' := (45, [some (.int 2), some (.int 3)], [.int 0], m)) rfl ?_
      exact mz_ret rfl
    · rw [show sm_bI (sm_undr (nI 2) (nI 4)) = 0 from by decide]
      show mz_Me 3 mz_r134 [.int 2, .int 4] m (some (.int 0)) m
      refine ⟨?_, rfl⟩
      refine mz_go 15 (c' := (45, [some (.int 2), some (.int 4)], [.int 0], m)) rfl ?_
      exact mz_ret rfl
    · rw [show sm_bI (sm_undr (nI 2) (nI 5)) = 0 from by decide]
      show mz_Me 3 mz_r134 [.int 2, .int 5] m (some (.int 0)) m
      refine ⟨?_, rfl⟩
      refine mz_go 15 (c' := (45, [some (.int 2), some (.int 5)], [.int 0], m)) rfl ?_
      exact mz_ret rfl
    · rw [show sm_bI (sm_undr (nI 2) (nI 6)) = 0 from by decide]
      show mz_Me 3 mz_r134 [.int 2, .int 6] m (some (.int 0)) m
      refine ⟨?_, rfl⟩
      refine mz_go 15 (c' := (45, [some (.int 2), some (.int 6)], [.int 0], m)) rfl ?_
      exact mz_ret rfl
  · rcases (show a = 0 ∨ a = 1 ∨ a = 2 ∨ a = 3 ∨ a = 4 ∨ a = 5 ∨ a = 6 by omega) with rfl | rfl | rfl | rfl | rfl | rfl | rfl
    · rw [show sm_bI (sm_undr (nI 3) (nI 0)) = 1 from by decide]
      show mz_Me 3 mz_r134 [.int 3, .int 0] m (some (.int 1)) m
      refine ⟨?_, rfl⟩
      refine mz_go 4 (c' := (45, [some (.int 3), some (.int 0)], [.int 1], m)) rfl ?_
      exact mz_ret rfl
    · rw [show sm_bI (sm_undr (nI 3) (nI 1)) = 0 from by decide]
      show mz_Me 3 mz_r134 [.int 3, .int 1] m (some (.int 0)) m
      refine ⟨?_, rfl⟩
      refine mz_go 18 (c' := (45, [some (.int 3), some (.int 1)], [.int 0], m)) rfl ?_
      exact mz_ret rfl
    · rw [show sm_bI (sm_undr (nI 3) (nI 2)) = 0 from by decide]
      show mz_Me 3 mz_r134 [.int 3, .int 2] m (some (.int 0)) m
      refine ⟨?_, rfl⟩
      refine mz_go 18 (c' := (45, [some (.int 3), some (.int 2)], [.int 0], m)) rfl ?_
      exact mz_ret rfl
    · rw [show sm_bI (sm_undr (nI 3) (nI 3)) = 1 from by decide]
      show mz_Me 3 mz_r134 [.int 3, .int 3] m (some (.int 1)) m
      refine ⟨?_, rfl⟩
      refine mz_go 7 (c' := (45, [some (.int 3), some (.int 3)], [.int 1], m)) rfl ?_
      exact mz_ret rfl
    · rw [show sm_bI (sm_undr (nI 3) (nI 4)) = 0 from by decide]
      show mz_Me 3 mz_r134 [.int 3, .int 4] m (some (.int 0)) m
      refine ⟨?_, rfl⟩
      refine mz_go 15 (c' := (45, [some (.int 3), some (.int 4)], [.int 0], m)) rfl ?_
      exact mz_ret rfl
    · rw [show sm_bI (sm_undr (nI 3) (nI 5)) = 0 from by decide]
      show mz_Me 3 mz_r134 [.int 3, .int 5] m (some (.int 0)) m
      refine ⟨?_, rfl⟩
      refine mz_go 15 (c' := (45, [some (.int 3), some (.int 5)], [.int 0], m)) rfl ?_
      exact mz_ret rfl
    · rw [show sm_bI (sm_undr (nI 3) (nI 6)) = 0 from by decide]
      show mz_Me 3 mz_r134 [.int 3, .int 6] m (some (.int 0)) m
      refine ⟨?_, rfl⟩
      refine mz_go 15 (c' := (45, [some (.int 3), some (.int 6)], [.int 0], m)) rfl ?_
      exact mz_ret rfl
  · rcases (show a = 0 ∨ a = 1 ∨ a = 2 ∨ a = 3 ∨ a = 4 ∨ a = 5 ∨ a = 6 by omega) with rfl | rfl | rfl | rfl | rfl | rfl | rfl
    · rw [show sm_bI (sm_undr (nI 4) (nI 0)) = 1 from by decide]
      show mz_Me 3 mz_r134 [.int 4, .int 0] m (some (.int 1)) m
      refine ⟨?_, rfl⟩
      refine mz_go 4 (c' := (45, [some (.int 4), some (.int 0)], [.int 1], m)) rfl ?_
      exact mz_ret rfl
    · rw [show sm_bI (sm_undr (nI 4) (nI 1)) = 1 from by decide]
      show mz_Me 3 mz_r134 [.int 4, .int 1] m (some (.int 1)) m
      refine ⟨?_, rfl⟩
      refine mz_go 13 (c' := (45, [some (.int 4), some (.int 1)], [.int 1], m)) rfl ?_
      exact mz_ret rfl
    · rw [show sm_bI (sm_undr (nI 4) (nI 2)) = 0 from by decide]
      show mz_Me 3 mz_r134 [.int 4, .int 2] m (some (.int 0)) m
      refine ⟨?_, rfl⟩
      refine mz_go 18 (c' := (45, [some (.int 4), some (.int 2)], [.int 0], m)) rfl ?_
      exact mz_ret rfl
    · rw [show sm_bI (sm_undr (nI 4) (nI 3)) = 0 from by decide]
      show mz_Me 3 mz_r134 [.int 4, .int 3] m (some (.int 0)) m
      refine ⟨?_, rfl⟩
      refine mz_go 18 (c' := (45, [some (.int 4), some (.int 3)], [.int 0], m)) rfl ?_
      exact mz_ret rfl
    · rw [show sm_bI (sm_undr (nI 4) (nI 4)) = 1 from by decide]
      show mz_Me 3 mz_r134 [.int 4, .int 4] m (some (.int 1)) m
      refine ⟨?_, rfl⟩
      refine mz_go 7 (c' := (45, [some (.int 4), some (.int 4)], [.int 1], m)) rfl ?_
      exact mz_ret rfl
    · rw [show sm_bI (sm_undr (nI 4) (nI 5)) = 0 from by decide]
      show mz_Me 3 mz_r134 [.int 4, .int 5] m (some (.int 0)) m
      refine ⟨?_, rfl⟩
      refine mz_go 15 (c' := (45, [some (.int 4), some (.int 5)], [.int 0], m)) rfl ?_
      exact mz_ret rfl
    · rw [show sm_bI (sm_undr (nI 4) (nI 6)) = 0 from by decide]
      show mz_Me 3 mz_r134 [.int 4, .int 6] m (some (.int 0)) m
      refine ⟨?_, rfl⟩
      refine mz_go 15 (c' := (45, [some (.int 4), some (.int 6)], [.int 0], m)) rfl ?_
      exact mz_ret rfl
  · rcases (show a = 0 ∨ a = 1 ∨ a = 2 ∨ a = 3 ∨ a = 4 ∨ a = 5 ∨ a = 6 by omega) with rfl | rfl | rfl | rfl | rfl | rfl | rfl
    · rw [show sm_bI (sm_undr (nI 5) (nI 0)) = 1 from by decide]
      show mz_Me 3 mz_r134 [.int 5, .int 0] m (some (.int 1)) m
      refine ⟨?_, rfl⟩
      refine mz_go 4 (c' := (45, [some (.int 5), some (.int 0)], [.int 1], m)) rfl ?_
      exact mz_ret rfl
    · rw [show sm_bI (sm_undr (nI 5) (nI 1)) = 0 from by decide]
      show mz_Me 3 mz_r134 [.int 5, .int 1] m (some (.int 0)) m
      refine ⟨?_, rfl⟩
      refine mz_go 18 (c' := (45, [some (.int 5), some (.int 1)], [.int 0], m)) rfl ?_
      exact mz_ret rfl
    · rw [show sm_bI (sm_undr (nI 5) (nI 2)) = 0 from by decide]
      show mz_Me 3 mz_r134 [.int 5, .int 2] m (some (.int 0)) m
      refine ⟨?_, rfl⟩
      refine mz_go 18 (c' := (45, [some (.int 5), some (.int 2)], [.int 0], m)) rfl ?_
      exact mz_ret rfl
    · rw [show sm_bI (sm_undr (nI 5) (nI 3)) = 1 from by decide]
      show mz_Me 3 mz_r134 [.int 5, .int 3] m (some (.int 1)) m
      refine ⟨?_, rfl⟩
      refine mz_go 19 (c' := (45, [some (.int 5), some (.int 3)], [.int 1], m)) rfl ?_
      exact mz_ret rfl
    · rw [show sm_bI (sm_undr (nI 5) (nI 4)) = 0 from by decide]
      show mz_Me 3 mz_r134 [.int 5, .int 4] m (some (.int 0)) m
      refine ⟨?_, rfl⟩
      refine mz_go 15 (c' := (45, [some (.int 5), some (.int 4)], [.int 0], m)) rfl ?_
      exact mz_ret rfl
    · rw [show sm_bI (sm_undr (nI 5) (nI 5)) = 1 from by decide]
      show mz_Me 3 mz_r134 [.int 5, .int 5] m (some (.int 1)) m
      refine ⟨?_, rfl⟩
      refine mz_go 7 (c' := (45, [some (.int 5), some (.int 5)], [.int 1], m)) rfl ?_
      exact mz_ret rfl
    · rw [show sm_bI (sm_undr (nI 5) (nI 6)) = 0 from by decide]
      show mz_Me 3 mz_r134 [.int 5, .int 6] m (some (.int 0)) m
      refine ⟨?_, rfl⟩
      refine mz_go 15 (c' := (45, [some (.int 5), some (.int 6)], [.int 0], m)) rfl ?_
      exact mz_ret rfl
  · rcases (show a = 0 ∨ a = 1 ∨ a = 2 ∨ a = 3 ∨ a = 4 ∨ a = 5 ∨ a = 6 by omega) with rfl | rfl | rfl | rfl | rfl | rfl | rfl
    · rw [show sm_bI (sm_undr (nI 6) (nI 0)) = 1 from by decide]
      show mz_Me 3 mz_r134 [.int 6, .int 0] m (some (.int 1)) m
      refine ⟨?_, rfl⟩
      refine mz_go 4 (c' := (45, [some (.int 6), some (.int 0)], [.int 1], m)) rfl ?_
      exact mz_ret rfl
    · rw [show sm_bI (sm_undr (nI 6) (nI 1)) = 0 from by decide]
      show mz_Me 3 mz_r134 [.int 6, .int 1] m (some (.int 0)) m
      refine ⟨?_, rfl⟩
      refine mz_go 18 (c' := (45, [some (.int 6), some (.int 1)], [.int 0], m)) rfl ?_
      exact mz_ret rfl
    · rw [show sm_bI (sm_undr (nI 6) (nI 2)) = 1 from by decide]
      show mz_Me 3 mz_r134 [.int 6, .int 2] m (some (.int 1)) m
      refine ⟨?_, rfl⟩
      refine mz_go 16 (c' := (45, [some (.int 6), some (.int 2)], [.int 1], m)) rfl ?_
      exact mz_ret rfl
    · rw [show sm_bI (sm_undr (nI 6) (nI 3)) = 0 from by decide]
      show mz_Me 3 mz_r134 [.int 6, .int 3] m (some (.int 0)) m
      refine ⟨?_, rfl⟩
      refine mz_go 18 (c' := (45, [some (.int 6), some (.int 3)], [.int 0], m)) rfl ?_
      exact mz_ret rfl
    · rw [show sm_bI (sm_undr (nI 6) (nI 4)) = 0 from by decide]
      show mz_Me 3 mz_r134 [.int 6, .int 4] m (some (.int 0)) m
      refine ⟨?_, rfl⟩
      refine mz_go 15 (c' := (45, [some (.int 6), some (.int 4)], [.int 0], m)) rfl ?_
      exact mz_ret rfl
    · rw [show sm_bI (sm_undr (nI 6) (nI 5)) = 0 from by decide]
      show mz_Me 3 mz_r134 [.int 6, .int 5] m (some (.int 0)) m
      refine ⟨?_, rfl⟩
      refine mz_go 15 (c' := (45, [some (.int 6), some (.int 5)], [.int 0], m)) rfl ?_
      exact mz_ret rfl
    · rw [show sm_bI (sm_undr (nI 6) (nI 6)) = 1 from by decide]
      show mz_Me 3 mz_r134 [.int 6, .int 6] m (some (.int 1)) m
      refine ⟨?_, rfl⟩
      refine mz_go 7 (c' := (45, [some (.int 6), some (.int 6)], [.int 1], m)) rfl ?_
      exact mz_ret rfl
/-! runs towards what is to be shown of their end: what two ways share is run once -/
noncomputable def mz_Px (d : Nat) (K : mz_K) (c : mz_C) (P : Option Value × mz_M → Prop) : Prop := ∃ r, mz_Ex d K c r ∧ P r
theorem mz_goP {d : Nat} {K : mz_K} {P : Option Value × mz_M → Prop} (k : Nat) {c c' : mz_C} (h : mz_sts K k c = some c') (E : mz_Px d K c' P) : mz_Px d K c P := E.elim fun r h2 => ⟨r, mz_go k h h2.1, h2.2⟩
theorem mz_hkP {d : Nat} {K : mz_K} {P : Option Value × mz_M → Prop} {c c' : mz_C} (h : ∀ r, mz_Ex d K c' r → mz_Ex d K c r) (E : mz_Px d K c' P) : mz_Px d K c P := E.elim fun r h2 => ⟨r, h r h2.1, h2.2⟩
theorem mz_exP {d : Nat} {K : mz_K} {P : Option Value × mz_M → Prop} {c : mz_C} {r : Option Value × mz_M} (h : mz_Ex d K c r) (hP : P r) : mz_Px d K c P := ⟨r, h, hP⟩
theorem mz_retP {d : Nat} {K : mz_K} {P : Option Value × mz_M → Prop} {c : mz_C} {r : Option Value × mz_M} (h : mz_fin K c = some r) (hP : P r) : mz_Px d K c P := ⟨r, mz_ret h, hP⟩
theorem mz_ifTP {d : Nat} {K : mz_K} {P : Option Value × mz_M → Prop} {c : Prop} [Decidable c] {t f : Nat} {L : List (Option Value)} {S : List Value} {m : mz_M} (h : c) (E : mz_Px d K (t, L, S, m) P) : mz_Px d K (if c then t else f, L, S, m) P := by rw [if_pos h]; exact E
theorem mz_ifFP {d : Nat} {K : mz_K} {P : Option Value × mz_M → Prop} {c : Prop} [Decidable c] {t f : Nat} {L : List (Option Value)} {S : List Value} {m : mz_M} (h : ¬ c) (E : mz_Px d K (f, L, S, m) P) : mz_Px d K (if c then t else f, L, S, m) P := by rw [if_neg h]; exact E
theorem mz_arrP {d : Nat} {K : mz_K} {P : Option Value × mz_M → Prop} {c c' : mz_C} {n : Nat} {j : Int32} (h : mz_stA K c = some (n, j, c')) (hin : mz_in j n = true) (E : mz_Px d K c' P) : mz_Px d K c P := E.elim fun r h2 => ⟨r, mz_arr h hin h2.1, h2.2⟩
theorem mz_divP {d : Nat} {K : mz_K} {P : Option Value × mz_M → Prop} {c c' : mz_C} {y : Int32} (h : mz_stD K c = some (y, c')) (hy : ¬ y = 0) (E : mz_Px d K c' P) : mz_Px d K c P := E.elim fun r h2 => ⟨r, mz_div h hy h2.1, h2.2⟩
theorem mz_swdP {d : Nat} {K : mz_K} {P : Option Value × mz_M → Prop} {c c' : mz_C} {lo hi : Int} {x : Int32} (h : mz_stW K c = some (lo, hi, x, c')) (hx : x.toInt < lo ∨ hi < x.toInt) (E : mz_Px d K c' P) : mz_Px d K c P := E.elim fun r h2 => ⟨r, mz_swd h hx h2.1, h2.2⟩
theorem mz_doP {d : Nat} {K : mz_K} {P : Option Value × mz_M → Prop} {pc : Nat} {L : List (Option Value)} {S : List Value} {m : mz_M} {R : mz_R} {as rest : List Value} {r1 : Option Value} {m1 : mz_M} (h : mz_cl K (pc, L, S, m) = some (R, as, rest)) (hM : mz_Me d R as m r1 m1) (E : mz_Px (d + 1) K (pc + 3, L, r1.toList ++ rest, m1) P) : mz_Px (d + 1) K (pc, L, S, m) P := E.elim fun r h2 => ⟨r, mz_do h hM h2.1, h2.2⟩
theorem mz_two {d : Nat} {R1 R2 : mz_R} {as1 as2 : List Value} {m : mz_M} {Q : Int32 → Int32 → mz_M → Prop} (f1 : ∀ v, mz_fit R1.2.2.2.2.1 (some (.int v)) = true) (f2 : ∀ v, mz_fit R2.2.2.2.2.1 (some (.int v)) = true) (h : mz_Px d R1.2.2.2.2.2.2.2 (0, mz_ent as1 R1.2.2.2.1, [], m) (fun r => ∃ v1, r.1 = some (.int v1) ∧ mz_Px d R2.2.2.2.2.2.2.2 (0, mz_ent as2 R2.2.2.2.1, [], r.2) (fun s => ∃ v2, s.1 = some (.int v2) ∧ Q v1 v2 s.2))) : ∃ v1 v2 m1 m2, mz_Me d R1 as1 m (some (.int v1)) m1 ∧ mz_Me d R2 as2 m1 (some (.int v2)) m2 ∧ Q v1 v2 m2 := by
  obtain ⟨⟨a, m1⟩, E1, v1, e1, ⟨b, m2⟩, E2, v2, e2, hQ⟩ := h
  simp only at e1 e2 E2 hQ
  subst e1
  subst e2
  exact ⟨v1, v2, m1, m2, ⟨E1, f1 v1⟩, ⟨E2, f2 v2⟩, hQ⟩
theorem sm_added {k x y t s s' k' x' y' t' : Nat → Int32} {j i : Nat} {a b c d : Int32} (hs : ∀ i, i ≠ 30 + 4 * j + 0 → i ≠ 30 + 4 * j + 1 → i ≠ 30 + 4 * j + 2 → i ≠ 30 + 4 * j + 3 → i ≠ 0 → s' i = s i) (h0 : s' (30 + 4 * j + 0) = a ∧ s' (30 + 4 * j + 1) = b ∧ s' (30 + 4 * j + 2) = c ∧ s' (30 + 4 * j + 3) = d) (hk : ∀ i, k' i = if i = j then a else k i) (hx : ∀ i, x' i = if i = j then b else x i) (hy : ∀ i, y' i = if i = j then c else y i) (ht : ∀ i, t' i = if i = j then d else t i) (hd : (sm_N 6 (k i) ∧ sm_B 100 (x i) ∧ sm_B 100 (y i) ∧ sm_N 99 (t i)) ∧ s (30 + 4 * i) = k i ∧ s (30 + 4 * i + 1) = x i ∧ s (30 + 4 * i + 2) = y i ∧ s (30 + 4 * i + 3) = t i) (ha : sm_N 6 a) (hb : sm_B 100 b) (hc : sm_B 100 c) (hdd : sm_N 99 d) : (sm_N 6 (k' i) ∧ sm_B 100 (x' i) ∧ sm_B 100 (y' i) ∧ sm_N 99 (t' i)) ∧ s' (30 + 4 * i) = k' i ∧ s' (30 + 4 * i + 1) = x' i ∧ s' (30 + 4 * i + 2) = y' i ∧ s' (30 + 4 * i + 3) = t' i := by
  obtain ⟨⟨b1, b2, b3, b4⟩, e1, e2, e3, e4⟩ := hd
  rw [hk, hx, hy, ht]
  by_cases h : i = j
  · subst h
    rw [if_pos rfl, if_pos rfl, if_pos rfl, if_pos rfl]
    exact ⟨⟨ha, hb, hc, hdd⟩, h0.1, h0.2.1, h0.2.2.1, h0.2.2.2⟩
  · rw [if_neg h, if_neg h, if_neg h, if_neg h]
    exact ⟨⟨b1, b2, b3, b4⟩, (hs _ (by omega) (by omega) (by omega) (by omega) (by omega)).trans e1, (hs _ (by omega) (by omega) (by omega) (by omega) (by omega)).trans e2, (hs _ (by omega) (by omega) (by omega) (by omega) (by omega)).trans e3, (hs _ (by omega) (by omega) (by omega) (by omega) (by omega)).trans e4⟩
/-- scratch, and the traces -/
theorem sm_I_tr {n : Nat} {m m' : mz_M} (hn : n < 64) (hI : sm_I n m) (h : ∀ i, sm_scr i = false → i ≠ 57 → m' i = m i) (h2 : m' 65 2 = m 65 2) (hb : sm_cb (m' 57 1) (m' 65 19)) : sm_I (n + 1) m' := by
  obtain ⟨-, a, c, d, e⟩ := hI
  have hl : ∀ i, i < 49 → m' i = m i := fun i hi => h i (by unfold sm_scr; rw [decide_eq_false (by omega)]; rfl) (by omega)
  refine ⟨hn, ?_, ?_, hb, ?_⟩
  · rw [h 66 rfl (by decide)]
    exact sm_St_of (fun i h1 h2 => hl i (by omega)) a
  · rw [h 61 rfl (by decide), h 62 rfl (by decide), h 63 rfl (by decide), h 75 rfl (by decide), h 76 rfl (by decide), h 77 rfl (by decide)]
    exact c
  · rw [hl 0 (by decide), h2, h 67 rfl (by decide)]
    exact sm_cc_of (fun i h1 h2 => hl i (by omega)) e
/-! guards: within two bounds, a place -/
noncomputable def sm_in (v a b : Int32) : Bool := !decide (v < a) && !decide (b < v)
noncomputable def sm_plc (x y : Int32) : Bool := sm_in x (-100) 100 && sm_in y (-100) 100
theorem sm_fitB (a : Bool) : mz_fit (some .boolean) (some (.int (sm_bI a))) = true := by cases a <;> rfl
theorem sm_bI0 {a : Bool} (h : ¬ sm_bI a = 0) : a = true := by
  cases a
  · exact absurd rfl h
  · rfl
theorem sm_in_of {v a b : Int32} (h : sm_in v a b = true) : ¬ v < a ∧ ¬ b < v := by
  unfold sm_in at h
  obtain ⟨h1, h2⟩ := (Bool.and_eq_true _ _).mp h
  exact ⟨fun e => (by rw [decide_eq_true e] at h1; cases h1), fun e => (by rw [decide_eq_true e] at h2; cases h2)⟩
theorem sm_in_lo {v a b : Int32} (h : ¬ sm_bI (sm_in v a b) = 0) : ¬ v < a := (sm_in_of (sm_bI0 h)).1
theorem sm_in_hi {v a b : Int32} (h : ¬ sm_bI (sm_in v a b) = 0) : ¬ b < v := (sm_in_of (sm_bI0 h)).2
theorem sm_plc_of {x y : Int32} (h : ¬ sm_bI (sm_plc x y) = 0) : (¬ x < (-100) ∧ ¬ 100 < x) ∧ ¬ y < (-100) ∧ ¬ 100 < y := by
  obtain ⟨h1, h2⟩ := (Bool.and_eq_true _ _).mp (sm_bI0 h)
  exact ⟨sm_in_of h1, sm_in_of h2⟩
set_option maxHeartbeats 4000000 in
set_option maxRecDepth 100000 in
theorem cs_in {m : mz_M} (v a b : Int32) : mz_Me 3 mz_r121 [.int v, .int a, .int b] m (some (.int (sm_bI (sm_in v a b)))) m := by
  by_cases h1 : v < a
  · have hv : sm_bI (sm_in v a b) = 0 := by
      unfold sm_in
      simp [sm_bI, h1, Int32.not_le.mpr h1]
    rw [hv]
    refine ⟨?_, rfl⟩
    refine mz_go 3 (c' := (if v < a then 14 else 5, [some (.int v), some (.int a), some (.int b)], [], m)) rfl ?_
    refine mz_ifT h1 ?_
    refine mz_go 1 (c' := (15, [some (.int v), some (.int a), some (.int b)], [.int 0], m)) rfl ?_
    exact mz_ret rfl
  · by_cases h2 : b < v
    · have hv : sm_bI (sm_in v a b) = 0 := by
        unfold sm_in
        simp [sm_bI, h1, Int32.not_lt.mp h1, h2, Int32.not_le.mpr h2]
      rw [hv]
      refine ⟨?_, rfl⟩
      refine mz_go 3 (c' := (if v < a then 14 else 5, [some (.int v), some (.int a), some (.int b)], [], m)) rfl ?_
      refine mz_ifF h1 ?_
      refine mz_go 3 (c' := (if b < v then 14 else 10, [some (.int v), some (.int a), some (.int b)], [], m)) rfl ?_
      refine mz_ifT h2 ?_
      refine mz_go 1 (c' := (15, [some (.int v), some (.int a), some (.int b)], [.int 0], m)) rfl ?_
      exact mz_ret rfl
    · have hv : sm_bI (sm_in v a b) = 1 := by
        unfold sm_in
        simp [sm_bI, h1, Int32.not_lt.mp h1, h2, Int32.not_lt.mp h2]
      rw [hv]
      refine ⟨?_, rfl⟩
      refine mz_go 3 (c' := (if v < a then 14 else 5, [some (.int v), some (.int a), some (.int b)], [], m)) rfl ?_
      refine mz_ifF h1 ?_
      refine mz_go 3 (c' := (if b < v then 14 else 10, [some (.int v), some (.int a), some (.int b)], [], m)) rfl ?_
      refine mz_ifF h2 ?_
      refine mz_go 2 (c' := (15, [some (.int v), some (.int a), some (.int b)], [.int 1], m)) rfl ?_
      exact mz_ret rfl
set_option maxHeartbeats 4000000 in
set_option maxRecDepth 100000 in
theorem ct_in {m : mz_M} (v a b : Int32) : mz_Me 3 mz_r128 [.int v, .int a, .int b] m (some (.int (sm_bI (sm_in v a b)))) m := by
  by_cases h1 : v < a
  · have hv : sm_bI (sm_in v a b) = 0 := by
      unfold sm_in
      simp [sm_bI, h1, Int32.not_le.mpr h1]
    rw [hv]
    refine ⟨?_, rfl⟩
    refine mz_go 3 (c' := (if v < a then 14 else 5, [some (.int v), some (.int a), some (.int b)], [], m)) rfl ?_
    refine mz_ifT h1 ?_
    refine mz_go 1 (c' := (15, [some (.int v), some (.int a), some (.int b)], [.int 0], m)) rfl ?_
    exact mz_ret rfl
  · by_cases h2 : b < v
    · have hv : sm_bI (sm_in v a b) = 0 := by
        unfold sm_in
        simp [sm_bI, h1, Int32.not_lt.mp h1, h2, Int32.not_le.mpr h2]
      rw [hv]
      refine ⟨?_, rfl⟩
      refine mz_go 3 (c' := (if v < a then 14 else 5, [some (.int v), some (.int a), some (.int b)], [], m)) rfl ?_
      refine mz_ifF h1 ?_
      refine mz_go 3 (c' := (if b < v then 14 else 10, [some (.int v), some (.int a), some (.int b)], [], m)) rfl ?_
      refine mz_ifT h2 ?_
      refine mz_go 1 (c' := (15, [some (.int v), some (.int a), some (.int b)], [.int 0], m)) rfl ?_
      exact mz_ret rfl
    · have hv : sm_bI (sm_in v a b) = 1 := by
        unfold sm_in
        simp [sm_bI, h1, Int32.not_lt.mp h1, h2, Int32.not_lt.mp h2]
      rw [hv]
      refine ⟨?_, rfl⟩
      refine mz_go 3 (c' := (if v < a then 14 else 5, [some (.int v), some (.int a), some (.int b)], [], m)) rfl ?_
      refine mz_ifF h1 ?_
      refine mz_go 3 (c' := (if b < v then 14 else 10, [some (.int v), some (.int a), some (.int b)], [], m)) rfl ?_
      refine mz_ifF h2 ?_
      refine mz_go 2 (c' := (15, [some (.int v), some (.int a), some (.int b)], [.int 1], m)) rfl ?_
      exact mz_ret rfl
set_option maxHeartbeats 4000000 in
set_option maxRecDepth 100000 in
theorem cs_plc {m : mz_M} (x y : Int32) : mz_Me 5 mz_r116 [.int x, .int y] m (some (.int (sm_bI (sm_plc x y)))) m := by
  by_cases h1 : (sm_bI (sm_in x (-100) 100)) = 0
  · have hv : sm_bI (sm_plc x y) = 0 := by
      have e : sm_in x (-100) 100 = false := by
        cases q : sm_in x (-100) 100
        · rfl
        · rw [q] at h1; exact absurd h1 (by decide)
      unfold sm_plc
      rw [e]
      rfl
    rw [hv]
    refine ⟨?_, rfl⟩
    refine mz_go 3 (c' := (5, [some (.int x), some (.int y)], [.int 100, .int (-100), .int x], m)) rfl ?_
    refine mz_doQ (R := mz_r121) (as := [.int x, .int (-100), .int 100]) (rest := []) (r1 := some (.int (sm_bI (sm_in x (-100) 100)))) (m1 := m) mz_t121 mz_v121 rfl rfl rfl rfl rfl ((cs_in (m := m) x (-100) 100).deep (by decide)) ?_
    refine mz_go 1 (c' := (if (sm_bI (sm_in x (-100) 100)) = 0 then 26 else 11, [some (.int x), some (.int y)], [], m)) rfl ?_
    refine mz_ifT h1 ?_
    refine mz_go 1 (c' := (27, [some (.int x), some (.int y)], [.int 0], m)) rfl ?_
    exact mz_ret rfl
  · by_cases h2 : (sm_bI (sm_in y (-100) 100)) = 0
    · have hv : sm_bI (sm_plc x y) = 0 := by
        have e : sm_in y (-100) 100 = false := by
          cases q : sm_in y (-100) 100
          · rfl
          · rw [q] at h2; exact absurd h2 (by decide)
        unfold sm_plc
        rw [e, Bool.and_false]
        rfl
      rw [hv]
      refine ⟨?_, rfl⟩
      refine mz_go 3 (c' := (5, [some (.int x), some (.int y)], [.int 100, .int (-100), .int x], m)) rfl ?_
      refine mz_doQ (R := mz_r121) (as := [.int x, .int (-100), .int 100]) (rest := []) (r1 := some (.int (sm_bI (sm_in x (-100) 100)))) (m1 := m) mz_t121 mz_v121 rfl rfl rfl rfl rfl ((cs_in (m := m) x (-100) 100).deep (by decide)) ?_
      refine mz_go 1 (c' := (if (sm_bI (sm_in x (-100) 100)) = 0 then 26 else 11, [some (.int x), some (.int y)], [], m)) rfl ?_
      refine mz_ifF h1 ?_
      refine mz_go 3 (c' := (16, [some (.int x), some (.int y)], [.int 100, .int (-100), .int y], m)) rfl ?_
      refine mz_doQ (R := mz_r121) (as := [.int y, .int (-100), .int 100]) (rest := []) (r1 := some (.int (sm_bI (sm_in y (-100) 100)))) (m1 := m) mz_t121 mz_v121 rfl rfl rfl rfl rfl ((cs_in (m := m) y (-100) 100).deep (by decide)) ?_
      refine mz_go 1 (c' := (if (sm_bI (sm_in y (-100) 100)) = 0 then 26 else 22, [some (.int x), some (.int y)], [], m)) rfl ?_
      refine mz_ifT h2 ?_
      refine mz_go 1 (c' := (27, [some (.int x), some (.int y)], [.int 0], m)) rfl ?_
      exact mz_ret rfl
    · have hv : sm_bI (sm_plc x y) = 1 := by
        unfold sm_plc
        rw [sm_bI0 h1, sm_bI0 h2]
        rfl
      rw [hv]
      refine ⟨?_, rfl⟩
      refine mz_go 3 (c' := (5, [some (.int x), some (.int y)], [.int 100, .int (-100), .int x], m)) rfl ?_
      refine mz_doQ (R := mz_r121) (as := [.int x, .int (-100), .int 100]) (rest := []) (r1 := some (.int (sm_bI (sm_in x (-100) 100)))) (m1 := m) mz_t121 mz_v121 rfl rfl rfl rfl rfl ((cs_in (m := m) x (-100) 100).deep (by decide)) ?_
      refine mz_go 1 (c' := (if (sm_bI (sm_in x (-100) 100)) = 0 then 26 else 11, [some (.int x), some (.int y)], [], m)) rfl ?_
      refine mz_ifF h1 ?_
      refine mz_go 3 (c' := (16, [some (.int x), some (.int y)], [.int 100, .int (-100), .int y], m)) rfl ?_
      refine mz_doQ (R := mz_r121) (as := [.int y, .int (-100), .int 100]) (rest := []) (r1 := some (.int (sm_bI (sm_in y (-100) 100)))) (m1 := m) mz_t121 mz_v121 rfl rfl rfl rfl rfl ((cs_in (m := m) y (-100) 100).deep (by decide)) ?_
      refine mz_go 1 (c' := (if (sm_bI (sm_in y (-100) 100)) = 0 then 26 else 22, [some (.int x), some (.int y)], [], m)) rfl ?_
      refine mz_ifF h2 ?_
      refine mz_go 2 (c' := (27, [some (.int x), some (.int y)], [.int 1], m)) rfl ?_
      exact mz_ret rfl
set_option maxHeartbeats 4000000 in
set_option maxRecDepth 100000 in
theorem ct_plc {m : mz_M} (x y : Int32) : mz_Me 5 mz_r131 [.int x, .int y] m (some (.int (sm_bI (sm_plc x y)))) m := by
  by_cases h1 : (sm_bI (sm_in x (-100) 100)) = 0
  · have hv : sm_bI (sm_plc x y) = 0 := by
      have e : sm_in x (-100) 100 = false := by
        cases q : sm_in x (-100) 100
        · rfl
        · rw [q] at h1; exact absurd h1 (by decide)
      unfold sm_plc
      rw [e]
      rfl
    rw [hv]
    refine ⟨?_, rfl⟩
    refine mz_go 3 (c' := (5, [some (.int x), some (.int y)], [.int 100, .int (-100), .int x], m)) rfl ?_
    refine mz_doQ (R := mz_r128) (as := [.int x, .int (-100), .int 100]) (rest := []) (r1 := some (.int (sm_bI (sm_in x (-100) 100)))) (m1 := m) mz_t128 mz_v128 rfl rfl rfl rfl rfl ((ct_in (m := m) x (-100) 100).deep (by decide)) ?_
    refine mz_go 1 (c' := (if (sm_bI (sm_in x (-100) 100)) = 0 then 26 else 11, [some (.int x), some (.int y)], [], m)) rfl ?_
    refine mz_ifT h1 ?_
    refine mz_go 1 (c' := (27, [some (.int x), some (.int y)], [.int 0], m)) rfl ?_
    exact mz_ret rfl
  · by_cases h2 : (sm_bI (sm_in y (-100) 100)) = 0
    · have hv : sm_bI (sm_plc x y) = 0 := by
        have e : sm_in y (-100) 100 = false := by
          cases q : sm_in y (-100) 100
          · rfl
          · rw [q] at h2; exact absurd h2 (by decide)
        unfold sm_plc
        rw [e, Bool.and_false]
        rfl
      rw [hv]
      refine ⟨?_, rfl⟩
      refine mz_go 3 (c' := (5, [some (.int x), some (.int y)], [.int 100, .int (-100), .int x], m)) rfl ?_
      refine mz_doQ (R := mz_r128) (as := [.int x, .int (-100), .int 100]) (rest := []) (r1 := some (.int (sm_bI (sm_in x (-100) 100)))) (m1 := m) mz_t128 mz_v128 rfl rfl rfl rfl rfl ((ct_in (m := m) x (-100) 100).deep (by decide)) ?_
      refine mz_go 1 (c' := (if (sm_bI (sm_in x (-100) 100)) = 0 then 26 else 11, [some (.int x), some (.int y)], [], m)) rfl ?_
      refine mz_ifF h1 ?_
      refine mz_go 3 (c' := (16, [some (.int x), some (.int y)], [.int 100, .int (-100), .int y], m)) rfl ?_
      refine mz_doQ (R := mz_r128) (as := [.int y, .int (-100), .int 100]) (rest := []) (r1 := some (.int (sm_bI (sm_in y (-100) 100)))) (m1 := m) mz_t128 mz_v128 rfl rfl rfl rfl rfl ((ct_in (m := m) y (-100) 100).deep (by decide)) ?_
      refine mz_go 1 (c' := (if (sm_bI (sm_in y (-100) 100)) = 0 then 26 else 22, [some (.int x), some (.int y)], [], m)) rfl ?_
      refine mz_ifT h2 ?_
      refine mz_go 1 (c' := (27, [some (.int x), some (.int y)], [.int 0], m)) rfl ?_
      exact mz_ret rfl
    · have hv : sm_bI (sm_plc x y) = 1 := by
        unfold sm_plc
        rw [sm_bI0 h1, sm_bI0 h2]
        rfl
      rw [hv]
      refine ⟨?_, rfl⟩
      refine mz_go 3 (c' := (5, [some (.int x), some (.int y)], [.int 100, .int (-100), .int x], m)) rfl ?_
      refine mz_doQ (R := mz_r128) (as := [.int x, .int (-100), .int 100]) (rest := []) (r1 := some (.int (sm_bI (sm_in x (-100) 100)))) (m1 := m) mz_t128 mz_v128 rfl rfl rfl rfl rfl ((ct_in (m := m) x (-100) 100).deep (by decide)) ?_
      refine mz_go 1 (c' := (if (sm_bI (sm_in x (-100) 100)) = 0 then 26 else 11, [some (.int x), some (.int y)], [], m)) rfl ?_
      refine mz_ifF h1 ?_
      refine mz_go 3 (c' := (16, [some (.int x), some (.int y)], [.int 100, .int (-100), .int y], m)) rfl ?_
      refine mz_doQ (R := mz_r128) (as := [.int y, .int (-100), .int 100]) (rest := []) (r1 := some (.int (sm_bI (sm_in y (-100) 100)))) (m1 := m) mz_t128 mz_v128 rfl rfl rfl rfl rfl ((ct_in (m := m) y (-100) 100).deep (by decide)) ?_
      refine mz_go 1 (c' := (if (sm_bI (sm_in y (-100) 100)) = 0 then 26 else 22, [some (.int x), some (.int y)], [], m)) rfl ?_
      refine mz_ifF h2 ?_
      refine mz_go 2 (c' := (27, [some (.int x), some (.int y)], [.int 1], m)) rfl ?_
      exact mz_ret rfl
set_option maxHeartbeats 4000000 in
set_option maxRecDepth 100000 in
theorem cs_inL {m : mz_M} {v a b : Int32} (h : v < a) : mz_Me 3 mz_r121 [.int v, .int a, .int b] m (some (.int 0)) m := by
  refine ⟨?_, rfl⟩
  refine mz_go 3 (c' := (if v < a then 14 else 5, [some (.int v), some (.int a), some (.int b)], [], m)) rfl ?_
  refine mz_ifT h ?_
  refine mz_go 1 (c' := (15, [some (.int v), some (.int a), some (.int b)], [.int 0], m)) rfl ?_
  exact mz_ret rfl
set_option maxHeartbeats 4000000 in
set_option maxRecDepth 100000 in
theorem cs_inG {m : mz_M} {v a b : Int32} (h : ¬ v < a) (h2 : b < v) : mz_Me 3 mz_r121 [.int v, .int a, .int b] m (some (.int 0)) m := by
  refine ⟨?_, rfl⟩
  refine mz_go 3 (c' := (if v < a then 14 else 5, [some (.int v), some (.int a), some (.int b)], [], m)) rfl ?_
  refine mz_ifF h ?_
  refine mz_go 3 (c' := (if b < v then 14 else 10, [some (.int v), some (.int a), some (.int b)], [], m)) rfl ?_
  refine mz_ifT h2 ?_
  refine mz_go 1 (c' := (15, [some (.int v), some (.int a), some (.int b)], [.int 0], m)) rfl ?_
  exact mz_ret rfl
set_option maxHeartbeats 4000000 in
set_option maxRecDepth 100000 in
theorem cs_in1 {m : mz_M} {v a b : Int32} (h : ¬ v < a) (h2 : ¬ b < v) : mz_Me 3 mz_r121 [.int v, .int a, .int b] m (some (.int 1)) m := by
  refine ⟨?_, rfl⟩
  refine mz_go 3 (c' := (if v < a then 14 else 5, [some (.int v), some (.int a), some (.int b)], [], m)) rfl ?_
  refine mz_ifF h ?_
  refine mz_go 3 (c' := (if b < v then 14 else 10, [some (.int v), some (.int a), some (.int b)], [], m)) rfl ?_
  refine mz_ifF h2 ?_
  refine mz_go 2 (c' := (15, [some (.int v), some (.int a), some (.int b)], [.int 1], m)) rfl ?_
  exact mz_ret rfl
set_option maxHeartbeats 4000000 in
set_option maxRecDepth 100000 in
theorem ct_inL {m : mz_M} {v a b : Int32} (h : v < a) : mz_Me 3 mz_r128 [.int v, .int a, .int b] m (some (.int 0)) m := by
  refine ⟨?_, rfl⟩
  refine mz_go 3 (c' := (if v < a then 14 else 5, [some (.int v), some (.int a), some (.int b)], [], m)) rfl ?_
  refine mz_ifT h ?_
  refine mz_go 1 (c' := (15, [some (.int v), some (.int a), some (.int b)], [.int 0], m)) rfl ?_
  exact mz_ret rfl
set_option maxHeartbeats 4000000 in
set_option maxRecDepth 100000 in
theorem ct_inG {m : mz_M} {v a b : Int32} (h : ¬ v < a) (h2 : b < v) : mz_Me 3 mz_r128 [.int v, .int a, .int b] m (some (.int 0)) m := by
  refine ⟨?_, rfl⟩
  refine mz_go 3 (c' := (if v < a then 14 else 5, [some (.int v), some (.int a), some (.int b)], [], m)) rfl ?_
  refine mz_ifF h ?_
  refine mz_go 3 (c' := (if b < v then 14 else 10, [some (.int v), some (.int a), some (.int b)], [], m)) rfl ?_
  refine mz_ifT h2 ?_
  refine mz_go 1 (c' := (15, [some (.int v), some (.int a), some (.int b)], [.int 0], m)) rfl ?_
  exact mz_ret rfl
set_option maxHeartbeats 4000000 in
set_option maxRecDepth 100000 in
theorem ct_in1 {m : mz_M} {v a b : Int32} (h : ¬ v < a) (h2 : ¬ b < v) : mz_Me 3 mz_r128 [.int v, .int a, .int b] m (some (.int 1)) m := by
  refine ⟨?_, rfl⟩
  refine mz_go 3 (c' := (if v < a then 14 else 5, [some (.int v), some (.int a), some (.int b)], [], m)) rfl ?_
  refine mz_ifF h ?_
  refine mz_go 3 (c' := (if b < v then 14 else 10, [some (.int v), some (.int a), some (.int b)], [], m)) rfl ?_
  refine mz_ifF h2 ?_
  refine mz_go 2 (c' := (15, [some (.int v), some (.int a), some (.int b)], [.int 1], m)) rfl ?_
  exact mz_ret rfl
set_option maxHeartbeats 4000000 in
set_option maxRecDepth 100000 in
theorem cs_err1 {m : mz_M} : mz_Me 5 mz_r109 [.ref 0, .int 1] m (some (.int (-1000001))) (mz_up m 64 1 ((m 64 1) + 1)) := by
  refine ⟨?_, rfl⟩
  refine mz_go 3 (c' := (4, [some (.ref 0), some (.int 1)], [.int 6, .int 1, .int 1], m)) rfl ?_
  refine mz_doQ (R := mz_r121) (as := [.int 1, .int 1, .int 6]) (rest := []) (r1 := some (.int 1)) (m1 := m) mz_t121 mz_v121 rfl rfl rfl rfl rfl ⟨?_, rfl⟩ ?_
  · refine mz_go 8 (c' := (15, [some (.int 1), some (.int 1), some (.int 6)], [.int 1], m)) rfl ?_
    exact mz_ret rfl
  refine mz_go 12 (c' := (25, [some (.ref 0), some (.int 1)], [.int (-1000001)], mz_up m 64 1 ((m 64 1) + 1))) rfl ?_
  exact mz_ret rfl
set_option maxHeartbeats 4000000 in
set_option maxRecDepth 100000 in
theorem cs_err2 {m : mz_M} : mz_Me 5 mz_r109 [.ref 0, .int 2] m (some (.int (-1000002))) (mz_up m 64 2 ((m 64 2) + 1)) := by
  refine ⟨?_, rfl⟩
  refine mz_go 3 (c' := (4, [some (.ref 0), some (.int 2)], [.int 6, .int 1, .int 2], m)) rfl ?_
  refine mz_doQ (R := mz_r121) (as := [.int 2, .int 1, .int 6]) (rest := []) (r1 := some (.int 1)) (m1 := m) mz_t121 mz_v121 rfl rfl rfl rfl rfl ⟨?_, rfl⟩ ?_
  · refine mz_go 8 (c' := (15, [some (.int 2), some (.int 1), some (.int 6)], [.int 1], m)) rfl ?_
    exact mz_ret rfl
  refine mz_go 12 (c' := (25, [some (.ref 0), some (.int 2)], [.int (-1000002)], mz_up m 64 2 ((m 64 2) + 1))) rfl ?_
  exact mz_ret rfl
set_option maxHeartbeats 4000000 in
set_option maxRecDepth 100000 in
theorem cs_err3 {m : mz_M} : mz_Me 5 mz_r109 [.ref 0, .int 3] m (some (.int (-1000003))) (mz_up m 64 3 ((m 64 3) + 1)) := by
  refine ⟨?_, rfl⟩
  refine mz_go 3 (c' := (4, [some (.ref 0), some (.int 3)], [.int 6, .int 1, .int 3], m)) rfl ?_
  refine mz_doQ (R := mz_r121) (as := [.int 3, .int 1, .int 6]) (rest := []) (r1 := some (.int 1)) (m1 := m) mz_t121 mz_v121 rfl rfl rfl rfl rfl ⟨?_, rfl⟩ ?_
  · refine mz_go 8 (c' := (15, [some (.int 3), some (.int 1), some (.int 6)], [.int 1], m)) rfl ?_
    exact mz_ret rfl
  refine mz_go 12 (c' := (25, [some (.ref 0), some (.int 3)], [.int (-1000003)], mz_up m 64 3 ((m 64 3) + 1))) rfl ?_
  exact mz_ret rfl
set_option maxHeartbeats 4000000 in
set_option maxRecDepth 100000 in
theorem cs_err4 {m : mz_M} : mz_Me 5 mz_r109 [.ref 0, .int 4] m (some (.int (-1000004))) (mz_up m 64 4 ((m 64 4) + 1)) := by
  refine ⟨?_, rfl⟩
  refine mz_go 3 (c' := (4, [some (.ref 0), some (.int 4)], [.int 6, .int 1, .int 4], m)) rfl ?_
  refine mz_doQ (R := mz_r121) (as := [.int 4, .int 1, .int 6]) (rest := []) (r1 := some (.int 1)) (m1 := m) mz_t121 mz_v121 rfl rfl rfl rfl rfl ⟨?_, rfl⟩ ?_
  · refine mz_go 8 (c' := (15, [some (.int 4), some (.int 1), some (.int 6)], [.int 1], m)) rfl ?_
    exact mz_ret rfl
  refine mz_go 12 (c' := (25, [some (.ref 0), some (.int 4)], [.int (-1000004)], mz_up m 64 4 ((m 64 4) + 1))) rfl ?_
  exact mz_ret rfl
set_option maxHeartbeats 4000000 in
set_option maxRecDepth 100000 in
theorem cs_err5 {m : mz_M} : mz_Me 5 mz_r109 [.ref 0, .int 5] m (some (.int (-1000005))) (mz_up m 64 5 ((m 64 5) + 1)) := by
  refine ⟨?_, rfl⟩
  refine mz_go 3 (c' := (4, [some (.ref 0), some (.int 5)], [.int 6, .int 1, .int 5], m)) rfl ?_
  refine mz_doQ (R := mz_r121) (as := [.int 5, .int 1, .int 6]) (rest := []) (r1 := some (.int 1)) (m1 := m) mz_t121 mz_v121 rfl rfl rfl rfl rfl ⟨?_, rfl⟩ ?_
  · refine mz_go 8 (c' := (15, [some (.int 5), some (.int 1), some (.int 6)], [.int 1], m)) rfl ?_
    exact mz_ret rfl
  refine mz_go 12 (c' := (25, [some (.ref 0), some (.int 5)], [.int (-1000005)], mz_up m 64 5 ((m 64 5) + 1))) rfl ?_
  exact mz_ret rfl
set_option maxHeartbeats 4000000 in
set_option maxRecDepth 100000 in
theorem cs_err6 {m : mz_M} : mz_Me 5 mz_r109 [.ref 0, .int 6] m (some (.int (-1000006))) (mz_up m 64 6 ((m 64 6) + 1)) := by
  refine ⟨?_, rfl⟩
  refine mz_go 3 (c' := (4, [some (.ref 0), some (.int 6)], [.int 6, .int 1, .int 6], m)) rfl ?_
  refine mz_doQ (R := mz_r121) (as := [.int 6, .int 1, .int 6]) (rest := []) (r1 := some (.int 1)) (m1 := m) mz_t121 mz_v121 rfl rfl rfl rfl rfl ⟨?_, rfl⟩ ?_
  · refine mz_go 8 (c' := (15, [some (.int 6), some (.int 1), some (.int 6)], [.int 1], m)) rfl ?_
    exact mz_ret rfl
  refine mz_go 12 (c' := (25, [some (.ref 0), some (.int 6)], [.int (-1000006)], mz_up m 64 6 ((m 64 6) + 1))) rfl ?_
  exact mz_ret rfl
set_option maxHeartbeats 4000000 in
set_option maxRecDepth 100000 in
theorem ct_err1 {m : mz_M} : mz_Me 5 mz_r127 [.ref 65, .int 1] m (some (.int (-1000001))) (mz_up m 68 1 ((m 68 1) + 1)) := by
  refine ⟨?_, rfl⟩
  refine mz_go 11 (c' := (14, [some (.ref 65), some (.int 1)], [.int (-1000001)], mz_up m 68 1 ((m 68 1) + 1))) rfl ?_
  exact mz_ret rfl
set_option maxHeartbeats 4000000 in
set_option maxRecDepth 100000 in
theorem ct_err2 {m : mz_M} : mz_Me 5 mz_r127 [.ref 65, .int 2] m (some (.int (-1000002))) (mz_up m 68 2 ((m 68 2) + 1)) := by
  refine ⟨?_, rfl⟩
  refine mz_go 11 (c' := (14, [some (.ref 65), some (.int 2)], [.int (-1000002)], mz_up m 68 2 ((m 68 2) + 1))) rfl ?_
  exact mz_ret rfl
set_option maxHeartbeats 4000000 in
set_option maxRecDepth 100000 in
theorem ct_err3 {m : mz_M} : mz_Me 5 mz_r127 [.ref 65, .int 3] m (some (.int (-1000003))) (mz_up m 68 3 ((m 68 3) + 1)) := by
  refine ⟨?_, rfl⟩
  refine mz_go 11 (c' := (14, [some (.ref 65), some (.int 3)], [.int (-1000003)], mz_up m 68 3 ((m 68 3) + 1))) rfl ?_
  exact mz_ret rfl
set_option maxHeartbeats 4000000 in
set_option maxRecDepth 100000 in
theorem ct_err4 {m : mz_M} : mz_Me 5 mz_r127 [.ref 65, .int 4] m (some (.int (-1000004))) (mz_up m 68 4 ((m 68 4) + 1)) := by
  refine ⟨?_, rfl⟩
  refine mz_go 11 (c' := (14, [some (.ref 65), some (.int 4)], [.int (-1000004)], mz_up m 68 4 ((m 68 4) + 1))) rfl ?_
  exact mz_ret rfl
set_option maxHeartbeats 4000000 in
set_option maxRecDepth 100000 in
theorem ct_err5 {m : mz_M} : mz_Me 5 mz_r127 [.ref 65, .int 5] m (some (.int (-1000005))) (mz_up m 68 5 ((m 68 5) + 1)) := by
  refine ⟨?_, rfl⟩
  refine mz_go 11 (c' := (14, [some (.ref 65), some (.int 5)], [.int (-1000005)], mz_up m 68 5 ((m 68 5) + 1))) rfl ?_
  exact mz_ret rfl
set_option maxHeartbeats 4000000 in
set_option maxRecDepth 100000 in
theorem ct_err6 {m : mz_M} : mz_Me 5 mz_r127 [.ref 65, .int 6] m (some (.int (-1000006))) (mz_up m 68 6 ((m 68 6) + 1)) := by
  refine ⟨?_, rfl⟩
  refine mz_go 11 (c' := (14, [some (.ref 65), some (.int 6)], [.int (-1000006)], mz_up m 68 6 ((m 68 6) + 1))) rfl ?_
  exact mz_ret rfl
theorem mz_doPQ {d : Nat} {K : mz_K} {P : Option Value × mz_M → Prop} {pc : Nat} {L : List (Option Value)} {S : List Value} {m : mz_M} {R : mz_R} {as rest : List Value} {r1 : Option Value} {m1 : mz_M} {a : Nat} (hT : mz_T[a]? = some R) (hv : mz_rcv mz_S R as = true) (hq : mz_cq K (pc, L, S, m) = some a) (ha : (S.take R.2.2.2.2.2.2.1).reverse = as) (hr : S.drop R.2.2.2.2.2.2.1 = rest) (hi : mz_i1 S = true) (hs : mz_sz R as rest = true) (hM : mz_Me d R as m r1 m1) (E : mz_Px (d + 1) K (pc + 3, L, r1.toList ++ rest, m1) P) : mz_Px (d + 1) K (pc, L, S, m) P := mz_doP (mz_clq hT hv hq ha hr hi hs) hM E
