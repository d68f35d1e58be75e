def sm_undr (k a : Int32) : Bool := decide (a = 0) || decide (k = a) || (decide (a = 1) && decide (k = 4)) || (decide (a = 2) && decide (k = 6)) || (decide (a = 3) && decide (k = 5))
set_option maxHeartbeats 4000000 in
set_option maxRecDepth 100000 in
theorem cs_undr {m : mz_M} {k : Int32} (hk : sm_N 6 k) {a : Nat} (ha : a ≤ 6) : mz_Me 3 mz_r115 [.int k, .int (nI a)] m (some (.int (sm_bI (sm_undr k (nI a))))) m := by
  obtain ⟨k, hk, rfl⟩ := sm_Nof (by decide) hk
  rcases (show k = 0 ∨ k = 1 ∨ k = 2 ∨ k = 3 ∨ k = 4 ∨ k = 5 ∨ k = 6 by omega) with rfl | rfl | rfl | rfl | rfl | rfl | rfl
  · rcases (show a = 0 ∨ a = 1 ∨ a = 2 ∨ a = 3 ∨ a = 4 ∨ a = 5 ∨ a = 6 by omega) with rfl | rfl | rfl | rfl | rfl | rfl | rfl
    · rw [show sm_bI (sm_undr (nI 0) (nI 0)) = 1 from by decide]
      show mz_Me 3 mz_r115 [.int 0, .int 0] m (some (.int 1)) m
      refine ⟨?_, rfl⟩
      refine mz_go 8 (c' := (11, [some (.int 0), some (.int 0), some (.int 0), some (.int 0)], [.int 0], m)) rfl ?_
      refine mz_do (R := mz_r114) (as := [.int 0]) (rest := []) (r1 := some (.int 1)) (m1 := m) rfl ⟨?_, rfl⟩ ?_
      · refine mz_go 3 (c' := (4, [some (.int 0)], [.int 6, .int 0, .int 0], m)) rfl ?_
        refine mz_do (R := mz_r121) (as := [.int 0, .int 0, .int 6]) (rest := []) (r1 := some (.int 1)) (m1 := m) rfl ⟨?_, rfl⟩ ?_
        · refine mz_go 8 (c' := (15, [some (.int 0), some (.int 0), some (.int 6)], [.int 1], m)) rfl ?_
          exact mz_ret rfl
        exact mz_ret rfl
      refine mz_go 5 (c' := (23, [some (.int 0), some (.int 0), some (.int 0), some (.int 0)], [.int 1], m)) rfl ?_
      exact mz_ret rfl
    · rw [show sm_bI (sm_undr (nI 0) (nI 1)) = 0 from by decide]
      show mz_Me 3 mz_r115 [.int 0, .int 1] m (some (.int 0)) m
      refine ⟨?_, rfl⟩
      refine mz_go 8 (c' := (11, [some (.int 0), some (.int 1), some (.int 0), some (.int 0)], [.int 0], m)) rfl ?_
      refine mz_do (R := mz_r114) (as := [.int 0]) (rest := []) (r1 := some (.int 1)) (m1 := m) rfl ⟨?_, rfl⟩ ?_
      · refine mz_go 3 (c' := (4, [some (.int 0)], [.int 6, .int 0, .int 0], m)) rfl ?_
        refine mz_do (R := mz_r121) (as := [.int 0, .int 0, .int 6]) (rest := []) (r1 := some (.int 1)) (m1 := m) rfl ⟨?_, rfl⟩ ?_
        · refine mz_go 8 (c' := (15, [some (.int 0), some (.int 0), some (.int 6)], [.int 1], m)) rfl ?_
          exact mz_ret rfl
        exact mz_ret rfl
      refine mz_go 14 (c' := (11, [some (.int 0), some (.int 1), some (.int (-1)), some (.int 1)], [.int (-1)], m)) rfl ?_
      refine mz_do (R := mz_r114) (as := [.int (-1)]) (rest := []) (r1 := some (.int 0)) (m1 := m) rfl ⟨?_, rfl⟩ ?_
      · refine mz_go 3 (c' := (4, [some (.int (-1))], [.int 6, .int 0, .int (-1)], m)) rfl ?_
        refine mz_do (R := mz_r121) (as := [.int (-1), .int 0, .int 6]) (rest := []) (r1 := some (.int 0)) (m1 := m) rfl ⟨?_, rfl⟩ ?_
        · refine mz_go 4 (c' := (15, [some (.int (-1)), some (.int 0), some (.int 6)], [.int 0], m)) rfl ?_
          exact mz_ret rfl
        exact mz_ret rfl
      refine mz_go 2 (c' := (37, [some (.int 0), some (.int 1), some (.int (-1)), some (.int 1)], [.int 0], m)) rfl ?_
      exact mz_ret rfl
    · rw [show sm_bI (sm_undr (nI 0) (nI 2)) = 0 from by decide]
      show mz_Me 3 mz_r115 [.int 0, .int 2] m (some (.int 0)) m
      refine ⟨?_, rfl⟩
      refine mz_go 8 (c' := (11, [some (.int 0), some (.int 2), some (.int 0), some (.int 0)], [.int 0], m)) rfl ?_
      refine mz_do (R := mz_r114) (as := [.int 0]) (rest := []) (r1 := some (.int 1)) (m1 := m) rfl ⟨?_, rfl⟩ ?_
      · refine mz_go 3 (c' := (4, [some (.int 0)], [.int 6, .int 0, .int 0], m)) rfl ?_
        refine mz_do (R := mz_r121) (as := [.int 0, .int 0, .int 6]) (rest := []) (r1 := some (.int 1)) (m1 := m) rfl ⟨?_, rfl⟩ ?_
        · refine mz_go 8 (c' := (15, [some (.int 0), some (.int 0), some (.int 6)], [.int 1], m)) rfl ?_
          exact mz_ret rfl
        exact mz_ret rfl
      refine mz_go 14 (c' := (11, [some (.int 0), some (.int 2), some (.int (-1)), some (.int 1)], [.int (-1)], m)) rfl ?_
      refine mz_do (R := mz_r114) (as := [.int (-1)]) (rest := []) (r1 := some (.int 0)) (m1 := m) rfl ⟨?_, rfl⟩ ?_
      · refine mz_go 3 (c' := (4, [some (.int (-1))], [.int 6, .int 0, .int (-1)], m)) rfl ?_
        refine mz_do (R := mz_r121) (as := [.int (-1), .int 0, .int 6]) (rest := []) (r1 := some (.int 0)) (m1 := m) rfl ⟨?_, rfl⟩ ?_
        · refine mz_go 4 (c' := (15, [some (.int (-1)), some (.int 0), some (.int 6)], [.int 0], m)) rfl ?_
          exact mz_ret rfl
        exact mz_ret rfl
      refine mz_go 2 (c' := (37, [some (.int 0), some (.int 2), some (.int (-1)), some (.int 1)], [.int 0], m)) rfl ?_
      exact mz_ret rfl
    · rw [show sm_bI (sm_undr (nI 0) (nI 3)) = 0 from by decide]
      show mz_Me 3 mz_r115 [.int 0, .int 3] m (some (.int 0)) m
      refine ⟨?_, rfl⟩
      refine mz_go 8 (c' := (11, [some (.int 0), some (.int 3), some (.int 0), some (.int 0)], [.int 0], m)) rfl ?_
      refine mz_do (R := mz_r114) (as := [.int 0]) (rest := []) (r1 := some (.int 1)) (m1 := m) rfl ⟨?_, rfl⟩ ?_
      · refine mz_go 3 (c' := (4, [some (.int 0)], [.int 6, .int 0, .int 0], m)) rfl ?_
        refine mz_do (R := mz_r121) (as := [.int 0, .int 0, .int 6]) (rest := []) (r1 := some (.int 1)) (m1 := m) rfl ⟨?_, rfl⟩ ?_
        · refine mz_go 8 (c' := (15, [some (.int 0), some (.int 0), some (.int 6)], [.int 1], m)) rfl ?_
          exact mz_ret rfl
        exact mz_ret rfl
      refine mz_go 14 (c' := (11, [some (.int 0), some (.int 3), some (.int (-1)), some (.int 1)], [.int (-1)], m)) rfl ?_
      refine mz_do (R := mz_r114) (as := [.int (-1)]) (rest := []) (r1 := some (.int 0)) (m1 := m) rfl ⟨?_, rfl⟩ ?_
      · refine mz_go 3 (c' := (4, [some (.int (-1))], [.int 6, .int 0, .int (-1)], m)) rfl ?_
        refine mz_do (R := mz_r121) (as := [.int (-1), .int 0, .int 6]) (rest := []) (r1 := some (.int 0)) (m1 := m) rfl ⟨?_, rfl⟩ ?_
        · refine mz_go 4 (c' := (15, [some (.int (-1)), some (.int 0), some (.int 6)], [.int 0], m)) rfl ?_
          exact mz_ret rfl
        exact mz_ret rfl
      refine mz_go 2 (c' := (37, [some (.int 0), some (.int 3), some (.int (-1)), some (.int 1)], [.int 0], m)) rfl ?_
      exact mz_ret rfl
    · rw [show sm_bI (sm_undr (nI 0) (nI 4)) = 0 from by decide]
      show mz_Me 3 mz_r115 [.int 0, .int 4] m (some (.int 0)) m
      refine ⟨?_, rfl⟩
      refine mz_go 8 (c' := (11, [some (.int 0), some (.int 4), some (.int 0), some (.int 0)], [.int 0], m)) rfl ?_
      refine mz_do (R := mz_r114) (as := [.int 0]) (rest := []) (r1 := some (.int 1)) (m1 := m) rfl ⟨?_, rfl⟩ ?_
      · refine mz_go 3 (c' := (4, [some (.int 0)], [.int 6, .int 0, .int 0], m)) rfl ?_
        refine mz_do (R := mz_r121) (as := [.int 0, .int 0, .int 6]) (rest := []) (r1 := some (.int 1)) (m1 := m) rfl ⟨?_, rfl⟩ ?_
        · refine mz_go 8 (c' := (15, [some (.int 0), some (.int 0), some (.int 6)], [.int 1], m)) rfl ?_
          exact mz_ret rfl
        exact mz_ret rfl
      refine mz_go 14 (c' := (11, [some (.int 0), some (.int 4), some (.int (-1)), some (.int 1)], [.int (-1)], m)) rfl ?_
      refine mz_do (R := mz_r114) (as := [.int (-1)]) (rest := []) (r1 := some (.int 0)) (m1 := m) rfl ⟨?_, rfl⟩ ?_
      · refine mz_go 3 (c' := (4, [some (.int (-1))], [.int 6, .int 0, .int (-1)], m)) rfl ?_
        refine mz_do (R := mz_r121) (as := [.int (-1), .int 0, .int 6]) (rest := []) (r1 := some (.int 0)) (m1 := m) rfl ⟨?_, rfl⟩ ?_
        · refine mz_go 4 (c' := (15, [some (.int (-1)), some (.int 0), some (.int 6)], [.int 0], m)) rfl ?_
          exact mz_ret rfl
        exact mz_ret rfl
      refine mz_go 2 (c' := (37, [some (.int 0), some (.int 4), some (.int (-1)), some (.int 1)], [.int 0], m)) rfl ?_
      exact mz_ret rfl
    · rw [show sm_bI (sm_undr (nI 0) (nI 5)) = 0 from by decide]
      show mz_Me 3 mz_r115 [.int 0, .int 5] m (some (.int 0)) m
      refine ⟨?_, rfl⟩
      refine mz_go 8 (c' := (11, [some (.int 0), some (.int 5), some (.int 0), some (.int 0)], [.int 0], m)) rfl ?_
      refine mz_do (R := mz_r114) (as := [.int 0]) (rest := []) (r1 := some (.int 1)) (m1 := m) rfl ⟨?_, rfl⟩ ?_
      · refine mz_go 3 (c' := (4, [some (.int 0)], [.int 6, .int 0, .int 0], m)) rfl ?_
        refine mz_do (R := mz_r121) (as := [.int 0, .int 0, .int 6]) (rest := []) (r1 := some (.int 1)) (m1 := m) rfl ⟨?_, rfl⟩ ?_
        · refine mz_go 8 (c' := (15, [some (.int 0), some (.int 0), some (.int 6)], [.int 1], m)) rfl ?_
          exact mz_ret rfl
        exact mz_ret rfl
      refine mz_go 14 (c' := (11, [some (.int 0), some (.int 5), some (.int (-1)), some (.int 1)], [.int (-1)], m)) rfl ?_
      refine mz_do (R := mz_r114) (as := [.int (-1)]) (rest := []) (r1 := some (.int 0)) (m1 := m) rfl ⟨?_, rfl⟩ ?_
      · refine mz_go 3 (c' := (4, [some (.int (-1))], [.int 6, .int 0, .int (-1)], m)) rfl ?_
        refine mz_do (R := mz_r121) (as := [.int (-1), .int 0, .int 6]) (rest := []) (r1 := some (.int 0)) (m1 := m) rfl ⟨?_, rfl⟩ ?_
        · refine mz_go 4 (c' := (15, [some (.int (-1)), some (.int 0), some (.int 6)], [.int 0], m)) rfl ?_
          exact mz_ret rfl
        exact mz_ret rfl
      refine mz_go 2 (c' := (37, [some (.int 0), some (.int 5), some (.int (-1)), some (.int 1)], [.int 0], m)) rfl ?_
      exact mz_ret rfl
    · rw [show sm_bI (sm_undr (nI 0) (nI 6)) = 0 from by decide]
      show mz_Me 3 mz_r115 [.int 0, .int 6] m (some (.int 0)) m
      refine ⟨?_, rfl⟩
      refine mz_go 8 (c' := (11, [some (.int 0), some (.int 6), some (.int 0), some (.int 0)], [.int 0], m)) rfl ?_
      refine mz_do (R := mz_r114) (as := [.int 0]) (rest := []) (r1 := some (.int 1)) (m1 := m) rfl ⟨?_, rfl⟩ ?_
      · refine mz_go 3 (c' := (4, [some (.int 0)], [.int 6, .int 0, .int 0], m)) rfl ?_
        refine mz_do (R := mz_r121) (as := [.int 0, .int 0, .int 6]) (rest := []) (r1 := some (.int 1)) (m1 := m) rfl ⟨?_, rfl⟩ ?_
        · refine mz_go 8 (c' := (15, [some (.int 0), some (.int 0), some (.int 6)], [.int 1], m)) rfl ?_
          exact mz_ret rfl
        exact mz_ret rfl
      refine mz_go 14 (c' := (11, [some (.int 0), some (.int 6), some (.int (-1)), some (.int 1)], [.int (-1)], m)) rfl ?_
      refine mz_do (R := mz_r114) (as := [.int (-1)]) (rest := []) (r1 := some (.int 0)) (m1 := m) rfl ⟨?_, rfl⟩ ?_
      · refine mz_go 3 (c' := (4, [some (.int (-1))], [.int 6, .int 0, .int (-1)], m)) rfl ?_
        refine mz_do (R := mz_r121) (as := [.int (-1), .int 0, .int 6]) (rest := []) (r1 := some (.int 0)) (m1 := m) rfl ⟨?_, rfl⟩ ?_
        · refine mz_go 4 (c' := (15, [some (.int (-1)), some (.int 0), some (.int 6)], [.int 0], m)) rfl ?_
          exact mz_ret rfl
        exact mz_ret rfl
      refine mz_go 2 (c' := (37, [some (.int 0), some (.int 6), some (.int (-1)), some (.int 1)], [.int 0], m)) rfl ?_
      exact mz_ret rfl
  · rcases (show a = 0 ∨ a = 1 ∨ a = 2 ∨ a = 3 ∨ a = 4 ∨ a = 5 ∨ a = 6 by omega) with rfl | rfl | rfl | rfl | rfl | rfl | rfl
    · rw [show sm_bI (sm_undr (nI 1) (nI 0)) = 1 from by decide]
      show mz_Me 3 mz_r115 [.int 1, .int 0] m (some (.int 1)) m
      refine ⟨?_, rfl⟩
      refine mz_go 8 (c' := (11, [some (.int 1), some (.int 0), some (.int 1), some (.int 0)], [.int 1], m)) rfl ?_
      refine mz_do (R := mz_r114) (as := [.int 1]) (rest := []) (r1 := some (.int 1)) (m1 := m) rfl ⟨?_, rfl⟩ ?_
      · refine mz_go 3 (c' := (4, [some (.int 1)], [.int 6, .int 0, .int 1], m)) rfl ?_
        refine mz_do (R := mz_r121) (as := [.int 1, .int 0, .int 6]) (rest := []) (r1 := some (.int 1)) (m1 := m) rfl ⟨?_, rfl⟩ ?_
        · refine mz_go 8 (c' := (15, [some (.int 1), some (.int 0), some (.int 6)], [.int 1], m)) rfl ?_
          exact mz_ret rfl
        exact mz_ret rfl
      refine mz_go 14 (c' := (11, [some (.int 1), some (.int 0), some (.int 0), some (.int 1)], [.int 0], m)) rfl ?_
      refine mz_do (R := mz_r114) (as := [.int 0]) (rest := []) (r1 := some (.int 1)) (m1 := m) rfl ⟨?_, rfl⟩ ?_
      · refine mz_go 3 (c' := (4, [some (.int 0)], [.int 6, .int 0, .int 0], m)) rfl ?_
        refine mz_do (R := mz_r121) (as := [.int 0, .int 0, .int 6]) (rest := []) (r1 := some (.int 1)) (m1 := m) rfl ⟨?_, rfl⟩ ?_
        · refine mz_go 8 (c' := (15, [some (.int 0), some (.int 0), some (.int 6)], [.int 1], m)) rfl ?_
          exact mz_ret rfl
        exact mz_ret rfl
      refine mz_go 5 (c' := (23, [some (.int 1), some (.int 0), some (.int 0), some (.int 1)], [.int 1], m)) rfl ?_
      exact mz_ret rfl
    · rw [show sm_bI (sm_undr (nI 1) (nI 1)) = 1 from by decide]
      show mz_Me 3 mz_r115 [.int 1, .int 1] m (some (.int 1)) m
      refine ⟨?_, rfl⟩
      refine mz_go 8 (c' := (11, [some (.int 1), some (.int 1), some (.int 1), some (.int 0)], [.int 1], m)) rfl ?_
      refine mz_do (R := mz_r114) (as := [.int 1]) (rest := []) (r1 := some (.int 1)) (m1 := m) rfl ⟨?_, rfl⟩ ?_
      · refine mz_go 3 (c' := (4, [some (.int 1)], [.int 6, .int 0, .int 1], m)) rfl ?_
        refine mz_do (R := mz_r121) (as := [.int 1, .int 0, .int 6]) (rest := []) (r1 := some (.int 1)) (m1 := m) rfl ⟨?_, rfl⟩ ?_
        · refine mz_go 8 (c' := (15, [some (.int 1), some (.int 0), some (.int 6)], [.int 1], m)) rfl ?_
          exact mz_ret rfl
        exact mz_ret rfl
      refine mz_go 5 (c' := (23, [some (.int 1), some (.int 1), some (.int 1), some (.int 0)], [.int 1], m)) rfl ?_
      exact mz_ret rfl
    · rw [show sm_bI (sm_undr (nI 1) (nI 2)) = 0 from by decide]
      show mz_Me 3 mz_r115 [.int 1, .int 2] m (some (.int 0)) m
      refine ⟨?_, rfl⟩
      refine mz_go 8 (c' := (11, [some (.int 1), some (.int 2), some (.int 1), some (.int 0)], [.int 1], m)) rfl ?_
      refine mz_do (R := mz_r114) (as := [.int 1]) (rest := []) (r1 := some (.int 1)) (m1 := m) rfl ⟨?_, rfl⟩ ?_
      · refine mz_go 3 (c' := (4, [some (.int 1)], [.int 6, .int 0, .int 1], m)) rfl ?_
        refine mz_do (R := mz_r121) (as := [.int 1, .int 0, .int 6]) (rest := []) (r1 := some (.int 1)) (m1 := m) rfl ⟨?_, rfl⟩ ?_
        · refine mz_go 8 (c' := (15, [some (.int 1), some (.int 0), some (.int 6)], [.int 1], m)) rfl ?_
          exact mz_ret rfl
        exact mz_ret rfl
      refine mz_go 14 (c' := (11, [some (.int 1), some (.int 2), some (.int 0), some (.int 1)], [.int 0], m)) rfl ?_
      refine mz_do (R := mz_r114) (as := [.int 0]) (rest := []) (r1 := some (.int 1)) (m1 := m) rfl ⟨?_, rfl⟩ ?_
      · refine mz_go 3 (c' := (4, [some (.int 0)], [.int 6, .int 0, .int 0], m)) rfl ?_
        refine mz_do (R := mz_r121) (as := [.int 0, .int 0, .int 6]) (rest := []) (r1 := some (.int 1)) (m1 := m) rfl ⟨?_, rfl⟩ ?_
        · refine mz_go 8 (c' := (15, [some (.int 0), some (.int 0), some (.int 6)], [.int 1], m)) rfl ?_
          exact mz_ret rfl
        exact mz_ret rfl
      refine mz_go 14 (c' := (11, [some (.int 1), some (.int 2), some (.int (-1)), some (.int 2)], [.int (-1)], m)) rfl ?_
      refine mz_do (R := mz_r114) (as := [.int (-1)]) (rest := []) (r1 := some (.int 0)) (m1 := m) rfl ⟨?_, rfl⟩ ?_
      · refine mz_go 3 (c' := (4, [some (.int (-1))], [.int 6, .int 0, .int (-1)], m)) rfl ?_
        refine mz_do (R := mz_r121) (as := [.int (-1), .int 0, .int 6]) (rest := []) (r1 := some (.int 0)) (m1 := m) rfl ⟨?_, rfl⟩ ?_
        · refine mz_go 4 (c' := (15, [some (.int (-1)), some (.int 0), some (.int 6)], [.int 0], m)) rfl ?_
          exact mz_ret rfl
        exact mz_ret rfl
      refine mz_go 2 (c' := (37, [some (.int 1), some (.int 2), some (.int (-1)), some (.int 2)], [.int 0], m)) rfl ?_
      exact mz_ret rfl
    · rw [show sm_bI (sm_undr (nI 1) (nI 3)) = 0 from by decide]
      show mz_Me 3 mz_r115 [.int 1, .int 3] m (some (.int 0)) m
      refine ⟨?_, rfl⟩
      refine mz_go 8 (c' := (11, [some (.int 1), some (.int 3), some (.int 1), some (.int 0)], [.int 1], m)) rfl ?_
      refine mz_do (R := mz_r114) (as := [.int 1]) (rest := []) (r1 := some (.int 1)) (m1 := m) rfl ⟨?_, rfl⟩ ?_
      · refine mz_go 3 (c' := (4, [some (.int 1)], [.int 6, .int 0, .int 1], m)) rfl ?_
        refine mz_do (R := mz_r121) (as := [.int 1, .int 0, .int 6]) (rest := []) (r1 := some (.int 1)) (m1 := m) rfl ⟨?_, rfl⟩ ?_
        · refine mz_go 8 (c' := (15, [some (.int 1), some (.int 0), some (.int 6)], [.int 1], m)) rfl ?_
          exact mz_ret rfl
        exact mz_ret rfl
      refine mz_go 14 (c' := (11, [some (.int 1), some (.int 3), some (.int 0), some (.int 1)], [.int 0], m)) rfl ?_
      refine mz_do (R := mz_r114) (as := [.int 0]) (rest := []) (r1 := some (.int 1)) (m1 := m) rfl ⟨?_, rfl⟩ ?_
      · refine mz_go 3 (c' := (4, [some (.int 0)], [.int 6, .int 0, .int 0], m)) rfl ?_
        refine mz_do (R := mz_r121) (as := [.int 0, .int 0, .int 6]) (rest := []) (r1 := some (.int 1)) (m1 := m) rfl ⟨?_, rfl⟩ ?_
        · refine mz_go 8 (c' := (15, [some (.int 0), some (.int 0), some (.int 6)], [.int 1], m)) rfl ?_
          exact mz_ret rfl
        exact mz_ret rfl
      refine mz_go 14 (c' := (11, [some (.int 1), some (.int 3), some (.int (-1)), some (.int 2)], [.int (-1)], m)) rfl ?_
      refine mz_do (R := mz_r114) (as := [.int (-1)]) (rest := []) (r1 := some (.int 0)) (m1 := m) rfl ⟨?_, rfl⟩ ?_
      · refine mz_go 3 (c' := (4, [some (.int (-1))], [.int 6, .int 0, .int (-1)], m)) rfl ?_
        refine mz_do (R := mz_r121) (as := [.int (-1), .int 0, .int 6]) (rest := []) (r1 := some (.int 0)) (m1 := m) rfl ⟨?_, rfl⟩ ?_
        · refine mz_go 4 (c' := (15, [some (.int (-1)), some (.int 0), some (.int 6)], [.int 0], m)) rfl ?_
          exact mz_ret rfl
        exact mz_ret rfl
      refine mz_go 2 (c' := (37, [some (.int 1), some (.int 3), some (.int (-1)), some (.int 2)], [.int 0], m)) rfl ?_
      exact mz_ret rfl
    · rw [show sm_bI (sm_undr (nI 1) (nI 4)) = 0 from by decide]
      show mz_Me 3 mz_r115 [.int 1, .int 4] m (some (.int 0)) m
      refine ⟨?_, rfl⟩
      refine mz_go 8 (c' := (11, [some (.int 1), some (.int 4), some (.int 1), some (.int 0)], [.int 1], m)) rfl ?_
      refine mz_do (R := mz_r114) (as := [.int 1]) (rest := []) (r1 := some (.int 1)) (m1 := m) rfl ⟨?_, rfl⟩ ?_
      · refine mz_go 3 (c' := (4, [some (.int 1)], [.int 6, .int 0, .int 1], m)) rfl ?_
        refine mz_do (R := mz_r121) (as := [.int 1, .int 0, .int 6]) (rest := []) (r1 := some (.int 1)) (m1 := m) rfl ⟨?_, rfl⟩ ?_
        · refine mz_go 8 (c' := (15, [some (.int 1), some (.int 0), some (.int 6)], [.int 1], m)) rfl ?_
          exact mz_ret rfl
        exact mz_ret rfl
      refine mz_go 14 (c' := (11, [some (.int 1), some (.int 4), some (.int 0), some (.int 1)], [.int 0], m)) rfl ?_
      refine mz_do (R := mz_r114) (as := [.int 0]) (rest := []) (r1 := some (.int 1)) (m1 := m) rfl ⟨?_, rfl⟩ ?_
      · refine mz_go 3 (c' := (4, [some (.int 0)], [.int 6, .int 0, .int 0], m)) rfl ?_
        refine mz_do (R := mz_r121) (as := [.int 0, .int 0, .int 6]) (rest := []) (r1 := some (.int 1)) (m1 := m) rfl ⟨?_, rfl⟩ ?_
        · refine mz_go 8 (c' := (15, [some (.int 0), some (.int 0), some (.int 6)], [.int 1], m)) rfl ?_
          exact mz_ret rfl
        exact mz_ret rfl
      refine mz_go 14 (c' := (11, [some (.int 1), some (.int 4), some (.int (-1)), some (.int 2)], [.int (-1)], m)) rfl ?_
      refine mz_do (R := mz_r114) (as := [.int (-1)]) (rest := []) (r1 := some (.int 0)) (m1 := m) rfl ⟨?_, rfl⟩ ?_
      · refine mz_go 3 (c' := (4, [some (.int (-1))], [.int 6, .int 0, .int (-1)], m)) rfl ?_
        refine mz_do (R := mz_r121) (as := [.int (-1), .int 0, .int 6]) (rest := []) (r1 := some (.int 0)) (m1 := m) rfl ⟨?_, rfl⟩ ?_
        · refine mz_go 4 (c' := (15, [some (.int (-1)), some (.int 0), some (.int 6)], [.int 0], m)) rfl ?_
          exact mz_ret rfl
        exact mz_ret rfl
      refine mz_go 2 (c' := (37, [some (.int 1), some (.int 4), some (.int (-1)), some (.int 2)], [.int 0], m)) rfl ?_
      exact mz_ret rfl
    · rw [show sm_bI (sm_undr (nI 1) (nI 5)) = 0 from by decide]
      show mz_Me 3 mz_r115 [.int 1, .int 5] m (some (.int 0)) m
      refine ⟨?_, rfl⟩
      refine mz_go 8 (c' := (11, [some (.int 1), some (.int 5), some (.int 1), some (.int 0)], [.int 1], m)) rfl ?_
      refine mz_do (R := mz_r114) (as := [.int 1]) (rest := []) (r1 := some (.int 1)) (m1 := m) rfl ⟨?_, rfl⟩ ?_
      · refine mz_go 3 (c' := (4, [some (.int 1)], [.int 6, .int 0, .int 1], m)) rfl ?_
        refine mz_do (R := mz_r121) (as := [.int 1, .int 0, .int 6]) (rest := []) (r1 := some (.int 1)) (m1 := m) rfl ⟨?_, rfl⟩ ?_
        · refine mz_go 8 (c' := (15, [some (.int 1), some (.int 0), some (.int 6)], [.int 1], m)) rfl ?_
          exact mz_ret rfl
        exact mz_ret rfl
      refine mz_go 14 (c' := (11, [some (.int 1), some (.int 5), some (.int 0), some (.int 1)], [.int 0], m)) rfl ?_
      refine mz_do (R := mz_r114) (as := [.int 0]) (rest := []) (r1 := some (.int 1)) (m1 := m) rfl ⟨?_, rfl⟩ ?_
      · refine mz_go 3 (c' := (4, [some (.int 0)], [.int 6, .int 0, .int 0], m)) rfl ?_
        refine mz_do (R := mz_r121) (as := [.int 0, .int 0, .int 6]) (rest := []) (r1 := some (.int 1)) (m1 := m) rfl ⟨?_, rfl⟩ ?_
        · refine mz_go 8 (c' := (15, [some (.int 0), some (.int 0), some (.int 6)], [.int 1], m)) rfl ?_
          exact mz_ret rfl
        exact mz_ret rfl
      refine mz_go 14 (c' := (11, [some (.int 1), some (.int 5), some (.int (-1)), some (.int 2)], [.int (-1)], m)) rfl ?_
      refine mz_do (R := mz_r114) (as := [.int (-1)]) (rest := []) (r1 := some (.int 0)) (m1 := m) rfl ⟨?_, rfl⟩ ?_
      · refine mz_go 3 (c' := (4, [some (.int (-1))], [.int 6, .int 0, .int (-1)], m)) rfl ?_
        refine mz_do (R := mz_r121) (as := [.int (-1), .int 0, .int 6]) (rest := []) (r1 := some (.int 0)) (m1 := m) rfl ⟨?_, rfl⟩ ?_
        · refine mz_go 4 (c' := (15, [some (.int (-1)), some (.int 0), some (.int 6)], [.int 0], m)) rfl ?_
          exact mz_ret rfl
        exact mz_ret rfl
      refine mz_go 2 (c' := (37, [some (.int 1), some (.int 5), some (.int (-1)), some (.int 2)], [.int 0], m)) rfl ?_
      exact mz_ret rfl
    · rw [show sm_bI (sm_undr (nI 1) (nI 6)) = 0 from by decide]
      show mz_Me 3 mz_r115 [.int 1, .int 6] m (some (.int 0)) m
      refine ⟨?_, rfl⟩
      refine mz_go 8 (c' := (11, [some (.int 1), some (.int 6), some (.int 1), some (.int 0)], [.int 1], m)) rfl ?_
      refine mz_do (R := mz_r114) (as := [.int 1]) (rest := []) (r1 := some (.int 1)) (m1 := m) rfl ⟨?_, rfl⟩ ?_
      · refine mz_go 3 (c' := (4, [some (.int 1)], [.int 6, .int 0, .int 1], m)) rfl ?_
        refine mz_do (R := mz_r121) (as := [.int 1, .int 0, .int 6]) (rest := []) (r1 := some (.int 1)) (m1 := m) rfl ⟨?_, rfl⟩ ?_
        · refine mz_go 8 (c' := (15, [some (.int 1), some (.int 0), some (.int 6)], [.int 1], m)) rfl ?_
          exact mz_ret rfl
        exact mz_ret rfl
      refine mz_go 14 (c' := (11, [some (.int 1), some (.int 6), some (.int 0), some (.int 1)], [.int 0], m)) rfl ?_
      refine mz_do (R := mz_r114) (as := [.int 0]) (rest := []) (r1 := some (.int 1)) (m1 := m) rfl ⟨?_, rfl⟩ ?_
      · refine mz_go 3 (c' := (4, [some (.int 0)], [.int 6, .int 0, .int 0], m)) rfl ?_
        refine mz_do (R := mz_r121) (as := [.int 0, .int 0, .int 6]) (rest := []) (r1 := some (.int 1)) (m1 := m) rfl ⟨?_, rfl⟩ ?_
        · refine mz_go 8 (c' := (15, [some (.int 0), some (.int 0), some (.int 6)], [.int 1], m)) rfl ?_
          exact mz_ret rfl
        exact mz_ret rfl
      refine mz_go 14 (c' := (11, [some (.int 1), some (.int 6), some (.int (-1)), some (.int 2)], [.int (-1)], m)) rfl ?_
      refine mz_do (R := mz_r114) (as := [.int (-1)]) (rest := []) (r1 := some (.int 0)) (m1 := m) rfl ⟨?_, rfl⟩ ?_
      · refine mz_go 3 (c' := (4, [some (.int (-1))], [.int 6, .int 0, .int (-1)], m)) rfl ?_
        refine mz_do (R := mz_r121) (as := [.int (-1), .int 0, .int 6]) (rest := []) (r1 := some (.int 0)) (m1 := m) rfl ⟨?_, rfl⟩ ?_
        · refine mz_go 4 (c' := (15, [some (.int (-1)), some (.int 0), some (.int 6)], [.int 0], m)) rfl ?_
          exact mz_ret rfl
        exact mz_ret rfl
      refine mz_go 2 (c' := (37, [some (.int 1), some (.int 6), some (.int (-1)), some (.int 2)], [.int 0], m)) rfl ?_
      exact mz_ret rfl
  · rcases (show a = 0 ∨ a = 1 ∨ a = 2 ∨ a = 3 ∨ a = 4 ∨ a = 5 ∨ a = 6 by omega) with rfl | rfl | rfl | rfl | rfl | rfl | rfl
    · rw [show sm_bI (sm_undr (nI 2) (nI 0)) = 1 from by decide]
      show mz_Me 3 mz_r115 [.int 2, .int 0] m (some (.int 1)) m
      refine ⟨?_, rfl⟩
      refine mz_go 8 (c' := (11, [some (.int 2), some (.int 0), some (.int 2), some (.int 0)], [.int 2], m)) rfl ?_
      refine mz_do (R := mz_r114) (as := [.int 2]) (rest := []) (r1 := some (.int 1)) (m1 := m) rfl ⟨?_, rfl⟩ ?_
      · refine mz_go 3 (c' := (4, [some (.int 2)], [.int 6, .int 0, .int 2], m)) rfl ?_
        refine mz_do (R := mz_r121) (as := [.int 2, .int 0, .int 6]) (rest := []) (r1 := some (.int 1)) (m1 := m) rfl ⟨?_, rfl⟩ ?_
        · refine mz_go 8 (c' := (15, [some (.int 2), some (.int 0), some (.int 6)], [.int 1], m)) rfl ?_
          exact mz_ret rfl
        exact mz_ret rfl
      refine mz_go 14 (c' := (11, [some (.int 2), some (.int 0), some (.int 0), some (.int 1)], [.int 0], m)) rfl ?_
      refine mz_do (R := mz_r114) (as := [.int 0]) (rest := []) (r1 := some (.int 1)) (m1 := m) rfl ⟨?_, rfl⟩ ?_
      · refine mz_go 3 (c' := (4, [some (.int 0)], [.int 6, .int 0, .int 0], m)) rfl ?_
        refine mz_do (R := mz_r121) (as := [.int 0, .int 0, .int 6]) (rest := []) (r1 := some (.int 1)) (m1 := m) rfl ⟨?_, rfl⟩ ?_
        · refine mz_go 8 (c' := (15, [some (.int 0), some (.int 0), some (.int 6)], [.int 1], m)) rfl ?_
          exact mz_ret rfl
        exact mz_ret rfl
      refine mz_go 5 (c' := (23, [some (.int 2), some (.int 0), some (.int 0), some (.int 1)], [.int 1], m)) rfl ?_
      exact mz_ret rfl
    · rw [show sm_bI (sm_undr (nI 2) (nI 1)) = 0 from by decide]
      show mz_Me 3 mz_r115 [.int 2, .int 1] m (some (.int 0)) m
      refine ⟨?_, rfl⟩
      refine mz_go 8 (c' := (11, [some (.int 2), some (.int 1), some (.int 2), some (.int 0)], [.int 2], m)) rfl ?_
      refine mz_do (R := mz_r114) (as := [.int 2]) (rest := []) (r1 := some (.int 1)) (m1 := m) rfl ⟨?_, rfl⟩ ?_
      · refine mz_go 3 (c' := (4, [some (.int 2)], [.int 6, .int 0, .int 2], m)) rfl ?_
        refine mz_do (R := mz_r121) (as := [.int 2, .int 0, .int 6]) (rest := []) (r1 := some (.int 1)) (m1 := m) rfl ⟨?_, rfl⟩ ?_
        · refine mz_go 8 (c' := (15, [some (.int 2), some (.int 0), some (.int 6)], [.int 1], m)) rfl ?_
          exact mz_ret rfl
        exact mz_ret rfl
      refine mz_go 14 (c' := (11, [some (.int 2), some (.int 1), some (.int 0), some (.int 1)], [.int 0], m)) rfl ?_
      refine mz_do (R := mz_r114) (as := [.int 0]) (rest := []) (r1 := some (.int 1)) (m1 := m) rfl ⟨?_, rfl⟩ ?_
      · refine mz_go 3 (c' := (4, [some (.int 0)], [.int 6, .int 0, .int 0], m)) rfl ?_
        refine mz_do (R := mz_r121) (as := [.int 0, .int 0, .int 6]) (rest := []) (r1 := some (.int 1)) (m1 := m) rfl ⟨?_, rfl⟩ ?_
        · refine mz_go 8 (c' := (15, [some (.int 0), some (.int 0), some (.int 6)], [.int 1], m)) rfl ?_
          exact mz_ret rfl
        exact mz_ret rfl
      refine mz_go 14 (c' := (11, [some (.int 2), some (.int 1), some (.int (-1)), some (.int 2)], [.int (-1)], m)) rfl ?_
      refine mz_do (R := mz_r114) (as := [.int (-1)]) (rest := []) (r1 := some (.int 0)) (m1 := m) rfl ⟨?_, rfl⟩ ?_
      · refine mz_go 3 (c' := (4, [some (.int (-1))], [.int 6, .int 0, .int (-1)], m)) rfl ?_
        refine mz_do (R := mz_r121) (as := [.int (-1), .int 0, .int 6]) (rest := []) (r1 := some (.int 0)) (m1 := m) rfl ⟨?_, rfl⟩ ?_
        · refine mz_go 4 (c' := (15, [some (.int (-1)), some (.int 0), some (.int 6)], [.int 0], m)) rfl ?_
          exact mz_ret rfl
        exact mz_ret rfl
      refine mz_go 2 (c' := (37, [some (.int 2), some (.int 1), some (.int (-1)), some (.int 2)], [.int 0], m)) rfl ?_
      exact mz_ret rfl
    · rw [show sm_bI (sm_undr (nI 2) (nI 2)) = 1 from by decide]
      show mz_Me 3 mz_r115 [.int 2, .int 2] m (some (.int 1)) m
      refine ⟨?_, rfl⟩
      refine mz_go 8 (c' := (11, [some (.int 2), some (.int 2), some (.int 2), some (.int 0)], [.int 2], m)) rfl ?_
      refine mz_do (R := mz_r114) (as := [.int 2]) (rest := []) (r1 := some (.int 1)) (m1 := m) rfl ⟨?_, rfl⟩ ?_
      · refine mz_go 3 (c' := (4, [some (.int 2)], [.int 6, .int 0, .int 2], m)) rfl ?_
        refine mz_do (R := mz_r121) (as := [.int 2, .int 0, .int 6]) (rest := []) (r1 := some (.int 1)) (m1 := m) rfl ⟨?_, rfl⟩ ?_
        · refine mz_go 8 (c' := (15, [some (.int 2), some (.int 0), some (.int 6)], [.int 1], m)) rfl ?_
          exact mz_ret rfl
        exact mz_ret rfl
      refine mz_go 5 (c' := (23, [some (.int 2), some (.int 2), some (.int 2), some (.int 0)], [.int 1], m)) rfl ?_
      exact mz_ret rfl
    · rw [show sm_bI (sm_undr (nI 2) (nI 3)) = 0 from by decide]
      show mz_Me 3 mz_r115 [.int 2, .int 3] m (some (.int 0)) m
      refine ⟨?_, rfl⟩
      refine mz_go 8 (c' := (11, [some (.int 2), some (.int 3), some (.int 2), some (.int 0)], [.int 2], m)) rfl ?_
      refine mz_do (R := mz_r114) (as := [.int 2]) (rest := []) (r1 := some (.int 1)) (m1 := m) rfl ⟨?_, rfl⟩ ?_
      · refine mz_go 3 (c' := (4, [some (.int 2)], [.int 6, .int 0, .int 2], m)) rfl ?_
        refine mz_do (R := mz_r121) (as := [.int 2, .int 0, .int 6]) (rest := []) (r1 := some (.int 1)) (m1 := m) rfl ⟨?_, rfl⟩ ?_
        · refine mz_go 8 (c' := (15, [some (.int 2), some (.int 0), some (.int 6)], [.int 1], m)) rfl ?_
          exact mz_ret rfl
        exact mz_ret rfl
      refine mz_go 14 (c' := (11, [some (.int 2), some (.int 3), some (.int 0), some (.int 1)], [.int 0], m)) rfl ?_
      refine mz_do (R := mz_r114) (as := [.int 0]) (rest := []) (r1 := some (.int 1)) (m1 := m) rfl ⟨?_, rfl⟩ ?_
      · refine mz_go 3 (c' := (4, [some (.int 0)], [.int 6, .int 0, .int 0], m)) rfl ?_
        refine mz_do (R := mz_r121) (as := [.int 0, .int 0, .int 6]) (rest := []) (r1 := some (.int 1)) (m1 := m) rfl ⟨?_, rfl⟩ ?_
        · refine mz_go 8 (c' := (15, [some (.int 0), some (.int 0), some (.int 6)], [.int 1], m)) rfl ?_
          exact mz_ret rfl
        exact mz_ret rfl
      refine mz_go 14 (c' := (11, [some (.int 2), some (.int 3), some (.int (-1)), some (.int 2)], [.int (-1)], m)) rfl ?_
      refine mz_do (R := mz_r114) (as := [.int (-1)]) (rest := []) (r1 := some (.int 0)) (m1 := m) rfl ⟨?_, rfl⟩ ?_
      · refine mz_go 3 (c' := (4, [some (.int (-1))], [.int 6, .int 0, .int (-1)], m)) rfl ?_
        refine mz_do (R := mz_r121) (as := [.int (-1), .int 0, .int 6]) (rest := []) (r1 := some (.int 0)) (m1 := m) rfl ⟨?_, rfl⟩ ?_
        · refine mz_go 4 (c' := (15, [some (.int (-1)), some (.int 0), some (.int 6)], [.int 0], m)) rfl ?_
          exact mz_ret rfl
        exact mz_ret rfl
      refine mz_go 2 (c' := (37, [some (.int 2), some (.int 3), some (.int (-1)), some (.int 2)], [.int 0], m)) rfl ?_
      exact mz_ret rfl
    · rw [show sm_bI (sm_undr (nI 2) (nI 4)) = 0 from by decide]
      show mz_Me 3 mz_r115 [.int 2, .int 4] m (some (.int 0)) m
      refine ⟨?_, rfl⟩
      refine mz_go 8 (c' := (11, [some (.int 2), some (.int 4), some (.int 2), some (.int 0)], [.int 2], m)) rfl ?_
      refine mz_do (R := mz_r114) (as := [.int 2]) (rest := []) (r1 := some (.int 1)) (m1 := m) rfl ⟨?_, rfl⟩ ?_
      · refine mz_go 3 (c' := (4, [some (.int 2)], [.int 6, .int 0, .int 2], m)) rfl ?_
        refine mz_do (R := mz_r121) (as := [.int 2, .int 0, .int 6]) (rest := []) (r1 := some (.int 1)) (m1 := m) rfl ⟨?_, rfl⟩ ?_
        · refine mz_go 8 (c' := (15, [some (.int 2), some (.int 0), some (.int 6)], [.int 1], m)) rfl ?_
          exact mz_ret rfl
        exact mz_ret rfl
      refine mz_go 14 (c' := (11, [some (.int 2), some (.int 4), some (.int 0), some (.int 1)], [.int 0], m)) rfl ?_
      refine mz_do (R := mz_r114) (as := [.int 0]) (rest := []) (r1 := some (.int 1)) (m1 := m) rfl ⟨?_, rfl⟩ ?_
      · refine mz_go 3 (c' := (4, [some (.int 0)], [.int 6, .int 0, .int 0], m)) rfl ?_
        refine mz_do (R := mz_r121) (as := [.int 0, .int 0, .int 6]) (rest := []) (r1 := some (.int 1)) (m1 := m) rfl ⟨?_, rfl⟩ ?_
        · refine mz_go 8 (c' := (15, [some (.int 0), some (.int 0), some (.int 6)], [.int 1], m)) rfl ?_
          exact mz_ret rfl
        exact mz_ret rfl
      refine mz_go 14 (c' := (11, [some (.int 2), some (.int 4), some (.int (-1)), some (.int 2)], [.int (-1)], m)) rfl ?_
      refine mz_do (R := mz_r114) (as := [.int (-1)]) (rest := []) (r1 := some (.int 0)) (m1 := m) rfl ⟨?_, rfl⟩ ?_
      · refine mz_go 3 (c' := (4, [some (.int (-1))], [.int 6, .int 0, .int (-1)], m)) rfl ?_
        refine mz_do (R := mz_r121) (as := [.int (-1), .int 0, .int 6]) (rest := []) (r1 := some (.int 0)) (m1 := m) rfl ⟨?_, rfl⟩ ?_
        · refine mz_go 4 (c' := (15, [some (.int (-1)), some (.int 0), some (.int 6)], [.int 0], m)) rfl ?_
          exact mz_ret rfl
        exact mz_ret rfl
      refine mz_go 2 (c' := (37, [some (.int 2), some (.int 4), some (.int (-1)), some (.int 2)], [.int 0], m)) rfl ?_
      exact mz_ret rfl
    · rw [show sm_bI (sm_undr (nI 2) (nI 5)) = 0 from by decide]
      show mz_Me 3 mz_r115 [.int 2, .int 5] m (some (.int 0)) m
      refine ⟨?_, rfl⟩
      refine mz_go 8 (c' := (11, [some (.int 2), some (.int 5), some (.int 2), some (.int 0)], [.int 2], m)) rfl ?_
      refine mz_do (R := mz_r114) (as := [.int 2]) (rest := []) (r1 := some (.int 1)) (m1 := m) rfl ⟨?_, rfl⟩ ?_
      · refine mz_go 3 (c' := (4, [some (.int 2)], [.int 6, .int 0, .int 2], m)) rfl ?_
        refine mz_do (R := mz_r121) (as := [.int 2, .int 0, .int 6]) (rest := []) (r1 := some (.int 1)) (m1 := m) rfl ⟨?_, rfl⟩ ?_
        · refine mz_go 8 (c' := (15, [some (.int 2), some (.int 0), some (.int 6)], [.int 1], m)) rfl ?_
          exact mz_ret rfl
        exact mz_ret rfl
      refine mz_go 14 (c' := (11, [some (.int 2), some (.int 5), some (.int 0), some (.int 1)], [.int 0], m)) rfl ?_
      refine mz_do (R := mz_r114) (as := [.int 0]) (rest := []) (r1 := some (.int 1)) (m1 := m) rfl ⟨?_, rfl⟩ ?_
      · refine mz_go 3 (c' := (4, [some (.int 0)], [.int 6, .int 0, .int 0], m)) rfl ?_
        refine mz_do (R := mz_r121) (as := [.int 0, .int 0, .int 6]) (rest := []) (r1 := some (.int 1)) (m1 := m) rfl ⟨?_, rfl⟩ ?_
        · refine mz_go 8 (c' := (15, [some (.int 0), some (.int 0), some (.int 6)], [.int 1], m)) rfl ?_
          exact mz_ret rfl
        exact mz_ret rfl
      refine mz_go 14 (c' := (11, [some (.int 2), some (.int 5), some (.int (-1)), some (.int 2)], [.int (-1)], m)) rfl ?_
      refine mz_do (R := mz_r114) (as := [.int (-1)]) (rest := []) (r1 := some (.int 0)) (m1 := m) rfl ⟨?_, rfl⟩ ?_
      · refine mz_go 3 (c' := (4, [some (.int (-1))], [.int 6, .int 0, .int (-1)], m)) rfl ?_
        refine mz_do (R := mz_r121) (as := [.int (-1), .int 0, .int 6]) (rest := []) (r1 := some (.int 0)) (m1 := m) rfl ⟨?_, rfl⟩ ?_
        · refine mz_go 4 (c' := (15, [some (.int (-1)), some (.int 0), some (.int 6)], [.int 0], m)) rfl ?_
          exact mz_ret rfl
        exact mz_ret rfl
      refine mz_go 2 (c' := (37, [some (.int 2), some (.int 5), some (.int (-1)), some (.int 2)], [.int 0], m)) rfl ?_
      exact mz_ret rfl
    · rw [show sm_bI (sm_undr (nI 2) (nI 6)) = 0 from by decide]
      show mz_Me 3 mz_r115 [.int 2, .int 6] m (some (.int 0)) m
      refine ⟨?_, rfl⟩
      refine mz_go 8 (c' := (11, [some (.int 2), some (.int 6), some (.int 2), some (.int 0)], [.int 2], m)) rfl ?_
      refine mz_do (R := mz_r114) (as := [.int 2]) (rest := []) (r1 := some (.int 1)) (m1 := m) rfl ⟨?_, rfl⟩ ?_
      · refine mz_go 3 (c' := (4, [some (.int 2)], [.int 6, .int 0, .int 2], m)) rfl ?_
        refine mz_do (R := mz_r121) (as := [.int 2, .int 0, .int 6]) (rest := []) (r1 := some (.int 1)) (m1 := m) rfl ⟨?_, rfl⟩ ?_
        · refine mz_go 8 (c' := (15, [some (.int 2), some (.int 0), some (.int 6)], [.int 1], m)) rfl ?_
          exact mz_ret rfl
        exact mz_ret rfl
      refine mz_go 14 (c' := (11, [some (.int 2), some (.int 6), some (.int 0), some (.int 1)], [.int 0], m)) rfl ?_
      refine mz_do (R := mz_r114) (as := [.int 0]) (rest := []) (r1 := some (.int 1)) (m1 := m) rfl ⟨?_, rfl⟩ ?_
      · refine mz_go 3 (c' := (4, [some (.int 0)], [.int 6, .int 0, .int 0], m)) rfl ?_
        refine mz_do (R := mz_r121) (as := [.int 0, .int 0, .int 6]) (rest := []) (r1 := some (.int 1)) (m1 := m) rfl ⟨?_, rfl⟩ ?_
        · refine mz_go 8 (c' := (15, [some (.int 0), some (.int 0), some (.int 6)], [.int 1], m)) rfl ?_
          exact mz_ret rfl
        exact mz_ret rfl
      refine mz_go 14 (c' := (11, [some (.int 2), some (.int 6), some (.int (-1)), some (.int 2)], [.int (-1)], m)) rfl ?_
      refine mz_do (R := mz_r114) (as := [.int (-1)]) (rest := []) (r1 := some (.int 0)) (m1 := m) rfl ⟨?_, rfl⟩ ?_
      · refine mz_go 3 (c' := (4, [some (.int (-1))], [.int 6, .int 0, .int (-1)], m)) rfl ?_
        refine mz_do (R := mz_r121) (as := [.int (-1), .int 0, .int 6]) (rest := []) (r1 := some (.int 0)) (m1 := m) rfl ⟨?_, rfl⟩ ?_
        · refine mz_go 4 (c' := (15, [some (.int (-1)), some (.int 0), some (.int 6)], [.int 0], m)) rfl ?_
          exact mz_ret rfl
        exact mz_ret rfl
      refine mz_go 2 (c' := (37, [some (.int 2), some (.int 6), some (.int (-1)), some (.int 2)], [.int 0], m)) rfl ?_
      exact mz_ret rfl
  · rcases (show a = 0 ∨ a = 1 ∨ a = 2 ∨ a = 3 ∨ a = 4 ∨ a = 5 ∨ a = 6 by omega) with rfl | rfl | rfl | rfl | rfl | rfl | rfl
    · rw [show sm_bI (sm_undr (nI 3) (nI 0)) = 1 from by decide]
      show mz_Me 3 mz_r115 [.int 3, .int 0] m (some (.int 1)) m
      refine ⟨?_, rfl⟩
      refine mz_go 8 (c' := (11, [some (.int 3), some (.int 0), some (.int 3), some (.int 0)], [.int 3], m)) rfl ?_
      refine mz_do (R := mz_r114) (as := [.int 3]) (rest := []) (r1 := some (.int 1)) (m1 := m) rfl ⟨?_, rfl⟩ ?_
      · refine mz_go 3 (c' := (4, [some (.int 3)], [.int 6, .int 0, .int 3], m)) rfl ?_
        refine mz_do (R := mz_r121) (as := [.int 3, .int 0, .int 6]) (rest := []) (r1 := some (.int 1)) (m1 := m) rfl ⟨?_, rfl⟩ ?_
        · refine mz_go 8 (c' := (15, [some (.int 3), some (.int 0), some (.int 6)], [.int 1], m)) rfl ?_
          exact mz_ret rfl
        exact mz_ret rfl
      refine mz_go 14 (c' := (11, [some (.int 3), some (.int 0), some (.int 0), some (.int 1)], [.int 0], m)) rfl ?_
      refine mz_do (R := mz_r114) (as := [.int 0]) (rest := []) (r1 := some (.int 1)) (m1 := m) rfl ⟨?_, rfl⟩ ?_
      · refine mz_go 3 (c' := (4, [some (.int 0)], [.int 6, .int 0, .int 0], m)) rfl ?_
        refine mz_do (R := mz_r121) (as := [.int 0, .int 0, .int 6]) (rest := []) (r1 := some (.int 1)) (m1 := m) rfl ⟨?_, rfl⟩ ?_
        · refine mz_go 8 (c' := (15, [some (.int 0), some (.int 0), some (.int 6)], [.int 1], m)) rfl ?_
          exact mz_ret rfl
        exact mz_ret rfl
      refine mz_go 5 (c' := (23, [some (.int 3), some (.int 0), some (.int 0), some (.int 1)], [.int 1], m)) rfl ?_
      exact mz_ret rfl
    · rw [show sm_bI (sm_undr (nI 3) (nI 1)) = 0 from by decide]
      show mz_Me 3 mz_r115 [.int 3, .int 1] m (some (.int 0)) m
      refine ⟨?_, rfl⟩
      refine mz_go 8 (c' := (11, [some (.int 3), some (.int 1), some (.int 3), some (.int 0)], [.int 3], m)) rfl ?_
      refine mz_do (R := mz_r114) (as := [.int 3]) (rest := []) (r1 := some (.int 1)) (m1 := m) rfl ⟨?_, rfl⟩ ?_
      · refine mz_go 3 (c' := (4, [some (.int 3)], [.int 6, .int 0, .int 3], m)) rfl ?_
        refine mz_do (R := mz_r121) (as := [.int 3, .int 0, .int 6]) (rest := []) (r1 := some (.int 1)) (m1 := m) rfl ⟨?_, rfl⟩ ?_
        · refine mz_go 8 (c' := (15, [some (.int 3), some (.int 0), some (.int 6)], [.int 1], m)) rfl ?_
          exact mz_ret rfl
        exact mz_ret rfl
      refine mz_go 14 (c' := (11, [some (.int 3), some (.int 1), some (.int 0), some (.int 1)], [.int 0], m)) rfl ?_
      refine mz_do (R := mz_r114) (as := [.int 0]) (rest := []) (r1 := some (.int 1)) (m1 := m) rfl ⟨?_, rfl⟩ ?_
      · refine mz_go 3 (c' := (4, [some (.int 0)], [.int 6, .int 0, .int 0], m)) rfl ?_
        refine mz_do (R := mz_r121) (as := [.int 0, .int 0, .int 6]) (rest := []) (r1 := some (.int 1)) (m1 := m) rfl ⟨?_, rfl⟩ ?_
        · refine mz_go 8 (c' := (15, [some (.int 0), some (.int 0), some (.int 6)], [.int 1], m)) rfl ?_
          exact mz_ret rfl
        exact mz_ret rfl
      refine mz_go 14 (c' := (11, [some (.int 3), some (.int 1), some (.int (-1)), some (.int 2)], [.int (-1)], m)) rfl ?_
      refine mz_do (R := mz_r114) (as := [.int (-1)]) (rest := []) (r1 := some (.int 0)) (m1 := m) rfl ⟨?_, rfl⟩ ?_
      · refine mz_go 3 (c' := (4, [some (.int (-1))], [.int 6, .int 0, .int (-1)], m)) rfl ?_
        refine mz_do (R := mz_r121) (as := [.int (-1), .int 0, .int 6]) (rest := []) (r1 := some (.int 0)) (m1 := m) rfl ⟨?_, rfl⟩ ?_
        · refine mz_go 4 (c' := (15, [some (.int (-1)), some (.int 0), some (.int 6)], [.int 0], m)) rfl ?_
          exact mz_ret rfl
        exact mz_ret rfl
      refine mz_go 2 (c' := (37, [some (.int 3), some (.int 1), some (.int (-1)), some (.int 2)], [.int 0], m)) rfl ?_
      exact mz_ret rfl
    · rw [show sm_bI (sm_undr (nI 3) (nI 2)) = 0 from by decide]
      show mz_Me 3 mz_r115 [.int 3, .int 2] m (some (.int 0)) m
      refine ⟨?_, rfl⟩
      refine mz_go 8 (c' := (11, [some (.int 3), some (.int 2), some (.int 3), some (.int 0)], [.int 3], m)) rfl ?_
      refine mz_do (R := mz_r114) (as := [.int 3]) (rest := []) (r1 := some (.int 1)) (m1 := m) rfl ⟨?_, rfl⟩ ?_
      · refine mz_go 3 (c' := (4, [some (.int 3)], [.int 6, .int 0, .int 3], m)) rfl ?_
        refine mz_do (R := mz_r121) (as := [.int 3, .int 0, .int 6]) (rest := []) (r1 := some (.int 1)) (m1 := m) rfl ⟨?_, rfl⟩ ?_
        · refine mz_go 8 (c' := (15, [some (.int 3), some (.int 0), some (.int 6)], [.int 1], m)) rfl ?_
          exact mz_ret rfl
        exact mz_ret rfl
      refine mz_go 14 (c' := (11, [some (.int 3), some (.int 2), some (.int 0), some (.int 1)], [.int 0], m)) rfl ?_
      refine mz_do (R := mz_r114) (as := [.int 0]) (rest := []) (r1 := some (.int 1)) (m1 := m) rfl ⟨?_, rfl⟩ ?_
      · refine mz_go 3 (c' := (4, [some (.int 0)], [.int 6, .int 0, .int 0], m)) rfl ?_
        refine mz_do (R := mz_r121) (as := [.int 0, .int 0, .int 6]) (rest := []) (r1 := some (.int 1)) (m1 := m) rfl ⟨?_, rfl⟩ ?_
        · refine mz_go 8 (c' := (15, [some (.int 0), some (.int 0), some (.int 6)], [.int 1], m)) rfl ?_
          exact mz_ret rfl
        exact mz_ret rfl
      refine mz_go 14 (c' := (11, [some (.int 3), some (.int 2), some (.int (-1)), some (.int 2)], [.int (-1)], m)) rfl ?_
      refine mz_do (R := mz_r114) (as := [.int (-1)]) (rest := []) (r1 := some (.int 0)) (m1 := m) rfl ⟨?_, rfl⟩ ?_
      · refine mz_go 3 (c' := (4, [some (.int (-1))], [.int 6, .int 0, .int (-1)], m)) rfl ?_
        refine mz_do (R := mz_r121) (as := [.int (-1), .int 0, .int 6]) (rest := []) (r1 := some (.int 0)) (m1 := m) rfl ⟨?_, rfl⟩ ?_
        · refine mz_go 4 (c' := (15, [some (.int (-1)), some (.int 0), some (.int 6)], [.int 0], m)) rfl ?_
          exact mz_ret rfl
        exact mz_ret rfl
      refine mz_go 2 (c' := (37, [some (.int 3), some (.int 2), some (.int (-1)), some (.int 2)], [.int 0], m)) rfl ?_
      exact mz_ret rfl
    · rw [show sm_bI (sm_undr (nI 3) (nI 3)) = 1 from by decide]
      show mz_Me 3 mz_r115 [.int 3, .int 3] m (some (.int 1)) m
      refine ⟨?_, rfl⟩
      refine mz_go 8 (c' := (11, [some (.int 3), some (.int 3), some (.int 3), some (.int 0)], [.int 3], m)) rfl ?_
      refine mz_do (R := mz_r114) (as := [.int 3]) (rest := []) (r1 := some (.int 1)) (m1 := m) rfl ⟨?_, rfl⟩ ?_
      · refine mz_go 3 (c' := (4, [some (.int 3)], [.int 6, .int 0, .int 3], m)) rfl ?_
        refine mz_do (R := mz_r121) (as := [.int 3, .int 0, .int 6]) (rest := []) (r1 := some (.int 1)) (m1 := m) rfl ⟨?_, rfl⟩ ?_
        · refine mz_go 8 (c' := (15, [some (.int 3), some (.int 0), some (.int 6)], [.int 1], m)) rfl ?_
          exact mz_ret rfl
        exact mz_ret rfl
      refine mz_go 5 (c' := (23, [some (.int 3), some (.int 3), some (.int 3), some (.int 0)], [.int 1], m)) rfl ?_
      exact mz_ret rfl
    · rw [show sm_bI (sm_undr (nI 3) (nI 4)) = 0 from by decide]
      show mz_Me 3 mz_r115 [.int 3, .int 4] m (some (.int 0)) m
      refine ⟨?_, rfl⟩
      refine mz_go 8 (c' := (11, [some (.int 3), some (.int 4), some (.int 3), some (.int 0)], [.int 3], m)) rfl ?_
      refine mz_do (R := mz_r114) (as := [.int 3]) (rest := []) (r1 := some (.int 1)) (m1 := m) rfl ⟨?_, rfl⟩ ?_
      · refine mz_go 3 (c' := (4, [some (.int 3)], [.int 6, .int 0, .int 3], m)) rfl ?_
        refine mz_do (R := mz_r121) (as := [.int 3, .int 0, .int 6]) (rest := []) (r1 := some (.int 1)) (m1 := m) rfl ⟨?_, rfl⟩ ?_
        · refine mz_go 8 (c' := (15, [some (.int 3), some (.int 0), some (.int 6)], [.int 1], m)) rfl ?_
          exact mz_ret rfl
        exact mz_ret rfl
      refine mz_go 14 (c' := (11, [some (.int 3), some (.int 4), some (.int 0), some (.int 1)], [.int 0], m)) rfl ?_
      refine mz_do (R := mz_r114) (as := [.int 0]) (rest := []) (r1 := some (.int 1)) (m1 := m) rfl ⟨?_, rfl⟩ ?_
      · refine mz_go 3 (c' := (4, [some (.int 0)], [.int 6, .int 0, .int 0], m)) rfl ?_
        refine mz_do (R := mz_r121) (as := [.int 0, .int 0, .int 6]) (rest := []) (r1 := some (.int 1)) (m1 := m) rfl ⟨?_, rfl⟩ ?_
        · refine mz_go 8 (c' := (15, [some (.int 0), some (.int 0), some (.int 6)], [.int 1], m)) rfl ?_
          exact mz_ret rfl
        exact mz_ret rfl
      refine mz_go 14 (c' := (11, [some (.int 3), some (.int 4), some (.int (-1)), some (.int 2)], [.int (-1)], m)) rfl ?_
      refine mz_do (R := mz_r114) (as := [.int (-1)]) (rest := []) (r1 := some (.int 0)) (m1 := m) rfl ⟨?_, rfl⟩ ?_
      · refine mz_go 3 (c' := (4, [some (.int (-1))], [.int 6, .int 0, .int (-1)], m)) rfl ?_
        refine mz_do (R := mz_r121) (as := [.int (-1), .int 0, .int 6]) (rest := []) (r1 := some (.int 0)) (m1 := m) rfl ⟨?_, rfl⟩ ?_
        · refine mz_go 4 (c' := (15, [some (.int (-1)), some (.int 0), some (.int 6)], [.int 0], m)) rfl ?_
          exact mz_ret rfl
        exact mz_ret rfl
      refine mz_go 2 (c' := (37, [some (.int 3), some (.int 4), some (.int (-1)), some (.int 2)], [.int 0], m)) rfl ?_
      exact mz_ret rfl
    · rw [show sm_bI (sm_undr (nI 3) (nI 5)) = 0 from by decide]
      show mz_Me 3 mz_r115 [.int 3, .int 5] m (some (.int 0)) m
      refine ⟨?_, rfl⟩
      refine mz_go 8 (c' := (11, [some (.int 3), some (.int 5), some (.int 3), some (.int 0)], [.int 3], m)) rfl ?_
      refine mz_do (R := mz_r114) (as := [.int 3]) (rest := []) (r1 := some (.int 1)) (m1 := m) rfl ⟨?_, rfl⟩ ?_
      · refine mz_go 3 (c' := (4, [some (.int 3)], [.int 6, .int 0, .int 3], m)) rfl ?_
        refine mz_do (R := mz_r121) (as := [.int 3, .int 0, .int 6]) (rest := []) (r1 := some (.int 1)) (m1 := m) rfl ⟨?_, rfl⟩ ?_
        · refine mz_go 8 (c' := (15, [some (.int 3), some (.int 0), some (.int 6)], [.int 1], m)) rfl ?_
          exact mz_ret rfl
        exact mz_ret rfl
      refine mz_go 14 (c' := (11, [some (.int 3), some (.int 5), some (.int 0), some (.int 1)], [.int 0], m)) rfl ?_
      refine mz_do (R := mz_r114) (as := [.int 0]) (rest := []) (r1 := some (.int 1)) (m1 := m) rfl ⟨?_, rfl⟩ ?_
      · refine mz_go 3 (c' := (4, [some (.int 0)], [.int 6, .int 0, .int 0], m)) rfl ?_
        refine mz_do (R := mz_r121) (as := [.int 0, .int 0, .int 6]) (rest := []) (r1 := some (.int 1)) (m1 := m) rfl ⟨?_, rfl⟩ ?_
        · refine mz_go 8 (c' := (15, [some (.int 0), some (.int 0), some (.int 6)], [.int 1], m)) rfl ?_
          exact mz_ret rfl
        exact mz_ret rfl
      refine mz_go 14 (c' := (11, [some (.int 3), some (.int 5), some (.int (-1)), some (.int 2)], [.int (-1)], m)) rfl ?_
      refine mz_do (R := mz_r114) (as := [.int (-1)]) (rest := []) (r1 := some (.int 0)) (m1 := m) rfl ⟨?_, rfl⟩ ?_
      · refine mz_go 3 (c' := (4, [some (.int (-1))], [.int 6, .int 0, .int (-1)], m)) rfl ?_
        refine mz_do (R := mz_r121) (as := [.int (-1), .int 0, .int 6]) (rest := []) (r1 := some (.int 0)) (m1 := m) rfl ⟨?_, rfl⟩ ?_
        · refine mz_go 4 (c' := (15, [some (.int (-1)), some (.int 0), some (.int 6)], [.int 0], m)) rfl ?_
          exact mz_ret rfl
        exact mz_ret rfl
      refine mz_go 2 (c' := (37, [some (.int 3), some (.int 5), some (.int (-1)), some (.int 2)], [.int 0], m)) rfl ?_
      exact mz_ret rfl
    · rw [show sm_bI (sm_undr (nI 3) (nI 6)) = 0 from by decide]
      show mz_Me 3 mz_r115 [.int 3, .int 6] m (some (.int 0)) m
      refine ⟨?_, rfl⟩
      refine mz_go 8 (c' := (11, [some (.int 3), some (.int 6), some (.int 3), some (.int 0)], [.int 3], m)) rfl ?_
      refine mz_do (R := mz_r114) (as := [.int 3]) (rest := []) (r1 := some (.int 1)) (m1 := m) rfl ⟨?_, rfl⟩ ?_
      · refine mz_go 3 (c' := (4, [some (.int 3)], [.int 6, .int 0, .int 3], m)) rfl ?_
        refine mz_do (R := mz_r121) (as := [.int 3, .int 0, .int 6]) (rest := []) (r1 := some (.int 1)) (m1 := m) rfl ⟨?_, rfl⟩ ?_
        · refine mz_go 8 (c' := (15, [some (.int 3), some (.int 0), some (.int 6)], [.int 1], m)) rfl ?_
          exact mz_ret rfl
        exact mz_ret rfl
      refine mz_go 14 (c' := (11, [some (.int 3), some (.int 6), some (.int 0), some (.int 1)], [.int 0], m)) rfl ?_
      refine mz_do (R := mz_r114) (as := [.int 0]) (rest := []) (r1 := some (.int 1)) (m1 := m) rfl ⟨?_, rfl⟩ ?_
      · refine mz_go 3 (c' := (4, [some (.int 0)], [.int 6, .int 0, .int 0], m)) rfl ?_
        refine mz_do (R := mz_r121) (as := [.int 0, .int 0, .int 6]) (rest := []) (r1 := some (.int 1)) (m1 := m) rfl ⟨?_, rfl⟩ ?_
        · refine mz_go 8 (c' := (15, [some (.int 0), some (.int 0), some (.int 6)], [.int 1], m)) rfl ?_
          exact mz_ret rfl
        exact mz_ret rfl
      refine mz_go 14 (c' := (11, [some (.int 3), some (.int 6), some (.int (-1)), some (.int 2)], [.int (-1)], m)) rfl ?_
      refine mz_do (R := mz_r114) (as := [.int (-1)]) (rest := []) (r1 := some (.int 0)) (m1 := m) rfl ⟨?_, rfl⟩ ?_
      · refine mz_go 3 (c' := (4, [some (.int (-1))], [.int 6, .int 0, .int (-1)], m)) rfl ?_
        refine mz_do (R := mz_r121) (as := [.int (-1), .int 0, .int 6]) (rest := []) (r1 := some (.int 0)) (m1 := m) rfl ⟨?_, rfl⟩ ?_
        · refine mz_go 4 (c' := (15, [some (.int (-1)), some (.int 0), some (.int 6)], [.int 0], m)) rfl ?_
          exact mz_ret rfl
        exact mz_ret rfl
      refine mz_go 2 (c' := (37, [some (.int 3), some (.int 6), some (.int (-1)), some (.int 2)], [.int 0], m)) rfl ?_
      exact mz_ret rfl
  · rcases (show a = 0 ∨ a = 1 ∨ a = 2 ∨ a = 3 ∨ a = 4 ∨ a = 5 ∨ a = 6 by omega) with rfl | rfl | rfl | rfl | rfl | rfl | rfl
    · rw [show sm_bI (sm_undr (nI 4) (nI 0)) = 1 from by decide]
      show mz_Me 3 mz_r115 [.int 4, .int 0] m (some (.int 1)) m
      refine ⟨?_, rfl⟩
      refine mz_go 8 (c' := (11, [some (.int 4), some (.int 0), some (.int 4), some (.int 0)], [.int 4], m)) rfl ?_
      refine mz_do (R := mz_r114) (as := [.int 4]) (rest := []) (r1 := some (.int 1)) (m1 := m) rfl ⟨?_, rfl⟩ ?_
      · refine mz_go 3 (c' := (4, [some (.int 4)], [.int 6, .int 0, .int 4], m)) rfl ?_
        refine mz_do (R := mz_r121) (as := [.int 4, .int 0, .int 6]) (rest := []) (r1 := some (.int 1)) (m1 := m) rfl ⟨?_, rfl⟩ ?_
        · refine mz_go 8 (c' := (15, [some (.int 4), some (.int 0), some (.int 6)], [.int 1], m)) rfl ?_
          exact mz_ret rfl
        exact mz_ret rfl
      refine mz_go 14 (c' := (11, [some (.int 4), some (.int 0), some (.int 1), some (.int 1)], [.int 1], m)) rfl ?_
      refine mz_do (R := mz_r114) (as := [.int 1]) (rest := []) (r1 := some (.int 1)) (m1 := m) rfl ⟨?_, rfl⟩ ?_
      · refine mz_go 3 (c' := (4, [some (.int 1)], [.int 6, .int 0, .int 1], m)) rfl ?_
        refine mz_do (R := mz_r121) (as := [.int 1, .int 0, .int 6]) (rest := []) (r1 := some (.int 1)) (m1 := m) rfl ⟨?_, rfl⟩ ?_
        · refine mz_go 8 (c' := (15, [some (.int 1), some (.int 0), some (.int 6)], [.int 1], m)) rfl ?_
          exact mz_ret rfl
        exact mz_ret rfl
      refine mz_go 14 (c' := (11, [some (.int 4), some (.int 0), some (.int 0), some (.int 2)], [.int 0], m)) rfl ?_
      refine mz_do (R := mz_r114) (as := [.int 0]) (rest := []) (r1 := some (.int 1)) (m1 := m) rfl ⟨?_, rfl⟩ ?_
      · refine mz_go 3 (c' := (4, [some (.int 0)], [.int 6, .int 0, .int 0], m)) rfl ?_
        refine mz_do (R := mz_r121) (as := [.int 0, .int 0, .int 6]) (rest := []) (r1 := some (.int 1)) (m1 := m) rfl ⟨?_, rfl⟩ ?_
        · refine mz_go 8 (c' := (15, [some (.int 0), some (.int 0), some (.int 6)], [.int 1], m)) rfl ?_
          exact mz_ret rfl
        exact mz_ret rfl
      refine mz_go 5 (c' := (23, [some (.int 4), some (.int 0), some (.int 0), some (.int 2)], [.int 1], m)) rfl ?_
      exact mz_ret rfl
    · rw [show sm_bI (sm_undr (nI 4) (nI 1)) = 1 from by decide]
      show mz_Me 3 mz_r115 [.int 4, .int 1] m (some (.int 1)) m
      refine ⟨?_, rfl⟩
      refine mz_go 8 (c' := (11, [some (.int 4), some (.int 1), some (.int 4), some (.int 0)], [.int 4], m)) rfl ?_
      refine mz_do (R := mz_r114) (as := [.int 4]) (rest := []) (r1 := some (.int 1)) (m1 := m) rfl ⟨?_, rfl⟩ ?_
      · refine mz_go 3 (c' := (4, [some (.int 4)], [.int 6, .int 0, .int 4], m)) rfl ?_
        refine mz_do (R := mz_r121) (as := [.int 4, .int 0, .int 6]) (rest := []) (r1 := some (.int 1)) (m1 := m) rfl ⟨?_, rfl⟩ ?_
        · refine mz_go 8 (c' := (15, [some (.int 4), some (.int 0), some (.int 6)], [.int 1], m)) rfl ?_
          exact mz_ret rfl
        exact mz_ret rfl
      refine mz_go 14 (c' := (11, [some (.int 4), some (.int 1), some (.int 1), some (.int 1)], [.int 1], m)) rfl ?_
      refine mz_do (R := mz_r114) (as := [.int 1]) (rest := []) (r1 := some (.int 1)) (m1 := m) rfl ⟨?_, rfl⟩ ?_
      · refine mz_go 3 (c' := (4, [some (.int 1)], [.int 6, .int 0, .int 1], m)) rfl ?_
        refine mz_do (R := mz_r121) (as := [.int 1, .int 0, .int 6]) (rest := []) (r1 := some (.int 1)) (m1 := m) rfl ⟨?_, rfl⟩ ?_
        · refine mz_go 8 (c' := (15, [some (.int 1), some (.int 0), some (.int 6)], [.int 1], m)) rfl ?_
          exact mz_ret rfl
        exact mz_ret rfl
      refine mz_go 5 (c' := (23, [some (.int 4), some (.int 1), some (.int 1), some (.int 1)], [.int 1], m)) rfl ?_
      exact mz_ret rfl
    · rw [show sm_bI (sm_undr (nI 4) (nI 2)) = 0 from by decide]
      show mz_Me 3 mz_r115 [.int 4, .int 2] m (some (.int 0)) m
      refine ⟨?_, rfl⟩
      refine mz_go 8 (c' := (11, [some (.int 4), some (.int 2), some (.int 4), some (.int 0)], [.int 4], m)) rfl ?_
      refine mz_do (R := mz_r114) (as := [.int 4]) (rest := []) (r1 := some (.int 1)) (m1 := m) rfl ⟨?_, rfl⟩ ?_
      · refine mz_go 3 (c' := (4, [some (.int 4)], [.int 6, .int 0, .int 4], m)) rfl ?_
        refine mz_do (R := mz_r121) (as := [.int 4, .int 0, .int 6]) (rest := []) (r1 := some (.int 1)) (m1 := m) rfl ⟨?_, rfl⟩ ?_
        · refine mz_go 8 (c' := (15, [some (.int 4), some (.int 0), some (.int 6)], [.int 1], m)) rfl ?_
          exact mz_ret rfl
        exact mz_ret rfl
      refine mz_go 14 (c' := (11, [some (.int 4), some (.int 2), some (.int 1), some (.int 1)], [.int 1], m)) rfl ?_
      refine mz_do (R := mz_r114) (as := [.int 1]) (rest := []) (r1 := some (.int 1)) (m1 := m) rfl ⟨?_, rfl⟩ ?_
      · refine mz_go 3 (c' := (4, [some (.int 1)], [.int 6, .int 0, .int 1], m)) rfl ?_
        refine mz_do (R := mz_r121) (as := [.int 1, .int 0, .int 6]) (rest := []) (r1 := some (.int 1)) (m1 := m) rfl ⟨?_, rfl⟩ ?_
        · refine mz_go 8 (c' := (15, [some (.int 1), some (.int 0), some (.int 6)], [.int 1], m)) rfl ?_
          exact mz_ret rfl
        exact mz_ret rfl
      refine mz_go 14 (c' := (11, [some (.int 4), some (.int 2), some (.int 0), some (.int 2)], [.int 0], m)) rfl ?_
      refine mz_do (R := mz_r114) (as := [.int 0]) (rest := []) (r1 := some (.int 1)) (m1 := m) rfl ⟨?_, rfl⟩ ?_
      · refine mz_go 3 (c' := (4, [some (.int 0)], [.int 6, .int 0, .int 0], m)) rfl ?_
        refine mz_do (R := mz_r121) (as := [.int 0, .int 0, .int 6]) (rest := []) (r1 := some (.int 1)) (m1 := m) rfl ⟨?_, rfl⟩ ?_
        · refine mz_go 8 (c' := (15, [some (.int 0), some (.int 0), some (.int 6)], [.int 1], m)) rfl ?_
          exact mz_ret rfl
        exact mz_ret rfl
      refine mz_go 14 (c' := (11, [some (.int 4), some (.int 2), some (.int (-1)), some (.int 3)], [.int (-1)], m)) rfl ?_
      refine mz_do (R := mz_r114) (as := [.int (-1)]) (rest := []) (r1 := some (.int 0)) (m1 := m) rfl ⟨?_, rfl⟩ ?_
      · refine mz_go 3 (c' := (4, [some (.int (-1))], [.int 6, .int 0, .int (-1)], m)) rfl ?_
        refine mz_do (R := mz_r121) (as := [.int (-1), .int 0, .int 6]) (rest := []) (r1 := some (.int 0)) (m1 := m) rfl ⟨?_, rfl⟩ ?_
        · refine mz_go 4 (c' := (15, [some (.int (-1)), some (.int 0), some (.int 6)], [.int 0], m)) rfl ?_
          exact mz_ret rfl
        exact mz_ret rfl
      refine mz_go 2 (c' := (37, [some (.int 4), some (.int 2), some (.int (-1)), some (.int 3)], [.int 0], m)) rfl ?_
      exact mz_ret rfl
    · rw [show sm_bI (sm_undr (nI 4) (nI 3)) = 0 from by decide]
      show mz_Me 3 mz_r115 [.int 4, .int 3] m (some (.int 0)) m
      refine ⟨?_, rfl⟩
      refine mz_go 8 (c' := (11, [some (.int 4), some (.int 3), some (.int 4), some (.int 0)], [.int 4], m)) rfl ?_
      refine mz_do (R := mz_r114) (as := [.int 4]) (rest := []) (r1 := some (.int 1)) (m1 := m) rfl ⟨?_, rfl⟩ ?_
      · refine mz_go 3 (c' := (4, [some (.int 4)], [.int 6, .int 0, .int 4], m)) rfl ?_
        refine mz_do (R := mz_r121) (as := [.int 4, .int 0, .int 6]) (rest := []) (r1 := some (.int 1)) (m1 := m) rfl ⟨?_, rfl⟩ ?_
        · refine mz_go 8 (c' := (15, [some (.int 4), some (.int 0), some (.int 6)], [.int 1], m)) rfl ?_
          exact mz_ret rfl
        exact mz_ret rfl
      refine mz_go 14 (c' := (11, [some (.int 4), some (.int 3), some (.int 1), some (.int 1)], [.int 1], m)) rfl ?_
      refine mz_do (R := mz_r114) (as := [.int 1]) (rest := []) (r1 := some (.int 1)) (m1 := m) rfl ⟨?_, rfl⟩ ?_
      · refine mz_go 3 (c' := (4, [some (.int 1)], [.int 6, .int 0, .int 1], m)) rfl ?_
        refine mz_do (R := mz_r121) (as := [.int 1, .int 0, .int 6]) (rest := []) (r1 := some (.int 1)) (m1 := m) rfl ⟨?_, rfl⟩ ?_
        · refine mz_go 8 (c' := (15, [some (.int 1), some (.int 0), some (.int 6)], [.int 1], m)) rfl ?_
          exact mz_ret rfl
        exact mz_ret rfl
      refine mz_go 14 (c' := (11, [some (.int 4), some (.int 3), some (.int 0), some (.int 2)], [.int 0], m)) rfl ?_
      refine mz_do (R := mz_r114) (as := [.int 0]) (rest := []) (r1 := some (.int 1)) (m1 := m) rfl ⟨?_, rfl⟩ ?_
      · refine mz_go 3 (c' := (4, [some (.int 0)], [.int 6, .int 0, .int 0], m)) rfl ?_
        refine mz_do (R := mz_r121) (as := [.int 0, .int 0, .int 6]) (rest := []) (r1 := some (.int 1)) (m1 := m) rfl ⟨?_, rfl⟩ ?_
        · refine mz_go 8 (c' := (15, [some (.int 0), some (.int 0), some (.int 6)], [.int 1], m)) rfl ?_
          exact mz_ret rfl
        exact mz_ret rfl
      refine mz_go 14 (c' := (11, [some (.int 4), some (.int 3), some (.int (-1)), some (.int 3)], [.int (-1)], m)) rfl ?_
      refine mz_do (R := mz_r114) (as := [.int (-1)]) (rest := []) (r1 := some (.int 0)) (m1 := m) rfl ⟨?_, rfl⟩ ?_
      · refine mz_go 3 (c' := (4, [some (.int (-1))], [.int 6, .int 0, .int (-1)], m)) rfl ?_
        refine mz_do (R := mz_r121) (as := [.int (-1), .int 0, .int 6]) (rest := []) (r1 := some (.int 0)) (m1 := m) rfl ⟨?_, rfl⟩ ?_
        · refine mz_go 4 (c' := (15, [some (.int (-1)), some (.int 0), some (.int 6)], [.int 0], m)) rfl ?_
          exact mz_ret rfl
        exact mz_ret rfl
      refine mz_go 2 (c' := (37, [some (.int 4), some (.int 3), some (.int (-1)), some (.int 3)], [.int 0], m)) rfl ?_
      exact mz_ret rfl
    · rw [show sm_bI (sm_undr (nI 4) (nI 4)) = 1 from by decide]
      show mz_Me 3 mz_r115 [.int 4, .int 4] m (some (.int 1)) m
      refine ⟨?_, rfl⟩
      refine mz_go 8 (c' := (11, [some (.int 4), some (.int 4), some (.int 4), some (.int 0)], [.int 4], m)) rfl ?_
      refine mz_do (R := mz_r114) (as := [.int 4]) (rest := []) (r1 := some (.int 1)) (m1 := m) rfl ⟨?_, rfl⟩ ?_
      · refine mz_go 3 (c' := (4, [some (.int 4)], [.int 6, .int 0, .int 4], m)) rfl ?_
        refine mz_do (R := mz_r121) (as := [.int 4, .int 0, .int 6]) (rest := []) (r1 := some (.int 1)) (m1 := m) rfl ⟨?_, rfl⟩ ?_
        · refine mz_go 8 (c' := (15, [some (.int 4), some (.int 0), some (.int 6)], [.int 1], m)) rfl ?_
          exact mz_ret rfl
        exact mz_ret rfl
      refine mz_go 5 (c' := (23, [some (.int 4), some (.int 4), some (.int 4), some (.int 0)], [.int 1], m)) rfl ?_
      exact mz_ret rfl
    · rw [show sm_bI (sm_undr (nI 4) (nI 5)) = 0 from by decide]
      show mz_Me 3 mz_r115 [.int 4, .int 5] m (some (.int 0)) m
      refine ⟨?_, rfl⟩
      refine mz_go 8 (c' := (11, [some (.int 4), some (.int 5), some (.int 4), some (.int 0)], [.int 4], m)) rfl ?_
      refine mz_do (R := mz_r114) (as := [.int 4]) (rest := []) (r1 := some (.int 1)) (m1 := m) rfl ⟨?_, rfl⟩ ?_
      · refine mz_go 3 (c' := (4, [some (.int 4)], [.int 6, .int 0, .int 4], m)) rfl ?_
        refine mz_do (R := mz_r121) (as := [.int 4, .int 0, .int 6]) (rest := []) (r1 := some (.int 1)) (m1 := m) rfl ⟨?_, rfl⟩ ?_
        · refine mz_go 8 (c' := (15, [some (.int 4), some (.int 0), some (.int 6)], [.int 1], m)) rfl ?_
          exact mz_ret rfl
        exact mz_ret rfl
      refine mz_go 14 (c' := (11, [some (.int 4), some (.int 5), some (.int 1), some (.int 1)], [.int 1], m)) rfl ?_
      refine mz_do (R := mz_r114) (as := [.int 1]) (rest := []) (r1 := some (.int 1)) (m1 := m) rfl ⟨?_, rfl⟩ ?_
      · refine mz_go 3 (c' := (4, [some (.int 1)], [.int 6, .int 0, .int 1], m)) rfl ?_
        refine mz_do (R := mz_r121) (as := [.int 1, .int 0, .int 6]) (rest := []) (r1 := some (.int 1)) (m1 := m) rfl ⟨?_, rfl⟩ ?_
        · refine mz_go 8 (c' := (15, [some (.int 1), some (.int 0), some (.int 6)], [.int 1], m)) rfl ?_
          exact mz_ret rfl
        exact mz_ret rfl
      refine mz_go 14 (c' := (11, [some (.int 4), some (.int 5), some (.int 0), some (.int 2)], [.int 0], m)) rfl ?_
      refine mz_do (R := mz_r114) (as := [.int 0]) (rest := []) (r1 := some (.int 1)) (m1 := m) rfl ⟨?_, rfl⟩ ?_
      · refine mz_go 3 (c' := (4, [some (.int 0)], [.int 6, .int 0, .int 0], m)) rfl ?_
        refine mz_do (R := mz_r121) (as := [.int 0, .int 0, .int 6]) (rest := []) (r1 := some (.int 1)) (m1 := m) rfl ⟨?_, rfl⟩ ?_
        · refine mz_go 8 (c' := (15, [some (.int 0), some (.int 0), some (.int 6)], [.int 1], m)) rfl ?_
          exact mz_ret rfl
        exact mz_ret rfl
      refine mz_go 14 (c' := (11, [some (.int 4), some (.int 5), some (.int (-1)), some (.int 3)], [.int (-1)], m)) rfl ?_
      refine mz_do (R := mz_r114) (as := [.int (-1)]) (rest := []) (r1 := some (.int 0)) (m1 := m) rfl ⟨?_, rfl⟩ ?_
      · refine mz_go 3 (c' := (4, [some (.int (-1))], [.int 6, .int 0, .int (-1)], m)) rfl ?_
        refine mz_do (R := mz_r121) (as := [.int (-1), .int 0, .int 6]) (rest := []) (r1 := some (.int 0)) (m1 := m) rfl ⟨?_, rfl⟩ ?_
        · refine mz_go 4 (c' := (15, [some (.int (-1)), some (.int 0), some (.int 6)], [.int 0], m)) rfl ?_
          exact mz_ret rfl
        exact mz_ret rfl
      refine mz_go 2 (c' := (37, [some (.int 4), some (.int 5), some (.int (-1)), some (.int 3)], [.int 0], m)) rfl ?_
      exact mz_ret rfl
    · rw [show sm_bI (sm_undr (nI 4) (nI 6)) = 0 from by decide]
      show mz_Me 3 mz_r115 [.int 4, .int 6] m (some (.int 0)) m
      refine ⟨?_, rfl⟩
      refine mz_go 8 (c' := (11, [some (.int 4), some (.int 6), some (.int 4), some (.int 0)], [.int 4], m)) rfl ?_
      refine mz_do (R := mz_r114) (as := [.int 4]) (rest := []) (r1 := some (.int 1)) (m1 := m) rfl ⟨?_, rfl⟩ ?_
      · refine mz_go 3 (c' := (4, [some (.int 4)], [.int 6, .int 0, .int 4], m)) rfl ?_
        refine mz_do (R := mz_r121) (as := [.int 4, .int 0, .int 6]) (rest := []) (r1 := some (.int 1)) (m1 := m) rfl ⟨?_, rfl⟩ ?_
        · refine mz_go 8 (c' := (15, [some (.int 4), some (.int 0), some (.int 6)], [.int 1], m)) rfl ?_
          exact mz_ret rfl
        exact mz_ret rfl
      refine mz_go 14 (c' := (11, [some (.int 4), some (.int 6), some (.int 1), some (.int 1)], [.int 1], m)) rfl ?_
      refine mz_do (R := mz_r114) (as := [.int 1]) (rest := []) (r1 := some (.int 1)) (m1 := m) rfl ⟨?_, rfl⟩ ?_
      · refine mz_go 3 (c' := (4, [some (.int 1)], [.int 6, .int 0, .int 1], m)) rfl ?_
        refine mz_do (R := mz_r121) (as := [.int 1, .int 0, .int 6]) (rest := []) (r1 := some (.int 1)) (m1 := m) rfl ⟨?_, rfl⟩ ?_
        · refine mz_go 8 (c' := (15, [some (.int 1), some (.int 0), some (.int 6)], [.int 1], m)) rfl ?_
          exact mz_ret rfl
        exact mz_ret rfl
      refine mz_go 14 (c' := (11, [some (.int 4), some (.int 6), some (.int 0), some (.int 2)], [.int 0], m)) rfl ?_
      refine mz_do (R := mz_r114) (as := [.int 0]) (rest := []) (r1 := some (.int 1)) (m1 := m) rfl ⟨?_, rfl⟩ ?_
      · refine mz_go 3 (c' := (4, [some (.int 0)], [.int 6, .int 0, .int 0], m)) rfl ?_
        refine mz_do (R := mz_r121) (as := [.int 0, .int 0, .int 6]) (rest := []) (r1 := some (.int 1)) (m1 := m) rfl ⟨?_, rfl⟩ ?_
        · refine mz_go 8 (c' := (15, [some (.int 0), some (.int 0), some (.int 6)], [.int 1], m)) rfl ?_
          exact mz_ret rfl
        exact mz_ret rfl
      refine mz_go 14 (c' := (11, [some (.int 4), some (.int 6), some (.int (-1)), some (.int 3)], [.int (-1)], m)) rfl ?_
      refine mz_do (R := mz_r114) (as := [.int (-1)]) (rest := []) (r1 := some (.int 0)) (m1 := m) rfl ⟨?_, rfl⟩ ?_
      · refine mz_go 3 (c' := (4, [some (.int (-1))], [.int 6, .int 0, .int (-1)], m)) rfl ?_
        refine mz_do (R := mz_r121) (as := [.int (-1), .int 0, .int 6]) (rest := []) (r1 := some (.int 0)) (m1 := m) rfl ⟨?_, rfl⟩ ?_
        · refine mz_go 4 (c' := (15, [some (.int (-1)), some (.int 0), some (.int 6)], [.int 0], m)) rfl ?_
          exact mz_ret rfl
        exact mz_ret rfl
      refine mz_go 2 (c' := (37, [some (.int 4), some (.int 6), some (.int (-1)), some (.int 3)], [.int 0], m)) rfl ?_
      exact mz_ret rfl
  · rcases (show a = 0 ∨ a = 1 ∨ a = 2 ∨ a = 3 ∨ a = 4 ∨ a = 5 ∨ a = 6 by omega) with rfl | rfl | rfl | rfl | rfl | rfl | rfl
    · rw [show sm_bI (sm_undr (nI 5) (nI 0)) = 1 from by decide]
      show mz_Me 3 mz_r115 [.int 5, .int 0] m (some (.int 1)) m
      refine ⟨?_, rfl⟩
      refine mz_go 8 (c' := (11, [some (.int 5), some (.int 0), some (.int 5), some (.int 0)], [.int 5], m)) rfl ?_
      refine mz_do (R := mz_r114) (as := [.int 5]) (rest := []) (r1 := some (.int 1)) (m1 := m) rfl ⟨?_, rfl⟩ ?_
      · refine mz_go 3 (c' := (4, [some (.int 5)], [.int 6, .int 0, .int 5], m)) rfl ?_
        refine mz_do (R := mz_r121) (as := [.int 5, .int 0, .int 6]) (rest := []) (r1 := some (.int 1)) (m1 := m) rfl ⟨?_, rfl⟩ ?_
        · refine mz_go 8 (c' := (15, [some (.int 5), some (.int 0), some (.int 6)], [.int 1], m)) rfl ?_
          exact mz_ret rfl
        exact mz_ret rfl
      refine mz_go 14 (c' := (11, [some (.int 5), some (.int 0), some (.int 3), some (.int 1)], [.int 3], m)) rfl ?_
      refine mz_do (R := mz_r114) (as := [.int 3]) (rest := []) (r1 := some (.int 1)) (m1 := m) rfl ⟨?_, rfl⟩ ?_
      · refine mz_go 3 (c' := (4, [some (.int 3)], [.int 6, .int 0, .int 3], m)) rfl ?_
        refine mz_do (R := mz_r121) (as := [.int 3, .int 0, .int 6]) (rest := []) (r1 := some (.int 1)) (m1 := m) rfl ⟨?_, rfl⟩ ?_
        · refine mz_go 8 (c' := (15, [some (.int 3), some (.int 0), some (.int 6)], [.int 1], m)) rfl ?_
          exact mz_ret rfl
        exact mz_ret rfl
      refine mz_go 14 (c' := (11, [some (.int 5), some (.int 0), some (.int 0), some (.int 2)], [.int 0], m)) rfl ?_
      refine mz_do (R := mz_r114) (as := [.int 0]) (rest := []) (r1 := some (.int 1)) (m1 := m) rfl ⟨?_, rfl⟩ ?_
      · refine mz_go 3 (c' := (4, [some (.int 0)], [.int 6, .int 0, .int 0], m)) rfl ?_
        refine mz_do (R := mz_r121) (as := [.int 0, .int 0, .int 6]) (rest := []) (r1 := some (.int 1)) (m1 := m) rfl ⟨?_, rfl⟩ ?_
        · refine mz_go 8 (c' := (15, [some (.int 0), some (.int 0), some (.int 6)], [.int 1], m)) rfl ?_
          exact mz_ret rfl
        exact mz_ret rfl
      refine mz_go 5 (c' := (23, [some (.int 5), some (.int 0), some (.int 0), some (.int 2)], [.int 1], m)) rfl ?_
      exact mz_ret rfl
    · rw [show sm_bI (sm_undr (nI 5) (nI 1)) = 0 from by decide]
      show mz_Me 3 mz_r115 [.int 5, .int 1] m (some (.int 0)) m
      refine ⟨?_, rfl⟩
      refine mz_go 8 (c' := (11, [some (.int 5), some (.int 1), some (.int 5), some (.int 0)], [.int 5], m)) rfl ?_
      refine mz_do (R := mz_r114) (as := [.int 5]) (rest := []) (r1 := some (.int 1)) (m1 := m) rfl ⟨?_, rfl⟩ ?_
      · refine mz_go 3 (c' := (4, [some (.int 5)], [.int 6, .int 0, .int 5], m)) rfl ?_
        refine mz_do (R := mz_r121) (as := [.int 5, .int 0, .int 6]) (rest := []) (r1 := some (.int 1)) (m1 := m) rfl ⟨?_, rfl⟩ ?_
        · refine mz_go 8 (c' := (15, [some (.int 5), some (.int 0), some (.int 6)], [.int 1], m)) rfl ?_
          exact mz_ret rfl
        exact mz_ret rfl
      refine mz_go 14 (c' := (11, [some (.int 5), some (.int 1), some (.int 3), some (.int 1)], [.int 3], m)) rfl ?_
      refine mz_do (R := mz_r114) (as := [.int 3]) (rest := []) (r1 := some (.int 1)) (m1 := m) rfl ⟨?_, rfl⟩ ?_
      · refine mz_go 3 (c' := (4, [some (.int 3)], [.int 6, .int 0, .int 3], m)) rfl ?_
        refine mz_do (R := mz_r121) (as := [.int 3, .int 0, .int 6]) (rest := []) (r1 := some (.int 1)) (m1 := m) rfl ⟨?_, rfl⟩ ?_
        · refine mz_go 8 (c' := (15, [some (.int 3), some (.int 0), some (.int 6)], [.int 1], m)) rfl ?_
          exact mz_ret rfl
        exact mz_ret rfl
      refine mz_go 14 (c' := (11, [some (.int 5), some (.int 1), some (.int 0), some (.int 2)], [.int 0], m)) rfl ?_
      refine mz_do (R := mz_r114) (as := [.int 0]) (rest := []) (r1 := some (.int 1)) (m1 := m) rfl ⟨?_, rfl⟩ ?_
      · refine mz_go 3 (c' := (4, [some (.int 0)], [.int 6, .int 0, .int 0], m)) rfl ?_
        refine mz_do (R := mz_r121) (as := [.int 0, .int 0, .int 6]) (rest := []) (r1 := some (.int 1)) (m1 := m) rfl ⟨?_, rfl⟩ ?_
        · refine mz_go 8 (c' := (15, [some (.int 0), some (.int 0), some (.int 6)], [.int 1], m)) rfl ?_
          exact mz_ret rfl
        exact mz_ret rfl
      refine mz_go 14 (c' := (11, [some (.int 5), some (.int 1), some (.int (-1)), some (.int 3)], [.int (-1)], m)) rfl ?_
      refine mz_do (R := mz_r114) (as := [.int (-1)]) (rest := []) (r1 := some (.int 0)) (m1 := m) rfl ⟨?_, rfl⟩ ?_
      · refine mz_go 3 (c' := (4, [some (.int (-1))], [.int 6, .int 0, .int (-1)], m)) rfl ?_
        refine mz_do (R := mz_r121) (as := [.int (-1), .int 0, .int 6]) (rest := []) (r1 := some (.int 0)) (m1 := m) rfl ⟨?_, rfl⟩ ?_
        · refine mz_go 4 (c' := (15, [some (.int (-1)), some (.int 0), some (.int 6)], [.int 0], m)) rfl ?_
          exact mz_ret rfl
        exact mz_ret rfl
      refine mz_go 2 (c' := (37, [some (.int 5), some (.int 1), some (.int (-1)), some (.int 3)], [.int 0], m)) rfl ?_
      exact mz_ret rfl
    · rw [show sm_bI (sm_undr (nI 5) (nI 2)) = 0 from by decide]
      show mz_Me 3 mz_r115 [.int 5, .int 2] m (some (.int 0)) m
      refine ⟨?_, rfl⟩
      refine mz_go 8 (c' := (11, [some (.int 5), some (.int 2), some (.int 5), some (.int 0)], [.int 5], m)) rfl ?_
      refine mz_do (R := mz_r114) (as := [.int 5]) (rest := []) (r1 := some (.int 1)) (m1 := m) rfl ⟨?_, rfl⟩ ?_
      · refine mz_go 3 (c' := (4, [some (.int 5)], [.int 6, .int 0, .int 5], m)) rfl ?_
        refine mz_do (R := mz_r121) (as := [.int 5, .int 0, .int 6]) (rest := []) (r1 := some (.int 1)) (m1 := m) rfl ⟨?_, rfl⟩ ?_
        · refine mz_go 8 (c' := (15, [some (.int 5), some (.int 0), some (.int 6)], [.int 1], m)) rfl ?_
          exact mz_ret rfl
        exact mz_ret rfl
      refine mz_go 14 (c' := (11, [some (.int 5), some (.int 2), some (.int 3), some (.int 1)], [.int 3], m)) rfl ?_
      refine mz_do (R := mz_r114) (as := [.int 3]) (rest := []) (r1 := some (.int 1)) (m1 := m) rfl ⟨?_, rfl⟩ ?_
      · refine mz_go 3 (c' := (4, [some (.int 3)], [.int 6, .int 0, .int 3], m)) rfl ?_
        refine mz_do (R := mz_r121) (as := [.int 3, .int 0, .int 6]) (rest := []) (r1 := some (.int 1)) (m1 := m) rfl ⟨?_, rfl⟩ ?_
        · refine mz_go 8 (c' := (15, [some (.int 3), some (.int 0), some (.int 6)], [.int 1], m)) rfl ?_
          exact mz_ret rfl
        exact mz_ret rfl
      refine mz_go 14 (c' := (11, [some (.int 5), some (.int 2), some (.int 0), some (.int 2)], [.int 0], m)) rfl ?_
      refine mz_do (R := mz_r114) (as := [.int 0]) (rest := []) (r1 := some (.int 1)) (m1 := m) rfl ⟨?_, rfl⟩ ?_
      · refine mz_go 3 (c' := (4, [some (.int 0)], [.int 6, .int 0, .int 0], m)) rfl ?_
        refine mz_do (R := mz_r121) (as := [.int 0, .int 0, .int 6]) (rest := []) (r1 := some (.int 1)) (m1 := m) rfl ⟨?_, rfl⟩ ?_
        · refine mz_go 8 (c' := (15, [some (.int 0), some (.int 0), some (.int 6)], [.int 1], m)) rfl ?_
          exact mz_ret rfl
        exact mz_ret rfl
      refine mz_go 14 (c' := (11, [some (.int 5), some (.int 2), some (.int (-1)), some (.int 3)], [.int (-1)], m)) rfl ?_
      refine mz_do (R := mz_r114) (as := [.int (-1)]) (rest := []) (r1 := some (.int 0)) (m1 := m) rfl ⟨?_, rfl⟩ ?_
      · refine mz_go 3 (c' := (4, [some (.int (-1))], [.int 6, .int 0, .int (-1)], m)) rfl ?_
        refine mz_do (R := mz_r121) (as := [.int (-1), .int 0, .int 6]) (rest := []) (r1 := some (.int 0)) (m1 := m) rfl ⟨?_, rfl⟩ ?_
        · refine mz_go 4 (c' := (15, [some (.int (-1)), some (.int 0), some (.int 6)], [.int 0], m)) rfl ?_
          exact mz_ret rfl
        exact mz_ret rfl
      refine mz_go 2 (c' := (37, [some (.int 5), some (.int 2), some (.int (-1)), some (.int 3)], [.int 0], m)) rfl ?_
      exact mz_ret rfl
    · rw [show sm_bI (sm_undr (nI 5) (nI 3)) = 1 from by decide]
      show mz_Me 3 mz_r115 [.int 5, .int 3] m (some (.int 1)) m
      refine ⟨?_, rfl⟩
      refine mz_go 8 (c' := (11, [some (.int 5), some (.int 3), some (.int 5), some (.int 0)], [.int 5], m)) rfl ?_
      refine mz_do (R := mz_r114) (as := [.int 5]) (rest := []) (r1 := some (.int 1)) (m1 := m) rfl ⟨?_, rfl⟩ ?_
      · refine mz_go 3 (c' := (4, [some (.int 5)], [.int 6, .int 0, .int 5], m)) rfl ?_
        refine mz_do (R := mz_r121) (as := [.int 5, .int 0, .int 6]) (rest := []) (r1 := some (.int 1)) (m1 := m) rfl ⟨?_, rfl⟩ ?_
        · refine mz_go 8 (c' := (15, [some (.int 5), some (.int 0), some (.int 6)], [.int 1], m)) rfl ?_
          exact mz_ret rfl
        exact mz_ret rfl
      refine mz_go 14 (c' := (11, [some (.int 5), some (.int 3), some (.int 3), some (.int 1)], [.int 3], m)) rfl ?_
      refine mz_do (R := mz_r114) (as := [.int 3]) (rest := []) (r1 := some (.int 1)) (m1 := m) rfl ⟨?_, rfl⟩ ?_
      · refine mz_go 3 (c' := (4, [some (.int 3)], [.int 6, .int 0, .int 3], m)) rfl ?_
        refine mz_do (R := mz_r121) (as := [.int 3, .int 0, .int 6]) (rest := []) (r1 := some (.int 1)) (m1 := m) rfl ⟨?_, rfl⟩ ?_
        · refine mz_go 8 (c' := (15, [some (.int 3), some (.int 0), some (.int 6)], [.int 1], m)) rfl ?_
          exact mz_ret rfl
        exact mz_ret rfl
      refine mz_go 5 (c' := (23, [some (.int 5), some (.int 3), some (.int 3), some (.int 1)], [.int 1], m)) rfl ?_
      exact mz_ret rfl
    · rw [show sm_bI (sm_undr (nI 5) (nI 4)) = 0 from by decide]
      show mz_Me 3 mz_r115 [.int 5, .int 4] m (some (.int 0)) m
      refine ⟨?_, rfl⟩
      refine mz_go 8 (c' := (11, [some (.int 5), some (.int 4), some (.int 5), some (.int 0)], [.int 5], m)) rfl ?_
      refine mz_do (R := mz_r114) (as := [.int 5]) (rest := []) (r1 := some (.int 1)) (m1 := m) rfl ⟨?_, rfl⟩ ?_
      · refine mz_go 3 (c' := (4, [some (.int 5)], [.int 6, .int 0, .int 5], m)) rfl ?_
        refine mz_do (R := mz_r121) (as := [.int 5, .int 0, .int 6]) (rest := []) (r1 := some (.int 1)) (m1 := m) rfl ⟨?_, rfl⟩ ?_
        · refine mz_go 8 (c' := (15, [some (.int 5), some (.int 0), some (.int 6)], [.int 1], m)) rfl ?_
          exact mz_ret rfl
        exact mz_ret rfl
      refine mz_go 14 (c' := (11, [some (.int 5), some (.int 4), some (.int 3), some (.int 1)], [.int 3], m)) rfl ?_
      refine mz_do (R := mz_r114) (as := [.int 3]) (rest := []) (r1 := some (.int 1)) (m1 := m) rfl ⟨?_, rfl⟩ ?_
      · refine mz_go 3 (c' := (4, [some (.int 3)], [.int 6, .int 0, .int 3], m)) rfl ?_
        refine mz_do (R := mz_r121) (as := [.int 3, .int 0, .int 6]) (rest := []) (r1 := some (.int 1)) (m1 := m) rfl ⟨?_, rfl⟩ ?_
        · refine mz_go 8 (c' := (15, [some (.int 3), some (.int 0), some (.int 6)], [.int 1], m)) rfl ?_
          exact mz_ret rfl
        exact mz_ret rfl
      refine mz_go 14 (c' := (11, [some (.int 5), some (.int 4), some (.int 0), some (.int 2)], [.int 0], m)) rfl ?_
      refine mz_do (R := mz_r114) (as := [.int 0]) (rest := []) (r1 := some (.int 1)) (m1 := m) rfl ⟨?_, rfl⟩ ?_
      · refine mz_go 3 (c' := (4, [some (.int 0)], [.int 6, .int 0, .int 0], m)) rfl ?_
        refine mz_do (R := mz_r121) (as := [.int 0, .int 0, .int 6]) (rest := []) (r1 := some (.int 1)) (m1 := m) rfl ⟨?_, rfl⟩ ?_
        · refine mz_go 8 (c' := (15, [some (.int 0), some (.int 0), some (.int 6)], [.int 1], m)) rfl ?_
          exact mz_ret rfl
        exact mz_ret rfl
      refine mz_go 14 (c' := (11, [some (.int 5), some (.int 4), some (.int (-1)), some (.int 3)], [.int (-1)], m)) rfl ?_
      refine mz_do (R := mz_r114) (as := [.int (-1)]) (rest := []) (r1 := some (.int 0)) (m1 := m) rfl ⟨?_, rfl⟩ ?_
      · refine mz_go 3 (c' := (4, [some (.int (-1))], [.int 6, .int 0, .int (-1)], m)) rfl ?_
        refine mz_do (R := mz_r121) (as := [.int (-1), .int 0, .int 6]) (rest := []) (r1 := some (.int 0)) (m1 := m) rfl ⟨?_, rfl⟩ ?_
        · refine mz_go 4 (c' := (15, [some (.int (-1)), some (.int 0), some (.int 6)], [.int 0], m)) rfl ?_
          exact mz_ret rfl
        exact mz_ret rfl
      refine mz_go 2 (c' := (37, [some (.int 5), some (.int 4), some (.int (-1)), some (.int 3)], [.int 0], m)) rfl ?_
      exact mz_ret rfl
    · rw [show sm_bI (sm_undr (nI 5) (nI 5)) = 1 from by decide]
      show mz_Me 3 mz_r115 [.int 5, .int 5] m (some (.int 1)) m
      refine ⟨?_, rfl⟩
      refine mz_go 8 (c' := (11, [some (.int 5), some (.int 5), some (.int 5), some (.int 0)], [.int 5], m)) rfl ?_
      refine mz_do (R := mz_r114) (as := [.int 5]) (rest := []) (r1 := some (.int 1)) (m1 := m) rfl ⟨?_, rfl⟩ ?_
      · refine mz_go 3 (c' := (4, [some (.int 5)], [.int 6, .int 0, .int 5], m)) rfl ?_
        refine mz_do (R := mz_r121) (as := [.int 5, .int 0, .int 6]) (rest := []) (r1 := some (.int 1)) (m1 := m) rfl ⟨?_, rfl⟩ ?_
        · refine mz_go 8 (c' := (15, [some (.int 5), some (.int 0), some (.int 6)], [.int 1], m)) rfl ?_
          exact mz_ret rfl
        exact mz_ret rfl
      refine mz_go 5 (c' := (23, [some (.int 5), some (.int 5), some (.int 5), some (.int 0)], [.int 1], m)) rfl ?_
      exact mz_ret rfl
    · rw [show sm_bI (sm_undr (nI 5) (nI 6)) = 0 from by decide]
      show mz_Me 3 mz_r115 [.int 5, .int 6] m (some (.int 0)) m
      refine ⟨?_, rfl⟩
      refine mz_go 8 (c' := (11, [some (.int 5), some (.int 6), some (.int 5), some (.int 0)], [.int 5], m)) rfl ?_
      refine mz_do (R := mz_r114) (as := [.int 5]) (rest := []) (r1 := some (.int 1)) (m1 := m) rfl ⟨?_, rfl⟩ ?_
      · refine mz_go 3 (c' := (4, [some (.int 5)], [.int 6, .int 0, .int 5], m)) rfl ?_
        refine mz_do (R := mz_r121) (as := [.int 5, .int 0, .int 6]) (rest := []) (r1 := some (.int 1)) (m1 := m) rfl ⟨?_, rfl⟩ ?_
        · refine mz_go 8 (c' := (15, [some (.int 5), some (.int 0), some (.int 6)], [.int 1], m)) rfl ?_
          exact mz_ret rfl
        exact mz_ret rfl
      refine mz_go 14 (c' := (11, [some (.int 5), some (.int 6), some (.int 3), some (.int 1)], [.int 3], m)) rfl ?_
      refine mz_do (R := mz_r114) (as := [.int 3]) (rest := []) (r1 := some (.int 1)) (m1 := m) rfl ⟨?_, rfl⟩ ?_
      · refine mz_go 3 (c' := (4, [some (.int 3)], [.int 6, .int 0, .int 3], m)) rfl ?_
        refine mz_do (R := mz_r121) (as := [.int 3, .int 0, .int 6]) (rest := []) (r1 := some (.int 1)) (m1 := m) rfl ⟨?_, rfl⟩ ?_
        · refine mz_go 8 (c' := (15, [some (.int 3), some (.int 0), some (.int 6)], [.int 1], m)) rfl ?_
          exact mz_ret rfl
        exact mz_ret rfl
      refine mz_go 14 (c' := (11, [some (.int 5), some (.int 6), some (.int 0), some (.int 2)], [.int 0], m)) rfl ?_
      refine mz_do (R := mz_r114) (as := [.int 0]) (rest := []) (r1 := some (.int 1)) (m1 := m) rfl ⟨?_, rfl⟩ ?_
      · refine mz_go 3 (c' := (4, [some (.int 0)], [.int 6, .int 0, .int 0], m)) rfl ?_
        refine mz_do (R := mz_r121) (as := [.int 0, .int 0, .int 6]) (rest := []) (r1 := some (.int 1)) (m1 := m) rfl ⟨?_, rfl⟩ ?_
        · refine mz_go 8 (c' := (15, [some (.int 0), some (.int 0), some (.int 6)], [.int 1], m)) rfl ?_
          exact mz_ret rfl
        exact mz_ret rfl
      refine mz_go 14 (c' := (11, [some (.int 5), some (.int 6), some (.int (-1)), some (.int 3)], [.int (-1)], m)) rfl ?_
      refine mz_do (R := mz_r114) (as := [.int (-1)]) (rest := []) (r1 := some (.int 0)) (m1 := m) rfl ⟨?_, rfl⟩ ?_
      · refine mz_go 3 (c' := (4, [some (.int (-1))], [.int 6, .int 0, .int (-1)], m)) rfl ?_
        refine mz_do (R := mz_r121) (as := [.int (-1), .int 0, .int 6]) (rest := []) (r1 := some (.int 0)) (m1 := m) rfl ⟨?_, rfl⟩ ?_
        · refine mz_go 4 (c' := (15, [some (.int (-1)), some (.int 0), some (.int 6)], [.int 0], m)) rfl ?_
          exact mz_ret rfl
        exact mz_ret rfl
      refine mz_go 2 (c' := (37, [some (.int 5), some (.int 6), some (.int (-1)), some (.int 3)], [.int 0], m)) rfl ?_
      exact mz_ret rfl
  · rcases (show a = 0 ∨ a = 1 ∨ a = 2 ∨ a = 3 ∨ a = 4 ∨ a = 5 ∨ a = 6 by omega) with rfl | rfl | rfl | rfl | rfl | rfl | rfl
    · rw [show sm_bI (sm_undr (nI 6) (nI 0)) = 1 from by decide]
      show mz_Me 3 mz_r115 [.int 6, .int 0] m (some (.int 1)) m
      refine ⟨?_, rfl⟩
      refine mz_go 8 (c' := (11, [some (.int 6), some (.int 0), some (.int 6), some (.int 0)], [.int 6], m)) rfl ?_
      refine mz_do (R := mz_r114) (as := [.int 6]) (rest := []) (r1 := some (.int 1)) (m1 := m) rfl ⟨?_, rfl⟩ ?_
      · refine mz_go 3 (c' := (4, [some (.int 6)], [.int 6, .int 0, .int 6], m)) rfl ?_
        refine mz_do (R := mz_r121) (as := [.int 6, .int 0, .int 6]) (rest := []) (r1 := some (.int 1)) (m1 := m) rfl ⟨?_, rfl⟩ ?_
        · refine mz_go 8 (c' := (15, [some (.int 6), some (.int 0), some (.int 6)], [.int 1], m)) rfl ?_
          exact mz_ret rfl
        exact mz_ret rfl
      refine mz_go 14 (c' := (11, [some (.int 6), some (.int 0), some (.int 2), some (.int 1)], [.int 2], m)) rfl ?_
      refine mz_do (R := mz_r114) (as := [.int 2]) (rest := []) (r1 := some (.int 1)) (m1 := m) rfl ⟨?_, rfl⟩ ?_
      · refine mz_go 3 (c' := (4, [some (.int 2)], [.int 6, .int 0, .int 2], m)) rfl ?_
        refine mz_do (R := mz_r121) (as := [.int 2, .int 0, .int 6]) (rest := []) (r1 := some (.int 1)) (m1 := m) rfl ⟨?_, rfl⟩ ?_
        · refine mz_go 8 (c' := (15, [some (.int 2), some (.int 0), some (.int 6)], [.int 1], m)) rfl ?_
          exact mz_ret rfl
        exact mz_ret rfl
      refine mz_go 14 (c' := (11, [some (.int 6), some (.int 0), some (.int 0), some (.int 2)], [.int 0], m)) rfl ?_
      refine mz_do (R := mz_r114) (as := [.int 0]) (rest := []) (r1 := some (.int 1)) (m1 := m) rfl ⟨?_, rfl⟩ ?_
      · refine mz_go 3 (c' := (4, [some (.int 0)], [.int 6, .int 0, .int 0], m)) rfl ?_
        refine mz_do (R := mz_r121) (as := [.int 0, .int 0, .int 6]) (rest := []) (r1 := some (.int 1)) (m1 := m) rfl ⟨?_, rfl⟩ ?_
        · refine mz_go 8 (c' := (15, [some (.int 0), some (.int 0), some (.int 6)], [.int 1], m)) rfl ?_
          exact mz_ret rfl
        exact mz_ret rfl
      refine mz_go 5 (c' := (23, [some (.int 6), some (.int 0), some (.int 0), some (.int 2)], [.int 1], m)) rfl ?_
      exact mz_ret rfl
    · rw [show sm_bI (sm_undr (nI 6) (nI 1)) = 0 from by decide]
      show mz_Me 3 mz_r115 [.int 6, .int 1] m (some (.int 0)) m
      refine ⟨?_, rfl⟩
      refine mz_go 8 (c' := (11, [some (.int 6), some (.int 1), some (.int 6), some (.int 0)], [.int 6], m)) rfl ?_
      refine mz_do (R := mz_r114) (as := [.int 6]) (rest := []) (r1 := some (.int 1)) (m1 := m) rfl ⟨?_, rfl⟩ ?_
      · refine mz_go 3 (c' := (4, [some (.int 6)], [.int 6, .int 0, .int 6], m)) rfl ?_
        refine mz_do (R := mz_r121) (as := [.int 6, .int 0, .int 6]) (rest := []) (r1 := some (.int 1)) (m1 := m) rfl ⟨?_, rfl⟩ ?_
        · refine mz_go 8 (c' := (15, [some (.int 6), some (.int 0), some (.int 6)], [.int 1], m)) rfl ?_
          exact mz_ret rfl
        exact mz_ret rfl
      refine mz_go 14 (c' := (11, [some (.int 6), some (.int 1), some (.int 2), some (.int 1)], [.int 2], m)) rfl ?_
      refine mz_do (R := mz_r114) (as := [.int 2]) (rest := []) (r1 := some (.int 1)) (m1 := m) rfl ⟨?_, rfl⟩ ?_
      · refine mz_go 3 (c' := (4, [some (.int 2)], [.int 6, .int 0, .int 2], m)) rfl ?_
        refine mz_do (R := mz_r121) (as := [.int 2, .int 0, .int 6]) (rest := []) (r1 := some (.int 1)) (m1 := m) rfl ⟨?_, rfl⟩ ?_
        · refine mz_go 8 (c' := (15, [some (.int 2), some (.int 0), some (.int 6)], [.int 1], m)) rfl ?_
          exact mz_ret rfl
        exact mz_ret rfl
      refine mz_go 14 (c' := (11, [some (.int 6), some (.int 1), some (.int 0), some (.int 2)], [.int 0], m)) rfl ?_
      refine mz_do (R := mz_r114) (as := [.int 0]) (rest := []) (r1 := some (.int 1)) (m1 := m) rfl ⟨?_, rfl⟩ ?_
      · refine mz_go 3 (c' := (4, [some (.int 0)], [.int 6, .int 0, .int 0], m)) rfl ?_
        refine mz_do (R := mz_r121) (as := [.int 0, .int 0, .int 6]) (rest := []) (r1 := some (.int 1)) (m1 := m) rfl ⟨?_, rfl⟩ ?_
        · refine mz_go 8 (c' := (15, [some (.int 0), some (.int 0), some (.int 6)], [.int 1], m)) rfl ?_
          exact mz_ret rfl
        exact mz_ret rfl
      refine mz_go 14 (c' := (11, [some (.int 6), some (.int 1), some (.int (-1)), some (.int 3)], [.int (-1)], m)) rfl ?_
      refine mz_do (R := mz_r114) (as := [.int (-1)]) (rest := []) (r1 := some (.int 0)) (m1 := m) rfl ⟨?_, rfl⟩ ?_
      · refine mz_go 3 (c' := (4, [some (.int (-1))], [.int 6, .int 0, .int (-1)], m)) rfl ?_
        refine mz_do (R := mz_r121) (as := [.int (-1), .int 0, .int 6]) (rest := []) (r1 := some (.int 0)) (m1 := m) rfl ⟨?_, rfl⟩ ?_
        · refine mz_go 4 (c' := (15, [some (.int (-1)), some (.int 0), some (.int 6)], [.int 0], m)) rfl ?_
          exact mz_ret rfl
        exact mz_ret rfl
      refine mz_go 2 (c' := (37, [some (.int 6), some (.int 1), some (.int (-1)), some (.int 3)], [.int 0], m)) rfl ?_
      exact mz_ret rfl
    · rw [show sm_bI (sm_undr (nI 6) (nI 2)) = 1 from by decide]
      show mz_Me 3 mz_r115 [.int 6, .int 2] m (some (.int 1)) m
      refine ⟨?_, rfl⟩
      refine mz_go 8 (c' := (11, [some (.int 6), some (.int 2), some (.int 6), some (.int 0)], [.int 6], m)) rfl ?_
      refine mz_do (R := mz_r114) (as := [.int 6]) (rest := []) (r1 := some (.int 1)) (m1 := m) rfl ⟨?_, rfl⟩ ?_
      · refine mz_go 3 (c' := (4, [some (.int 6)], [.int 6, .int 0, .int 6], m)) rfl ?_
        refine mz_do (R := mz_r121) (as := [.int 6, .int 0, .int 6]) (rest := []) (r1 := some (.int 1)) (m1 := m) rfl ⟨?_, rfl⟩ ?_
        · refine mz_go 8 (c' := (15, [some (.int 6), some (.int 0), some (.int 6)], [.int 1], m)) rfl ?_
          exact mz_ret rfl
        exact mz_ret rfl
      refine mz_go 14 (c' := (11, [some (.int 6), some (.int 2), some (.int 2), some (.int 1)], [.int 2], m)) rfl ?_
      refine mz_do (R := mz_r114) (as := [.int 2]) (rest := []) (r1 := some (.int 1)) (m1 := m) rfl ⟨?_, rfl⟩ ?_
      · refine mz_go 3 (c' := (4, [some (.int 2)], [.int 6, .int 0, .int 2], m)) rfl ?_
        refine mz_do (R := mz_r121) (as := [.int 2, .int 0, .int 6]) (rest := []) (r1 := some (.int 1)) (m1 := m) rfl ⟨?_, rfl⟩ ?_
        · refine mz_go 8 (c' := (15, [some (.int 2), some (.int 0), some (.int 6)], [.int 1], m)) rfl ?_
          exact mz_ret rfl
        exact mz_ret rfl
      refine mz_go 5 (c' := (23, [some (.int 6), some (.int 2), some (.int 2), some (.int 1)], [.int 1], m)) rfl ?_
      exact mz_ret rfl
    · rw [show sm_bI (sm_undr (nI 6) (nI 3)) = 0 from by decide]
      show mz_Me 3 mz_r115 [.int 6, .int 3] m (some (.int 0)) m
      refine ⟨?_, rfl⟩
      refine mz_go 8 (c' := (11, [some (.int 6), some (.int 3), some (.int 6), some (.int 0)], [.int 6], m)) rfl ?_
      refine mz_do (R := mz_r114) (as := [.int 6]) (rest := []) (r1 := some (.int 1)) (m1 := m) rfl ⟨?_, rfl⟩ ?_
      · refine mz_go 3 (c' := (4, [some (.int 6)], [.int 6, .int 0, .int 6], m)) rfl ?_
        refine mz_do (R := mz_r121) (as := [.int 6, .int 0, .int 6]) (rest := []) (r1 := some (.int 1)) (m1 := m) rfl ⟨?_, rfl⟩ ?_
        · refine mz_go 8 (c' := (15, [some (.int 6), some (.int 0), some (.int 6)], [.int 1], m)) rfl ?_
          exact mz_ret rfl
        exact mz_ret rfl
      refine mz_go 14 (c' := (11, [some (.int 6), some (.int 3), some (.int 2), some (.int 1)], [.int 2], m)) rfl ?_
      refine mz_do (R := mz_r114) (as := [.int 2]) (rest := []) (r1 := some (.int 1)) (m1 := m) rfl ⟨?_, rfl⟩ ?_
      · refine mz_go 3 (c' := (4, [some (.int 2)], [.int 6, .int 0, .int 2], m)) rfl ?_
        refine mz_do (R := mz_r121) (as := [.int 2, .int 0, .int 6]) (rest := []) (r1 := some (.int 1)) (m1 := m) rfl ⟨?_, rfl⟩ ?_
        · refine mz_go 8 (c' := (15, [some (.int 2), some (.int 0), some (.int 6)], [.int 1], m)) rfl ?_
          exact mz_ret rfl
        exact mz_ret rfl
      refine mz_go 14 (c' := (11, [some (.int 6), some (.int 3), some (.int 0), some (.int 2)], [.int 0], m)) rfl ?_
      refine mz_do (R := mz_r114) (as := [.int 0]) (rest := []) (r1 := some (.int 1)) (m1 := m) rfl ⟨?_, rfl⟩ ?_
      · refine mz_go 3 (c' := (4, [some (.int 0)], [.int 6, .int 0, .int 0], m)) rfl ?_
        refine mz_do (R := mz_r121) (as := [.int 0, .int 0, .int 6]) (rest := []) (r1 := some (.int 1)) (m1 := m) rfl ⟨?_, rfl⟩ ?_
        · refine mz_go 8 (c' := (15, [some (.int 0), some (.int 0), some (.int 6)], [.int 1], m)) rfl ?_
          exact mz_ret rfl
        exact mz_ret rfl
      refine mz_go 14 (c' := (11, [some (.int 6), some (.int 3), some (.int (-1)), some (.int 3)], [.int (-1)], m)) rfl ?_
      refine mz_do (R := mz_r114) (as := [.int (-1)]) (rest := []) (r1 := some (.int 0)) (m1 := m) rfl ⟨?_, rfl⟩ ?_
      · refine mz_go 3 (c' := (4, [some (.int (-1))], [.int 6, .int 0, .int (-1)], m)) rfl ?_
        refine mz_do (R := mz_r121) (as := [.int (-1), .int 0, .int 6]) (rest := []) (r1 := some (.int 0)) (m1 := m) rfl ⟨?_, rfl⟩ ?_
        · refine mz_go 4 (c' := (15, [some (.int (-1)), some (.int 0), some (.int 6)], [.int 0], m)) rfl ?_
          exact mz_ret rfl
        exact mz_ret rfl
      refine mz_go 2 (c' := (37, [some (.int 6), some (.int 3), some (.int (-1)), some (.int 3)], [.int 0], m)) rfl ?_
      exact mz_ret rfl
    · rw [show sm_bI (sm_undr (nI 6) (nI 4)) = 0 from by decide]
      show mz_Me 3 mz_r115 [.int 6, .int 4] m (some (.int 0)) m
      refine ⟨?_, rfl⟩
      refine mz_go 8 (c' := (11, [some (.int 6), some (.int 4), some (.int 6), some (.int 0)], [.int 6], m)) rfl ?_
      refine mz_do (R := mz_r114) (as := [.int 6]) (rest := []) (r1 := some (.int 1)) (m1 := m) rfl ⟨?_, rfl⟩ ?_
      · refine mz_go 3 (c' := (4, [some (.int 6)], [.int 6, .int 0, .int 6], m)) rfl ?_
        refine mz_do (R := mz_r121) (as := [.int 6, .int 0, .int 6]) (rest := []) (r1 := some (.int 1)) (m1 := m) rfl ⟨?_, rfl⟩ ?_
        · refine mz_go 8 (c' := (15, [some (.int 6), some (.int 0), some (.int 6)], [.int 1], m)) rfl ?_
          exact mz_ret rfl
        exact mz_ret rfl
      refine mz_go 14 (c' := (11, [some (.int 6), some (.int 4), some (.int 2), some (.int 1)], [.int 2], m)) rfl ?_
      refine mz_do (R := mz_r114) (as := [.int 2]) (rest := []) (r1 := some (.int 1)) (m1 := m) rfl ⟨?_, rfl⟩ ?_
      · refine mz_go 3 (c' := (4, [some (.int 2)], [.int 6, .int 0, .int 2], m)) rfl ?_
        refine mz_do (R := mz_r121) (as := [.int 2, .int 0, .int 6]) (rest := []) (r1 := some (.int 1)) (m1 := m) rfl ⟨?_, rfl⟩ ?_
        · refine mz_go 8 (c' := (15, [some (.int 2), some (.int 0), some (.int 6)], [.int 1], m)) rfl ?_
          exact mz_ret rfl
        exact mz_ret rfl
      refine mz_go 14 (c' := (11, [some (.int 6), some (.int 4), some (.int 0), some (.int 2)], [.int 0], m)) rfl ?_
      refine mz_do (R := mz_r114) (as := [.int 0]) (rest := []) (r1 := some (.int 1)) (m1 := m) rfl ⟨?_, rfl⟩ ?_
      · refine mz_go 3 (c' := (4, [some (.int 0)], [.int 6, .int 0, .int 0], m)) rfl ?_
        refine mz_do (R := mz_r121) (as := [.int 0, .int 0, .int 6]) (rest := []) (r1 := some (.int 1)) (m1 := m) rfl ⟨?_, rfl⟩ ?_
        · refine mz_go 8 (c' := (15, [some (.int 0), some (.int 0), some (.int 6)], [.int 1], m)) rfl ?_
          exact mz_ret rfl
        exact mz_ret rfl
      refine mz_go 14 (c' := (11, [some (.int 6), some (.int 4), some (.int (-1)), some (.int 3)], [.int (-1)], m)) rfl ?_
      refine mz_do (R := mz_r114) (as := [.int (-1)]) (rest := []) (r1 := some (.int 0)) (m1 := m) rfl ⟨?_, rfl⟩ ?_
      · refine mz_go 3 (c' := (4, [some (.int (-1))], [.int 6, .int 0, .int (-1)], m)) rfl ?_
        refine mz_do (R := mz_r121) (as := [.int (-1), .int 0, .int 6]) (rest := []) (r1 := some (.int 0)) (m1 := m) rfl ⟨?_, rfl⟩ ?_
        · refine mz_go 4 (c' := (15, [some (.int (-1)), some (.int 0), some (.int 6)], [.int 0], m)) rfl ?_
          exact mz_ret rfl
        exact mz_ret rfl
      refine mz_go 2 (c' := (37, [some (.int 6), some (.int 4), some (.int (-1)), some (.int 3)], [.int 0], m)) rfl ?_
      exact mz_ret rfl
    · rw [show sm_bI (sm_undr (nI 6) (nI 5)) = 0 from by decide]
      show mz_Me 3 mz_r115 [.int 6, .int 5] m (some (.int 0)) m
      refine ⟨?_, rfl⟩
      refine mz_go 8 (c' := (11, [some (.int 6), some (.int 5), some (.int 6), some (.int 0)], [.int 6], m)) rfl ?_
      refine mz_do (R := mz_r114) (as := [.int 6]) (rest := []) (r1 := some (.int 1)) (m1 := m) rfl ⟨?_, rfl⟩ ?_
      · refine mz_go 3 (c' := (4, [some (.int 6)], [.int 6, .int 0, .int 6], m)) rfl ?_
        refine mz_do (R := mz_r121) (as := [.int 6, .int 0, .int 6]) (rest := []) (r1 := some (.int 1)) (m1 := m) rfl ⟨?_, rfl⟩ ?_
        · refine mz_go 8 (c' := (15, [some (.int 6), some (.int 0), some (.int 6)], [.int 1], m)) rfl ?_
          exact mz_ret rfl
        exact mz_ret rfl
      refine mz_go 14 (c' := (11, [some (.int 6), some (.int 5), some (.int 2), some (.int 1)], [.int 2], m)) rfl ?_
      refine mz_do (R := mz_r114) (as := [.int 2]) (rest := []) (r1 := some (.int 1)) (m1 := m) rfl ⟨?_, rfl⟩ ?_
      · refine mz_go 3 (c' := (4, [some (.int 2)], [.int 6, .int 0, .int 2], m)) rfl ?_
        refine mz_do (R := mz_r121) (as := [.int 2, .int 0, .int 6]) (rest := []) (r1 := some (.int 1)) (m1 := m) rfl ⟨?_, rfl⟩ ?_
        · refine mz_go 8 (c' := (15, [some (.int 2), some (.int 0), some (.int 6)], [.int 1], m)) rfl ?_
          exact mz_ret rfl
        exact mz_ret rfl
      refine mz_go 14 (c' := (11, [some (.int 6), some (.int 5), some (.int 0), some (.int 2)], [.int 0], m)) rfl ?_
      refine mz_do (R := mz_r114) (as := [.int 0]) (rest := []) (r1 := some (.int 1)) (m1 := m) rfl ⟨?_, rfl⟩ ?_
      · refine mz_go 3 (c' := (4, [some (.int 0)], [.int 6, .int 0, .int 0], m)) rfl ?_
        refine mz_do (R := mz_r121) (as := [.int 0, .int 0, .int 6]) (rest := []) (r1 := some (.int 1)) (m1 := m) rfl ⟨?_, rfl⟩ ?_
        · refine mz_go 8 (c' := (15, [some (.int 0), some (.int 0), some (.int 6)], [.int 1], m)) rfl ?_
          exact mz_ret rfl
        exact mz_ret rfl
      refine mz_go 14 (c' := (11, [some (.int 6), some (.int 5), some (.int (-1)), some (.int 3)], [.int (-1)], m)) rfl ?_
      refine mz_do (R := mz_r114) (as := [.int (-1)]) (rest := []) (r1 := some (.int 0)) (m1 := m) rfl ⟨?_, rfl⟩ ?_
      · refine mz_go 3 (c' := (4, [some (.int (-1))], [.int 6, .int 0, .int (-1)], m)) rfl ?_
        refine mz_do (R := mz_r121) (as := [.int (-1), .int 0, .int 6]) (rest := []) (r1 := some (.int 0)) (m1 := m) rfl ⟨?_, rfl⟩ ?_
        · refine mz_go 4 (c' := (15, [some (.int (-1)), some (.int 0), some (.int 6)], [.int 0], m)) rfl ?_
          exact mz_ret rfl
        exact mz_ret rfl
      refine mz_go 2 (c' := (37, [some (.int 6), some (.int 5), some (.int (-1)), some (.int 3)], [.int 0], m)) rfl ?_
      exact mz_ret rfl
    · rw [show sm_bI (sm_undr (nI 6) (nI 6)) = 1 from by decide]
      show mz_Me 3 mz_r115 [.int 6, .int 6] m (some (.int 1)) m
      refine ⟨?_, rfl⟩
      refine mz_go 8 (c' := (11, [some (.int 6), some (.int 6), some (.int 6), some (.int 0)], [.int 6], m)) rfl ?_
      refine mz_do (R := mz_r114) (as := [.int 6]) (rest := []) (r1 := some (.int 1)) (m1 := m) rfl ⟨?_, rfl⟩ ?_
      · refine mz_go 3 (c' := (4, [some (.int 6)], [.int 6, .int 0, .int 6], m)) rfl ?_
        refine mz_do (R := mz_r121) (as := [.int 6, .int 0, .int 6]) (rest := []) (r1 := some (.int 1)) (m1 := m) rfl ⟨?_, rfl⟩ ?_
        · refine mz_go 8 (c' := (15, [some (.int 6), some (.int 0), some (.int 6)], [.int 1], m)) rfl ?_
          exact mz_ret rfl
        exact mz_ret rfl
      refine mz_go 5 (c' := (23, [some (.int 6), some (.int 6), some (.int 6), some (.int 0)], [.int 1], m)) rfl ?_
      exact mz_ret rfl
set_option maxHeartbeats 4000000 in
set_option maxRecDepth 100000 in
theorem ct_undr {m : mz_M} {k : Int32} (hk : sm_N 6 k) {a : Nat} (ha : a ≤ 6) : mz_Me 3 mz_r134 [.int k, .int (nI a)] m (some (.int (sm_bI (sm_undr k (nI a))))) m := by
  obtain ⟨k, hk, rfl⟩ := sm_Nof (by decide) hk
  rcases (show k = 0 ∨ k = 1 ∨ k = 2 ∨ k = 3 ∨ k = 4 ∨ k = 5 ∨ k = 6 by omega) with rfl | rfl | rfl | rfl | rfl | rfl | rfl
  · rcases (show a = 0 ∨ a = 1 ∨ a = 2 ∨ a = 3 ∨ a = 4 ∨ a = 5 ∨ a = 6 by omega) with rfl | rfl | rfl | rfl | rfl | rfl | rfl
    · rw [show sm_bI (sm_undr (nI 0) (nI 0)) = 1 from by decide]
      show mz_Me 3 mz_r134 [.int 0, .int 0] m (some (.int 1)) m
      refine ⟨?_, rfl⟩
      refine mz_go 4 (c' := (45, [some (.int 0), some (.int 0)], [.int 1], m)) rfl ?_
      exact mz_ret rfl
    · rw [show sm_bI (sm_undr (nI 0) (nI 1)) = 0 from by decide]
      show mz_Me 3 mz_r134 [.int 0, .int 1] m (some (.int 0)) m
      refine ⟨?_, rfl⟩
      refine mz_go 18 (c' := (45, [some (.int 0), some (.int 1)], [.int 0], m)) rfl ?_
      exact mz_ret rfl
    · rw [show sm_bI (sm_undr (nI 0) (nI 2)) = 0 from by decide]
      show mz_Me 3 mz_r134 [.int 0, .int 2] m (some (.int 0)) m
      refine ⟨?_, rfl⟩
      refine mz_go 18 (c' := (45, [some (.int 0), some (.int 2)], [.int 0], m)) rfl ?_
      exact mz_ret rfl
    · rw [show sm_bI (sm_undr (nI 0) (nI 3)) = 0 from by decide]
      show mz_Me 3 mz_r134 [.int 0, .int 3] m (some (.int 0)) m
      refine ⟨?_, rfl⟩
      refine mz_go 18 (c' := (45, [some (.int 0), some (.int 3)], [.int 0], m)) rfl ?_
      exact mz_ret rfl
    · rw [show sm_bI (sm_undr (nI 0) (nI 4)) = 0 from by decide]
      show mz_Me 3 mz_r134 [.int 0, .int 4] m (some (.int 0)) m
      refine ⟨?_, rfl⟩
      refine mz_go 15 (c' := (45, [some (.int 0), some (.int 4)], [.int 0], m)) rfl ?_
      exact mz_ret rfl
    · rw [show sm_bI (sm_undr (nI 0) (nI 5)) = 0 from by decide]
      show mz_Me 3 mz_r134 [.int 0, .int 5] m (some (.int 0)) m
      refine ⟨?_, rfl⟩
      refine mz_go 15 (c' := (45, [some (.int 0), some (.int 5)], [.int 0], m)) rfl ?_
      exact mz_ret rfl
    · rw [show sm_bI (sm_undr (nI 0) (nI 6)) = 0 from by decide]
      show mz_Me 3 mz_r134 [.int 0, .int 6] m (some (.int 0)) m
      refine ⟨?_, rfl⟩
      refine mz_go 15 (c' := (45, [some (.int 0), some (.int 6)], [.int 0], m)) rfl ?_
      exact mz_ret rfl
  · rcases (show a = 0 ∨ a = 1 ∨ a = 2 ∨ a = 3 ∨ a = 4 ∨ a = 5 ∨ a = 6 by omega) with rfl | rfl | rfl | rfl | rfl | rfl | rfl
    · rw [show sm_bI (sm_undr (nI 1) (nI 0)) = 1 from by decide]
      show mz_Me 3 mz_r134 [.int 1, .int 0] m (some (.int 1)) m
      refine ⟨?_, rfl⟩
      refine mz_go 4 (c' := (45, [some (.int 1), some (.int 0)], [.int 1], m)) rfl ?_
      exact mz_ret rfl
    · rw [show sm_bI (sm_undr (nI 1) (nI 1)) = 1 from by decide]
      show mz_Me 3 mz_r134 [.int 1, .int 1] m (some (.int 1)) m
      refine ⟨?_, rfl⟩
      refine mz_go 7 (c' := (45, [some (.int 1), some (.int 1)], [.int 1], m)) rfl ?_
      exact mz_ret rfl
    · rw [show sm_bI (sm_undr (nI 1) (nI 2)) = 0 from by decide]
      show mz_Me 3 mz_r134 [.int 1, .int 2] m (some (.int 0)) m
      refine ⟨?_, rfl⟩
      refine mz_go 18 (c' := (45, [some (.int 1), some (.int 2)], [.int 0], m)) rfl ?_
      exact mz_ret rfl
    · rw [show sm_bI (sm_undr (nI 1) (nI 3)) = 0 from by decide]
      show mz_Me 3 mz_r134 [.int 1, .int 3] m (some (.int 0)) m
      refine ⟨?_, rfl⟩
      refine mz_go 18 (c' := (45, [some (.int 1), some (.int 3)], [.int 0], m)) rfl ?_
      exact mz_ret rfl
    · rw [show sm_bI (sm_undr (nI 1) (nI 4)) = 0 from by decide]
      show mz_Me 3 mz_r134 [.int 1, .int 4] m (some (.int 0)) m
      refine ⟨?_, rfl⟩
      refine mz_go 15 (c' := (45, [some (.int 1), some (.int 4)], [.int 0], m)) rfl ?_
      exact mz_ret rfl
    · rw [show sm_bI (sm_undr (nI 1) (nI 5)) = 0 from by decide]
      show mz_Me 3 mz_r134 [.int 1, .int 5] m (some (.int 0)) m
      refine ⟨?_, rfl⟩
      refine mz_go 15 (c' := (45, [some (.int 1), some (.int 5)], [.int 0], m)) rfl ?_
      exact mz_ret rfl
    · rw [show sm_bI (sm_undr (nI 1) (nI 6)) = 0 from by decide]
      show mz_Me 3 mz_r134 [.int 1, .int 6] m (some (.int 0)) m
      refine ⟨?_, rfl⟩
      refine mz_go 15 (c' := (45, [some (.int 1), some (.int 6)], [.int 0], m)) rfl ?_
      exact mz_ret rfl
  · rcases (show a = 0 ∨ a = 1 ∨ a = 2 ∨ a = 3 ∨ a = 4 ∨ a = 5 ∨ a = 6 by omega) with rfl | rfl | rfl | rfl | rfl | rfl | rfl
    · rw [show sm_bI (sm_undr (nI 2) (nI 0)) = 1 from by decide]
      show mz_Me 3 mz_r134 [.int 2, .int 0] m (some (.int 1)) m
      refine ⟨?_, rfl⟩
      refine mz_go 4 (c' := (45, [some (.int 2), some (.int 0)], [.int 1], m)) rfl ?_
      exact mz_ret rfl
    · rw [show sm_bI (sm_undr (nI 2) (nI 1)) = 0 from by decide]
      show mz_Me 3 mz_r134 [.int 2, .int 1] m (some (.int 0)) m
      refine ⟨?_, rfl⟩
      refine mz_go 18 (c' := (45, [some (.int 2), some (.int 1)], [.int 0], m)) rfl ?_
      exact mz_ret rfl
    · rw [show sm_bI (sm_undr (nI 2) (nI 2)) = 1 from by decide]
      show mz_Me 3 mz_r134 [.int 2, .int 2] m (some (.int 1)) m
      refine ⟨?_, rfl⟩
      refine mz_go 7 (c' := (45, [some (.int 2), some (.int 2)], [.int 1], m)) rfl ?_
      exact mz_ret rfl
    · rw [show sm_bI (sm_undr (nI 2) (nI 3)) = 0 from by decide]
      show mz_Me 3 mz_r134 [.int 2, .int 3] m (some (.int 0)) m
      refine ⟨?_, rfl⟩
      refine mz_go 18 (c' := (45, [some (.int 2), some (.int 3)], [.int 0], m)) rfl ?_
      exact mz_ret rfl
    · rw [show sm_bI (sm_undr (nI 2) (nI 4)) = 0 from by decide]
      show mz_Me 3 mz_r134 [.int 2, .int 4] m (some (.int 0)) m
      refine ⟨?_, rfl⟩
      refine mz_go 15 (c' := (45, [some (.int 2), some (.int 4)], [.int 0], m)) rfl ?_
      exact mz_ret rfl
    · rw [show sm_bI (sm_undr (nI 2) (nI 5)) = 0 from by decide]
      show mz_Me 3 mz_r134 [.int 2, .int 5] m (some (.int 0)) m
      refine ⟨?_, rfl⟩
      refine mz_go 15 (c' := (45, [some (.int 2), some (.int 5)], [.int 0], m)) rfl ?_
      exact mz_ret rfl
    · rw [show sm_bI (sm_undr (nI 2) (nI 6)) = 0 from by decide]
      show mz_Me 3 mz_r134 [.int 2, .int 6] m (some (.int 0)) m
      refine ⟨?_, rfl⟩
      refine mz_go 15 (c' := (45, [some (.int 2), some (.int 6)], [.int 0], m)) rfl ?_
      exact mz_ret rfl
  · rcases (show a = 0 ∨ a = 1 ∨ a = 2 ∨ a = 3 ∨ a = 4 ∨ a = 5 ∨ a = 6 by omega) with rfl | rfl | rfl | rfl | rfl | rfl | rfl
    · rw [show sm_bI (sm_undr (nI 3) (nI 0)) = 1 from by decide]
      show mz_Me 3 mz_r134 [.int 3, .int 0] m (some (.int 1)) m
      refine ⟨?_, rfl⟩
      refine mz_go 4 (c' := (45, [some (.int 3), some (.int 0)], [.int 1], m)) rfl ?_
      exact mz_ret rfl
    · rw [show sm_bI (sm_undr (nI 3) (nI 1)) = 0 from by decide]
      show mz_Me 3 mz_r134 [.int 3, .int 1] m (some (.int 0)) m
      refine ⟨?_, rfl⟩
      refine mz_go 18 (c' := (45, [some (.int 3), some (.int 1)], [.int 0], m)) rfl ?_
      exact mz_ret rfl
    · rw [show sm_bI (sm_undr (nI 3) (nI 2)) = 0 from by decide]
      show mz_Me 3 mz_r134 [.int 3, .int 2] m (some (.int 0)) m
      refine ⟨?_, rfl⟩
      refine mz_go 18 (c' := (45, [some (.int 3), some (.int 2)], [.int 0], m)) rfl ?_
      exact mz_ret rfl
    · rw [show sm_bI (sm_undr (nI 3) (nI 3)) = 1 from by decide]
      show mz_Me 3 mz_r134 [.int 3, .int 3] m (some (.int 1)) m
      refine ⟨?_, rfl⟩
      refine mz_go 7 (c' := (45, [some (.int 3), some (.int 3)], [.int 1], m)) rfl ?_
      exact mz_ret rfl
    · rw [show sm_bI (sm_undr (nI 3) (nI 4)) = 0 from by decide]
      show mz_Me 3 mz_r134 [.int 3, .int 4] m (some (.int 0)) m
      refine ⟨?_, rfl⟩
      refine mz_go 15 (c' := (45, [some (.int 3), some (.int 4)], [.int 0], m)) rfl ?_
      exact mz_ret rfl
    · rw [show sm_bI (sm_undr (nI 3) (nI 5)) = 0 from by decide]
      show mz_Me 3 mz_r134 [.int 3, .int 5] m (some (.int 0)) m
      refine ⟨?_, rfl⟩
      refine mz_go 15 (c' := (45, [some (.int 3), some (.int 5)], [.int 0], m)) rfl ?_
      exact mz_ret rfl
    · rw [show sm_bI (sm_undr (nI 3) (nI 6)) = 0 from by decide]
      show mz_Me 3 mz_r134 [.int 3, .int 6] m (some (.int 0)) m
      refine ⟨?_, rfl⟩
      refine mz_go 15 (c' := (45, [some (.int 3), some (.int 6)], [.int 0], m)) rfl ?_
      exact mz_ret rfl
  · rcases (show a = 0 ∨ a = 1 ∨ a = 2 ∨ a = 3 ∨ a = 4 ∨ a = 5 ∨ a = 6 by omega) with rfl | rfl | rfl | rfl | rfl | rfl | rfl
    · rw [show sm_bI (sm_undr (nI 4) (nI 0)) = 1 from by decide]
      show mz_Me 3 mz_r134 [.int 4, .int 0] m (some (.int 1)) m
      refine ⟨?_, rfl⟩
      refine mz_go 4 (c' := (45, [some (.int 4), some (.int 0)], [.int 1], m)) rfl ?_
      exact mz_ret rfl
    · rw [show sm_bI (sm_undr (nI 4) (nI 1)) = 1 from by decide]
      show mz_Me 3 mz_r134 [.int 4, .int 1] m (some (.int 1)) m
      refine ⟨?_, rfl⟩
      refine mz_go 13 (c' := (45, [some (.int 4), some (.int 1)], [.int 1], m)) rfl ?_
      exact mz_ret rfl
    · rw [show sm_bI (sm_undr (nI 4) (nI 2)) = 0 from by decide]
      show mz_Me 3 mz_r134 [.int 4, .int 2] m (some (.int 0)) m
      refine ⟨?_, rfl⟩
      refine mz_go 18 (c' := (45, [some (.int 4), some (.int 2)], [.int 0], m)) rfl ?_
      exact mz_ret rfl
    · rw [show sm_bI (sm_undr (nI 4) (nI 3)) = 0 from by decide]
      show mz_Me 3 mz_r134 [.int 4, .int 3] m (some (.int 0)) m
      refine ⟨?_, rfl⟩
      refine mz_go 18 (c' := (45, [some (.int 4), some (.int 3)], [.int 0], m)) rfl ?_
      exact mz_ret rfl
    · rw [show sm_bI (sm_undr (nI 4) (nI 4)) = 1 from by decide]
      show mz_Me 3 mz_r134 [.int 4, .int 4] m (some (.int 1)) m
      refine ⟨?_, rfl⟩
      refine mz_go 7 (c' := (45, [some (.int 4), some (.int 4)], [.int 1], m)) rfl ?_
      exact mz_ret rfl
    · rw [show sm_bI (sm_undr (nI 4) (nI 5)) = 0 from by decide]
      show mz_Me 3 mz_r134 [.int 4, .int 5] m (some (.int 0)) m
      refine ⟨?_, rfl⟩
      refine mz_go 15 (c' := (45, [some (.int 4), some (.int 5)], [.int 0], m)) rfl ?_
      exact mz_ret rfl
    · rw [show sm_bI (sm_undr (nI 4) (nI 6)) = 0 from by decide]
      show mz_Me 3 mz_r134 [.int 4, .int 6] m (some (.int 0)) m
      refine ⟨?_, rfl⟩
      refine mz_go 15 (c' := (45, [some (.int 4), some (.int 6)], [.int 0], m)) rfl ?_
      exact mz_ret rfl
  · rcases (show a = 0 ∨ a = 1 ∨ a = 2 ∨ a = 3 ∨ a = 4 ∨ a = 5 ∨ a = 6 by omega) with rfl | rfl | rfl | rfl | rfl | rfl | rfl
    · rw [show sm_bI (sm_undr (nI 5) (nI 0)) = 1 from by decide]
      show mz_Me 3 mz_r134 [.int 5, .int 0] m (some (.int 1)) m
      refine ⟨?_, rfl⟩
      refine mz_go 4 (c' := (45, [some (.int 5), some (.int 0)], [.int 1], m)) rfl ?_
      exact mz_ret rfl
    · rw [show sm_bI (sm_undr (nI 5) (nI 1)) = 0 from by decide]
      show mz_Me 3 mz_r134 [.int 5, .int 1] m (some (.int 0)) m
      refine ⟨?_, rfl⟩
      refine mz_go 18 (c' := (45, [some (.int 5), some (.int 1)], [.int 0], m)) rfl ?_
      exact mz_ret rfl
    · rw [show sm_bI (sm_undr (nI 5) (nI 2)) = 0 from by decide]
      show mz_Me 3 mz_r134 [.int 5, .int 2] m (some (.int 0)) m
      refine ⟨?_, rfl⟩
      refine mz_go 18 (c' := (45, [some (.int 5), some (.int 2)], [.int 0], m)) rfl ?_
      exact mz_ret rfl
    · rw [show sm_bI (sm_undr (nI 5) (nI 3)) = 1 from by decide]
      show mz_Me 3 mz_r134 [.int 5, .int 3] m (some (.int 1)) m
      refine ⟨?_, rfl⟩
      refine mz_go 19 (c' := (45, [some (.int 5), some (.int 3)], [.int 1], m)) rfl ?_
      exact mz_ret rfl
    · rw [show sm_bI (sm_undr (nI 5) (nI 4)) = 0 from by decide]
      show mz_Me 3 mz_r134 [.int 5, .int 4] m (some (.int 0)) m
      refine ⟨?_, rfl⟩
      refine mz_go 15 (c' := (45, [some (.int 5), some (.int 4)], [.int 0], m)) rfl ?_
      exact mz_ret rfl
    · rw [show sm_bI (sm_undr (nI 5) (nI 5)) = 1 from by decide]
      show mz_Me 3 mz_r134 [.int 5, .int 5] m (some (.int 1)) m
      refine ⟨?_, rfl⟩
      refine mz_go 7 (c' := (45, [some (.int 5), some (.int 5)], [.int 1], m)) rfl ?_
      exact mz_ret rfl
    · rw [show sm_bI (sm_undr (nI 5) (nI 6)) = 0 from by decide]
      show mz_Me 3 mz_r134 [.int 5, .int 6] m (some (.int 0)) m
      refine ⟨?_, rfl⟩
      refine mz_go 15 (c' := (45, [some (.int 5), some (.int 6)], [.int 0], m)) rfl ?_
      exact mz_ret rfl
  · rcases (show a = 0 ∨ a = 1 ∨ a = 2 ∨ a = 3 ∨ a = 4 ∨ a = 5 ∨ a = 6 by omega) with rfl | rfl | rfl | rfl | rfl | rfl | rfl
    · rw [show sm_bI (sm_undr (nI 6) (nI 0)) = 1 from by decide]
      show mz_Me 3 mz_r134 [.int 6, .int 0] m (some (.int 1)) m
      refine ⟨?_, rfl⟩
      refine mz_go 4 (c' := (45, [some (.int 6), some (.int 0)], [.int 1], m)) rfl ?_
      exact mz_ret rfl
    · rw [show sm_bI (sm_undr (nI 6) (nI 1)) = 0 from by decide]
      show mz_Me 3 mz_r134 [.int 6, .int 1] m (some (.int 0)) m
      refine ⟨?_, rfl⟩
      refine mz_go 18 (c' := (45, [some (.int 6), some (.int 1)], [.int 0], m)) rfl ?_
      exact mz_ret rfl
    · rw [show sm_bI (sm_undr (nI 6) (nI 2)) = 1 from by decide]
      show mz_Me 3 mz_r134 [.int 6, .int 2] m (some (.int 1)) m
      refine ⟨?_, rfl⟩
      refine mz_go 16 (c' := (45, [some (.int 6), some (.int 2)], [.int 1], m)) rfl ?_
      exact mz_ret rfl
    · rw [show sm_bI (sm_undr (nI 6) (nI 3)) = 0 from by decide]
      show mz_Me 3 mz_r134 [.int 6, .int 3] m (some (.int 0)) m
      refine ⟨?_, rfl⟩
      refine mz_go 18 (c' := (45, [some (.int 6), some (.int 3)], [.int 0], m)) rfl ?_
      exact mz_ret rfl
    · rw [show sm_bI (sm_undr (nI 6) (nI 4)) = 0 from by decide]
      show mz_Me 3 mz_r134 [.int 6, .int 4] m (some (.int 0)) m
      refine ⟨?_, rfl⟩
      refine mz_go 15 (c' := (45, [some (.int 6), some (.int 4)], [.int 0], m)) rfl ?_
      exact mz_ret rfl
    · rw [show sm_bI (sm_undr (nI 6) (nI 5)) = 0 from by decide]
      show mz_Me 3 mz_r134 [.int 6, .int 5] m (some (.int 0)) m
      refine ⟨?_, rfl⟩
      refine mz_go 15 (c' := (45, [some (.int 6), some (.int 5)], [.int 0], m)) rfl ?_
      exact mz_ret rfl
    · rw [show sm_bI (sm_undr (nI 6) (nI 6)) = 1 from by decide]
      show mz_Me 3 mz_r134 [.int 6, .int 6] m (some (.int 1)) m
      refine ⟨?_, rfl⟩
      refine mz_go 7 (c' := (45, [some (.int 6), some (.int 6)], [.int 1], m)) rfl ?_
      exact mz_ret rfl
