set_option maxHeartbeats 4000000 in
set_option maxRecDepth 100000 in
theorem p1_seed (xs : Nat → Int32) (Ln : Nat) (a : Int32) : ∃ v m1 m2, mz_Me 100 mz_r96 [.ref 0, .int a] (mz_i xs Ln) (some (.int v)) m1 ∧ mz_Me 100 mz_r208 [.ref 65, .int a] m1 (some (.int v)) m2 := by
  refine ⟨1, mz_up (mz_i xs Ln) 1 12 a, mz_up (mz_up (mz_i xs Ln) 1 12 a) 66 3 a, ⟨?_, rfl⟩, ⟨?_, rfl⟩⟩
  · refine mz_go 9 (c' := (17, [some (.ref 0), some (.int a), some (.int 1)], [.int 1], mz_up (mz_i xs Ln) 1 12 a)) rfl ?_
    exact mz_ret rfl
  · refine mz_go 11 (c' := (15, [some (.ref 65), some (.int a), some (.int 1)], [.int 1], mz_up (mz_up (mz_i xs Ln) 1 12 a) 66 3 a)) rfl ?_
    exact mz_ret rfl
set_option maxHeartbeats 4000000 in
set_option maxRecDepth 100000 in
theorem p1_voice (xs : Nat → Int32) (Ln : Nat) (a : Int32) (b : Int32) (c : Int32) : ∃ v m1 m2, mz_Me 100 mz_r97 [.ref 0, .int a, .int b, .int c] (mz_i xs Ln) (some (.int v)) m1 ∧ mz_Me 100 mz_r217 [.ref 65, .int a, .int b, .int c] m1 (some (.int v)) m2 := by
  by_cases h1 : a < 0
  · refine ⟨(-1000001), mz_up (mz_i xs Ln) 64 1 1, mz_up (mz_up (mz_i xs Ln) 64 1 1) 68 1 1, ⟨?_, rfl⟩, ⟨?_, rfl⟩⟩
    · refine mz_go 4 (c' := (8, [some (.ref 0), some (.int a), some (.int b), some (.int c), none], [.int a, .ref 2], (mz_i xs Ln))) rfl ?_
      refine mz_do (R := mz_r21) (as := [.ref 2, .int a]) (rest := []) (r1 := some (.int 0)) (m1 := (mz_i xs Ln)) rfl ⟨?_, rfl⟩ ?_
      · refine mz_go 2 (c' := (if a < 0 then 22 else 4, [some (.ref 2), some (.int a)], [], (mz_i xs Ln))) rfl ?_
        refine mz_ifT h1 ?_
        refine mz_go 1 (c' := (23, [some (.ref 2), some (.int a)], [.int 0], (mz_i xs Ln))) rfl ?_
        exact mz_ret rfl
      refine mz_go 3 (c' := (25, [some (.ref 0), some (.int a), some (.int b), some (.int c), none], [.int 1, .ref 0], (mz_i xs Ln))) rfl ?_
      refine mz_do (R := mz_r109) (as := [.ref 0, .int 1]) (rest := []) (r1 := some (.int (-1000001))) (m1 := mz_up (mz_i xs Ln) 64 1 1) rfl ⟨?_, rfl⟩ ?_
      · refine mz_go 3 (c' := (4, [some (.ref 0), some (.int 1)], [.int 6, .int 1, .int 1], (mz_i xs Ln))) rfl ?_
        refine mz_do (R := mz_r121) (as := [.int 1, .int 1, .int 6]) (rest := []) (r1 := some (.int 1)) (m1 := (mz_i xs Ln)) rfl ⟨?_, rfl⟩ ?_
        · refine mz_go 8 (c' := (15, [some (.int 1), some (.int 1), some (.int 6)], [.int 1], (mz_i xs Ln))) rfl ?_
          exact mz_ret rfl
        refine mz_go 12 (c' := (25, [some (.ref 0), some (.int 1)], [.int (-1000001)], mz_up (mz_i xs Ln) 64 1 1)) rfl ?_
        exact mz_ret rfl
      exact mz_ret rfl
    · refine mz_go 2 (c' := (2, [some (.ref 65), some (.int a), some (.int b), some (.int c), none, none], [.int a, .ref 65], mz_up (mz_i xs Ln) 64 1 1)) rfl ?_
      refine mz_do (R := mz_r132) (as := [.ref 65, .int a]) (rest := []) (r1 := some (.int 0)) (m1 := mz_up (mz_i xs Ln) 64 1 1) rfl ⟨?_, rfl⟩ ?_
      · refine mz_go 7 (c' := (9, [some (.ref 65), some (.int a)], [.int 1, .int 0, .int 0, .int a], mz_up (mz_i xs Ln) 64 1 1)) rfl ?_
        refine mz_go 1 (c' := (10, [some (.ref 65), some (.int a)], [.int (-1), .int 0, .int a], mz_up (mz_i xs Ln) 64 1 1)) rfl ?_
        refine mz_do (R := mz_r128) (as := [.int a, .int 0, .int (-1)]) (rest := []) (r1 := some (.int 0)) (m1 := mz_up (mz_i xs Ln) 64 1 1) rfl ⟨?_, rfl⟩ ?_
        · refine mz_go 3 (c' := (if a < 0 then 14 else 5, [some (.int a), some (.int 0), some (.int (-1))], [], mz_up (mz_i xs Ln) 64 1 1)) rfl ?_
          refine mz_ifT h1 ?_
          refine mz_go 1 (c' := (15, [some (.int a), some (.int 0), some (.int (-1))], [.int 0], mz_up (mz_i xs Ln) 64 1 1)) rfl ?_
          exact mz_ret rfl
        exact mz_ret rfl
      refine mz_go 3 (c' := (19, [some (.ref 65), some (.int a), some (.int b), some (.int c), none, none], [.int 1, .ref 65], mz_up (mz_i xs Ln) 64 1 1)) rfl ?_
      refine mz_do (R := mz_r127) (as := [.ref 65, .int 1]) (rest := []) (r1 := some (.int (-1000001))) (m1 := mz_up (mz_up (mz_i xs Ln) 64 1 1) 68 1 1) rfl ⟨?_, rfl⟩ ?_
      · refine mz_go 11 (c' := (14, [some (.ref 65), some (.int 1)], [.int (-1000001)], mz_up (mz_up (mz_i xs Ln) 64 1 1) 68 1 1)) rfl ?_
        exact mz_ret rfl
      exact mz_ret rfl
  · refine ⟨(-1000001), mz_up (mz_i xs Ln) 64 1 1, mz_up (mz_up (mz_i xs Ln) 64 1 1) 68 1 1, ⟨?_, rfl⟩, ⟨?_, rfl⟩⟩
    · refine mz_go 4 (c' := (8, [some (.ref 0), some (.int a), some (.int b), some (.int c), none], [.int a, .ref 2], (mz_i xs Ln))) rfl ?_
      refine mz_do (R := mz_r21) (as := [.ref 2, .int a]) (rest := []) (r1 := some (.int 0)) (m1 := (mz_i xs Ln)) rfl ⟨?_, rfl⟩ ?_
      · refine mz_go 2 (c' := (if a < 0 then 22 else 4, [some (.ref 2), some (.int a)], [], (mz_i xs Ln))) rfl ?_
        refine mz_ifF h1 ?_
        refine mz_go 4 (c' := (if 0 ≤ a then 22 else 12, [some (.ref 2), some (.int a)], [], (mz_i xs Ln))) rfl ?_
        refine mz_ifT (by have hl : (0 : Int) ≤ (a).toInt := Int32.le_iff_toInt_le.mp (Int32.not_lt.mp h1); exact Int32.le_iff_toInt_le.mpr (show (0 : Int) ≤ (a).toInt by omega)) ?_
        refine mz_go 1 (c' := (23, [some (.ref 2), some (.int a)], [.int 0], (mz_i xs Ln))) rfl ?_
        exact mz_ret rfl
      refine mz_go 3 (c' := (25, [some (.ref 0), some (.int a), some (.int b), some (.int c), none], [.int 1, .ref 0], (mz_i xs Ln))) rfl ?_
      refine mz_do (R := mz_r109) (as := [.ref 0, .int 1]) (rest := []) (r1 := some (.int (-1000001))) (m1 := mz_up (mz_i xs Ln) 64 1 1) rfl ⟨?_, rfl⟩ ?_
      · refine mz_go 3 (c' := (4, [some (.ref 0), some (.int 1)], [.int 6, .int 1, .int 1], (mz_i xs Ln))) rfl ?_
        refine mz_do (R := mz_r121) (as := [.int 1, .int 1, .int 6]) (rest := []) (r1 := some (.int 1)) (m1 := (mz_i xs Ln)) rfl ⟨?_, rfl⟩ ?_
        · refine mz_go 8 (c' := (15, [some (.int 1), some (.int 1), some (.int 6)], [.int 1], (mz_i xs Ln))) rfl ?_
          exact mz_ret rfl
        refine mz_go 12 (c' := (25, [some (.ref 0), some (.int 1)], [.int (-1000001)], mz_up (mz_i xs Ln) 64 1 1)) rfl ?_
        exact mz_ret rfl
      exact mz_ret rfl
    · refine mz_go 2 (c' := (2, [some (.ref 65), some (.int a), some (.int b), some (.int c), none, none], [.int a, .ref 65], mz_up (mz_i xs Ln) 64 1 1)) rfl ?_
      refine mz_do (R := mz_r132) (as := [.ref 65, .int a]) (rest := []) (r1 := some (.int 0)) (m1 := mz_up (mz_i xs Ln) 64 1 1) rfl ⟨?_, rfl⟩ ?_
      · refine mz_go 7 (c' := (9, [some (.ref 65), some (.int a)], [.int 1, .int 0, .int 0, .int a], mz_up (mz_i xs Ln) 64 1 1)) rfl ?_
        refine mz_go 1 (c' := (10, [some (.ref 65), some (.int a)], [.int (-1), .int 0, .int a], mz_up (mz_i xs Ln) 64 1 1)) rfl ?_
        refine mz_do (R := mz_r128) (as := [.int a, .int 0, .int (-1)]) (rest := []) (r1 := some (.int 0)) (m1 := mz_up (mz_i xs Ln) 64 1 1) rfl ⟨?_, rfl⟩ ?_
        · refine mz_go 3 (c' := (if a < 0 then 14 else 5, [some (.int a), some (.int 0), some (.int (-1))], [], mz_up (mz_i xs Ln) 64 1 1)) rfl ?_
          refine mz_ifF h1 ?_
          refine mz_go 3 (c' := (if (-1) < a then 14 else 10, [some (.int a), some (.int 0), some (.int (-1))], [], mz_up (mz_i xs Ln) 64 1 1)) rfl ?_
          refine mz_ifT (by have hl : (0 : Int) ≤ (a).toInt := Int32.le_iff_toInt_le.mp (Int32.not_lt.mp h1); exact Int32.lt_iff_toInt_lt.mpr (show (-1 : Int) < (a).toInt by omega)) ?_
          refine mz_go 1 (c' := (15, [some (.int a), some (.int 0), some (.int (-1))], [.int 0], mz_up (mz_i xs Ln) 64 1 1)) rfl ?_
          exact mz_ret rfl
        exact mz_ret rfl
      refine mz_go 3 (c' := (19, [some (.ref 65), some (.int a), some (.int b), some (.int c), none, none], [.int 1, .ref 65], mz_up (mz_i xs Ln) 64 1 1)) rfl ?_
      refine mz_do (R := mz_r127) (as := [.ref 65, .int 1]) (rest := []) (r1 := some (.int (-1000001))) (m1 := mz_up (mz_up (mz_i xs Ln) 64 1 1) 68 1 1) rfl ⟨?_, rfl⟩ ?_
      · refine mz_go 11 (c' := (14, [some (.ref 65), some (.int 1)], [.int (-1000001)], mz_up (mz_up (mz_i xs Ln) 64 1 1) 68 1 1)) rfl ?_
        exact mz_ret rfl
      exact mz_ret rfl
set_option maxHeartbeats 4000000 in
set_option maxRecDepth 100000 in
theorem p1_body (xs : Nat → Int32) (Ln : Nat) (a : Int32) : ∃ v m1 m2, mz_Me 100 mz_r98 [.ref 0, .int a] (mz_i xs Ln) (some (.int v)) m1 ∧ mz_Me 100 mz_r218 [.ref 65, .int a] m1 (some (.int v)) m2 := by
  by_cases h1 : a < 0
  · refine ⟨(-1000002), mz_up (mz_i xs Ln) 64 2 1, mz_up (mz_up (mz_i xs Ln) 64 2 1) 68 2 1, ⟨?_, rfl⟩, ⟨?_, rfl⟩⟩
    · refine mz_go 6 (c' := (10, [some (.ref 0), some (.int a)], [.int 1, .int 0, .int 0, .int a], (mz_i xs Ln))) rfl ?_
      refine mz_go 1 (c' := (11, [some (.ref 0), some (.int a)], [.int (-1), .int 0, .int a], (mz_i xs Ln))) rfl ?_
      refine mz_do (R := mz_r121) (as := [.int a, .int 0, .int (-1)]) (rest := []) (r1 := some (.int 0)) (m1 := (mz_i xs Ln)) rfl ⟨?_, rfl⟩ ?_
      · refine mz_go 3 (c' := (if a < 0 then 14 else 5, [some (.int a), some (.int 0), some (.int (-1))], [], (mz_i xs Ln))) rfl ?_
        refine mz_ifT h1 ?_
        refine mz_go 1 (c' := (15, [some (.int a), some (.int 0), some (.int (-1))], [.int 0], (mz_i xs Ln))) rfl ?_
        exact mz_ret rfl
      refine mz_go 3 (c' := (19, [some (.ref 0), some (.int a)], [.int 2, .ref 0], (mz_i xs Ln))) rfl ?_
      refine mz_do (R := mz_r109) (as := [.ref 0, .int 2]) (rest := []) (r1 := some (.int (-1000002))) (m1 := mz_up (mz_i xs Ln) 64 2 1) rfl ⟨?_, rfl⟩ ?_
      · refine mz_go 3 (c' := (4, [some (.ref 0), some (.int 2)], [.int 6, .int 1, .int 2], (mz_i xs Ln))) rfl ?_
        refine mz_do (R := mz_r121) (as := [.int 2, .int 1, .int 6]) (rest := []) (r1 := some (.int 1)) (m1 := (mz_i xs Ln)) rfl ⟨?_, rfl⟩ ?_
        · refine mz_go 8 (c' := (15, [some (.int 2), some (.int 1), some (.int 6)], [.int 1], (mz_i xs Ln))) rfl ?_
          exact mz_ret rfl
        refine mz_go 12 (c' := (25, [some (.ref 0), some (.int 2)], [.int (-1000002)], mz_up (mz_i xs Ln) 64 2 1)) rfl ?_
        exact mz_ret rfl
      exact mz_ret rfl
    · refine mz_go 5 (c' := (7, [some (.ref 65), some (.int a)], [.int 1, .int 0, .int 0, .int a], mz_up (mz_i xs Ln) 64 2 1)) rfl ?_
      refine mz_go 1 (c' := (8, [some (.ref 65), some (.int a)], [.int (-1), .int 0, .int a], mz_up (mz_i xs Ln) 64 2 1)) rfl ?_
      refine mz_do (R := mz_r128) (as := [.int a, .int 0, .int (-1)]) (rest := []) (r1 := some (.int 0)) (m1 := mz_up (mz_i xs Ln) 64 2 1) rfl ⟨?_, rfl⟩ ?_
      · refine mz_go 3 (c' := (if a < 0 then 14 else 5, [some (.int a), some (.int 0), some (.int (-1))], [], mz_up (mz_i xs Ln) 64 2 1)) rfl ?_
        refine mz_ifT h1 ?_
        refine mz_go 1 (c' := (15, [some (.int a), some (.int 0), some (.int (-1))], [.int 0], mz_up (mz_i xs Ln) 64 2 1)) rfl ?_
        exact mz_ret rfl
      refine mz_go 3 (c' := (25, [some (.ref 65), some (.int a)], [.int 2, .ref 65], mz_up (mz_i xs Ln) 64 2 1)) rfl ?_
      refine mz_do (R := mz_r127) (as := [.ref 65, .int 2]) (rest := []) (r1 := some (.int (-1000002))) (m1 := mz_up (mz_up (mz_i xs Ln) 64 2 1) 68 2 1) rfl ⟨?_, rfl⟩ ?_
      · refine mz_go 11 (c' := (14, [some (.ref 65), some (.int 2)], [.int (-1000002)], mz_up (mz_up (mz_i xs Ln) 64 2 1) 68 2 1)) rfl ?_
        exact mz_ret rfl
      exact mz_ret rfl
  · refine ⟨(-1000002), mz_up (mz_i xs Ln) 64 2 1, mz_up (mz_up (mz_i xs Ln) 64 2 1) 68 2 1, ⟨?_, rfl⟩, ⟨?_, rfl⟩⟩
    · refine mz_go 6 (c' := (10, [some (.ref 0), some (.int a)], [.int 1, .int 0, .int 0, .int a], (mz_i xs Ln))) rfl ?_
      refine mz_go 1 (c' := (11, [some (.ref 0), some (.int a)], [.int (-1), .int 0, .int a], (mz_i xs Ln))) rfl ?_
      refine mz_do (R := mz_r121) (as := [.int a, .int 0, .int (-1)]) (rest := []) (r1 := some (.int 0)) (m1 := (mz_i xs Ln)) rfl ⟨?_, rfl⟩ ?_
      · refine mz_go 3 (c' := (if a < 0 then 14 else 5, [some (.int a), some (.int 0), some (.int (-1))], [], (mz_i xs Ln))) rfl ?_
        refine mz_ifF h1 ?_
        refine mz_go 3 (c' := (if (-1) < a then 14 else 10, [some (.int a), some (.int 0), some (.int (-1))], [], (mz_i xs Ln))) rfl ?_
        refine mz_ifT (by have hl : (0 : Int) ≤ (a).toInt := Int32.le_iff_toInt_le.mp (Int32.not_lt.mp h1); exact Int32.lt_iff_toInt_lt.mpr (show (-1 : Int) < (a).toInt by omega)) ?_
        refine mz_go 1 (c' := (15, [some (.int a), some (.int 0), some (.int (-1))], [.int 0], (mz_i xs Ln))) rfl ?_
        exact mz_ret rfl
      refine mz_go 3 (c' := (19, [some (.ref 0), some (.int a)], [.int 2, .ref 0], (mz_i xs Ln))) rfl ?_
      refine mz_do (R := mz_r109) (as := [.ref 0, .int 2]) (rest := []) (r1 := some (.int (-1000002))) (m1 := mz_up (mz_i xs Ln) 64 2 1) rfl ⟨?_, rfl⟩ ?_
      · refine mz_go 3 (c' := (4, [some (.ref 0), some (.int 2)], [.int 6, .int 1, .int 2], (mz_i xs Ln))) rfl ?_
        refine mz_do (R := mz_r121) (as := [.int 2, .int 1, .int 6]) (rest := []) (r1 := some (.int 1)) (m1 := (mz_i xs Ln)) rfl ⟨?_, rfl⟩ ?_
        · refine mz_go 8 (c' := (15, [some (.int 2), some (.int 1), some (.int 6)], [.int 1], (mz_i xs Ln))) rfl ?_
          exact mz_ret rfl
        refine mz_go 12 (c' := (25, [some (.ref 0), some (.int 2)], [.int (-1000002)], mz_up (mz_i xs Ln) 64 2 1)) rfl ?_
        exact mz_ret rfl
      exact mz_ret rfl
    · refine mz_go 5 (c' := (7, [some (.ref 65), some (.int a)], [.int 1, .int 0, .int 0, .int a], mz_up (mz_i xs Ln) 64 2 1)) rfl ?_
      refine mz_go 1 (c' := (8, [some (.ref 65), some (.int a)], [.int (-1), .int 0, .int a], mz_up (mz_i xs Ln) 64 2 1)) rfl ?_
      refine mz_do (R := mz_r128) (as := [.int a, .int 0, .int (-1)]) (rest := []) (r1 := some (.int 0)) (m1 := mz_up (mz_i xs Ln) 64 2 1) rfl ⟨?_, rfl⟩ ?_
      · refine mz_go 3 (c' := (if a < 0 then 14 else 5, [some (.int a), some (.int 0), some (.int (-1))], [], mz_up (mz_i xs Ln) 64 2 1)) rfl ?_
        refine mz_ifF h1 ?_
        refine mz_go 3 (c' := (if (-1) < a then 14 else 10, [some (.int a), some (.int 0), some (.int (-1))], [], mz_up (mz_i xs Ln) 64 2 1)) rfl ?_
        refine mz_ifT (by have hl : (0 : Int) ≤ (a).toInt := Int32.le_iff_toInt_le.mp (Int32.not_lt.mp h1); exact Int32.lt_iff_toInt_lt.mpr (show (-1 : Int) < (a).toInt by omega)) ?_
        refine mz_go 1 (c' := (15, [some (.int a), some (.int 0), some (.int (-1))], [.int 0], mz_up (mz_i xs Ln) 64 2 1)) rfl ?_
        exact mz_ret rfl
      refine mz_go 3 (c' := (25, [some (.ref 65), some (.int a)], [.int 2, .ref 65], mz_up (mz_i xs Ln) 64 2 1)) rfl ?_
      refine mz_do (R := mz_r127) (as := [.ref 65, .int 2]) (rest := []) (r1 := some (.int (-1000002))) (m1 := mz_up (mz_up (mz_i xs Ln) 64 2 1) 68 2 1) rfl ⟨?_, rfl⟩ ?_
      · refine mz_go 11 (c' := (14, [some (.ref 65), some (.int 2)], [.int (-1000002)], mz_up (mz_up (mz_i xs Ln) 64 2 1) 68 2 1)) rfl ?_
        exact mz_ret rfl
      exact mz_ret rfl
