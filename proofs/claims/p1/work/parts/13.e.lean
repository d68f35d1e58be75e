set_option maxHeartbeats 4000000 in
set_option maxRecDepth 100000 in
theorem p1_seed (xs : Nat → Int32) (Ln : Nat) (a : Int32) : ∃ v m1 m2, mz_Me 100 mz_r96 [.ref 0, .int a] (mz_i xs Ln) (some (.int v)) m1 ∧ mz_Me 100 mz_r208 [.ref 65, .int a] m1 (some (.int v)) m2 := by
  refine ⟨1, mz_up (mz_i xs Ln) 1 12 a, mz_up (mz_up (mz_i xs Ln) 1 12 a) 66 3 a, ⟨?_, rfl⟩, ⟨?_, rfl⟩⟩
  · refine mz_go 9 (c' := (17, [some (.ref 0), some (.int a), some (.int 1)], [.int 1], mz_up (mz_i xs Ln) 1 12 a)) rfl ?_
    exact mz_ret rfl
  · refine mz_go 11 (c' := (15, [some (.ref 65), some (.int a), some (.int 1)], [.int 1], mz_up (mz_up (mz_i xs Ln) 1 12 a) 66 3 a)) rfl ?_
    exact mz_ret rfl
set_option maxHeartbeats 4000000 in
set_option maxRecDepth 100000 in
theorem p1_voice (xs : Nat → Int32) (Ln : Nat) (a : Int32) (b : Int32) (c : Int32) : ∃ v m1 m2, mz_Me 100 mz_r97 [.ref 0, .int a, .int b, .int c] (mz_i xs Ln) (some (.int v)) m1 ∧ mz_Me 100 mz_r217 [.ref 65, .int a, .int b, .int c] m1 (some (.int v)) m2 := by
  by_cases h1 : a < 0
  · refine ⟨(-1000001), mz_up (mz_i xs Ln) 64 1 1, mz_up (mz_up (mz_i xs Ln) 64 1 1) 68 1 1, ⟨?_, rfl⟩, ⟨?_, rfl⟩⟩
    · refine mz_go 4 (c' := (8, [some (.ref 0), some (.int a), some (.int b), some (.int c), none], [.int a, .ref 2], (mz_i xs Ln))) rfl ?_
      refine mz_do (R := mz_r21) (as := [.ref 2, .int a]) (rest := []) (r1 := some (.int 0)) (m1 := (mz_i xs Ln)) rfl ⟨?_, rfl⟩ ?_
      · refine mz_go 2 (c' := (if a < 0 then 22 else 4, [some (.ref 2), some (.int a)], [], (mz_i xs Ln))) rfl ?_
        refine mz_ifT h1 ?_
        refine mz_go 1 (c' := (23, [some (.ref 2), some (.int a)], [.int 0], (mz_i xs Ln))) rfl ?_
        exact mz_ret rfl
      refine mz_go 3 (c' := (25, [some (.ref 0), some (.int a), some (.int b), some (.int c), none], [.int 1, .ref 0], (mz_i xs Ln))) rfl ?_
      refine mz_do (R := mz_r109) (as := [.ref 0, .int 1]) (rest := []) (r1 := some (.int (-1000001))) (m1 := mz_up (mz_i xs Ln) 64 1 1) rfl ⟨?_, rfl⟩ ?_
      · refine mz_go 3 (c' := (4, [some (.ref 0), some (.int 1)], [.int 6, .int 1, .int 1], (mz_i xs Ln))) rfl ?_
        refine mz_do (R := mz_r121) (as := [.int 1, .int 1, .int 6]) (rest := []) (r1 := some (.int 1)) (m1 := (mz_i xs Ln)) rfl ⟨?_, rfl⟩ ?_
        · refine mz_go 8 (c' := (15, [some (.int 1), some (.int 1), some (.int 6)], [.int 1], (mz_i xs Ln))) rfl ?_
          exact mz_ret rfl
        refine mz_go 12 (c' := (25, [some (.ref 0), some (.int 1)], [.int (-1000001)], mz_up (mz_i xs Ln) 64 1 1)) rfl ?_
        exact mz_ret rfl
      exact mz_ret rfl
    · refine mz_go 2 (c' := (2, [some (.ref 65), some (.int a), some (.int b), some (.int c), none, none], [.int a, .ref 65], mz_up (mz_i xs Ln) 64 1 1)) rfl ?_
      refine mz_do (R := mz_r132) (as := [.ref 65, .int a]) (rest := []) (r1 := some (.int 0)) (m1 := mz_up (mz_i xs Ln) 64 1 1) rfl ⟨?_, rfl⟩ ?_
      · refine mz_go 8 (c' := (10, [some (.ref 65), some (.int a)], [.int (-1), .int 0, .int a], mz_up (mz_i xs Ln) 64 1 1)) rfl ?_
        refine mz_do (R := mz_r128) (as := [.int a, .int 0, .int (-1)]) (rest := []) (r1 := some (.int 0)) (m1 := mz_up (mz_i xs Ln) 64 1 1) rfl ⟨?_, rfl⟩ ?_
        · refine mz_go 3 (c' := (if a < 0 then 14 else 5, [some (.int a), some (.int 0), some (.int (-1))], [], mz_up (mz_i xs Ln) 64 1 1)) rfl ?_
          refine mz_ifT h1 ?_
          refine mz_go 1 (c' := (15, [some (.int a), some (.int 0), some (.int (-1))], [.int 0], mz_up (mz_i xs Ln) 64 1 1)) rfl ?_
          exact mz_ret rfl
        exact mz_ret rfl
      refine mz_go 3 (c' := (19, [some (.ref 65), some (.int a), some (.int b), some (.int c), none, none], [.int 1, .ref 65], mz_up (mz_i xs Ln) 64 1 1)) rfl ?_
      refine mz_do (R := mz_r127) (as := [.ref 65, .int 1]) (rest := []) (r1 := some (.int (-1000001))) (m1 := mz_up (mz_up (mz_i xs Ln) 64 1 1) 68 1 1) rfl ⟨?_, rfl⟩ ?_
      · refine mz_go 11 (c' := (14, [some (.ref 65), some (.int 1)], [.int (-1000001)], mz_up (mz_up (mz_i xs Ln) 64 1 1) 68 1 1)) rfl ?_
        exact mz_ret rfl
      exact mz_ret rfl
  · refine ⟨(-1000001), mz_up (mz_i xs Ln) 64 1 1, mz_up (mz_up (mz_i xs Ln) 64 1 1) 68 1 1, ⟨?_, rfl⟩, ⟨?_, rfl⟩⟩
    · refine mz_go 4 (c' := (8, [some (.ref 0), some (.int a), some (.int b), some (.int c), none], [.int a, .ref 2], (mz_i xs Ln))) rfl ?_
      refine mz_do (R := mz_r21) (as := [.ref 2, .int a]) (rest := []) (r1 := some (.int 0)) (m1 := (mz_i xs Ln)) rfl ⟨?_, rfl⟩ ?_
      · refine mz_go 2 (c' := (if a < 0 then 22 else 4, [some (.ref 2), some (.int a)], [], (mz_i xs Ln))) rfl ?_
        refine mz_ifF h1 ?_
        refine mz_go 4 (c' := (if 0 ≤ a then 22 else 12, [some (.ref 2), some (.int a)], [], (mz_i xs Ln))) rfl ?_
        refine mz_ifT (by have hl : (0 : Int) ≤ (a).toInt := Int32.le_iff_toInt_le.mp (Int32.not_lt.mp h1); exact Int32.le_iff_toInt_le.mpr (show (0 : Int) ≤ (a).toInt by omega)) ?_
        refine mz_go 1 (c' := (23, [some (.ref 2), some (.int a)], [.int 0], (mz_i xs Ln))) rfl ?_
        exact mz_ret rfl
      refine mz_go 3 (c' := (25, [some (.ref 0), some (.int a), some (.int b), some (.int c), none], [.int 1, .ref 0], (mz_i xs Ln))) rfl ?_
      refine mz_do (R := mz_r109) (as := [.ref 0, .int 1]) (rest := []) (r1 := some (.int (-1000001))) (m1 := mz_up (mz_i xs Ln) 64 1 1) rfl ⟨?_, rfl⟩ ?_
      · refine mz_go 3 (c' := (4, [some (.ref 0), some (.int 1)], [.int 6, .int 1, .int 1], (mz_i xs Ln))) rfl ?_
        refine mz_do (R := mz_r121) (as := [.int 1, .int 1, .int 6]) (rest := []) (r1 := some (.int 1)) (m1 := (mz_i xs Ln)) rfl ⟨?_, rfl⟩ ?_
        · refine mz_go 8 (c' := (15, [some (.int 1), some (.int 1), some (.int 6)], [.int 1], (mz_i xs Ln))) rfl ?_
          exact mz_ret rfl
        refine mz_go 12 (c' := (25, [some (.ref 0), some (.int 1)], [.int (-1000001)], mz_up (mz_i xs Ln) 64 1 1)) rfl ?_
        exact mz_ret rfl
      exact mz_ret rfl
    · refine mz_go 2 (c' := (2, [some (.ref 65), some (.int a), some (.int b), some (.int c), none, none], [.int a, .ref 65], mz_up (mz_i xs Ln) 64 1 1)) rfl ?_
      refine mz_do (R := mz_r132) (as := [.ref 65, .int a]) (rest := []) (r1 := some (.int 0)) (m1 := mz_up (mz_i xs Ln) 64 1 1) rfl ⟨?_, rfl⟩ ?_
      · refine mz_go 8 (c' := (10, [some (.ref 65), some (.int a)], [.int (-1), .int 0, .int a], mz_up (mz_i xs Ln) 64 1 1)) rfl ?_
        refine mz_do (R := mz_r128) (as := [.int a, .int 0, .int (-1)]) (rest := []) (r1 := some (.int 0)) (m1 := mz_up (mz_i xs Ln) 64 1 1) rfl ⟨?_, rfl⟩ ?_
        · refine mz_go 3 (c' := (if a < 0 then 14 else 5, [some (.int a), some (.int 0), some (.int (-1))], [], mz_up (mz_i xs Ln) 64 1 1)) rfl ?_
          refine mz_ifF h1 ?_
          refine mz_go 3 (c' := (if (-1) < a then 14 else 10, [some (.int a), some (.int 0), some (.int (-1))], [], mz_up (mz_i xs Ln) 64 1 1)) rfl ?_
          refine mz_ifT (by have hl : (0 : Int) ≤ (a).toInt := Int32.le_iff_toInt_le.mp (Int32.not_lt.mp h1); exact Int32.lt_iff_toInt_lt.mpr (show (-1 : Int) < (a).toInt by omega)) ?_
          refine mz_go 1 (c' := (15, [some (.int a), some (.int 0), some (.int (-1))], [.int 0], mz_up (mz_i xs Ln) 64 1 1)) rfl ?_
          exact mz_ret rfl
        exact mz_ret rfl
      refine mz_go 3 (c' := (19, [some (.ref 65), some (.int a), some (.int b), some (.int c), none, none], [.int 1, .ref 65], mz_up (mz_i xs Ln) 64 1 1)) rfl ?_
      refine mz_do (R := mz_r127) (as := [.ref 65, .int 1]) (rest := []) (r1 := some (.int (-1000001))) (m1 := mz_up (mz_up (mz_i xs Ln) 64 1 1) 68 1 1) rfl ⟨?_, rfl⟩ ?_
      · refine mz_go 11 (c' := (14, [some (.ref 65), some (.int 1)], [.int (-1000001)], mz_up (mz_up (mz_i xs Ln) 64 1 1) 68 1 1)) rfl ?_
        exact mz_ret rfl
      exact mz_ret rfl
set_option maxHeartbeats 4000000 in
set_option maxRecDepth 100000 in
theorem p1_body (xs : Nat → Int32) (Ln : Nat) (a : Int32) : ∃ v m1 m2, mz_Me 100 mz_r98 [.ref 0, .int a] (mz_i xs Ln) (some (.int v)) m1 ∧ mz_Me 100 mz_r218 [.ref 65, .int a] m1 (some (.int v)) m2 := by
  by_cases h1 : a < 0
  · refine ⟨(-1000002), mz_up (mz_i xs Ln) 64 2 1, mz_up (mz_up (mz_i xs Ln) 64 2 1) 68 2 1, ⟨?_, rfl⟩, ⟨?_, rfl⟩⟩
    · refine mz_go 7 (c' := (11, [some (.ref 0), some (.int a)], [.int (-1), .int 0, .int a], (mz_i xs Ln))) rfl ?_
      refine mz_do (R := mz_r121) (as := [.int a, .int 0, .int (-1)]) (rest := []) (r1 := some (.int 0)) (m1 := (mz_i xs Ln)) rfl ⟨?_, rfl⟩ ?_
      · refine mz_go 3 (c' := (if a < 0 then 14 else 5, [some (.int a), some (.int 0), some (.int (-1))], [], (mz_i xs Ln))) rfl ?_
        refine mz_ifT h1 ?_
        refine mz_go 1 (c' := (15, [some (.int a), some (.int 0), some (.int (-1))], [.int 0], (mz_i xs Ln))) rfl ?_
        exact mz_ret rfl
      refine mz_go 3 (c' := (19, [some (.ref 0), some (.int a)], [.int 2, .ref 0], (mz_i xs Ln))) rfl ?_
      refine mz_do (R := mz_r109) (as := [.ref 0, .int 2]) (rest := []) (r1 := some (.int (-1000002))) (m1 := mz_up (mz_i xs Ln) 64 2 1) rfl ⟨?_, rfl⟩ ?_
      · refine mz_go 3 (c' := (4, [some (.ref 0), some (.int 2)], [.int 6, .int 1, .int 2], (mz_i xs Ln))) rfl ?_
        refine mz_do (R := mz_r121) (as := [.int 2, .int 1, .int 6]) (rest := []) (r1 := some (.int 1)) (m1 := (mz_i xs Ln)) rfl ⟨?_, rfl⟩ ?_
        · refine mz_go 8 (c' := (15, [some (.int 2), some (.int 1), some (.int 6)], [.int 1], (mz_i xs Ln))) rfl ?_
          exact mz_ret rfl
        refine mz_go 12 (c' := (25, [some (.ref 0), some (.int 2)], [.int (-1000002)], mz_up (mz_i xs Ln) 64 2 1)) rfl ?_
        exact mz_ret rfl
      exact mz_ret rfl
    · refine mz_go 6 (c' := (8, [some (.ref 65), some (.int a)], [.int (-1), .int 0, .int a], mz_up (mz_i xs Ln) 64 2 1)) rfl ?_
      refine mz_do (R := mz_r128) (as := [.int a, .int 0, .int (-1)]) (rest := []) (r1 := some (.int 0)) (m1 := mz_up (mz_i xs Ln) 64 2 1) rfl ⟨?_, rfl⟩ ?_
      · refine mz_go 3 (c' := (if a < 0 then 14 else 5, [some (.int a), some (.int 0), some (.int (-1))], [], mz_up (mz_i xs Ln) 64 2 1)) rfl ?_
        refine mz_ifT h1 ?_
        refine mz_go 1 (c' := (15, [some (.int a), some (.int 0), some (.int (-1))], [.int 0], mz_up (mz_i xs Ln) 64 2 1)) rfl ?_
        exact mz_ret rfl
      refine mz_go 3 (c' := (25, [some (.ref 65), some (.int a)], [.int 2, .ref 65], mz_up (mz_i xs Ln) 64 2 1)) rfl ?_
      refine mz_do (R := mz_r127) (as := [.ref 65, .int 2]) (rest := []) (r1 := some (.int (-1000002))) (m1 := mz_up (mz_up (mz_i xs Ln) 64 2 1) 68 2 1) rfl ⟨?_, rfl⟩ ?_
      · refine mz_go 11 (c' := (14, [some (.ref 65), some (.int 2)], [.int (-1000002)], mz_up (mz_up (mz_i xs Ln) 64 2 1) 68 2 1)) rfl ?_
        exact mz_ret rfl
      exact mz_ret rfl
  · refine ⟨(-1000002), mz_up (mz_i xs Ln) 64 2 1, mz_up (mz_up (mz_i xs Ln) 64 2 1) 68 2 1, ⟨?_, rfl⟩, ⟨?_, rfl⟩⟩
    · refine mz_go 7 (c' := (11, [some (.ref 0), some (.int a)], [.int (-1), .int 0, .int a], (mz_i xs Ln))) rfl ?_
      refine mz_do (R := mz_r121) (as := [.int a, .int 0, .int (-1)]) (rest := []) (r1 := some (.int 0)) (m1 := (mz_i xs Ln)) rfl ⟨?_, rfl⟩ ?_
      · refine mz_go 3 (c' := (if a < 0 then 14 else 5, [some (.int a), some (.int 0), some (.int (-1))], [], (mz_i xs Ln))) rfl ?_
        refine mz_ifF h1 ?_
        refine mz_go 3 (c' := (if (-1) < a then 14 else 10, [some (.int a), some (.int 0), some (.int (-1))], [], (mz_i xs Ln))) rfl ?_
        refine mz_ifT (by have hl : (0 : Int) ≤ (a).toInt := Int32.le_iff_toInt_le.mp (Int32.not_lt.mp h1); exact Int32.lt_iff_toInt_lt.mpr (show (-1 : Int) < (a).toInt by omega)) ?_
        refine mz_go 1 (c' := (15, [some (.int a), some (.int 0), some (.int (-1))], [.int 0], (mz_i xs Ln))) rfl ?_
        exact mz_ret rfl
      refine mz_go 3 (c' := (19, [some (.ref 0), some (.int a)], [.int 2, .ref 0], (mz_i xs Ln))) rfl ?_
      refine mz_do (R := mz_r109) (as := [.ref 0, .int 2]) (rest := []) (r1 := some (.int (-1000002))) (m1 := mz_up (mz_i xs Ln) 64 2 1) rfl ⟨?_, rfl⟩ ?_
      · refine mz_go 3 (c' := (4, [some (.ref 0), some (.int 2)], [.int 6, .int 1, .int 2], (mz_i xs Ln))) rfl ?_
        refine mz_do (R := mz_r121) (as := [.int 2, .int 1, .int 6]) (rest := []) (r1 := some (.int 1)) (m1 := (mz_i xs Ln)) rfl ⟨?_, rfl⟩ ?_
        · refine mz_go 8 (c' := (15, [some (.int 2), some (.int 1), some (.int 6)], [.int 1], (mz_i xs Ln))) rfl ?_
          exact mz_ret rfl
        refine mz_go 12 (c' := (25, [some (.ref 0), some (.int 2)], [.int (-1000002)], mz_up (mz_i xs Ln) 64 2 1)) rfl ?_
        exact mz_ret rfl
      exact mz_ret rfl
    · refine mz_go 6 (c' := (8, [some (.ref 65), some (.int a)], [.int (-1), .int 0, .int a], mz_up (mz_i xs Ln) 64 2 1)) rfl ?_
      refine mz_do (R := mz_r128) (as := [.int a, .int 0, .int (-1)]) (rest := []) (r1 := some (.int 0)) (m1 := mz_up (mz_i xs Ln) 64 2 1) rfl ⟨?_, rfl⟩ ?_
      · refine mz_go 3 (c' := (if a < 0 then 14 else 5, [some (.int a), some (.int 0), some (.int (-1))], [], mz_up (mz_i xs Ln) 64 2 1)) rfl ?_
        refine mz_ifF h1 ?_
        refine mz_go 3 (c' := (if (-1) < a then 14 else 10, [some (.int a), some (.int 0), some (.int (-1))], [], mz_up (mz_i xs Ln) 64 2 1)) rfl ?_
        refine mz_ifT (by have hl : (0 : Int) ≤ (a).toInt := Int32.le_iff_toInt_le.mp (Int32.not_lt.mp h1); exact Int32.lt_iff_toInt_lt.mpr (show (-1 : Int) < (a).toInt by omega)) ?_
        refine mz_go 1 (c' := (15, [some (.int a), some (.int 0), some (.int (-1))], [.int 0], mz_up (mz_i xs Ln) 64 2 1)) rfl ?_
        exact mz_ret rfl
      refine mz_go 3 (c' := (25, [some (.ref 65), some (.int a)], [.int 2, .ref 65], mz_up (mz_i xs Ln) 64 2 1)) rfl ?_
      refine mz_do (R := mz_r127) (as := [.ref 65, .int 2]) (rest := []) (r1 := some (.int (-1000002))) (m1 := mz_up (mz_up (mz_i xs Ln) 64 2 1) 68 2 1) rfl ⟨?_, rfl⟩ ?_
      · refine mz_go 11 (c' := (14, [some (.ref 65), some (.int 2)], [.int (-1000002)], mz_up (mz_up (mz_i xs Ln) 64 2 1) 68 2 1)) rfl ?_
        exact mz_ret rfl
      exact mz_ret rfl
set_option maxHeartbeats 4000000 in
set_option maxRecDepth 100000 in
theorem p1_sheet (xs : Nat → Int32) (Ln : Nat) (a : Int32) (b : Int32) (c : Int32) : ∃ v m1 m2, mz_Me 100 mz_r99 [.ref 0, .int a, .int b, .int c] (mz_i xs Ln) (some (.int v)) m1 ∧ mz_Me 100 mz_r220 [.ref 65, .int a, .int b, .int c] m1 (some (.int v)) m2 := by
  by_cases h1 : a < 0
  · refine ⟨(-1000001), mz_up (mz_i xs Ln) 64 1 1, mz_up (mz_up (mz_i xs Ln) 64 1 1) 68 1 1, ⟨?_, rfl⟩, ⟨?_, rfl⟩⟩
    · refine mz_go 3 (c' := (5, [some (.ref 0), some (.int a), some (.int b), some (.int c)], [.int a, .ref 60], (mz_i xs Ln))) rfl ?_
      refine mz_do (R := mz_r45) (as := [.ref 60, .int a]) (rest := []) (r1 := some (.int 0)) (m1 := (mz_i xs Ln)) rfl ⟨?_, rfl⟩ ?_
      · refine mz_go 2 (c' := (if a < 0 then 13 else 4, [some (.ref 60), some (.int a)], [], (mz_i xs Ln))) rfl ?_
        refine mz_ifT h1 ?_
        refine mz_go 1 (c' := (14, [some (.ref 60), some (.int a)], [.int 0], (mz_i xs Ln))) rfl ?_
        exact mz_ret rfl
      refine mz_go 3 (c' := (35, [some (.ref 0), some (.int a), some (.int b), some (.int c)], [.int 1, .ref 0], (mz_i xs Ln))) rfl ?_
      refine mz_do (R := mz_r109) (as := [.ref 0, .int 1]) (rest := []) (r1 := some (.int (-1000001))) (m1 := mz_up (mz_i xs Ln) 64 1 1) rfl ⟨?_, rfl⟩ ?_
      · refine mz_go 3 (c' := (4, [some (.ref 0), some (.int 1)], [.int 6, .int 1, .int 1], (mz_i xs Ln))) rfl ?_
        refine mz_do (R := mz_r121) (as := [.int 1, .int 1, .int 6]) (rest := []) (r1 := some (.int 1)) (m1 := (mz_i xs Ln)) rfl ⟨?_, rfl⟩ ?_
        · refine mz_go 8 (c' := (15, [some (.int 1), some (.int 1), some (.int 6)], [.int 1], (mz_i xs Ln))) rfl ?_
          exact mz_ret rfl
        refine mz_go 12 (c' := (25, [some (.ref 0), some (.int 1)], [.int (-1000001)], mz_up (mz_i xs Ln) 64 1 1)) rfl ?_
        exact mz_ret rfl
      exact mz_ret rfl
    · refine mz_go 1 (c' := (1, [some (.ref 65), some (.int a), some (.int b), some (.int c), none], [.int a], mz_up (mz_i xs Ln) 64 1 1)) rfl ?_
      refine mz_do (R := mz_r219) (as := [.int a]) (rest := []) (r1 := some (.int 0)) (m1 := mz_up (mz_i xs Ln) 64 1 1) rfl ⟨?_, rfl⟩ ?_
      · refine mz_go 3 (c' := (3, [some (.int a)], [.int 3, .int 0, .int a], mz_up (mz_i xs Ln) 64 1 1)) rfl ?_
        refine mz_do (R := mz_r128) (as := [.int a, .int 0, .int 3]) (rest := []) (r1 := some (.int 0)) (m1 := mz_up (mz_i xs Ln) 64 1 1) rfl ⟨?_, rfl⟩ ?_
        · refine mz_go 3 (c' := (if a < 0 then 14 else 5, [some (.int a), some (.int 0), some (.int 3)], [], mz_up (mz_i xs Ln) 64 1 1)) rfl ?_
          refine mz_ifT h1 ?_
          refine mz_go 1 (c' := (15, [some (.int a), some (.int 0), some (.int 3)], [.int 0], mz_up (mz_i xs Ln) 64 1 1)) rfl ?_
          exact mz_ret rfl
        exact mz_ret rfl
      refine mz_go 3 (c' := (31, [some (.ref 65), some (.int a), some (.int b), some (.int c), none], [.int 1, .ref 65], mz_up (mz_i xs Ln) 64 1 1)) rfl ?_
      refine mz_do (R := mz_r127) (as := [.ref 65, .int 1]) (rest := []) (r1 := some (.int (-1000001))) (m1 := mz_up (mz_up (mz_i xs Ln) 64 1 1) 68 1 1) rfl ⟨?_, rfl⟩ ?_
      · refine mz_go 11 (c' := (14, [some (.ref 65), some (.int 1)], [.int (-1000001)], mz_up (mz_up (mz_i xs Ln) 64 1 1) 68 1 1)) rfl ?_
        exact mz_ret rfl
      exact mz_ret rfl
  · by_cases h2 : 4 ≤ a
    · refine ⟨(-1000001), mz_up (mz_i xs Ln) 64 1 1, mz_up (mz_up (mz_i xs Ln) 64 1 1) 68 1 1, ⟨?_, rfl⟩, ⟨?_, rfl⟩⟩
      · refine mz_go 3 (c' := (5, [some (.ref 0), some (.int a), some (.int b), some (.int c)], [.int a, .ref 60], (mz_i xs Ln))) rfl ?_
        refine mz_do (R := mz_r45) (as := [.ref 60, .int a]) (rest := []) (r1 := some (.int 0)) (m1 := (mz_i xs Ln)) rfl ⟨?_, rfl⟩ ?_
        · refine mz_go 2 (c' := (if a < 0 then 13 else 4, [some (.ref 60), some (.int a)], [], (mz_i xs Ln))) rfl ?_
          refine mz_ifF h1 ?_
          refine mz_go 3 (c' := (if 4 ≤ a then 13 else 9, [some (.ref 60), some (.int a)], [], (mz_i xs Ln))) rfl ?_
          refine mz_ifT h2 ?_
          refine mz_go 1 (c' := (14, [some (.ref 60), some (.int a)], [.int 0], (mz_i xs Ln))) rfl ?_
          exact mz_ret rfl
        refine mz_go 3 (c' := (35, [some (.ref 0), some (.int a), some (.int b), some (.int c)], [.int 1, .ref 0], (mz_i xs Ln))) rfl ?_
        refine mz_do (R := mz_r109) (as := [.ref 0, .int 1]) (rest := []) (r1 := some (.int (-1000001))) (m1 := mz_up (mz_i xs Ln) 64 1 1) rfl ⟨?_, rfl⟩ ?_
        · refine mz_go 3 (c' := (4, [some (.ref 0), some (.int 1)], [.int 6, .int 1, .int 1], (mz_i xs Ln))) rfl ?_
          refine mz_do (R := mz_r121) (as := [.int 1, .int 1, .int 6]) (rest := []) (r1 := some (.int 1)) (m1 := (mz_i xs Ln)) rfl ⟨?_, rfl⟩ ?_
          · refine mz_go 8 (c' := (15, [some (.int 1), some (.int 1), some (.int 6)], [.int 1], (mz_i xs Ln))) rfl ?_
            exact mz_ret rfl
          refine mz_go 12 (c' := (25, [some (.ref 0), some (.int 1)], [.int (-1000001)], mz_up (mz_i xs Ln) 64 1 1)) rfl ?_
          exact mz_ret rfl
        exact mz_ret rfl
      · refine mz_go 1 (c' := (1, [some (.ref 65), some (.int a), some (.int b), some (.int c), none], [.int a], mz_up (mz_i xs Ln) 64 1 1)) rfl ?_
        refine mz_do (R := mz_r219) (as := [.int a]) (rest := []) (r1 := some (.int 0)) (m1 := mz_up (mz_i xs Ln) 64 1 1) rfl ⟨?_, rfl⟩ ?_
        · refine mz_go 3 (c' := (3, [some (.int a)], [.int 3, .int 0, .int a], mz_up (mz_i xs Ln) 64 1 1)) rfl ?_
          refine mz_do (R := mz_r128) (as := [.int a, .int 0, .int 3]) (rest := []) (r1 := some (.int 0)) (m1 := mz_up (mz_i xs Ln) 64 1 1) rfl ⟨?_, rfl⟩ ?_
          · refine mz_go 3 (c' := (if a < 0 then 14 else 5, [some (.int a), some (.int 0), some (.int 3)], [], mz_up (mz_i xs Ln) 64 1 1)) rfl ?_
            refine mz_ifF h1 ?_
            refine mz_go 3 (c' := (if 3 < a then 14 else 10, [some (.int a), some (.int 0), some (.int 3)], [], mz_up (mz_i xs Ln) 64 1 1)) rfl ?_
            refine mz_ifT (by have hl : (4 : Int) ≤ (a).toInt := Int32.le_iff_toInt_le.mp h2; exact Int32.lt_iff_toInt_lt.mpr (show (3 : Int) < (a).toInt by omega)) ?_
            refine mz_go 1 (c' := (15, [some (.int a), some (.int 0), some (.int 3)], [.int 0], mz_up (mz_i xs Ln) 64 1 1)) rfl ?_
            exact mz_ret rfl
          exact mz_ret rfl
        refine mz_go 3 (c' := (31, [some (.ref 65), some (.int a), some (.int b), some (.int c), none], [.int 1, .ref 65], mz_up (mz_i xs Ln) 64 1 1)) rfl ?_
        refine mz_do (R := mz_r127) (as := [.ref 65, .int 1]) (rest := []) (r1 := some (.int (-1000001))) (m1 := mz_up (mz_up (mz_i xs Ln) 64 1 1) 68 1 1) rfl ⟨?_, rfl⟩ ?_
        · refine mz_go 11 (c' := (14, [some (.ref 65), some (.int 1)], [.int (-1000001)], mz_up (mz_up (mz_i xs Ln) 64 1 1) 68 1 1)) rfl ?_
          exact mz_ret rfl
        exact mz_ret rfl
    · by_cases h3 : b = 0
      · subst h3
        have hl4 : (0 : Int) ≤ (a).toInt := Int32.le_iff_toInt_le.mp (Int32.not_lt.mp h1)
        have hu4 : (a).toInt < (4 : Int) := Int32.lt_iff_toInt_lt.mp (Int32.not_le.mp h2)
        obtain rfl | rfl | rfl | rfl : a = 0 ∨ a = 1 ∨ a = 2 ∨ a = 3 := by
            rcases (show a.toInt = 0 ∨ a.toInt = 1 ∨ a.toInt = 2 ∨ a.toInt = 3 by omega) with h | h | h | h
            · exact (Or.inl (Int32.toInt_inj.mp h))
            · exact (Or.inr (Or.inl (Int32.toInt_inj.mp h)))
            · exact (Or.inr (Or.inr (Or.inl (Int32.toInt_inj.mp h))))
            · exact (Or.inr (Or.inr (Or.inr (Int32.toInt_inj.mp h))))
        · refine ⟨1, mz_up (mz_up (mz_up (mz_up (mz_up (mz_up (mz_up (mz_up (mz_up (mz_up (mz_up (mz_up (mz_up (mz_up (mz_up (mz_up (mz_up (mz_up (mz_up (mz_up (mz_up (mz_up (mz_up (mz_up (mz_up (mz_up (mz_i xs Ln) 61 0 0) 62 0 0) 63 0 0) 63 1 0) 63 2 0) 63 3 0) 63 4 0) 63 5 0) 63 6 0) 63 7 0) 63 8 0) 63 9 0) 63 10 0) 63 11 0) 63 12 0) 63 13 0) 63 14 0) 63 15 0) 63 16 0) 63 17 0) 63 18 0) 63 19 0) 63 20 0) 63 21 0) 63 22 0) 63 23 0, mz_up (mz_up (mz_up (mz_up (mz_up (mz_up (mz_up (mz_up (mz_up (mz_up (mz_up (mz_up (mz_up (mz_up (mz_up (mz_up (mz_up (mz_up (mz_up (mz_up (mz_up (mz_up (mz_up (mz_up (mz_up (mz_up (mz_up (mz_up (mz_up (mz_up (mz_up (mz_up (mz_up (mz_up (mz_up (mz_up (mz_up (mz_up (mz_up (mz_up (mz_up (mz_up (mz_up (mz_up (mz_up (mz_up (mz_up (mz_up (mz_up (mz_up (mz_up (mz_up (mz_i xs Ln) 61 0 0) 62 0 0) 63 0 0) 63 1 0) 63 2 0) 63 3 0) 63 4 0) 63 5 0) 63 6 0) 63 7 0) 63 8 0) 63 9 0) 63 10 0) 63 11 0) 63 12 0) 63 13 0) 63 14 0) 63 15 0) 63 16 0) 63 17 0) 63 18 0) 63 19 0) 63 20 0) 63 21 0) 63 22 0) 63 23 0) 75 0 0) 76 0 0) 77 0 0) 77 1 0) 77 2 0) 77 3 0) 77 4 0) 77 5 0) 77 6 0) 77 7 0) 77 8 0) 77 9 0) 77 10 0) 77 11 0) 77 12 0) 77 13 0) 77 14 0) 77 15 0) 77 16 0) 77 17 0) 77 18 0) 77 19 0) 77 20 0) 77 21 0) 77 22 0) 77 23 0, ⟨?_, rfl⟩, ⟨?_, rfl⟩⟩
          · refine mz_go 3 (c' := (5, [some (.ref 0), some (.int 0), some (.int 0), some (.int c)], [.int 0, .ref 60], (mz_i xs Ln))) rfl ?_
            refine mz_do (R := mz_r45) (as := [.ref 60, .int 0]) (rest := []) (r1 := some (.int 1)) (m1 := (mz_i xs Ln)) rfl ⟨?_, rfl⟩ ?_
            · refine mz_go 7 (c' := (14, [some (.ref 60), some (.int 0)], [.int 1], (mz_i xs Ln))) rfl ?_
              exact mz_ret rfl
            refine mz_go 15 (c' := (84, [some (.ref 0), some (.int 0), some (.int 0), some (.int c)], [.int 0, .int 0, .int 0, .ref 60], (mz_i xs Ln))) rfl ?_
            refine mz_do (R := mz_r47) (as := [.ref 60, .int 0, .int 0, .int 0]) (rest := []) (r1 := none) (m1 := mz_up (mz_up (mz_up (mz_up (mz_up (mz_up (mz_up (mz_up (mz_up (mz_up (mz_up (mz_up (mz_up (mz_up (mz_up (mz_up (mz_up (mz_up (mz_up (mz_up (mz_up (mz_up (mz_up (mz_up (mz_up (mz_up (mz_i xs Ln) 61 0 0) 62 0 0) 63 0 0) 63 1 0) 63 2 0) 63 3 0) 63 4 0) 63 5 0) 63 6 0) 63 7 0) 63 8 0) 63 9 0) 63 10 0) 63 11 0) 63 12 0) 63 13 0) 63 14 0) 63 15 0) 63 16 0) 63 17 0) 63 18 0) 63 19 0) 63 20 0) 63 21 0) 63 22 0) 63 23 0) rfl ⟨?_, rfl⟩ ?_
            · refine mz_go 2 (c' := (2, [some (.ref 60), some (.int 0), some (.int 0), some (.int 0), none], [.int 0, .ref 60], (mz_i xs Ln))) rfl ?_
              refine mz_do (R := mz_r45) (as := [.ref 60, .int 0]) (rest := []) (r1 := some (.int 1)) (m1 := (mz_i xs Ln)) rfl ⟨?_, rfl⟩ ?_
              · refine mz_go 7 (c' := (14, [some (.ref 60), some (.int 0)], [.int 1], (mz_i xs Ln))) rfl ?_
                exact mz_ret rfl
              refine mz_go 4 (c' := (12, [some (.ref 60), some (.int 0), some (.int 0), some (.int 0), none], [.int 24, .int 0, .int 0], (mz_i xs Ln))) rfl ?_
              refine mz_do (R := mz_r121) (as := [.int 0, .int 0, .int 24]) (rest := []) (r1 := some (.int 1)) (m1 := (mz_i xs Ln)) rfl ⟨?_, rfl⟩ ?_
              · refine mz_go 8 (c' := (15, [some (.int 0), some (.int 0), some (.int 24)], [.int 1], (mz_i xs Ln))) rfl ?_
                exact mz_ret rfl
              refine mz_go 352 (c' := (61, [some (.ref 60), some (.int 0), some (.int 0), some (.int 0), some (.int 24)], [], mz_up (mz_up (mz_up (mz_up (mz_up (mz_up (mz_up (mz_up (mz_up (mz_up (mz_up (mz_up (mz_up (mz_up (mz_up (mz_up (mz_up (mz_up (mz_up (mz_up (mz_up (mz_up (mz_up (mz_up (mz_up (mz_up (mz_i xs Ln) 61 0 0) 62 0 0) 63 0 0) 63 1 0) 63 2 0) 63 3 0) 63 4 0) 63 5 0) 63 6 0) 63 7 0) 63 8 0) 63 9 0) 63 10 0) 63 11 0) 63 12 0) 63 13 0) 63 14 0) 63 15 0) 63 16 0) 63 17 0) 63 18 0) 63 19 0) 63 20 0) 63 21 0) 63 22 0) 63 23 0)) rfl ?_
              exact mz_ret rfl
            refine mz_go 1 (c' := (88, [some (.ref 0), some (.int 0), some (.int 0), some (.int c)], [.int 1], mz_up (mz_up (mz_up (mz_up (mz_up (mz_up (mz_up (mz_up (mz_up (mz_up (mz_up (mz_up (mz_up (mz_up (mz_up (mz_up (mz_up (mz_up (mz_up (mz_up (mz_up (mz_up (mz_up (mz_up (mz_up (mz_up (mz_i xs Ln) 61 0 0) 62 0 0) 63 0 0) 63 1 0) 63 2 0) 63 3 0) 63 4 0) 63 5 0) 63 6 0) 63 7 0) 63 8 0) 63 9 0) 63 10 0) 63 11 0) 63 12 0) 63 13 0) 63 14 0) 63 15 0) 63 16 0) 63 17 0) 63 18 0) 63 19 0) 63 20 0) 63 21 0) 63 22 0) 63 23 0)) rfl ?_
            exact mz_ret rfl
          · refine mz_go 1 (c' := (1, [some (.ref 65), some (.int 0), some (.int 0), some (.int c), none], [.int 0], mz_up (mz_up (mz_up (mz_up (mz_up (mz_up (mz_up (mz_up (mz_up (mz_up (mz_up (mz_up (mz_up (mz_up (mz_up (mz_up (mz_up (mz_up (mz_up (mz_up (mz_up (mz_up (mz_up (mz_up (mz_up (mz_up (mz_i xs Ln) 61 0 0) 62 0 0) 63 0 0) 63 1 0) 63 2 0) 63 3 0) 63 4 0) 63 5 0) 63 6 0) 63 7 0) 63 8 0) 63 9 0) 63 10 0) 63 11 0) 63 12 0) 63 13 0) 63 14 0) 63 15 0) 63 16 0) 63 17 0) 63 18 0) 63 19 0) 63 20 0) 63 21 0) 63 22 0) 63 23 0)) rfl ?_
            refine mz_do (R := mz_r219) (as := [.int 0]) (rest := []) (r1 := some (.int 1)) (m1 := mz_up (mz_up (mz_up (mz_up (mz_up (mz_up (mz_up (mz_up (mz_up (mz_up (mz_up (mz_up (mz_up (mz_up (mz_up (mz_up (mz_up (mz_up (mz_up (mz_up (mz_up (mz_up (mz_up (mz_up (mz_up (mz_up (mz_i xs Ln) 61 0 0) 62 0 0) 63 0 0) 63 1 0) 63 2 0) 63 3 0) 63 4 0) 63 5 0) 63 6 0) 63 7 0) 63 8 0) 63 9 0) 63 10 0) 63 11 0) 63 12 0) 63 13 0) 63 14 0) 63 15 0) 63 16 0) 63 17 0) 63 18 0) 63 19 0) 63 20 0) 63 21 0) 63 22 0) 63 23 0) rfl ⟨?_, rfl⟩ ?_
            · refine mz_go 3 (c' := (3, [some (.int 0)], [.int 3, .int 0, .int 0], mz_up (mz_up (mz_up (mz_up (mz_up (mz_up (mz_up (mz_up (mz_up (mz_up (mz_up (mz_up (mz_up (mz_up (mz_up (mz_up (mz_up (mz_up (mz_up (mz_up (mz_up (mz_up (mz_up (mz_up (mz_up (mz_up (mz_i xs Ln) 61 0 0) 62 0 0) 63 0 0) 63 1 0) 63 2 0) 63 3 0) 63 4 0) 63 5 0) 63 6 0) 63 7 0) 63 8 0) 63 9 0) 63 10 0) 63 11 0) 63 12 0) 63 13 0) 63 14 0) 63 15 0) 63 16 0) 63 17 0) 63 18 0) 63 19 0) 63 20 0) 63 21 0) 63 22 0) 63 23 0)) rfl ?_
              refine mz_do (R := mz_r128) (as := [.int 0, .int 0, .int 3]) (rest := []) (r1 := some (.int 1)) (m1 := mz_up (mz_up (mz_up (mz_up (mz_up (mz_up (mz_up (mz_up (mz_up (mz_up (mz_up (mz_up (mz_up (mz_up (mz_up (mz_up (mz_up (mz_up (mz_up (mz_up (mz_up (mz_up (mz_up (mz_up (mz_up (mz_up (mz_i xs Ln) 61 0 0) 62 0 0) 63 0 0) 63 1 0) 63 2 0) 63 3 0) 63 4 0) 63 5 0) 63 6 0) 63 7 0) 63 8 0) 63 9 0) 63 10 0) 63 11 0) 63 12 0) 63 13 0) 63 14 0) 63 15 0) 63 16 0) 63 17 0) 63 18 0) 63 19 0) 63 20 0) 63 21 0) 63 22 0) 63 23 0) rfl ⟨?_, rfl⟩ ?_
              · refine mz_go 8 (c' := (15, [some (.int 0), some (.int 0), some (.int 3)], [.int 1], mz_up (mz_up (mz_up (mz_up (mz_up (mz_up (mz_up (mz_up (mz_up (mz_up (mz_up (mz_up (mz_up (mz_up (mz_up (mz_up (mz_up (mz_up (mz_up (mz_up (mz_up (mz_up (mz_up (mz_up (mz_up (mz_up (mz_i xs Ln) 61 0 0) 62 0 0) 63 0 0) 63 1 0) 63 2 0) 63 3 0) 63 4 0) 63 5 0) 63 6 0) 63 7 0) 63 8 0) 63 9 0) 63 10 0) 63 11 0) 63 12 0) 63 13 0) 63 14 0) 63 15 0) 63 16 0) 63 17 0) 63 18 0) 63 19 0) 63 20 0) 63 21 0) 63 22 0) 63 23 0)) rfl ?_
                exact mz_ret rfl
              exact mz_ret rfl
            refine mz_go 362 (c' := (117, [some (.ref 65), some (.int 0), some (.int 0), some (.int c), some (.int 24)], [.int 1], mz_up (mz_up (mz_up (mz_up (mz_up (mz_up (mz_up (mz_up (mz_up (mz_up (mz_up (mz_up (mz_up (mz_up (mz_up (mz_up (mz_up (mz_up (mz_up (mz_up (mz_up (mz_up (mz_up (mz_up (mz_up (mz_up (mz_up (mz_up (mz_up (mz_up (mz_up (mz_up (mz_up (mz_up (mz_up (mz_up (mz_up (mz_up (mz_up (mz_up (mz_up (mz_up (mz_up (mz_up (mz_up (mz_up (mz_up (mz_up (mz_up (mz_up (mz_up (mz_up (mz_i xs Ln) 61 0 0) 62 0 0) 63 0 0) 63 1 0) 63 2 0) 63 3 0) 63 4 0) 63 5 0) 63 6 0) 63 7 0) 63 8 0) 63 9 0) 63 10 0) 63 11 0) 63 12 0) 63 13 0) 63 14 0) 63 15 0) 63 16 0) 63 17 0) 63 18 0) 63 19 0) 63 20 0) 63 21 0) 63 22 0) 63 23 0) 75 0 0) 76 0 0) 77 0 0) 77 1 0) 77 2 0) 77 3 0) 77 4 0) 77 5 0) 77 6 0) 77 7 0) 77 8 0) 77 9 0) 77 10 0) 77 11 0) 77 12 0) 77 13 0) 77 14 0) 77 15 0) 77 16 0) 77 17 0) 77 18 0) 77 19 0) 77 20 0) 77 21 0) 77 22 0) 77 23 0)) rfl ?_
            exact mz_ret rfl
        · refine ⟨1, mz_up (mz_up (mz_up (mz_up (mz_up (mz_up (mz_up (mz_up (mz_up (mz_up (mz_up (mz_up (mz_up (mz_up (mz_up (mz_up (mz_up (mz_up (mz_up (mz_up (mz_up (mz_up (mz_up (mz_up (mz_up (mz_up (mz_i xs Ln) 61 1 0) 62 1 0) 63 24 0) 63 25 0) 63 26 0) 63 27 0) 63 28 0) 63 29 0) 63 30 0) 63 31 0) 63 32 0) 63 33 0) 63 34 0) 63 35 0) 63 36 0) 63 37 0) 63 38 0) 63 39 0) 63 40 0) 63 41 0) 63 42 0) 63 43 0) 63 44 0) 63 45 0) 63 46 0) 63 47 0, mz_up (mz_up (mz_up (mz_up (mz_up (mz_up (mz_up (mz_up (mz_up (mz_up (mz_up (mz_up (mz_up (mz_up (mz_up (mz_up (mz_up (mz_up (mz_up (mz_up (mz_up (mz_up (mz_up (mz_up (mz_up (mz_up (mz_up (mz_up (mz_up (mz_up (mz_up (mz_up (mz_up (mz_up (mz_up (mz_up (mz_up (mz_up (mz_up (mz_up (mz_up (mz_up (mz_up (mz_up (mz_up (mz_up (mz_up (mz_up (mz_up (mz_up (mz_up (mz_up (mz_i xs Ln) 61 1 0) 62 1 0) 63 24 0) 63 25 0) 63 26 0) 63 27 0) 63 28 0) 63 29 0) 63 30 0) 63 31 0) 63 32 0) 63 33 0) 63 34 0) 63 35 0) 63 36 0) 63 37 0) 63 38 0) 63 39 0) 63 40 0) 63 41 0) 63 42 0) 63 43 0) 63 44 0) 63 45 0) 63 46 0) 63 47 0) 75 1 0) 76 1 0) 77 24 0) 77 25 0) 77 26 0) 77 27 0) 77 28 0) 77 29 0) 77 30 0) 77 31 0) 77 32 0) 77 33 0) 77 34 0) 77 35 0) 77 36 0) 77 37 0) 77 38 0) 77 39 0) 77 40 0) 77 41 0) 77 42 0) 77 43 0) 77 44 0) 77 45 0) 77 46 0) 77 47 0, ⟨?_, rfl⟩, ⟨?_, rfl⟩⟩
          · refine mz_go 3 (c' := (5, [some (.ref 0), some (.int 1), some (.int 0), some (.int c)], [.int 1, .ref 60], (mz_i xs Ln))) rfl ?_
            refine mz_do (R := mz_r45) (as := [.ref 60, .int 1]) (rest := []) (r1 := some (.int 1)) (m1 := (mz_i xs Ln)) rfl ⟨?_, rfl⟩ ?_
            · refine mz_go 7 (c' := (14, [some (.ref 60), some (.int 1)], [.int 1], (mz_i xs Ln))) rfl ?_
              exact mz_ret rfl
            refine mz_go 15 (c' := (84, [some (.ref 0), some (.int 1), some (.int 0), some (.int c)], [.int 0, .int 0, .int 1, .ref 60], (mz_i xs Ln))) rfl ?_
            refine mz_do (R := mz_r47) (as := [.ref 60, .int 1, .int 0, .int 0]) (rest := []) (r1 := none) (m1 := mz_up (mz_up (mz_up (mz_up (mz_up (mz_up (mz_up (mz_up (mz_up (mz_up (mz_up (mz_up (mz_up (mz_up (mz_up (mz_up (mz_up (mz_up (mz_up (mz_up (mz_up (mz_up (mz_up (mz_up (mz_up (mz_up (mz_i xs Ln) 61 1 0) 62 1 0) 63 24 0) 63 25 0) 63 26 0) 63 27 0) 63 28 0) 63 29 0) 63 30 0) 63 31 0) 63 32 0) 63 33 0) 63 34 0) 63 35 0) 63 36 0) 63 37 0) 63 38 0) 63 39 0) 63 40 0) 63 41 0) 63 42 0) 63 43 0) 63 44 0) 63 45 0) 63 46 0) 63 47 0) rfl ⟨?_, rfl⟩ ?_
            · refine mz_go 2 (c' := (2, [some (.ref 60), some (.int 1), some (.int 0), some (.int 0), none], [.int 1, .ref 60], (mz_i xs Ln))) rfl ?_
              refine mz_do (R := mz_r45) (as := [.ref 60, .int 1]) (rest := []) (r1 := some (.int 1)) (m1 := (mz_i xs Ln)) rfl ⟨?_, rfl⟩ ?_
              · refine mz_go 7 (c' := (14, [some (.ref 60), some (.int 1)], [.int 1], (mz_i xs Ln))) rfl ?_
                exact mz_ret rfl
              refine mz_go 4 (c' := (12, [some (.ref 60), some (.int 1), some (.int 0), some (.int 0), none], [.int 24, .int 0, .int 0], (mz_i xs Ln))) rfl ?_
              refine mz_do (R := mz_r121) (as := [.int 0, .int 0, .int 24]) (rest := []) (r1 := some (.int 1)) (m1 := (mz_i xs Ln)) rfl ⟨?_, rfl⟩ ?_
              · refine mz_go 8 (c' := (15, [some (.int 0), some (.int 0), some (.int 24)], [.int 1], (mz_i xs Ln))) rfl ?_
                exact mz_ret rfl
              refine mz_go 352 (c' := (61, [some (.ref 60), some (.int 1), some (.int 0), some (.int 0), some (.int 24)], [], mz_up (mz_up (mz_up (mz_up (mz_up (mz_up (mz_up (mz_up (mz_up (mz_up (mz_up (mz_up (mz_up (mz_up (mz_up (mz_up (mz_up (mz_up (mz_up (mz_up (mz_up (mz_up (mz_up (mz_up (mz_up (mz_up (mz_i xs Ln) 61 1 0) 62 1 0) 63 24 0) 63 25 0) 63 26 0) 63 27 0) 63 28 0) 63 29 0) 63 30 0) 63 31 0) 63 32 0) 63 33 0) 63 34 0) 63 35 0) 63 36 0) 63 37 0) 63 38 0) 63 39 0) 63 40 0) 63 41 0) 63 42 0) 63 43 0) 63 44 0) 63 45 0) 63 46 0) 63 47 0)) rfl ?_
              exact mz_ret rfl
            refine mz_go 1 (c' := (88, [some (.ref 0), some (.int 1), some (.int 0), some (.int c)], [.int 1], mz_up (mz_up (mz_up (mz_up (mz_up (mz_up (mz_up (mz_up (mz_up (mz_up (mz_up (mz_up (mz_up (mz_up (mz_up (mz_up (mz_up (mz_up (mz_up (mz_up (mz_up (mz_up (mz_up (mz_up (mz_up (mz_up (mz_i xs Ln) 61 1 0) 62 1 0) 63 24 0) 63 25 0) 63 26 0) 63 27 0) 63 28 0) 63 29 0) 63 30 0) 63 31 0) 63 32 0) 63 33 0) 63 34 0) 63 35 0) 63 36 0) 63 37 0) 63 38 0) 63 39 0) 63 40 0) 63 41 0) 63 42 0) 63 43 0) 63 44 0) 63 45 0) 63 46 0) 63 47 0)) rfl ?_
            exact mz_ret rfl
          · refine mz_go 1 (c' := (1, [some (.ref 65), some (.int 1), some (.int 0), some (.int c), none], [.int 1], mz_up (mz_up (mz_up (mz_up (mz_up (mz_up (mz_up (mz_up (mz_up (mz_up (mz_up (mz_up (mz_up (mz_up (mz_up (mz_up (mz_up (mz_up (mz_up (mz_up (mz_up (mz_up (mz_up (mz_up (mz_up (mz_up (mz_i xs Ln) 61 1 0) 62 1 0) 63 24 0) 63 25 0) 63 26 0) 63 27 0) 63 28 0) 63 29 0) 63 30 0) 63 31 0) 63 32 0) 63 33 0) 63 34 0) 63 35 0) 63 36 0) 63 37 0) 63 38 0) 63 39 0) 63 40 0) 63 41 0) 63 42 0) 63 43 0) 63 44 0) 63 45 0) 63 46 0) 63 47 0)) rfl ?_
            refine mz_do (R := mz_r219) (as := [.int 1]) (rest := []) (r1 := some (.int 1)) (m1 := mz_up (mz_up (mz_up (mz_up (mz_up (mz_up (mz_up (mz_up (mz_up (mz_up (mz_up (mz_up (mz_up (mz_up (mz_up (mz_up (mz_up (mz_up (mz_up (mz_up (mz_up (mz_up (mz_up (mz_up (mz_up (mz_up (mz_i xs Ln) 61 1 0) 62 1 0) 63 24 0) 63 25 0) 63 26 0) 63 27 0) 63 28 0) 63 29 0) 63 30 0) 63 31 0) 63 32 0) 63 33 0) 63 34 0) 63 35 0) 63 36 0) 63 37 0) 63 38 0) 63 39 0) 63 40 0) 63 41 0) 63 42 0) 63 43 0) 63 44 0) 63 45 0) 63 46 0) 63 47 0) rfl ⟨?_, rfl⟩ ?_
            · refine mz_go 3 (c' := (3, [some (.int 1)], [.int 3, .int 0, .int 1], mz_up (mz_up (mz_up (mz_up (mz_up (mz_up (mz_up (mz_up (mz_up (mz_up (mz_up (mz_up (mz_up (mz_up (mz_up (mz_up (mz_up (mz_up (mz_up (mz_up (mz_up (mz_up (mz_up (mz_up (mz_up (mz_up (mz_i xs Ln) 61 1 0) 62 1 0) 63 24 0) 63 25 0) 63 26 0) 63 27 0) 63 28 0) 63 29 0) 63 30 0) 63 31 0) 63 32 0) 63 33 0) 63 34 0) 63 35 0) 63 36 0) 63 37 0) 63 38 0) 63 39 0) 63 40 0) 63 41 0) 63 42 0) 63 43 0) 63 44 0) 63 45 0) 63 46 0) 63 47 0)) rfl ?_
              refine mz_do (R := mz_r128) (as := [.int 1, .int 0, .int 3]) (rest := []) (r1 := some (.int 1)) (m1 := mz_up (mz_up (mz_up (mz_up (mz_up (mz_up (mz_up (mz_up (mz_up (mz_up (mz_up (mz_up (mz_up (mz_up (mz_up (mz_up (mz_up (mz_up (mz_up (mz_up (mz_up (mz_up (mz_up (mz_up (mz_up (mz_up (mz_i xs Ln) 61 1 0) 62 1 0) 63 24 0) 63 25 0) 63 26 0) 63 27 0) 63 28 0) 63 29 0) 63 30 0) 63 31 0) 63 32 0) 63 33 0) 63 34 0) 63 35 0) 63 36 0) 63 37 0) 63 38 0) 63 39 0) 63 40 0) 63 41 0) 63 42 0) 63 43 0) 63 44 0) 63 45 0) 63 46 0) 63 47 0) rfl ⟨?_, rfl⟩ ?_
              · refine mz_go 8 (c' := (15, [some (.int 1), some (.int 0), some (.int 3)], [.int 1], mz_up (mz_up (mz_up (mz_up (mz_up (mz_up (mz_up (mz_up (mz_up (mz_up (mz_up (mz_up (mz_up (mz_up (mz_up (mz_up (mz_up (mz_up (mz_up (mz_up (mz_up (mz_up (mz_up (mz_up (mz_up (mz_up (mz_i xs Ln) 61 1 0) 62 1 0) 63 24 0) 63 25 0) 63 26 0) 63 27 0) 63 28 0) 63 29 0) 63 30 0) 63 31 0) 63 32 0) 63 33 0) 63 34 0) 63 35 0) 63 36 0) 63 37 0) 63 38 0) 63 39 0) 63 40 0) 63 41 0) 63 42 0) 63 43 0) 63 44 0) 63 45 0) 63 46 0) 63 47 0)) rfl ?_
                exact mz_ret rfl
              exact mz_ret rfl
            refine mz_go 362 (c' := (117, [some (.ref 65), some (.int 1), some (.int 0), some (.int c), some (.int 24)], [.int 1], mz_up (mz_up (mz_up (mz_up (mz_up (mz_up (mz_up (mz_up (mz_up (mz_up (mz_up (mz_up (mz_up (mz_up (mz_up (mz_up (mz_up (mz_up (mz_up (mz_up (mz_up (mz_up (mz_up (mz_up (mz_up (mz_up (mz_up (mz_up (mz_up (mz_up (mz_up (mz_up (mz_up (mz_up (mz_up (mz_up (mz_up (mz_up (mz_up (mz_up (mz_up (mz_up (mz_up (mz_up (mz_up (mz_up (mz_up (mz_up (mz_up (mz_up (mz_up (mz_up (mz_i xs Ln) 61 1 0) 62 1 0) 63 24 0) 63 25 0) 63 26 0) 63 27 0) 63 28 0) 63 29 0) 63 30 0) 63 31 0) 63 32 0) 63 33 0) 63 34 0) 63 35 0) 63 36 0) 63 37 0) 63 38 0) 63 39 0) 63 40 0) 63 41 0) 63 42 0) 63 43 0) 63 44 0) 63 45 0) 63 46 0) 63 47 0) 75 1 0) 76 1 0) 77 24 0) 77 25 0) 77 26 0) 77 27 0) 77 28 0) 77 29 0) 77 30 0) 77 31 0) 77 32 0) 77 33 0) 77 34 0) 77 35 0) 77 36 0) 77 37 0) 77 38 0) 77 39 0) 77 40 0) 77 41 0) 77 42 0) 77 43 0) 77 44 0) 77 45 0) 77 46 0) 77 47 0)) rfl ?_
            exact mz_ret rfl
        · refine ⟨1, mz_up (mz_up (mz_up (mz_up (mz_up (mz_up (mz_up (mz_up (mz_up (mz_up (mz_up (mz_up (mz_up (mz_up (mz_up (mz_up (mz_up (mz_up (mz_up (mz_up (mz_up (mz_up (mz_up (mz_up (mz_up (mz_up (mz_i xs Ln) 61 2 0) 62 2 0) 63 48 0) 63 49 0) 63 50 0) 63 51 0) 63 52 0) 63 53 0) 63 54 0) 63 55 0) 63 56 0) 63 57 0) 63 58 0) 63 59 0) 63 60 0) 63 61 0) 63 62 0) 63 63 0) 63 64 0) 63 65 0) 63 66 0) 63 67 0) 63 68 0) 63 69 0) 63 70 0) 63 71 0, mz_up (mz_up (mz_up (mz_up (mz_up (mz_up (mz_up (mz_up (mz_up (mz_up (mz_up (mz_up (mz_up (mz_up (mz_up (mz_up (mz_up (mz_up (mz_up (mz_up (mz_up (mz_up (mz_up (mz_up (mz_up (mz_up (mz_up (mz_up (mz_up (mz_up (mz_up (mz_up (mz_up (mz_up (mz_up (mz_up (mz_up (mz_up (mz_up (mz_up (mz_up (mz_up (mz_up (mz_up (mz_up (mz_up (mz_up (mz_up (mz_up (mz_up (mz_up (mz_up (mz_i xs Ln) 61 2 0) 62 2 0) 63 48 0) 63 49 0) 63 50 0) 63 51 0) 63 52 0) 63 53 0) 63 54 0) 63 55 0) 63 56 0) 63 57 0) 63 58 0) 63 59 0) 63 60 0) 63 61 0) 63 62 0) 63 63 0) 63 64 0) 63 65 0) 63 66 0) 63 67 0) 63 68 0) 63 69 0) 63 70 0) 63 71 0) 75 2 0) 76 2 0) 77 48 0) 77 49 0) 77 50 0) 77 51 0) 77 52 0) 77 53 0) 77 54 0) 77 55 0) 77 56 0) 77 57 0) 77 58 0) 77 59 0) 77 60 0) 77 61 0) 77 62 0) 77 63 0) 77 64 0) 77 65 0) 77 66 0) 77 67 0) 77 68 0) 77 69 0) 77 70 0) 77 71 0, ⟨?_, rfl⟩, ⟨?_, rfl⟩⟩
          · refine mz_go 3 (c' := (5, [some (.ref 0), some (.int 2), some (.int 0), some (.int c)], [.int 2, .ref 60], (mz_i xs Ln))) rfl ?_
            refine mz_do (R := mz_r45) (as := [.ref 60, .int 2]) (rest := []) (r1 := some (.int 1)) (m1 := (mz_i xs Ln)) rfl ⟨?_, rfl⟩ ?_
            · refine mz_go 7 (c' := (14, [some (.ref 60), some (.int 2)], [.int 1], (mz_i xs Ln))) rfl ?_
              exact mz_ret rfl
            refine mz_go 15 (c' := (84, [some (.ref 0), some (.int 2), some (.int 0), some (.int c)], [.int 0, .int 0, .int 2, .ref 60], (mz_i xs Ln))) rfl ?_
            refine mz_do (R := mz_r47) (as := [.ref 60, .int 2, .int 0, .int 0]) (rest := []) (r1 := none) (m1 := mz_up (mz_up (mz_up (mz_up (mz_up (mz_up (mz_up (mz_up (mz_up (mz_up (mz_up (mz_up (mz_up (mz_up (mz_up (mz_up (mz_up (mz_up (mz_up (mz_up (mz_up (mz_up (mz_up (mz_up (mz_up (mz_up (mz_i xs Ln) 61 2 0) 62 2 0) 63 48 0) 63 49 0) 63 50 0) 63 51 0) 63 52 0) 63 53 0) 63 54 0) 63 55 0) 63 56 0) 63 57 0) 63 58 0) 63 59 0) 63 60 0) 63 61 0) 63 62 0) 63 63 0) 63 64 0) 63 65 0) 63 66 0) 63 67 0) 63 68 0) 63 69 0) 63 70 0) 63 71 0) rfl ⟨?_, rfl⟩ ?_
            · refine mz_go 2 (c' := (2, [some (.ref 60), some (.int 2), some (.int 0), some (.int 0), none], [.int 2, .ref 60], (mz_i xs Ln))) rfl ?_
              refine mz_do (R := mz_r45) (as := [.ref 60, .int 2]) (rest := []) (r1 := some (.int 1)) (m1 := (mz_i xs Ln)) rfl ⟨?_, rfl⟩ ?_
              · refine mz_go 7 (c' := (14, [some (.ref 60), some (.int 2)], [.int 1], (mz_i xs Ln))) rfl ?_
                exact mz_ret rfl
              refine mz_go 4 (c' := (12, [some (.ref 60), some (.int 2), some (.int 0), some (.int 0), none], [.int 24, .int 0, .int 0], (mz_i xs Ln))) rfl ?_
              refine mz_do (R := mz_r121) (as := [.int 0, .int 0, .int 24]) (rest := []) (r1 := some (.int 1)) (m1 := (mz_i xs Ln)) rfl ⟨?_, rfl⟩ ?_
              · refine mz_go 8 (c' := (15, [some (.int 0), some (.int 0), some (.int 24)], [.int 1], (mz_i xs Ln))) rfl ?_
                exact mz_ret rfl
              refine mz_go 352 (c' := (61, [some (.ref 60), some (.int 2), some (.int 0), some (.int 0), some (.int 24)], [], mz_up (mz_up (mz_up (mz_up (mz_up (mz_up (mz_up (mz_up (mz_up (mz_up (mz_up (mz_up (mz_up (mz_up (mz_up (mz_up (mz_up (mz_up (mz_up (mz_up (mz_up (mz_up (mz_up (mz_up (mz_up (mz_up (mz_i xs Ln) 61 2 0) 62 2 0) 63 48 0) 63 49 0) 63 50 0) 63 51 0) 63 52 0) 63 53 0) 63 54 0) 63 55 0) 63 56 0) 63 57 0) 63 58 0) 63 59 0) 63 60 0) 63 61 0) 63 62 0) 63 63 0) 63 64 0) 63 65 0) 63 66 0) 63 67 0) 63 68 0) 63 69 0) 63 70 0) 63 71 0)) rfl ?_
              exact mz_ret rfl
            refine mz_go 1 (c' := (88, [some (.ref 0), some (.int 2), some (.int 0), some (.int c)], [.int 1], mz_up (mz_up (mz_up (mz_up (mz_up (mz_up (mz_up (mz_up (mz_up (mz_up (mz_up (mz_up (mz_up (mz_up (mz_up (mz_up (mz_up (mz_up (mz_up (mz_up (mz_up (mz_up (mz_up (mz_up (mz_up (mz_up (mz_i xs Ln) 61 2 0) 62 2 0) 63 48 0) 63 49 0) 63 50 0) 63 51 0) 63 52 0) 63 53 0) 63 54 0) 63 55 0) 63 56 0) 63 57 0) 63 58 0) 63 59 0) 63 60 0) 63 61 0) 63 62 0) 63 63 0) 63 64 0) 63 65 0) 63 66 0) 63 67 0) 63 68 0) 63 69 0) 63 70 0) 63 71 0)) rfl ?_
            exact mz_ret rfl
          · refine mz_go 1 (c' := (1, [some (.ref 65), some (.int 2), some (.int 0), some (.int c), none], [.int 2], mz_up (mz_up (mz_up (mz_up (mz_up (mz_up (mz_up (mz_up (mz_up (mz_up (mz_up (mz_up (mz_up (mz_up (mz_up (mz_up (mz_up (mz_up (mz_up (mz_up (mz_up (mz_up (mz_up (mz_up (mz_up (mz_up (mz_i xs Ln) 61 2 0) 62 2 0) 63 48 0) 63 49 0) 63 50 0) 63 51 0) 63 52 0) 63 53 0) 63 54 0) 63 55 0) 63 56 0) 63 57 0) 63 58 0) 63 59 0) 63 60 0) 63 61 0) 63 62 0) 63 63 0) 63 64 0) 63 65 0) 63 66 0) 63 67 0) 63 68 0) 63 69 0) 63 70 0) 63 71 0)) rfl ?_
            refine mz_do (R := mz_r219) (as := [.int 2]) (rest := []) (r1 := some (.int 1)) (m1 := mz_up (mz_up (mz_up (mz_up (mz_up (mz_up (mz_up (mz_up (mz_up (mz_up (mz_up (mz_up (mz_up (mz_up (mz_up (mz_up (mz_up (mz_up (mz_up (mz_up (mz_up (mz_up (mz_up (mz_up (mz_up (mz_up (mz_i xs Ln) 61 2 0) 62 2 0) 63 48 0) 63 49 0) 63 50 0) 63 51 0) 63 52 0) 63 53 0) 63 54 0) 63 55 0) 63 56 0) 63 57 0) 63 58 0) 63 59 0) 63 60 0) 63 61 0) 63 62 0) 63 63 0) 63 64 0) 63 65 0) 63 66 0) 63 67 0) 63 68 0) 63 69 0) 63 70 0) 63 71 0) rfl ⟨?_, rfl⟩ ?_
            · refine mz_go 3 (c' := (3, [some (.int 2)], [.int 3, .int 0, .int 2], mz_up (mz_up (mz_up (mz_up (mz_up (mz_up (mz_up (mz_up (mz_up (mz_up (mz_up (mz_up (mz_up (mz_up (mz_up (mz_up (mz_up (mz_up (mz_up (mz_up (mz_up (mz_up (mz_up (mz_up (mz_up (mz_up (mz_i xs Ln) 61 2 0) 62 2 0) 63 48 0) 63 49 0) 63 50 0) 63 51 0) 63 52 0) 63 53 0) 63 54 0) 63 55 0) 63 56 0) 63 57 0) 63 58 0) 63 59 0) 63 60 0) 63 61 0) 63 62 0) 63 63 0) 63 64 0) 63 65 0) 63 66 0) 63 67 0) 63 68 0) 63 69 0) 63 70 0) 63 71 0)) rfl ?_
              refine mz_do (R := mz_r128) (as := [.int 2, .int 0, .int 3]) (rest := []) (r1 := some (.int 1)) (m1 := mz_up (mz_up (mz_up (mz_up (mz_up (mz_up (mz_up (mz_up (mz_up (mz_up (mz_up (mz_up (mz_up (mz_up (mz_up (mz_up (mz_up (mz_up (mz_up (mz_up (mz_up (mz_up (mz_up (mz_up (mz_up (mz_up (mz_i xs Ln) 61 2 0) 62 2 0) 63 48 0) 63 49 0) 63 50 0) 63 51 0) 63 52 0) 63 53 0) 63 54 0) 63 55 0) 63 56 0) 63 57 0) 63 58 0) 63 59 0) 63 60 0) 63 61 0) 63 62 0) 63 63 0) 63 64 0) 63 65 0) 63 66 0) 63 67 0) 63 68 0) 63 69 0) 63 70 0) 63 71 0) rfl ⟨?_, rfl⟩ ?_
              · refine mz_go 8 (c' := (15, [some (.int 2), some (.int 0), some (.int 3)], [.int 1], mz_up (mz_up (mz_up (mz_up (mz_up (mz_up (mz_up (mz_up (mz_up (mz_up (mz_up (mz_up (mz_up (mz_up (mz_up (mz_up (mz_up (mz_up (mz_up (mz_up (mz_up (mz_up (mz_up (mz_up (mz_up (mz_up (mz_i xs Ln) 61 2 0) 62 2 0) 63 48 0) 63 49 0) 63 50 0) 63 51 0) 63 52 0) 63 53 0) 63 54 0) 63 55 0) 63 56 0) 63 57 0) 63 58 0) 63 59 0) 63 60 0) 63 61 0) 63 62 0) 63 63 0) 63 64 0) 63 65 0) 63 66 0) 63 67 0) 63 68 0) 63 69 0) 63 70 0) 63 71 0)) rfl ?_
                exact mz_ret rfl
              exact mz_ret rfl
            refine mz_go 362 (c' := (117, [some (.ref 65), some (.int 2), some (.int 0), some (.int c), some (.int 24)], [.int 1], mz_up (mz_up (mz_up (mz_up (mz_up (mz_up (mz_up (mz_up (mz_up (mz_up (mz_up (mz_up (mz_up (mz_up (mz_up (mz_up (mz_up (mz_up (mz_up (mz_up (mz_up (mz_up (mz_up (mz_up (mz_up (mz_up (mz_up (mz_up (mz_up (mz_up (mz_up (mz_up (mz_up (mz_up (mz_up (mz_up (mz_up (mz_up (mz_up (mz_up (mz_up (mz_up (mz_up (mz_up (mz_up (mz_up (mz_up (mz_up (mz_up (mz_up (mz_up (mz_up (mz_i xs Ln) 61 2 0) 62 2 0) 63 48 0) 63 49 0) 63 50 0) 63 51 0) 63 52 0) 63 53 0) 63 54 0) 63 55 0) 63 56 0) 63 57 0) 63 58 0) 63 59 0) 63 60 0) 63 61 0) 63 62 0) 63 63 0) 63 64 0) 63 65 0) 63 66 0) 63 67 0) 63 68 0) 63 69 0) 63 70 0) 63 71 0) 75 2 0) 76 2 0) 77 48 0) 77 49 0) 77 50 0) 77 51 0) 77 52 0) 77 53 0) 77 54 0) 77 55 0) 77 56 0) 77 57 0) 77 58 0) 77 59 0) 77 60 0) 77 61 0) 77 62 0) 77 63 0) 77 64 0) 77 65 0) 77 66 0) 77 67 0) 77 68 0) 77 69 0) 77 70 0) 77 71 0)) rfl ?_
            exact mz_ret rfl
        · refine ⟨1, mz_up (mz_up (mz_up (mz_up (mz_up (mz_up (mz_up (mz_up (mz_up (mz_up (mz_up (mz_up (mz_up (mz_up (mz_up (mz_up (mz_up (mz_up (mz_up (mz_up (mz_up (mz_up (mz_up (mz_up (mz_up (mz_up (mz_i xs Ln) 61 3 0) 62 3 0) 63 72 0) 63 73 0) 63 74 0) 63 75 0) 63 76 0) 63 77 0) 63 78 0) 63 79 0) 63 80 0) 63 81 0) 63 82 0) 63 83 0) 63 84 0) 63 85 0) 63 86 0) 63 87 0) 63 88 0) 63 89 0) 63 90 0) 63 91 0) 63 92 0) 63 93 0) 63 94 0) 63 95 0, mz_up (mz_up (mz_up (mz_up (mz_up (mz_up (mz_up (mz_up (mz_up (mz_up (mz_up (mz_up (mz_up (mz_up (mz_up (mz_up (mz_up (mz_up (mz_up (mz_up (mz_up (mz_up (mz_up (mz_up (mz_up (mz_up (mz_up (mz_up (mz_up (mz_up (mz_up (mz_up (mz_up (mz_up (mz_up (mz_up (mz_up (mz_up (mz_up (mz_up (mz_up (mz_up (mz_up (mz_up (mz_up (mz_up (mz_up (mz_up (mz_up (mz_up (mz_up (mz_up (mz_i xs Ln) 61 3 0) 62 3 0) 63 72 0) 63 73 0) 63 74 0) 63 75 0) 63 76 0) 63 77 0) 63 78 0) 63 79 0) 63 80 0) 63 81 0) 63 82 0) 63 83 0) 63 84 0) 63 85 0) 63 86 0) 63 87 0) 63 88 0) 63 89 0) 63 90 0) 63 91 0) 63 92 0) 63 93 0) 63 94 0) 63 95 0) 75 3 0) 76 3 0) 77 72 0) 77 73 0) 77 74 0) 77 75 0) 77 76 0) 77 77 0) 77 78 0) 77 79 0) 77 80 0) 77 81 0) 77 82 0) 77 83 0) 77 84 0) 77 85 0) 77 86 0) 77 87 0) 77 88 0) 77 89 0) 77 90 0) 77 91 0) 77 92 0) 77 93 0) 77 94 0) 77 95 0, ⟨?_, rfl⟩, ⟨?_, rfl⟩⟩
          · refine mz_go 3 (c' := (5, [some (.ref 0), some (.int 3), some (.int 0), some (.int c)], [.int 3, .ref 60], (mz_i xs Ln))) rfl ?_
            refine mz_do (R := mz_r45) (as := [.ref 60, .int 3]) (rest := []) (r1 := some (.int 1)) (m1 := (mz_i xs Ln)) rfl ⟨?_, rfl⟩ ?_
            · refine mz_go 7 (c' := (14, [some (.ref 60), some (.int 3)], [.int 1], (mz_i xs Ln))) rfl ?_
              exact mz_ret rfl
            refine mz_go 15 (c' := (84, [some (.ref 0), some (.int 3), some (.int 0), some (.int c)], [.int 0, .int 0, .int 3, .ref 60], (mz_i xs Ln))) rfl ?_
            refine mz_do (R := mz_r47) (as := [.ref 60, .int 3, .int 0, .int 0]) (rest := []) (r1 := none) (m1 := mz_up (mz_up (mz_up (mz_up (mz_up (mz_up (mz_up (mz_up (mz_up (mz_up (mz_up (mz_up (mz_up (mz_up (mz_up (mz_up (mz_up (mz_up (mz_up (mz_up (mz_up (mz_up (mz_up (mz_up (mz_up (mz_up (mz_i xs Ln) 61 3 0) 62 3 0) 63 72 0) 63 73 0) 63 74 0) 63 75 0) 63 76 0) 63 77 0) 63 78 0) 63 79 0) 63 80 0) 63 81 0) 63 82 0) 63 83 0) 63 84 0) 63 85 0) 63 86 0) 63 87 0) 63 88 0) 63 89 0) 63 90 0) 63 91 0) 63 92 0) 63 93 0) 63 94 0) 63 95 0) rfl ⟨?_, rfl⟩ ?_
            · refine mz_go 2 (c' := (2, [some (.ref 60), some (.int 3), some (.int 0), some (.int 0), none], [.int 3, .ref 60], (mz_i xs Ln))) rfl ?_
              refine mz_do (R := mz_r45) (as := [.ref 60, .int 3]) (rest := []) (r1 := some (.int 1)) (m1 := (mz_i xs Ln)) rfl ⟨?_, rfl⟩ ?_
              · refine mz_go 7 (c' := (14, [some (.ref 60), some (.int 3)], [.int 1], (mz_i xs Ln))) rfl ?_
                exact mz_ret rfl
              refine mz_go 4 (c' := (12, [some (.ref 60), some (.int 3), some (.int 0), some (.int 0), none], [.int 24, .int 0, .int 0], (mz_i xs Ln))) rfl ?_
              refine mz_do (R := mz_r121) (as := [.int 0, .int 0, .int 24]) (rest := []) (r1 := some (.int 1)) (m1 := (mz_i xs Ln)) rfl ⟨?_, rfl⟩ ?_
              · refine mz_go 8 (c' := (15, [some (.int 0), some (.int 0), some (.int 24)], [.int 1], (mz_i xs Ln))) rfl ?_
                exact mz_ret rfl
              refine mz_go 352 (c' := (61, [some (.ref 60), some (.int 3), some (.int 0), some (.int 0), some (.int 24)], [], mz_up (mz_up (mz_up (mz_up (mz_up (mz_up (mz_up (mz_up (mz_up (mz_up (mz_up (mz_up (mz_up (mz_up (mz_up (mz_up (mz_up (mz_up (mz_up (mz_up (mz_up (mz_up (mz_up (mz_up (mz_up (mz_up (mz_i xs Ln) 61 3 0) 62 3 0) 63 72 0) 63 73 0) 63 74 0) 63 75 0) 63 76 0) 63 77 0) 63 78 0) 63 79 0) 63 80 0) 63 81 0) 63 82 0) 63 83 0) 63 84 0) 63 85 0) 63 86 0) 63 87 0) 63 88 0) 63 89 0) 63 90 0) 63 91 0) 63 92 0) 63 93 0) 63 94 0) 63 95 0)) rfl ?_
              exact mz_ret rfl
            refine mz_go 1 (c' := (88, [some (.ref 0), some (.int 3), some (.int 0), some (.int c)], [.int 1], mz_up (mz_up (mz_up (mz_up (mz_up (mz_up (mz_up (mz_up (mz_up (mz_up (mz_up (mz_up (mz_up (mz_up (mz_up (mz_up (mz_up (mz_up (mz_up (mz_up (mz_up (mz_up (mz_up (mz_up (mz_up (mz_up (mz_i xs Ln) 61 3 0) 62 3 0) 63 72 0) 63 73 0) 63 74 0) 63 75 0) 63 76 0) 63 77 0) 63 78 0) 63 79 0) 63 80 0) 63 81 0) 63 82 0) 63 83 0) 63 84 0) 63 85 0) 63 86 0) 63 87 0) 63 88 0) 63 89 0) 63 90 0) 63 91 0) 63 92 0) 63 93 0) 63 94 0) 63 95 0)) rfl ?_
            exact mz_ret rfl
          · refine mz_go 1 (c' := (1, [some (.ref 65), some (.int 3), some (.int 0), some (.int c), none], [.int 3], mz_up (mz_up (mz_up (mz_up (mz_up (mz_up (mz_up (mz_up (mz_up (mz_up (mz_up (mz_up (mz_up (mz_up (mz_up (mz_up (mz_up (mz_up (mz_up (mz_up (mz_up (mz_up (mz_up (mz_up (mz_up (mz_up (mz_i xs Ln) 61 3 0) 62 3 0) 63 72 0) 63 73 0) 63 74 0) 63 75 0) 63 76 0) 63 77 0) 63 78 0) 63 79 0) 63 80 0) 63 81 0) 63 82 0) 63 83 0) 63 84 0) 63 85 0) 63 86 0) 63 87 0) 63 88 0) 63 89 0) 63 90 0) 63 91 0) 63 92 0) 63 93 0) 63 94 0) 63 95 0)) rfl ?_
            refine mz_do (R := mz_r219) (as := [.int 3]) (rest := []) (r1 := some (.int 1)) (m1 := mz_up (mz_up (mz_up (mz_up (mz_up (mz_up (mz_up (mz_up (mz_up (mz_up (mz_up (mz_up (mz_up (mz_up (mz_up (mz_up (mz_up (mz_up (mz_up (mz_up (mz_up (mz_up (mz_up (mz_up (mz_up (mz_up (mz_i xs Ln) 61 3 0) 62 3 0) 63 72 0) 63 73 0) 63 74 0) 63 75 0) 63 76 0) 63 77 0) 63 78 0) 63 79 0) 63 80 0) 63 81 0) 63 82 0) 63 83 0) 63 84 0) 63 85 0) 63 86 0) 63 87 0) 63 88 0) 63 89 0) 63 90 0) 63 91 0) 63 92 0) 63 93 0) 63 94 0) 63 95 0) rfl ⟨?_, rfl⟩ ?_
            · refine mz_go 3 (c' := (3, [some (.int 3)], [.int 3, .int 0, .int 3], mz_up (mz_up (mz_up (mz_up (mz_up (mz_up (mz_up (mz_up (mz_up (mz_up (mz_up (mz_up (mz_up (mz_up (mz_up (mz_up (mz_up (mz_up (mz_up (mz_up (mz_up (mz_up (mz_up (mz_up (mz_up (mz_up (mz_i xs Ln) 61 3 0) 62 3 0) 63 72 0) 63 73 0) 63 74 0) 63 75 0) 63 76 0) 63 77 0) 63 78 0) 63 79 0) 63 80 0) 63 81 0) 63 82 0) 63 83 0) 63 84 0) 63 85 0) 63 86 0) 63 87 0) 63 88 0) 63 89 0) 63 90 0) 63 91 0) 63 92 0) 63 93 0) 63 94 0) 63 95 0)) rfl ?_
              refine mz_do (R := mz_r128) (as := [.int 3, .int 0, .int 3]) (rest := []) (r1 := some (.int 1)) (m1 := mz_up (mz_up (mz_up (mz_up (mz_up (mz_up (mz_up (mz_up (mz_up (mz_up (mz_up (mz_up (mz_up (mz_up (mz_up (mz_up (mz_up (mz_up (mz_up (mz_up (mz_up (mz_up (mz_up (mz_up (mz_up (mz_up (mz_i xs Ln) 61 3 0) 62 3 0) 63 72 0) 63 73 0) 63 74 0) 63 75 0) 63 76 0) 63 77 0) 63 78 0) 63 79 0) 63 80 0) 63 81 0) 63 82 0) 63 83 0) 63 84 0) 63 85 0) 63 86 0) 63 87 0) 63 88 0) 63 89 0) 63 90 0) 63 91 0) 63 92 0) 63 93 0) 63 94 0) 63 95 0) rfl ⟨?_, rfl⟩ ?_
              · refine mz_go 8 (c' := (15, [some (.int 3), some (.int 0), some (.int 3)], [.int 1], mz_up (mz_up (mz_up (mz_up (mz_up (mz_up (mz_up (mz_up (mz_up (mz_up (mz_up (mz_up (mz_up (mz_up (mz_up (mz_up (mz_up (mz_up (mz_up (mz_up (mz_up (mz_up (mz_up (mz_up (mz_up (mz_up (mz_i xs Ln) 61 3 0) 62 3 0) 63 72 0) 63 73 0) 63 74 0) 63 75 0) 63 76 0) 63 77 0) 63 78 0) 63 79 0) 63 80 0) 63 81 0) 63 82 0) 63 83 0) 63 84 0) 63 85 0) 63 86 0) 63 87 0) 63 88 0) 63 89 0) 63 90 0) 63 91 0) 63 92 0) 63 93 0) 63 94 0) 63 95 0)) rfl ?_
                exact mz_ret rfl
              exact mz_ret rfl
            refine mz_go 362 (c' := (117, [some (.ref 65), some (.int 3), some (.int 0), some (.int c), some (.int 24)], [.int 1], mz_up (mz_up (mz_up (mz_up (mz_up (mz_up (mz_up (mz_up (mz_up (mz_up (mz_up (mz_up (mz_up (mz_up (mz_up (mz_up (mz_up (mz_up (mz_up (mz_up (mz_up (mz_up (mz_up (mz_up (mz_up (mz_up (mz_up (mz_up (mz_up (mz_up (mz_up (mz_up (mz_up (mz_up (mz_up (mz_up (mz_up (mz_up (mz_up (mz_up (mz_up (mz_up (mz_up (mz_up (mz_up (mz_up (mz_up (mz_up (mz_up (mz_up (mz_up (mz_up (mz_i xs Ln) 61 3 0) 62 3 0) 63 72 0) 63 73 0) 63 74 0) 63 75 0) 63 76 0) 63 77 0) 63 78 0) 63 79 0) 63 80 0) 63 81 0) 63 82 0) 63 83 0) 63 84 0) 63 85 0) 63 86 0) 63 87 0) 63 88 0) 63 89 0) 63 90 0) 63 91 0) 63 92 0) 63 93 0) 63 94 0) 63 95 0) 75 3 0) 76 3 0) 77 72 0) 77 73 0) 77 74 0) 77 75 0) 77 76 0) 77 77 0) 77 78 0) 77 79 0) 77 80 0) 77 81 0) 77 82 0) 77 83 0) 77 84 0) 77 85 0) 77 86 0) 77 87 0) 77 88 0) 77 89 0) 77 90 0) 77 91 0) 77 92 0) 77 93 0) 77 94 0) 77 95 0)) rfl ?_
            exact mz_ret rfl
      · by_cases h5 : b = 8
        · subst h5
          by_cases h6 : 0 ≤ c
          · by_cases h7 : c ≤ 24
            · have hl8 : (0 : Int) ≤ (a).toInt := Int32.le_iff_toInt_le.mp (Int32.not_lt.mp h1)
              have hu8 : (a).toInt < (4 : Int) := Int32.lt_iff_toInt_lt.mp (Int32.not_le.mp h2)
              obtain rfl | rfl | rfl | rfl : a = 0 ∨ a = 1 ∨ a = 2 ∨ a = 3 := by
                  rcases (show a.toInt = 0 ∨ a.toInt = 1 ∨ a.toInt = 2 ∨ a.toInt = 3 by omega) with h | h | h | h
                  · exact (Or.inl (Int32.toInt_inj.mp h))
                  · exact (Or.inr (Or.inl (Int32.toInt_inj.mp h)))
                  · exact (Or.inr (Or.inr (Or.inl (Int32.toInt_inj.mp h))))
                  · exact (Or.inr (Or.inr (Or.inr (Int32.toInt_inj.mp h))))
              · refine ⟨1, mz_up (mz_up (mz_up (mz_up (mz_up (mz_up (mz_up (mz_up (mz_up (mz_up (mz_up (mz_up (mz_up (mz_up (mz_up (mz_up (mz_up (mz_up (mz_up (mz_up (mz_up (mz_up (mz_up (mz_up (mz_up (mz_up (mz_i xs Ln) 61 0 8) 62 0 c) 63 0 0) 63 1 0) 63 2 0) 63 3 0) 63 4 0) 63 5 0) 63 6 0) 63 7 0) 63 8 0) 63 9 0) 63 10 0) 63 11 0) 63 12 0) 63 13 0) 63 14 0) 63 15 0) 63 16 0) 63 17 0) 63 18 0) 63 19 0) 63 20 0) 63 21 0) 63 22 0) 63 23 0, mz_up (mz_up (mz_up (mz_up (mz_up (mz_up (mz_up (mz_up (mz_up (mz_up (mz_up (mz_up (mz_up (mz_up (mz_up (mz_up (mz_up (mz_up (mz_up (mz_up (mz_up (mz_up (mz_up (mz_up (mz_up (mz_up (mz_up (mz_up (mz_up (mz_up (mz_up (mz_up (mz_up (mz_up (mz_up (mz_up (mz_up (mz_up (mz_up (mz_up (mz_up (mz_up (mz_up (mz_up (mz_up (mz_up (mz_up (mz_up (mz_up (mz_up (mz_up (mz_up (mz_i xs Ln) 61 0 8) 62 0 c) 63 0 0) 63 1 0) 63 2 0) 63 3 0) 63 4 0) 63 5 0) 63 6 0) 63 7 0) 63 8 0) 63 9 0) 63 10 0) 63 11 0) 63 12 0) 63 13 0) 63 14 0) 63 15 0) 63 16 0) 63 17 0) 63 18 0) 63 19 0) 63 20 0) 63 21 0) 63 22 0) 63 23 0) 75 0 8) 76 0 c) 77 0 0) 77 1 0) 77 2 0) 77 3 0) 77 4 0) 77 5 0) 77 6 0) 77 7 0) 77 8 0) 77 9 0) 77 10 0) 77 11 0) 77 12 0) 77 13 0) 77 14 0) 77 15 0) 77 16 0) 77 17 0) 77 18 0) 77 19 0) 77 20 0) 77 21 0) 77 22 0) 77 23 0, ⟨?_, rfl⟩, ⟨?_, rfl⟩⟩
                · refine mz_go 3 (c' := (5, [some (.ref 0), some (.int 0), some (.int 8), some (.int c)], [.int 0, .ref 60], (mz_i xs Ln))) rfl ?_
                  refine mz_do (R := mz_r45) (as := [.ref 60, .int 0]) (rest := []) (r1 := some (.int 1)) (m1 := (mz_i xs Ln)) rfl ⟨?_, rfl⟩ ?_
                  · refine mz_go 7 (c' := (14, [some (.ref 60), some (.int 0)], [.int 1], (mz_i xs Ln))) rfl ?_
                    exact mz_ret rfl
                  refine mz_go 10 (c' := (if 0 ≤ c then 53 else 47, [some (.ref 0), some (.int 0), some (.int 8), some (.int c)], [], (mz_i xs Ln))) rfl ?_
                  refine mz_ifT h6 ?_
                  refine mz_go 5 (c' := (if c ≤ 24 then 69 else 63, [some (.ref 0), some (.int 0), some (.int 8), some (.int c)], [], (mz_i xs Ln))) rfl ?_
                  refine mz_ifT h7 ?_
                  refine mz_go 7 (c' := (84, [some (.ref 0), some (.int 0), some (.int 8), some (.int c)], [.int c, .int 8, .int 0, .ref 60], (mz_i xs Ln))) rfl ?_
                  refine mz_do (R := mz_r47) (as := [.ref 60, .int 0, .int 8, .int c]) (rest := []) (r1 := none) (m1 := mz_up (mz_up (mz_up (mz_up (mz_up (mz_up (mz_up (mz_up (mz_up (mz_up (mz_up (mz_up (mz_up (mz_up (mz_up (mz_up (mz_up (mz_up (mz_up (mz_up (mz_up (mz_up (mz_up (mz_up (mz_up (mz_up (mz_i xs Ln) 61 0 8) 62 0 c) 63 0 0) 63 1 0) 63 2 0) 63 3 0) 63 4 0) 63 5 0) 63 6 0) 63 7 0) 63 8 0) 63 9 0) 63 10 0) 63 11 0) 63 12 0) 63 13 0) 63 14 0) 63 15 0) 63 16 0) 63 17 0) 63 18 0) 63 19 0) 63 20 0) 63 21 0) 63 22 0) 63 23 0) rfl ⟨?_, rfl⟩ ?_
                  · refine mz_go 2 (c' := (2, [some (.ref 60), some (.int 0), some (.int 8), some (.int c), none], [.int 0, .ref 60], (mz_i xs Ln))) rfl ?_
                    refine mz_do (R := mz_r45) (as := [.ref 60, .int 0]) (rest := []) (r1 := some (.int 1)) (m1 := (mz_i xs Ln)) rfl ⟨?_, rfl⟩ ?_
                    · refine mz_go 7 (c' := (14, [some (.ref 60), some (.int 0)], [.int 1], (mz_i xs Ln))) rfl ?_
                      exact mz_ret rfl
                    refine mz_go 4 (c' := (12, [some (.ref 60), some (.int 0), some (.int 8), some (.int c), none], [.int 24, .int 0, .int c], (mz_i xs Ln))) rfl ?_
                    refine mz_do (R := mz_r121) (as := [.int c, .int 0, .int 24]) (rest := []) (r1 := some (.int 1)) (m1 := (mz_i xs Ln)) rfl ⟨?_, rfl⟩ ?_
                    · refine mz_go 3 (c' := (if c < 0 then 14 else 5, [some (.int c), some (.int 0), some (.int 24)], [], (mz_i xs Ln))) rfl ?_
                      refine mz_ifF (by have hl : (0 : Int) ≤ (c).toInt := Int32.le_iff_toInt_le.mp h6; have hu : (c).toInt ≤ (24 : Int) := Int32.le_iff_toInt_le.mp h7; exact Int32.not_lt.mpr (Int32.le_iff_toInt_le.mpr (show (0 : Int) ≤ (c).toInt by omega))) ?_
                      refine mz_go 3 (c' := (if 24 < c then 14 else 10, [some (.int c), some (.int 0), some (.int 24)], [], (mz_i xs Ln))) rfl ?_
                      refine mz_ifF (by have hl : (0 : Int) ≤ (c).toInt := Int32.le_iff_toInt_le.mp h6; have hu : (c).toInt ≤ (24 : Int) := Int32.le_iff_toInt_le.mp h7; exact Int32.not_lt.mpr (Int32.le_iff_toInt_le.mpr (show (c).toInt ≤ (24 : Int) by omega))) ?_
                      refine mz_go 2 (c' := (15, [some (.int c), some (.int 0), some (.int 24)], [.int 1], (mz_i xs Ln))) rfl ?_
                      exact mz_ret rfl
                    refine mz_go 352 (c' := (61, [some (.ref 60), some (.int 0), some (.int 8), some (.int c), some (.int 24)], [], mz_up (mz_up (mz_up (mz_up (mz_up (mz_up (mz_up (mz_up (mz_up (mz_up (mz_up (mz_up (mz_up (mz_up (mz_up (mz_up (mz_up (mz_up (mz_up (mz_up (mz_up (mz_up (mz_up (mz_up (mz_up (mz_up (mz_i xs Ln) 61 0 8) 62 0 c) 63 0 0) 63 1 0) 63 2 0) 63 3 0) 63 4 0) 63 5 0) 63 6 0) 63 7 0) 63 8 0) 63 9 0) 63 10 0) 63 11 0) 63 12 0) 63 13 0) 63 14 0) 63 15 0) 63 16 0) 63 17 0) 63 18 0) 63 19 0) 63 20 0) 63 21 0) 63 22 0) 63 23 0)) rfl ?_
                    exact mz_ret rfl
                  refine mz_go 1 (c' := (88, [some (.ref 0), some (.int 0), some (.int 8), some (.int c)], [.int 1], mz_up (mz_up (mz_up (mz_up (mz_up (mz_up (mz_up (mz_up (mz_up (mz_up (mz_up (mz_up (mz_up (mz_up (mz_up (mz_up (mz_up (mz_up (mz_up (mz_up (mz_up (mz_up (mz_up (mz_up (mz_up (mz_up (mz_i xs Ln) 61 0 8) 62 0 c) 63 0 0) 63 1 0) 63 2 0) 63 3 0) 63 4 0) 63 5 0) 63 6 0) 63 7 0) 63 8 0) 63 9 0) 63 10 0) 63 11 0) 63 12 0) 63 13 0) 63 14 0) 63 15 0) 63 16 0) 63 17 0) 63 18 0) 63 19 0) 63 20 0) 63 21 0) 63 22 0) 63 23 0)) rfl ?_
                  exact mz_ret rfl
                · refine mz_go 1 (c' := (1, [some (.ref 65), some (.int 0), some (.int 8), some (.int c), none], [.int 0], mz_up (mz_up (mz_up (mz_up (mz_up (mz_up (mz_up (mz_up (mz_up (mz_up (mz_up (mz_up (mz_up (mz_up (mz_up (mz_up (mz_up (mz_up (mz_up (mz_up (mz_up (mz_up (mz_up (mz_up (mz_up (mz_up (mz_i xs Ln) 61 0 8) 62 0 c) 63 0 0) 63 1 0) 63 2 0) 63 3 0) 63 4 0) 63 5 0) 63 6 0) 63 7 0) 63 8 0) 63 9 0) 63 10 0) 63 11 0) 63 12 0) 63 13 0) 63 14 0) 63 15 0) 63 16 0) 63 17 0) 63 18 0) 63 19 0) 63 20 0) 63 21 0) 63 22 0) 63 23 0)) rfl ?_
                  refine mz_do (R := mz_r219) (as := [.int 0]) (rest := []) (r1 := some (.int 1)) (m1 := mz_up (mz_up (mz_up (mz_up (mz_up (mz_up (mz_up (mz_up (mz_up (mz_up (mz_up (mz_up (mz_up (mz_up (mz_up (mz_up (mz_up (mz_up (mz_up (mz_up (mz_up (mz_up (mz_up (mz_up (mz_up (mz_up (mz_i xs Ln) 61 0 8) 62 0 c) 63 0 0) 63 1 0) 63 2 0) 63 3 0) 63 4 0) 63 5 0) 63 6 0) 63 7 0) 63 8 0) 63 9 0) 63 10 0) 63 11 0) 63 12 0) 63 13 0) 63 14 0) 63 15 0) 63 16 0) 63 17 0) 63 18 0) 63 19 0) 63 20 0) 63 21 0) 63 22 0) 63 23 0) rfl ⟨?_, rfl⟩ ?_
                  · refine mz_go 3 (c' := (3, [some (.int 0)], [.int 3, .int 0, .int 0], mz_up (mz_up (mz_up (mz_up (mz_up (mz_up (mz_up (mz_up (mz_up (mz_up (mz_up (mz_up (mz_up (mz_up (mz_up (mz_up (mz_up (mz_up (mz_up (mz_up (mz_up (mz_up (mz_up (mz_up (mz_up (mz_up (mz_i xs Ln) 61 0 8) 62 0 c) 63 0 0) 63 1 0) 63 2 0) 63 3 0) 63 4 0) 63 5 0) 63 6 0) 63 7 0) 63 8 0) 63 9 0) 63 10 0) 63 11 0) 63 12 0) 63 13 0) 63 14 0) 63 15 0) 63 16 0) 63 17 0) 63 18 0) 63 19 0) 63 20 0) 63 21 0) 63 22 0) 63 23 0)) rfl ?_
                    refine mz_do (R := mz_r128) (as := [.int 0, .int 0, .int 3]) (rest := []) (r1 := some (.int 1)) (m1 := mz_up (mz_up (mz_up (mz_up (mz_up (mz_up (mz_up (mz_up (mz_up (mz_up (mz_up (mz_up (mz_up (mz_up (mz_up (mz_up (mz_up (mz_up (mz_up (mz_up (mz_up (mz_up (mz_up (mz_up (mz_up (mz_up (mz_i xs Ln) 61 0 8) 62 0 c) 63 0 0) 63 1 0) 63 2 0) 63 3 0) 63 4 0) 63 5 0) 63 6 0) 63 7 0) 63 8 0) 63 9 0) 63 10 0) 63 11 0) 63 12 0) 63 13 0) 63 14 0) 63 15 0) 63 16 0) 63 17 0) 63 18 0) 63 19 0) 63 20 0) 63 21 0) 63 22 0) 63 23 0) rfl ⟨?_, rfl⟩ ?_
                    · refine mz_go 8 (c' := (15, [some (.int 0), some (.int 0), some (.int 3)], [.int 1], mz_up (mz_up (mz_up (mz_up (mz_up (mz_up (mz_up (mz_up (mz_up (mz_up (mz_up (mz_up (mz_up (mz_up (mz_up (mz_up (mz_up (mz_up (mz_up (mz_up (mz_up (mz_up (mz_up (mz_up (mz_up (mz_up (mz_i xs Ln) 61 0 8) 62 0 c) 63 0 0) 63 1 0) 63 2 0) 63 3 0) 63 4 0) 63 5 0) 63 6 0) 63 7 0) 63 8 0) 63 9 0) 63 10 0) 63 11 0) 63 12 0) 63 13 0) 63 14 0) 63 15 0) 63 16 0) 63 17 0) 63 18 0) 63 19 0) 63 20 0) 63 21 0) 63 22 0) 63 23 0)) rfl ?_
                      exact mz_ret rfl
                    exact mz_ret rfl
                  refine mz_go 10 (c' := (if 0 ≤ c then 49 else 43, [some (.ref 65), some (.int 0), some (.int 8), some (.int c), none], [], mz_up (mz_up (mz_up (mz_up (mz_up (mz_up (mz_up (mz_up (mz_up (mz_up (mz_up (mz_up (mz_up (mz_up (mz_up (mz_up (mz_up (mz_up (mz_up (mz_up (mz_up (mz_up (mz_up (mz_up (mz_up (mz_up (mz_i xs Ln) 61 0 8) 62 0 c) 63 0 0) 63 1 0) 63 2 0) 63 3 0) 63 4 0) 63 5 0) 63 6 0) 63 7 0) 63 8 0) 63 9 0) 63 10 0) 63 11 0) 63 12 0) 63 13 0) 63 14 0) 63 15 0) 63 16 0) 63 17 0) 63 18 0) 63 19 0) 63 20 0) 63 21 0) 63 22 0) 63 23 0)) rfl ?_
                  refine mz_ifT h6 ?_
                  refine mz_go 5 (c' := (if c ≤ 24 then 65 else 59, [some (.ref 65), some (.int 0), some (.int 8), some (.int c), none], [], mz_up (mz_up (mz_up (mz_up (mz_up (mz_up (mz_up (mz_up (mz_up (mz_up (mz_up (mz_up (mz_up (mz_up (mz_up (mz_up (mz_up (mz_up (mz_up (mz_up (mz_up (mz_up (mz_up (mz_up (mz_up (mz_up (mz_i xs Ln) 61 0 8) 62 0 c) 63 0 0) 63 1 0) 63 2 0) 63 3 0) 63 4 0) 63 5 0) 63 6 0) 63 7 0) 63 8 0) 63 9 0) 63 10 0) 63 11 0) 63 12 0) 63 13 0) 63 14 0) 63 15 0) 63 16 0) 63 17 0) 63 18 0) 63 19 0) 63 20 0) 63 21 0) 63 22 0) 63 23 0)) rfl ?_
                  refine mz_ifT h7 ?_
                  refine mz_go 354 (c' := (117, [some (.ref 65), some (.int 0), some (.int 8), some (.int c), some (.int 24)], [.int 1], mz_up (mz_up (mz_up (mz_up (mz_up (mz_up (mz_up (mz_up (mz_up (mz_up (mz_up (mz_up (mz_up (mz_up (mz_up (mz_up (mz_up (mz_up (mz_up (mz_up (mz_up (mz_up (mz_up (mz_up (mz_up (mz_up (mz_up (mz_up (mz_up (mz_up (mz_up (mz_up (mz_up (mz_up (mz_up (mz_up (mz_up (mz_up (mz_up (mz_up (mz_up (mz_up (mz_up (mz_up (mz_up (mz_up (mz_up (mz_up (mz_up (mz_up (mz_up (mz_up (mz_i xs Ln) 61 0 8) 62 0 c) 63 0 0) 63 1 0) 63 2 0) 63 3 0) 63 4 0) 63 5 0) 63 6 0) 63 7 0) 63 8 0) 63 9 0) 63 10 0) 63 11 0) 63 12 0) 63 13 0) 63 14 0) 63 15 0) 63 16 0) 63 17 0) 63 18 0) 63 19 0) 63 20 0) 63 21 0) 63 22 0) 63 23 0) 75 0 8) 76 0 c) 77 0 0) 77 1 0) 77 2 0) 77 3 0) 77 4 0) 77 5 0) 77 6 0) 77 7 0) 77 8 0) 77 9 0) 77 10 0) 77 11 0) 77 12 0) 77 13 0) 77 14 0) 77 15 0) 77 16 0) 77 17 0) 77 18 0) 77 19 0) 77 20 0) 77 21 0) 77 22 0) 77 23 0)) rfl ?_
                  exact mz_ret rfl
              · refine ⟨1, mz_up (mz_up (mz_up (mz_up (mz_up (mz_up (mz_up (mz_up (mz_up (mz_up (mz_up (mz_up (mz_up (mz_up (mz_up (mz_up (mz_up (mz_up (mz_up (mz_up (mz_up (mz_up (mz_up (mz_up (mz_up (mz_up (mz_i xs Ln) 61 1 8) 62 1 c) 63 24 0) 63 25 0) 63 26 0) 63 27 0) 63 28 0) 63 29 0) 63 30 0) 63 31 0) 63 32 0) 63 33 0) 63 34 0) 63 35 0) 63 36 0) 63 37 0) 63 38 0) 63 39 0) 63 40 0) 63 41 0) 63 42 0) 63 43 0) 63 44 0) 63 45 0) 63 46 0) 63 47 0, mz_up (mz_up (mz_up (mz_up (mz_up (mz_up (mz_up (mz_up (mz_up (mz_up (mz_up (mz_up (mz_up (mz_up (mz_up (mz_up (mz_up (mz_up (mz_up (mz_up (mz_up (mz_up (mz_up (mz_up (mz_up (mz_up (mz_up (mz_up (mz_up (mz_up (mz_up (mz_up (mz_up (mz_up (mz_up (mz_up (mz_up (mz_up (mz_up (mz_up (mz_up (mz_up (mz_up (mz_up (mz_up (mz_up (mz_up (mz_up (mz_up (mz_up (mz_up (mz_up (mz_i xs Ln) 61 1 8) 62 1 c) 63 24 0) 63 25 0) 63 26 0) 63 27 0) 63 28 0) 63 29 0) 63 30 0) 63 31 0) 63 32 0) 63 33 0) 63 34 0) 63 35 0) 63 36 0) 63 37 0) 63 38 0) 63 39 0) 63 40 0) 63 41 0) 63 42 0) 63 43 0) 63 44 0) 63 45 0) 63 46 0) 63 47 0) 75 1 8) 76 1 c) 77 24 0) 77 25 0) 77 26 0) 77 27 0) 77 28 0) 77 29 0) 77 30 0) 77 31 0) 77 32 0) 77 33 0) 77 34 0) 77 35 0) 77 36 0) 77 37 0) 77 38 0) 77 39 0) 77 40 0) 77 41 0) 77 42 0) 77 43 0) 77 44 0) 77 45 0) 77 46 0) 77 47 0, ⟨?_, rfl⟩, ⟨?_, rfl⟩⟩
                · refine mz_go 3 (c' := (5, [some (.ref 0), some (.int 1), some (.int 8), some (.int c)], [.int 1, .ref 60], (mz_i xs Ln))) rfl ?_
                  refine mz_do (R := mz_r45) (as := [.ref 60, .int 1]) (rest := []) (r1 := some (.int 1)) (m1 := (mz_i xs Ln)) rfl ⟨?_, rfl⟩ ?_
                  · refine mz_go 7 (c' := (14, [some (.ref 60), some (.int 1)], [.int 1], (mz_i xs Ln))) rfl ?_
                    exact mz_ret rfl
                  refine mz_go 10 (c' := (if 0 ≤ c then 53 else 47, [some (.ref 0), some (.int 1), some (.int 8), some (.int c)], [], (mz_i xs Ln))) rfl ?_
                  refine mz_ifT h6 ?_
                  refine mz_go 5 (c' := (if c ≤ 24 then 69 else 63, [some (.ref 0), some (.int 1), some (.int 8), some (.int c)], [], (mz_i xs Ln))) rfl ?_
                  refine mz_ifT h7 ?_
                  refine mz_go 7 (c' := (84, [some (.ref 0), some (.int 1), some (.int 8), some (.int c)], [.int c, .int 8, .int 1, .ref 60], (mz_i xs Ln))) rfl ?_
                  refine mz_do (R := mz_r47) (as := [.ref 60, .int 1, .int 8, .int c]) (rest := []) (r1 := none) (m1 := mz_up (mz_up (mz_up (mz_up (mz_up (mz_up (mz_up (mz_up (mz_up (mz_up (mz_up (mz_up (mz_up (mz_up (mz_up (mz_up (mz_up (mz_up (mz_up (mz_up (mz_up (mz_up (mz_up (mz_up (mz_up (mz_up (mz_i xs Ln) 61 1 8) 62 1 c) 63 24 0) 63 25 0) 63 26 0) 63 27 0) 63 28 0) 63 29 0) 63 30 0) 63 31 0) 63 32 0) 63 33 0) 63 34 0) 63 35 0) 63 36 0) 63 37 0) 63 38 0) 63 39 0) 63 40 0) 63 41 0) 63 42 0) 63 43 0) 63 44 0) 63 45 0) 63 46 0) 63 47 0) rfl ⟨?_, rfl⟩ ?_
                  · refine mz_go 2 (c' := (2, [some (.ref 60), some (.int 1), some (.int 8), some (.int c), none], [.int 1, .ref 60], (mz_i xs Ln))) rfl ?_
                    refine mz_do (R := mz_r45) (as := [.ref 60, .int 1]) (rest := []) (r1 := some (.int 1)) (m1 := (mz_i xs Ln)) rfl ⟨?_, rfl⟩ ?_
                    · refine mz_go 7 (c' := (14, [some (.ref 60), some (.int 1)], [.int 1], (mz_i xs Ln))) rfl ?_
                      exact mz_ret rfl
                    refine mz_go 4 (c' := (12, [some (.ref 60), some (.int 1), some (.int 8), some (.int c), none], [.int 24, .int 0, .int c], (mz_i xs Ln))) rfl ?_
                    refine mz_do (R := mz_r121) (as := [.int c, .int 0, .int 24]) (rest := []) (r1 := some (.int 1)) (m1 := (mz_i xs Ln)) rfl ⟨?_, rfl⟩ ?_
                    · refine mz_go 3 (c' := (if c < 0 then 14 else 5, [some (.int c), some (.int 0), some (.int 24)], [], (mz_i xs Ln))) rfl ?_
                      refine mz_ifF (by have hl : (0 : Int) ≤ (c).toInt := Int32.le_iff_toInt_le.mp h6; have hu : (c).toInt ≤ (24 : Int) := Int32.le_iff_toInt_le.mp h7; exact Int32.not_lt.mpr (Int32.le_iff_toInt_le.mpr (show (0 : Int) ≤ (c).toInt by omega))) ?_
                      refine mz_go 3 (c' := (if 24 < c then 14 else 10, [some (.int c), some (.int 0), some (.int 24)], [], (mz_i xs Ln))) rfl ?_
                      refine mz_ifF (by have hl : (0 : Int) ≤ (c).toInt := Int32.le_iff_toInt_le.mp h6; have hu : (c).toInt ≤ (24 : Int) := Int32.le_iff_toInt_le.mp h7; exact Int32.not_lt.mpr (Int32.le_iff_toInt_le.mpr (show (c).toInt ≤ (24 : Int) by omega))) ?_
                      refine mz_go 2 (c' := (15, [some (.int c), some (.int 0), some (.int 24)], [.int 1], (mz_i xs Ln))) rfl ?_
                      exact mz_ret rfl
                    refine mz_go 352 (c' := (61, [some (.ref 60), some (.int 1), some (.int 8), some (.int c), some (.int 24)], [], mz_up (mz_up (mz_up (mz_up (mz_up (mz_up (mz_up (mz_up (mz_up (mz_up (mz_up (mz_up (mz_up (mz_up (mz_up (mz_up (mz_up (mz_up (mz_up (mz_up (mz_up (mz_up (mz_up (mz_up (mz_up (mz_up (mz_i xs Ln) 61 1 8) 62 1 c) 63 24 0) 63 25 0) 63 26 0) 63 27 0) 63 28 0) 63 29 0) 63 30 0) 63 31 0) 63 32 0) 63 33 0) 63 34 0) 63 35 0) 63 36 0) 63 37 0) 63 38 0) 63 39 0) 63 40 0) 63 41 0) 63 42 0) 63 43 0) 63 44 0) 63 45 0) 63 46 0) 63 47 0)) rfl ?_
                    exact mz_ret rfl
                  refine mz_go 1 (c' := (88, [some (.ref 0), some (.int 1), some (.int 8), some (.int c)], [.int 1], mz_up (mz_up (mz_up (mz_up (mz_up (mz_up (mz_up (mz_up (mz_up (mz_up (mz_up (mz_up (mz_up (mz_up (mz_up (mz_up (mz_up (mz_up (mz_up (mz_up (mz_up (mz_up (mz_up (mz_up (mz_up (mz_up (mz_i xs Ln) 61 1 8) 62 1 c) 63 24 0) 63 25 0) 63 26 0) 63 27 0) 63 28 0) 63 29 0) 63 30 0) 63 31 0) 63 32 0) 63 33 0) 63 34 0) 63 35 0) 63 36 0) 63 37 0) 63 38 0) 63 39 0) 63 40 0) 63 41 0) 63 42 0) 63 43 0) 63 44 0) 63 45 0) 63 46 0) 63 47 0)) rfl ?_
                  exact mz_ret rfl
                · refine mz_go 1 (c' := (1, [some (.ref 65), some (.int 1), some (.int 8), some (.int c), none], [.int 1], mz_up (mz_up (mz_up (mz_up (mz_up (mz_up (mz_up (mz_up (mz_up (mz_up (mz_up (mz_up (mz_up (mz_up (mz_up (mz_up (mz_up (mz_up (mz_up (mz_up (mz_up (mz_up (mz_up (mz_up (mz_up (mz_up (mz_i xs Ln) 61 1 8) 62 1 c) 63 24 0) 63 25 0) 63 26 0) 63 27 0) 63 28 0) 63 29 0) 63 30 0) 63 31 0) 63 32 0) 63 33 0) 63 34 0) 63 35 0) 63 36 0) 63 37 0) 63 38 0) 63 39 0) 63 40 0) 63 41 0) 63 42 0) 63 43 0) 63 44 0) 63 45 0) 63 46 0) 63 47 0)) rfl ?_
                  refine mz_do (R := mz_r219) (as := [.int 1]) (rest := []) (r1 := some (.int 1)) (m1 := mz_up (mz_up (mz_up (mz_up (mz_up (mz_up (mz_up (mz_up (mz_up (mz_up (mz_up (mz_up (mz_up (mz_up (mz_up (mz_up (mz_up (mz_up (mz_up (mz_up (mz_up (mz_up (mz_up (mz_up (mz_up (mz_up (mz_i xs Ln) 61 1 8) 62 1 c) 63 24 0) 63 25 0) 63 26 0) 63 27 0) 63 28 0) 63 29 0) 63 30 0) 63 31 0) 63 32 0) 63 33 0) 63 34 0) 63 35 0) 63 36 0) 63 37 0) 63 38 0) 63 39 0) 63 40 0) 63 41 0) 63 42 0) 63 43 0) 63 44 0) 63 45 0) 63 46 0) 63 47 0) rfl ⟨?_, rfl⟩ ?_
                  · refine mz_go 3 (c' := (3, [some (.int 1)], [.int 3, .int 0, .int 1], mz_up (mz_up (mz_up (mz_up (mz_up (mz_up (mz_up (mz_up (mz_up (mz_up (mz_up (mz_up (mz_up (mz_up (mz_up (mz_up (mz_up (mz_up (mz_up (mz_up (mz_up (mz_up (mz_up (mz_up (mz_up (mz_up (mz_i xs Ln) 61 1 8) 62 1 c) 63 24 0) 63 25 0) 63 26 0) 63 27 0) 63 28 0) 63 29 0) 63 30 0) 63 31 0) 63 32 0) 63 33 0) 63 34 0) 63 35 0) 63 36 0) 63 37 0) 63 38 0) 63 39 0) 63 40 0) 63 41 0) 63 42 0) 63 43 0) 63 44 0) 63 45 0) 63 46 0) 63 47 0)) rfl ?_
                    refine mz_do (R := mz_r128) (as := [.int 1, .int 0, .int 3]) (rest := []) (r1 := some (.int 1)) (m1 := mz_up (mz_up (mz_up (mz_up (mz_up (mz_up (mz_up (mz_up (mz_up (mz_up (mz_up (mz_up (mz_up (mz_up (mz_up (mz_up (mz_up (mz_up (mz_up (mz_up (mz_up (mz_up (mz_up (mz_up (mz_up (mz_up (mz_i xs Ln) 61 1 8) 62 1 c) 63 24 0) 63 25 0) 63 26 0) 63 27 0) 63 28 0) 63 29 0) 63 30 0) 63 31 0) 63 32 0) 63 33 0) 63 34 0) 63 35 0) 63 36 0) 63 37 0) 63 38 0) 63 39 0) 63 40 0) 63 41 0) 63 42 0) 63 43 0) 63 44 0) 63 45 0) 63 46 0) 63 47 0) rfl ⟨?_, rfl⟩ ?_
                    · refine mz_go 8 (c' := (15, [some (.int 1), some (.int 0), some (.int 3)], [.int 1], mz_up (mz_up (mz_up (mz_up (mz_up (mz_up (mz_up (mz_up (mz_up (mz_up (mz_up (mz_up (mz_up (mz_up (mz_up (mz_up (mz_up (mz_up (mz_up (mz_up (mz_up (mz_up (mz_up (mz_up (mz_up (mz_up (mz_i xs Ln) 61 1 8) 62 1 c) 63 24 0) 63 25 0) 63 26 0) 63 27 0) 63 28 0) 63 29 0) 63 30 0) 63 31 0) 63 32 0) 63 33 0) 63 34 0) 63 35 0) 63 36 0) 63 37 0) 63 38 0) 63 39 0) 63 40 0) 63 41 0) 63 42 0) 63 43 0) 63 44 0) 63 45 0) 63 46 0) 63 47 0)) rfl ?_
                      exact mz_ret rfl
                    exact mz_ret rfl
                  refine mz_go 10 (c' := (if 0 ≤ c then 49 else 43, [some (.ref 65), some (.int 1), some (.int 8), some (.int c), none], [], mz_up (mz_up (mz_up (mz_up (mz_up (mz_up (mz_up (mz_up (mz_up (mz_up (mz_up (mz_up (mz_up (mz_up (mz_up (mz_up (mz_up (mz_up (mz_up (mz_up (mz_up (mz_up (mz_up (mz_up (mz_up (mz_up (mz_i xs Ln) 61 1 8) 62 1 c) 63 24 0) 63 25 0) 63 26 0) 63 27 0) 63 28 0) 63 29 0) 63 30 0) 63 31 0) 63 32 0) 63 33 0) 63 34 0) 63 35 0) 63 36 0) 63 37 0) 63 38 0) 63 39 0) 63 40 0) 63 41 0) 63 42 0) 63 43 0) 63 44 0) 63 45 0) 63 46 0) 63 47 0)) rfl ?_
                  refine mz_ifT h6 ?_
                  refine mz_go 5 (c' := (if c ≤ 24 then 65 else 59, [some (.ref 65), some (.int 1), some (.int 8), some (.int c), none], [], mz_up (mz_up (mz_up (mz_up (mz_up (mz_up (mz_up (mz_up (mz_up (mz_up (mz_up (mz_up (mz_up (mz_up (mz_up (mz_up (mz_up (mz_up (mz_up (mz_up (mz_up (mz_up (mz_up (mz_up (mz_up (mz_up (mz_i xs Ln) 61 1 8) 62 1 c) 63 24 0) 63 25 0) 63 26 0) 63 27 0) 63 28 0) 63 29 0) 63 30 0) 63 31 0) 63 32 0) 63 33 0) 63 34 0) 63 35 0) 63 36 0) 63 37 0) 63 38 0) 63 39 0) 63 40 0) 63 41 0) 63 42 0) 63 43 0) 63 44 0) 63 45 0) 63 46 0) 63 47 0)) rfl ?_
                  refine mz_ifT h7 ?_
                  refine mz_go 354 (c' := (117, [some (.ref 65), some (.int 1), some (.int 8), some (.int c), some (.int 24)], [.int 1], mz_up (mz_up (mz_up (mz_up (mz_up (mz_up (mz_up (mz_up (mz_up (mz_up (mz_up (mz_up (mz_up (mz_up (mz_up (mz_up (mz_up (mz_up (mz_up (mz_up (mz_up (mz_up (mz_up (mz_up (mz_up (mz_up (mz_up (mz_up (mz_up (mz_up (mz_up (mz_up (mz_up (mz_up (mz_up (mz_up (mz_up (mz_up (mz_up (mz_up (mz_up (mz_up (mz_up (mz_up (mz_up (mz_up (mz_up (mz_up (mz_up (mz_up (mz_up (mz_up (mz_i xs Ln) 61 1 8) 62 1 c) 63 24 0) 63 25 0) 63 26 0) 63 27 0) 63 28 0) 63 29 0) 63 30 0) 63 31 0) 63 32 0) 63 33 0) 63 34 0) 63 35 0) 63 36 0) 63 37 0) 63 38 0) 63 39 0) 63 40 0) 63 41 0) 63 42 0) 63 43 0) 63 44 0) 63 45 0) 63 46 0) 63 47 0) 75 1 8) 76 1 c) 77 24 0) 77 25 0) 77 26 0) 77 27 0) 77 28 0) 77 29 0) 77 30 0) 77 31 0) 77 32 0) 77 33 0) 77 34 0) 77 35 0) 77 36 0) 77 37 0) 77 38 0) 77 39 0) 77 40 0) 77 41 0) 77 42 0) 77 43 0) 77 44 0) 77 45 0) 77 46 0) 77 47 0)) rfl ?_
                  exact mz_ret rfl
              · refine ⟨1, mz_up (mz_up (mz_up (mz_up (mz_up (mz_up (mz_up (mz_up (mz_up (mz_up (mz_up (mz_up (mz_up (mz_up (mz_up (mz_up (mz_up (mz_up (mz_up (mz_up (mz_up (mz_up (mz_up (mz_up (mz_up (mz_up (mz_i xs Ln) 61 2 8) 62 2 c) 63 48 0) 63 49 0) 63 50 0) 63 51 0) 63 52 0) 63 53 0) 63 54 0) 63 55 0) 63 56 0) 63 57 0) 63 58 0) 63 59 0) 63 60 0) 63 61 0) 63 62 0) 63 63 0) 63 64 0) 63 65 0) 63 66 0) 63 67 0) 63 68 0) 63 69 0) 63 70 0) 63 71 0, mz_up (mz_up (mz_up (mz_up (mz_up (mz_up (mz_up (mz_up (mz_up (mz_up (mz_up (mz_up (mz_up (mz_up (mz_up (mz_up (mz_up (mz_up (mz_up (mz_up (mz_up (mz_up (mz_up (mz_up (mz_up (mz_up (mz_up (mz_up (mz_up (mz_up (mz_up (mz_up (mz_up (mz_up (mz_up (mz_up (mz_up (mz_up (mz_up (mz_up (mz_up (mz_up (mz_up (mz_up (mz_up (mz_up (mz_up (mz_up (mz_up (mz_up (mz_up (mz_up (mz_i xs Ln) 61 2 8) 62 2 c) 63 48 0) 63 49 0) 63 50 0) 63 51 0) 63 52 0) 63 53 0) 63 54 0) 63 55 0) 63 56 0) 63 57 0) 63 58 0) 63 59 0) 63 60 0) 63 61 0) 63 62 0) 63 63 0) 63 64 0) 63 65 0) 63 66 0) 63 67 0) 63 68 0) 63 69 0) 63 70 0) 63 71 0) 75 2 8) 76 2 c) 77 48 0) 77 49 0) 77 50 0) 77 51 0) 77 52 0) 77 53 0) 77 54 0) 77 55 0) 77 56 0) 77 57 0) 77 58 0) 77 59 0) 77 60 0) 77 61 0) 77 62 0) 77 63 0) 77 64 0) 77 65 0) 77 66 0) 77 67 0) 77 68 0) 77 69 0) 77 70 0) 77 71 0, ⟨?_, rfl⟩, ⟨?_, rfl⟩⟩
                · refine mz_go 3 (c' := (5, [some (.ref 0), some (.int 2), some (.int 8), some (.int c)], [.int 2, .ref 60], (mz_i xs Ln))) rfl ?_
                  refine mz_do (R := mz_r45) (as := [.ref 60, .int 2]) (rest := []) (r1 := some (.int 1)) (m1 := (mz_i xs Ln)) rfl ⟨?_, rfl⟩ ?_
                  · refine mz_go 7 (c' := (14, [some (.ref 60), some (.int 2)], [.int 1], (mz_i xs Ln))) rfl ?_
                    exact mz_ret rfl
                  refine mz_go 10 (c' := (if 0 ≤ c then 53 else 47, [some (.ref 0), some (.int 2), some (.int 8), some (.int c)], [], (mz_i xs Ln))) rfl ?_
                  refine mz_ifT h6 ?_
                  refine mz_go 5 (c' := (if c ≤ 24 then 69 else 63, [some (.ref 0), some (.int 2), some (.int 8), some (.int c)], [], (mz_i xs Ln))) rfl ?_
                  refine mz_ifT h7 ?_
                  refine mz_go 7 (c' := (84, [some (.ref 0), some (.int 2), some (.int 8), some (.int c)], [.int c, .int 8, .int 2, .ref 60], (mz_i xs Ln))) rfl ?_
                  refine mz_do (R := mz_r47) (as := [.ref 60, .int 2, .int 8, .int c]) (rest := []) (r1 := none) (m1 := mz_up (mz_up (mz_up (mz_up (mz_up (mz_up (mz_up (mz_up (mz_up (mz_up (mz_up (mz_up (mz_up (mz_up (mz_up (mz_up (mz_up (mz_up (mz_up (mz_up (mz_up (mz_up (mz_up (mz_up (mz_up (mz_up (mz_i xs Ln) 61 2 8) 62 2 c) 63 48 0) 63 49 0) 63 50 0) 63 51 0) 63 52 0) 63 53 0) 63 54 0) 63 55 0) 63 56 0) 63 57 0) 63 58 0) 63 59 0) 63 60 0) 63 61 0) 63 62 0) 63 63 0) 63 64 0) 63 65 0) 63 66 0) 63 67 0) 63 68 0) 63 69 0) 63 70 0) 63 71 0) rfl ⟨?_, rfl⟩ ?_
                  · refine mz_go 2 (c' := (2, [some (.ref 60), some (.int 2), some (.int 8), some (.int c), none], [.int 2, .ref 60], (mz_i xs Ln))) rfl ?_
                    refine mz_do (R := mz_r45) (as := [.ref 60, .int 2]) (rest := []) (r1 := some (.int 1)) (m1 := (mz_i xs Ln)) rfl ⟨?_, rfl⟩ ?_
                    · refine mz_go 7 (c' := (14, [some (.ref 60), some (.int 2)], [.int 1], (mz_i xs Ln))) rfl ?_
                      exact mz_ret rfl
                    refine mz_go 4 (c' := (12, [some (.ref 60), some (.int 2), some (.int 8), some (.int c), none], [.int 24, .int 0, .int c], (mz_i xs Ln))) rfl ?_
                    refine mz_do (R := mz_r121) (as := [.int c, .int 0, .int 24]) (rest := []) (r1 := some (.int 1)) (m1 := (mz_i xs Ln)) rfl ⟨?_, rfl⟩ ?_
                    · refine mz_go 3 (c' := (if c < 0 then 14 else 5, [some (.int c), some (.int 0), some (.int 24)], [], (mz_i xs Ln))) rfl ?_
                      refine mz_ifF (by have hl : (0 : Int) ≤ (c).toInt := Int32.le_iff_toInt_le.mp h6; have hu : (c).toInt ≤ (24 : Int) := Int32.le_iff_toInt_le.mp h7; exact Int32.not_lt.mpr (Int32.le_iff_toInt_le.mpr (show (0 : Int) ≤ (c).toInt by omega))) ?_
                      refine mz_go 3 (c' := (if 24 < c then 14 else 10, [some (.int c), some (.int 0), some (.int 24)], [], (mz_i xs Ln))) rfl ?_
                      refine mz_ifF (by have hl : (0 : Int) ≤ (c).toInt := Int32.le_iff_toInt_le.mp h6; have hu : (c).toInt ≤ (24 : Int) := Int32.le_iff_toInt_le.mp h7; exact Int32.not_lt.mpr (Int32.le_iff_toInt_le.mpr (show (c).toInt ≤ (24 : Int) by omega))) ?_
                      refine mz_go 2 (c' := (15, [some (.int c), some (.int 0), some (.int 24)], [.int 1], (mz_i xs Ln))) rfl ?_
                      exact mz_ret rfl
                    refine mz_go 352 (c' := (61, [some (.ref 60), some (.int 2), some (.int 8), some (.int c), some (.int 24)], [], mz_up (mz_up (mz_up (mz_up (mz_up (mz_up (mz_up (mz_up (mz_up (mz_up (mz_up (mz_up (mz_up (mz_up (mz_up (mz_up (mz_up (mz_up (mz_up (mz_up (mz_up (mz_up (mz_up (mz_up (mz_up (mz_up (mz_i xs Ln) 61 2 8) 62 2 c) 63 48 0) 63 49 0) 63 50 0) 63 51 0) 63 52 0) 63 53 0) 63 54 0) 63 55 0) 63 56 0) 63 57 0) 63 58 0) 63 59 0) 63 60 0) 63 61 0) 63 62 0) 63 63 0) 63 64 0) 63 65 0) 63 66 0) 63 67 0) 63 68 0) 63 69 0) 63 70 0) 63 71 0)) rfl ?_
                    exact mz_ret rfl
                  refine mz_go 1 (c' := (88, [some (.ref 0), some (.int 2), some (.int 8), some (.int c)], [.int 1], mz_up (mz_up (mz_up (mz_up (mz_up (mz_up (mz_up (mz_up (mz_up (mz_up (mz_up (mz_up (mz_up (mz_up (mz_up (mz_up (mz_up (mz_up (mz_up (mz_up (mz_up (mz_up (mz_up (mz_up (mz_up (mz_up (mz_i xs Ln) 61 2 8) 62 2 c) 63 48 0) 63 49 0) 63 50 0) 63 51 0) 63 52 0) 63 53 0) 63 54 0) 63 55 0) 63 56 0) 63 57 0) 63 58 0) 63 59 0) 63 60 0) 63 61 0) 63 62 0) 63 63 0) 63 64 0) 63 65 0) 63 66 0) 63 67 0) 63 68 0) 63 69 0) 63 70 0) 63 71 0)) rfl ?_
                  exact mz_ret rfl
                · refine mz_go 1 (c' := (1, [some (.ref 65), some (.int 2), some (.int 8), some (.int c), none], [.int 2], mz_up (mz_up (mz_up (mz_up (mz_up (mz_up (mz_up (mz_up (mz_up (mz_up (mz_up (mz_up (mz_up (mz_up (mz_up (mz_up (mz_up (mz_up (mz_up (mz_up (mz_up (mz_up (mz_up (mz_up (mz_up (mz_up (mz_i xs Ln) 61 2 8) 62 2 c) 63 48 0) 63 49 0) 63 50 0) 63 51 0) 63 52 0) 63 53 0) 63 54 0) 63 55 0) 63 56 0) 63 57 0) 63 58 0) 63 59 0) 63 60 0) 63 61 0) 63 62 0) 63 63 0) 63 64 0) 63 65 0) 63 66 0) 63 67 0) 63 68 0) 63 69 0) 63 70 0) 63 71 0)) rfl ?_
                  refine mz_do (R := mz_r219) (as := [.int 2]) (rest := []) (r1 := some (.int 1)) (m1 := mz_up (mz_up (mz_up (mz_up (mz_up (mz_up (mz_up (mz_up (mz_up (mz_up (mz_up (mz_up (mz_up (mz_up (mz_up (mz_up (mz_up (mz_up (mz_up (mz_up (mz_up (mz_up (mz_up (mz_up (mz_up (mz_up (mz_i xs Ln) 61 2 8) 62 2 c) 63 48 0) 63 49 0) 63 50 0) 63 51 0) 63 52 0) 63 53 0) 63 54 0) 63 55 0) 63 56 0) 63 57 0) 63 58 0) 63 59 0) 63 60 0) 63 61 0) 63 62 0) 63 63 0) 63 64 0) 63 65 0) 63 66 0) 63 67 0) 63 68 0) 63 69 0) 63 70 0) 63 71 0) rfl ⟨?_, rfl⟩ ?_
                  · refine mz_go 3 (c' := (3, [some (.int 2)], [.int 3, .int 0, .int 2], mz_up (mz_up (mz_up (mz_up (mz_up (mz_up (mz_up (mz_up (mz_up (mz_up (mz_up (mz_up (mz_up (mz_up (mz_up (mz_up (mz_up (mz_up (mz_up (mz_up (mz_up (mz_up (mz_up (mz_up (mz_up (mz_up (mz_i xs Ln) 61 2 8) 62 2 c) 63 48 0) 63 49 0) 63 50 0) 63 51 0) 63 52 0) 63 53 0) 63 54 0) 63 55 0) 63 56 0) 63 57 0) 63 58 0) 63 59 0) 63 60 0) 63 61 0) 63 62 0) 63 63 0) 63 64 0) 63 65 0) 63 66 0) 63 67 0) 63 68 0) 63 69 0) 63 70 0) 63 71 0)) rfl ?_
                    refine mz_do (R := mz_r128) (as := [.int 2, .int 0, .int 3]) (rest := []) (r1 := some (.int 1)) (m1 := mz_up (mz_up (mz_up (mz_up (mz_up (mz_up (mz_up (mz_up (mz_up (mz_up (mz_up (mz_up (mz_up (mz_up (mz_up (mz_up (mz_up (mz_up (mz_up (mz_up (mz_up (mz_up (mz_up (mz_up (mz_up (mz_up (mz_i xs Ln) 61 2 8) 62 2 c) 63 48 0) 63 49 0) 63 50 0) 63 51 0) 63 52 0) 63 53 0) 63 54 0) 63 55 0) 63 56 0) 63 57 0) 63 58 0) 63 59 0) 63 60 0) 63 61 0) 63 62 0) 63 63 0) 63 64 0) 63 65 0) 63 66 0) 63 67 0) 63 68 0) 63 69 0) 63 70 0) 63 71 0) rfl ⟨?_, rfl⟩ ?_
                    · refine mz_go 8 (c' := (15, [some (.int 2), some (.int 0), some (.int 3)], [.int 1], mz_up (mz_up (mz_up (mz_up (mz_up (mz_up (mz_up (mz_up (mz_up (mz_up (mz_up (mz_up (mz_up (mz_up (mz_up (mz_up (mz_up (mz_up (mz_up (mz_up (mz_up (mz_up (mz_up (mz_up (mz_up (mz_up (mz_i xs Ln) 61 2 8) 62 2 c) 63 48 0) 63 49 0) 63 50 0) 63 51 0) 63 52 0) 63 53 0) 63 54 0) 63 55 0) 63 56 0) 63 57 0) 63 58 0) 63 59 0) 63 60 0) 63 61 0) 63 62 0) 63 63 0) 63 64 0) 63 65 0) 63 66 0) 63 67 0) 63 68 0) 63 69 0) 63 70 0) 63 71 0)) rfl ?_
                      exact mz_ret rfl
                    exact mz_ret rfl
                  refine mz_go 10 (c' := (if 0 ≤ c then 49 else 43, [some (.ref 65), some (.int 2), some (.int 8), some (.int c), none], [], mz_up (mz_up (mz_up (mz_up (mz_up (mz_up (mz_up (mz_up (mz_up (mz_up (mz_up (mz_up (mz_up (mz_up (mz_up (mz_up (mz_up (mz_up (mz_up (mz_up (mz_up (mz_up (mz_up (mz_up (mz_up (mz_up (mz_i xs Ln) 61 2 8) 62 2 c) 63 48 0) 63 49 0) 63 50 0) 63 51 0) 63 52 0) 63 53 0) 63 54 0) 63 55 0) 63 56 0) 63 57 0) 63 58 0) 63 59 0) 63 60 0) 63 61 0) 63 62 0) 63 63 0) 63 64 0) 63 65 0) 63 66 0) 63 67 0) 63 68 0) 63 69 0) 63 70 0) 63 71 0)) rfl ?_
                  refine mz_ifT h6 ?_
                  refine mz_go 5 (c' := (if c ≤ 24 then 65 else 59, [some (.ref 65), some (.int 2), some (.int 8), some (.int c), none], [], mz_up (mz_up (mz_up (mz_up (mz_up (mz_up (mz_up (mz_up (mz_up (mz_up (mz_up (mz_up (mz_up (mz_up (mz_up (mz_up (mz_up (mz_up (mz_up (mz_up (mz_up (mz_up (mz_up (mz_up (mz_up (mz_up (mz_i xs Ln) 61 2 8) 62 2 c) 63 48 0) 63 49 0) 63 50 0) 63 51 0) 63 52 0) 63 53 0) 63 54 0) 63 55 0) 63 56 0) 63 57 0) 63 58 0) 63 59 0) 63 60 0) 63 61 0) 63 62 0) 63 63 0) 63 64 0) 63 65 0) 63 66 0) 63 67 0) 63 68 0) 63 69 0) 63 70 0) 63 71 0)) rfl ?_
                  refine mz_ifT h7 ?_
                  refine mz_go 354 (c' := (117, [some (.ref 65), some (.int 2), some (.int 8), some (.int c), some (.int 24)], [.int 1], mz_up (mz_up (mz_up (mz_up (mz_up (mz_up (mz_up (mz_up (mz_up (mz_up (mz_up (mz_up (mz_up (mz_up (mz_up (mz_up (mz_up (mz_up (mz_up (mz_up (mz_up (mz_up (mz_up (mz_up (mz_up (mz_up (mz_up (mz_up (mz_up (mz_up (mz_up (mz_up (mz_up (mz_up (mz_up (mz_up (mz_up (mz_up (mz_up (mz_up (mz_up (mz_up (mz_up (mz_up (mz_up (mz_up (mz_up (mz_up (mz_up (mz_up (mz_up (mz_up (mz_i xs Ln) 61 2 8) 62 2 c) 63 48 0) 63 49 0) 63 50 0) 63 51 0) 63 52 0) 63 53 0) 63 54 0) 63 55 0) 63 56 0) 63 57 0) 63 58 0) 63 59 0) 63 60 0) 63 61 0) 63 62 0) 63 63 0) 63 64 0) 63 65 0) 63 66 0) 63 67 0) 63 68 0) 63 69 0) 63 70 0) 63 71 0) 75 2 8) 76 2 c) 77 48 0) 77 49 0) 77 50 0) 77 51 0) 77 52 0) 77 53 0) 77 54 0) 77 55 0) 77 56 0) 77 57 0) 77 58 0) 77 59 0) 77 60 0) 77 61 0) 77 62 0) 77 63 0) 77 64 0) 77 65 0) 77 66 0) 77 67 0) 77 68 0) 77 69 0) 77 70 0) 77 71 0)) rfl ?_
                  exact mz_ret rfl
              · refine ⟨1, mz_up (mz_up (mz_up (mz_up (mz_up (mz_up (mz_up (mz_up (mz_up (mz_up (mz_up (mz_up (mz_up (mz_up (mz_up (mz_up (mz_up (mz_up (mz_up (mz_up (mz_up (mz_up (mz_up (mz_up (mz_up (mz_up (mz_i xs Ln) 61 3 8) 62 3 c) 63 72 0) 63 73 0) 63 74 0) 63 75 0) 63 76 0) 63 77 0) 63 78 0) 63 79 0) 63 80 0) 63 81 0) 63 82 0) 63 83 0) 63 84 0) 63 85 0) 63 86 0) 63 87 0) 63 88 0) 63 89 0) 63 90 0) 63 91 0) 63 92 0) 63 93 0) 63 94 0) 63 95 0, mz_up (mz_up (mz_up (mz_up (mz_up (mz_up (mz_up (mz_up (mz_up (mz_up (mz_up (mz_up (mz_up (mz_up (mz_up (mz_up (mz_up (mz_up (mz_up (mz_up (mz_up (mz_up (mz_up (mz_up (mz_up (mz_up (mz_up (mz_up (mz_up (mz_up (mz_up (mz_up (mz_up (mz_up (mz_up (mz_up (mz_up (mz_up (mz_up (mz_up (mz_up (mz_up (mz_up (mz_up (mz_up (mz_up (mz_up (mz_up (mz_up (mz_up (mz_up (mz_up (mz_i xs Ln) 61 3 8) 62 3 c) 63 72 0) 63 73 0) 63 74 0) 63 75 0) 63 76 0) 63 77 0) 63 78 0) 63 79 0) 63 80 0) 63 81 0) 63 82 0) 63 83 0) 63 84 0) 63 85 0) 63 86 0) 63 87 0) 63 88 0) 63 89 0) 63 90 0) 63 91 0) 63 92 0) 63 93 0) 63 94 0) 63 95 0) 75 3 8) 76 3 c) 77 72 0) 77 73 0) 77 74 0) 77 75 0) 77 76 0) 77 77 0) 77 78 0) 77 79 0) 77 80 0) 77 81 0) 77 82 0) 77 83 0) 77 84 0) 77 85 0) 77 86 0) 77 87 0) 77 88 0) 77 89 0) 77 90 0) 77 91 0) 77 92 0) 77 93 0) 77 94 0) 77 95 0, ⟨?_, rfl⟩, ⟨?_, rfl⟩⟩
                · refine mz_go 3 (c' := (5, [some (.ref 0), some (.int 3), some (.int 8), some (.int c)], [.int 3, .ref 60], (mz_i xs Ln))) rfl ?_
                  refine mz_do (R := mz_r45) (as := [.ref 60, .int 3]) (rest := []) (r1 := some (.int 1)) (m1 := (mz_i xs Ln)) rfl ⟨?_, rfl⟩ ?_
                  · refine mz_go 7 (c' := (14, [some (.ref 60), some (.int 3)], [.int 1], (mz_i xs Ln))) rfl ?_
                    exact mz_ret rfl
                  refine mz_go 10 (c' := (if 0 ≤ c then 53 else 47, [some (.ref 0), some (.int 3), some (.int 8), some (.int c)], [], (mz_i xs Ln))) rfl ?_
                  refine mz_ifT h6 ?_
                  refine mz_go 5 (c' := (if c ≤ 24 then 69 else 63, [some (.ref 0), some (.int 3), some (.int 8), some (.int c)], [], (mz_i xs Ln))) rfl ?_
                  refine mz_ifT h7 ?_
                  refine mz_go 7 (c' := (84, [some (.ref 0), some (.int 3), some (.int 8), some (.int c)], [.int c, .int 8, .int 3, .ref 60], (mz_i xs Ln))) rfl ?_
                  refine mz_do (R := mz_r47) (as := [.ref 60, .int 3, .int 8, .int c]) (rest := []) (r1 := none) (m1 := mz_up (mz_up (mz_up (mz_up (mz_up (mz_up (mz_up (mz_up (mz_up (mz_up (mz_up (mz_up (mz_up (mz_up (mz_up (mz_up (mz_up (mz_up (mz_up (mz_up (mz_up (mz_up (mz_up (mz_up (mz_up (mz_up (mz_i xs Ln) 61 3 8) 62 3 c) 63 72 0) 63 73 0) 63 74 0) 63 75 0) 63 76 0) 63 77 0) 63 78 0) 63 79 0) 63 80 0) 63 81 0) 63 82 0) 63 83 0) 63 84 0) 63 85 0) 63 86 0) 63 87 0) 63 88 0) 63 89 0) 63 90 0) 63 91 0) 63 92 0) 63 93 0) 63 94 0) 63 95 0) rfl ⟨?_, rfl⟩ ?_
                  · refine mz_go 2 (c' := (2, [some (.ref 60), some (.int 3), some (.int 8), some (.int c), none], [.int 3, .ref 60], (mz_i xs Ln))) rfl ?_
                    refine mz_do (R := mz_r45) (as := [.ref 60, .int 3]) (rest := []) (r1 := some (.int 1)) (m1 := (mz_i xs Ln)) rfl ⟨?_, rfl⟩ ?_
                    · refine mz_go 7 (c' := (14, [some (.ref 60), some (.int 3)], [.int 1], (mz_i xs Ln))) rfl ?_
                      exact mz_ret rfl
                    refine mz_go 4 (c' := (12, [some (.ref 60), some (.int 3), some (.int 8), some (.int c), none], [.int 24, .int 0, .int c], (mz_i xs Ln))) rfl ?_
                    refine mz_do (R := mz_r121) (as := [.int c, .int 0, .int 24]) (rest := []) (r1 := some (.int 1)) (m1 := (mz_i xs Ln)) rfl ⟨?_, rfl⟩ ?_
                    · refine mz_go 3 (c' := (if c < 0 then 14 else 5, [some (.int c), some (.int 0), some (.int 24)], [], (mz_i xs Ln))) rfl ?_
                      refine mz_ifF (by have hl : (0 : Int) ≤ (c).toInt := Int32.le_iff_toInt_le.mp h6; have hu : (c).toInt ≤ (24 : Int) := Int32.le_iff_toInt_le.mp h7; exact Int32.not_lt.mpr (Int32.le_iff_toInt_le.mpr (show (0 : Int) ≤ (c).toInt by omega))) ?_
                      refine mz_go 3 (c' := (if 24 < c then 14 else 10, [some (.int c), some (.int 0), some (.int 24)], [], (mz_i xs Ln))) rfl ?_
                      refine mz_ifF (by have hl : (0 : Int) ≤ (c).toInt := Int32.le_iff_toInt_le.mp h6; have hu : (c).toInt ≤ (24 : Int) := Int32.le_iff_toInt_le.mp h7; exact Int32.not_lt.mpr (Int32.le_iff_toInt_le.mpr (show (c).toInt ≤ (24 : Int) by omega))) ?_
                      refine mz_go 2 (c' := (15, [some (.int c), some (.int 0), some (.int 24)], [.int 1], (mz_i xs Ln))) rfl ?_
                      exact mz_ret rfl
                    refine mz_go 352 (c' := (61, [some (.ref 60), some (.int 3), some (.int 8), some (.int c), some (.int 24)], [], mz_up (mz_up (mz_up (mz_up (mz_up (mz_up (mz_up (mz_up (mz_up (mz_up (mz_up (mz_up (mz_up (mz_up (mz_up (mz_up (mz_up (mz_up (mz_up (mz_up (mz_up (mz_up (mz_up (mz_up (mz_up (mz_up (mz_i xs Ln) 61 3 8) 62 3 c) 63 72 0) 63 73 0) 63 74 0) 63 75 0) 63 76 0) 63 77 0) 63 78 0) 63 79 0) 63 80 0) 63 81 0) 63 82 0) 63 83 0) 63 84 0) 63 85 0) 63 86 0) 63 87 0) 63 88 0) 63 89 0) 63 90 0) 63 91 0) 63 92 0) 63 93 0) 63 94 0) 63 95 0)) rfl ?_
                    exact mz_ret rfl
                  refine mz_go 1 (c' := (88, [some (.ref 0), some (.int 3), some (.int 8), some (.int c)], [.int 1], mz_up (mz_up (mz_up (mz_up (mz_up (mz_up (mz_up (mz_up (mz_up (mz_up (mz_up (mz_up (mz_up (mz_up (mz_up (mz_up (mz_up (mz_up (mz_up (mz_up (mz_up (mz_up (mz_up (mz_up (mz_up (mz_up (mz_i xs Ln) 61 3 8) 62 3 c) 63 72 0) 63 73 0) 63 74 0) 63 75 0) 63 76 0) 63 77 0) 63 78 0) 63 79 0) 63 80 0) 63 81 0) 63 82 0) 63 83 0) 63 84 0) 63 85 0) 63 86 0) 63 87 0) 63 88 0) 63 89 0) 63 90 0) 63 91 0) 63 92 0) 63 93 0) 63 94 0) 63 95 0)) rfl ?_
                  exact mz_ret rfl
                · refine mz_go 1 (c' := (1, [some (.ref 65), some (.int 3), some (.int 8), some (.int c), none], [.int 3], mz_up (mz_up (mz_up (mz_up (mz_up (mz_up (mz_up (mz_up (mz_up (mz_up (mz_up (mz_up (mz_up (mz_up (mz_up (mz_up (mz_up (mz_up (mz_up (mz_up (mz_up (mz_up (mz_up (mz_up (mz_up (mz_up (mz_i xs Ln) 61 3 8) 62 3 c) 63 72 0) 63 73 0) 63 74 0) 63 75 0) 63 76 0) 63 77 0) 63 78 0) 63 79 0) 63 80 0) 63 81 0) 63 82 0) 63 83 0) 63 84 0) 63 85 0) 63 86 0) 63 87 0) 63 88 0) 63 89 0) 63 90 0) 63 91 0) 63 92 0) 63 93 0) 63 94 0) 63 95 0)) rfl ?_
                  refine mz_do (R := mz_r219) (as := [.int 3]) (rest := []) (r1 := some (.int 1)) (m1 := mz_up (mz_up (mz_up (mz_up (mz_up (mz_up (mz_up (mz_up (mz_up (mz_up (mz_up (mz_up (mz_up (mz_up (mz_up (mz_up (mz_up (mz_up (mz_up (mz_up (mz_up (mz_up (mz_up (mz_up (mz_up (mz_up (mz_i xs Ln) 61 3 8) 62 3 c) 63 72 0) 63 73 0) 63 74 0) 63 75 0) 63 76 0) 63 77 0) 63 78 0) 63 79 0) 63 80 0) 63 81 0) 63 82 0) 63 83 0) 63 84 0) 63 85 0) 63 86 0) 63 87 0) 63 88 0) 63 89 0) 63 90 0) 63 91 0) 63 92 0) 63 93 0) 63 94 0) 63 95 0) rfl ⟨?_, rfl⟩ ?_
                  · refine mz_go 3 (c' := (3, [some (.int 3)], [.int 3, .int 0, .int 3], mz_up (mz_up (mz_up (mz_up (mz_up (mz_up (mz_up (mz_up (mz_up (mz_up (mz_up (mz_up (mz_up (mz_up (mz_up (mz_up (mz_up (mz_up (mz_up (mz_up (mz_up (mz_up (mz_up (mz_up (mz_up (mz_up (mz_i xs Ln) 61 3 8) 62 3 c) 63 72 0) 63 73 0) 63 74 0) 63 75 0) 63 76 0) 63 77 0) 63 78 0) 63 79 0) 63 80 0) 63 81 0) 63 82 0) 63 83 0) 63 84 0) 63 85 0) 63 86 0) 63 87 0) 63 88 0) 63 89 0) 63 90 0) 63 91 0) 63 92 0) 63 93 0) 63 94 0) 63 95 0)) rfl ?_
                    refine mz_do (R := mz_r128) (as := [.int 3, .int 0, .int 3]) (rest := []) (r1 := some (.int 1)) (m1 := mz_up (mz_up (mz_up (mz_up (mz_up (mz_up (mz_up (mz_up (mz_up (mz_up (mz_up (mz_up (mz_up (mz_up (mz_up (mz_up (mz_up (mz_up (mz_up (mz_up (mz_up (mz_up (mz_up (mz_up (mz_up (mz_up (mz_i xs Ln) 61 3 8) 62 3 c) 63 72 0) 63 73 0) 63 74 0) 63 75 0) 63 76 0) 63 77 0) 63 78 0) 63 79 0) 63 80 0) 63 81 0) 63 82 0) 63 83 0) 63 84 0) 63 85 0) 63 86 0) 63 87 0) 63 88 0) 63 89 0) 63 90 0) 63 91 0) 63 92 0) 63 93 0) 63 94 0) 63 95 0) rfl ⟨?_, rfl⟩ ?_
                    · refine mz_go 8 (c' := (15, [some (.int 3), some (.int 0), some (.int 3)], [.int 1], mz_up (mz_up (mz_up (mz_up (mz_up (mz_up (mz_up (mz_up (mz_up (mz_up (mz_up (mz_up (mz_up (mz_up (mz_up (mz_up (mz_up (mz_up (mz_up (mz_up (mz_up (mz_up (mz_up (mz_up (mz_up (mz_up (mz_i xs Ln) 61 3 8) 62 3 c) 63 72 0) 63 73 0) 63 74 0) 63 75 0) 63 76 0) 63 77 0) 63 78 0) 63 79 0) 63 80 0) 63 81 0) 63 82 0) 63 83 0) 63 84 0) 63 85 0) 63 86 0) 63 87 0) 63 88 0) 63 89 0) 63 90 0) 63 91 0) 63 92 0) 63 93 0) 63 94 0) 63 95 0)) rfl ?_
                      exact mz_ret rfl
                    exact mz_ret rfl
                  refine mz_go 10 (c' := (if 0 ≤ c then 49 else 43, [some (.ref 65), some (.int 3), some (.int 8), some (.int c), none], [], mz_up (mz_up (mz_up (mz_up (mz_up (mz_up (mz_up (mz_up (mz_up (mz_up (mz_up (mz_up (mz_up (mz_up (mz_up (mz_up (mz_up (mz_up (mz_up (mz_up (mz_up (mz_up (mz_up (mz_up (mz_up (mz_up (mz_i xs Ln) 61 3 8) 62 3 c) 63 72 0) 63 73 0) 63 74 0) 63 75 0) 63 76 0) 63 77 0) 63 78 0) 63 79 0) 63 80 0) 63 81 0) 63 82 0) 63 83 0) 63 84 0) 63 85 0) 63 86 0) 63 87 0) 63 88 0) 63 89 0) 63 90 0) 63 91 0) 63 92 0) 63 93 0) 63 94 0) 63 95 0)) rfl ?_
                  refine mz_ifT h6 ?_
                  refine mz_go 5 (c' := (if c ≤ 24 then 65 else 59, [some (.ref 65), some (.int 3), some (.int 8), some (.int c), none], [], mz_up (mz_up (mz_up (mz_up (mz_up (mz_up (mz_up (mz_up (mz_up (mz_up (mz_up (mz_up (mz_up (mz_up (mz_up (mz_up (mz_up (mz_up (mz_up (mz_up (mz_up (mz_up (mz_up (mz_up (mz_up (mz_up (mz_i xs Ln) 61 3 8) 62 3 c) 63 72 0) 63 73 0) 63 74 0) 63 75 0) 63 76 0) 63 77 0) 63 78 0) 63 79 0) 63 80 0) 63 81 0) 63 82 0) 63 83 0) 63 84 0) 63 85 0) 63 86 0) 63 87 0) 63 88 0) 63 89 0) 63 90 0) 63 91 0) 63 92 0) 63 93 0) 63 94 0) 63 95 0)) rfl ?_
                  refine mz_ifT h7 ?_
                  refine mz_go 354 (c' := (117, [some (.ref 65), some (.int 3), some (.int 8), some (.int c), some (.int 24)], [.int 1], mz_up (mz_up (mz_up (mz_up (mz_up (mz_up (mz_up (mz_up (mz_up (mz_up (mz_up (mz_up (mz_up (mz_up (mz_up (mz_up (mz_up (mz_up (mz_up (mz_up (mz_up (mz_up (mz_up (mz_up (mz_up (mz_up (mz_up (mz_up (mz_up (mz_up (mz_up (mz_up (mz_up (mz_up (mz_up (mz_up (mz_up (mz_up (mz_up (mz_up (mz_up (mz_up (mz_up (mz_up (mz_up (mz_up (mz_up (mz_up (mz_up (mz_up (mz_up (mz_up (mz_i xs Ln) 61 3 8) 62 3 c) 63 72 0) 63 73 0) 63 74 0) 63 75 0) 63 76 0) 63 77 0) 63 78 0) 63 79 0) 63 80 0) 63 81 0) 63 82 0) 63 83 0) 63 84 0) 63 85 0) 63 86 0) 63 87 0) 63 88 0) 63 89 0) 63 90 0) 63 91 0) 63 92 0) 63 93 0) 63 94 0) 63 95 0) 75 3 8) 76 3 c) 77 72 0) 77 73 0) 77 74 0) 77 75 0) 77 76 0) 77 77 0) 77 78 0) 77 79 0) 77 80 0) 77 81 0) 77 82 0) 77 83 0) 77 84 0) 77 85 0) 77 86 0) 77 87 0) 77 88 0) 77 89 0) 77 90 0) 77 91 0) 77 92 0) 77 93 0) 77 94 0) 77 95 0)) rfl ?_
                  exact mz_ret rfl
            · refine ⟨(-1000001), mz_up (mz_i xs Ln) 64 1 1, mz_up (mz_up (mz_i xs Ln) 64 1 1) 68 1 1, ⟨?_, rfl⟩, ⟨?_, rfl⟩⟩
              · refine mz_go 3 (c' := (5, [some (.ref 0), some (.int a), some (.int 8), some (.int c)], [.int a, .ref 60], (mz_i xs Ln))) rfl ?_
                refine mz_do (R := mz_r45) (as := [.ref 60, .int a]) (rest := []) (r1 := some (.int 1)) (m1 := (mz_i xs Ln)) rfl ⟨?_, rfl⟩ ?_
                · refine mz_go 2 (c' := (if a < 0 then 13 else 4, [some (.ref 60), some (.int a)], [], (mz_i xs Ln))) rfl ?_
                  refine mz_ifF h1 ?_
                  refine mz_go 3 (c' := (if 4 ≤ a then 13 else 9, [some (.ref 60), some (.int a)], [], (mz_i xs Ln))) rfl ?_
                  refine mz_ifF h2 ?_
                  refine mz_go 2 (c' := (14, [some (.ref 60), some (.int a)], [.int 1], (mz_i xs Ln))) rfl ?_
                  exact mz_ret rfl
                refine mz_go 10 (c' := (if 0 ≤ c then 53 else 47, [some (.ref 0), some (.int a), some (.int 8), some (.int c)], [], (mz_i xs Ln))) rfl ?_
                refine mz_ifT h6 ?_
                refine mz_go 5 (c' := (if c ≤ 24 then 69 else 63, [some (.ref 0), some (.int a), some (.int 8), some (.int c)], [], (mz_i xs Ln))) rfl ?_
                refine mz_ifF h7 ?_
                refine mz_go 2 (c' := (65, [some (.ref 0), some (.int a), some (.int 8), some (.int c)], [.int 1, .ref 0], (mz_i xs Ln))) rfl ?_
                refine mz_do (R := mz_r109) (as := [.ref 0, .int 1]) (rest := []) (r1 := some (.int (-1000001))) (m1 := mz_up (mz_i xs Ln) 64 1 1) rfl ⟨?_, rfl⟩ ?_
                · refine mz_go 3 (c' := (4, [some (.ref 0), some (.int 1)], [.int 6, .int 1, .int 1], (mz_i xs Ln))) rfl ?_
                  refine mz_do (R := mz_r121) (as := [.int 1, .int 1, .int 6]) (rest := []) (r1 := some (.int 1)) (m1 := (mz_i xs Ln)) rfl ⟨?_, rfl⟩ ?_
                  · refine mz_go 8 (c' := (15, [some (.int 1), some (.int 1), some (.int 6)], [.int 1], (mz_i xs Ln))) rfl ?_
                    exact mz_ret rfl
                  refine mz_go 12 (c' := (25, [some (.ref 0), some (.int 1)], [.int (-1000001)], mz_up (mz_i xs Ln) 64 1 1)) rfl ?_
                  exact mz_ret rfl
                exact mz_ret rfl
              · refine mz_go 1 (c' := (1, [some (.ref 65), some (.int a), some (.int 8), some (.int c), none], [.int a], mz_up (mz_i xs Ln) 64 1 1)) rfl ?_
                refine mz_do (R := mz_r219) (as := [.int a]) (rest := []) (r1 := some (.int 1)) (m1 := mz_up (mz_i xs Ln) 64 1 1) rfl ⟨?_, rfl⟩ ?_
                · refine mz_go 3 (c' := (3, [some (.int a)], [.int 3, .int 0, .int a], mz_up (mz_i xs Ln) 64 1 1)) rfl ?_
                  refine mz_do (R := mz_r128) (as := [.int a, .int 0, .int 3]) (rest := []) (r1 := some (.int 1)) (m1 := mz_up (mz_i xs Ln) 64 1 1) rfl ⟨?_, rfl⟩ ?_
                  · refine mz_go 3 (c' := (if a < 0 then 14 else 5, [some (.int a), some (.int 0), some (.int 3)], [], mz_up (mz_i xs Ln) 64 1 1)) rfl ?_
                    refine mz_ifF h1 ?_
                    refine mz_go 3 (c' := (if 3 < a then 14 else 10, [some (.int a), some (.int 0), some (.int 3)], [], mz_up (mz_i xs Ln) 64 1 1)) rfl ?_
                    refine mz_ifF (by have hl : (0 : Int) ≤ (a).toInt := Int32.le_iff_toInt_le.mp (Int32.not_lt.mp h1); have hu : (a).toInt < (4 : Int) := Int32.lt_iff_toInt_lt.mp (Int32.not_le.mp h2); exact Int32.not_lt.mpr (Int32.le_iff_toInt_le.mpr (show (a).toInt ≤ (3 : Int) by omega))) ?_
                    refine mz_go 2 (c' := (15, [some (.int a), some (.int 0), some (.int 3)], [.int 1], mz_up (mz_i xs Ln) 64 1 1)) rfl ?_
                    exact mz_ret rfl
                  exact mz_ret rfl
                refine mz_go 10 (c' := (if 0 ≤ c then 49 else 43, [some (.ref 65), some (.int a), some (.int 8), some (.int c), none], [], mz_up (mz_i xs Ln) 64 1 1)) rfl ?_
                refine mz_ifT h6 ?_
                refine mz_go 5 (c' := (if c ≤ 24 then 65 else 59, [some (.ref 65), some (.int a), some (.int 8), some (.int c), none], [], mz_up (mz_i xs Ln) 64 1 1)) rfl ?_
                refine mz_ifF h7 ?_
                refine mz_go 2 (c' := (61, [some (.ref 65), some (.int a), some (.int 8), some (.int c), none], [.int 1, .ref 65], mz_up (mz_i xs Ln) 64 1 1)) rfl ?_
                refine mz_do (R := mz_r127) (as := [.ref 65, .int 1]) (rest := []) (r1 := some (.int (-1000001))) (m1 := mz_up (mz_up (mz_i xs Ln) 64 1 1) 68 1 1) rfl ⟨?_, rfl⟩ ?_
                · refine mz_go 11 (c' := (14, [some (.ref 65), some (.int 1)], [.int (-1000001)], mz_up (mz_up (mz_i xs Ln) 64 1 1) 68 1 1)) rfl ?_
                  exact mz_ret rfl
                exact mz_ret rfl
          · refine ⟨(-1000003), mz_up (mz_i xs Ln) 64 3 1, mz_up (mz_up (mz_i xs Ln) 64 3 1) 68 3 1, ⟨?_, rfl⟩, ⟨?_, rfl⟩⟩
            · refine mz_go 3 (c' := (5, [some (.ref 0), some (.int a), some (.int 8), some (.int c)], [.int a, .ref 60], (mz_i xs Ln))) rfl ?_
              refine mz_do (R := mz_r45) (as := [.ref 60, .int a]) (rest := []) (r1 := some (.int 1)) (m1 := (mz_i xs Ln)) rfl ⟨?_, rfl⟩ ?_
              · refine mz_go 2 (c' := (if a < 0 then 13 else 4, [some (.ref 60), some (.int a)], [], (mz_i xs Ln))) rfl ?_
                refine mz_ifF h1 ?_
                refine mz_go 3 (c' := (if 4 ≤ a then 13 else 9, [some (.ref 60), some (.int a)], [], (mz_i xs Ln))) rfl ?_
                refine mz_ifF h2 ?_
                refine mz_go 2 (c' := (14, [some (.ref 60), some (.int a)], [.int 1], (mz_i xs Ln))) rfl ?_
                exact mz_ret rfl
              refine mz_go 10 (c' := (if 0 ≤ c then 53 else 47, [some (.ref 0), some (.int a), some (.int 8), some (.int c)], [], (mz_i xs Ln))) rfl ?_
              refine mz_ifF h6 ?_
              refine mz_go 2 (c' := (49, [some (.ref 0), some (.int a), some (.int 8), some (.int c)], [.int 3, .ref 0], (mz_i xs Ln))) rfl ?_
              refine mz_do (R := mz_r109) (as := [.ref 0, .int 3]) (rest := []) (r1 := some (.int (-1000003))) (m1 := mz_up (mz_i xs Ln) 64 3 1) rfl ⟨?_, rfl⟩ ?_
              · refine mz_go 3 (c' := (4, [some (.ref 0), some (.int 3)], [.int 6, .int 1, .int 3], (mz_i xs Ln))) rfl ?_
                refine mz_do (R := mz_r121) (as := [.int 3, .int 1, .int 6]) (rest := []) (r1 := some (.int 1)) (m1 := (mz_i xs Ln)) rfl ⟨?_, rfl⟩ ?_
                · refine mz_go 8 (c' := (15, [some (.int 3), some (.int 1), some (.int 6)], [.int 1], (mz_i xs Ln))) rfl ?_
                  exact mz_ret rfl
                refine mz_go 12 (c' := (25, [some (.ref 0), some (.int 3)], [.int (-1000003)], mz_up (mz_i xs Ln) 64 3 1)) rfl ?_
                exact mz_ret rfl
              exact mz_ret rfl
            · refine mz_go 1 (c' := (1, [some (.ref 65), some (.int a), some (.int 8), some (.int c), none], [.int a], mz_up (mz_i xs Ln) 64 3 1)) rfl ?_
              refine mz_do (R := mz_r219) (as := [.int a]) (rest := []) (r1 := some (.int 1)) (m1 := mz_up (mz_i xs Ln) 64 3 1) rfl ⟨?_, rfl⟩ ?_
              · refine mz_go 3 (c' := (3, [some (.int a)], [.int 3, .int 0, .int a], mz_up (mz_i xs Ln) 64 3 1)) rfl ?_
                refine mz_do (R := mz_r128) (as := [.int a, .int 0, .int 3]) (rest := []) (r1 := some (.int 1)) (m1 := mz_up (mz_i xs Ln) 64 3 1) rfl ⟨?_, rfl⟩ ?_
                · refine mz_go 3 (c' := (if a < 0 then 14 else 5, [some (.int a), some (.int 0), some (.int 3)], [], mz_up (mz_i xs Ln) 64 3 1)) rfl ?_
                  refine mz_ifF h1 ?_
                  refine mz_go 3 (c' := (if 3 < a then 14 else 10, [some (.int a), some (.int 0), some (.int 3)], [], mz_up (mz_i xs Ln) 64 3 1)) rfl ?_
                  refine mz_ifF (by have hl : (0 : Int) ≤ (a).toInt := Int32.le_iff_toInt_le.mp (Int32.not_lt.mp h1); have hu : (a).toInt < (4 : Int) := Int32.lt_iff_toInt_lt.mp (Int32.not_le.mp h2); exact Int32.not_lt.mpr (Int32.le_iff_toInt_le.mpr (show (a).toInt ≤ (3 : Int) by omega))) ?_
                  refine mz_go 2 (c' := (15, [some (.int a), some (.int 0), some (.int 3)], [.int 1], mz_up (mz_i xs Ln) 64 3 1)) rfl ?_
                  exact mz_ret rfl
                exact mz_ret rfl
              refine mz_go 10 (c' := (if 0 ≤ c then 49 else 43, [some (.ref 65), some (.int a), some (.int 8), some (.int c), none], [], mz_up (mz_i xs Ln) 64 3 1)) rfl ?_
              refine mz_ifF h6 ?_
              refine mz_go 2 (c' := (45, [some (.ref 65), some (.int a), some (.int 8), some (.int c), none], [.int 3, .ref 65], mz_up (mz_i xs Ln) 64 3 1)) rfl ?_
              refine mz_do (R := mz_r127) (as := [.ref 65, .int 3]) (rest := []) (r1 := some (.int (-1000003))) (m1 := mz_up (mz_up (mz_i xs Ln) 64 3 1) 68 3 1) rfl ⟨?_, rfl⟩ ?_
              · refine mz_go 11 (c' := (14, [some (.ref 65), some (.int 3)], [.int (-1000003)], mz_up (mz_up (mz_i xs Ln) 64 3 1) 68 3 1)) rfl ?_
                exact mz_ret rfl
              exact mz_ret rfl
        · by_cases h9 : b = 16
          · subst h9
            by_cases h10 : 0 ≤ c
            · by_cases h11 : c ≤ 24
              · have hl12 : (0 : Int) ≤ (a).toInt := Int32.le_iff_toInt_le.mp (Int32.not_lt.mp h1)
                have hu12 : (a).toInt < (4 : Int) := Int32.lt_iff_toInt_lt.mp (Int32.not_le.mp h2)
                obtain rfl | rfl | rfl | rfl : a = 0 ∨ a = 1 ∨ a = 2 ∨ a = 3 := by
                    rcases (show a.toInt = 0 ∨ a.toInt = 1 ∨ a.toInt = 2 ∨ a.toInt = 3 by omega) with h | h | h | h
                    · exact (Or.inl (Int32.toInt_inj.mp h))
                    · exact (Or.inr (Or.inl (Int32.toInt_inj.mp h)))
                    · exact (Or.inr (Or.inr (Or.inl (Int32.toInt_inj.mp h))))
                    · exact (Or.inr (Or.inr (Or.inr (Int32.toInt_inj.mp h))))
                · refine ⟨1, mz_up (mz_up (mz_up (mz_up (mz_up (mz_up (mz_up (mz_up (mz_up (mz_up (mz_up (mz_up (mz_up (mz_up (mz_up (mz_up (mz_up (mz_up (mz_up (mz_up (mz_up (mz_up (mz_up (mz_up (mz_up (mz_up (mz_i xs Ln) 61 0 16) 62 0 c) 63 0 0) 63 1 0) 63 2 0) 63 3 0) 63 4 0) 63 5 0) 63 6 0) 63 7 0) 63 8 0) 63 9 0) 63 10 0) 63 11 0) 63 12 0) 63 13 0) 63 14 0) 63 15 0) 63 16 0) 63 17 0) 63 18 0) 63 19 0) 63 20 0) 63 21 0) 63 22 0) 63 23 0, mz_up (mz_up (mz_up (mz_up (mz_up (mz_up (mz_up (mz_up (mz_up (mz_up (mz_up (mz_up (mz_up (mz_up (mz_up (mz_up (mz_up (mz_up (mz_up (mz_up (mz_up (mz_up (mz_up (mz_up (mz_up (mz_up (mz_up (mz_up (mz_up (mz_up (mz_up (mz_up (mz_up (mz_up (mz_up (mz_up (mz_up (mz_up (mz_up (mz_up (mz_up (mz_up (mz_up (mz_up (mz_up (mz_up (mz_up (mz_up (mz_up (mz_up (mz_up (mz_up (mz_i xs Ln) 61 0 16) 62 0 c) 63 0 0) 63 1 0) 63 2 0) 63 3 0) 63 4 0) 63 5 0) 63 6 0) 63 7 0) 63 8 0) 63 9 0) 63 10 0) 63 11 0) 63 12 0) 63 13 0) 63 14 0) 63 15 0) 63 16 0) 63 17 0) 63 18 0) 63 19 0) 63 20 0) 63 21 0) 63 22 0) 63 23 0) 75 0 16) 76 0 c) 77 0 0) 77 1 0) 77 2 0) 77 3 0) 77 4 0) 77 5 0) 77 6 0) 77 7 0) 77 8 0) 77 9 0) 77 10 0) 77 11 0) 77 12 0) 77 13 0) 77 14 0) 77 15 0) 77 16 0) 77 17 0) 77 18 0) 77 19 0) 77 20 0) 77 21 0) 77 22 0) 77 23 0, ⟨?_, rfl⟩, ⟨?_, rfl⟩⟩
                  · refine mz_go 3 (c' := (5, [some (.ref 0), some (.int 0), some (.int 16), some (.int c)], [.int 0, .ref 60], (mz_i xs Ln))) rfl ?_
                    refine mz_do (R := mz_r45) (as := [.ref 60, .int 0]) (rest := []) (r1 := some (.int 1)) (m1 := (mz_i xs Ln)) rfl ⟨?_, rfl⟩ ?_
                    · refine mz_go 7 (c' := (14, [some (.ref 60), some (.int 0)], [.int 1], (mz_i xs Ln))) rfl ?_
                      exact mz_ret rfl
                    refine mz_go 13 (c' := (if 0 ≤ c then 53 else 47, [some (.ref 0), some (.int 0), some (.int 16), some (.int c)], [], (mz_i xs Ln))) rfl ?_
                    refine mz_ifT h10 ?_
                    refine mz_go 5 (c' := (if c ≤ 24 then 69 else 63, [some (.ref 0), some (.int 0), some (.int 16), some (.int c)], [], (mz_i xs Ln))) rfl ?_
                    refine mz_ifT h11 ?_
                    refine mz_go 7 (c' := (84, [some (.ref 0), some (.int 0), some (.int 16), some (.int c)], [.int c, .int 16, .int 0, .ref 60], (mz_i xs Ln))) rfl ?_
                    refine mz_do (R := mz_r47) (as := [.ref 60, .int 0, .int 16, .int c]) (rest := []) (r1 := none) (m1 := mz_up (mz_up (mz_up (mz_up (mz_up (mz_up (mz_up (mz_up (mz_up (mz_up (mz_up (mz_up (mz_up (mz_up (mz_up (mz_up (mz_up (mz_up (mz_up (mz_up (mz_up (mz_up (mz_up (mz_up (mz_up (mz_up (mz_i xs Ln) 61 0 16) 62 0 c) 63 0 0) 63 1 0) 63 2 0) 63 3 0) 63 4 0) 63 5 0) 63 6 0) 63 7 0) 63 8 0) 63 9 0) 63 10 0) 63 11 0) 63 12 0) 63 13 0) 63 14 0) 63 15 0) 63 16 0) 63 17 0) 63 18 0) 63 19 0) 63 20 0) 63 21 0) 63 22 0) 63 23 0) rfl ⟨?_, rfl⟩ ?_
                    · refine mz_go 2 (c' := (2, [some (.ref 60), some (.int 0), some (.int 16), some (.int c), none], [.int 0, .ref 60], (mz_i xs Ln))) rfl ?_
                      refine mz_do (R := mz_r45) (as := [.ref 60, .int 0]) (rest := []) (r1 := some (.int 1)) (m1 := (mz_i xs Ln)) rfl ⟨?_, rfl⟩ ?_
                      · refine mz_go 7 (c' := (14, [some (.ref 60), some (.int 0)], [.int 1], (mz_i xs Ln))) rfl ?_
                        exact mz_ret rfl
                      refine mz_go 4 (c' := (12, [some (.ref 60), some (.int 0), some (.int 16), some (.int c), none], [.int 24, .int 0, .int c], (mz_i xs Ln))) rfl ?_
                      refine mz_do (R := mz_r121) (as := [.int c, .int 0, .int 24]) (rest := []) (r1 := some (.int 1)) (m1 := (mz_i xs Ln)) rfl ⟨?_, rfl⟩ ?_
                      · refine mz_go 3 (c' := (if c < 0 then 14 else 5, [some (.int c), some (.int 0), some (.int 24)], [], (mz_i xs Ln))) rfl ?_
                        refine mz_ifF (by have hl : (0 : Int) ≤ (c).toInt := Int32.le_iff_toInt_le.mp h10; have hu : (c).toInt ≤ (24 : Int) := Int32.le_iff_toInt_le.mp h11; exact Int32.not_lt.mpr (Int32.le_iff_toInt_le.mpr (show (0 : Int) ≤ (c).toInt by omega))) ?_
                        refine mz_go 3 (c' := (if 24 < c then 14 else 10, [some (.int c), some (.int 0), some (.int 24)], [], (mz_i xs Ln))) rfl ?_
                        refine mz_ifF (by have hl : (0 : Int) ≤ (c).toInt := Int32.le_iff_toInt_le.mp h10; have hu : (c).toInt ≤ (24 : Int) := Int32.le_iff_toInt_le.mp h11; exact Int32.not_lt.mpr (Int32.le_iff_toInt_le.mpr (show (c).toInt ≤ (24 : Int) by omega))) ?_
                        refine mz_go 2 (c' := (15, [some (.int c), some (.int 0), some (.int 24)], [.int 1], (mz_i xs Ln))) rfl ?_
                        exact mz_ret rfl
                      refine mz_go 352 (c' := (61, [some (.ref 60), some (.int 0), some (.int 16), some (.int c), some (.int 24)], [], mz_up (mz_up (mz_up (mz_up (mz_up (mz_up (mz_up (mz_up (mz_up (mz_up (mz_up (mz_up (mz_up (mz_up (mz_up (mz_up (mz_up (mz_up (mz_up (mz_up (mz_up (mz_up (mz_up (mz_up (mz_up (mz_up (mz_i xs Ln) 61 0 16) 62 0 c) 63 0 0) 63 1 0) 63 2 0) 63 3 0) 63 4 0) 63 5 0) 63 6 0) 63 7 0) 63 8 0) 63 9 0) 63 10 0) 63 11 0) 63 12 0) 63 13 0) 63 14 0) 63 15 0) 63 16 0) 63 17 0) 63 18 0) 63 19 0) 63 20 0) 63 21 0) 63 22 0) 63 23 0)) rfl ?_
                      exact mz_ret rfl
                    refine mz_go 1 (c' := (88, [some (.ref 0), some (.int 0), some (.int 16), some (.int c)], [.int 1], mz_up (mz_up (mz_up (mz_up (mz_up (mz_up (mz_up (mz_up (mz_up (mz_up (mz_up (mz_up (mz_up (mz_up (mz_up (mz_up (mz_up (mz_up (mz_up (mz_up (mz_up (mz_up (mz_up (mz_up (mz_up (mz_up (mz_i xs Ln) 61 0 16) 62 0 c) 63 0 0) 63 1 0) 63 2 0) 63 3 0) 63 4 0) 63 5 0) 63 6 0) 63 7 0) 63 8 0) 63 9 0) 63 10 0) 63 11 0) 63 12 0) 63 13 0) 63 14 0) 63 15 0) 63 16 0) 63 17 0) 63 18 0) 63 19 0) 63 20 0) 63 21 0) 63 22 0) 63 23 0)) rfl ?_
                    exact mz_ret rfl
                  · refine mz_go 1 (c' := (1, [some (.ref 65), some (.int 0), some (.int 16), some (.int c), none], [.int 0], mz_up (mz_up (mz_up (mz_up (mz_up (mz_up (mz_up (mz_up (mz_up (mz_up (mz_up (mz_up (mz_up (mz_up (mz_up (mz_up (mz_up (mz_up (mz_up (mz_up (mz_up (mz_up (mz_up (mz_up (mz_up (mz_up (mz_i xs Ln) 61 0 16) 62 0 c) 63 0 0) 63 1 0) 63 2 0) 63 3 0) 63 4 0) 63 5 0) 63 6 0) 63 7 0) 63 8 0) 63 9 0) 63 10 0) 63 11 0) 63 12 0) 63 13 0) 63 14 0) 63 15 0) 63 16 0) 63 17 0) 63 18 0) 63 19 0) 63 20 0) 63 21 0) 63 22 0) 63 23 0)) rfl ?_
                    refine mz_do (R := mz_r219) (as := [.int 0]) (rest := []) (r1 := some (.int 1)) (m1 := mz_up (mz_up (mz_up (mz_up (mz_up (mz_up (mz_up (mz_up (mz_up (mz_up (mz_up (mz_up (mz_up (mz_up (mz_up (mz_up (mz_up (mz_up (mz_up (mz_up (mz_up (mz_up (mz_up (mz_up (mz_up (mz_up (mz_i xs Ln) 61 0 16) 62 0 c) 63 0 0) 63 1 0) 63 2 0) 63 3 0) 63 4 0) 63 5 0) 63 6 0) 63 7 0) 63 8 0) 63 9 0) 63 10 0) 63 11 0) 63 12 0) 63 13 0) 63 14 0) 63 15 0) 63 16 0) 63 17 0) 63 18 0) 63 19 0) 63 20 0) 63 21 0) 63 22 0) 63 23 0) rfl ⟨?_, rfl⟩ ?_
                    · refine mz_go 3 (c' := (3, [some (.int 0)], [.int 3, .int 0, .int 0], mz_up (mz_up (mz_up (mz_up (mz_up (mz_up (mz_up (mz_up (mz_up (mz_up (mz_up (mz_up (mz_up (mz_up (mz_up (mz_up (mz_up (mz_up (mz_up (mz_up (mz_up (mz_up (mz_up (mz_up (mz_up (mz_up (mz_i xs Ln) 61 0 16) 62 0 c) 63 0 0) 63 1 0) 63 2 0) 63 3 0) 63 4 0) 63 5 0) 63 6 0) 63 7 0) 63 8 0) 63 9 0) 63 10 0) 63 11 0) 63 12 0) 63 13 0) 63 14 0) 63 15 0) 63 16 0) 63 17 0) 63 18 0) 63 19 0) 63 20 0) 63 21 0) 63 22 0) 63 23 0)) rfl ?_
                      refine mz_do (R := mz_r128) (as := [.int 0, .int 0, .int 3]) (rest := []) (r1 := some (.int 1)) (m1 := mz_up (mz_up (mz_up (mz_up (mz_up (mz_up (mz_up (mz_up (mz_up (mz_up (mz_up (mz_up (mz_up (mz_up (mz_up (mz_up (mz_up (mz_up (mz_up (mz_up (mz_up (mz_up (mz_up (mz_up (mz_up (mz_up (mz_i xs Ln) 61 0 16) 62 0 c) 63 0 0) 63 1 0) 63 2 0) 63 3 0) 63 4 0) 63 5 0) 63 6 0) 63 7 0) 63 8 0) 63 9 0) 63 10 0) 63 11 0) 63 12 0) 63 13 0) 63 14 0) 63 15 0) 63 16 0) 63 17 0) 63 18 0) 63 19 0) 63 20 0) 63 21 0) 63 22 0) 63 23 0) rfl ⟨?_, rfl⟩ ?_
                      · refine mz_go 8 (c' := (15, [some (.int 0), some (.int 0), some (.int 3)], [.int 1], mz_up (mz_up (mz_up (mz_up (mz_up (mz_up (mz_up (mz_up (mz_up (mz_up (mz_up (mz_up (mz_up (mz_up (mz_up (mz_up (mz_up (mz_up (mz_up (mz_up (mz_up (mz_up (mz_up (mz_up (mz_up (mz_up (mz_i xs Ln) 61 0 16) 62 0 c) 63 0 0) 63 1 0) 63 2 0) 63 3 0) 63 4 0) 63 5 0) 63 6 0) 63 7 0) 63 8 0) 63 9 0) 63 10 0) 63 11 0) 63 12 0) 63 13 0) 63 14 0) 63 15 0) 63 16 0) 63 17 0) 63 18 0) 63 19 0) 63 20 0) 63 21 0) 63 22 0) 63 23 0)) rfl ?_
                        exact mz_ret rfl
                      exact mz_ret rfl
                    refine mz_go 13 (c' := (if 0 ≤ c then 49 else 43, [some (.ref 65), some (.int 0), some (.int 16), some (.int c), none], [], mz_up (mz_up (mz_up (mz_up (mz_up (mz_up (mz_up (mz_up (mz_up (mz_up (mz_up (mz_up (mz_up (mz_up (mz_up (mz_up (mz_up (mz_up (mz_up (mz_up (mz_up (mz_up (mz_up (mz_up (mz_up (mz_up (mz_i xs Ln) 61 0 16) 62 0 c) 63 0 0) 63 1 0) 63 2 0) 63 3 0) 63 4 0) 63 5 0) 63 6 0) 63 7 0) 63 8 0) 63 9 0) 63 10 0) 63 11 0) 63 12 0) 63 13 0) 63 14 0) 63 15 0) 63 16 0) 63 17 0) 63 18 0) 63 19 0) 63 20 0) 63 21 0) 63 22 0) 63 23 0)) rfl ?_
                    refine mz_ifT h10 ?_
                    refine mz_go 5 (c' := (if c ≤ 24 then 65 else 59, [some (.ref 65), some (.int 0), some (.int 16), some (.int c), none], [], mz_up (mz_up (mz_up (mz_up (mz_up (mz_up (mz_up (mz_up (mz_up (mz_up (mz_up (mz_up (mz_up (mz_up (mz_up (mz_up (mz_up (mz_up (mz_up (mz_up (mz_up (mz_up (mz_up (mz_up (mz_up (mz_up (mz_i xs Ln) 61 0 16) 62 0 c) 63 0 0) 63 1 0) 63 2 0) 63 3 0) 63 4 0) 63 5 0) 63 6 0) 63 7 0) 63 8 0) 63 9 0) 63 10 0) 63 11 0) 63 12 0) 63 13 0) 63 14 0) 63 15 0) 63 16 0) 63 17 0) 63 18 0) 63 19 0) 63 20 0) 63 21 0) 63 22 0) 63 23 0)) rfl ?_
                    refine mz_ifT h11 ?_
                    refine mz_go 354 (c' := (117, [some (.ref 65), some (.int 0), some (.int 16), some (.int c), some (.int 24)], [.int 1], mz_up (mz_up (mz_up (mz_up (mz_up (mz_up (mz_up (mz_up (mz_up (mz_up (mz_up (mz_up (mz_up (mz_up (mz_up (mz_up (mz_up (mz_up (mz_up (mz_up (mz_up (mz_up (mz_up (mz_up (mz_up (mz_up (mz_up (mz_up (mz_up (mz_up (mz_up (mz_up (mz_up (mz_up (mz_up (mz_up (mz_up (mz_up (mz_up (mz_up (mz_up (mz_up (mz_up (mz_up (mz_up (mz_up (mz_up (mz_up (mz_up (mz_up (mz_up (mz_up (mz_i xs Ln) 61 0 16) 62 0 c) 63 0 0) 63 1 0) 63 2 0) 63 3 0) 63 4 0) 63 5 0) 63 6 0) 63 7 0) 63 8 0) 63 9 0) 63 10 0) 63 11 0) 63 12 0) 63 13 0) 63 14 0) 63 15 0) 63 16 0) 63 17 0) 63 18 0) 63 19 0) 63 20 0) 63 21 0) 63 22 0) 63 23 0) 75 0 16) 76 0 c) 77 0 0) 77 1 0) 77 2 0) 77 3 0) 77 4 0) 77 5 0) 77 6 0) 77 7 0) 77 8 0) 77 9 0) 77 10 0) 77 11 0) 77 12 0) 77 13 0) 77 14 0) 77 15 0) 77 16 0) 77 17 0) 77 18 0) 77 19 0) 77 20 0) 77 21 0) 77 22 0) 77 23 0)) rfl ?_
                    exact mz_ret rfl
                · refine ⟨1, mz_up (mz_up (mz_up (mz_up (mz_up (mz_up (mz_up (mz_up (mz_up (mz_up (mz_up (mz_up (mz_up (mz_up (mz_up (mz_up (mz_up (mz_up (mz_up (mz_up (mz_up (mz_up (mz_up (mz_up (mz_up (mz_up (mz_i xs Ln) 61 1 16) 62 1 c) 63 24 0) 63 25 0) 63 26 0) 63 27 0) 63 28 0) 63 29 0) 63 30 0) 63 31 0) 63 32 0) 63 33 0) 63 34 0) 63 35 0) 63 36 0) 63 37 0) 63 38 0) 63 39 0) 63 40 0) 63 41 0) 63 42 0) 63 43 0) 63 44 0) 63 45 0) 63 46 0) 63 47 0, mz_up (mz_up (mz_up (mz_up (mz_up (mz_up (mz_up (mz_up (mz_up (mz_up (mz_up (mz_up (mz_up (mz_up (mz_up (mz_up (mz_up (mz_up (mz_up (mz_up (mz_up (mz_up (mz_up (mz_up (mz_up (mz_up (mz_up (mz_up (mz_up (mz_up (mz_up (mz_up (mz_up (mz_up (mz_up (mz_up (mz_up (mz_up (mz_up (mz_up (mz_up (mz_up (mz_up (mz_up (mz_up (mz_up (mz_up (mz_up (mz_up (mz_up (mz_up (mz_up (mz_i xs Ln) 61 1 16) 62 1 c) 63 24 0) 63 25 0) 63 26 0) 63 27 0) 63 28 0) 63 29 0) 63 30 0) 63 31 0) 63 32 0) 63 33 0) 63 34 0) 63 35 0) 63 36 0) 63 37 0) 63 38 0) 63 39 0) 63 40 0) 63 41 0) 63 42 0) 63 43 0) 63 44 0) 63 45 0) 63 46 0) 63 47 0) 75 1 16) 76 1 c) 77 24 0) 77 25 0) 77 26 0) 77 27 0) 77 28 0) 77 29 0) 77 30 0) 77 31 0) 77 32 0) 77 33 0) 77 34 0) 77 35 0) 77 36 0) 77 37 0) 77 38 0) 77 39 0) 77 40 0) 77 41 0) 77 42 0) 77 43 0) 77 44 0) 77 45 0) 77 46 0) 77 47 0, ⟨?_, rfl⟩, ⟨?_, rfl⟩⟩
                  · refine mz_go 3 (c' := (5, [some (.ref 0), some (.int 1), some (.int 16), some (.int c)], [.int 1, .ref 60], (mz_i xs Ln))) rfl ?_
                    refine mz_do (R := mz_r45) (as := [.ref 60, .int 1]) (rest := []) (r1 := some (.int 1)) (m1 := (mz_i xs Ln)) rfl ⟨?_, rfl⟩ ?_
                    · refine mz_go 7 (c' := (14, [some (.ref 60), some (.int 1)], [.int 1], (mz_i xs Ln))) rfl ?_
                      exact mz_ret rfl
                    refine mz_go 13 (c' := (if 0 ≤ c then 53 else 47, [some (.ref 0), some (.int 1), some (.int 16), some (.int c)], [], (mz_i xs Ln))) rfl ?_
                    refine mz_ifT h10 ?_
                    refine mz_go 5 (c' := (if c ≤ 24 then 69 else 63, [some (.ref 0), some (.int 1), some (.int 16), some (.int c)], [], (mz_i xs Ln))) rfl ?_
                    refine mz_ifT h11 ?_
                    refine mz_go 7 (c' := (84, [some (.ref 0), some (.int 1), some (.int 16), some (.int c)], [.int c, .int 16, .int 1, .ref 60], (mz_i xs Ln))) rfl ?_
                    refine mz_do (R := mz_r47) (as := [.ref 60, .int 1, .int 16, .int c]) (rest := []) (r1 := none) (m1 := mz_up (mz_up (mz_up (mz_up (mz_up (mz_up (mz_up (mz_up (mz_up (mz_up (mz_up (mz_up (mz_up (mz_up (mz_up (mz_up (mz_up (mz_up (mz_up (mz_up (mz_up (mz_up (mz_up (mz_up (mz_up (mz_up (mz_i xs Ln) 61 1 16) 62 1 c) 63 24 0) 63 25 0) 63 26 0) 63 27 0) 63 28 0) 63 29 0) 63 30 0) 63 31 0) 63 32 0) 63 33 0) 63 34 0) 63 35 0) 63 36 0) 63 37 0) 63 38 0) 63 39 0) 63 40 0) 63 41 0) 63 42 0) 63 43 0) 63 44 0) 63 45 0) 63 46 0) 63 47 0) rfl ⟨?_, rfl⟩ ?_
                    · refine mz_go 2 (c' := (2, [some (.ref 60), some (.int 1), some (.int 16), some (.int c), none], [.int 1, .ref 60], (mz_i xs Ln))) rfl ?_
                      refine mz_do (R := mz_r45) (as := [.ref 60, .int 1]) (rest := []) (r1 := some (.int 1)) (m1 := (mz_i xs Ln)) rfl ⟨?_, rfl⟩ ?_
                      · refine mz_go 7 (c' := (14, [some (.ref 60), some (.int 1)], [.int 1], (mz_i xs Ln))) rfl ?_
                        exact mz_ret rfl
                      refine mz_go 4 (c' := (12, [some (.ref 60), some (.int 1), some (.int 16), some (.int c), none], [.int 24, .int 0, .int c], (mz_i xs Ln))) rfl ?_
                      refine mz_do (R := mz_r121) (as := [.int c, .int 0, .int 24]) (rest := []) (r1 := some (.int 1)) (m1 := (mz_i xs Ln)) rfl ⟨?_, rfl⟩ ?_
                      · refine mz_go 3 (c' := (if c < 0 then 14 else 5, [some (.int c), some (.int 0), some (.int 24)], [], (mz_i xs Ln))) rfl ?_
                        refine mz_ifF (by have hl : (0 : Int) ≤ (c).toInt := Int32.le_iff_toInt_le.mp h10; have hu : (c).toInt ≤ (24 : Int) := Int32.le_iff_toInt_le.mp h11; exact Int32.not_lt.mpr (Int32.le_iff_toInt_le.mpr (show (0 : Int) ≤ (c).toInt by omega))) ?_
                        refine mz_go 3 (c' := (if 24 < c then 14 else 10, [some (.int c), some (.int 0), some (.int 24)], [], (mz_i xs Ln))) rfl ?_
                        refine mz_ifF (by have hl : (0 : Int) ≤ (c).toInt := Int32.le_iff_toInt_le.mp h10; have hu : (c).toInt ≤ (24 : Int) := Int32.le_iff_toInt_le.mp h11; exact Int32.not_lt.mpr (Int32.le_iff_toInt_le.mpr (show (c).toInt ≤ (24 : Int) by omega))) ?_
                        refine mz_go 2 (c' := (15, [some (.int c), some (.int 0), some (.int 24)], [.int 1], (mz_i xs Ln))) rfl ?_
                        exact mz_ret rfl
                      refine mz_go 352 (c' := (61, [some (.ref 60), some (.int 1), some (.int 16), some (.int c), some (.int 24)], [], mz_up (mz_up (mz_up (mz_up (mz_up (mz_up (mz_up (mz_up (mz_up (mz_up (mz_up (mz_up (mz_up (mz_up (mz_up (mz_up (mz_up (mz_up (mz_up (mz_up (mz_up (mz_up (mz_up (mz_up (mz_up (mz_up (mz_i xs Ln) 61 1 16) 62 1 c) 63 24 0) 63 25 0) 63 26 0) 63 27 0) 63 28 0) 63 29 0) 63 30 0) 63 31 0) 63 32 0) 63 33 0) 63 34 0) 63 35 0) 63 36 0) 63 37 0) 63 38 0) 63 39 0) 63 40 0) 63 41 0) 63 42 0) 63 43 0) 63 44 0) 63 45 0) 63 46 0) 63 47 0)) rfl ?_
                      exact mz_ret rfl
                    refine mz_go 1 (c' := (88, [some (.ref 0), some (.int 1), some (.int 16), some (.int c)], [.int 1], mz_up (mz_up (mz_up (mz_up (mz_up (mz_up (mz_up (mz_up (mz_up (mz_up (mz_up (mz_up (mz_up (mz_up (mz_up (mz_up (mz_up (mz_up (mz_up (mz_up (mz_up (mz_up (mz_up (mz_up (mz_up (mz_up (mz_i xs Ln) 61 1 16) 62 1 c) 63 24 0) 63 25 0) 63 26 0) 63 27 0) 63 28 0) 63 29 0) 63 30 0) 63 31 0) 63 32 0) 63 33 0) 63 34 0) 63 35 0) 63 36 0) 63 37 0) 63 38 0) 63 39 0) 63 40 0) 63 41 0) 63 42 0) 63 43 0) 63 44 0) 63 45 0) 63 46 0) 63 47 0)) rfl ?_
                    exact mz_ret rfl
                  · refine mz_go 1 (c' := (1, [some (.ref 65), some (.int 1), some (.int 16), some (.int c), none], [.int 1], mz_up (mz_up (mz_up (mz_up (mz_up (mz_up (mz_up (mz_up (mz_up (mz_up (mz_up (mz_up (mz_up (mz_up (mz_up (mz_up (mz_up (mz_up (mz_up (mz_up (mz_up (mz_up (mz_up (mz_up (mz_up (mz_up (mz_i xs Ln) 61 1 16) 62 1 c) 63 24 0) 63 25 0) 63 26 0) 63 27 0) 63 28 0) 63 29 0) 63 30 0) 63 31 0) 63 32 0) 63 33 0) 63 34 0) 63 35 0) 63 36 0) 63 37 0) 63 38 0) 63 39 0) 63 40 0) 63 41 0) 63 42 0) 63 43 0) 63 44 0) 63 45 0) 63 46 0) 63 47 0)) rfl ?_
                    refine mz_do (R := mz_r219) (as := [.int 1]) (rest := []) (r1 := some (.int 1)) (m1 := mz_up (mz_up (mz_up (mz_up (mz_up (mz_up (mz_up (mz_up (mz_up (mz_up (mz_up (mz_up (mz_up (mz_up (mz_up (mz_up (mz_up (mz_up (mz_up (mz_up (mz_up (mz_up (mz_up (mz_up (mz_up (mz_up (mz_i xs Ln) 61 1 16) 62 1 c) 63 24 0) 63 25 0) 63 26 0) 63 27 0) 63 28 0) 63 29 0) 63 30 0) 63 31 0) 63 32 0) 63 33 0) 63 34 0) 63 35 0) 63 36 0) 63 37 0) 63 38 0) 63 39 0) 63 40 0) 63 41 0) 63 42 0) 63 43 0) 63 44 0) 63 45 0) 63 46 0) 63 47 0) rfl ⟨?_, rfl⟩ ?_
                    · refine mz_go 3 (c' := (3, [some (.int 1)], [.int 3, .int 0, .int 1], mz_up (mz_up (mz_up (mz_up (mz_up (mz_up (mz_up (mz_up (mz_up (mz_up (mz_up (mz_up (mz_up (mz_up (mz_up (mz_up (mz_up (mz_up (mz_up (mz_up (mz_up (mz_up (mz_up (mz_up (mz_up (mz_up (mz_i xs Ln) 61 1 16) 62 1 c) 63 24 0) 63 25 0) 63 26 0) 63 27 0) 63 28 0) 63 29 0) 63 30 0) 63 31 0) 63 32 0) 63 33 0) 63 34 0) 63 35 0) 63 36 0) 63 37 0) 63 38 0) 63 39 0) 63 40 0) 63 41 0) 63 42 0) 63 43 0) 63 44 0) 63 45 0) 63 46 0) 63 47 0)) rfl ?_
                      refine mz_do (R := mz_r128) (as := [.int 1, .int 0, .int 3]) (rest := []) (r1 := some (.int 1)) (m1 := mz_up (mz_up (mz_up (mz_up (mz_up (mz_up (mz_up (mz_up (mz_up (mz_up (mz_up (mz_up (mz_up (mz_up (mz_up (mz_up (mz_up (mz_up (mz_up (mz_up (mz_up (mz_up (mz_up (mz_up (mz_up (mz_up (mz_i xs Ln) 61 1 16) 62 1 c) 63 24 0) 63 25 0) 63 26 0) 63 27 0) 63 28 0) 63 29 0) 63 30 0) 63 31 0) 63 32 0) 63 33 0) 63 34 0) 63 35 0) 63 36 0) 63 37 0) 63 38 0) 63 39 0) 63 40 0) 63 41 0) 63 42 0) 63 43 0) 63 44 0) 63 45 0) 63 46 0) 63 47 0) rfl ⟨?_, rfl⟩ ?_
                      · refine mz_go 8 (c' := (15, [some (.int 1), some (.int 0), some (.int 3)], [.int 1], mz_up (mz_up (mz_up (mz_up (mz_up (mz_up (mz_up (mz_up (mz_up (mz_up (mz_up (mz_up (mz_up (mz_up (mz_up (mz_up (mz_up (mz_up (mz_up (mz_up (mz_up (mz_up (mz_up (mz_up (mz_up (mz_up (mz_i xs Ln) 61 1 16) 62 1 c) 63 24 0) 63 25 0) 63 26 0) 63 27 0) 63 28 0) 63 29 0) 63 30 0) 63 31 0) 63 32 0) 63 33 0) 63 34 0) 63 35 0) 63 36 0) 63 37 0) 63 38 0) 63 39 0) 63 40 0) 63 41 0) 63 42 0) 63 43 0) 63 44 0) 63 45 0) 63 46 0) 63 47 0)) rfl ?_
                        exact mz_ret rfl
                      exact mz_ret rfl
                    refine mz_go 13 (c' := (if 0 ≤ c then 49 else 43, [some (.ref 65), some (.int 1), some (.int 16), some (.int c), none], [], mz_up (mz_up (mz_up (mz_up (mz_up (mz_up (mz_up (mz_up (mz_up (mz_up (mz_up (mz_up (mz_up (mz_up (mz_up (mz_up (mz_up (mz_up (mz_up (mz_up (mz_up (mz_up (mz_up (mz_up (mz_up (mz_up (mz_i xs Ln) 61 1 16) 62 1 c) 63 24 0) 63 25 0) 63 26 0) 63 27 0) 63 28 0) 63 29 0) 63 30 0) 63 31 0) 63 32 0) 63 33 0) 63 34 0) 63 35 0) 63 36 0) 63 37 0) 63 38 0) 63 39 0) 63 40 0) 63 41 0) 63 42 0) 63 43 0) 63 44 0) 63 45 0) 63 46 0) 63 47 0)) rfl ?_
                    refine mz_ifT h10 ?_
                    refine mz_go 5 (c' := (if c ≤ 24 then 65 else 59, [some (.ref 65), some (.int 1), some (.int 16), some (.int c), none], [], mz_up (mz_up (mz_up (mz_up (mz_up (mz_up (mz_up (mz_up (mz_up (mz_up (mz_up (mz_up (mz_up (mz_up (mz_up (mz_up (mz_up (mz_up (mz_up (mz_up (mz_up (mz_up (mz_up (mz_up (mz_up (mz_up (mz_i xs Ln) 61 1 16) 62 1 c) 63 24 0) 63 25 0) 63 26 0) 63 27 0) 63 28 0) 63 29 0) 63 30 0) 63 31 0) 63 32 0) 63 33 0) 63 34 0) 63 35 0) 63 36 0) 63 37 0) 63 38 0) 63 39 0) 63 40 0) 63 41 0) 63 42 0) 63 43 0) 63 44 0) 63 45 0) 63 46 0) 63 47 0)) rfl ?_
                    refine mz_ifT h11 ?_
                    refine mz_go 354 (c' := (117, [some (.ref 65), some (.int 1), some (.int 16), some (.int c), some (.int 24)], [.int 1], mz_up (mz_up (mz_up (mz_up (mz_up (mz_up (mz_up (mz_up (mz_up (mz_up (mz_up (mz_up (mz_up (mz_up (mz_up (mz_up (mz_up (mz_up (mz_up (mz_up (mz_up (mz_up (mz_up (mz_up (mz_up (mz_up (mz_up (mz_up (mz_up (mz_up (mz_up (mz_up (mz_up (mz_up (mz_up (mz_up (mz_up (mz_up (mz_up (mz_up (mz_up (mz_up (mz_up (mz_up (mz_up (mz_up (mz_up (mz_up (mz_up (mz_up (mz_up (mz_up (mz_i xs Ln) 61 1 16) 62 1 c) 63 24 0) 63 25 0) 63 26 0) 63 27 0) 63 28 0) 63 29 0) 63 30 0) 63 31 0) 63 32 0) 63 33 0) 63 34 0) 63 35 0) 63 36 0) 63 37 0) 63 38 0) 63 39 0) 63 40 0) 63 41 0) 63 42 0) 63 43 0) 63 44 0) 63 45 0) 63 46 0) 63 47 0) 75 1 16) 76 1 c) 77 24 0) 77 25 0) 77 26 0) 77 27 0) 77 28 0) 77 29 0) 77 30 0) 77 31 0) 77 32 0) 77 33 0) 77 34 0) 77 35 0) 77 36 0) 77 37 0) 77 38 0) 77 39 0) 77 40 0) 77 41 0) 77 42 0) 77 43 0) 77 44 0) 77 45 0) 77 46 0) 77 47 0)) rfl ?_
                    exact mz_ret rfl
                · refine ⟨1, mz_up (mz_up (mz_up (mz_up (mz_up (mz_up (mz_up (mz_up (mz_up (mz_up (mz_up (mz_up (mz_up (mz_up (mz_up (mz_up (mz_up (mz_up (mz_up (mz_up (mz_up (mz_up (mz_up (mz_up (mz_up (mz_up (mz_i xs Ln) 61 2 16) 62 2 c) 63 48 0) 63 49 0) 63 50 0) 63 51 0) 63 52 0) 63 53 0) 63 54 0) 63 55 0) 63 56 0) 63 57 0) 63 58 0) 63 59 0) 63 60 0) 63 61 0) 63 62 0) 63 63 0) 63 64 0) 63 65 0) 63 66 0) 63 67 0) 63 68 0) 63 69 0) 63 70 0) 63 71 0, mz_up (mz_up (mz_up (mz_up (mz_up (mz_up (mz_up (mz_up (mz_up (mz_up (mz_up (mz_up (mz_up (mz_up (mz_up (mz_up (mz_up (mz_up (mz_up (mz_up (mz_up (mz_up (mz_up (mz_up (mz_up (mz_up (mz_up (mz_up (mz_up (mz_up (mz_up (mz_up (mz_up (mz_up (mz_up (mz_up (mz_up (mz_up (mz_up (mz_up (mz_up (mz_up (mz_up (mz_up (mz_up (mz_up (mz_up (mz_up (mz_up (mz_up (mz_up (mz_up (mz_i xs Ln) 61 2 16) 62 2 c) 63 48 0) 63 49 0) 63 50 0) 63 51 0) 63 52 0) 63 53 0) 63 54 0) 63 55 0) 63 56 0) 63 57 0) 63 58 0) 63 59 0) 63 60 0) 63 61 0) 63 62 0) 63 63 0) 63 64 0) 63 65 0) 63 66 0) 63 67 0) 63 68 0) 63 69 0) 63 70 0) 63 71 0) 75 2 16) 76 2 c) 77 48 0) 77 49 0) 77 50 0) 77 51 0) 77 52 0) 77 53 0) 77 54 0) 77 55 0) 77 56 0) 77 57 0) 77 58 0) 77 59 0) 77 60 0) 77 61 0) 77 62 0) 77 63 0) 77 64 0) 77 65 0) 77 66 0) 77 67 0) 77 68 0) 77 69 0) 77 70 0) 77 71 0, ⟨?_, rfl⟩, ⟨?_, rfl⟩⟩
                  · refine mz_go 3 (c' := (5, [some (.ref 0), some (.int 2), some (.int 16), some (.int c)], [.int 2, .ref 60], (mz_i xs Ln))) rfl ?_
                    refine mz_do (R := mz_r45) (as := [.ref 60, .int 2]) (rest := []) (r1 := some (.int 1)) (m1 := (mz_i xs Ln)) rfl ⟨?_, rfl⟩ ?_
                    · refine mz_go 7 (c' := (14, [some (.ref 60), some (.int 2)], [.int 1], (mz_i xs Ln))) rfl ?_
                      exact mz_ret rfl
                    refine mz_go 13 (c' := (if 0 ≤ c then 53 else 47, [some (.ref 0), some (.int 2), some (.int 16), some (.int c)], [], (mz_i xs Ln))) rfl ?_
                    refine mz_ifT h10 ?_
                    refine mz_go 5 (c' := (if c ≤ 24 then 69 else 63, [some (.ref 0), some (.int 2), some (.int 16), some (.int c)], [], (mz_i xs Ln))) rfl ?_
                    refine mz_ifT h11 ?_
                    refine mz_go 7 (c' := (84, [some (.ref 0), some (.int 2), some (.int 16), some (.int c)], [.int c, .int 16, .int 2, .ref 60], (mz_i xs Ln))) rfl ?_
                    refine mz_do (R := mz_r47) (as := [.ref 60, .int 2, .int 16, .int c]) (rest := []) (r1 := none) (m1 := mz_up (mz_up (mz_up (mz_up (mz_up (mz_up (mz_up (mz_up (mz_up (mz_up (mz_up (mz_up (mz_up (mz_up (mz_up (mz_up (mz_up (mz_up (mz_up (mz_up (mz_up (mz_up (mz_up (mz_up (mz_up (mz_up (mz_i xs Ln) 61 2 16) 62 2 c) 63 48 0) 63 49 0) 63 50 0) 63 51 0) 63 52 0) 63 53 0) 63 54 0) 63 55 0) 63 56 0) 63 57 0) 63 58 0) 63 59 0) 63 60 0) 63 61 0) 63 62 0) 63 63 0) 63 64 0) 63 65 0) 63 66 0) 63 67 0) 63 68 0) 63 69 0) 63 70 0) 63 71 0) rfl ⟨?_, rfl⟩ ?_
                    · refine mz_go 2 (c' := (2, [some (.ref 60), some (.int 2), some (.int 16), some (.int c), none], [.int 2, .ref 60], (mz_i xs Ln))) rfl ?_
                      refine mz_do (R := mz_r45) (as := [.ref 60, .int 2]) (rest := []) (r1 := some (.int 1)) (m1 := (mz_i xs Ln)) rfl ⟨?_, rfl⟩ ?_
                      · refine mz_go 7 (c' := (14, [some (.ref 60), some (.int 2)], [.int 1], (mz_i xs Ln))) rfl ?_
                        exact mz_ret rfl
                      refine mz_go 4 (c' := (12, [some (.ref 60), some (.int 2), some (.int 16), some (.int c), none], [.int 24, .int 0, .int c], (mz_i xs Ln))) rfl ?_
                      refine mz_do (R := mz_r121) (as := [.int c, .int 0, .int 24]) (rest := []) (r1 := some (.int 1)) (m1 := (mz_i xs Ln)) rfl ⟨?_, rfl⟩ ?_
                      · refine mz_go 3 (c' := (if c < 0 then 14 else 5, [some (.int c), some (.int 0), some (.int 24)], [], (mz_i xs Ln))) rfl ?_
                        refine mz_ifF (by have hl : (0 : Int) ≤ (c).toInt := Int32.le_iff_toInt_le.mp h10; have hu : (c).toInt ≤ (24 : Int) := Int32.le_iff_toInt_le.mp h11; exact Int32.not_lt.mpr (Int32.le_iff_toInt_le.mpr (show (0 : Int) ≤ (c).toInt by omega))) ?_
                        refine mz_go 3 (c' := (if 24 < c then 14 else 10, [some (.int c), some (.int 0), some (.int 24)], [], (mz_i xs Ln))) rfl ?_
                        refine mz_ifF (by have hl : (0 : Int) ≤ (c).toInt := Int32.le_iff_toInt_le.mp h10; have hu : (c).toInt ≤ (24 : Int) := Int32.le_iff_toInt_le.mp h11; exact Int32.not_lt.mpr (Int32.le_iff_toInt_le.mpr (show (c).toInt ≤ (24 : Int) by omega))) ?_
                        refine mz_go 2 (c' := (15, [some (.int c), some (.int 0), some (.int 24)], [.int 1], (mz_i xs Ln))) rfl ?_
                        exact mz_ret rfl
                      refine mz_go 352 (c' := (61, [some (.ref 60), some (.int 2), some (.int 16), some (.int c), some (.int 24)], [], mz_up (mz_up (mz_up (mz_up (mz_up (mz_up (mz_up (mz_up (mz_up (mz_up (mz_up (mz_up (mz_up (mz_up (mz_up (mz_up (mz_up (mz_up (mz_up (mz_up (mz_up (mz_up (mz_up (mz_up (mz_up (mz_up (mz_i xs Ln) 61 2 16) 62 2 c) 63 48 0) 63 49 0) 63 50 0) 63 51 0) 63 52 0) 63 53 0) 63 54 0) 63 55 0) 63 56 0) 63 57 0) 63 58 0) 63 59 0) 63 60 0) 63 61 0) 63 62 0) 63 63 0) 63 64 0) 63 65 0) 63 66 0) 63 67 0) 63 68 0) 63 69 0) 63 70 0) 63 71 0)) rfl ?_
                      exact mz_ret rfl
                    refine mz_go 1 (c' := (88, [some (.ref 0), some (.int 2), some (.int 16), some (.int c)], [.int 1], mz_up (mz_up (mz_up (mz_up (mz_up (mz_up (mz_up (mz_up (mz_up (mz_up (mz_up (mz_up (mz_up (mz_up (mz_up (mz_up (mz_up (mz_up (mz_up (mz_up (mz_up (mz_up (mz_up (mz_up (mz_up (mz_up (mz_i xs Ln) 61 2 16) 62 2 c) 63 48 0) 63 49 0) 63 50 0) 63 51 0) 63 52 0) 63 53 0) 63 54 0) 63 55 0) 63 56 0) 63 57 0) 63 58 0) 63 59 0) 63 60 0) 63 61 0) 63 62 0) 63 63 0) 63 64 0) 63 65 0) 63 66 0) 63 67 0) 63 68 0) 63 69 0) 63 70 0) 63 71 0)) rfl ?_
                    exact mz_ret rfl
                  · refine mz_go 1 (c' := (1, [some (.ref 65), some (.int 2), some (.int 16), some (.int c), none], [.int 2], mz_up (mz_up (mz_up (mz_up (mz_up (mz_up (mz_up (mz_up (mz_up (mz_up (mz_up (mz_up (mz_up (mz_up (mz_up (mz_up (mz_up (mz_up (mz_up (mz_up (mz_up (mz_up (mz_up (mz_up (mz_up (mz_up (mz_i xs Ln) 61 2 16) 62 2 c) 63 48 0) 63 49 0) 63 50 0) 63 51 0) 63 52 0) 63 53 0) 63 54 0) 63 55 0) 63 56 0) 63 57 0) 63 58 0) 63 59 0) 63 60 0) 63 61 0) 63 62 0) 63 63 0) 63 64 0) 63 65 0) 63 66 0) 63 67 0) 63 68 0) 63 69 0) 63 70 0) 63 71 0)) rfl ?_
                    refine mz_do (R := mz_r219) (as := [.int 2]) (rest := []) (r1 := some (.int 1)) (m1 := mz_up (mz_up (mz_up (mz_up (mz_up (mz_up (mz_up (mz_up (mz_up (mz_up (mz_up (mz_up (mz_up (mz_up (mz_up (mz_up (mz_up (mz_up (mz_up (mz_up (mz_up (mz_up (mz_up (mz_up (mz_up (mz_up (mz_i xs Ln) 61 2 16) 62 2 c) 63 48 0) 63 49 0) 63 50 0) 63 51 0) 63 52 0) 63 53 0) 63 54 0) 63 55 0) 63 56 0) 63 57 0) 63 58 0) 63 59 0) 63 60 0) 63 61 0) 63 62 0) 63 63 0) 63 64 0) 63 65 0) 63 66 0) 63 67 0) 63 68 0) 63 69 0) 63 70 0) 63 71 0) rfl ⟨?_, rfl⟩ ?_
                    · refine mz_go 3 (c' := (3, [some (.int 2)], [.int 3, .int 0, .int 2], mz_up (mz_up (mz_up (mz_up (mz_up (mz_up (mz_up (mz_up (mz_up (mz_up (mz_up (mz_up (mz_up (mz_up (mz_up (mz_up (mz_up (mz_up (mz_up (mz_up (mz_up (mz_up (mz_up (mz_up (mz_up (mz_up (mz_i xs Ln) 61 2 16) 62 2 c) 63 48 0) 63 49 0) 63 50 0) 63 51 0) 63 52 0) 63 53 0) 63 54 0) 63 55 0) 63 56 0) 63 57 0) 63 58 0) 63 59 0) 63 60 0) 63 61 0) 63 62 0) 63 63 0) 63 64 0) 63 65 0) 63 66 0) 63 67 0) 63 68 0) 63 69 0) 63 70 0) 63 71 0)) rfl ?_
                      refine mz_do (R := mz_r128) (as := [.int 2, .int 0, .int 3]) (rest := []) (r1 := some (.int 1)) (m1 := mz_up (mz_up (mz_up (mz_up (mz_up (mz_up (mz_up (mz_up (mz_up (mz_up (mz_up (mz_up (mz_up (mz_up (mz_up (mz_up (mz_up (mz_up (mz_up (mz_up (mz_up (mz_up (mz_up (mz_up (mz_up (mz_up (mz_i xs Ln) 61 2 16) 62 2 c) 63 48 0) 63 49 0) 63 50 0) 63 51 0) 63 52 0) 63 53 0) 63 54 0) 63 55 0) 63 56 0) 63 57 0) 63 58 0) 63 59 0) 63 60 0) 63 61 0) 63 62 0) 63 63 0) 63 64 0) 63 65 0) 63 66 0) 63 67 0) 63 68 0) 63 69 0) 63 70 0) 63 71 0) rfl ⟨?_, rfl⟩ ?_
                      · refine mz_go 8 (c' := (15, [some (.int 2), some (.int 0), some (.int 3)], [.int 1], mz_up (mz_up (mz_up (mz_up (mz_up (mz_up (mz_up (mz_up (mz_up (mz_up (mz_up (mz_up (mz_up (mz_up (mz_up (mz_up (mz_up (mz_up (mz_up (mz_up (mz_up (mz_up (mz_up (mz_up (mz_up (mz_up (mz_i xs Ln) 61 2 16) 62 2 c) 63 48 0) 63 49 0) 63 50 0) 63 51 0) 63 52 0) 63 53 0) 63 54 0) 63 55 0) 63 56 0) 63 57 0) 63 58 0) 63 59 0) 63 60 0) 63 61 0) 63 62 0) 63 63 0) 63 64 0) 63 65 0) 63 66 0) 63 67 0) 63 68 0) 63 69 0) 63 70 0) 63 71 0)) rfl ?_
                        exact mz_ret rfl
                      exact mz_ret rfl
                    refine mz_go 13 (c' := (if 0 ≤ c then 49 else 43, [some (.ref 65), some (.int 2), some (.int 16), some (.int c), none], [], mz_up (mz_up (mz_up (mz_up (mz_up (mz_up (mz_up (mz_up (mz_up (mz_up (mz_up (mz_up (mz_up (mz_up (mz_up (mz_up (mz_up (mz_up (mz_up (mz_up (mz_up (mz_up (mz_up (mz_up (mz_up (mz_up (mz_i xs Ln) 61 2 16) 62 2 c) 63 48 0) 63 49 0) 63 50 0) 63 51 0) 63 52 0) 63 53 0) 63 54 0) 63 55 0) 63 56 0) 63 57 0) 63 58 0) 63 59 0) 63 60 0) 63 61 0) 63 62 0) 63 63 0) 63 64 0) 63 65 0) 63 66 0) 63 67 0) 63 68 0) 63 69 0) 63 70 0) 63 71 0)) rfl ?_
                    refine mz_ifT h10 ?_
                    refine mz_go 5 (c' := (if c ≤ 24 then 65 else 59, [some (.ref 65), some (.int 2), some (.int 16), some (.int c), none], [], mz_up (mz_up (mz_up (mz_up (mz_up (mz_up (mz_up (mz_up (mz_up (mz_up (mz_up (mz_up (mz_up (mz_up (mz_up (mz_up (mz_up (mz_up (mz_up (mz_up (mz_up (mz_up (mz_up (mz_up (mz_up (mz_up (mz_i xs Ln) 61 2 16) 62 2 c) 63 48 0) 63 49 0) 63 50 0) 63 51 0) 63 52 0) 63 53 0) 63 54 0) 63 55 0) 63 56 0) 63 57 0) 63 58 0) 63 59 0) 63 60 0) 63 61 0) 63 62 0) 63 63 0) 63 64 0) 63 65 0) 63 66 0) 63 67 0) 63 68 0) 63 69 0) 63 70 0) 63 71 0)) rfl ?_
                    refine mz_ifT h11 ?_
                    refine mz_go 354 (c' := (117, [some (.ref 65), some (.int 2), some (.int 16), some (.int c), some (.int 24)], [.int 1], mz_up (mz_up (mz_up (mz_up (mz_up (mz_up (mz_up (mz_up (mz_up (mz_up (mz_up (mz_up (mz_up (mz_up (mz_up (mz_up (mz_up (mz_up (mz_up (mz_up (mz_up (mz_up (mz_up (mz_up (mz_up (mz_up (mz_up (mz_up (mz_up (mz_up (mz_up (mz_up (mz_up (mz_up (mz_up (mz_up (mz_up (mz_up (mz_up (mz_up (mz_up (mz_up (mz_up (mz_up (mz_up (mz_up (mz_up (mz_up (mz_up (mz_up (mz_up (mz_up (mz_i xs Ln) 61 2 16) 62 2 c) 63 48 0) 63 49 0) 63 50 0) 63 51 0) 63 52 0) 63 53 0) 63 54 0) 63 55 0) 63 56 0) 63 57 0) 63 58 0) 63 59 0) 63 60 0) 63 61 0) 63 62 0) 63 63 0) 63 64 0) 63 65 0) 63 66 0) 63 67 0) 63 68 0) 63 69 0) 63 70 0) 63 71 0) 75 2 16) 76 2 c) 77 48 0) 77 49 0) 77 50 0) 77 51 0) 77 52 0) 77 53 0) 77 54 0) 77 55 0) 77 56 0) 77 57 0) 77 58 0) 77 59 0) 77 60 0) 77 61 0) 77 62 0) 77 63 0) 77 64 0) 77 65 0) 77 66 0) 77 67 0) 77 68 0) 77 69 0) 77 70 0) 77 71 0)) rfl ?_
                    exact mz_ret rfl
                · refine ⟨1, mz_up (mz_up (mz_up (mz_up (mz_up (mz_up (mz_up (mz_up (mz_up (mz_up (mz_up (mz_up (mz_up (mz_up (mz_up (mz_up (mz_up (mz_up (mz_up (mz_up (mz_up (mz_up (mz_up (mz_up (mz_up (mz_up (mz_i xs Ln) 61 3 16) 62 3 c) 63 72 0) 63 73 0) 63 74 0) 63 75 0) 63 76 0) 63 77 0) 63 78 0) 63 79 0) 63 80 0) 63 81 0) 63 82 0) 63 83 0) 63 84 0) 63 85 0) 63 86 0) 63 87 0) 63 88 0) 63 89 0) 63 90 0) 63 91 0) 63 92 0) 63 93 0) 63 94 0) 63 95 0, mz_up (mz_up (mz_up (mz_up (mz_up (mz_up (mz_up (mz_up (mz_up (mz_up (mz_up (mz_up (mz_up (mz_up (mz_up (mz_up (mz_up (mz_up (mz_up (mz_up (mz_up (mz_up (mz_up (mz_up (mz_up (mz_up (mz_up (mz_up (mz_up (mz_up (mz_up (mz_up (mz_up (mz_up (mz_up (mz_up (mz_up (mz_up (mz_up (mz_up (mz_up (mz_up (mz_up (mz_up (mz_up (mz_up (mz_up (mz_up (mz_up (mz_up (mz_up (mz_up (mz_i xs Ln) 61 3 16) 62 3 c) 63 72 0) 63 73 0) 63 74 0) 63 75 0) 63 76 0) 63 77 0) 63 78 0) 63 79 0) 63 80 0) 63 81 0) 63 82 0) 63 83 0) 63 84 0) 63 85 0) 63 86 0) 63 87 0) 63 88 0) 63 89 0) 63 90 0) 63 91 0) 63 92 0) 63 93 0) 63 94 0) 63 95 0) 75 3 16) 76 3 c) 77 72 0) 77 73 0) 77 74 0) 77 75 0) 77 76 0) 77 77 0) 77 78 0) 77 79 0) 77 80 0) 77 81 0) 77 82 0) 77 83 0) 77 84 0) 77 85 0) 77 86 0) 77 87 0) 77 88 0) 77 89 0) 77 90 0) 77 91 0) 77 92 0) 77 93 0) 77 94 0) 77 95 0, ⟨?_, rfl⟩, ⟨?_, rfl⟩⟩
                  · refine mz_go 3 (c' := (5, [some (.ref 0), some (.int 3), some (.int 16), some (.int c)], [.int 3, .ref 60], (mz_i xs Ln))) rfl ?_
                    refine mz_do (R := mz_r45) (as := [.ref 60, .int 3]) (rest := []) (r1 := some (.int 1)) (m1 := (mz_i xs Ln)) rfl ⟨?_, rfl⟩ ?_
                    · refine mz_go 7 (c' := (14, [some (.ref 60), some (.int 3)], [.int 1], (mz_i xs Ln))) rfl ?_
                      exact mz_ret rfl
                    refine mz_go 13 (c' := (if 0 ≤ c then 53 else 47, [some (.ref 0), some (.int 3), some (.int 16), some (.int c)], [], (mz_i xs Ln))) rfl ?_
                    refine mz_ifT h10 ?_
                    refine mz_go 5 (c' := (if c ≤ 24 then 69 else 63, [some (.ref 0), some (.int 3), some (.int 16), some (.int c)], [], (mz_i xs Ln))) rfl ?_
                    refine mz_ifT h11 ?_
                    refine mz_go 7 (c' := (84, [some (.ref 0), some (.int 3), some (.int 16), some (.int c)], [.int c, .int 16, .int 3, .ref 60], (mz_i xs Ln))) rfl ?_
                    refine mz_do (R := mz_r47) (as := [.ref 60, .int 3, .int 16, .int c]) (rest := []) (r1 := none) (m1 := mz_up (mz_up (mz_up (mz_up (mz_up (mz_up (mz_up (mz_up (mz_up (mz_up (mz_up (mz_up (mz_up (mz_up (mz_up (mz_up (mz_up (mz_up (mz_up (mz_up (mz_up (mz_up (mz_up (mz_up (mz_up (mz_up (mz_i xs Ln) 61 3 16) 62 3 c) 63 72 0) 63 73 0) 63 74 0) 63 75 0) 63 76 0) 63 77 0) 63 78 0) 63 79 0) 63 80 0) 63 81 0) 63 82 0) 63 83 0) 63 84 0) 63 85 0) 63 86 0) 63 87 0) 63 88 0) 63 89 0) 63 90 0) 63 91 0) 63 92 0) 63 93 0) 63 94 0) 63 95 0) rfl ⟨?_, rfl⟩ ?_
                    · refine mz_go 2 (c' := (2, [some (.ref 60), some (.int 3), some (.int 16), some (.int c), none], [.int 3, .ref 60], (mz_i xs Ln))) rfl ?_
                      refine mz_do (R := mz_r45) (as := [.ref 60, .int 3]) (rest := []) (r1 := some (.int 1)) (m1 := (mz_i xs Ln)) rfl ⟨?_, rfl⟩ ?_
                      · refine mz_go 7 (c' := (14, [some (.ref 60), some (.int 3)], [.int 1], (mz_i xs Ln))) rfl ?_
                        exact mz_ret rfl
                      refine mz_go 4 (c' := (12, [some (.ref 60), some (.int 3), some (.int 16), some (.int c), none], [.int 24, .int 0, .int c], (mz_i xs Ln))) rfl ?_
                      refine mz_do (R := mz_r121) (as := [.int c, .int 0, .int 24]) (rest := []) (r1 := some (.int 1)) (m1 := (mz_i xs Ln)) rfl ⟨?_, rfl⟩ ?_
                      · refine mz_go 3 (c' := (if c < 0 then 14 else 5, [some (.int c), some (.int 0), some (.int 24)], [], (mz_i xs Ln))) rfl ?_
                        refine mz_ifF (by have hl : (0 : Int) ≤ (c).toInt := Int32.le_iff_toInt_le.mp h10; have hu : (c).toInt ≤ (24 : Int) := Int32.le_iff_toInt_le.mp h11; exact Int32.not_lt.mpr (Int32.le_iff_toInt_le.mpr (show (0 : Int) ≤ (c).toInt by omega))) ?_
                        refine mz_go 3 (c' := (if 24 < c then 14 else 10, [some (.int c), some (.int 0), some (.int 24)], [], (mz_i xs Ln))) rfl ?_
                        refine mz_ifF (by have hl : (0 : Int) ≤ (c).toInt := Int32.le_iff_toInt_le.mp h10; have hu : (c).toInt ≤ (24 : Int) := Int32.le_iff_toInt_le.mp h11; exact Int32.not_lt.mpr (Int32.le_iff_toInt_le.mpr (show (c).toInt ≤ (24 : Int) by omega))) ?_
                        refine mz_go 2 (c' := (15, [some (.int c), some (.int 0), some (.int 24)], [.int 1], (mz_i xs Ln))) rfl ?_
                        exact mz_ret rfl
                      refine mz_go 352 (c' := (61, [some (.ref 60), some (.int 3), some (.int 16), some (.int c), some (.int 24)], [], mz_up (mz_up (mz_up (mz_up (mz_up (mz_up (mz_up (mz_up (mz_up (mz_up (mz_up (mz_up (mz_up (mz_up (mz_up (mz_up (mz_up (mz_up (mz_up (mz_up (mz_up (mz_up (mz_up (mz_up (mz_up (mz_up (mz_i xs Ln) 61 3 16) 62 3 c) 63 72 0) 63 73 0) 63 74 0) 63 75 0) 63 76 0) 63 77 0) 63 78 0) 63 79 0) 63 80 0) 63 81 0) 63 82 0) 63 83 0) 63 84 0) 63 85 0) 63 86 0) 63 87 0) 63 88 0) 63 89 0) 63 90 0) 63 91 0) 63 92 0) 63 93 0) 63 94 0) 63 95 0)) rfl ?_
                      exact mz_ret rfl
                    refine mz_go 1 (c' := (88, [some (.ref 0), some (.int 3), some (.int 16), some (.int c)], [.int 1], mz_up (mz_up (mz_up (mz_up (mz_up (mz_up (mz_up (mz_up (mz_up (mz_up (mz_up (mz_up (mz_up (mz_up (mz_up (mz_up (mz_up (mz_up (mz_up (mz_up (mz_up (mz_up (mz_up (mz_up (mz_up (mz_up (mz_i xs Ln) 61 3 16) 62 3 c) 63 72 0) 63 73 0) 63 74 0) 63 75 0) 63 76 0) 63 77 0) 63 78 0) 63 79 0) 63 80 0) 63 81 0) 63 82 0) 63 83 0) 63 84 0) 63 85 0) 63 86 0) 63 87 0) 63 88 0) 63 89 0) 63 90 0) 63 91 0) 63 92 0) 63 93 0) 63 94 0) 63 95 0)) rfl ?_
                    exact mz_ret rfl
                  · refine mz_go 1 (c' := (1, [some (.ref 65), some (.int 3), some (.int 16), some (.int c), none], [.int 3], mz_up (mz_up (mz_up (mz_up (mz_up (mz_up (mz_up (mz_up (mz_up (mz_up (mz_up (mz_up (mz_up (mz_up (mz_up (mz_up (mz_up (mz_up (mz_up (mz_up (mz_up (mz_up (mz_up (mz_up (mz_up (mz_up (mz_i xs Ln) 61 3 16) 62 3 c) 63 72 0) 63 73 0) 63 74 0) 63 75 0) 63 76 0) 63 77 0) 63 78 0) 63 79 0) 63 80 0) 63 81 0) 63 82 0) 63 83 0) 63 84 0) 63 85 0) 63 86 0) 63 87 0) 63 88 0) 63 89 0) 63 90 0) 63 91 0) 63 92 0) 63 93 0) 63 94 0) 63 95 0)) rfl ?_
                    refine mz_do (R := mz_r219) (as := [.int 3]) (rest := []) (r1 := some (.int 1)) (m1 := mz_up (mz_up (mz_up (mz_up (mz_up (mz_up (mz_up (mz_up (mz_up (mz_up (mz_up (mz_up (mz_up (mz_up (mz_up (mz_up (mz_up (mz_up (mz_up (mz_up (mz_up (mz_up (mz_up (mz_up (mz_up (mz_up (mz_i xs Ln) 61 3 16) 62 3 c) 63 72 0) 63 73 0) 63 74 0) 63 75 0) 63 76 0) 63 77 0) 63 78 0) 63 79 0) 63 80 0) 63 81 0) 63 82 0) 63 83 0) 63 84 0) 63 85 0) 63 86 0) 63 87 0) 63 88 0) 63 89 0) 63 90 0) 63 91 0) 63 92 0) 63 93 0) 63 94 0) 63 95 0) rfl ⟨?_, rfl⟩ ?_
                    · refine mz_go 3 (c' := (3, [some (.int 3)], [.int 3, .int 0, .int 3], mz_up (mz_up (mz_up (mz_up (mz_up (mz_up (mz_up (mz_up (mz_up (mz_up (mz_up (mz_up (mz_up (mz_up (mz_up (mz_up (mz_up (mz_up (mz_up (mz_up (mz_up (mz_up (mz_up (mz_up (mz_up (mz_up (mz_i xs Ln) 61 3 16) 62 3 c) 63 72 0) 63 73 0) 63 74 0) 63 75 0) 63 76 0) 63 77 0) 63 78 0) 63 79 0) 63 80 0) 63 81 0) 63 82 0) 63 83 0) 63 84 0) 63 85 0) 63 86 0) 63 87 0) 63 88 0) 63 89 0) 63 90 0) 63 91 0) 63 92 0) 63 93 0) 63 94 0) 63 95 0)) rfl ?_
                      refine mz_do (R := mz_r128) (as := [.int 3, .int 0, .int 3]) (rest := []) (r1 := some (.int 1)) (m1 := mz_up (mz_up (mz_up (mz_up (mz_up (mz_up (mz_up (mz_up (mz_up (mz_up (mz_up (mz_up (mz_up (mz_up (mz_up (mz_up (mz_up (mz_up (mz_up (mz_up (mz_up (mz_up (mz_up (mz_up (mz_up (mz_up (mz_i xs Ln) 61 3 16) 62 3 c) 63 72 0) 63 73 0) 63 74 0) 63 75 0) 63 76 0) 63 77 0) 63 78 0) 63 79 0) 63 80 0) 63 81 0) 63 82 0) 63 83 0) 63 84 0) 63 85 0) 63 86 0) 63 87 0) 63 88 0) 63 89 0) 63 90 0) 63 91 0) 63 92 0) 63 93 0) 63 94 0) 63 95 0) rfl ⟨?_, rfl⟩ ?_
                      · refine mz_go 8 (c' := (15, [some (.int 3), some (.int 0), some (.int 3)], [.int 1], mz_up (mz_up (mz_up (mz_up (mz_up (mz_up (mz_up (mz_up (mz_up (mz_up (mz_up (mz_up (mz_up (mz_up (mz_up (mz_up (mz_up (mz_up (mz_up (mz_up (mz_up (mz_up (mz_up (mz_up (mz_up (mz_up (mz_i xs Ln) 61 3 16) 62 3 c) 63 72 0) 63 73 0) 63 74 0) 63 75 0) 63 76 0) 63 77 0) 63 78 0) 63 79 0) 63 80 0) 63 81 0) 63 82 0) 63 83 0) 63 84 0) 63 85 0) 63 86 0) 63 87 0) 63 88 0) 63 89 0) 63 90 0) 63 91 0) 63 92 0) 63 93 0) 63 94 0) 63 95 0)) rfl ?_
                        exact mz_ret rfl
                      exact mz_ret rfl
                    refine mz_go 13 (c' := (if 0 ≤ c then 49 else 43, [some (.ref 65), some (.int 3), some (.int 16), some (.int c), none], [], mz_up (mz_up (mz_up (mz_up (mz_up (mz_up (mz_up (mz_up (mz_up (mz_up (mz_up (mz_up (mz_up (mz_up (mz_up (mz_up (mz_up (mz_up (mz_up (mz_up (mz_up (mz_up (mz_up (mz_up (mz_up (mz_up (mz_i xs Ln) 61 3 16) 62 3 c) 63 72 0) 63 73 0) 63 74 0) 63 75 0) 63 76 0) 63 77 0) 63 78 0) 63 79 0) 63 80 0) 63 81 0) 63 82 0) 63 83 0) 63 84 0) 63 85 0) 63 86 0) 63 87 0) 63 88 0) 63 89 0) 63 90 0) 63 91 0) 63 92 0) 63 93 0) 63 94 0) 63 95 0)) rfl ?_
                    refine mz_ifT h10 ?_
                    refine mz_go 5 (c' := (if c ≤ 24 then 65 else 59, [some (.ref 65), some (.int 3), some (.int 16), some (.int c), none], [], mz_up (mz_up (mz_up (mz_up (mz_up (mz_up (mz_up (mz_up (mz_up (mz_up (mz_up (mz_up (mz_up (mz_up (mz_up (mz_up (mz_up (mz_up (mz_up (mz_up (mz_up (mz_up (mz_up (mz_up (mz_up (mz_up (mz_i xs Ln) 61 3 16) 62 3 c) 63 72 0) 63 73 0) 63 74 0) 63 75 0) 63 76 0) 63 77 0) 63 78 0) 63 79 0) 63 80 0) 63 81 0) 63 82 0) 63 83 0) 63 84 0) 63 85 0) 63 86 0) 63 87 0) 63 88 0) 63 89 0) 63 90 0) 63 91 0) 63 92 0) 63 93 0) 63 94 0) 63 95 0)) rfl ?_
                    refine mz_ifT h11 ?_
                    refine mz_go 354 (c' := (117, [some (.ref 65), some (.int 3), some (.int 16), some (.int c), some (.int 24)], [.int 1], mz_up (mz_up (mz_up (mz_up (mz_up (mz_up (mz_up (mz_up (mz_up (mz_up (mz_up (mz_up (mz_up (mz_up (mz_up (mz_up (mz_up (mz_up (mz_up (mz_up (mz_up (mz_up (mz_up (mz_up (mz_up (mz_up (mz_up (mz_up (mz_up (mz_up (mz_up (mz_up (mz_up (mz_up (mz_up (mz_up (mz_up (mz_up (mz_up (mz_up (mz_up (mz_up (mz_up (mz_up (mz_up (mz_up (mz_up (mz_up (mz_up (mz_up (mz_up (mz_up (mz_i xs Ln) 61 3 16) 62 3 c) 63 72 0) 63 73 0) 63 74 0) 63 75 0) 63 76 0) 63 77 0) 63 78 0) 63 79 0) 63 80 0) 63 81 0) 63 82 0) 63 83 0) 63 84 0) 63 85 0) 63 86 0) 63 87 0) 63 88 0) 63 89 0) 63 90 0) 63 91 0) 63 92 0) 63 93 0) 63 94 0) 63 95 0) 75 3 16) 76 3 c) 77 72 0) 77 73 0) 77 74 0) 77 75 0) 77 76 0) 77 77 0) 77 78 0) 77 79 0) 77 80 0) 77 81 0) 77 82 0) 77 83 0) 77 84 0) 77 85 0) 77 86 0) 77 87 0) 77 88 0) 77 89 0) 77 90 0) 77 91 0) 77 92 0) 77 93 0) 77 94 0) 77 95 0)) rfl ?_
                    exact mz_ret rfl
              · refine ⟨(-1000001), mz_up (mz_i xs Ln) 64 1 1, mz_up (mz_up (mz_i xs Ln) 64 1 1) 68 1 1, ⟨?_, rfl⟩, ⟨?_, rfl⟩⟩
                · refine mz_go 3 (c' := (5, [some (.ref 0), some (.int a), some (.int 16), some (.int c)], [.int a, .ref 60], (mz_i xs Ln))) rfl ?_
                  refine mz_do (R := mz_r45) (as := [.ref 60, .int a]) (rest := []) (r1 := some (.int 1)) (m1 := (mz_i xs Ln)) rfl ⟨?_, rfl⟩ ?_
                  · refine mz_go 2 (c' := (if a < 0 then 13 else 4, [some (.ref 60), some (.int a)], [], (mz_i xs Ln))) rfl ?_
                    refine mz_ifF h1 ?_
                    refine mz_go 3 (c' := (if 4 ≤ a then 13 else 9, [some (.ref 60), some (.int a)], [], (mz_i xs Ln))) rfl ?_
                    refine mz_ifF h2 ?_
                    refine mz_go 2 (c' := (14, [some (.ref 60), some (.int a)], [.int 1], (mz_i xs Ln))) rfl ?_
                    exact mz_ret rfl
                  refine mz_go 13 (c' := (if 0 ≤ c then 53 else 47, [some (.ref 0), some (.int a), some (.int 16), some (.int c)], [], (mz_i xs Ln))) rfl ?_
                  refine mz_ifT h10 ?_
                  refine mz_go 5 (c' := (if c ≤ 24 then 69 else 63, [some (.ref 0), some (.int a), some (.int 16), some (.int c)], [], (mz_i xs Ln))) rfl ?_
                  refine mz_ifF h11 ?_
                  refine mz_go 2 (c' := (65, [some (.ref 0), some (.int a), some (.int 16), some (.int c)], [.int 1, .ref 0], (mz_i xs Ln))) rfl ?_
                  refine mz_do (R := mz_r109) (as := [.ref 0, .int 1]) (rest := []) (r1 := some (.int (-1000001))) (m1 := mz_up (mz_i xs Ln) 64 1 1) rfl ⟨?_, rfl⟩ ?_
                  · refine mz_go 3 (c' := (4, [some (.ref 0), some (.int 1)], [.int 6, .int 1, .int 1], (mz_i xs Ln))) rfl ?_
                    refine mz_do (R := mz_r121) (as := [.int 1, .int 1, .int 6]) (rest := []) (r1 := some (.int 1)) (m1 := (mz_i xs Ln)) rfl ⟨?_, rfl⟩ ?_
                    · refine mz_go 8 (c' := (15, [some (.int 1), some (.int 1), some (.int 6)], [.int 1], (mz_i xs Ln))) rfl ?_
                      exact mz_ret rfl
                    refine mz_go 12 (c' := (25, [some (.ref 0), some (.int 1)], [.int (-1000001)], mz_up (mz_i xs Ln) 64 1 1)) rfl ?_
                    exact mz_ret rfl
                  exact mz_ret rfl
                · refine mz_go 1 (c' := (1, [some (.ref 65), some (.int a), some (.int 16), some (.int c), none], [.int a], mz_up (mz_i xs Ln) 64 1 1)) rfl ?_
                  refine mz_do (R := mz_r219) (as := [.int a]) (rest := []) (r1 := some (.int 1)) (m1 := mz_up (mz_i xs Ln) 64 1 1) rfl ⟨?_, rfl⟩ ?_
                  · refine mz_go 3 (c' := (3, [some (.int a)], [.int 3, .int 0, .int a], mz_up (mz_i xs Ln) 64 1 1)) rfl ?_
                    refine mz_do (R := mz_r128) (as := [.int a, .int 0, .int 3]) (rest := []) (r1 := some (.int 1)) (m1 := mz_up (mz_i xs Ln) 64 1 1) rfl ⟨?_, rfl⟩ ?_
                    · refine mz_go 3 (c' := (if a < 0 then 14 else 5, [some (.int a), some (.int 0), some (.int 3)], [], mz_up (mz_i xs Ln) 64 1 1)) rfl ?_
                      refine mz_ifF h1 ?_
                      refine mz_go 3 (c' := (if 3 < a then 14 else 10, [some (.int a), some (.int 0), some (.int 3)], [], mz_up (mz_i xs Ln) 64 1 1)) rfl ?_
                      refine mz_ifF (by have hl : (0 : Int) ≤ (a).toInt := Int32.le_iff_toInt_le.mp (Int32.not_lt.mp h1); have hu : (a).toInt < (4 : Int) := Int32.lt_iff_toInt_lt.mp (Int32.not_le.mp h2); exact Int32.not_lt.mpr (Int32.le_iff_toInt_le.mpr (show (a).toInt ≤ (3 : Int) by omega))) ?_
                      refine mz_go 2 (c' := (15, [some (.int a), some (.int 0), some (.int 3)], [.int 1], mz_up (mz_i xs Ln) 64 1 1)) rfl ?_
                      exact mz_ret rfl
                    exact mz_ret rfl
                  refine mz_go 13 (c' := (if 0 ≤ c then 49 else 43, [some (.ref 65), some (.int a), some (.int 16), some (.int c), none], [], mz_up (mz_i xs Ln) 64 1 1)) rfl ?_
                  refine mz_ifT h10 ?_
                  refine mz_go 5 (c' := (if c ≤ 24 then 65 else 59, [some (.ref 65), some (.int a), some (.int 16), some (.int c), none], [], mz_up (mz_i xs Ln) 64 1 1)) rfl ?_
                  refine mz_ifF h11 ?_
                  refine mz_go 2 (c' := (61, [some (.ref 65), some (.int a), some (.int 16), some (.int c), none], [.int 1, .ref 65], mz_up (mz_i xs Ln) 64 1 1)) rfl ?_
                  refine mz_do (R := mz_r127) (as := [.ref 65, .int 1]) (rest := []) (r1 := some (.int (-1000001))) (m1 := mz_up (mz_up (mz_i xs Ln) 64 1 1) 68 1 1) rfl ⟨?_, rfl⟩ ?_
                  · refine mz_go 11 (c' := (14, [some (.ref 65), some (.int 1)], [.int (-1000001)], mz_up (mz_up (mz_i xs Ln) 64 1 1) 68 1 1)) rfl ?_
                    exact mz_ret rfl
                  exact mz_ret rfl
            · refine ⟨(-1000003), mz_up (mz_i xs Ln) 64 3 1, mz_up (mz_up (mz_i xs Ln) 64 3 1) 68 3 1, ⟨?_, rfl⟩, ⟨?_, rfl⟩⟩
              · refine mz_go 3 (c' := (5, [some (.ref 0), some (.int a), some (.int 16), some (.int c)], [.int a, .ref 60], (mz_i xs Ln))) rfl ?_
                refine mz_do (R := mz_r45) (as := [.ref 60, .int a]) (rest := []) (r1 := some (.int 1)) (m1 := (mz_i xs Ln)) rfl ⟨?_, rfl⟩ ?_
                · refine mz_go 2 (c' := (if a < 0 then 13 else 4, [some (.ref 60), some (.int a)], [], (mz_i xs Ln))) rfl ?_
                  refine mz_ifF h1 ?_
                  refine mz_go 3 (c' := (if 4 ≤ a then 13 else 9, [some (.ref 60), some (.int a)], [], (mz_i xs Ln))) rfl ?_
                  refine mz_ifF h2 ?_
                  refine mz_go 2 (c' := (14, [some (.ref 60), some (.int a)], [.int 1], (mz_i xs Ln))) rfl ?_
                  exact mz_ret rfl
                refine mz_go 13 (c' := (if 0 ≤ c then 53 else 47, [some (.ref 0), some (.int a), some (.int 16), some (.int c)], [], (mz_i xs Ln))) rfl ?_
                refine mz_ifF h10 ?_
                refine mz_go 2 (c' := (49, [some (.ref 0), some (.int a), some (.int 16), some (.int c)], [.int 3, .ref 0], (mz_i xs Ln))) rfl ?_
                refine mz_do (R := mz_r109) (as := [.ref 0, .int 3]) (rest := []) (r1 := some (.int (-1000003))) (m1 := mz_up (mz_i xs Ln) 64 3 1) rfl ⟨?_, rfl⟩ ?_
                · refine mz_go 3 (c' := (4, [some (.ref 0), some (.int 3)], [.int 6, .int 1, .int 3], (mz_i xs Ln))) rfl ?_
                  refine mz_do (R := mz_r121) (as := [.int 3, .int 1, .int 6]) (rest := []) (r1 := some (.int 1)) (m1 := (mz_i xs Ln)) rfl ⟨?_, rfl⟩ ?_
                  · refine mz_go 8 (c' := (15, [some (.int 3), some (.int 1), some (.int 6)], [.int 1], (mz_i xs Ln))) rfl ?_
                    exact mz_ret rfl
                  refine mz_go 12 (c' := (25, [some (.ref 0), some (.int 3)], [.int (-1000003)], mz_up (mz_i xs Ln) 64 3 1)) rfl ?_
                  exact mz_ret rfl
                exact mz_ret rfl
              · refine mz_go 1 (c' := (1, [some (.ref 65), some (.int a), some (.int 16), some (.int c), none], [.int a], mz_up (mz_i xs Ln) 64 3 1)) rfl ?_
                refine mz_do (R := mz_r219) (as := [.int a]) (rest := []) (r1 := some (.int 1)) (m1 := mz_up (mz_i xs Ln) 64 3 1) rfl ⟨?_, rfl⟩ ?_
                · refine mz_go 3 (c' := (3, [some (.int a)], [.int 3, .int 0, .int a], mz_up (mz_i xs Ln) 64 3 1)) rfl ?_
                  refine mz_do (R := mz_r128) (as := [.int a, .int 0, .int 3]) (rest := []) (r1 := some (.int 1)) (m1 := mz_up (mz_i xs Ln) 64 3 1) rfl ⟨?_, rfl⟩ ?_
                  · refine mz_go 3 (c' := (if a < 0 then 14 else 5, [some (.int a), some (.int 0), some (.int 3)], [], mz_up (mz_i xs Ln) 64 3 1)) rfl ?_
                    refine mz_ifF h1 ?_
                    refine mz_go 3 (c' := (if 3 < a then 14 else 10, [some (.int a), some (.int 0), some (.int 3)], [], mz_up (mz_i xs Ln) 64 3 1)) rfl ?_
                    refine mz_ifF (by have hl : (0 : Int) ≤ (a).toInt := Int32.le_iff_toInt_le.mp (Int32.not_lt.mp h1); have hu : (a).toInt < (4 : Int) := Int32.lt_iff_toInt_lt.mp (Int32.not_le.mp h2); exact Int32.not_lt.mpr (Int32.le_iff_toInt_le.mpr (show (a).toInt ≤ (3 : Int) by omega))) ?_
                    refine mz_go 2 (c' := (15, [some (.int a), some (.int 0), some (.int 3)], [.int 1], mz_up (mz_i xs Ln) 64 3 1)) rfl ?_
                    exact mz_ret rfl
                  exact mz_ret rfl
                refine mz_go 13 (c' := (if 0 ≤ c then 49 else 43, [some (.ref 65), some (.int a), some (.int 16), some (.int c), none], [], mz_up (mz_i xs Ln) 64 3 1)) rfl ?_
                refine mz_ifF h10 ?_
                refine mz_go 2 (c' := (45, [some (.ref 65), some (.int a), some (.int 16), some (.int c), none], [.int 3, .ref 65], mz_up (mz_i xs Ln) 64 3 1)) rfl ?_
                refine mz_do (R := mz_r127) (as := [.ref 65, .int 3]) (rest := []) (r1 := some (.int (-1000003))) (m1 := mz_up (mz_up (mz_i xs Ln) 64 3 1) 68 3 1) rfl ⟨?_, rfl⟩ ?_
                · refine mz_go 11 (c' := (14, [some (.ref 65), some (.int 3)], [.int (-1000003)], mz_up (mz_up (mz_i xs Ln) 64 3 1) 68 3 1)) rfl ?_
                  exact mz_ret rfl
                exact mz_ret rfl
          · by_cases h13 : b = 32
            · subst h13
              by_cases h14 : 0 ≤ c
              · by_cases h15 : c ≤ 24
                · have hl16 : (0 : Int) ≤ (a).toInt := Int32.le_iff_toInt_le.mp (Int32.not_lt.mp h1)
                  have hu16 : (a).toInt < (4 : Int) := Int32.lt_iff_toInt_lt.mp (Int32.not_le.mp h2)
                  obtain rfl | rfl | rfl | rfl : a = 0 ∨ a = 1 ∨ a = 2 ∨ a = 3 := by
                      rcases (show a.toInt = 0 ∨ a.toInt = 1 ∨ a.toInt = 2 ∨ a.toInt = 3 by omega) with h | h | h | h
                      · exact (Or.inl (Int32.toInt_inj.mp h))
                      · exact (Or.inr (Or.inl (Int32.toInt_inj.mp h)))
                      · exact (Or.inr (Or.inr (Or.inl (Int32.toInt_inj.mp h))))
                      · exact (Or.inr (Or.inr (Or.inr (Int32.toInt_inj.mp h))))
                  · refine ⟨1, mz_up (mz_up (mz_up (mz_up (mz_up (mz_up (mz_up (mz_up (mz_up (mz_up (mz_up (mz_up (mz_up (mz_up (mz_up (mz_up (mz_up (mz_up (mz_up (mz_up (mz_up (mz_up (mz_up (mz_up (mz_up (mz_up (mz_i xs Ln) 61 0 32) 62 0 c) 63 0 0) 63 1 0) 63 2 0) 63 3 0) 63 4 0) 63 5 0) 63 6 0) 63 7 0) 63 8 0) 63 9 0) 63 10 0) 63 11 0) 63 12 0) 63 13 0) 63 14 0) 63 15 0) 63 16 0) 63 17 0) 63 18 0) 63 19 0) 63 20 0) 63 21 0) 63 22 0) 63 23 0, mz_up (mz_up (mz_up (mz_up (mz_up (mz_up (mz_up (mz_up (mz_up (mz_up (mz_up (mz_up (mz_up (mz_up (mz_up (mz_up (mz_up (mz_up (mz_up (mz_up (mz_up (mz_up (mz_up (mz_up (mz_up (mz_up (mz_up (mz_up (mz_up (mz_up (mz_up (mz_up (mz_up (mz_up (mz_up (mz_up (mz_up (mz_up (mz_up (mz_up (mz_up (mz_up (mz_up (mz_up (mz_up (mz_up (mz_up (mz_up (mz_up (mz_up (mz_up (mz_up (mz_i xs Ln) 61 0 32) 62 0 c) 63 0 0) 63 1 0) 63 2 0) 63 3 0) 63 4 0) 63 5 0) 63 6 0) 63 7 0) 63 8 0) 63 9 0) 63 10 0) 63 11 0) 63 12 0) 63 13 0) 63 14 0) 63 15 0) 63 16 0) 63 17 0) 63 18 0) 63 19 0) 63 20 0) 63 21 0) 63 22 0) 63 23 0) 75 0 32) 76 0 c) 77 0 0) 77 1 0) 77 2 0) 77 3 0) 77 4 0) 77 5 0) 77 6 0) 77 7 0) 77 8 0) 77 9 0) 77 10 0) 77 11 0) 77 12 0) 77 13 0) 77 14 0) 77 15 0) 77 16 0) 77 17 0) 77 18 0) 77 19 0) 77 20 0) 77 21 0) 77 22 0) 77 23 0, ⟨?_, rfl⟩, ⟨?_, rfl⟩⟩
                    · refine mz_go 3 (c' := (5, [some (.ref 0), some (.int 0), some (.int 32), some (.int c)], [.int 0, .ref 60], (mz_i xs Ln))) rfl ?_
                      refine mz_do (R := mz_r45) (as := [.ref 60, .int 0]) (rest := []) (r1 := some (.int 1)) (m1 := (mz_i xs Ln)) rfl ⟨?_, rfl⟩ ?_
                      · refine mz_go 7 (c' := (14, [some (.ref 60), some (.int 0)], [.int 1], (mz_i xs Ln))) rfl ?_
                        exact mz_ret rfl
                      refine mz_go 16 (c' := (if 0 ≤ c then 53 else 47, [some (.ref 0), some (.int 0), some (.int 32), some (.int c)], [], (mz_i xs Ln))) rfl ?_
                      refine mz_ifT h14 ?_
                      refine mz_go 5 (c' := (if c ≤ 24 then 69 else 63, [some (.ref 0), some (.int 0), some (.int 32), some (.int c)], [], (mz_i xs Ln))) rfl ?_
                      refine mz_ifT h15 ?_
                      refine mz_go 7 (c' := (84, [some (.ref 0), some (.int 0), some (.int 32), some (.int c)], [.int c, .int 32, .int 0, .ref 60], (mz_i xs Ln))) rfl ?_
                      refine mz_do (R := mz_r47) (as := [.ref 60, .int 0, .int 32, .int c]) (rest := []) (r1 := none) (m1 := mz_up (mz_up (mz_up (mz_up (mz_up (mz_up (mz_up (mz_up (mz_up (mz_up (mz_up (mz_up (mz_up (mz_up (mz_up (mz_up (mz_up (mz_up (mz_up (mz_up (mz_up (mz_up (mz_up (mz_up (mz_up (mz_up (mz_i xs Ln) 61 0 32) 62 0 c) 63 0 0) 63 1 0) 63 2 0) 63 3 0) 63 4 0) 63 5 0) 63 6 0) 63 7 0) 63 8 0) 63 9 0) 63 10 0) 63 11 0) 63 12 0) 63 13 0) 63 14 0) 63 15 0) 63 16 0) 63 17 0) 63 18 0) 63 19 0) 63 20 0) 63 21 0) 63 22 0) 63 23 0) rfl ⟨?_, rfl⟩ ?_
                      · refine mz_go 2 (c' := (2, [some (.ref 60), some (.int 0), some (.int 32), some (.int c), none], [.int 0, .ref 60], (mz_i xs Ln))) rfl ?_
                        refine mz_do (R := mz_r45) (as := [.ref 60, .int 0]) (rest := []) (r1 := some (.int 1)) (m1 := (mz_i xs Ln)) rfl ⟨?_, rfl⟩ ?_
                        · refine mz_go 7 (c' := (14, [some (.ref 60), some (.int 0)], [.int 1], (mz_i xs Ln))) rfl ?_
                          exact mz_ret rfl
                        refine mz_go 4 (c' := (12, [some (.ref 60), some (.int 0), some (.int 32), some (.int c), none], [.int 24, .int 0, .int c], (mz_i xs Ln))) rfl ?_
                        refine mz_do (R := mz_r121) (as := [.int c, .int 0, .int 24]) (rest := []) (r1 := some (.int 1)) (m1 := (mz_i xs Ln)) rfl ⟨?_, rfl⟩ ?_
                        · refine mz_go 3 (c' := (if c < 0 then 14 else 5, [some (.int c), some (.int 0), some (.int 24)], [], (mz_i xs Ln))) rfl ?_
                          refine mz_ifF (by have hl : (0 : Int) ≤ (c).toInt := Int32.le_iff_toInt_le.mp h14; have hu : (c).toInt ≤ (24 : Int) := Int32.le_iff_toInt_le.mp h15; exact Int32.not_lt.mpr (Int32.le_iff_toInt_le.mpr (show (0 : Int) ≤ (c).toInt by omega))) ?_
                          refine mz_go 3 (c' := (if 24 < c then 14 else 10, [some (.int c), some (.int 0), some (.int 24)], [], (mz_i xs Ln))) rfl ?_
                          refine mz_ifF (by have hl : (0 : Int) ≤ (c).toInt := Int32.le_iff_toInt_le.mp h14; have hu : (c).toInt ≤ (24 : Int) := Int32.le_iff_toInt_le.mp h15; exact Int32.not_lt.mpr (Int32.le_iff_toInt_le.mpr (show (c).toInt ≤ (24 : Int) by omega))) ?_
                          refine mz_go 2 (c' := (15, [some (.int c), some (.int 0), some (.int 24)], [.int 1], (mz_i xs Ln))) rfl ?_
                          exact mz_ret rfl
                        refine mz_go 352 (c' := (61, [some (.ref 60), some (.int 0), some (.int 32), some (.int c), some (.int 24)], [], mz_up (mz_up (mz_up (mz_up (mz_up (mz_up (mz_up (mz_up (mz_up (mz_up (mz_up (mz_up (mz_up (mz_up (mz_up (mz_up (mz_up (mz_up (mz_up (mz_up (mz_up (mz_up (mz_up (mz_up (mz_up (mz_up (mz_i xs Ln) 61 0 32) 62 0 c) 63 0 0) 63 1 0) 63 2 0) 63 3 0) 63 4 0) 63 5 0) 63 6 0) 63 7 0) 63 8 0) 63 9 0) 63 10 0) 63 11 0) 63 12 0) 63 13 0) 63 14 0) 63 15 0) 63 16 0) 63 17 0) 63 18 0) 63 19 0) 63 20 0) 63 21 0) 63 22 0) 63 23 0)) rfl ?_
                        exact mz_ret rfl
                      refine mz_go 1 (c' := (88, [some (.ref 0), some (.int 0), some (.int 32), some (.int c)], [.int 1], mz_up (mz_up (mz_up (mz_up (mz_up (mz_up (mz_up (mz_up (mz_up (mz_up (mz_up (mz_up (mz_up (mz_up (mz_up (mz_up (mz_up (mz_up (mz_up (mz_up (mz_up (mz_up (mz_up (mz_up (mz_up (mz_up (mz_i xs Ln) 61 0 32) 62 0 c) 63 0 0) 63 1 0) 63 2 0) 63 3 0) 63 4 0) 63 5 0) 63 6 0) 63 7 0) 63 8 0) 63 9 0) 63 10 0) 63 11 0) 63 12 0) 63 13 0) 63 14 0) 63 15 0) 63 16 0) 63 17 0) 63 18 0) 63 19 0) 63 20 0) 63 21 0) 63 22 0) 63 23 0)) rfl ?_
                      exact mz_ret rfl
                    · refine mz_go 1 (c' := (1, [some (.ref 65), some (.int 0), some (.int 32), some (.int c), none], [.int 0], mz_up (mz_up (mz_up (mz_up (mz_up (mz_up (mz_up (mz_up (mz_up (mz_up (mz_up (mz_up (mz_up (mz_up (mz_up (mz_up (mz_up (mz_up (mz_up (mz_up (mz_up (mz_up (mz_up (mz_up (mz_up (mz_up (mz_i xs Ln) 61 0 32) 62 0 c) 63 0 0) 63 1 0) 63 2 0) 63 3 0) 63 4 0) 63 5 0) 63 6 0) 63 7 0) 63 8 0) 63 9 0) 63 10 0) 63 11 0) 63 12 0) 63 13 0) 63 14 0) 63 15 0) 63 16 0) 63 17 0) 63 18 0) 63 19 0) 63 20 0) 63 21 0) 63 22 0) 63 23 0)) rfl ?_
                      refine mz_do (R := mz_r219) (as := [.int 0]) (rest := []) (r1 := some (.int 1)) (m1 := mz_up (mz_up (mz_up (mz_up (mz_up (mz_up (mz_up (mz_up (mz_up (mz_up (mz_up (mz_up (mz_up (mz_up (mz_up (mz_up (mz_up (mz_up (mz_up (mz_up (mz_up (mz_up (mz_up (mz_up (mz_up (mz_up (mz_i xs Ln) 61 0 32) 62 0 c) 63 0 0) 63 1 0) 63 2 0) 63 3 0) 63 4 0) 63 5 0) 63 6 0) 63 7 0) 63 8 0) 63 9 0) 63 10 0) 63 11 0) 63 12 0) 63 13 0) 63 14 0) 63 15 0) 63 16 0) 63 17 0) 63 18 0) 63 19 0) 63 20 0) 63 21 0) 63 22 0) 63 23 0) rfl ⟨?_, rfl⟩ ?_
                      · refine mz_go 3 (c' := (3, [some (.int 0)], [.int 3, .int 0, .int 0], mz_up (mz_up (mz_up (mz_up (mz_up (mz_up (mz_up (mz_up (mz_up (mz_up (mz_up (mz_up (mz_up (mz_up (mz_up (mz_up (mz_up (mz_up (mz_up (mz_up (mz_up (mz_up (mz_up (mz_up (mz_up (mz_up (mz_i xs Ln) 61 0 32) 62 0 c) 63 0 0) 63 1 0) 63 2 0) 63 3 0) 63 4 0) 63 5 0) 63 6 0) 63 7 0) 63 8 0) 63 9 0) 63 10 0) 63 11 0) 63 12 0) 63 13 0) 63 14 0) 63 15 0) 63 16 0) 63 17 0) 63 18 0) 63 19 0) 63 20 0) 63 21 0) 63 22 0) 63 23 0)) rfl ?_
                        refine mz_do (R := mz_r128) (as := [.int 0, .int 0, .int 3]) (rest := []) (r1 := some (.int 1)) (m1 := mz_up (mz_up (mz_up (mz_up (mz_up (mz_up (mz_up (mz_up (mz_up (mz_up (mz_up (mz_up (mz_up (mz_up (mz_up (mz_up (mz_up (mz_up (mz_up (mz_up (mz_up (mz_up (mz_up (mz_up (mz_up (mz_up (mz_i xs Ln) 61 0 32) 62 0 c) 63 0 0) 63 1 0) 63 2 0) 63 3 0) 63 4 0) 63 5 0) 63 6 0) 63 7 0) 63 8 0) 63 9 0) 63 10 0) 63 11 0) 63 12 0) 63 13 0) 63 14 0) 63 15 0) 63 16 0) 63 17 0) 63 18 0) 63 19 0) 63 20 0) 63 21 0) 63 22 0) 63 23 0) rfl ⟨?_, rfl⟩ ?_
                        · refine mz_go 8 (c' := (15, [some (.int 0), some (.int 0), some (.int 3)], [.int 1], mz_up (mz_up (mz_up (mz_up (mz_up (mz_up (mz_up (mz_up (mz_up (mz_up (mz_up (mz_up (mz_up (mz_up (mz_up (mz_up (mz_up (mz_up (mz_up (mz_up (mz_up (mz_up (mz_up (mz_up (mz_up (mz_up (mz_i xs Ln) 61 0 32) 62 0 c) 63 0 0) 63 1 0) 63 2 0) 63 3 0) 63 4 0) 63 5 0) 63 6 0) 63 7 0) 63 8 0) 63 9 0) 63 10 0) 63 11 0) 63 12 0) 63 13 0) 63 14 0) 63 15 0) 63 16 0) 63 17 0) 63 18 0) 63 19 0) 63 20 0) 63 21 0) 63 22 0) 63 23 0)) rfl ?_
                          exact mz_ret rfl
                        exact mz_ret rfl
                      refine mz_go 16 (c' := (if 0 ≤ c then 49 else 43, [some (.ref 65), some (.int 0), some (.int 32), some (.int c), none], [], mz_up (mz_up (mz_up (mz_up (mz_up (mz_up (mz_up (mz_up (mz_up (mz_up (mz_up (mz_up (mz_up (mz_up (mz_up (mz_up (mz_up (mz_up (mz_up (mz_up (mz_up (mz_up (mz_up (mz_up (mz_up (mz_up (mz_i xs Ln) 61 0 32) 62 0 c) 63 0 0) 63 1 0) 63 2 0) 63 3 0) 63 4 0) 63 5 0) 63 6 0) 63 7 0) 63 8 0) 63 9 0) 63 10 0) 63 11 0) 63 12 0) 63 13 0) 63 14 0) 63 15 0) 63 16 0) 63 17 0) 63 18 0) 63 19 0) 63 20 0) 63 21 0) 63 22 0) 63 23 0)) rfl ?_
                      refine mz_ifT h14 ?_
                      refine mz_go 5 (c' := (if c ≤ 24 then 65 else 59, [some (.ref 65), some (.int 0), some (.int 32), some (.int c), none], [], mz_up (mz_up (mz_up (mz_up (mz_up (mz_up (mz_up (mz_up (mz_up (mz_up (mz_up (mz_up (mz_up (mz_up (mz_up (mz_up (mz_up (mz_up (mz_up (mz_up (mz_up (mz_up (mz_up (mz_up (mz_up (mz_up (mz_i xs Ln) 61 0 32) 62 0 c) 63 0 0) 63 1 0) 63 2 0) 63 3 0) 63 4 0) 63 5 0) 63 6 0) 63 7 0) 63 8 0) 63 9 0) 63 10 0) 63 11 0) 63 12 0) 63 13 0) 63 14 0) 63 15 0) 63 16 0) 63 17 0) 63 18 0) 63 19 0) 63 20 0) 63 21 0) 63 22 0) 63 23 0)) rfl ?_
                      refine mz_ifT h15 ?_
                      refine mz_go 354 (c' := (117, [some (.ref 65), some (.int 0), some (.int 32), some (.int c), some (.int 24)], [.int 1], mz_up (mz_up (mz_up (mz_up (mz_up (mz_up (mz_up (mz_up (mz_up (mz_up (mz_up (mz_up (mz_up (mz_up (mz_up (mz_up (mz_up (mz_up (mz_up (mz_up (mz_up (mz_up (mz_up (mz_up (mz_up (mz_up (mz_up (mz_up (mz_up (mz_up (mz_up (mz_up (mz_up (mz_up (mz_up (mz_up (mz_up (mz_up (mz_up (mz_up (mz_up (mz_up (mz_up (mz_up (mz_up (mz_up (mz_up (mz_up (mz_up (mz_up (mz_up (mz_up (mz_i xs Ln) 61 0 32) 62 0 c) 63 0 0) 63 1 0) 63 2 0) 63 3 0) 63 4 0) 63 5 0) 63 6 0) 63 7 0) 63 8 0) 63 9 0) 63 10 0) 63 11 0) 63 12 0) 63 13 0) 63 14 0) 63 15 0) 63 16 0) 63 17 0) 63 18 0) 63 19 0) 63 20 0) 63 21 0) 63 22 0) 63 23 0) 75 0 32) 76 0 c) 77 0 0) 77 1 0) 77 2 0) 77 3 0) 77 4 0) 77 5 0) 77 6 0) 77 7 0) 77 8 0) 77 9 0) 77 10 0) 77 11 0) 77 12 0) 77 13 0) 77 14 0) 77 15 0) 77 16 0) 77 17 0) 77 18 0) 77 19 0) 77 20 0) 77 21 0) 77 22 0) 77 23 0)) rfl ?_
                      exact mz_ret rfl
                  · refine ⟨1, mz_up (mz_up (mz_up (mz_up (mz_up (mz_up (mz_up (mz_up (mz_up (mz_up (mz_up (mz_up (mz_up (mz_up (mz_up (mz_up (mz_up (mz_up (mz_up (mz_up (mz_up (mz_up (mz_up (mz_up (mz_up (mz_up (mz_i xs Ln) 61 1 32) 62 1 c) 63 24 0) 63 25 0) 63 26 0) 63 27 0) 63 28 0) 63 29 0) 63 30 0) 63 31 0) 63 32 0) 63 33 0) 63 34 0) 63 35 0) 63 36 0) 63 37 0) 63 38 0) 63 39 0) 63 40 0) 63 41 0) 63 42 0) 63 43 0) 63 44 0) 63 45 0) 63 46 0) 63 47 0, mz_up (mz_up (mz_up (mz_up (mz_up (mz_up (mz_up (mz_up (mz_up (mz_up (mz_up (mz_up (mz_up (mz_up (mz_up (mz_up (mz_up (mz_up (mz_up (mz_up (mz_up (mz_up (mz_up (mz_up (mz_up (mz_up (mz_up (mz_up (mz_up (mz_up (mz_up (mz_up (mz_up (mz_up (mz_up (mz_up (mz_up (mz_up (mz_up (mz_up (mz_up (mz_up (mz_up (mz_up (mz_up (mz_up (mz_up (mz_up (mz_up (mz_up (mz_up (mz_up (mz_i xs Ln) 61 1 32) 62 1 c) 63 24 0) 63 25 0) 63 26 0) 63 27 0) 63 28 0) 63 29 0) 63 30 0) 63 31 0) 63 32 0) 63 33 0) 63 34 0) 63 35 0) 63 36 0) 63 37 0) 63 38 0) 63 39 0) 63 40 0) 63 41 0) 63 42 0) 63 43 0) 63 44 0) 63 45 0) 63 46 0) 63 47 0) 75 1 32) 76 1 c) 77 24 0) 77 25 0) 77 26 0) 77 27 0) 77 28 0) 77 29 0) 77 30 0) 77 31 0) 77 32 0) 77 33 0) 77 34 0) 77 35 0) 77 36 0) 77 37 0) 77 38 0) 77 39 0) 77 40 0) 77 41 0) 77 42 0) 77 43 0) 77 44 0) 77 45 0) 77 46 0) 77 47 0, ⟨?_, rfl⟩, ⟨?_, rfl⟩⟩
                    · refine mz_go 3 (c' := (5, [some (.ref 0), some (.int 1), some (.int 32), some (.int c)], [.int 1, .ref 60], (mz_i xs Ln))) rfl ?_
                      refine mz_do (R := mz_r45) (as := [.ref 60, .int 1]) (rest := []) (r1 := some (.int 1)) (m1 := (mz_i xs Ln)) rfl ⟨?_, rfl⟩ ?_
                      · refine mz_go 7 (c' := (14, [some (.ref 60), some (.int 1)], [.int 1], (mz_i xs Ln))) rfl ?_
                        exact mz_ret rfl
                      refine mz_go 16 (c' := (if 0 ≤ c then 53 else 47, [some (.ref 0), some (.int 1), some (.int 32), some (.int c)], [], (mz_i xs Ln))) rfl ?_
                      refine mz_ifT h14 ?_
                      refine mz_go 5 (c' := (if c ≤ 24 then 69 else 63, [some (.ref 0), some (.int 1), some (.int 32), some (.int c)], [], (mz_i xs Ln))) rfl ?_
                      refine mz_ifT h15 ?_
                      refine mz_go 7 (c' := (84, [some (.ref 0), some (.int 1), some (.int 32), some (.int c)], [.int c, .int 32, .int 1, .ref 60], (mz_i xs Ln))) rfl ?_
                      refine mz_do (R := mz_r47) (as := [.ref 60, .int 1, .int 32, .int c]) (rest := []) (r1 := none) (m1 := mz_up (mz_up (mz_up (mz_up (mz_up (mz_up (mz_up (mz_up (mz_up (mz_up (mz_up (mz_up (mz_up (mz_up (mz_up (mz_up (mz_up (mz_up (mz_up (mz_up (mz_up (mz_up (mz_up (mz_up (mz_up (mz_up (mz_i xs Ln) 61 1 32) 62 1 c) 63 24 0) 63 25 0) 63 26 0) 63 27 0) 63 28 0) 63 29 0) 63 30 0) 63 31 0) 63 32 0) 63 33 0) 63 34 0) 63 35 0) 63 36 0) 63 37 0) 63 38 0) 63 39 0) 63 40 0) 63 41 0) 63 42 0) 63 43 0) 63 44 0) 63 45 0) 63 46 0) 63 47 0) rfl ⟨?_, rfl⟩ ?_
                      · refine mz_go 2 (c' := (2, [some (.ref 60), some (.int 1), some (.int 32), some (.int c), none], [.int 1, .ref 60], (mz_i xs Ln))) rfl ?_
                        refine mz_do (R := mz_r45) (as := [.ref 60, .int 1]) (rest := []) (r1 := some (.int 1)) (m1 := (mz_i xs Ln)) rfl ⟨?_, rfl⟩ ?_
                        · refine mz_go 7 (c' := (14, [some (.ref 60), some (.int 1)], [.int 1], (mz_i xs Ln))) rfl ?_
                          exact mz_ret rfl
                        refine mz_go 4 (c' := (12, [some (.ref 60), some (.int 1), some (.int 32), some (.int c), none], [.int 24, .int 0, .int c], (mz_i xs Ln))) rfl ?_
                        refine mz_do (R := mz_r121) (as := [.int c, .int 0, .int 24]) (rest := []) (r1 := some (.int 1)) (m1 := (mz_i xs Ln)) rfl ⟨?_, rfl⟩ ?_
                        · refine mz_go 3 (c' := (if c < 0 then 14 else 5, [some (.int c), some (.int 0), some (.int 24)], [], (mz_i xs Ln))) rfl ?_
                          refine mz_ifF (by have hl : (0 : Int) ≤ (c).toInt := Int32.le_iff_toInt_le.mp h14; have hu : (c).toInt ≤ (24 : Int) := Int32.le_iff_toInt_le.mp h15; exact Int32.not_lt.mpr (Int32.le_iff_toInt_le.mpr (show (0 : Int) ≤ (c).toInt by omega))) ?_
                          refine mz_go 3 (c' := (if 24 < c then 14 else 10, [some (.int c), some (.int 0), some (.int 24)], [], (mz_i xs Ln))) rfl ?_
                          refine mz_ifF (by have hl : (0 : Int) ≤ (c).toInt := Int32.le_iff_toInt_le.mp h14; have hu : (c).toInt ≤ (24 : Int) := Int32.le_iff_toInt_le.mp h15; exact Int32.not_lt.mpr (Int32.le_iff_toInt_le.mpr (show (c).toInt ≤ (24 : Int) by omega))) ?_
                          refine mz_go 2 (c' := (15, [some (.int c), some (.int 0), some (.int 24)], [.int 1], (mz_i xs Ln))) rfl ?_
                          exact mz_ret rfl
                        refine mz_go 352 (c' := (61, [some (.ref 60), some (.int 1), some (.int 32), some (.int c), some (.int 24)], [], mz_up (mz_up (mz_up (mz_up (mz_up (mz_up (mz_up (mz_up (mz_up (mz_up (mz_up (mz_up (mz_up (mz_up (mz_up (mz_up (mz_up (mz_up (mz_up (mz_up (mz_up (mz_up (mz_up (mz_up (mz_up (mz_up (mz_i xs Ln) 61 1 32) 62 1 c) 63 24 0) 63 25 0) 63 26 0) 63 27 0) 63 28 0) 63 29 0) 63 30 0) 63 31 0) 63 32 0) 63 33 0) 63 34 0) 63 35 0) 63 36 0) 63 37 0) 63 38 0) 63 39 0) 63 40 0) 63 41 0) 63 42 0) 63 43 0) 63 44 0) 63 45 0) 63 46 0) 63 47 0)) rfl ?_
                        exact mz_ret rfl
                      refine mz_go 1 (c' := (88, [some (.ref 0), some (.int 1), some (.int 32), some (.int c)], [.int 1], mz_up (mz_up (mz_up (mz_up (mz_up (mz_up (mz_up (mz_up (mz_up (mz_up (mz_up (mz_up (mz_up (mz_up (mz_up (mz_up (mz_up (mz_up (mz_up (mz_up (mz_up (mz_up (mz_up (mz_up (mz_up (mz_up (mz_i xs Ln) 61 1 32) 62 1 c) 63 24 0) 63 25 0) 63 26 0) 63 27 0) 63 28 0) 63 29 0) 63 30 0) 63 31 0) 63 32 0) 63 33 0) 63 34 0) 63 35 0) 63 36 0) 63 37 0) 63 38 0) 63 39 0) 63 40 0) 63 41 0) 63 42 0) 63 43 0) 63 44 0) 63 45 0) 63 46 0) 63 47 0)) rfl ?_
                      exact mz_ret rfl
                    · refine mz_go 1 (c' := (1, [some (.ref 65), some (.int 1), some (.int 32), some (.int c), none], [.int 1], mz_up (mz_up (mz_up (mz_up (mz_up (mz_up (mz_up (mz_up (mz_up (mz_up (mz_up (mz_up (mz_up (mz_up (mz_up (mz_up (mz_up (mz_up (mz_up (mz_up (mz_up (mz_up (mz_up (mz_up (mz_up (mz_up (mz_i xs Ln) 61 1 32) 62 1 c) 63 24 0) 63 25 0) 63 26 0) 63 27 0) 63 28 0) 63 29 0) 63 30 0) 63 31 0) 63 32 0) 63 33 0) 63 34 0) 63 35 0) 63 36 0) 63 37 0) 63 38 0) 63 39 0) 63 40 0) 63 41 0) 63 42 0) 63 43 0) 63 44 0) 63 45 0) 63 46 0) 63 47 0)) rfl ?_
                      refine mz_do (R := mz_r219) (as := [.int 1]) (rest := []) (r1 := some (.int 1)) (m1 := mz_up (mz_up (mz_up (mz_up (mz_up (mz_up (mz_up (mz_up (mz_up (mz_up (mz_up (mz_up (mz_up (mz_up (mz_up (mz_up (mz_up (mz_up (mz_up (mz_up (mz_up (mz_up (mz_up (mz_up (mz_up (mz_up (mz_i xs Ln) 61 1 32) 62 1 c) 63 24 0) 63 25 0) 63 26 0) 63 27 0) 63 28 0) 63 29 0) 63 30 0) 63 31 0) 63 32 0) 63 33 0) 63 34 0) 63 35 0) 63 36 0) 63 37 0) 63 38 0) 63 39 0) 63 40 0) 63 41 0) 63 42 0) 63 43 0) 63 44 0) 63 45 0) 63 46 0) 63 47 0) rfl ⟨?_, rfl⟩ ?_
                      · refine mz_go 3 (c' := (3, [some (.int 1)], [.int 3, .int 0, .int 1], mz_up (mz_up (mz_up (mz_up (mz_up (mz_up (mz_up (mz_up (mz_up (mz_up (mz_up (mz_up (mz_up (mz_up (mz_up (mz_up (mz_up (mz_up (mz_up (mz_up (mz_up (mz_up (mz_up (mz_up (mz_up (mz_up (mz_i xs Ln) 61 1 32) 62 1 c) 63 24 0) 63 25 0) 63 26 0) 63 27 0) 63 28 0) 63 29 0) 63 30 0) 63 31 0) 63 32 0) 63 33 0) 63 34 0) 63 35 0) 63 36 0) 63 37 0) 63 38 0) 63 39 0) 63 40 0) 63 41 0) 63 42 0) 63 43 0) 63 44 0) 63 45 0) 63 46 0) 63 47 0)) rfl ?_
                        refine mz_do (R := mz_r128) (as := [.int 1, .int 0, .int 3]) (rest := []) (r1 := some (.int 1)) (m1 := mz_up (mz_up (mz_up (mz_up (mz_up (mz_up (mz_up (mz_up (mz_up (mz_up (mz_up (mz_up (mz_up (mz_up (mz_up (mz_up (mz_up (mz_up (mz_up (mz_up (mz_up (mz_up (mz_up (mz_up (mz_up (mz_up (mz_i xs Ln) 61 1 32) 62 1 c) 63 24 0) 63 25 0) 63 26 0) 63 27 0) 63 28 0) 63 29 0) 63 30 0) 63 31 0) 63 32 0) 63 33 0) 63 34 0) 63 35 0) 63 36 0) 63 37 0) 63 38 0) 63 39 0) 63 40 0) 63 41 0) 63 42 0) 63 43 0) 63 44 0) 63 45 0) 63 46 0) 63 47 0) rfl ⟨?_, rfl⟩ ?_
                        · refine mz_go 8 (c' := (15, [some (.int 1), some (.int 0), some (.int 3)], [.int 1], mz_up (mz_up (mz_up (mz_up (mz_up (mz_up (mz_up (mz_up (mz_up (mz_up (mz_up (mz_up (mz_up (mz_up (mz_up (mz_up (mz_up (mz_up (mz_up (mz_up (mz_up (mz_up (mz_up (mz_up (mz_up (mz_up (mz_i xs Ln) 61 1 32) 62 1 c) 63 24 0) 63 25 0) 63 26 0) 63 27 0) 63 28 0) 63 29 0) 63 30 0) 63 31 0) 63 32 0) 63 33 0) 63 34 0) 63 35 0) 63 36 0) 63 37 0) 63 38 0) 63 39 0) 63 40 0) 63 41 0) 63 42 0) 63 43 0) 63 44 0) 63 45 0) 63 46 0) 63 47 0)) rfl ?_
                          exact mz_ret rfl
                        exact mz_ret rfl
                      refine mz_go 16 (c' := (if 0 ≤ c then 49 else 43, [some (.ref 65), some (.int 1), some (.int 32), some (.int c), none], [], mz_up (mz_up (mz_up (mz_up (mz_up (mz_up (mz_up (mz_up (mz_up (mz_up (mz_up (mz_up (mz_up (mz_up (mz_up (mz_up (mz_up (mz_up (mz_up (mz_up (mz_up (mz_up (mz_up (mz_up (mz_up (mz_up (mz_i xs Ln) 61 1 32) 62 1 c) 63 24 0) 63 25 0) 63 26 0) 63 27 0) 63 28 0) 63 29 0) 63 30 0) 63 31 0) 63 32 0) 63 33 0) 63 34 0) 63 35 0) 63 36 0) 63 37 0) 63 38 0) 63 39 0) 63 40 0) 63 41 0) 63 42 0) 63 43 0) 63 44 0) 63 45 0) 63 46 0) 63 47 0)) rfl ?_
                      refine mz_ifT h14 ?_
                      refine mz_go 5 (c' := (if c ≤ 24 then 65 else 59, [some (.ref 65), some (.int 1), some (.int 32), some (.int c), none], [], mz_up (mz_up (mz_up (mz_up (mz_up (mz_up (mz_up (mz_up (mz_up (mz_up (mz_up (mz_up (mz_up (mz_up (mz_up (mz_up (mz_up (mz_up (mz_up (mz_up (mz_up (mz_up (mz_up (mz_up (mz_up (mz_up (mz_i xs Ln) 61 1 32) 62 1 c) 63 24 0) 63 25 0) 63 26 0) 63 27 0) 63 28 0) 63 29 0) 63 30 0) 63 31 0) 63 32 0) 63 33 0) 63 34 0) 63 35 0) 63 36 0) 63 37 0) 63 38 0) 63 39 0) 63 40 0) 63 41 0) 63 42 0) 63 43 0) 63 44 0) 63 45 0) 63 46 0) 63 47 0)) rfl ?_
                      refine mz_ifT h15 ?_
                      refine mz_go 354 (c' := (117, [some (.ref 65), some (.int 1), some (.int 32), some (.int c), some (.int 24)], [.int 1], mz_up (mz_up (mz_up (mz_up (mz_up (mz_up (mz_up (mz_up (mz_up (mz_up (mz_up (mz_up (mz_up (mz_up (mz_up (mz_up (mz_up (mz_up (mz_up (mz_up (mz_up (mz_up (mz_up (mz_up (mz_up (mz_up (mz_up (mz_up (mz_up (mz_up (mz_up (mz_up (mz_up (mz_up (mz_up (mz_up (mz_up (mz_up (mz_up (mz_up (mz_up (mz_up (mz_up (mz_up (mz_up (mz_up (mz_up (mz_up (mz_up (mz_up (mz_up (mz_up (mz_i xs Ln) 61 1 32) 62 1 c) 63 24 0) 63 25 0) 63 26 0) 63 27 0) 63 28 0) 63 29 0) 63 30 0) 63 31 0) 63 32 0) 63 33 0) 63 34 0) 63 35 0) 63 36 0) 63 37 0) 63 38 0) 63 39 0) 63 40 0) 63 41 0) 63 42 0) 63 43 0) 63 44 0) 63 45 0) 63 46 0) 63 47 0) 75 1 32) 76 1 c) 77 24 0) 77 25 0) 77 26 0) 77 27 0) 77 28 0) 77 29 0) 77 30 0) 77 31 0) 77 32 0) 77 33 0) 77 34 0) 77 35 0) 77 36 0) 77 37 0) 77 38 0) 77 39 0) 77 40 0) 77 41 0) 77 42 0) 77 43 0) 77 44 0) 77 45 0) 77 46 0) 77 47 0)) rfl ?_
                      exact mz_ret rfl
                  · refine ⟨1, mz_up (mz_up (mz_up (mz_up (mz_up (mz_up (mz_up (mz_up (mz_up (mz_up (mz_up (mz_up (mz_up (mz_up (mz_up (mz_up (mz_up (mz_up (mz_up (mz_up (mz_up (mz_up (mz_up (mz_up (mz_up (mz_up (mz_i xs Ln) 61 2 32) 62 2 c) 63 48 0) 63 49 0) 63 50 0) 63 51 0) 63 52 0) 63 53 0) 63 54 0) 63 55 0) 63 56 0) 63 57 0) 63 58 0) 63 59 0) 63 60 0) 63 61 0) 63 62 0) 63 63 0) 63 64 0) 63 65 0) 63 66 0) 63 67 0) 63 68 0) 63 69 0) 63 70 0) 63 71 0, mz_up (mz_up (mz_up (mz_up (mz_up (mz_up (mz_up (mz_up (mz_up (mz_up (mz_up (mz_up (mz_up (mz_up (mz_up (mz_up (mz_up (mz_up (mz_up (mz_up (mz_up (mz_up (mz_up (mz_up (mz_up (mz_up (mz_up (mz_up (mz_up (mz_up (mz_up (mz_up (mz_up (mz_up (mz_up (mz_up (mz_up (mz_up (mz_up (mz_up (mz_up (mz_up (mz_up (mz_up (mz_up (mz_up (mz_up (mz_up (mz_up (mz_up (mz_up (mz_up (mz_i xs Ln) 61 2 32) 62 2 c) 63 48 0) 63 49 0) 63 50 0) 63 51 0) 63 52 0) 63 53 0) 63 54 0) 63 55 0) 63 56 0) 63 57 0) 63 58 0) 63 59 0) 63 60 0) 63 61 0) 63 62 0) 63 63 0) 63 64 0) 63 65 0) 63 66 0) 63 67 0) 63 68 0) 63 69 0) 63 70 0) 63 71 0) 75 2 32) 76 2 c) 77 48 0) 77 49 0) 77 50 0) 77 51 0) 77 52 0) 77 53 0) 77 54 0) 77 55 0) 77 56 0) 77 57 0) 77 58 0) 77 59 0) 77 60 0) 77 61 0) 77 62 0) 77 63 0) 77 64 0) 77 65 0) 77 66 0) 77 67 0) 77 68 0) 77 69 0) 77 70 0) 77 71 0, ⟨?_, rfl⟩, ⟨?_, rfl⟩⟩
                    · refine mz_go 3 (c' := (5, [some (.ref 0), some (.int 2), some (.int 32), some (.int c)], [.int 2, .ref 60], (mz_i xs Ln))) rfl ?_
                      refine mz_do (R := mz_r45) (as := [.ref 60, .int 2]) (rest := []) (r1 := some (.int 1)) (m1 := (mz_i xs Ln)) rfl ⟨?_, rfl⟩ ?_
                      · refine mz_go 7 (c' := (14, [some (.ref 60), some (.int 2)], [.int 1], (mz_i xs Ln))) rfl ?_
                        exact mz_ret rfl
                      refine mz_go 16 (c' := (if 0 ≤ c then 53 else 47, [some (.ref 0), some (.int 2), some (.int 32), some (.int c)], [], (mz_i xs Ln))) rfl ?_
                      refine mz_ifT h14 ?_
                      refine mz_go 5 (c' := (if c ≤ 24 then 69 else 63, [some (.ref 0), some (.int 2), some (.int 32), some (.int c)], [], (mz_i xs Ln))) rfl ?_
                      refine mz_ifT h15 ?_
                      refine mz_go 7 (c' := (84, [some (.ref 0), some (.int 2), some (.int 32), some (.int c)], [.int c, .int 32, .int 2, .ref 60], (mz_i xs Ln))) rfl ?_
                      refine mz_do (R := mz_r47) (as := [.ref 60, .int 2, .int 32, .int c]) (rest := []) (r1 := none) (m1 := mz_up (mz_up (mz_up (mz_up (mz_up (mz_up (mz_up (mz_up (mz_up (mz_up (mz_up (mz_up (mz_up (mz_up (mz_up (mz_up (mz_up (mz_up (mz_up (mz_up (mz_up (mz_up (mz_up (mz_up (mz_up (mz_up (mz_i xs Ln) 61 2 32) 62 2 c) 63 48 0) 63 49 0) 63 50 0) 63 51 0) 63 52 0) 63 53 0) 63 54 0) 63 55 0) 63 56 0) 63 57 0) 63 58 0) 63 59 0) 63 60 0) 63 61 0) 63 62 0) 63 63 0) 63 64 0) 63 65 0) 63 66 0) 63 67 0) 63 68 0) 63 69 0) 63 70 0) 63 71 0) rfl ⟨?_, rfl⟩ ?_
                      · refine mz_go 2 (c' := (2, [some (.ref 60), some (.int 2), some (.int 32), some (.int c), none], [.int 2, .ref 60], (mz_i xs Ln))) rfl ?_
                        refine mz_do (R := mz_r45) (as := [.ref 60, .int 2]) (rest := []) (r1 := some (.int 1)) (m1 := (mz_i xs Ln)) rfl ⟨?_, rfl⟩ ?_
                        · refine mz_go 7 (c' := (14, [some (.ref 60), some (.int 2)], [.int 1], (mz_i xs Ln))) rfl ?_
                          exact mz_ret rfl
                        refine mz_go 4 (c' := (12, [some (.ref 60), some (.int 2), some (.int 32), some (.int c), none], [.int 24, .int 0, .int c], (mz_i xs Ln))) rfl ?_
                        refine mz_do (R := mz_r121) (as := [.int c, .int 0, .int 24]) (rest := []) (r1 := some (.int 1)) (m1 := (mz_i xs Ln)) rfl ⟨?_, rfl⟩ ?_
                        · refine mz_go 3 (c' := (if c < 0 then 14 else 5, [some (.int c), some (.int 0), some (.int 24)], [], (mz_i xs Ln))) rfl ?_
                          refine mz_ifF (by have hl : (0 : Int) ≤ (c).toInt := Int32.le_iff_toInt_le.mp h14; have hu : (c).toInt ≤ (24 : Int) := Int32.le_iff_toInt_le.mp h15; exact Int32.not_lt.mpr (Int32.le_iff_toInt_le.mpr (show (0 : Int) ≤ (c).toInt by omega))) ?_
                          refine mz_go 3 (c' := (if 24 < c then 14 else 10, [some (.int c), some (.int 0), some (.int 24)], [], (mz_i xs Ln))) rfl ?_
                          refine mz_ifF (by have hl : (0 : Int) ≤ (c).toInt := Int32.le_iff_toInt_le.mp h14; have hu : (c).toInt ≤ (24 : Int) := Int32.le_iff_toInt_le.mp h15; exact Int32.not_lt.mpr (Int32.le_iff_toInt_le.mpr (show (c).toInt ≤ (24 : Int) by omega))) ?_
                          refine mz_go 2 (c' := (15, [some (.int c), some (.int 0), some (.int 24)], [.int 1], (mz_i xs Ln))) rfl ?_
                          exact mz_ret rfl
                        refine mz_go 352 (c' := (61, [some (.ref 60), some (.int 2), some (.int 32), some (.int c), some (.int 24)], [], mz_up (mz_up (mz_up (mz_up (mz_up (mz_up (mz_up (mz_up (mz_up (mz_up (mz_up (mz_up (mz_up (mz_up (mz_up (mz_up (mz_up (mz_up (mz_up (mz_up (mz_up (mz_up (mz_up (mz_up (mz_up (mz_up (mz_i xs Ln) 61 2 32) 62 2 c) 63 48 0) 63 49 0) 63 50 0) 63 51 0) 63 52 0) 63 53 0) 63 54 0) 63 55 0) 63 56 0) 63 57 0) 63 58 0) 63 59 0) 63 60 0) 63 61 0) 63 62 0) 63 63 0) 63 64 0) 63 65 0) 63 66 0) 63 67 0) 63 68 0) 63 69 0) 63 70 0) 63 71 0)) rfl ?_
                        exact mz_ret rfl
                      refine mz_go 1 (c' := (88, [some (.ref 0), some (.int 2), some (.int 32), some (.int c)], [.int 1], mz_up (mz_up (mz_up (mz_up (mz_up (mz_up (mz_up (mz_up (mz_up (mz_up (mz_up (mz_up (mz_up (mz_up (mz_up (mz_up (mz_up (mz_up (mz_up (mz_up (mz_up (mz_up (mz_up (mz_up (mz_up (mz_up (mz_i xs Ln) 61 2 32) 62 2 c) 63 48 0) 63 49 0) 63 50 0) 63 51 0) 63 52 0) 63 53 0) 63 54 0) 63 55 0) 63 56 0) 63 57 0) 63 58 0) 63 59 0) 63 60 0) 63 61 0) 63 62 0) 63 63 0) 63 64 0) 63 65 0) 63 66 0) 63 67 0) 63 68 0) 63 69 0) 63 70 0) 63 71 0)) rfl ?_
                      exact mz_ret rfl
                    · refine mz_go 1 (c' := (1, [some (.ref 65), some (.int 2), some (.int 32), some (.int c), none], [.int 2], mz_up (mz_up (mz_up (mz_up (mz_up (mz_up (mz_up (mz_up (mz_up (mz_up (mz_up (mz_up (mz_up (mz_up (mz_up (mz_up (mz_up (mz_up (mz_up (mz_up (mz_up (mz_up (mz_up (mz_up (mz_up (mz_up (mz_i xs Ln) 61 2 32) 62 2 c) 63 48 0) 63 49 0) 63 50 0) 63 51 0) 63 52 0) 63 53 0) 63 54 0) 63 55 0) 63 56 0) 63 57 0) 63 58 0) 63 59 0) 63 60 0) 63 61 0) 63 62 0) 63 63 0) 63 64 0) 63 65 0) 63 66 0) 63 67 0) 63 68 0) 63 69 0) 63 70 0) 63 71 0)) rfl ?_
                      refine mz_do (R := mz_r219) (as := [.int 2]) (rest := []) (r1 := some (.int 1)) (m1 := mz_up (mz_up (mz_up (mz_up (mz_up (mz_up (mz_up (mz_up (mz_up (mz_up (mz_up (mz_up (mz_up (mz_up (mz_up (mz_up (mz_up (mz_up (mz_up (mz_up (mz_up (mz_up (mz_up (mz_up (mz_up (mz_up (mz_i xs Ln) 61 2 32) 62 2 c) 63 48 0) 63 49 0) 63 50 0) 63 51 0) 63 52 0) 63 53 0) 63 54 0) 63 55 0) 63 56 0) 63 57 0) 63 58 0) 63 59 0) 63 60 0) 63 61 0) 63 62 0) 63 63 0) 63 64 0) 63 65 0) 63 66 0) 63 67 0) 63 68 0) 63 69 0) 63 70 0) 63 71 0) rfl ⟨?_, rfl⟩ ?_
                      · refine mz_go 3 (c' := (3, [some (.int 2)], [.int 3, .int 0, .int 2], mz_up (mz_up (mz_up (mz_up (mz_up (mz_up (mz_up (mz_up (mz_up (mz_up (mz_up (mz_up (mz_up (mz_up (mz_up (mz_up (mz_up (mz_up (mz_up (mz_up (mz_up (mz_up (mz_up (mz_up (mz_up (mz_up (mz_i xs Ln) 61 2 32) 62 2 c) 63 48 0) 63 49 0) 63 50 0) 63 51 0) 63 52 0) 63 53 0) 63 54 0) 63 55 0) 63 56 0) 63 57 0) 63 58 0) 63 59 0) 63 60 0) 63 61 0) 63 62 0) 63 63 0) 63 64 0) 63 65 0) 63 66 0) 63 67 0) 63 68 0) 63 69 0) 63 70 0) 63 71 0)) rfl ?_
                        refine mz_do (R := mz_r128) (as := [.int 2, .int 0, .int 3]) (rest := []) (r1 := some (.int 1)) (m1 := mz_up (mz_up (mz_up (mz_up (mz_up (mz_up (mz_up (mz_up (mz_up (mz_up (mz_up (mz_up (mz_up (mz_up (mz_up (mz_up (mz_up (mz_up (mz_up (mz_up (mz_up (mz_up (mz_up (mz_up (mz_up (mz_up (mz_i xs Ln) 61 2 32) 62 2 c) 63 48 0) 63 49 0) 63 50 0) 63 51 0) 63 52 0) 63 53 0) 63 54 0) 63 55 0) 63 56 0) 63 57 0) 63 58 0) 63 59 0) 63 60 0) 63 61 0) 63 62 0) 63 63 0) 63 64 0) 63 65 0) 63 66 0) 63 67 0) 63 68 0) 63 69 0) 63 70 0) 63 71 0) rfl ⟨?_, rfl⟩ ?_
                        · refine mz_go 8 (c' := (15, [some (.int 2), some (.int 0), some (.int 3)], [.int 1], mz_up (mz_up (mz_up (mz_up (mz_up (mz_up (mz_up (mz_up (mz_up (mz_up (mz_up (mz_up (mz_up (mz_up (mz_up (mz_up (mz_up (mz_up (mz_up (mz_up (mz_up (mz_up (mz_up (mz_up (mz_up (mz_up (mz_i xs Ln) 61 2 32) 62 2 c) 63 48 0) 63 49 0) 63 50 0) 63 51 0) 63 52 0) 63 53 0) 63 54 0) 63 55 0) 63 56 0) 63 57 0) 63 58 0) 63 59 0) 63 60 0) 63 61 0) 63 62 0) 63 63 0) 63 64 0) 63 65 0) 63 66 0) 63 67 0) 63 68 0) 63 69 0) 63 70 0) 63 71 0)) rfl ?_
                          exact mz_ret rfl
                        exact mz_ret rfl
                      refine mz_go 16 (c' := (if 0 ≤ c then 49 else 43, [some (.ref 65), some (.int 2), some (.int 32), some (.int c), none], [], mz_up (mz_up (mz_up (mz_up (mz_up (mz_up (mz_up (mz_up (mz_up (mz_up (mz_up (mz_up (mz_up (mz_up (mz_up (mz_up (mz_up (mz_up (mz_up (mz_up (mz_up (mz_up (mz_up (mz_up (mz_up (mz_up (mz_i xs Ln) 61 2 32) 62 2 c) 63 48 0) 63 49 0) 63 50 0) 63 51 0) 63 52 0) 63 53 0) 63 54 0) 63 55 0) 63 56 0) 63 57 0) 63 58 0) 63 59 0) 63 60 0) 63 61 0) 63 62 0) 63 63 0) 63 64 0) 63 65 0) 63 66 0) 63 67 0) 63 68 0) 63 69 0) 63 70 0) 63 71 0)) rfl ?_
                      refine mz_ifT h14 ?_
                      refine mz_go 5 (c' := (if c ≤ 24 then 65 else 59, [some (.ref 65), some (.int 2), some (.int 32), some (.int c), none], [], mz_up (mz_up (mz_up (mz_up (mz_up (mz_up (mz_up (mz_up (mz_up (mz_up (mz_up (mz_up (mz_up (mz_up (mz_up (mz_up (mz_up (mz_up (mz_up (mz_up (mz_up (mz_up (mz_up (mz_up (mz_up (mz_up (mz_i xs Ln) 61 2 32) 62 2 c) 63 48 0) 63 49 0) 63 50 0) 63 51 0) 63 52 0) 63 53 0) 63 54 0) 63 55 0) 63 56 0) 63 57 0) 63 58 0) 63 59 0) 63 60 0) 63 61 0) 63 62 0) 63 63 0) 63 64 0) 63 65 0) 63 66 0) 63 67 0) 63 68 0) 63 69 0) 63 70 0) 63 71 0)) rfl ?_
                      refine mz_ifT h15 ?_
                      refine mz_go 354 (c' := (117, [some (.ref 65), some (.int 2), some (.int 32), some (.int c), some (.int 24)], [.int 1], mz_up (mz_up (mz_up (mz_up (mz_up (mz_up (mz_up (mz_up (mz_up (mz_up (mz_up (mz_up (mz_up (mz_up (mz_up (mz_up (mz_up (mz_up (mz_up (mz_up (mz_up (mz_up (mz_up (mz_up (mz_up (mz_up (mz_up (mz_up (mz_up (mz_up (mz_up (mz_up (mz_up (mz_up (mz_up (mz_up (mz_up (mz_up (mz_up (mz_up (mz_up (mz_up (mz_up (mz_up (mz_up (mz_up (mz_up (mz_up (mz_up (mz_up (mz_up (mz_up (mz_i xs Ln) 61 2 32) 62 2 c) 63 48 0) 63 49 0) 63 50 0) 63 51 0) 63 52 0) 63 53 0) 63 54 0) 63 55 0) 63 56 0) 63 57 0) 63 58 0) 63 59 0) 63 60 0) 63 61 0) 63 62 0) 63 63 0) 63 64 0) 63 65 0) 63 66 0) 63 67 0) 63 68 0) 63 69 0) 63 70 0) 63 71 0) 75 2 32) 76 2 c) 77 48 0) 77 49 0) 77 50 0) 77 51 0) 77 52 0) 77 53 0) 77 54 0) 77 55 0) 77 56 0) 77 57 0) 77 58 0) 77 59 0) 77 60 0) 77 61 0) 77 62 0) 77 63 0) 77 64 0) 77 65 0) 77 66 0) 77 67 0) 77 68 0) 77 69 0) 77 70 0) 77 71 0)) rfl ?_
                      exact mz_ret rfl
                  · refine ⟨1, mz_up (mz_up (mz_up (mz_up (mz_up (mz_up (mz_up (mz_up (mz_up (mz_up (mz_up (mz_up (mz_up (mz_up (mz_up (mz_up (mz_up (mz_up (mz_up (mz_up (mz_up (mz_up (mz_up (mz_up (mz_up (mz_up (mz_i xs Ln) 61 3 32) 62 3 c) 63 72 0) 63 73 0) 63 74 0) 63 75 0) 63 76 0) 63 77 0) 63 78 0) 63 79 0) 63 80 0) 63 81 0) 63 82 0) 63 83 0) 63 84 0) 63 85 0) 63 86 0) 63 87 0) 63 88 0) 63 89 0) 63 90 0) 63 91 0) 63 92 0) 63 93 0) 63 94 0) 63 95 0, mz_up (mz_up (mz_up (mz_up (mz_up (mz_up (mz_up (mz_up (mz_up (mz_up (mz_up (mz_up (mz_up (mz_up (mz_up (mz_up (mz_up (mz_up (mz_up (mz_up (mz_up (mz_up (mz_up (mz_up (mz_up (mz_up (mz_up (mz_up (mz_up (mz_up (mz_up (mz_up (mz_up (mz_up (mz_up (mz_up (mz_up (mz_up (mz_up (mz_up (mz_up (mz_up (mz_up (mz_up (mz_up (mz_up (mz_up (mz_up (mz_up (mz_up (mz_up (mz_up (mz_i xs Ln) 61 3 32) 62 3 c) 63 72 0) 63 73 0) 63 74 0) 63 75 0) 63 76 0) 63 77 0) 63 78 0) 63 79 0) 63 80 0) 63 81 0) 63 82 0) 63 83 0) 63 84 0) 63 85 0) 63 86 0) 63 87 0) 63 88 0) 63 89 0) 63 90 0) 63 91 0) 63 92 0) 63 93 0) 63 94 0) 63 95 0) 75 3 32) 76 3 c) 77 72 0) 77 73 0) 77 74 0) 77 75 0) 77 76 0) 77 77 0) 77 78 0) 77 79 0) 77 80 0) 77 81 0) 77 82 0) 77 83 0) 77 84 0) 77 85 0) 77 86 0) 77 87 0) 77 88 0) 77 89 0) 77 90 0) 77 91 0) 77 92 0) 77 93 0) 77 94 0) 77 95 0, ⟨?_, rfl⟩, ⟨?_, rfl⟩⟩
                    · refine mz_go 3 (c' := (5, [some (.ref 0), some (.int 3), some (.int 32), some (.int c)], [.int 3, .ref 60], (mz_i xs Ln))) rfl ?_
                      refine mz_do (R := mz_r45) (as := [.ref 60, .int 3]) (rest := []) (r1 := some (.int 1)) (m1 := (mz_i xs Ln)) rfl ⟨?_, rfl⟩ ?_
                      · refine mz_go 7 (c' := (14, [some (.ref 60), some (.int 3)], [.int 1], (mz_i xs Ln))) rfl ?_
                        exact mz_ret rfl
                      refine mz_go 16 (c' := (if 0 ≤ c then 53 else 47, [some (.ref 0), some (.int 3), some (.int 32), some (.int c)], [], (mz_i xs Ln))) rfl ?_
                      refine mz_ifT h14 ?_
                      refine mz_go 5 (c' := (if c ≤ 24 then 69 else 63, [some (.ref 0), some (.int 3), some (.int 32), some (.int c)], [], (mz_i xs Ln))) rfl ?_
                      refine mz_ifT h15 ?_
                      refine mz_go 7 (c' := (84, [some (.ref 0), some (.int 3), some (.int 32), some (.int c)], [.int c, .int 32, .int 3, .ref 60], (mz_i xs Ln))) rfl ?_
                      refine mz_do (R := mz_r47) (as := [.ref 60, .int 3, .int 32, .int c]) (rest := []) (r1 := none) (m1 := mz_up (mz_up (mz_up (mz_up (mz_up (mz_up (mz_up (mz_up (mz_up (mz_up (mz_up (mz_up (mz_up (mz_up (mz_up (mz_up (mz_up (mz_up (mz_up (mz_up (mz_up (mz_up (mz_up (mz_up (mz_up (mz_up (mz_i xs Ln) 61 3 32) 62 3 c) 63 72 0) 63 73 0) 63 74 0) 63 75 0) 63 76 0) 63 77 0) 63 78 0) 63 79 0) 63 80 0) 63 81 0) 63 82 0) 63 83 0) 63 84 0) 63 85 0) 63 86 0) 63 87 0) 63 88 0) 63 89 0) 63 90 0) 63 91 0) 63 92 0) 63 93 0) 63 94 0) 63 95 0) rfl ⟨?_, rfl⟩ ?_
                      · refine mz_go 2 (c' := (2, [some (.ref 60), some (.int 3), some (.int 32), some (.int c), none], [.int 3, .ref 60], (mz_i xs Ln))) rfl ?_
                        refine mz_do (R := mz_r45) (as := [.ref 60, .int 3]) (rest := []) (r1 := some (.int 1)) (m1 := (mz_i xs Ln)) rfl ⟨?_, rfl⟩ ?_
                        · refine mz_go 7 (c' := (14, [some (.ref 60), some (.int 3)], [.int 1], (mz_i xs Ln))) rfl ?_
                          exact mz_ret rfl
                        refine mz_go 4 (c' := (12, [some (.ref 60), some (.int 3), some (.int 32), some (.int c), none], [.int 24, .int 0, .int c], (mz_i xs Ln))) rfl ?_
                        refine mz_do (R := mz_r121) (as := [.int c, .int 0, .int 24]) (rest := []) (r1 := some (.int 1)) (m1 := (mz_i xs Ln)) rfl ⟨?_, rfl⟩ ?_
                        · refine mz_go 3 (c' := (if c < 0 then 14 else 5, [some (.int c), some (.int 0), some (.int 24)], [], (mz_i xs Ln))) rfl ?_
                          refine mz_ifF (by have hl : (0 : Int) ≤ (c).toInt := Int32.le_iff_toInt_le.mp h14; have hu : (c).toInt ≤ (24 : Int) := Int32.le_iff_toInt_le.mp h15; exact Int32.not_lt.mpr (Int32.le_iff_toInt_le.mpr (show (0 : Int) ≤ (c).toInt by omega))) ?_
                          refine mz_go 3 (c' := (if 24 < c then 14 else 10, [some (.int c), some (.int 0), some (.int 24)], [], (mz_i xs Ln))) rfl ?_
                          refine mz_ifF (by have hl : (0 : Int) ≤ (c).toInt := Int32.le_iff_toInt_le.mp h14; have hu : (c).toInt ≤ (24 : Int) := Int32.le_iff_toInt_le.mp h15; exact Int32.not_lt.mpr (Int32.le_iff_toInt_le.mpr (show (c).toInt ≤ (24 : Int) by omega))) ?_
                          refine mz_go 2 (c' := (15, [some (.int c), some (.int 0), some (.int 24)], [.int 1], (mz_i xs Ln))) rfl ?_
                          exact mz_ret rfl
                        refine mz_go 352 (c' := (61, [some (.ref 60), some (.int 3), some (.int 32), some (.int c), some (.int 24)], [], mz_up (mz_up (mz_up (mz_up (mz_up (mz_up (mz_up (mz_up (mz_up (mz_up (mz_up (mz_up (mz_up (mz_up (mz_up (mz_up (mz_up (mz_up (mz_up (mz_up (mz_up (mz_up (mz_up (mz_up (mz_up (mz_up (mz_i xs Ln) 61 3 32) 62 3 c) 63 72 0) 63 73 0) 63 74 0) 63 75 0) 63 76 0) 63 77 0) 63 78 0) 63 79 0) 63 80 0) 63 81 0) 63 82 0) 63 83 0) 63 84 0) 63 85 0) 63 86 0) 63 87 0) 63 88 0) 63 89 0) 63 90 0) 63 91 0) 63 92 0) 63 93 0) 63 94 0) 63 95 0)) rfl ?_
                        exact mz_ret rfl
                      refine mz_go 1 (c' := (88, [some (.ref 0), some (.int 3), some (.int 32), some (.int c)], [.int 1], mz_up (mz_up (mz_up (mz_up (mz_up (mz_up (mz_up (mz_up (mz_up (mz_up (mz_up (mz_up (mz_up (mz_up (mz_up (mz_up (mz_up (mz_up (mz_up (mz_up (mz_up (mz_up (mz_up (mz_up (mz_up (mz_up (mz_i xs Ln) 61 3 32) 62 3 c) 63 72 0) 63 73 0) 63 74 0) 63 75 0) 63 76 0) 63 77 0) 63 78 0) 63 79 0) 63 80 0) 63 81 0) 63 82 0) 63 83 0) 63 84 0) 63 85 0) 63 86 0) 63 87 0) 63 88 0) 63 89 0) 63 90 0) 63 91 0) 63 92 0) 63 93 0) 63 94 0) 63 95 0)) rfl ?_
                      exact mz_ret rfl
                    · refine mz_go 1 (c' := (1, [some (.ref 65), some (.int 3), some (.int 32), some (.int c), none], [.int 3], mz_up (mz_up (mz_up (mz_up (mz_up (mz_up (mz_up (mz_up (mz_up (mz_up (mz_up (mz_up (mz_up (mz_up (mz_up (mz_up (mz_up (mz_up (mz_up (mz_up (mz_up (mz_up (mz_up (mz_up (mz_up (mz_up (mz_i xs Ln) 61 3 32) 62 3 c) 63 72 0) 63 73 0) 63 74 0) 63 75 0) 63 76 0) 63 77 0) 63 78 0) 63 79 0) 63 80 0) 63 81 0) 63 82 0) 63 83 0) 63 84 0) 63 85 0) 63 86 0) 63 87 0) 63 88 0) 63 89 0) 63 90 0) 63 91 0) 63 92 0) 63 93 0) 63 94 0) 63 95 0)) rfl ?_
                      refine mz_do (R := mz_r219) (as := [.int 3]) (rest := []) (r1 := some (.int 1)) (m1 := mz_up (mz_up (mz_up (mz_up (mz_up (mz_up (mz_up (mz_up (mz_up (mz_up (mz_up (mz_up (mz_up (mz_up (mz_up (mz_up (mz_up (mz_up (mz_up (mz_up (mz_up (mz_up (mz_up (mz_up (mz_up (mz_up (mz_i xs Ln) 61 3 32) 62 3 c) 63 72 0) 63 73 0) 63 74 0) 63 75 0) 63 76 0) 63 77 0) 63 78 0) 63 79 0) 63 80 0) 63 81 0) 63 82 0) 63 83 0) 63 84 0) 63 85 0) 63 86 0) 63 87 0) 63 88 0) 63 89 0) 63 90 0) 63 91 0) 63 92 0) 63 93 0) 63 94 0) 63 95 0) rfl ⟨?_, rfl⟩ ?_
                      · refine mz_go 3 (c' := (3, [some (.int 3)], [.int 3, .int 0, .int 3], mz_up (mz_up (mz_up (mz_up (mz_up (mz_up (mz_up (mz_up (mz_up (mz_up (mz_up (mz_up (mz_up (mz_up (mz_up (mz_up (mz_up (mz_up (mz_up (mz_up (mz_up (mz_up (mz_up (mz_up (mz_up (mz_up (mz_i xs Ln) 61 3 32) 62 3 c) 63 72 0) 63 73 0) 63 74 0) 63 75 0) 63 76 0) 63 77 0) 63 78 0) 63 79 0) 63 80 0) 63 81 0) 63 82 0) 63 83 0) 63 84 0) 63 85 0) 63 86 0) 63 87 0) 63 88 0) 63 89 0) 63 90 0) 63 91 0) 63 92 0) 63 93 0) 63 94 0) 63 95 0)) rfl ?_
                        refine mz_do (R := mz_r128) (as := [.int 3, .int 0, .int 3]) (rest := []) (r1 := some (.int 1)) (m1 := mz_up (mz_up (mz_up (mz_up (mz_up (mz_up (mz_up (mz_up (mz_up (mz_up (mz_up (mz_up (mz_up (mz_up (mz_up (mz_up (mz_up (mz_up (mz_up (mz_up (mz_up (mz_up (mz_up (mz_up (mz_up (mz_up (mz_i xs Ln) 61 3 32) 62 3 c) 63 72 0) 63 73 0) 63 74 0) 63 75 0) 63 76 0) 63 77 0) 63 78 0) 63 79 0) 63 80 0) 63 81 0) 63 82 0) 63 83 0) 63 84 0) 63 85 0) 63 86 0) 63 87 0) 63 88 0) 63 89 0) 63 90 0) 63 91 0) 63 92 0) 63 93 0) 63 94 0) 63 95 0) rfl ⟨?_, rfl⟩ ?_
                        · refine mz_go 8 (c' := (15, [some (.int 3), some (.int 0), some (.int 3)], [.int 1], mz_up (mz_up (mz_up (mz_up (mz_up (mz_up (mz_up (mz_up (mz_up (mz_up (mz_up (mz_up (mz_up (mz_up (mz_up (mz_up (mz_up (mz_up (mz_up (mz_up (mz_up (mz_up (mz_up (mz_up (mz_up (mz_up (mz_i xs Ln) 61 3 32) 62 3 c) 63 72 0) 63 73 0) 63 74 0) 63 75 0) 63 76 0) 63 77 0) 63 78 0) 63 79 0) 63 80 0) 63 81 0) 63 82 0) 63 83 0) 63 84 0) 63 85 0) 63 86 0) 63 87 0) 63 88 0) 63 89 0) 63 90 0) 63 91 0) 63 92 0) 63 93 0) 63 94 0) 63 95 0)) rfl ?_
                          exact mz_ret rfl
                        exact mz_ret rfl
                      refine mz_go 16 (c' := (if 0 ≤ c then 49 else 43, [some (.ref 65), some (.int 3), some (.int 32), some (.int c), none], [], mz_up (mz_up (mz_up (mz_up (mz_up (mz_up (mz_up (mz_up (mz_up (mz_up (mz_up (mz_up (mz_up (mz_up (mz_up (mz_up (mz_up (mz_up (mz_up (mz_up (mz_up (mz_up (mz_up (mz_up (mz_up (mz_up (mz_i xs Ln) 61 3 32) 62 3 c) 63 72 0) 63 73 0) 63 74 0) 63 75 0) 63 76 0) 63 77 0) 63 78 0) 63 79 0) 63 80 0) 63 81 0) 63 82 0) 63 83 0) 63 84 0) 63 85 0) 63 86 0) 63 87 0) 63 88 0) 63 89 0) 63 90 0) 63 91 0) 63 92 0) 63 93 0) 63 94 0) 63 95 0)) rfl ?_
                      refine mz_ifT h14 ?_
                      refine mz_go 5 (c' := (if c ≤ 24 then 65 else 59, [some (.ref 65), some (.int 3), some (.int 32), some (.int c), none], [], mz_up (mz_up (mz_up (mz_up (mz_up (mz_up (mz_up (mz_up (mz_up (mz_up (mz_up (mz_up (mz_up (mz_up (mz_up (mz_up (mz_up (mz_up (mz_up (mz_up (mz_up (mz_up (mz_up (mz_up (mz_up (mz_up (mz_i xs Ln) 61 3 32) 62 3 c) 63 72 0) 63 73 0) 63 74 0) 63 75 0) 63 76 0) 63 77 0) 63 78 0) 63 79 0) 63 80 0) 63 81 0) 63 82 0) 63 83 0) 63 84 0) 63 85 0) 63 86 0) 63 87 0) 63 88 0) 63 89 0) 63 90 0) 63 91 0) 63 92 0) 63 93 0) 63 94 0) 63 95 0)) rfl ?_
                      refine mz_ifT h15 ?_
                      refine mz_go 354 (c' := (117, [some (.ref 65), some (.int 3), some (.int 32), some (.int c), some (.int 24)], [.int 1], mz_up (mz_up (mz_up (mz_up (mz_up (mz_up (mz_up (mz_up (mz_up (mz_up (mz_up (mz_up (mz_up (mz_up (mz_up (mz_up (mz_up (mz_up (mz_up (mz_up (mz_up (mz_up (mz_up (mz_up (mz_up (mz_up (mz_up (mz_up (mz_up (mz_up (mz_up (mz_up (mz_up (mz_up (mz_up (mz_up (mz_up (mz_up (mz_up (mz_up (mz_up (mz_up (mz_up (mz_up (mz_up (mz_up (mz_up (mz_up (mz_up (mz_up (mz_up (mz_up (mz_i xs Ln) 61 3 32) 62 3 c) 63 72 0) 63 73 0) 63 74 0) 63 75 0) 63 76 0) 63 77 0) 63 78 0) 63 79 0) 63 80 0) 63 81 0) 63 82 0) 63 83 0) 63 84 0) 63 85 0) 63 86 0) 63 87 0) 63 88 0) 63 89 0) 63 90 0) 63 91 0) 63 92 0) 63 93 0) 63 94 0) 63 95 0) 75 3 32) 76 3 c) 77 72 0) 77 73 0) 77 74 0) 77 75 0) 77 76 0) 77 77 0) 77 78 0) 77 79 0) 77 80 0) 77 81 0) 77 82 0) 77 83 0) 77 84 0) 77 85 0) 77 86 0) 77 87 0) 77 88 0) 77 89 0) 77 90 0) 77 91 0) 77 92 0) 77 93 0) 77 94 0) 77 95 0)) rfl ?_
                      exact mz_ret rfl
                · refine ⟨(-1000001), mz_up (mz_i xs Ln) 64 1 1, mz_up (mz_up (mz_i xs Ln) 64 1 1) 68 1 1, ⟨?_, rfl⟩, ⟨?_, rfl⟩⟩
                  · refine mz_go 3 (c' := (5, [some (.ref 0), some (.int a), some (.int 32), some (.int c)], [.int a, .ref 60], (mz_i xs Ln))) rfl ?_
                    refine mz_do (R := mz_r45) (as := [.ref 60, .int a]) (rest := []) (r1 := some (.int 1)) (m1 := (mz_i xs Ln)) rfl ⟨?_, rfl⟩ ?_
                    · refine mz_go 2 (c' := (if a < 0 then 13 else 4, [some (.ref 60), some (.int a)], [], (mz_i xs Ln))) rfl ?_
                      refine mz_ifF h1 ?_
                      refine mz_go 3 (c' := (if 4 ≤ a then 13 else 9, [some (.ref 60), some (.int a)], [], (mz_i xs Ln))) rfl ?_
                      refine mz_ifF h2 ?_
                      refine mz_go 2 (c' := (14, [some (.ref 60), some (.int a)], [.int 1], (mz_i xs Ln))) rfl ?_
                      exact mz_ret rfl
                    refine mz_go 16 (c' := (if 0 ≤ c then 53 else 47, [some (.ref 0), some (.int a), some (.int 32), some (.int c)], [], (mz_i xs Ln))) rfl ?_
                    refine mz_ifT h14 ?_
                    refine mz_go 5 (c' := (if c ≤ 24 then 69 else 63, [some (.ref 0), some (.int a), some (.int 32), some (.int c)], [], (mz_i xs Ln))) rfl ?_
                    refine mz_ifF h15 ?_
                    refine mz_go 2 (c' := (65, [some (.ref 0), some (.int a), some (.int 32), some (.int c)], [.int 1, .ref 0], (mz_i xs Ln))) rfl ?_
                    refine mz_do (R := mz_r109) (as := [.ref 0, .int 1]) (rest := []) (r1 := some (.int (-1000001))) (m1 := mz_up (mz_i xs Ln) 64 1 1) rfl ⟨?_, rfl⟩ ?_
                    · refine mz_go 3 (c' := (4, [some (.ref 0), some (.int 1)], [.int 6, .int 1, .int 1], (mz_i xs Ln))) rfl ?_
                      refine mz_do (R := mz_r121) (as := [.int 1, .int 1, .int 6]) (rest := []) (r1 := some (.int 1)) (m1 := (mz_i xs Ln)) rfl ⟨?_, rfl⟩ ?_
                      · refine mz_go 8 (c' := (15, [some (.int 1), some (.int 1), some (.int 6)], [.int 1], (mz_i xs Ln))) rfl ?_
                        exact mz_ret rfl
                      refine mz_go 12 (c' := (25, [some (.ref 0), some (.int 1)], [.int (-1000001)], mz_up (mz_i xs Ln) 64 1 1)) rfl ?_
                      exact mz_ret rfl
                    exact mz_ret rfl
                  · refine mz_go 1 (c' := (1, [some (.ref 65), some (.int a), some (.int 32), some (.int c), none], [.int a], mz_up (mz_i xs Ln) 64 1 1)) rfl ?_
                    refine mz_do (R := mz_r219) (as := [.int a]) (rest := []) (r1 := some (.int 1)) (m1 := mz_up (mz_i xs Ln) 64 1 1) rfl ⟨?_, rfl⟩ ?_
                    · refine mz_go 3 (c' := (3, [some (.int a)], [.int 3, .int 0, .int a], mz_up (mz_i xs Ln) 64 1 1)) rfl ?_
                      refine mz_do (R := mz_r128) (as := [.int a, .int 0, .int 3]) (rest := []) (r1 := some (.int 1)) (m1 := mz_up (mz_i xs Ln) 64 1 1) rfl ⟨?_, rfl⟩ ?_
                      · refine mz_go 3 (c' := (if a < 0 then 14 else 5, [some (.int a), some (.int 0), some (.int 3)], [], mz_up (mz_i xs Ln) 64 1 1)) rfl ?_
                        refine mz_ifF h1 ?_
                        refine mz_go 3 (c' := (if 3 < a then 14 else 10, [some (.int a), some (.int 0), some (.int 3)], [], mz_up (mz_i xs Ln) 64 1 1)) rfl ?_
                        refine mz_ifF (by have hl : (0 : Int) ≤ (a).toInt := Int32.le_iff_toInt_le.mp (Int32.not_lt.mp h1); have hu : (a).toInt < (4 : Int) := Int32.lt_iff_toInt_lt.mp (Int32.not_le.mp h2); exact Int32.not_lt.mpr (Int32.le_iff_toInt_le.mpr (show (a).toInt ≤ (3 : Int) by omega))) ?_
                        refine mz_go 2 (c' := (15, [some (.int a), some (.int 0), some (.int 3)], [.int 1], mz_up (mz_i xs Ln) 64 1 1)) rfl ?_
                        exact mz_ret rfl
                      exact mz_ret rfl
                    refine mz_go 16 (c' := (if 0 ≤ c then 49 else 43, [some (.ref 65), some (.int a), some (.int 32), some (.int c), none], [], mz_up (mz_i xs Ln) 64 1 1)) rfl ?_
                    refine mz_ifT h14 ?_
                    refine mz_go 5 (c' := (if c ≤ 24 then 65 else 59, [some (.ref 65), some (.int a), some (.int 32), some (.int c), none], [], mz_up (mz_i xs Ln) 64 1 1)) rfl ?_
                    refine mz_ifF h15 ?_
                    refine mz_go 2 (c' := (61, [some (.ref 65), some (.int a), some (.int 32), some (.int c), none], [.int 1, .ref 65], mz_up (mz_i xs Ln) 64 1 1)) rfl ?_
                    refine mz_do (R := mz_r127) (as := [.ref 65, .int 1]) (rest := []) (r1 := some (.int (-1000001))) (m1 := mz_up (mz_up (mz_i xs Ln) 64 1 1) 68 1 1) rfl ⟨?_, rfl⟩ ?_
                    · refine mz_go 11 (c' := (14, [some (.ref 65), some (.int 1)], [.int (-1000001)], mz_up (mz_up (mz_i xs Ln) 64 1 1) 68 1 1)) rfl ?_
                      exact mz_ret rfl
                    exact mz_ret rfl
              · refine ⟨(-1000003), mz_up (mz_i xs Ln) 64 3 1, mz_up (mz_up (mz_i xs Ln) 64 3 1) 68 3 1, ⟨?_, rfl⟩, ⟨?_, rfl⟩⟩
                · refine mz_go 3 (c' := (5, [some (.ref 0), some (.int a), some (.int 32), some (.int c)], [.int a, .ref 60], (mz_i xs Ln))) rfl ?_
                  refine mz_do (R := mz_r45) (as := [.ref 60, .int a]) (rest := []) (r1 := some (.int 1)) (m1 := (mz_i xs Ln)) rfl ⟨?_, rfl⟩ ?_
                  · refine mz_go 2 (c' := (if a < 0 then 13 else 4, [some (.ref 60), some (.int a)], [], (mz_i xs Ln))) rfl ?_
                    refine mz_ifF h1 ?_
                    refine mz_go 3 (c' := (if 4 ≤ a then 13 else 9, [some (.ref 60), some (.int a)], [], (mz_i xs Ln))) rfl ?_
                    refine mz_ifF h2 ?_
                    refine mz_go 2 (c' := (14, [some (.ref 60), some (.int a)], [.int 1], (mz_i xs Ln))) rfl ?_
                    exact mz_ret rfl
                  refine mz_go 16 (c' := (if 0 ≤ c then 53 else 47, [some (.ref 0), some (.int a), some (.int 32), some (.int c)], [], (mz_i xs Ln))) rfl ?_
                  refine mz_ifF h14 ?_
                  refine mz_go 2 (c' := (49, [some (.ref 0), some (.int a), some (.int 32), some (.int c)], [.int 3, .ref 0], (mz_i xs Ln))) rfl ?_
                  refine mz_do (R := mz_r109) (as := [.ref 0, .int 3]) (rest := []) (r1 := some (.int (-1000003))) (m1 := mz_up (mz_i xs Ln) 64 3 1) rfl ⟨?_, rfl⟩ ?_
                  · refine mz_go 3 (c' := (4, [some (.ref 0), some (.int 3)], [.int 6, .int 1, .int 3], (mz_i xs Ln))) rfl ?_
                    refine mz_do (R := mz_r121) (as := [.int 3, .int 1, .int 6]) (rest := []) (r1 := some (.int 1)) (m1 := (mz_i xs Ln)) rfl ⟨?_, rfl⟩ ?_
                    · refine mz_go 8 (c' := (15, [some (.int 3), some (.int 1), some (.int 6)], [.int 1], (mz_i xs Ln))) rfl ?_
                      exact mz_ret rfl
                    refine mz_go 12 (c' := (25, [some (.ref 0), some (.int 3)], [.int (-1000003)], mz_up (mz_i xs Ln) 64 3 1)) rfl ?_
                    exact mz_ret rfl
                  exact mz_ret rfl
                · refine mz_go 1 (c' := (1, [some (.ref 65), some (.int a), some (.int 32), some (.int c), none], [.int a], mz_up (mz_i xs Ln) 64 3 1)) rfl ?_
                  refine mz_do (R := mz_r219) (as := [.int a]) (rest := []) (r1 := some (.int 1)) (m1 := mz_up (mz_i xs Ln) 64 3 1) rfl ⟨?_, rfl⟩ ?_
                  · refine mz_go 3 (c' := (3, [some (.int a)], [.int 3, .int 0, .int a], mz_up (mz_i xs Ln) 64 3 1)) rfl ?_
                    refine mz_do (R := mz_r128) (as := [.int a, .int 0, .int 3]) (rest := []) (r1 := some (.int 1)) (m1 := mz_up (mz_i xs Ln) 64 3 1) rfl ⟨?_, rfl⟩ ?_
                    · refine mz_go 3 (c' := (if a < 0 then 14 else 5, [some (.int a), some (.int 0), some (.int 3)], [], mz_up (mz_i xs Ln) 64 3 1)) rfl ?_
                      refine mz_ifF h1 ?_
                      refine mz_go 3 (c' := (if 3 < a then 14 else 10, [some (.int a), some (.int 0), some (.int 3)], [], mz_up (mz_i xs Ln) 64 3 1)) rfl ?_
                      refine mz_ifF (by have hl : (0 : Int) ≤ (a).toInt := Int32.le_iff_toInt_le.mp (Int32.not_lt.mp h1); have hu : (a).toInt < (4 : Int) := Int32.lt_iff_toInt_lt.mp (Int32.not_le.mp h2); exact Int32.not_lt.mpr (Int32.le_iff_toInt_le.mpr (show (a).toInt ≤ (3 : Int) by omega))) ?_
                      refine mz_go 2 (c' := (15, [some (.int a), some (.int 0), some (.int 3)], [.int 1], mz_up (mz_i xs Ln) 64 3 1)) rfl ?_
                      exact mz_ret rfl
                    exact mz_ret rfl
                  refine mz_go 16 (c' := (if 0 ≤ c then 49 else 43, [some (.ref 65), some (.int a), some (.int 32), some (.int c), none], [], mz_up (mz_i xs Ln) 64 3 1)) rfl ?_
                  refine mz_ifF h14 ?_
                  refine mz_go 2 (c' := (45, [some (.ref 65), some (.int a), some (.int 32), some (.int c), none], [.int 3, .ref 65], mz_up (mz_i xs Ln) 64 3 1)) rfl ?_
                  refine mz_do (R := mz_r127) (as := [.ref 65, .int 3]) (rest := []) (r1 := some (.int (-1000003))) (m1 := mz_up (mz_up (mz_i xs Ln) 64 3 1) 68 3 1) rfl ⟨?_, rfl⟩ ?_
                  · refine mz_go 11 (c' := (14, [some (.ref 65), some (.int 3)], [.int (-1000003)], mz_up (mz_up (mz_i xs Ln) 64 3 1) 68 3 1)) rfl ?_
                    exact mz_ret rfl
                  exact mz_ret rfl
            · refine ⟨(-1000001), mz_up (mz_i xs Ln) 64 1 1, mz_up (mz_up (mz_i xs Ln) 64 1 1) 68 1 1, ⟨?_, rfl⟩, ⟨?_, rfl⟩⟩
              · refine mz_go 3 (c' := (5, [some (.ref 0), some (.int a), some (.int b), some (.int c)], [.int a, .ref 60], (mz_i xs Ln))) rfl ?_
                refine mz_do (R := mz_r45) (as := [.ref 60, .int a]) (rest := []) (r1 := some (.int 1)) (m1 := (mz_i xs Ln)) rfl ⟨?_, rfl⟩ ?_
                · refine mz_go 2 (c' := (if a < 0 then 13 else 4, [some (.ref 60), some (.int a)], [], (mz_i xs Ln))) rfl ?_
                  refine mz_ifF h1 ?_
                  refine mz_go 3 (c' := (if 4 ≤ a then 13 else 9, [some (.ref 60), some (.int a)], [], (mz_i xs Ln))) rfl ?_
                  refine mz_ifF h2 ?_
                  refine mz_go 2 (c' := (14, [some (.ref 60), some (.int a)], [.int 1], (mz_i xs Ln))) rfl ?_
                  exact mz_ret rfl
                refine mz_go 3 (c' := (if b = 0 then 39 else 15, [some (.ref 0), some (.int a), some (.int b), some (.int c)], [], (mz_i xs Ln))) rfl ?_
                refine mz_ifF h3 ?_
                refine mz_go 3 (c' := (if b = 8 then 39 else 21, [some (.ref 0), some (.int a), some (.int b), some (.int c)], [], (mz_i xs Ln))) rfl ?_
                refine mz_ifF h5 ?_
                refine mz_go 3 (c' := (if b = 16 then 39 else 27, [some (.ref 0), some (.int a), some (.int b), some (.int c)], [], (mz_i xs Ln))) rfl ?_
                refine mz_ifF h9 ?_
                refine mz_go 3 (c' := (if b = 32 then 39 else 33, [some (.ref 0), some (.int a), some (.int b), some (.int c)], [], (mz_i xs Ln))) rfl ?_
                refine mz_ifF h13 ?_
                refine mz_go 2 (c' := (35, [some (.ref 0), some (.int a), some (.int b), some (.int c)], [.int 1, .ref 0], (mz_i xs Ln))) rfl ?_
                refine mz_do (R := mz_r109) (as := [.ref 0, .int 1]) (rest := []) (r1 := some (.int (-1000001))) (m1 := mz_up (mz_i xs Ln) 64 1 1) rfl ⟨?_, rfl⟩ ?_
                · refine mz_go 3 (c' := (4, [some (.ref 0), some (.int 1)], [.int 6, .int 1, .int 1], (mz_i xs Ln))) rfl ?_
                  refine mz_do (R := mz_r121) (as := [.int 1, .int 1, .int 6]) (rest := []) (r1 := some (.int 1)) (m1 := (mz_i xs Ln)) rfl ⟨?_, rfl⟩ ?_
                  · refine mz_go 8 (c' := (15, [some (.int 1), some (.int 1), some (.int 6)], [.int 1], (mz_i xs Ln))) rfl ?_
                    exact mz_ret rfl
                  refine mz_go 12 (c' := (25, [some (.ref 0), some (.int 1)], [.int (-1000001)], mz_up (mz_i xs Ln) 64 1 1)) rfl ?_
                  exact mz_ret rfl
                exact mz_ret rfl
              · refine mz_go 1 (c' := (1, [some (.ref 65), some (.int a), some (.int b), some (.int c), none], [.int a], mz_up (mz_i xs Ln) 64 1 1)) rfl ?_
                refine mz_do (R := mz_r219) (as := [.int a]) (rest := []) (r1 := some (.int 1)) (m1 := mz_up (mz_i xs Ln) 64 1 1) rfl ⟨?_, rfl⟩ ?_
                · refine mz_go 3 (c' := (3, [some (.int a)], [.int 3, .int 0, .int a], mz_up (mz_i xs Ln) 64 1 1)) rfl ?_
                  refine mz_do (R := mz_r128) (as := [.int a, .int 0, .int 3]) (rest := []) (r1 := some (.int 1)) (m1 := mz_up (mz_i xs Ln) 64 1 1) rfl ⟨?_, rfl⟩ ?_
                  · refine mz_go 3 (c' := (if a < 0 then 14 else 5, [some (.int a), some (.int 0), some (.int 3)], [], mz_up (mz_i xs Ln) 64 1 1)) rfl ?_
                    refine mz_ifF h1 ?_
                    refine mz_go 3 (c' := (if 3 < a then 14 else 10, [some (.int a), some (.int 0), some (.int 3)], [], mz_up (mz_i xs Ln) 64 1 1)) rfl ?_
                    refine mz_ifF (by have hl : (0 : Int) ≤ (a).toInt := Int32.le_iff_toInt_le.mp (Int32.not_lt.mp h1); have hu : (a).toInt < (4 : Int) := Int32.lt_iff_toInt_lt.mp (Int32.not_le.mp h2); exact Int32.not_lt.mpr (Int32.le_iff_toInt_le.mpr (show (a).toInt ≤ (3 : Int) by omega))) ?_
                    refine mz_go 2 (c' := (15, [some (.int a), some (.int 0), some (.int 3)], [.int 1], mz_up (mz_i xs Ln) 64 1 1)) rfl ?_
                    exact mz_ret rfl
                  exact mz_ret rfl
                refine mz_go 3 (c' := (if b = 0 then 35 else 11, [some (.ref 65), some (.int a), some (.int b), some (.int c), none], [], mz_up (mz_i xs Ln) 64 1 1)) rfl ?_
                refine mz_ifF h3 ?_
                refine mz_go 3 (c' := (if b = 8 then 35 else 17, [some (.ref 65), some (.int a), some (.int b), some (.int c), none], [], mz_up (mz_i xs Ln) 64 1 1)) rfl ?_
                refine mz_ifF h5 ?_
                refine mz_go 3 (c' := (if b = 16 then 35 else 23, [some (.ref 65), some (.int a), some (.int b), some (.int c), none], [], mz_up (mz_i xs Ln) 64 1 1)) rfl ?_
                refine mz_ifF h9 ?_
                refine mz_go 3 (c' := (if b = 32 then 35 else 29, [some (.ref 65), some (.int a), some (.int b), some (.int c), none], [], mz_up (mz_i xs Ln) 64 1 1)) rfl ?_
                refine mz_ifF h13 ?_
                refine mz_go 2 (c' := (31, [some (.ref 65), some (.int a), some (.int b), some (.int c), none], [.int 1, .ref 65], mz_up (mz_i xs Ln) 64 1 1)) rfl ?_
                refine mz_do (R := mz_r127) (as := [.ref 65, .int 1]) (rest := []) (r1 := some (.int (-1000001))) (m1 := mz_up (mz_up (mz_i xs Ln) 64 1 1) 68 1 1) rfl ⟨?_, rfl⟩ ?_
                · refine mz_go 11 (c' := (14, [some (.ref 65), some (.int 1)], [.int (-1000001)], mz_up (mz_up (mz_i xs Ln) 64 1 1) 68 1 1)) rfl ?_
                  exact mz_ret rfl
                exact mz_ret rfl
set_option maxHeartbeats 4000000 in
set_option maxRecDepth 100000 in
theorem p1_put (xs : Nat → Int32) (Ln : Nat) (a : Int32) (b : Int32) (c : Int32) : ∃ v m1 m2, mz_Me 100 mz_r100 [.ref 0, .int a, .int b, .int c] (mz_i xs Ln) (some (.int v)) m1 ∧ mz_Me 100 mz_r221 [.ref 65, .int a, .int b, .int c] m1 (some (.int v)) m2 := by
  by_cases h1 : a < 0
  · refine ⟨(-1000001), mz_up (mz_i xs Ln) 64 1 1, mz_up (mz_up (mz_i xs Ln) 64 1 1) 68 1 1, ⟨?_, rfl⟩, ⟨?_, rfl⟩⟩
    · refine mz_go 3 (c' := (5, [some (.ref 0), some (.int a), some (.int b), some (.int c)], [.int a, .ref 60], (mz_i xs Ln))) rfl ?_
      refine mz_do (R := mz_r45) (as := [.ref 60, .int a]) (rest := []) (r1 := some (.int 0)) (m1 := (mz_i xs Ln)) rfl ⟨?_, rfl⟩ ?_
      · refine mz_go 2 (c' := (if a < 0 then 13 else 4, [some (.ref 60), some (.int a)], [], (mz_i xs Ln))) rfl ?_
        refine mz_ifT h1 ?_
        refine mz_go 1 (c' := (14, [some (.ref 60), some (.int a)], [.int 0], (mz_i xs Ln))) rfl ?_
        exact mz_ret rfl
      refine mz_go 3 (c' := (13, [some (.ref 0), some (.int a), some (.int b), some (.int c)], [.int 1, .ref 0], (mz_i xs Ln))) rfl ?_
      refine mz_do (R := mz_r109) (as := [.ref 0, .int 1]) (rest := []) (r1 := some (.int (-1000001))) (m1 := mz_up (mz_i xs Ln) 64 1 1) rfl ⟨?_, rfl⟩ ?_
      · refine mz_go 3 (c' := (4, [some (.ref 0), some (.int 1)], [.int 6, .int 1, .int 1], (mz_i xs Ln))) rfl ?_
        refine mz_do (R := mz_r121) (as := [.int 1, .int 1, .int 6]) (rest := []) (r1 := some (.int 1)) (m1 := (mz_i xs Ln)) rfl ⟨?_, rfl⟩ ?_
        · refine mz_go 8 (c' := (15, [some (.int 1), some (.int 1), some (.int 6)], [.int 1], (mz_i xs Ln))) rfl ?_
          exact mz_ret rfl
        refine mz_go 12 (c' := (25, [some (.ref 0), some (.int 1)], [.int (-1000001)], mz_up (mz_i xs Ln) 64 1 1)) rfl ?_
        exact mz_ret rfl
      exact mz_ret rfl
    · refine mz_go 1 (c' := (1, [some (.ref 65), some (.int a), some (.int b), some (.int c), none], [.int a], mz_up (mz_i xs Ln) 64 1 1)) rfl ?_
      refine mz_do (R := mz_r219) (as := [.int a]) (rest := []) (r1 := some (.int 0)) (m1 := mz_up (mz_i xs Ln) 64 1 1) rfl ⟨?_, rfl⟩ ?_
      · refine mz_go 3 (c' := (3, [some (.int a)], [.int 3, .int 0, .int a], mz_up (mz_i xs Ln) 64 1 1)) rfl ?_
        refine mz_do (R := mz_r128) (as := [.int a, .int 0, .int 3]) (rest := []) (r1 := some (.int 0)) (m1 := mz_up (mz_i xs Ln) 64 1 1) rfl ⟨?_, rfl⟩ ?_
        · refine mz_go 3 (c' := (if a < 0 then 14 else 5, [some (.int a), some (.int 0), some (.int 3)], [], mz_up (mz_i xs Ln) 64 1 1)) rfl ?_
          refine mz_ifT h1 ?_
          refine mz_go 1 (c' := (15, [some (.int a), some (.int 0), some (.int 3)], [.int 0], mz_up (mz_i xs Ln) 64 1 1)) rfl ?_
          exact mz_ret rfl
        exact mz_ret rfl
      refine mz_go 3 (c' := (9, [some (.ref 65), some (.int a), some (.int b), some (.int c), none], [.int 1, .ref 65], mz_up (mz_i xs Ln) 64 1 1)) rfl ?_
      refine mz_do (R := mz_r127) (as := [.ref 65, .int 1]) (rest := []) (r1 := some (.int (-1000001))) (m1 := mz_up (mz_up (mz_i xs Ln) 64 1 1) 68 1 1) rfl ⟨?_, rfl⟩ ?_
      · refine mz_go 11 (c' := (14, [some (.ref 65), some (.int 1)], [.int (-1000001)], mz_up (mz_up (mz_i xs Ln) 64 1 1) 68 1 1)) rfl ?_
        exact mz_ret rfl
      exact mz_ret rfl
  · by_cases h2 : 4 ≤ a
    · refine ⟨(-1000001), mz_up (mz_i xs Ln) 64 1 1, mz_up (mz_up (mz_i xs Ln) 64 1 1) 68 1 1, ⟨?_, rfl⟩, ⟨?_, rfl⟩⟩
      · refine mz_go 3 (c' := (5, [some (.ref 0), some (.int a), some (.int b), some (.int c)], [.int a, .ref 60], (mz_i xs Ln))) rfl ?_
        refine mz_do (R := mz_r45) (as := [.ref 60, .int a]) (rest := []) (r1 := some (.int 0)) (m1 := (mz_i xs Ln)) rfl ⟨?_, rfl⟩ ?_
        · refine mz_go 2 (c' := (if a < 0 then 13 else 4, [some (.ref 60), some (.int a)], [], (mz_i xs Ln))) rfl ?_
          refine mz_ifF h1 ?_
          refine mz_go 3 (c' := (if 4 ≤ a then 13 else 9, [some (.ref 60), some (.int a)], [], (mz_i xs Ln))) rfl ?_
          refine mz_ifT h2 ?_
          refine mz_go 1 (c' := (14, [some (.ref 60), some (.int a)], [.int 0], (mz_i xs Ln))) rfl ?_
          exact mz_ret rfl
        refine mz_go 3 (c' := (13, [some (.ref 0), some (.int a), some (.int b), some (.int c)], [.int 1, .ref 0], (mz_i xs Ln))) rfl ?_
        refine mz_do (R := mz_r109) (as := [.ref 0, .int 1]) (rest := []) (r1 := some (.int (-1000001))) (m1 := mz_up (mz_i xs Ln) 64 1 1) rfl ⟨?_, rfl⟩ ?_
        · refine mz_go 3 (c' := (4, [some (.ref 0), some (.int 1)], [.int 6, .int 1, .int 1], (mz_i xs Ln))) rfl ?_
          refine mz_do (R := mz_r121) (as := [.int 1, .int 1, .int 6]) (rest := []) (r1 := some (.int 1)) (m1 := (mz_i xs Ln)) rfl ⟨?_, rfl⟩ ?_
          · refine mz_go 8 (c' := (15, [some (.int 1), some (.int 1), some (.int 6)], [.int 1], (mz_i xs Ln))) rfl ?_
            exact mz_ret rfl
          refine mz_go 12 (c' := (25, [some (.ref 0), some (.int 1)], [.int (-1000001)], mz_up (mz_i xs Ln) 64 1 1)) rfl ?_
          exact mz_ret rfl
        exact mz_ret rfl
      · refine mz_go 1 (c' := (1, [some (.ref 65), some (.int a), some (.int b), some (.int c), none], [.int a], mz_up (mz_i xs Ln) 64 1 1)) rfl ?_
        refine mz_do (R := mz_r219) (as := [.int a]) (rest := []) (r1 := some (.int 0)) (m1 := mz_up (mz_i xs Ln) 64 1 1) rfl ⟨?_, rfl⟩ ?_
        · refine mz_go 3 (c' := (3, [some (.int a)], [.int 3, .int 0, .int a], mz_up (mz_i xs Ln) 64 1 1)) rfl ?_
          refine mz_do (R := mz_r128) (as := [.int a, .int 0, .int 3]) (rest := []) (r1 := some (.int 0)) (m1 := mz_up (mz_i xs Ln) 64 1 1) rfl ⟨?_, rfl⟩ ?_
          · refine mz_go 3 (c' := (if a < 0 then 14 else 5, [some (.int a), some (.int 0), some (.int 3)], [], mz_up (mz_i xs Ln) 64 1 1)) rfl ?_
            refine mz_ifF h1 ?_
            refine mz_go 3 (c' := (if 3 < a then 14 else 10, [some (.int a), some (.int 0), some (.int 3)], [], mz_up (mz_i xs Ln) 64 1 1)) rfl ?_
            refine mz_ifT (by have hl : (4 : Int) ≤ (a).toInt := Int32.le_iff_toInt_le.mp h2; exact Int32.lt_iff_toInt_lt.mpr (show (3 : Int) < (a).toInt by omega)) ?_
            refine mz_go 1 (c' := (15, [some (.int a), some (.int 0), some (.int 3)], [.int 0], mz_up (mz_i xs Ln) 64 1 1)) rfl ?_
            exact mz_ret rfl
          exact mz_ret rfl
        refine mz_go 3 (c' := (9, [some (.ref 65), some (.int a), some (.int b), some (.int c), none], [.int 1, .ref 65], mz_up (mz_i xs Ln) 64 1 1)) rfl ?_
        refine mz_do (R := mz_r127) (as := [.ref 65, .int 1]) (rest := []) (r1 := some (.int (-1000001))) (m1 := mz_up (mz_up (mz_i xs Ln) 64 1 1) 68 1 1) rfl ⟨?_, rfl⟩ ?_
        · refine mz_go 11 (c' := (14, [some (.ref 65), some (.int 1)], [.int (-1000001)], mz_up (mz_up (mz_i xs Ln) 64 1 1) 68 1 1)) rfl ?_
          exact mz_ret rfl
        exact mz_ret rfl
    · have hl3 : (0 : Int) ≤ (a).toInt := Int32.le_iff_toInt_le.mp (Int32.not_lt.mp h1)
      have hu3 : (a).toInt < (4 : Int) := Int32.lt_iff_toInt_lt.mp (Int32.not_le.mp h2)
      obtain rfl | rfl | rfl | rfl : a = 0 ∨ a = 1 ∨ a = 2 ∨ a = 3 := by
          rcases (show a.toInt = 0 ∨ a.toInt = 1 ∨ a.toInt = 2 ∨ a.toInt = 3 by omega) with h | h | h | h
          · exact (Or.inl (Int32.toInt_inj.mp h))
          · exact (Or.inr (Or.inl (Int32.toInt_inj.mp h)))
          · exact (Or.inr (Or.inr (Or.inl (Int32.toInt_inj.mp h))))
          · exact (Or.inr (Or.inr (Or.inr (Int32.toInt_inj.mp h))))
      · refine ⟨(-1000002), mz_up (mz_i xs Ln) 64 2 1, mz_up (mz_up (mz_i xs Ln) 64 2 1) 68 2 1, ⟨?_, rfl⟩, ⟨?_, rfl⟩⟩
        · refine mz_go 3 (c' := (5, [some (.ref 0), some (.int 0), some (.int b), some (.int c)], [.int 0, .ref 60], (mz_i xs Ln))) rfl ?_
          refine mz_do (R := mz_r45) (as := [.ref 60, .int 0]) (rest := []) (r1 := some (.int 1)) (m1 := (mz_i xs Ln)) rfl ⟨?_, rfl⟩ ?_
          · refine mz_go 7 (c' := (14, [some (.ref 60), some (.int 0)], [.int 1], (mz_i xs Ln))) rfl ?_
            exact mz_ret rfl
          refine mz_go 4 (c' := (22, [some (.ref 0), some (.int 0), some (.int b), some (.int c)], [.int 0, .ref 60], (mz_i xs Ln))) rfl ?_
          refine mz_do (R := mz_r46) (as := [.ref 60, .int 0]) (rest := []) (r1 := some (.int 1)) (m1 := (mz_i xs Ln)) rfl ⟨?_, rfl⟩ ?_
          · refine mz_go 2 (c' := (2, [some (.ref 60), some (.int 0)], [.int 0, .ref 60], (mz_i xs Ln))) rfl ?_
            refine mz_do (R := mz_r45) (as := [.ref 60, .int 0]) (rest := []) (r1 := some (.int 1)) (m1 := (mz_i xs Ln)) rfl ⟨?_, rfl⟩ ?_
            · refine mz_go 7 (c' := (14, [some (.ref 60), some (.int 0)], [.int 1], (mz_i xs Ln))) rfl ?_
              exact mz_ret rfl
            refine mz_go 8 (c' := (22, [some (.ref 60), some (.int 0)], [.int 1], (mz_i xs Ln))) rfl ?_
            exact mz_ret rfl
          refine mz_go 3 (c' := (30, [some (.ref 0), some (.int 0), some (.int b), some (.int c)], [.int 2, .ref 0], (mz_i xs Ln))) rfl ?_
          refine mz_do (R := mz_r109) (as := [.ref 0, .int 2]) (rest := []) (r1 := some (.int (-1000002))) (m1 := mz_up (mz_i xs Ln) 64 2 1) rfl ⟨?_, rfl⟩ ?_
          · refine mz_go 3 (c' := (4, [some (.ref 0), some (.int 2)], [.int 6, .int 1, .int 2], (mz_i xs Ln))) rfl ?_
            refine mz_do (R := mz_r121) (as := [.int 2, .int 1, .int 6]) (rest := []) (r1 := some (.int 1)) (m1 := (mz_i xs Ln)) rfl ⟨?_, rfl⟩ ?_
            · refine mz_go 8 (c' := (15, [some (.int 2), some (.int 1), some (.int 6)], [.int 1], (mz_i xs Ln))) rfl ?_
              exact mz_ret rfl
            refine mz_go 12 (c' := (25, [some (.ref 0), some (.int 2)], [.int (-1000002)], mz_up (mz_i xs Ln) 64 2 1)) rfl ?_
            exact mz_ret rfl
          exact mz_ret rfl
        · refine mz_go 1 (c' := (1, [some (.ref 65), some (.int 0), some (.int b), some (.int c), none], [.int 0], mz_up (mz_i xs Ln) 64 2 1)) rfl ?_
          refine mz_do (R := mz_r219) (as := [.int 0]) (rest := []) (r1 := some (.int 1)) (m1 := mz_up (mz_i xs Ln) 64 2 1) rfl ⟨?_, rfl⟩ ?_
          · refine mz_go 3 (c' := (3, [some (.int 0)], [.int 3, .int 0, .int 0], mz_up (mz_i xs Ln) 64 2 1)) rfl ?_
            refine mz_do (R := mz_r128) (as := [.int 0, .int 0, .int 3]) (rest := []) (r1 := some (.int 1)) (m1 := mz_up (mz_i xs Ln) 64 2 1) rfl ⟨?_, rfl⟩ ?_
            · refine mz_go 8 (c' := (15, [some (.int 0), some (.int 0), some (.int 3)], [.int 1], mz_up (mz_i xs Ln) 64 2 1)) rfl ?_
              exact mz_ret rfl
            exact mz_ret rfl
          refine mz_go 8 (c' := (24, [some (.ref 65), some (.int 0), some (.int b), some (.int c), none], [.int 2, .ref 65], mz_up (mz_i xs Ln) 64 2 1)) rfl ?_
          refine mz_do (R := mz_r127) (as := [.ref 65, .int 2]) (rest := []) (r1 := some (.int (-1000002))) (m1 := mz_up (mz_up (mz_i xs Ln) 64 2 1) 68 2 1) rfl ⟨?_, rfl⟩ ?_
          · refine mz_go 11 (c' := (14, [some (.ref 65), some (.int 2)], [.int (-1000002)], mz_up (mz_up (mz_i xs Ln) 64 2 1) 68 2 1)) rfl ?_
            exact mz_ret rfl
          exact mz_ret rfl
      · refine ⟨(-1000002), mz_up (mz_i xs Ln) 64 2 1, mz_up (mz_up (mz_i xs Ln) 64 2 1) 68 2 1, ⟨?_, rfl⟩, ⟨?_, rfl⟩⟩
        · refine mz_go 3 (c' := (5, [some (.ref 0), some (.int 1), some (.int b), some (.int c)], [.int 1, .ref 60], (mz_i xs Ln))) rfl ?_
          refine mz_do (R := mz_r45) (as := [.ref 60, .int 1]) (rest := []) (r1 := some (.int 1)) (m1 := (mz_i xs Ln)) rfl ⟨?_, rfl⟩ ?_
          · refine mz_go 7 (c' := (14, [some (.ref 60), some (.int 1)], [.int 1], (mz_i xs Ln))) rfl ?_
            exact mz_ret rfl
          refine mz_go 4 (c' := (22, [some (.ref 0), some (.int 1), some (.int b), some (.int c)], [.int 1, .ref 60], (mz_i xs Ln))) rfl ?_
          refine mz_do (R := mz_r46) (as := [.ref 60, .int 1]) (rest := []) (r1 := some (.int 1)) (m1 := (mz_i xs Ln)) rfl ⟨?_, rfl⟩ ?_
          · refine mz_go 2 (c' := (2, [some (.ref 60), some (.int 1)], [.int 1, .ref 60], (mz_i xs Ln))) rfl ?_
            refine mz_do (R := mz_r45) (as := [.ref 60, .int 1]) (rest := []) (r1 := some (.int 1)) (m1 := (mz_i xs Ln)) rfl ⟨?_, rfl⟩ ?_
            · refine mz_go 7 (c' := (14, [some (.ref 60), some (.int 1)], [.int 1], (mz_i xs Ln))) rfl ?_
              exact mz_ret rfl
            refine mz_go 8 (c' := (22, [some (.ref 60), some (.int 1)], [.int 1], (mz_i xs Ln))) rfl ?_
            exact mz_ret rfl
          refine mz_go 3 (c' := (30, [some (.ref 0), some (.int 1), some (.int b), some (.int c)], [.int 2, .ref 0], (mz_i xs Ln))) rfl ?_
          refine mz_do (R := mz_r109) (as := [.ref 0, .int 2]) (rest := []) (r1 := some (.int (-1000002))) (m1 := mz_up (mz_i xs Ln) 64 2 1) rfl ⟨?_, rfl⟩ ?_
          · refine mz_go 3 (c' := (4, [some (.ref 0), some (.int 2)], [.int 6, .int 1, .int 2], (mz_i xs Ln))) rfl ?_
            refine mz_do (R := mz_r121) (as := [.int 2, .int 1, .int 6]) (rest := []) (r1 := some (.int 1)) (m1 := (mz_i xs Ln)) rfl ⟨?_, rfl⟩ ?_
            · refine mz_go 8 (c' := (15, [some (.int 2), some (.int 1), some (.int 6)], [.int 1], (mz_i xs Ln))) rfl ?_
              exact mz_ret rfl
            refine mz_go 12 (c' := (25, [some (.ref 0), some (.int 2)], [.int (-1000002)], mz_up (mz_i xs Ln) 64 2 1)) rfl ?_
            exact mz_ret rfl
          exact mz_ret rfl
        · refine mz_go 1 (c' := (1, [some (.ref 65), some (.int 1), some (.int b), some (.int c), none], [.int 1], mz_up (mz_i xs Ln) 64 2 1)) rfl ?_
          refine mz_do (R := mz_r219) (as := [.int 1]) (rest := []) (r1 := some (.int 1)) (m1 := mz_up (mz_i xs Ln) 64 2 1) rfl ⟨?_, rfl⟩ ?_
          · refine mz_go 3 (c' := (3, [some (.int 1)], [.int 3, .int 0, .int 1], mz_up (mz_i xs Ln) 64 2 1)) rfl ?_
            refine mz_do (R := mz_r128) (as := [.int 1, .int 0, .int 3]) (rest := []) (r1 := some (.int 1)) (m1 := mz_up (mz_i xs Ln) 64 2 1) rfl ⟨?_, rfl⟩ ?_
            · refine mz_go 8 (c' := (15, [some (.int 1), some (.int 0), some (.int 3)], [.int 1], mz_up (mz_i xs Ln) 64 2 1)) rfl ?_
              exact mz_ret rfl
            exact mz_ret rfl
          refine mz_go 8 (c' := (24, [some (.ref 65), some (.int 1), some (.int b), some (.int c), none], [.int 2, .ref 65], mz_up (mz_i xs Ln) 64 2 1)) rfl ?_
          refine mz_do (R := mz_r127) (as := [.ref 65, .int 2]) (rest := []) (r1 := some (.int (-1000002))) (m1 := mz_up (mz_up (mz_i xs Ln) 64 2 1) 68 2 1) rfl ⟨?_, rfl⟩ ?_
          · refine mz_go 11 (c' := (14, [some (.ref 65), some (.int 2)], [.int (-1000002)], mz_up (mz_up (mz_i xs Ln) 64 2 1) 68 2 1)) rfl ?_
            exact mz_ret rfl
          exact mz_ret rfl
      · refine ⟨(-1000002), mz_up (mz_i xs Ln) 64 2 1, mz_up (mz_up (mz_i xs Ln) 64 2 1) 68 2 1, ⟨?_, rfl⟩, ⟨?_, rfl⟩⟩
        · refine mz_go 3 (c' := (5, [some (.ref 0), some (.int 2), some (.int b), some (.int c)], [.int 2, .ref 60], (mz_i xs Ln))) rfl ?_
          refine mz_do (R := mz_r45) (as := [.ref 60, .int 2]) (rest := []) (r1 := some (.int 1)) (m1 := (mz_i xs Ln)) rfl ⟨?_, rfl⟩ ?_
          · refine mz_go 7 (c' := (14, [some (.ref 60), some (.int 2)], [.int 1], (mz_i xs Ln))) rfl ?_
            exact mz_ret rfl
          refine mz_go 4 (c' := (22, [some (.ref 0), some (.int 2), some (.int b), some (.int c)], [.int 2, .ref 60], (mz_i xs Ln))) rfl ?_
          refine mz_do (R := mz_r46) (as := [.ref 60, .int 2]) (rest := []) (r1 := some (.int 1)) (m1 := (mz_i xs Ln)) rfl ⟨?_, rfl⟩ ?_
          · refine mz_go 2 (c' := (2, [some (.ref 60), some (.int 2)], [.int 2, .ref 60], (mz_i xs Ln))) rfl ?_
            refine mz_do (R := mz_r45) (as := [.ref 60, .int 2]) (rest := []) (r1 := some (.int 1)) (m1 := (mz_i xs Ln)) rfl ⟨?_, rfl⟩ ?_
            · refine mz_go 7 (c' := (14, [some (.ref 60), some (.int 2)], [.int 1], (mz_i xs Ln))) rfl ?_
              exact mz_ret rfl
            refine mz_go 8 (c' := (22, [some (.ref 60), some (.int 2)], [.int 1], (mz_i xs Ln))) rfl ?_
            exact mz_ret rfl
          refine mz_go 3 (c' := (30, [some (.ref 0), some (.int 2), some (.int b), some (.int c)], [.int 2, .ref 0], (mz_i xs Ln))) rfl ?_
          refine mz_do (R := mz_r109) (as := [.ref 0, .int 2]) (rest := []) (r1 := some (.int (-1000002))) (m1 := mz_up (mz_i xs Ln) 64 2 1) rfl ⟨?_, rfl⟩ ?_
          · refine mz_go 3 (c' := (4, [some (.ref 0), some (.int 2)], [.int 6, .int 1, .int 2], (mz_i xs Ln))) rfl ?_
            refine mz_do (R := mz_r121) (as := [.int 2, .int 1, .int 6]) (rest := []) (r1 := some (.int 1)) (m1 := (mz_i xs Ln)) rfl ⟨?_, rfl⟩ ?_
            · refine mz_go 8 (c' := (15, [some (.int 2), some (.int 1), some (.int 6)], [.int 1], (mz_i xs Ln))) rfl ?_
              exact mz_ret rfl
            refine mz_go 12 (c' := (25, [some (.ref 0), some (.int 2)], [.int (-1000002)], mz_up (mz_i xs Ln) 64 2 1)) rfl ?_
            exact mz_ret rfl
          exact mz_ret rfl
        · refine mz_go 1 (c' := (1, [some (.ref 65), some (.int 2), some (.int b), some (.int c), none], [.int 2], mz_up (mz_i xs Ln) 64 2 1)) rfl ?_
          refine mz_do (R := mz_r219) (as := [.int 2]) (rest := []) (r1 := some (.int 1)) (m1 := mz_up (mz_i xs Ln) 64 2 1) rfl ⟨?_, rfl⟩ ?_
          · refine mz_go 3 (c' := (3, [some (.int 2)], [.int 3, .int 0, .int 2], mz_up (mz_i xs Ln) 64 2 1)) rfl ?_
            refine mz_do (R := mz_r128) (as := [.int 2, .int 0, .int 3]) (rest := []) (r1 := some (.int 1)) (m1 := mz_up (mz_i xs Ln) 64 2 1) rfl ⟨?_, rfl⟩ ?_
            · refine mz_go 8 (c' := (15, [some (.int 2), some (.int 0), some (.int 3)], [.int 1], mz_up (mz_i xs Ln) 64 2 1)) rfl ?_
              exact mz_ret rfl
            exact mz_ret rfl
          refine mz_go 8 (c' := (24, [some (.ref 65), some (.int 2), some (.int b), some (.int c), none], [.int 2, .ref 65], mz_up (mz_i xs Ln) 64 2 1)) rfl ?_
          refine mz_do (R := mz_r127) (as := [.ref 65, .int 2]) (rest := []) (r1 := some (.int (-1000002))) (m1 := mz_up (mz_up (mz_i xs Ln) 64 2 1) 68 2 1) rfl ⟨?_, rfl⟩ ?_
          · refine mz_go 11 (c' := (14, [some (.ref 65), some (.int 2)], [.int (-1000002)], mz_up (mz_up (mz_i xs Ln) 64 2 1) 68 2 1)) rfl ?_
            exact mz_ret rfl
          exact mz_ret rfl
      · refine ⟨(-1000002), mz_up (mz_i xs Ln) 64 2 1, mz_up (mz_up (mz_i xs Ln) 64 2 1) 68 2 1, ⟨?_, rfl⟩, ⟨?_, rfl⟩⟩
        · refine mz_go 3 (c' := (5, [some (.ref 0), some (.int 3), some (.int b), some (.int c)], [.int 3, .ref 60], (mz_i xs Ln))) rfl ?_
          refine mz_do (R := mz_r45) (as := [.ref 60, .int 3]) (rest := []) (r1 := some (.int 1)) (m1 := (mz_i xs Ln)) rfl ⟨?_, rfl⟩ ?_
          · refine mz_go 7 (c' := (14, [some (.ref 60), some (.int 3)], [.int 1], (mz_i xs Ln))) rfl ?_
            exact mz_ret rfl
          refine mz_go 4 (c' := (22, [some (.ref 0), some (.int 3), some (.int b), some (.int c)], [.int 3, .ref 60], (mz_i xs Ln))) rfl ?_
          refine mz_do (R := mz_r46) (as := [.ref 60, .int 3]) (rest := []) (r1 := some (.int 1)) (m1 := (mz_i xs Ln)) rfl ⟨?_, rfl⟩ ?_
          · refine mz_go 2 (c' := (2, [some (.ref 60), some (.int 3)], [.int 3, .ref 60], (mz_i xs Ln))) rfl ?_
            refine mz_do (R := mz_r45) (as := [.ref 60, .int 3]) (rest := []) (r1 := some (.int 1)) (m1 := (mz_i xs Ln)) rfl ⟨?_, rfl⟩ ?_
            · refine mz_go 7 (c' := (14, [some (.ref 60), some (.int 3)], [.int 1], (mz_i xs Ln))) rfl ?_
              exact mz_ret rfl
            refine mz_go 8 (c' := (22, [some (.ref 60), some (.int 3)], [.int 1], (mz_i xs Ln))) rfl ?_
            exact mz_ret rfl
          refine mz_go 3 (c' := (30, [some (.ref 0), some (.int 3), some (.int b), some (.int c)], [.int 2, .ref 0], (mz_i xs Ln))) rfl ?_
          refine mz_do (R := mz_r109) (as := [.ref 0, .int 2]) (rest := []) (r1 := some (.int (-1000002))) (m1 := mz_up (mz_i xs Ln) 64 2 1) rfl ⟨?_, rfl⟩ ?_
          · refine mz_go 3 (c' := (4, [some (.ref 0), some (.int 2)], [.int 6, .int 1, .int 2], (mz_i xs Ln))) rfl ?_
            refine mz_do (R := mz_r121) (as := [.int 2, .int 1, .int 6]) (rest := []) (r1 := some (.int 1)) (m1 := (mz_i xs Ln)) rfl ⟨?_, rfl⟩ ?_
            · refine mz_go 8 (c' := (15, [some (.int 2), some (.int 1), some (.int 6)], [.int 1], (mz_i xs Ln))) rfl ?_
              exact mz_ret rfl
            refine mz_go 12 (c' := (25, [some (.ref 0), some (.int 2)], [.int (-1000002)], mz_up (mz_i xs Ln) 64 2 1)) rfl ?_
            exact mz_ret rfl
          exact mz_ret rfl
        · refine mz_go 1 (c' := (1, [some (.ref 65), some (.int 3), some (.int b), some (.int c), none], [.int 3], mz_up (mz_i xs Ln) 64 2 1)) rfl ?_
          refine mz_do (R := mz_r219) (as := [.int 3]) (rest := []) (r1 := some (.int 1)) (m1 := mz_up (mz_i xs Ln) 64 2 1) rfl ⟨?_, rfl⟩ ?_
          · refine mz_go 3 (c' := (3, [some (.int 3)], [.int 3, .int 0, .int 3], mz_up (mz_i xs Ln) 64 2 1)) rfl ?_
            refine mz_do (R := mz_r128) (as := [.int 3, .int 0, .int 3]) (rest := []) (r1 := some (.int 1)) (m1 := mz_up (mz_i xs Ln) 64 2 1) rfl ⟨?_, rfl⟩ ?_
            · refine mz_go 8 (c' := (15, [some (.int 3), some (.int 0), some (.int 3)], [.int 1], mz_up (mz_i xs Ln) 64 2 1)) rfl ?_
              exact mz_ret rfl
            exact mz_ret rfl
          refine mz_go 8 (c' := (24, [some (.ref 65), some (.int 3), some (.int b), some (.int c), none], [.int 2, .ref 65], mz_up (mz_i xs Ln) 64 2 1)) rfl ?_
          refine mz_do (R := mz_r127) (as := [.ref 65, .int 2]) (rest := []) (r1 := some (.int (-1000002))) (m1 := mz_up (mz_up (mz_i xs Ln) 64 2 1) 68 2 1) rfl ⟨?_, rfl⟩ ?_
          · refine mz_go 11 (c' := (14, [some (.ref 65), some (.int 2)], [.int (-1000002)], mz_up (mz_up (mz_i xs Ln) 64 2 1) 68 2 1)) rfl ?_
            exact mz_ret rfl
          exact mz_ret rfl
