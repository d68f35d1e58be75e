set_option maxHeartbeats 4000000 in
set_option maxRecDepth 100000 in
theorem p1_put (xs : Nat → Int32) (Ln : Nat) (a : Int32) (b : Int32) (c : Int32) : ∃ v m1 m2, mz_Me 100 mz_r100 [.ref 0, .int a, .int b, .int c] (mz_i xs Ln) (some (.int v)) m1 ∧ mz_Me 100 mz_r221 [.ref 65, .int a, .int b, .int c] m1 (some (.int v)) m2 := by
  by_cases h1 : a < 0
  · refine ⟨(-1000001), mz_up (mz_i xs Ln) 64 1 1, mz_up (mz_up (mz_i xs Ln) 64 1 1) 68 1 1, ⟨?_, rfl⟩, ⟨?_, rfl⟩⟩
    · refine mz_go 3 (c' := (5, [some (.ref 0), some (.int a), some (.int b), some (.int c)], [.int a, .ref 60], (mz_i xs Ln))) rfl ?_
      refine mz_do (R := mz_r45) (as := [.ref 60, .int a]) (rest := []) (r1 := some (.int 0)) (m1 := (mz_i xs Ln)) rfl ⟨?_, rfl⟩ ?_
      · refine mz_go 2 (c' := (if a < 0 then 13 else 4, [some (.ref 60), some (.int a)], [], (mz_i xs Ln))) rfl ?_
        refine mz_ifT h1 ?_
        refine mz_go 1 (c' := (14, [some (.ref 60), some (.int a)], [.int 0], (mz_i xs Ln))) rfl ?_
        exact mz_ret rfl
      refine mz_go 3 (c' := (13, [some (.ref 0), some (.int a), some (.int b), some (.int c)], [.int 1, .ref 0], (mz_i xs Ln))) rfl ?_
      refine mz_do (R := mz_r109) (as := [.ref 0, .int 1]) (rest := []) (r1 := some (.int (-1000001))) (m1 := mz_up (mz_i xs Ln) 64 1 1) rfl ⟨?_, rfl⟩ ?_
      · refine mz_go 3 (c' := (4, [some (.ref 0), some (.int 1)], [.int 6, .int 1, .int 1], (mz_i xs Ln))) rfl ?_
        refine mz_do (R := mz_r121) (as := [.int 1, .int 1, .int 6]) (rest := []) (r1 := some (.int 1)) (m1 := (mz_i xs Ln)) rfl ⟨?_, rfl⟩ ?_
        · refine mz_go 8 (c' := (15, [some (.int 1), some (.int 1), some (.int 6)], [.int 1], (mz_i xs Ln))) rfl ?_
          exact mz_ret rfl
        refine mz_go 12 (c' := (25, [some (.ref 0), some (.int 1)], [.int (-1000001)], mz_up (mz_i xs Ln) 64 1 1)) rfl ?_
        exact mz_ret rfl
      exact mz_ret rfl
    · refine mz_go 1 (c' := (1, [some (.ref 65), some (.int a), some (.int b), some (.int c), none], [.int a], mz_up (mz_i xs Ln) 64 1 1)) rfl ?_
      refine mz_do (R := mz_r219) (as := [.int a]) (rest := []) (r1 := some (.int 0)) (m1 := mz_up (mz_i xs Ln) 64 1 1) rfl ⟨?_, rfl⟩ ?_
      · refine mz_go 3 (c' := (3, [some (.int a)], [.int 3, .int 0, .int a], mz_up (mz_i xs Ln) 64 1 1)) rfl ?_
        refine mz_do (R := mz_r128) (as := [.int a, .int 0, .int 3]) (rest := []) (r1 := some (.int 0)) (m1 := mz_up (mz_i xs Ln) 64 1 1) rfl ⟨?_, rfl⟩ ?_
        · refine mz_go 3 (c' := (if a < 0 then 14 else 5, [some (.int a), some (.int 0), some (.int 3)], [], mz_up (mz_i xs Ln) 64 1 1)) rfl ?_
          refine mz_ifT h1 ?_
          refine mz_go 1 (c' := (15, [some (.int a), some (.int 0), some (.int 3)], [.int 0], mz_up (mz_i xs Ln) 64 1 1)) rfl ?_
          exact mz_ret rfl
        exact mz_ret rfl
      refine mz_go 3 (c' := (9, [some (.ref 65), some (.int a), some (.int b), some (.int c), none], [.int 1, .ref 65], mz_up (mz_i xs Ln) 64 1 1)) rfl ?_
      refine mz_do (R := mz_r127) (as := [.ref 65, .int 1]) (rest := []) (r1 := some (.int (-1000001))) (m1 := mz_up (mz_up (mz_i xs Ln) 64 1 1) 68 1 1) rfl ⟨?_, rfl⟩ ?_
      · refine mz_go 11 (c' := (14, [some (.ref 65), some (.int 1)], [.int (-1000001)], mz_up (mz_up (mz_i xs Ln) 64 1 1) 68 1 1)) rfl ?_
        exact mz_ret rfl
      exact mz_ret rfl
  · by_cases h2 : 4 ≤ a
    · refine ⟨(-1000001), mz_up (mz_i xs Ln) 64 1 1, mz_up (mz_up (mz_i xs Ln) 64 1 1) 68 1 1, ⟨?_, rfl⟩, ⟨?_, rfl⟩⟩
      · refine mz_go 3 (c' := (5, [some (.ref 0), some (.int a), some (.int b), some (.int c)], [.int a, .ref 60], (mz_i xs Ln))) rfl ?_
        refine mz_do (R := mz_r45) (as := [.ref 60, .int a]) (rest := []) (r1 := some (.int 0)) (m1 := (mz_i xs Ln)) rfl ⟨?_, rfl⟩ ?_
        · refine mz_go 2 (c' := (if a < 0 then 13 else 4, [some (.ref 60), some (.int a)], [], (mz_i xs Ln))) rfl ?_
          refine mz_ifF h1 ?_
          refine mz_go 3 (c' := (if 4 ≤ a then 13 else 9, [some (.ref 60), some (.int a)], [], (mz_i xs Ln))) rfl ?_
          refine mz_ifT h2 ?_
          refine mz_go 1 (c' := (14, [some (.ref 60), some (.int a)], [.int 0], (mz_i xs Ln))) rfl ?_
          exact mz_ret rfl
        refine mz_go 3 (c' := (13, [some (.ref 0), some (.int a), some (.int b), some (.int c)], [.int 1, .ref 0], (mz_i xs Ln))) rfl ?_
        refine mz_do (R := mz_r109) (as := [.ref 0, .int 1]) (rest := []) (r1 := some (.int (-1000001))) (m1 := mz_up (mz_i xs Ln) 64 1 1) rfl ⟨?_, rfl⟩ ?_
        · refine mz_go 3 (c' := (4, [some (.ref 0), some (.int 1)], [.int 6, .int 1, .int 1], (mz_i xs Ln))) rfl ?_
          refine mz_do (R := mz_r121) (as := [.int 1, .int 1, .int 6]) (rest := []) (r1 := some (.int 1)) (m1 := (mz_i xs Ln)) rfl ⟨?_, rfl⟩ ?_
          · refine mz_go 8 (c' := (15, [some (.int 1), some (.int 1), some (.int 6)], [.int 1], (mz_i xs Ln))) rfl ?_
            exact mz_ret rfl
          refine mz_go 12 (c' := (25, [some (.ref 0), some (.int 1)], [.int (-1000001)], mz_up (mz_i xs Ln) 64 1 1)) rfl ?_
          exact mz_ret rfl
        exact mz_ret rfl
      · refine mz_go 1 (c' := (1, [some (.ref 65), some (.int a), some (.int b), some (.int c), none], [.int a], mz_up (mz_i xs Ln) 64 1 1)) rfl ?_
        refine mz_do (R := mz_r219) (as := [.int a]) (rest := []) (r1 := some (.int 0)) (m1 := mz_up (mz_i xs Ln) 64 1 1) rfl ⟨?_, rfl⟩ ?_
        · refine mz_go 3 (c' := (3, [some (.int a)], [.int 3, .int 0, .int a], mz_up (mz_i xs Ln) 64 1 1)) rfl ?_
          refine mz_do (R := mz_r128) (as := [.int a, .int 0, .int 3]) (rest := []) (r1 := some (.int 0)) (m1 := mz_up (mz_i xs Ln) 64 1 1) rfl ⟨?_, rfl⟩ ?_
          · refine mz_go 3 (c' := (if a < 0 then 14 else 5, [some (.int a), some (.int 0), some (.int 3)], [], mz_up (mz_i xs Ln) 64 1 1)) rfl ?_
            refine mz_ifF h1 ?_
            refine mz_go 3 (c' := (if 3 < a then 14 else 10, [some (.int a), some (.int 0), some (.int 3)], [], mz_up (mz_i xs Ln) 64 1 1)) rfl ?_
            refine mz_ifT (by have hl : (4 : Int) ≤ (a).toInt := Int32.le_iff_toInt_le.mp h2; exact Int32.lt_iff_toInt_lt.mpr (show (3 : Int) < (a).toInt by omega)) ?_
            refine mz_go 1 (c' := (15, [some (.int a), some (.int 0), some (.int 3)], [.int 0], mz_up (mz_i xs Ln) 64 1 1)) rfl ?_
            exact mz_ret rfl
          exact mz_ret rfl
        refine mz_go 3 (c' := (9, [some (.ref 65), some (.int a), some (.int b), some (.int c), none], [.int 1, .ref 65], mz_up (mz_i xs Ln) 64 1 1)) rfl ?_
        refine mz_do (R := mz_r127) (as := [.ref 65, .int 1]) (rest := []) (r1 := some (.int (-1000001))) (m1 := mz_up (mz_up (mz_i xs Ln) 64 1 1) 68 1 1) rfl ⟨?_, rfl⟩ ?_
        · refine mz_go 11 (c' := (14, [some (.ref 65), some (.int 1)], [.int (-1000001)], mz_up (mz_up (mz_i xs Ln) 64 1 1) 68 1 1)) rfl ?_
          exact mz_ret rfl
        exact mz_ret rfl
    · have hl3 : (0 : Int) ≤ (a).toInt := Int32.le_iff_toInt_le.mp (Int32.not_lt.mp h1)
      have hu3 : (a).toInt < (4 : Int) := Int32.lt_iff_toInt_lt.mp (Int32.not_le.mp h2)
      obtain rfl | rfl | rfl | rfl : a = 0 ∨ a = 1 ∨ a = 2 ∨ a = 3 := by
          rcases (show a.toInt = 0 ∨ a.toInt = 1 ∨ a.toInt = 2 ∨ a.toInt = 3 by omega) with h | h | h | h
          · exact (Or.inl (Int32.toInt_inj.mp h))
          · exact (Or.inr (Or.inl (Int32.toInt_inj.mp h)))
          · exact (Or.inr (Or.inr (Or.inl (Int32.toInt_inj.mp h))))
          · exact (Or.inr (Or.inr (Or.inr (Int32.toInt_inj.mp h))))
      · refine ⟨(-1000002), mz_up (mz_i xs Ln) 64 2 1, mz_up (mz_up (mz_i xs Ln) 64 2 1) 68 2 1, ⟨?_, rfl⟩, ⟨?_, rfl⟩⟩
        · refine mz_go 3 (c' := (5, [some (.ref 0), some (.int 0), some (.int b), some (.int c)], [.int 0, .ref 60], (mz_i xs Ln))) rfl ?_
          refine mz_do (R := mz_r45) (as := [.ref 60, .int 0]) (rest := []) (r1 := some (.int 1)) (m1 := (mz_i xs Ln)) rfl ⟨?_, rfl⟩ ?_
          · refine mz_go 7 (c' := (14, [some (.ref 60), some (.int 0)], [.int 1], (mz_i xs Ln))) rfl ?_
            exact mz_ret rfl
          refine mz_go 4 (c' := (22, [some (.ref 0), some (.int 0), some (.int b), some (.int c)], [.int 0, .ref 60], (mz_i xs Ln))) rfl ?_
          refine mz_do (R := mz_r46) (as := [.ref 60, .int 0]) (rest := []) (r1 := some (.int 1)) (m1 := (mz_i xs Ln)) rfl ⟨?_, rfl⟩ ?_
          · refine mz_go 2 (c' := (2, [some (.ref 60), some (.int 0)], [.int 0, .ref 60], (mz_i xs Ln))) rfl ?_
            refine mz_do (R := mz_r45) (as := [.ref 60, .int 0]) (rest := []) (r1 := some (.int 1)) (m1 := (mz_i xs Ln)) rfl ⟨?_, rfl⟩ ?_
            · refine mz_go 7 (c' := (14, [some (.ref 60), some (.int 0)], [.int 1], (mz_i xs Ln))) rfl ?_
              exact mz_ret rfl
            refine mz_go 8 (c' := (22, [some (.ref 60), some (.int 0)], [.int 1], (mz_i xs Ln))) rfl ?_
            exact mz_ret rfl
          refine mz_go 3 (c' := (30, [some (.ref 0), some (.int 0), some (.int b), some (.int c)], [.int 2, .ref 0], (mz_i xs Ln))) rfl ?_
          refine mz_do (R := mz_r109) (as := [.ref 0, .int 2]) (rest := []) (r1 := some (.int (-1000002))) (m1 := mz_up (mz_i xs Ln) 64 2 1) rfl ⟨?_, rfl⟩ ?_
          · refine mz_go 3 (c' := (4, [some (.ref 0), some (.int 2)], [.int 6, .int 1, .int 2], (mz_i xs Ln))) rfl ?_
            refine mz_do (R := mz_r121) (as := [.int 2, .int 1, .int 6]) (rest := []) (r1 := some (.int 1)) (m1 := (mz_i xs Ln)) rfl ⟨?_, rfl⟩ ?_
            · refine mz_go 8 (c' := (15, [some (.int 2), some (.int 1), some (.int 6)], [.int 1], (mz_i xs Ln))) rfl ?_
              exact mz_ret rfl
            refine mz_go 12 (c' := (25, [some (.ref 0), some (.int 2)], [.int (-1000002)], mz_up (mz_i xs Ln) 64 2 1)) rfl ?_
            exact mz_ret rfl
          exact mz_ret rfl
        · refine mz_go 1 (c' := (1, [some (.ref 65), some (.int 0), some (.int b), some (.int c), none], [.int 0], mz_up (mz_i xs Ln) 64 2 1)) rfl ?_
          refine mz_do (R := mz_r219) (as := [.int 0]) (rest := []) (r1 := some (.int 1)) (m1 := mz_up (mz_i xs Ln) 64 2 1) rfl ⟨?_, rfl⟩ ?_
          · refine mz_go 3 (c' := (3, [some (.int 0)], [.int 3, .int 0, .int 0], mz_up (mz_i xs Ln) 64 2 1)) rfl ?_
            refine mz_do (R := mz_r128) (as := [.int 0, .int 0, .int 3]) (rest := []) (r1 := some (.int 1)) (m1 := mz_up (mz_i xs Ln) 64 2 1) rfl ⟨?_, rfl⟩ ?_
            · refine mz_go 8 (c' := (15, [some (.int 0), some (.int 0), some (.int 3)], [.int 1], mz_up (mz_i xs Ln) 64 2 1)) rfl ?_
              exact mz_ret rfl
            exact mz_ret rfl
          refine mz_go 8 (c' := (24, [some (.ref 65), some (.int 0), some (.int b), some (.int c), none], [.int 2, .ref 65], mz_up (mz_i xs Ln) 64 2 1)) rfl ?_
          refine mz_do (R := mz_r127) (as := [.ref 65, .int 2]) (rest := []) (r1 := some (.int (-1000002))) (m1 := mz_up (mz_up (mz_i xs Ln) 64 2 1) 68 2 1) rfl ⟨?_, rfl⟩ ?_
          · refine mz_go 11 (c' := (14, [some (.ref 65), some (.int 2)], [.int (-1000002)], mz_up (mz_up (mz_i xs Ln) 64 2 1) 68 2 1)) rfl ?_
            exact mz_ret rfl
          exact mz_ret rfl
      · refine ⟨(-1000002), mz_up (mz_i xs Ln) 64 2 1, mz_up (mz_up (mz_i xs Ln) 64 2 1) 68 2 1, ⟨?_, rfl⟩, ⟨?_, rfl⟩⟩
        · refine mz_go 3 (c' := (5, [some (.ref 0), some (.int 1), some (.int b), some (.int c)], [.int 1, .ref 60], (mz_i xs Ln))) rfl ?_
          refine mz_do (R := mz_r45) (as := [.ref 60, .int 1]) (rest := []) (r1 := some (.int 1)) (m1 := (mz_i xs Ln)) rfl ⟨?_, rfl⟩ ?_
          · refine mz_go 7 (c' := (14, [some (.ref 60), some (.int 1)], [.int 1], (mz_i xs Ln))) rfl ?_
            exact mz_ret rfl
          refine mz_go 4 (c' := (22, [some (.ref 0), some (.int 1), some (.int b), some (.int c)], [.int 1, .ref 60], (mz_i xs Ln))) rfl ?_
          refine mz_do (R := mz_r46) (as := [.ref 60, .int 1]) (rest := []) (r1 := some (.int 1)) (m1 := (mz_i xs Ln)) rfl ⟨?_, rfl⟩ ?_
          · refine mz_go 2 (c' := (2, [some (.ref 60), some (.int 1)], [.int 1, .ref 60], (mz_i xs Ln))) rfl ?_
            refine mz_do (R := mz_r45) (as := [.ref 60, .int 1]) (rest := []) (r1 := some (.int 1)) (m1 := (mz_i xs Ln)) rfl ⟨?_, rfl⟩ ?_
            · refine mz_go 7 (c' := (14, [some (.ref 60), some (.int 1)], [.int 1], (mz_i xs Ln))) rfl ?_
              exact mz_ret rfl
            refine mz_go 8 (c' := (22, [some (.ref 60), some (.int 1)], [.int 1], (mz_i xs Ln))) rfl ?_
            exact mz_ret rfl
          refine mz_go 3 (c' := (30, [some (.ref 0), some (.int 1), some (.int b), some (.int c)], [.int 2, .ref 0], (mz_i xs Ln))) rfl ?_
          refine mz_do (R := mz_r109) (as := [.ref 0, .int 2]) (rest := []) (r1 := some (.int (-1000002))) (m1 := mz_up (mz_i xs Ln) 64 2 1) rfl ⟨?_, rfl⟩ ?_
          · refine mz_go 3 (c' := (4, [some (.ref 0), some (.int 2)], [.int 6, .int 1, .int 2], (mz_i xs Ln))) rfl ?_
            refine mz_do (R := mz_r121) (as := [.int 2, .int 1, .int 6]) (rest := []) (r1 := some (.int 1)) (m1 := (mz_i xs Ln)) rfl ⟨?_, rfl⟩ ?_
            · refine mz_go 8 (c' := (15, [some (.int 2), some (.int 1), some (.int 6)], [.int 1], (mz_i xs Ln))) rfl ?_
              exact mz_ret rfl
            refine mz_go 12 (c' := (25, [some (.ref 0), some (.int 2)], [.int (-1000002)], mz_up (mz_i xs Ln) 64 2 1)) rfl ?_
            exact mz_ret rfl
          exact mz_ret rfl
        · refine mz_go 1 (c' := (1, [some (.ref 65), some (.int 1), some (.int b), some (.int c), none], [.int 1], mz_up (mz_i xs Ln) 64 2 1)) rfl ?_
          refine mz_do (R := mz_r219) (as := [.int 1]) (rest := []) (r1 := some (.int 1)) (m1 := mz_up (mz_i xs Ln) 64 2 1) rfl ⟨?_, rfl⟩ ?_
          · refine mz_go 3 (c' := (3, [some (.int 1)], [.int 3, .int 0, .int 1], mz_up (mz_i xs Ln) 64 2 1)) rfl ?_
            refine mz_do (R := mz_r128) (as := [.int 1, .int 0, .int 3]) (rest := []) (r1 := some (.int 1)) (m1 := mz_up (mz_i xs Ln) 64 2 1) rfl ⟨?_, rfl⟩ ?_
            · refine mz_go 8 (c' := (15, [some (.int 1), some (.int 0), some (.int 3)], [.int 1], mz_up (mz_i xs Ln) 64 2 1)) rfl ?_
              exact mz_ret rfl
            exact mz_ret rfl
          refine mz_go 8 (c' := (24, [some (.ref 65), some (.int 1), some (.int b), some (.int c), none], [.int 2, .ref 65], mz_up (mz_i xs Ln) 64 2 1)) rfl ?_
          refine mz_do (R := mz_r127) (as := [.ref 65, .int 2]) (rest := []) (r1 := some (.int (-1000002))) (m1 := mz_up (mz_up (mz_i xs Ln) 64 2 1) 68 2 1) rfl ⟨?_, rfl⟩ ?_
          · refine mz_go 11 (c' := (14, [some (.ref 65), some (.int 2)], [.int (-1000002)], mz_up (mz_up (mz_i xs Ln) 64 2 1) 68 2 1)) rfl ?_
            exact mz_ret rfl
          exact mz_ret rfl
      · refine ⟨(-1000002), mz_up (mz_i xs Ln) 64 2 1, mz_up (mz_up (mz_i xs Ln) 64 2 1) 68 2 1, ⟨?_, rfl⟩, ⟨?_, rfl⟩⟩
        · refine mz_go 3 (c' := (5, [some (.ref 0), some (.int 2), some (.int b), some (.int c)], [.int 2, .ref 60], (mz_i xs Ln))) rfl ?_
          refine mz_do (R := mz_r45) (as := [.ref 60, .int 2]) (rest := []) (r1 := some (.int 1)) (m1 := (mz_i xs Ln)) rfl ⟨?_, rfl⟩ ?_
          · refine mz_go 7 (c' := (14, [some (.ref 60), some (.int 2)], [.int 1], (mz_i xs Ln))) rfl ?_
            exact mz_ret rfl
          refine mz_go 4 (c' := (22, [some (.ref 0), some (.int 2), some (.int b), some (.int c)], [.int 2, .ref 60], (mz_i xs Ln))) rfl ?_
          refine mz_do (R := mz_r46) (as := [.ref 60, .int 2]) (rest := []) (r1 := some (.int 1)) (m1 := (mz_i xs Ln)) rfl ⟨?_, rfl⟩ ?_
          · refine mz_go 2 (c' := (2, [some (.ref 60), some (.int 2)], [.int 2, .ref 60], (mz_i xs Ln))) rfl ?_
            refine mz_do (R := mz_r45) (as := [.ref 60, .int 2]) (rest := []) (r1 := some (.int 1)) (m1 := (mz_i xs Ln)) rfl ⟨?_, rfl⟩ ?_
            · refine mz_go 7 (c' := (14, [some (.ref 60), some (.int 2)], [.int 1], (mz_i xs Ln))) rfl ?_
              exact mz_ret rfl
            refine mz_go 8 (c' := (22, [some (.ref 60), some (.int 2)], [.int 1], (mz_i xs Ln))) rfl ?_
            exact mz_ret rfl
          refine mz_go 3 (c' := (30, [some (.ref 0), some (.int 2), some (.int b), some (.int c)], [.int 2, .ref 0], (mz_i xs Ln))) rfl ?_
          refine mz_do (R := mz_r109) (as := [.ref 0, .int 2]) (rest := []) (r1 := some (.int (-1000002))) (m1 := mz_up (mz_i xs Ln) 64 2 1) rfl ⟨?_, rfl⟩ ?_
          · refine mz_go 3 (c' := (4, [some (.ref 0), some (.int 2)], [.int 6, .int 1, .int 2], (mz_i xs Ln))) rfl ?_
            refine mz_do (R := mz_r121) (as := [.int 2, .int 1, .int 6]) (rest := []) (r1 := some (.int 1)) (m1 := (mz_i xs Ln)) rfl ⟨?_, rfl⟩ ?_
            · refine mz_go 8 (c' := (15, [some (.int 2), some (.int 1), some (.int 6)], [.int 1], (mz_i xs Ln))) rfl ?_
              exact mz_ret rfl
            refine mz_go 12 (c' := (25, [some (.ref 0), some (.int 2)], [.int (-1000002)], mz_up (mz_i xs Ln) 64 2 1)) rfl ?_
            exact mz_ret rfl
          exact mz_ret rfl
        · refine mz_go 1 (c' := (1, [some (.ref 65), some (.int 2), some (.int b), some (.int c), none], [.int 2], mz_up (mz_i xs Ln) 64 2 1)) rfl ?_
          refine mz_do (R := mz_r219) (as := [.int 2]) (rest := []) (r1 := some (.int 1)) (m1 := mz_up (mz_i xs Ln) 64 2 1) rfl ⟨?_, rfl⟩ ?_
          · refine mz_go 3 (c' := (3, [some (.int 2)], [.int 3, .int 0, .int 2], mz_up (mz_i xs Ln) 64 2 1)) rfl ?_
            refine mz_do (R := mz_r128) (as := [.int 2, .int 0, .int 3]) (rest := []) (r1 := some (.int 1)) (m1 := mz_up (mz_i xs Ln) 64 2 1) rfl ⟨?_, rfl⟩ ?_
            · refine mz_go 8 (c' := (15, [some (.int 2), some (.int 0), some (.int 3)], [.int 1], mz_up (mz_i xs Ln) 64 2 1)) rfl ?_
              exact mz_ret rfl
            exact mz_ret rfl
          refine mz_go 8 (c' := (24, [some (.ref 65), some (.int 2), some (.int b), some (.int c), none], [.int 2, .ref 65], mz_up (mz_i xs Ln) 64 2 1)) rfl ?_
          refine mz_do (R := mz_r127) (as := [.ref 65, .int 2]) (rest := []) (r1 := some (.int (-1000002))) (m1 := mz_up (mz_up (mz_i xs Ln) 64 2 1) 68 2 1) rfl ⟨?_, rfl⟩ ?_
          · refine mz_go 11 (c' := (14, [some (.ref 65), some (.int 2)], [.int (-1000002)], mz_up (mz_up (mz_i xs Ln) 64 2 1) 68 2 1)) rfl ?_
            exact mz_ret rfl
          exact mz_ret rfl
      · refine ⟨(-1000002), mz_up (mz_i xs Ln) 64 2 1, mz_up (mz_up (mz_i xs Ln) 64 2 1) 68 2 1, ⟨?_, rfl⟩, ⟨?_, rfl⟩⟩
        · refine mz_go 3 (c' := (5, [some (.ref 0), some (.int 3), some (.int b), some (.int c)], [.int 3, .ref 60], (mz_i xs Ln))) rfl ?_
          refine mz_do (R := mz_r45) (as := [.ref 60, .int 3]) (rest := []) (r1 := some (.int 1)) (m1 := (mz_i xs Ln)) rfl ⟨?_, rfl⟩ ?_
          · refine mz_go 7 (c' := (14, [some (.ref 60), some (.int 3)], [.int 1], (mz_i xs Ln))) rfl ?_
            exact mz_ret rfl
          refine mz_go 4 (c' := (22, [some (.ref 0), some (.int 3), some (.int b), some (.int c)], [.int 3, .ref 60], (mz_i xs Ln))) rfl ?_
          refine mz_do (R := mz_r46) (as := [.ref 60, .int 3]) (rest := []) (r1 := some (.int 1)) (m1 := (mz_i xs Ln)) rfl ⟨?_, rfl⟩ ?_
          · refine mz_go 2 (c' := (2, [some (.ref 60), some (.int 3)], [.int 3, .ref 60], (mz_i xs Ln))) rfl ?_
            refine mz_do (R := mz_r45) (as := [.ref 60, .int 3]) (rest := []) (r1 := some (.int 1)) (m1 := (mz_i xs Ln)) rfl ⟨?_, rfl⟩ ?_
            · refine mz_go 7 (c' := (14, [some (.ref 60), some (.int 3)], [.int 1], (mz_i xs Ln))) rfl ?_
              exact mz_ret rfl
            refine mz_go 8 (c' := (22, [some (.ref 60), some (.int 3)], [.int 1], (mz_i xs Ln))) rfl ?_
            exact mz_ret rfl
          refine mz_go 3 (c' := (30, [some (.ref 0), some (.int 3), some (.int b), some (.int c)], [.int 2, .ref 0], (mz_i xs Ln))) rfl ?_
          refine mz_do (R := mz_r109) (as := [.ref 0, .int 2]) (rest := []) (r1 := some (.int (-1000002))) (m1 := mz_up (mz_i xs Ln) 64 2 1) rfl ⟨?_, rfl⟩ ?_
          · refine mz_go 3 (c' := (4, [some (.ref 0), some (.int 2)], [.int 6, .int 1, .int 2], (mz_i xs Ln))) rfl ?_
            refine mz_do (R := mz_r121) (as := [.int 2, .int 1, .int 6]) (rest := []) (r1 := some (.int 1)) (m1 := (mz_i xs Ln)) rfl ⟨?_, rfl⟩ ?_
            · refine mz_go 8 (c' := (15, [some (.int 2), some (.int 1), some (.int 6)], [.int 1], (mz_i xs Ln))) rfl ?_
              exact mz_ret rfl
            refine mz_go 12 (c' := (25, [some (.ref 0), some (.int 2)], [.int (-1000002)], mz_up (mz_i xs Ln) 64 2 1)) rfl ?_
            exact mz_ret rfl
          exact mz_ret rfl
        · refine mz_go 1 (c' := (1, [some (.ref 65), some (.int 3), some (.int b), some (.int c), none], [.int 3], mz_up (mz_i xs Ln) 64 2 1)) rfl ?_
          refine mz_do (R := mz_r219) (as := [.int 3]) (rest := []) (r1 := some (.int 1)) (m1 := mz_up (mz_i xs Ln) 64 2 1) rfl ⟨?_, rfl⟩ ?_
          · refine mz_go 3 (c' := (3, [some (.int 3)], [.int 3, .int 0, .int 3], mz_up (mz_i xs Ln) 64 2 1)) rfl ?_
            refine mz_do (R := mz_r128) (as := [.int 3, .int 0, .int 3]) (rest := []) (r1 := some (.int 1)) (m1 := mz_up (mz_i xs Ln) 64 2 1) rfl ⟨?_, rfl⟩ ?_
            · refine mz_go 8 (c' := (15, [some (.int 3), some (.int 0), some (.int 3)], [.int 1], mz_up (mz_i xs Ln) 64 2 1)) rfl ?_
              exact mz_ret rfl
            exact mz_ret rfl
          refine mz_go 8 (c' := (24, [some (.ref 65), some (.int 3), some (.int b), some (.int c), none], [.int 2, .ref 65], mz_up (mz_i xs Ln) 64 2 1)) rfl ?_
          refine mz_do (R := mz_r127) (as := [.ref 65, .int 2]) (rest := []) (r1 := some (.int (-1000002))) (m1 := mz_up (mz_up (mz_i xs Ln) 64 2 1) 68 2 1) rfl ⟨?_, rfl⟩ ?_
          · refine mz_go 11 (c' := (14, [some (.ref 65), some (.int 2)], [.int (-1000002)], mz_up (mz_up (mz_i xs Ln) 64 2 1) 68 2 1)) rfl ?_
            exact mz_ret rfl
          exact mz_ret rfl
set_option maxHeartbeats 4000000 in
set_option maxRecDepth 100000 in
theorem p1_move (xs : Nat → Int32) (Ln : Nat) (a : Int32) (b : Int32) (c : Int32) (d : Int32) (e : Int32) : ∃ v m1 m2, mz_Me 100 mz_r101 [.ref 0, .int a, .int b, .int c, .int d, .int e] (mz_i xs Ln) (some (.int v)) m1 ∧ mz_Me 100 mz_r222 [.ref 65, .int a, .int b, .int c, .int d, .int e] m1 (some (.int v)) m2 := by
  by_cases h1 : a < 0
  · refine ⟨(-1000001), mz_up (mz_i xs Ln) 64 1 1, mz_up (mz_up (mz_i xs Ln) 64 1 1) 68 1 1, ⟨?_, rfl⟩, ⟨?_, rfl⟩⟩
    · refine mz_go 3 (c' := (5, [some (.ref 0), some (.int a), some (.int b), some (.int c), some (.int d), some (.int e)], [.int a, .ref 60], (mz_i xs Ln))) rfl ?_
      refine mz_do (R := mz_r45) (as := [.ref 60, .int a]) (rest := []) (r1 := some (.int 0)) (m1 := (mz_i xs Ln)) rfl ⟨?_, rfl⟩ ?_
      · refine mz_go 2 (c' := (if a < 0 then 13 else 4, [some (.ref 60), some (.int a)], [], (mz_i xs Ln))) rfl ?_
        refine mz_ifT h1 ?_
        refine mz_go 1 (c' := (14, [some (.ref 60), some (.int a)], [.int 0], (mz_i xs Ln))) rfl ?_
        exact mz_ret rfl
      refine mz_go 3 (c' := (24, [some (.ref 0), some (.int a), some (.int b), some (.int c), some (.int d), some (.int e)], [.int 1, .ref 0], (mz_i xs Ln))) rfl ?_
      refine mz_do (R := mz_r109) (as := [.ref 0, .int 1]) (rest := []) (r1 := some (.int (-1000001))) (m1 := mz_up (mz_i xs Ln) 64 1 1) rfl ⟨?_, rfl⟩ ?_
      · refine mz_go 3 (c' := (4, [some (.ref 0), some (.int 1)], [.int 6, .int 1, .int 1], (mz_i xs Ln))) rfl ?_
        refine mz_do (R := mz_r121) (as := [.int 1, .int 1, .int 6]) (rest := []) (r1 := some (.int 1)) (m1 := (mz_i xs Ln)) rfl ⟨?_, rfl⟩ ?_
        · refine mz_go 8 (c' := (15, [some (.int 1), some (.int 1), some (.int 6)], [.int 1], (mz_i xs Ln))) rfl ?_
          exact mz_ret rfl
        refine mz_go 12 (c' := (25, [some (.ref 0), some (.int 1)], [.int (-1000001)], mz_up (mz_i xs Ln) 64 1 1)) rfl ?_
        exact mz_ret rfl
      exact mz_ret rfl
    · refine mz_go 1 (c' := (1, [some (.ref 65), some (.int a), some (.int b), some (.int c), some (.int d), some (.int e), none], [.int a], mz_up (mz_i xs Ln) 64 1 1)) rfl ?_
      refine mz_do (R := mz_r219) (as := [.int a]) (rest := []) (r1 := some (.int 0)) (m1 := mz_up (mz_i xs Ln) 64 1 1) rfl ⟨?_, rfl⟩ ?_
      · refine mz_go 3 (c' := (3, [some (.int a)], [.int 3, .int 0, .int a], mz_up (mz_i xs Ln) 64 1 1)) rfl ?_
        refine mz_do (R := mz_r128) (as := [.int a, .int 0, .int 3]) (rest := []) (r1 := some (.int 0)) (m1 := mz_up (mz_i xs Ln) 64 1 1) rfl ⟨?_, rfl⟩ ?_
        · refine mz_go 3 (c' := (if a < 0 then 14 else 5, [some (.int a), some (.int 0), some (.int 3)], [], mz_up (mz_i xs Ln) 64 1 1)) rfl ?_
          refine mz_ifT h1 ?_
          refine mz_go 1 (c' := (15, [some (.int a), some (.int 0), some (.int 3)], [.int 0], mz_up (mz_i xs Ln) 64 1 1)) rfl ?_
          exact mz_ret rfl
        exact mz_ret rfl
      refine mz_go 3 (c' := (16, [some (.ref 65), some (.int a), some (.int b), some (.int c), some (.int d), some (.int e), none], [.int 1, .ref 65], mz_up (mz_i xs Ln) 64 1 1)) rfl ?_
      refine mz_do (R := mz_r127) (as := [.ref 65, .int 1]) (rest := []) (r1 := some (.int (-1000001))) (m1 := mz_up (mz_up (mz_i xs Ln) 64 1 1) 68 1 1) rfl ⟨?_, rfl⟩ ?_
      · refine mz_go 11 (c' := (14, [some (.ref 65), some (.int 1)], [.int (-1000001)], mz_up (mz_up (mz_i xs Ln) 64 1 1) 68 1 1)) rfl ?_
        exact mz_ret rfl
      exact mz_ret rfl
  · by_cases h2 : 4 ≤ a
    · refine ⟨(-1000001), mz_up (mz_i xs Ln) 64 1 1, mz_up (mz_up (mz_i xs Ln) 64 1 1) 68 1 1, ⟨?_, rfl⟩, ⟨?_, rfl⟩⟩
      · refine mz_go 3 (c' := (5, [some (.ref 0), some (.int a), some (.int b), some (.int c), some (.int d), some (.int e)], [.int a, .ref 60], (mz_i xs Ln))) rfl ?_
        refine mz_do (R := mz_r45) (as := [.ref 60, .int a]) (rest := []) (r1 := some (.int 0)) (m1 := (mz_i xs Ln)) rfl ⟨?_, rfl⟩ ?_
        · refine mz_go 2 (c' := (if a < 0 then 13 else 4, [some (.ref 60), some (.int a)], [], (mz_i xs Ln))) rfl ?_
          refine mz_ifF h1 ?_
          refine mz_go 3 (c' := (if 4 ≤ a then 13 else 9, [some (.ref 60), some (.int a)], [], (mz_i xs Ln))) rfl ?_
          refine mz_ifT h2 ?_
          refine mz_go 1 (c' := (14, [some (.ref 60), some (.int a)], [.int 0], (mz_i xs Ln))) rfl ?_
          exact mz_ret rfl
        refine mz_go 3 (c' := (24, [some (.ref 0), some (.int a), some (.int b), some (.int c), some (.int d), some (.int e)], [.int 1, .ref 0], (mz_i xs Ln))) rfl ?_
        refine mz_do (R := mz_r109) (as := [.ref 0, .int 1]) (rest := []) (r1 := some (.int (-1000001))) (m1 := mz_up (mz_i xs Ln) 64 1 1) rfl ⟨?_, rfl⟩ ?_
        · refine mz_go 3 (c' := (4, [some (.ref 0), some (.int 1)], [.int 6, .int 1, .int 1], (mz_i xs Ln))) rfl ?_
          refine mz_do (R := mz_r121) (as := [.int 1, .int 1, .int 6]) (rest := []) (r1 := some (.int 1)) (m1 := (mz_i xs Ln)) rfl ⟨?_, rfl⟩ ?_
          · refine mz_go 8 (c' := (15, [some (.int 1), some (.int 1), some (.int 6)], [.int 1], (mz_i xs Ln))) rfl ?_
            exact mz_ret rfl
          refine mz_go 12 (c' := (25, [some (.ref 0), some (.int 1)], [.int (-1000001)], mz_up (mz_i xs Ln) 64 1 1)) rfl ?_
          exact mz_ret rfl
        exact mz_ret rfl
      · refine mz_go 1 (c' := (1, [some (.ref 65), some (.int a), some (.int b), some (.int c), some (.int d), some (.int e), none], [.int a], mz_up (mz_i xs Ln) 64 1 1)) rfl ?_
        refine mz_do (R := mz_r219) (as := [.int a]) (rest := []) (r1 := some (.int 0)) (m1 := mz_up (mz_i xs Ln) 64 1 1) rfl ⟨?_, rfl⟩ ?_
        · refine mz_go 3 (c' := (3, [some (.int a)], [.int 3, .int 0, .int a], mz_up (mz_i xs Ln) 64 1 1)) rfl ?_
          refine mz_do (R := mz_r128) (as := [.int a, .int 0, .int 3]) (rest := []) (r1 := some (.int 0)) (m1 := mz_up (mz_i xs Ln) 64 1 1) rfl ⟨?_, rfl⟩ ?_
          · refine mz_go 3 (c' := (if a < 0 then 14 else 5, [some (.int a), some (.int 0), some (.int 3)], [], mz_up (mz_i xs Ln) 64 1 1)) rfl ?_
            refine mz_ifF h1 ?_
            refine mz_go 3 (c' := (if 3 < a then 14 else 10, [some (.int a), some (.int 0), some (.int 3)], [], mz_up (mz_i xs Ln) 64 1 1)) rfl ?_
            refine mz_ifT (by have hl : (4 : Int) ≤ (a).toInt := Int32.le_iff_toInt_le.mp h2; exact Int32.lt_iff_toInt_lt.mpr (show (3 : Int) < (a).toInt by omega)) ?_
            refine mz_go 1 (c' := (15, [some (.int a), some (.int 0), some (.int 3)], [.int 0], mz_up (mz_i xs Ln) 64 1 1)) rfl ?_
            exact mz_ret rfl
          exact mz_ret rfl
        refine mz_go 3 (c' := (16, [some (.ref 65), some (.int a), some (.int b), some (.int c), some (.int d), some (.int e), none], [.int 1, .ref 65], mz_up (mz_i xs Ln) 64 1 1)) rfl ?_
        refine mz_do (R := mz_r127) (as := [.ref 65, .int 1]) (rest := []) (r1 := some (.int (-1000001))) (m1 := mz_up (mz_up (mz_i xs Ln) 64 1 1) 68 1 1) rfl ⟨?_, rfl⟩ ?_
        · refine mz_go 11 (c' := (14, [some (.ref 65), some (.int 1)], [.int (-1000001)], mz_up (mz_up (mz_i xs Ln) 64 1 1) 68 1 1)) rfl ?_
          exact mz_ret rfl
        exact mz_ret rfl
    · by_cases h3 : c < 0
      · refine ⟨(-1000001), mz_up (mz_i xs Ln) 64 1 1, mz_up (mz_up (mz_i xs Ln) 64 1 1) 68 1 1, ⟨?_, rfl⟩, ⟨?_, rfl⟩⟩
        · refine mz_go 3 (c' := (5, [some (.ref 0), some (.int a), some (.int b), some (.int c), some (.int d), some (.int e)], [.int a, .ref 60], (mz_i xs Ln))) rfl ?_
          refine mz_do (R := mz_r45) (as := [.ref 60, .int a]) (rest := []) (r1 := some (.int 1)) (m1 := (mz_i xs Ln)) rfl ⟨?_, rfl⟩ ?_
          · refine mz_go 2 (c' := (if a < 0 then 13 else 4, [some (.ref 60), some (.int a)], [], (mz_i xs Ln))) rfl ?_
            refine mz_ifF h1 ?_
            refine mz_go 3 (c' := (if 4 ≤ a then 13 else 9, [some (.ref 60), some (.int a)], [], (mz_i xs Ln))) rfl ?_
            refine mz_ifF h2 ?_
            refine mz_go 2 (c' := (14, [some (.ref 60), some (.int a)], [.int 1], (mz_i xs Ln))) rfl ?_
            exact mz_ret rfl
          refine mz_go 4 (c' := (16, [some (.ref 0), some (.int a), some (.int b), some (.int c), some (.int d), some (.int e)], [.int c, .ref 60], (mz_i xs Ln))) rfl ?_
          refine mz_do (R := mz_r45) (as := [.ref 60, .int c]) (rest := []) (r1 := some (.int 0)) (m1 := (mz_i xs Ln)) rfl ⟨?_, rfl⟩ ?_
          · refine mz_go 2 (c' := (if c < 0 then 13 else 4, [some (.ref 60), some (.int c)], [], (mz_i xs Ln))) rfl ?_
            refine mz_ifT h3 ?_
            refine mz_go 1 (c' := (14, [some (.ref 60), some (.int c)], [.int 0], (mz_i xs Ln))) rfl ?_
            exact mz_ret rfl
          refine mz_go 3 (c' := (24, [some (.ref 0), some (.int a), some (.int b), some (.int c), some (.int d), some (.int e)], [.int 1, .ref 0], (mz_i xs Ln))) rfl ?_
          refine mz_do (R := mz_r109) (as := [.ref 0, .int 1]) (rest := []) (r1 := some (.int (-1000001))) (m1 := mz_up (mz_i xs Ln) 64 1 1) rfl ⟨?_, rfl⟩ ?_
          · refine mz_go 3 (c' := (4, [some (.ref 0), some (.int 1)], [.int 6, .int 1, .int 1], (mz_i xs Ln))) rfl ?_
            refine mz_do (R := mz_r121) (as := [.int 1, .int 1, .int 6]) (rest := []) (r1 := some (.int 1)) (m1 := (mz_i xs Ln)) rfl ⟨?_, rfl⟩ ?_
            · refine mz_go 8 (c' := (15, [some (.int 1), some (.int 1), some (.int 6)], [.int 1], (mz_i xs Ln))) rfl ?_
              exact mz_ret rfl
            refine mz_go 12 (c' := (25, [some (.ref 0), some (.int 1)], [.int (-1000001)], mz_up (mz_i xs Ln) 64 1 1)) rfl ?_
            exact mz_ret rfl
          exact mz_ret rfl
        · refine mz_go 1 (c' := (1, [some (.ref 65), some (.int a), some (.int b), some (.int c), some (.int d), some (.int e), none], [.int a], mz_up (mz_i xs Ln) 64 1 1)) rfl ?_
          refine mz_do (R := mz_r219) (as := [.int a]) (rest := []) (r1 := some (.int 1)) (m1 := mz_up (mz_i xs Ln) 64 1 1) rfl ⟨?_, rfl⟩ ?_
          · refine mz_go 3 (c' := (3, [some (.int a)], [.int 3, .int 0, .int a], mz_up (mz_i xs Ln) 64 1 1)) rfl ?_
            refine mz_do (R := mz_r128) (as := [.int a, .int 0, .int 3]) (rest := []) (r1 := some (.int 1)) (m1 := mz_up (mz_i xs Ln) 64 1 1) rfl ⟨?_, rfl⟩ ?_
            · refine mz_go 3 (c' := (if a < 0 then 14 else 5, [some (.int a), some (.int 0), some (.int 3)], [], mz_up (mz_i xs Ln) 64 1 1)) rfl ?_
              refine mz_ifF h1 ?_
              refine mz_go 3 (c' := (if 3 < a then 14 else 10, [some (.int a), some (.int 0), some (.int 3)], [], mz_up (mz_i xs Ln) 64 1 1)) rfl ?_
              refine mz_ifF (by have hl : (0 : Int) ≤ (a).toInt := Int32.le_iff_toInt_le.mp (Int32.not_lt.mp h1); have hu : (a).toInt < (4 : Int) := Int32.lt_iff_toInt_lt.mp (Int32.not_le.mp h2); exact Int32.not_lt.mpr (Int32.le_iff_toInt_le.mpr (show (a).toInt ≤ (3 : Int) by omega))) ?_
              refine mz_go 2 (c' := (15, [some (.int a), some (.int 0), some (.int 3)], [.int 1], mz_up (mz_i xs Ln) 64 1 1)) rfl ?_
              exact mz_ret rfl
            exact mz_ret rfl
          refine mz_go 2 (c' := (8, [some (.ref 65), some (.int a), some (.int b), some (.int c), some (.int d), some (.int e), none], [.int c], mz_up (mz_i xs Ln) 64 1 1)) rfl ?_
          refine mz_do (R := mz_r219) (as := [.int c]) (rest := []) (r1 := some (.int 0)) (m1 := mz_up (mz_i xs Ln) 64 1 1) rfl ⟨?_, rfl⟩ ?_
          · refine mz_go 3 (c' := (3, [some (.int c)], [.int 3, .int 0, .int c], mz_up (mz_i xs Ln) 64 1 1)) rfl ?_
            refine mz_do (R := mz_r128) (as := [.int c, .int 0, .int 3]) (rest := []) (r1 := some (.int 0)) (m1 := mz_up (mz_i xs Ln) 64 1 1) rfl ⟨?_, rfl⟩ ?_
            · refine mz_go 3 (c' := (if c < 0 then 14 else 5, [some (.int c), some (.int 0), some (.int 3)], [], mz_up (mz_i xs Ln) 64 1 1)) rfl ?_
              refine mz_ifT h3 ?_
              refine mz_go 1 (c' := (15, [some (.int c), some (.int 0), some (.int 3)], [.int 0], mz_up (mz_i xs Ln) 64 1 1)) rfl ?_
              exact mz_ret rfl
            exact mz_ret rfl
          refine mz_go 3 (c' := (16, [some (.ref 65), some (.int a), some (.int b), some (.int c), some (.int d), some (.int e), none], [.int 1, .ref 65], mz_up (mz_i xs Ln) 64 1 1)) rfl ?_
          refine mz_do (R := mz_r127) (as := [.ref 65, .int 1]) (rest := []) (r1 := some (.int (-1000001))) (m1 := mz_up (mz_up (mz_i xs Ln) 64 1 1) 68 1 1) rfl ⟨?_, rfl⟩ ?_
          · refine mz_go 11 (c' := (14, [some (.ref 65), some (.int 1)], [.int (-1000001)], mz_up (mz_up (mz_i xs Ln) 64 1 1) 68 1 1)) rfl ?_
            exact mz_ret rfl
          exact mz_ret rfl
      · by_cases h4 : 4 ≤ c
        · refine ⟨(-1000001), mz_up (mz_i xs Ln) 64 1 1, mz_up (mz_up (mz_i xs Ln) 64 1 1) 68 1 1, ⟨?_, rfl⟩, ⟨?_, rfl⟩⟩
          · refine mz_go 3 (c' := (5, [some (.ref 0), some (.int a), some (.int b), some (.int c), some (.int d), some (.int e)], [.int a, .ref 60], (mz_i xs Ln))) rfl ?_
            refine mz_do (R := mz_r45) (as := [.ref 60, .int a]) (rest := []) (r1 := some (.int 1)) (m1 := (mz_i xs Ln)) rfl ⟨?_, rfl⟩ ?_
            · refine mz_go 2 (c' := (if a < 0 then 13 else 4, [some (.ref 60), some (.int a)], [], (mz_i xs Ln))) rfl ?_
              refine mz_ifF h1 ?_
              refine mz_go 3 (c' := (if 4 ≤ a then 13 else 9, [some (.ref 60), some (.int a)], [], (mz_i xs Ln))) rfl ?_
              refine mz_ifF h2 ?_
              refine mz_go 2 (c' := (14, [some (.ref 60), some (.int a)], [.int 1], (mz_i xs Ln))) rfl ?_
              exact mz_ret rfl
            refine mz_go 4 (c' := (16, [some (.ref 0), some (.int a), some (.int b), some (.int c), some (.int d), some (.int e)], [.int c, .ref 60], (mz_i xs Ln))) rfl ?_
            refine mz_do (R := mz_r45) (as := [.ref 60, .int c]) (rest := []) (r1 := some (.int 0)) (m1 := (mz_i xs Ln)) rfl ⟨?_, rfl⟩ ?_
            · refine mz_go 2 (c' := (if c < 0 then 13 else 4, [some (.ref 60), some (.int c)], [], (mz_i xs Ln))) rfl ?_
              refine mz_ifF h3 ?_
              refine mz_go 3 (c' := (if 4 ≤ c then 13 else 9, [some (.ref 60), some (.int c)], [], (mz_i xs Ln))) rfl ?_
              refine mz_ifT h4 ?_
              refine mz_go 1 (c' := (14, [some (.ref 60), some (.int c)], [.int 0], (mz_i xs Ln))) rfl ?_
              exact mz_ret rfl
            refine mz_go 3 (c' := (24, [some (.ref 0), some (.int a), some (.int b), some (.int c), some (.int d), some (.int e)], [.int 1, .ref 0], (mz_i xs Ln))) rfl ?_
            refine mz_do (R := mz_r109) (as := [.ref 0, .int 1]) (rest := []) (r1 := some (.int (-1000001))) (m1 := mz_up (mz_i xs Ln) 64 1 1) rfl ⟨?_, rfl⟩ ?_
            · refine mz_go 3 (c' := (4, [some (.ref 0), some (.int 1)], [.int 6, .int 1, .int 1], (mz_i xs Ln))) rfl ?_
              refine mz_do (R := mz_r121) (as := [.int 1, .int 1, .int 6]) (rest := []) (r1 := some (.int 1)) (m1 := (mz_i xs Ln)) rfl ⟨?_, rfl⟩ ?_
              · refine mz_go 8 (c' := (15, [some (.int 1), some (.int 1), some (.int 6)], [.int 1], (mz_i xs Ln))) rfl ?_
                exact mz_ret rfl
              refine mz_go 12 (c' := (25, [some (.ref 0), some (.int 1)], [.int (-1000001)], mz_up (mz_i xs Ln) 64 1 1)) rfl ?_
              exact mz_ret rfl
            exact mz_ret rfl
          · refine mz_go 1 (c' := (1, [some (.ref 65), some (.int a), some (.int b), some (.int c), some (.int d), some (.int e), none], [.int a], mz_up (mz_i xs Ln) 64 1 1)) rfl ?_
            refine mz_do (R := mz_r219) (as := [.int a]) (rest := []) (r1 := some (.int 1)) (m1 := mz_up (mz_i xs Ln) 64 1 1) rfl ⟨?_, rfl⟩ ?_
            · refine mz_go 3 (c' := (3, [some (.int a)], [.int 3, .int 0, .int a], mz_up (mz_i xs Ln) 64 1 1)) rfl ?_
              refine mz_do (R := mz_r128) (as := [.int a, .int 0, .int 3]) (rest := []) (r1 := some (.int 1)) (m1 := mz_up (mz_i xs Ln) 64 1 1) rfl ⟨?_, rfl⟩ ?_
              · refine mz_go 3 (c' := (if a < 0 then 14 else 5, [some (.int a), some (.int 0), some (.int 3)], [], mz_up (mz_i xs Ln) 64 1 1)) rfl ?_
                refine mz_ifF h1 ?_
                refine mz_go 3 (c' := (if 3 < a then 14 else 10, [some (.int a), some (.int 0), some (.int 3)], [], mz_up (mz_i xs Ln) 64 1 1)) rfl ?_
                refine mz_ifF (by have hl : (0 : Int) ≤ (a).toInt := Int32.le_iff_toInt_le.mp (Int32.not_lt.mp h1); have hu : (a).toInt < (4 : Int) := Int32.lt_iff_toInt_lt.mp (Int32.not_le.mp h2); exact Int32.not_lt.mpr (Int32.le_iff_toInt_le.mpr (show (a).toInt ≤ (3 : Int) by omega))) ?_
                refine mz_go 2 (c' := (15, [some (.int a), some (.int 0), some (.int 3)], [.int 1], mz_up (mz_i xs Ln) 64 1 1)) rfl ?_
                exact mz_ret rfl
              exact mz_ret rfl
            refine mz_go 2 (c' := (8, [some (.ref 65), some (.int a), some (.int b), some (.int c), some (.int d), some (.int e), none], [.int c], mz_up (mz_i xs Ln) 64 1 1)) rfl ?_
            refine mz_do (R := mz_r219) (as := [.int c]) (rest := []) (r1 := some (.int 0)) (m1 := mz_up (mz_i xs Ln) 64 1 1) rfl ⟨?_, rfl⟩ ?_
            · refine mz_go 3 (c' := (3, [some (.int c)], [.int 3, .int 0, .int c], mz_up (mz_i xs Ln) 64 1 1)) rfl ?_
              refine mz_do (R := mz_r128) (as := [.int c, .int 0, .int 3]) (rest := []) (r1 := some (.int 0)) (m1 := mz_up (mz_i xs Ln) 64 1 1) rfl ⟨?_, rfl⟩ ?_
              · refine mz_go 3 (c' := (if c < 0 then 14 else 5, [some (.int c), some (.int 0), some (.int 3)], [], mz_up (mz_i xs Ln) 64 1 1)) rfl ?_
                refine mz_ifF h3 ?_
                refine mz_go 3 (c' := (if 3 < c then 14 else 10, [some (.int c), some (.int 0), some (.int 3)], [], mz_up (mz_i xs Ln) 64 1 1)) rfl ?_
                refine mz_ifT (by have hl : (4 : Int) ≤ (c).toInt := Int32.le_iff_toInt_le.mp h4; exact Int32.lt_iff_toInt_lt.mpr (show (3 : Int) < (c).toInt by omega)) ?_
                refine mz_go 1 (c' := (15, [some (.int c), some (.int 0), some (.int 3)], [.int 0], mz_up (mz_i xs Ln) 64 1 1)) rfl ?_
                exact mz_ret rfl
              exact mz_ret rfl
            refine mz_go 3 (c' := (16, [some (.ref 65), some (.int a), some (.int b), some (.int c), some (.int d), some (.int e), none], [.int 1, .ref 65], mz_up (mz_i xs Ln) 64 1 1)) rfl ?_
            refine mz_do (R := mz_r127) (as := [.ref 65, .int 1]) (rest := []) (r1 := some (.int (-1000001))) (m1 := mz_up (mz_up (mz_i xs Ln) 64 1 1) 68 1 1) rfl ⟨?_, rfl⟩ ?_
            · refine mz_go 11 (c' := (14, [some (.ref 65), some (.int 1)], [.int (-1000001)], mz_up (mz_up (mz_i xs Ln) 64 1 1) 68 1 1)) rfl ?_
              exact mz_ret rfl
            exact mz_ret rfl
        · have hl5 : (0 : Int) ≤ (a).toInt := Int32.le_iff_toInt_le.mp (Int32.not_lt.mp h1)
          have hu5 : (a).toInt < (4 : Int) := Int32.lt_iff_toInt_lt.mp (Int32.not_le.mp h2)
          obtain rfl | rfl | rfl | rfl : a = 0 ∨ a = 1 ∨ a = 2 ∨ a = 3 := by
              rcases (show a.toInt = 0 ∨ a.toInt = 1 ∨ a.toInt = 2 ∨ a.toInt = 3 by omega) with h | h | h | h
              · exact (Or.inl (Int32.toInt_inj.mp h))
              · exact (Or.inr (Or.inl (Int32.toInt_inj.mp h)))
              · exact (Or.inr (Or.inr (Or.inl (Int32.toInt_inj.mp h))))
              · exact (Or.inr (Or.inr (Or.inr (Int32.toInt_inj.mp h))))
          · refine ⟨(-1000002), mz_up (mz_i xs Ln) 64 2 1, mz_up (mz_up (mz_i xs Ln) 64 2 1) 68 2 1, ⟨?_, rfl⟩, ⟨?_, rfl⟩⟩
            · refine mz_go 3 (c' := (5, [some (.ref 0), some (.int 0), some (.int b), some (.int c), some (.int d), some (.int e)], [.int 0, .ref 60], (mz_i xs Ln))) rfl ?_
              refine mz_do (R := mz_r45) (as := [.ref 60, .int 0]) (rest := []) (r1 := some (.int 1)) (m1 := (mz_i xs Ln)) rfl ⟨?_, rfl⟩ ?_
              · refine mz_go 7 (c' := (14, [some (.ref 60), some (.int 0)], [.int 1], (mz_i xs Ln))) rfl ?_
                exact mz_ret rfl
              refine mz_go 4 (c' := (16, [some (.ref 0), some (.int 0), some (.int b), some (.int c), some (.int d), some (.int e)], [.int c, .ref 60], (mz_i xs Ln))) rfl ?_
              refine mz_do (R := mz_r45) (as := [.ref 60, .int c]) (rest := []) (r1 := some (.int 1)) (m1 := (mz_i xs Ln)) rfl ⟨?_, rfl⟩ ?_
              · refine mz_go 2 (c' := (if c < 0 then 13 else 4, [some (.ref 60), some (.int c)], [], (mz_i xs Ln))) rfl ?_
                refine mz_ifF h3 ?_
                refine mz_go 3 (c' := (if 4 ≤ c then 13 else 9, [some (.ref 60), some (.int c)], [], (mz_i xs Ln))) rfl ?_
                refine mz_ifF h4 ?_
                refine mz_go 2 (c' := (14, [some (.ref 60), some (.int c)], [.int 1], (mz_i xs Ln))) rfl ?_
                exact mz_ret rfl
              refine mz_go 4 (c' := (33, [some (.ref 0), some (.int 0), some (.int b), some (.int c), some (.int d), some (.int e)], [.int 0, .ref 60], (mz_i xs Ln))) rfl ?_
              refine mz_do (R := mz_r46) (as := [.ref 60, .int 0]) (rest := []) (r1 := some (.int 1)) (m1 := (mz_i xs Ln)) rfl ⟨?_, rfl⟩ ?_
              · refine mz_go 2 (c' := (2, [some (.ref 60), some (.int 0)], [.int 0, .ref 60], (mz_i xs Ln))) rfl ?_
                refine mz_do (R := mz_r45) (as := [.ref 60, .int 0]) (rest := []) (r1 := some (.int 1)) (m1 := (mz_i xs Ln)) rfl ⟨?_, rfl⟩ ?_
                · refine mz_go 7 (c' := (14, [some (.ref 60), some (.int 0)], [.int 1], (mz_i xs Ln))) rfl ?_
                  exact mz_ret rfl
                refine mz_go 8 (c' := (22, [some (.ref 60), some (.int 0)], [.int 1], (mz_i xs Ln))) rfl ?_
                exact mz_ret rfl
              refine mz_go 3 (c' := (52, [some (.ref 0), some (.int 0), some (.int b), some (.int c), some (.int d), some (.int e)], [.int 2, .ref 0], (mz_i xs Ln))) rfl ?_
              refine mz_do (R := mz_r109) (as := [.ref 0, .int 2]) (rest := []) (r1 := some (.int (-1000002))) (m1 := mz_up (mz_i xs Ln) 64 2 1) rfl ⟨?_, rfl⟩ ?_
              · refine mz_go 3 (c' := (4, [some (.ref 0), some (.int 2)], [.int 6, .int 1, .int 2], (mz_i xs Ln))) rfl ?_
                refine mz_do (R := mz_r121) (as := [.int 2, .int 1, .int 6]) (rest := []) (r1 := some (.int 1)) (m1 := (mz_i xs Ln)) rfl ⟨?_, rfl⟩ ?_
                · refine mz_go 8 (c' := (15, [some (.int 2), some (.int 1), some (.int 6)], [.int 1], (mz_i xs Ln))) rfl ?_
                  exact mz_ret rfl
                refine mz_go 12 (c' := (25, [some (.ref 0), some (.int 2)], [.int (-1000002)], mz_up (mz_i xs Ln) 64 2 1)) rfl ?_
                exact mz_ret rfl
              exact mz_ret rfl
            · refine mz_go 1 (c' := (1, [some (.ref 65), some (.int 0), some (.int b), some (.int c), some (.int d), some (.int e), none], [.int 0], mz_up (mz_i xs Ln) 64 2 1)) rfl ?_
              refine mz_do (R := mz_r219) (as := [.int 0]) (rest := []) (r1 := some (.int 1)) (m1 := mz_up (mz_i xs Ln) 64 2 1) rfl ⟨?_, rfl⟩ ?_
              · refine mz_go 3 (c' := (3, [some (.int 0)], [.int 3, .int 0, .int 0], mz_up (mz_i xs Ln) 64 2 1)) rfl ?_
                refine mz_do (R := mz_r128) (as := [.int 0, .int 0, .int 3]) (rest := []) (r1 := some (.int 1)) (m1 := mz_up (mz_i xs Ln) 64 2 1) rfl ⟨?_, rfl⟩ ?_
                · refine mz_go 8 (c' := (15, [some (.int 0), some (.int 0), some (.int 3)], [.int 1], mz_up (mz_i xs Ln) 64 2 1)) rfl ?_
                  exact mz_ret rfl
                exact mz_ret rfl
              refine mz_go 2 (c' := (8, [some (.ref 65), some (.int 0), some (.int b), some (.int c), some (.int d), some (.int e), none], [.int c], mz_up (mz_i xs Ln) 64 2 1)) rfl ?_
              refine mz_do (R := mz_r219) (as := [.int c]) (rest := []) (r1 := some (.int 1)) (m1 := mz_up (mz_i xs Ln) 64 2 1) rfl ⟨?_, rfl⟩ ?_
              · refine mz_go 3 (c' := (3, [some (.int c)], [.int 3, .int 0, .int c], mz_up (mz_i xs Ln) 64 2 1)) rfl ?_
                refine mz_do (R := mz_r128) (as := [.int c, .int 0, .int 3]) (rest := []) (r1 := some (.int 1)) (m1 := mz_up (mz_i xs Ln) 64 2 1) rfl ⟨?_, rfl⟩ ?_
                · refine mz_go 3 (c' := (if c < 0 then 14 else 5, [some (.int c), some (.int 0), some (.int 3)], [], mz_up (mz_i xs Ln) 64 2 1)) rfl ?_
                  refine mz_ifF h3 ?_
                  refine mz_go 3 (c' := (if 3 < c then 14 else 10, [some (.int c), some (.int 0), some (.int 3)], [], mz_up (mz_i xs Ln) 64 2 1)) rfl ?_
                  refine mz_ifF (by have hl : (0 : Int) ≤ (c).toInt := Int32.le_iff_toInt_le.mp (Int32.not_lt.mp h3); have hu : (c).toInt < (4 : Int) := Int32.lt_iff_toInt_lt.mp (Int32.not_le.mp h4); exact Int32.not_lt.mpr (Int32.le_iff_toInt_le.mpr (show (c).toInt ≤ (3 : Int) by omega))) ?_
                  refine mz_go 2 (c' := (15, [some (.int c), some (.int 0), some (.int 3)], [.int 1], mz_up (mz_i xs Ln) 64 2 1)) rfl ?_
                  exact mz_ret rfl
                exact mz_ret rfl
              refine mz_go 8 (c' := (40, [some (.ref 65), some (.int 0), some (.int b), some (.int c), some (.int d), some (.int e), none], [.int 2, .ref 65], mz_up (mz_i xs Ln) 64 2 1)) rfl ?_
              refine mz_do (R := mz_r127) (as := [.ref 65, .int 2]) (rest := []) (r1 := some (.int (-1000002))) (m1 := mz_up (mz_up (mz_i xs Ln) 64 2 1) 68 2 1) rfl ⟨?_, rfl⟩ ?_
              · refine mz_go 11 (c' := (14, [some (.ref 65), some (.int 2)], [.int (-1000002)], mz_up (mz_up (mz_i xs Ln) 64 2 1) 68 2 1)) rfl ?_
                exact mz_ret rfl
              exact mz_ret rfl
          · refine ⟨(-1000002), mz_up (mz_i xs Ln) 64 2 1, mz_up (mz_up (mz_i xs Ln) 64 2 1) 68 2 1, ⟨?_, rfl⟩, ⟨?_, rfl⟩⟩
            · refine mz_go 3 (c' := (5, [some (.ref 0), some (.int 1), some (.int b), some (.int c), some (.int d), some (.int e)], [.int 1, .ref 60], (mz_i xs Ln))) rfl ?_
              refine mz_do (R := mz_r45) (as := [.ref 60, .int 1]) (rest := []) (r1 := some (.int 1)) (m1 := (mz_i xs Ln)) rfl ⟨?_, rfl⟩ ?_
              · refine mz_go 7 (c' := (14, [some (.ref 60), some (.int 1)], [.int 1], (mz_i xs Ln))) rfl ?_
                exact mz_ret rfl
              refine mz_go 4 (c' := (16, [some (.ref 0), some (.int 1), some (.int b), some (.int c), some (.int d), some (.int e)], [.int c, .ref 60], (mz_i xs Ln))) rfl ?_
              refine mz_do (R := mz_r45) (as := [.ref 60, .int c]) (rest := []) (r1 := some (.int 1)) (m1 := (mz_i xs Ln)) rfl ⟨?_, rfl⟩ ?_
              · refine mz_go 2 (c' := (if c < 0 then 13 else 4, [some (.ref 60), some (.int c)], [], (mz_i xs Ln))) rfl ?_
                refine mz_ifF h3 ?_
                refine mz_go 3 (c' := (if 4 ≤ c then 13 else 9, [some (.ref 60), some (.int c)], [], (mz_i xs Ln))) rfl ?_
                refine mz_ifF h4 ?_
                refine mz_go 2 (c' := (14, [some (.ref 60), some (.int c)], [.int 1], (mz_i xs Ln))) rfl ?_
                exact mz_ret rfl
              refine mz_go 4 (c' := (33, [some (.ref 0), some (.int 1), some (.int b), some (.int c), some (.int d), some (.int e)], [.int 1, .ref 60], (mz_i xs Ln))) rfl ?_
              refine mz_do (R := mz_r46) (as := [.ref 60, .int 1]) (rest := []) (r1 := some (.int 1)) (m1 := (mz_i xs Ln)) rfl ⟨?_, rfl⟩ ?_
              · refine mz_go 2 (c' := (2, [some (.ref 60), some (.int 1)], [.int 1, .ref 60], (mz_i xs Ln))) rfl ?_
                refine mz_do (R := mz_r45) (as := [.ref 60, .int 1]) (rest := []) (r1 := some (.int 1)) (m1 := (mz_i xs Ln)) rfl ⟨?_, rfl⟩ ?_
                · refine mz_go 7 (c' := (14, [some (.ref 60), some (.int 1)], [.int 1], (mz_i xs Ln))) rfl ?_
                  exact mz_ret rfl
                refine mz_go 8 (c' := (22, [some (.ref 60), some (.int 1)], [.int 1], (mz_i xs Ln))) rfl ?_
                exact mz_ret rfl
              refine mz_go 3 (c' := (52, [some (.ref 0), some (.int 1), some (.int b), some (.int c), some (.int d), some (.int e)], [.int 2, .ref 0], (mz_i xs Ln))) rfl ?_
              refine mz_do (R := mz_r109) (as := [.ref 0, .int 2]) (rest := []) (r1 := some (.int (-1000002))) (m1 := mz_up (mz_i xs Ln) 64 2 1) rfl ⟨?_, rfl⟩ ?_
              · refine mz_go 3 (c' := (4, [some (.ref 0), some (.int 2)], [.int 6, .int 1, .int 2], (mz_i xs Ln))) rfl ?_
                refine mz_do (R := mz_r121) (as := [.int 2, .int 1, .int 6]) (rest := []) (r1 := some (.int 1)) (m1 := (mz_i xs Ln)) rfl ⟨?_, rfl⟩ ?_
                · refine mz_go 8 (c' := (15, [some (.int 2), some (.int 1), some (.int 6)], [.int 1], (mz_i xs Ln))) rfl ?_
                  exact mz_ret rfl
                refine mz_go 12 (c' := (25, [some (.ref 0), some (.int 2)], [.int (-1000002)], mz_up (mz_i xs Ln) 64 2 1)) rfl ?_
                exact mz_ret rfl
              exact mz_ret rfl
            · refine mz_go 1 (c' := (1, [some (.ref 65), some (.int 1), some (.int b), some (.int c), some (.int d), some (.int e), none], [.int 1], mz_up (mz_i xs Ln) 64 2 1)) rfl ?_
              refine mz_do (R := mz_r219) (as := [.int 1]) (rest := []) (r1 := some (.int 1)) (m1 := mz_up (mz_i xs Ln) 64 2 1) rfl ⟨?_, rfl⟩ ?_
              · refine mz_go 3 (c' := (3, [some (.int 1)], [.int 3, .int 0, .int 1], mz_up (mz_i xs Ln) 64 2 1)) rfl ?_
                refine mz_do (R := mz_r128) (as := [.int 1, .int 0, .int 3]) (rest := []) (r1 := some (.int 1)) (m1 := mz_up (mz_i xs Ln) 64 2 1) rfl ⟨?_, rfl⟩ ?_
                · refine mz_go 8 (c' := (15, [some (.int 1), some (.int 0), some (.int 3)], [.int 1], mz_up (mz_i xs Ln) 64 2 1)) rfl ?_
                  exact mz_ret rfl
                exact mz_ret rfl
              refine mz_go 2 (c' := (8, [some (.ref 65), some (.int 1), some (.int b), some (.int c), some (.int d), some (.int e), none], [.int c], mz_up (mz_i xs Ln) 64 2 1)) rfl ?_
              refine mz_do (R := mz_r219) (as := [.int c]) (rest := []) (r1 := some (.int 1)) (m1 := mz_up (mz_i xs Ln) 64 2 1) rfl ⟨?_, rfl⟩ ?_
              · refine mz_go 3 (c' := (3, [some (.int c)], [.int 3, .int 0, .int c], mz_up (mz_i xs Ln) 64 2 1)) rfl ?_
                refine mz_do (R := mz_r128) (as := [.int c, .int 0, .int 3]) (rest := []) (r1 := some (.int 1)) (m1 := mz_up (mz_i xs Ln) 64 2 1) rfl ⟨?_, rfl⟩ ?_
                · refine mz_go 3 (c' := (if c < 0 then 14 else 5, [some (.int c), some (.int 0), some (.int 3)], [], mz_up (mz_i xs Ln) 64 2 1)) rfl ?_
                  refine mz_ifF h3 ?_
                  refine mz_go 3 (c' := (if 3 < c then 14 else 10, [some (.int c), some (.int 0), some (.int 3)], [], mz_up (mz_i xs Ln) 64 2 1)) rfl ?_
                  refine mz_ifF (by have hl : (0 : Int) ≤ (c).toInt := Int32.le_iff_toInt_le.mp (Int32.not_lt.mp h3); have hu : (c).toInt < (4 : Int) := Int32.lt_iff_toInt_lt.mp (Int32.not_le.mp h4); exact Int32.not_lt.mpr (Int32.le_iff_toInt_le.mpr (show (c).toInt ≤ (3 : Int) by omega))) ?_
                  refine mz_go 2 (c' := (15, [some (.int c), some (.int 0), some (.int 3)], [.int 1], mz_up (mz_i xs Ln) 64 2 1)) rfl ?_
                  exact mz_ret rfl
                exact mz_ret rfl
              refine mz_go 8 (c' := (40, [some (.ref 65), some (.int 1), some (.int b), some (.int c), some (.int d), some (.int e), none], [.int 2, .ref 65], mz_up (mz_i xs Ln) 64 2 1)) rfl ?_
              refine mz_do (R := mz_r127) (as := [.ref 65, .int 2]) (rest := []) (r1 := some (.int (-1000002))) (m1 := mz_up (mz_up (mz_i xs Ln) 64 2 1) 68 2 1) rfl ⟨?_, rfl⟩ ?_
              · refine mz_go 11 (c' := (14, [some (.ref 65), some (.int 2)], [.int (-1000002)], mz_up (mz_up (mz_i xs Ln) 64 2 1) 68 2 1)) rfl ?_
                exact mz_ret rfl
              exact mz_ret rfl
          · refine ⟨(-1000002), mz_up (mz_i xs Ln) 64 2 1, mz_up (mz_up (mz_i xs Ln) 64 2 1) 68 2 1, ⟨?_, rfl⟩, ⟨?_, rfl⟩⟩
            · refine mz_go 3 (c' := (5, [some (.ref 0), some (.int 2), some (.int b), some (.int c), some (.int d), some (.int e)], [.int 2, .ref 60], (mz_i xs Ln))) rfl ?_
              refine mz_do (R := mz_r45) (as := [.ref 60, .int 2]) (rest := []) (r1 := some (.int 1)) (m1 := (mz_i xs Ln)) rfl ⟨?_, rfl⟩ ?_
              · refine mz_go 7 (c' := (14, [some (.ref 60), some (.int 2)], [.int 1], (mz_i xs Ln))) rfl ?_
                exact mz_ret rfl
              refine mz_go 4 (c' := (16, [some (.ref 0), some (.int 2), some (.int b), some (.int c), some (.int d), some (.int e)], [.int c, .ref 60], (mz_i xs Ln))) rfl ?_
              refine mz_do (R := mz_r45) (as := [.ref 60, .int c]) (rest := []) (r1 := some (.int 1)) (m1 := (mz_i xs Ln)) rfl ⟨?_, rfl⟩ ?_
              · refine mz_go 2 (c' := (if c < 0 then 13 else 4, [some (.ref 60), some (.int c)], [], (mz_i xs Ln))) rfl ?_
                refine mz_ifF h3 ?_
                refine mz_go 3 (c' := (if 4 ≤ c then 13 else 9, [some (.ref 60), some (.int c)], [], (mz_i xs Ln))) rfl ?_
                refine mz_ifF h4 ?_
                refine mz_go 2 (c' := (14, [some (.ref 60), some (.int c)], [.int 1], (mz_i xs Ln))) rfl ?_
                exact mz_ret rfl
              refine mz_go 4 (c' := (33, [some (.ref 0), some (.int 2), some (.int b), some (.int c), some (.int d), some (.int e)], [.int 2, .ref 60], (mz_i xs Ln))) rfl ?_
              refine mz_do (R := mz_r46) (as := [.ref 60, .int 2]) (rest := []) (r1 := some (.int 1)) (m1 := (mz_i xs Ln)) rfl ⟨?_, rfl⟩ ?_
              · refine mz_go 2 (c' := (2, [some (.ref 60), some (.int 2)], [.int 2, .ref 60], (mz_i xs Ln))) rfl ?_
                refine mz_do (R := mz_r45) (as := [.ref 60, .int 2]) (rest := []) (r1 := some (.int 1)) (m1 := (mz_i xs Ln)) rfl ⟨?_, rfl⟩ ?_
                · refine mz_go 7 (c' := (14, [some (.ref 60), some (.int 2)], [.int 1], (mz_i xs Ln))) rfl ?_
                  exact mz_ret rfl
                refine mz_go 8 (c' := (22, [some (.ref 60), some (.int 2)], [.int 1], (mz_i xs Ln))) rfl ?_
                exact mz_ret rfl
              refine mz_go 3 (c' := (52, [some (.ref 0), some (.int 2), some (.int b), some (.int c), some (.int d), some (.int e)], [.int 2, .ref 0], (mz_i xs Ln))) rfl ?_
              refine mz_do (R := mz_r109) (as := [.ref 0, .int 2]) (rest := []) (r1 := some (.int (-1000002))) (m1 := mz_up (mz_i xs Ln) 64 2 1) rfl ⟨?_, rfl⟩ ?_
              · refine mz_go 3 (c' := (4, [some (.ref 0), some (.int 2)], [.int 6, .int 1, .int 2], (mz_i xs Ln))) rfl ?_
                refine mz_do (R := mz_r121) (as := [.int 2, .int 1, .int 6]) (rest := []) (r1 := some (.int 1)) (m1 := (mz_i xs Ln)) rfl ⟨?_, rfl⟩ ?_
                · refine mz_go 8 (c' := (15, [some (.int 2), some (.int 1), some (.int 6)], [.int 1], (mz_i xs Ln))) rfl ?_
                  exact mz_ret rfl
                refine mz_go 12 (c' := (25, [some (.ref 0), some (.int 2)], [.int (-1000002)], mz_up (mz_i xs Ln) 64 2 1)) rfl ?_
                exact mz_ret rfl
              exact mz_ret rfl
            · refine mz_go 1 (c' := (1, [some (.ref 65), some (.int 2), some (.int b), some (.int c), some (.int d), some (.int e), none], [.int 2], mz_up (mz_i xs Ln) 64 2 1)) rfl ?_
              refine mz_do (R := mz_r219) (as := [.int 2]) (rest := []) (r1 := some (.int 1)) (m1 := mz_up (mz_i xs Ln) 64 2 1) rfl ⟨?_, rfl⟩ ?_
              · refine mz_go 3 (c' := (3, [some (.int 2)], [.int 3, .int 0, .int 2], mz_up (mz_i xs Ln) 64 2 1)) rfl ?_
                refine mz_do (R := mz_r128) (as := [.int 2, .int 0, .int 3]) (rest := []) (r1 := some (.int 1)) (m1 := mz_up (mz_i xs Ln) 64 2 1) rfl ⟨?_, rfl⟩ ?_
                · refine mz_go 8 (c' := (15, [some (.int 2), some (.int 0), some (.int 3)], [.int 1], mz_up (mz_i xs Ln) 64 2 1)) rfl ?_
                  exact mz_ret rfl
                exact mz_ret rfl
              refine mz_go 2 (c' := (8, [some (.ref 65), some (.int 2), some (.int b), some (.int c), some (.int d), some (.int e), none], [.int c], mz_up (mz_i xs Ln) 64 2 1)) rfl ?_
              refine mz_do (R := mz_r219) (as := [.int c]) (rest := []) (r1 := some (.int 1)) (m1 := mz_up (mz_i xs Ln) 64 2 1) rfl ⟨?_, rfl⟩ ?_
              · refine mz_go 3 (c' := (3, [some (.int c)], [.int 3, .int 0, .int c], mz_up (mz_i xs Ln) 64 2 1)) rfl ?_
                refine mz_do (R := mz_r128) (as := [.int c, .int 0, .int 3]) (rest := []) (r1 := some (.int 1)) (m1 := mz_up (mz_i xs Ln) 64 2 1) rfl ⟨?_, rfl⟩ ?_
                · refine mz_go 3 (c' := (if c < 0 then 14 else 5, [some (.int c), some (.int 0), some (.int 3)], [], mz_up (mz_i xs Ln) 64 2 1)) rfl ?_
                  refine mz_ifF h3 ?_
                  refine mz_go 3 (c' := (if 3 < c then 14 else 10, [some (.int c), some (.int 0), some (.int 3)], [], mz_up (mz_i xs Ln) 64 2 1)) rfl ?_
                  refine mz_ifF (by have hl : (0 : Int) ≤ (c).toInt := Int32.le_iff_toInt_le.mp (Int32.not_lt.mp h3); have hu : (c).toInt < (4 : Int) := Int32.lt_iff_toInt_lt.mp (Int32.not_le.mp h4); exact Int32.not_lt.mpr (Int32.le_iff_toInt_le.mpr (show (c).toInt ≤ (3 : Int) by omega))) ?_
                  refine mz_go 2 (c' := (15, [some (.int c), some (.int 0), some (.int 3)], [.int 1], mz_up (mz_i xs Ln) 64 2 1)) rfl ?_
                  exact mz_ret rfl
                exact mz_ret rfl
              refine mz_go 8 (c' := (40, [some (.ref 65), some (.int 2), some (.int b), some (.int c), some (.int d), some (.int e), none], [.int 2, .ref 65], mz_up (mz_i xs Ln) 64 2 1)) rfl ?_
              refine mz_do (R := mz_r127) (as := [.ref 65, .int 2]) (rest := []) (r1 := some (.int (-1000002))) (m1 := mz_up (mz_up (mz_i xs Ln) 64 2 1) 68 2 1) rfl ⟨?_, rfl⟩ ?_
              · refine mz_go 11 (c' := (14, [some (.ref 65), some (.int 2)], [.int (-1000002)], mz_up (mz_up (mz_i xs Ln) 64 2 1) 68 2 1)) rfl ?_
                exact mz_ret rfl
              exact mz_ret rfl
          · refine ⟨(-1000002), mz_up (mz_i xs Ln) 64 2 1, mz_up (mz_up (mz_i xs Ln) 64 2 1) 68 2 1, ⟨?_, rfl⟩, ⟨?_, rfl⟩⟩
            · refine mz_go 3 (c' := (5, [some (.ref 0), some (.int 3), some (.int b), some (.int c), some (.int d), some (.int e)], [.int 3, .ref 60], (mz_i xs Ln))) rfl ?_
              refine mz_do (R := mz_r45) (as := [.ref 60, .int 3]) (rest := []) (r1 := some (.int 1)) (m1 := (mz_i xs Ln)) rfl ⟨?_, rfl⟩ ?_
              · refine mz_go 7 (c' := (14, [some (.ref 60), some (.int 3)], [.int 1], (mz_i xs Ln))) rfl ?_
                exact mz_ret rfl
              refine mz_go 4 (c' := (16, [some (.ref 0), some (.int 3), some (.int b), some (.int c), some (.int d), some (.int e)], [.int c, .ref 60], (mz_i xs Ln))) rfl ?_
              refine mz_do (R := mz_r45) (as := [.ref 60, .int c]) (rest := []) (r1 := some (.int 1)) (m1 := (mz_i xs Ln)) rfl ⟨?_, rfl⟩ ?_
              · refine mz_go 2 (c' := (if c < 0 then 13 else 4, [some (.ref 60), some (.int c)], [], (mz_i xs Ln))) rfl ?_
                refine mz_ifF h3 ?_
                refine mz_go 3 (c' := (if 4 ≤ c then 13 else 9, [some (.ref 60), some (.int c)], [], (mz_i xs Ln))) rfl ?_
                refine mz_ifF h4 ?_
                refine mz_go 2 (c' := (14, [some (.ref 60), some (.int c)], [.int 1], (mz_i xs Ln))) rfl ?_
                exact mz_ret rfl
              refine mz_go 4 (c' := (33, [some (.ref 0), some (.int 3), some (.int b), some (.int c), some (.int d), some (.int e)], [.int 3, .ref 60], (mz_i xs Ln))) rfl ?_
              refine mz_do (R := mz_r46) (as := [.ref 60, .int 3]) (rest := []) (r1 := some (.int 1)) (m1 := (mz_i xs Ln)) rfl ⟨?_, rfl⟩ ?_
              · refine mz_go 2 (c' := (2, [some (.ref 60), some (.int 3)], [.int 3, .ref 60], (mz_i xs Ln))) rfl ?_
                refine mz_do (R := mz_r45) (as := [.ref 60, .int 3]) (rest := []) (r1 := some (.int 1)) (m1 := (mz_i xs Ln)) rfl ⟨?_, rfl⟩ ?_
                · refine mz_go 7 (c' := (14, [some (.ref 60), some (.int 3)], [.int 1], (mz_i xs Ln))) rfl ?_
                  exact mz_ret rfl
                refine mz_go 8 (c' := (22, [some (.ref 60), some (.int 3)], [.int 1], (mz_i xs Ln))) rfl ?_
                exact mz_ret rfl
              refine mz_go 3 (c' := (52, [some (.ref 0), some (.int 3), some (.int b), some (.int c), some (.int d), some (.int e)], [.int 2, .ref 0], (mz_i xs Ln))) rfl ?_
              refine mz_do (R := mz_r109) (as := [.ref 0, .int 2]) (rest := []) (r1 := some (.int (-1000002))) (m1 := mz_up (mz_i xs Ln) 64 2 1) rfl ⟨?_, rfl⟩ ?_
              · refine mz_go 3 (c' := (4, [some (.ref 0), some (.int 2)], [.int 6, .int 1, .int 2], (mz_i xs Ln))) rfl ?_
                refine mz_do (R := mz_r121) (as := [.int 2, .int 1, .int 6]) (rest := []) (r1 := some (.int 1)) (m1 := (mz_i xs Ln)) rfl ⟨?_, rfl⟩ ?_
                · refine mz_go 8 (c' := (15, [some (.int 2), some (.int 1), some (.int 6)], [.int 1], (mz_i xs Ln))) rfl ?_
                  exact mz_ret rfl
                refine mz_go 12 (c' := (25, [some (.ref 0), some (.int 2)], [.int (-1000002)], mz_up (mz_i xs Ln) 64 2 1)) rfl ?_
                exact mz_ret rfl
              exact mz_ret rfl
            · refine mz_go 1 (c' := (1, [some (.ref 65), some (.int 3), some (.int b), some (.int c), some (.int d), some (.int e), none], [.int 3], mz_up (mz_i xs Ln) 64 2 1)) rfl ?_
              refine mz_do (R := mz_r219) (as := [.int 3]) (rest := []) (r1 := some (.int 1)) (m1 := mz_up (mz_i xs Ln) 64 2 1) rfl ⟨?_, rfl⟩ ?_
              · refine mz_go 3 (c' := (3, [some (.int 3)], [.int 3, .int 0, .int 3], mz_up (mz_i xs Ln) 64 2 1)) rfl ?_
                refine mz_do (R := mz_r128) (as := [.int 3, .int 0, .int 3]) (rest := []) (r1 := some (.int 1)) (m1 := mz_up (mz_i xs Ln) 64 2 1) rfl ⟨?_, rfl⟩ ?_
                · refine mz_go 8 (c' := (15, [some (.int 3), some (.int 0), some (.int 3)], [.int 1], mz_up (mz_i xs Ln) 64 2 1)) rfl ?_
                  exact mz_ret rfl
                exact mz_ret rfl
              refine mz_go 2 (c' := (8, [some (.ref 65), some (.int 3), some (.int b), some (.int c), some (.int d), some (.int e), none], [.int c], mz_up (mz_i xs Ln) 64 2 1)) rfl ?_
              refine mz_do (R := mz_r219) (as := [.int c]) (rest := []) (r1 := some (.int 1)) (m1 := mz_up (mz_i xs Ln) 64 2 1) rfl ⟨?_, rfl⟩ ?_
              · refine mz_go 3 (c' := (3, [some (.int c)], [.int 3, .int 0, .int c], mz_up (mz_i xs Ln) 64 2 1)) rfl ?_
                refine mz_do (R := mz_r128) (as := [.int c, .int 0, .int 3]) (rest := []) (r1 := some (.int 1)) (m1 := mz_up (mz_i xs Ln) 64 2 1) rfl ⟨?_, rfl⟩ ?_
                · refine mz_go 3 (c' := (if c < 0 then 14 else 5, [some (.int c), some (.int 0), some (.int 3)], [], mz_up (mz_i xs Ln) 64 2 1)) rfl ?_
                  refine mz_ifF h3 ?_
                  refine mz_go 3 (c' := (if 3 < c then 14 else 10, [some (.int c), some (.int 0), some (.int 3)], [], mz_up (mz_i xs Ln) 64 2 1)) rfl ?_
                  refine mz_ifF (by have hl : (0 : Int) ≤ (c).toInt := Int32.le_iff_toInt_le.mp (Int32.not_lt.mp h3); have hu : (c).toInt < (4 : Int) := Int32.lt_iff_toInt_lt.mp (Int32.not_le.mp h4); exact Int32.not_lt.mpr (Int32.le_iff_toInt_le.mpr (show (c).toInt ≤ (3 : Int) by omega))) ?_
                  refine mz_go 2 (c' := (15, [some (.int c), some (.int 0), some (.int 3)], [.int 1], mz_up (mz_i xs Ln) 64 2 1)) rfl ?_
                  exact mz_ret rfl
                exact mz_ret rfl
              refine mz_go 8 (c' := (40, [some (.ref 65), some (.int 3), some (.int b), some (.int c), some (.int d), some (.int e), none], [.int 2, .ref 65], mz_up (mz_i xs Ln) 64 2 1)) rfl ?_
              refine mz_do (R := mz_r127) (as := [.ref 65, .int 2]) (rest := []) (r1 := some (.int (-1000002))) (m1 := mz_up (mz_up (mz_i xs Ln) 64 2 1) 68 2 1) rfl ⟨?_, rfl⟩ ?_
              · refine mz_go 11 (c' := (14, [some (.ref 65), some (.int 2)], [.int (-1000002)], mz_up (mz_up (mz_i xs Ln) 64 2 1) 68 2 1)) rfl ?_
                exact mz_ret rfl
              exact mz_ret rfl
set_option maxHeartbeats 4000000 in
set_option maxRecDepth 100000 in
theorem p1_magnets (xs : Nat → Int32) (Ln : Nat) (a : Int32) : ∃ v m1 m2, mz_Me 100 mz_r102 [.ref 0, .int a] (mz_i xs Ln) (some (.int v)) m1 ∧ mz_Me 100 mz_r223 [.ref 65, .int a] m1 (some (.int v)) m2 := by
  by_cases h1 : a < 0
  · refine ⟨(-1000001), mz_up (mz_i xs Ln) 64 1 1, mz_up (mz_up (mz_i xs Ln) 64 1 1) 68 1 1, ⟨?_, rfl⟩, ⟨?_, rfl⟩⟩
    · refine mz_go 3 (c' := (5, [some (.ref 0), some (.int a), none], [.int a, .ref 60], (mz_i xs Ln))) rfl ?_
      refine mz_do (R := mz_r45) (as := [.ref 60, .int a]) (rest := []) (r1 := some (.int 0)) (m1 := (mz_i xs Ln)) rfl ⟨?_, rfl⟩ ?_
      · refine mz_go 2 (c' := (if a < 0 then 13 else 4, [some (.ref 60), some (.int a)], [], (mz_i xs Ln))) rfl ?_
        refine mz_ifT h1 ?_
        refine mz_go 1 (c' := (14, [some (.ref 60), some (.int a)], [.int 0], (mz_i xs Ln))) rfl ?_
        exact mz_ret rfl
      refine mz_go 3 (c' := (13, [some (.ref 0), some (.int a), none], [.int 1, .ref 0], (mz_i xs Ln))) rfl ?_
      refine mz_do (R := mz_r109) (as := [.ref 0, .int 1]) (rest := []) (r1 := some (.int (-1000001))) (m1 := mz_up (mz_i xs Ln) 64 1 1) rfl ⟨?_, rfl⟩ ?_
      · refine mz_go 3 (c' := (4, [some (.ref 0), some (.int 1)], [.int 6, .int 1, .int 1], (mz_i xs Ln))) rfl ?_
        refine mz_do (R := mz_r121) (as := [.int 1, .int 1, .int 6]) (rest := []) (r1 := some (.int 1)) (m1 := (mz_i xs Ln)) rfl ⟨?_, rfl⟩ ?_
        · refine mz_go 8 (c' := (15, [some (.int 1), some (.int 1), some (.int 6)], [.int 1], (mz_i xs Ln))) rfl ?_
          exact mz_ret rfl
        refine mz_go 12 (c' := (25, [some (.ref 0), some (.int 1)], [.int (-1000001)], mz_up (mz_i xs Ln) 64 1 1)) rfl ?_
        exact mz_ret rfl
      exact mz_ret rfl
    · refine mz_go 1 (c' := (1, [some (.ref 65), some (.int a), none, none, none], [.int a], mz_up (mz_i xs Ln) 64 1 1)) rfl ?_
      refine mz_do (R := mz_r219) (as := [.int a]) (rest := []) (r1 := some (.int 0)) (m1 := mz_up (mz_i xs Ln) 64 1 1) rfl ⟨?_, rfl⟩ ?_
      · refine mz_go 3 (c' := (3, [some (.int a)], [.int 3, .int 0, .int a], mz_up (mz_i xs Ln) 64 1 1)) rfl ?_
        refine mz_do (R := mz_r128) (as := [.int a, .int 0, .int 3]) (rest := []) (r1 := some (.int 0)) (m1 := mz_up (mz_i xs Ln) 64 1 1) rfl ⟨?_, rfl⟩ ?_
        · refine mz_go 3 (c' := (if a < 0 then 14 else 5, [some (.int a), some (.int 0), some (.int 3)], [], mz_up (mz_i xs Ln) 64 1 1)) rfl ?_
          refine mz_ifT h1 ?_
          refine mz_go 1 (c' := (15, [some (.int a), some (.int 0), some (.int 3)], [.int 0], mz_up (mz_i xs Ln) 64 1 1)) rfl ?_
          exact mz_ret rfl
        exact mz_ret rfl
      refine mz_go 3 (c' := (9, [some (.ref 65), some (.int a), none, none, none], [.int 1, .ref 65], mz_up (mz_i xs Ln) 64 1 1)) rfl ?_
      refine mz_do (R := mz_r127) (as := [.ref 65, .int 1]) (rest := []) (r1 := some (.int (-1000001))) (m1 := mz_up (mz_up (mz_i xs Ln) 64 1 1) 68 1 1) rfl ⟨?_, rfl⟩ ?_
      · refine mz_go 11 (c' := (14, [some (.ref 65), some (.int 1)], [.int (-1000001)], mz_up (mz_up (mz_i xs Ln) 64 1 1) 68 1 1)) rfl ?_
        exact mz_ret rfl
      exact mz_ret rfl
  · by_cases h2 : 4 ≤ a
    · refine ⟨(-1000001), mz_up (mz_i xs Ln) 64 1 1, mz_up (mz_up (mz_i xs Ln) 64 1 1) 68 1 1, ⟨?_, rfl⟩, ⟨?_, rfl⟩⟩
      · refine mz_go 3 (c' := (5, [some (.ref 0), some (.int a), none], [.int a, .ref 60], (mz_i xs Ln))) rfl ?_
        refine mz_do (R := mz_r45) (as := [.ref 60, .int a]) (rest := []) (r1 := some (.int 0)) (m1 := (mz_i xs Ln)) rfl ⟨?_, rfl⟩ ?_
        · refine mz_go 2 (c' := (if a < 0 then 13 else 4, [some (.ref 60), some (.int a)], [], (mz_i xs Ln))) rfl ?_
          refine mz_ifF h1 ?_
          refine mz_go 3 (c' := (if 4 ≤ a then 13 else 9, [some (.ref 60), some (.int a)], [], (mz_i xs Ln))) rfl ?_
          refine mz_ifT h2 ?_
          refine mz_go 1 (c' := (14, [some (.ref 60), some (.int a)], [.int 0], (mz_i xs Ln))) rfl ?_
          exact mz_ret rfl
        refine mz_go 3 (c' := (13, [some (.ref 0), some (.int a), none], [.int 1, .ref 0], (mz_i xs Ln))) rfl ?_
        refine mz_do (R := mz_r109) (as := [.ref 0, .int 1]) (rest := []) (r1 := some (.int (-1000001))) (m1 := mz_up (mz_i xs Ln) 64 1 1) rfl ⟨?_, rfl⟩ ?_
        · refine mz_go 3 (c' := (4, [some (.ref 0), some (.int 1)], [.int 6, .int 1, .int 1], (mz_i xs Ln))) rfl ?_
          refine mz_do (R := mz_r121) (as := [.int 1, .int 1, .int 6]) (rest := []) (r1 := some (.int 1)) (m1 := (mz_i xs Ln)) rfl ⟨?_, rfl⟩ ?_
          · refine mz_go 8 (c' := (15, [some (.int 1), some (.int 1), some (.int 6)], [.int 1], (mz_i xs Ln))) rfl ?_
            exact mz_ret rfl
          refine mz_go 12 (c' := (25, [some (.ref 0), some (.int 1)], [.int (-1000001)], mz_up (mz_i xs Ln) 64 1 1)) rfl ?_
          exact mz_ret rfl
        exact mz_ret rfl
      · refine mz_go 1 (c' := (1, [some (.ref 65), some (.int a), none, none, none], [.int a], mz_up (mz_i xs Ln) 64 1 1)) rfl ?_
        refine mz_do (R := mz_r219) (as := [.int a]) (rest := []) (r1 := some (.int 0)) (m1 := mz_up (mz_i xs Ln) 64 1 1) rfl ⟨?_, rfl⟩ ?_
        · refine mz_go 3 (c' := (3, [some (.int a)], [.int 3, .int 0, .int a], mz_up (mz_i xs Ln) 64 1 1)) rfl ?_
          refine mz_do (R := mz_r128) (as := [.int a, .int 0, .int 3]) (rest := []) (r1 := some (.int 0)) (m1 := mz_up (mz_i xs Ln) 64 1 1) rfl ⟨?_, rfl⟩ ?_
          · refine mz_go 3 (c' := (if a < 0 then 14 else 5, [some (.int a), some (.int 0), some (.int 3)], [], mz_up (mz_i xs Ln) 64 1 1)) rfl ?_
            refine mz_ifF h1 ?_
            refine mz_go 3 (c' := (if 3 < a then 14 else 10, [some (.int a), some (.int 0), some (.int 3)], [], mz_up (mz_i xs Ln) 64 1 1)) rfl ?_
            refine mz_ifT (by have hl : (4 : Int) ≤ (a).toInt := Int32.le_iff_toInt_le.mp h2; exact Int32.lt_iff_toInt_lt.mpr (show (3 : Int) < (a).toInt by omega)) ?_
            refine mz_go 1 (c' := (15, [some (.int a), some (.int 0), some (.int 3)], [.int 0], mz_up (mz_i xs Ln) 64 1 1)) rfl ?_
            exact mz_ret rfl
          exact mz_ret rfl
        refine mz_go 3 (c' := (9, [some (.ref 65), some (.int a), none, none, none], [.int 1, .ref 65], mz_up (mz_i xs Ln) 64 1 1)) rfl ?_
        refine mz_do (R := mz_r127) (as := [.ref 65, .int 1]) (rest := []) (r1 := some (.int (-1000001))) (m1 := mz_up (mz_up (mz_i xs Ln) 64 1 1) 68 1 1) rfl ⟨?_, rfl⟩ ?_
        · refine mz_go 11 (c' := (14, [some (.ref 65), some (.int 1)], [.int (-1000001)], mz_up (mz_up (mz_i xs Ln) 64 1 1) 68 1 1)) rfl ?_
          exact mz_ret rfl
        exact mz_ret rfl
    · have hl3 : (0 : Int) ≤ (a).toInt := Int32.le_iff_toInt_le.mp (Int32.not_lt.mp h1)
      have hu3 : (a).toInt < (4 : Int) := Int32.lt_iff_toInt_lt.mp (Int32.not_le.mp h2)
      obtain rfl | rfl | rfl | rfl : a = 0 ∨ a = 1 ∨ a = 2 ∨ a = 3 := by
          rcases (show a.toInt = 0 ∨ a.toInt = 1 ∨ a.toInt = 2 ∨ a.toInt = 3 by omega) with h | h | h | h
          · exact (Or.inl (Int32.toInt_inj.mp h))
          · exact (Or.inr (Or.inl (Int32.toInt_inj.mp h)))
          · exact (Or.inr (Or.inr (Or.inl (Int32.toInt_inj.mp h))))
          · exact (Or.inr (Or.inr (Or.inr (Int32.toInt_inj.mp h))))
      · refine ⟨(-1000002), mz_up (mz_i xs Ln) 64 2 1, mz_up (mz_up (mz_i xs Ln) 64 2 1) 68 2 1, ⟨?_, rfl⟩, ⟨?_, rfl⟩⟩
        · refine mz_go 3 (c' := (5, [some (.ref 0), some (.int 0), none], [.int 0, .ref 60], (mz_i xs Ln))) rfl ?_
          refine mz_do (R := mz_r45) (as := [.ref 60, .int 0]) (rest := []) (r1 := some (.int 1)) (m1 := (mz_i xs Ln)) rfl ⟨?_, rfl⟩ ?_
          · refine mz_go 7 (c' := (14, [some (.ref 60), some (.int 0)], [.int 1], (mz_i xs Ln))) rfl ?_
            exact mz_ret rfl
          refine mz_go 4 (c' := (22, [some (.ref 0), some (.int 0), none], [.int 0, .ref 60], (mz_i xs Ln))) rfl ?_
          refine mz_do (R := mz_r46) (as := [.ref 60, .int 0]) (rest := []) (r1 := some (.int 1)) (m1 := (mz_i xs Ln)) rfl ⟨?_, rfl⟩ ?_
          · refine mz_go 2 (c' := (2, [some (.ref 60), some (.int 0)], [.int 0, .ref 60], (mz_i xs Ln))) rfl ?_
            refine mz_do (R := mz_r45) (as := [.ref 60, .int 0]) (rest := []) (r1 := some (.int 1)) (m1 := (mz_i xs Ln)) rfl ⟨?_, rfl⟩ ?_
            · refine mz_go 7 (c' := (14, [some (.ref 60), some (.int 0)], [.int 1], (mz_i xs Ln))) rfl ?_
              exact mz_ret rfl
            refine mz_go 8 (c' := (22, [some (.ref 60), some (.int 0)], [.int 1], (mz_i xs Ln))) rfl ?_
            exact mz_ret rfl
          refine mz_go 3 (c' := (30, [some (.ref 0), some (.int 0), none], [.int 2, .ref 0], (mz_i xs Ln))) rfl ?_
          refine mz_do (R := mz_r109) (as := [.ref 0, .int 2]) (rest := []) (r1 := some (.int (-1000002))) (m1 := mz_up (mz_i xs Ln) 64 2 1) rfl ⟨?_, rfl⟩ ?_
          · refine mz_go 3 (c' := (4, [some (.ref 0), some (.int 2)], [.int 6, .int 1, .int 2], (mz_i xs Ln))) rfl ?_
            refine mz_do (R := mz_r121) (as := [.int 2, .int 1, .int 6]) (rest := []) (r1 := some (.int 1)) (m1 := (mz_i xs Ln)) rfl ⟨?_, rfl⟩ ?_
            · refine mz_go 8 (c' := (15, [some (.int 2), some (.int 1), some (.int 6)], [.int 1], (mz_i xs Ln))) rfl ?_
              exact mz_ret rfl
            refine mz_go 12 (c' := (25, [some (.ref 0), some (.int 2)], [.int (-1000002)], mz_up (mz_i xs Ln) 64 2 1)) rfl ?_
            exact mz_ret rfl
          exact mz_ret rfl
        · refine mz_go 1 (c' := (1, [some (.ref 65), some (.int 0), none, none, none], [.int 0], mz_up (mz_i xs Ln) 64 2 1)) rfl ?_
          refine mz_do (R := mz_r219) (as := [.int 0]) (rest := []) (r1 := some (.int 1)) (m1 := mz_up (mz_i xs Ln) 64 2 1) rfl ⟨?_, rfl⟩ ?_
          · refine mz_go 3 (c' := (3, [some (.int 0)], [.int 3, .int 0, .int 0], mz_up (mz_i xs Ln) 64 2 1)) rfl ?_
            refine mz_do (R := mz_r128) (as := [.int 0, .int 0, .int 3]) (rest := []) (r1 := some (.int 1)) (m1 := mz_up (mz_i xs Ln) 64 2 1) rfl ⟨?_, rfl⟩ ?_
            · refine mz_go 8 (c' := (15, [some (.int 0), some (.int 0), some (.int 3)], [.int 1], mz_up (mz_i xs Ln) 64 2 1)) rfl ?_
              exact mz_ret rfl
            exact mz_ret rfl
          refine mz_go 8 (c' := (24, [some (.ref 65), some (.int 0), none, none, none], [.int 2, .ref 65], mz_up (mz_i xs Ln) 64 2 1)) rfl ?_
          refine mz_do (R := mz_r127) (as := [.ref 65, .int 2]) (rest := []) (r1 := some (.int (-1000002))) (m1 := mz_up (mz_up (mz_i xs Ln) 64 2 1) 68 2 1) rfl ⟨?_, rfl⟩ ?_
          · refine mz_go 11 (c' := (14, [some (.ref 65), some (.int 2)], [.int (-1000002)], mz_up (mz_up (mz_i xs Ln) 64 2 1) 68 2 1)) rfl ?_
            exact mz_ret rfl
          exact mz_ret rfl
      · refine ⟨(-1000002), mz_up (mz_i xs Ln) 64 2 1, mz_up (mz_up (mz_i xs Ln) 64 2 1) 68 2 1, ⟨?_, rfl⟩, ⟨?_, rfl⟩⟩
        · refine mz_go 3 (c' := (5, [some (.ref 0), some (.int 1), none], [.int 1, .ref 60], (mz_i xs Ln))) rfl ?_
          refine mz_do (R := mz_r45) (as := [.ref 60, .int 1]) (rest := []) (r1 := some (.int 1)) (m1 := (mz_i xs Ln)) rfl ⟨?_, rfl⟩ ?_
          · refine mz_go 7 (c' := (14, [some (.ref 60), some (.int 1)], [.int 1], (mz_i xs Ln))) rfl ?_
            exact mz_ret rfl
          refine mz_go 4 (c' := (22, [some (.ref 0), some (.int 1), none], [.int 1, .ref 60], (mz_i xs Ln))) rfl ?_
          refine mz_do (R := mz_r46) (as := [.ref 60, .int 1]) (rest := []) (r1 := some (.int 1)) (m1 := (mz_i xs Ln)) rfl ⟨?_, rfl⟩ ?_
          · refine mz_go 2 (c' := (2, [some (.ref 60), some (.int 1)], [.int 1, .ref 60], (mz_i xs Ln))) rfl ?_
            refine mz_do (R := mz_r45) (as := [.ref 60, .int 1]) (rest := []) (r1 := some (.int 1)) (m1 := (mz_i xs Ln)) rfl ⟨?_, rfl⟩ ?_
            · refine mz_go 7 (c' := (14, [some (.ref 60), some (.int 1)], [.int 1], (mz_i xs Ln))) rfl ?_
              exact mz_ret rfl
            refine mz_go 8 (c' := (22, [some (.ref 60), some (.int 1)], [.int 1], (mz_i xs Ln))) rfl ?_
            exact mz_ret rfl
          refine mz_go 3 (c' := (30, [some (.ref 0), some (.int 1), none], [.int 2, .ref 0], (mz_i xs Ln))) rfl ?_
          refine mz_do (R := mz_r109) (as := [.ref 0, .int 2]) (rest := []) (r1 := some (.int (-1000002))) (m1 := mz_up (mz_i xs Ln) 64 2 1) rfl ⟨?_, rfl⟩ ?_
          · refine mz_go 3 (c' := (4, [some (.ref 0), some (.int 2)], [.int 6, .int 1, .int 2], (mz_i xs Ln))) rfl ?_
            refine mz_do (R := mz_r121) (as := [.int 2, .int 1, .int 6]) (rest := []) (r1 := some (.int 1)) (m1 := (mz_i xs Ln)) rfl ⟨?_, rfl⟩ ?_
            · refine mz_go 8 (c' := (15, [some (.int 2), some (.int 1), some (.int 6)], [.int 1], (mz_i xs Ln))) rfl ?_
              exact mz_ret rfl
            refine mz_go 12 (c' := (25, [some (.ref 0), some (.int 2)], [.int (-1000002)], mz_up (mz_i xs Ln) 64 2 1)) rfl ?_
            exact mz_ret rfl
          exact mz_ret rfl
        · refine mz_go 1 (c' := (1, [some (.ref 65), some (.int 1), none, none, none], [.int 1], mz_up (mz_i xs Ln) 64 2 1)) rfl ?_
          refine mz_do (R := mz_r219) (as := [.int 1]) (rest := []) (r1 := some (.int 1)) (m1 := mz_up (mz_i xs Ln) 64 2 1) rfl ⟨?_, rfl⟩ ?_
          · refine mz_go 3 (c' := (3, [some (.int 1)], [.int 3, .int 0, .int 1], mz_up (mz_i xs Ln) 64 2 1)) rfl ?_
            refine mz_do (R := mz_r128) (as := [.int 1, .int 0, .int 3]) (rest := []) (r1 := some (.int 1)) (m1 := mz_up (mz_i xs Ln) 64 2 1) rfl ⟨?_, rfl⟩ ?_
            · refine mz_go 8 (c' := (15, [some (.int 1), some (.int 0), some (.int 3)], [.int 1], mz_up (mz_i xs Ln) 64 2 1)) rfl ?_
              exact mz_ret rfl
            exact mz_ret rfl
          refine mz_go 8 (c' := (24, [some (.ref 65), some (.int 1), none, none, none], [.int 2, .ref 65], mz_up (mz_i xs Ln) 64 2 1)) rfl ?_
          refine mz_do (R := mz_r127) (as := [.ref 65, .int 2]) (rest := []) (r1 := some (.int (-1000002))) (m1 := mz_up (mz_up (mz_i xs Ln) 64 2 1) 68 2 1) rfl ⟨?_, rfl⟩ ?_
          · refine mz_go 11 (c' := (14, [some (.ref 65), some (.int 2)], [.int (-1000002)], mz_up (mz_up (mz_i xs Ln) 64 2 1) 68 2 1)) rfl ?_
            exact mz_ret rfl
          exact mz_ret rfl
      · refine ⟨(-1000002), mz_up (mz_i xs Ln) 64 2 1, mz_up (mz_up (mz_i xs Ln) 64 2 1) 68 2 1, ⟨?_, rfl⟩, ⟨?_, rfl⟩⟩
        · refine mz_go 3 (c' := (5, [some (.ref 0), some (.int 2), none], [.int 2, .ref 60], (mz_i xs Ln))) rfl ?_
          refine mz_do (R := mz_r45) (as := [.ref 60, .int 2]) (rest := []) (r1 := some (.int 1)) (m1 := (mz_i xs Ln)) rfl ⟨?_, rfl⟩ ?_
          · refine mz_go 7 (c' := (14, [some (.ref 60), some (.int 2)], [.int 1], (mz_i xs Ln))) rfl ?_
            exact mz_ret rfl
          refine mz_go 4 (c' := (22, [some (.ref 0), some (.int 2), none], [.int 2, .ref 60], (mz_i xs Ln))) rfl ?_
          refine mz_do (R := mz_r46) (as := [.ref 60, .int 2]) (rest := []) (r1 := some (.int 1)) (m1 := (mz_i xs Ln)) rfl ⟨?_, rfl⟩ ?_
          · refine mz_go 2 (c' := (2, [some (.ref 60), some (.int 2)], [.int 2, .ref 60], (mz_i xs Ln))) rfl ?_
            refine mz_do (R := mz_r45) (as := [.ref 60, .int 2]) (rest := []) (r1 := some (.int 1)) (m1 := (mz_i xs Ln)) rfl ⟨?_, rfl⟩ ?_
            · refine mz_go 7 (c' := (14, [some (.ref 60), some (.int 2)], [.int 1], (mz_i xs Ln))) rfl ?_
              exact mz_ret rfl
            refine mz_go 8 (c' := (22, [some (.ref 60), some (.int 2)], [.int 1], (mz_i xs Ln))) rfl ?_
            exact mz_ret rfl
          refine mz_go 3 (c' := (30, [some (.ref 0), some (.int 2), none], [.int 2, .ref 0], (mz_i xs Ln))) rfl ?_
          refine mz_do (R := mz_r109) (as := [.ref 0, .int 2]) (rest := []) (r1 := some (.int (-1000002))) (m1 := mz_up (mz_i xs Ln) 64 2 1) rfl ⟨?_, rfl⟩ ?_
          · refine mz_go 3 (c' := (4, [some (.ref 0), some (.int 2)], [.int 6, .int 1, .int 2], (mz_i xs Ln))) rfl ?_
            refine mz_do (R := mz_r121) (as := [.int 2, .int 1, .int 6]) (rest := []) (r1 := some (.int 1)) (m1 := (mz_i xs Ln)) rfl ⟨?_, rfl⟩ ?_
            · refine mz_go 8 (c' := (15, [some (.int 2), some (.int 1), some (.int 6)], [.int 1], (mz_i xs Ln))) rfl ?_
              exact mz_ret rfl
            refine mz_go 12 (c' := (25, [some (.ref 0), some (.int 2)], [.int (-1000002)], mz_up (mz_i xs Ln) 64 2 1)) rfl ?_
            exact mz_ret rfl
          exact mz_ret rfl
        · refine mz_go 1 (c' := (1, [some (.ref 65), some (.int 2), none, none, none], [.int 2], mz_up (mz_i xs Ln) 64 2 1)) rfl ?_
          refine mz_do (R := mz_r219) (as := [.int 2]) (rest := []) (r1 := some (.int 1)) (m1 := mz_up (mz_i xs Ln) 64 2 1) rfl ⟨?_, rfl⟩ ?_
          · refine mz_go 3 (c' := (3, [some (.int 2)], [.int 3, .int 0, .int 2], mz_up (mz_i xs Ln) 64 2 1)) rfl ?_
            refine mz_do (R := mz_r128) (as := [.int 2, .int 0, .int 3]) (rest := []) (r1 := some (.int 1)) (m1 := mz_up (mz_i xs Ln) 64 2 1) rfl ⟨?_, rfl⟩ ?_
            · refine mz_go 8 (c' := (15, [some (.int 2), some (.int 0), some (.int 3)], [.int 1], mz_up (mz_i xs Ln) 64 2 1)) rfl ?_
              exact mz_ret rfl
            exact mz_ret rfl
          refine mz_go 8 (c' := (24, [some (.ref 65), some (.int 2), none, none, none], [.int 2, .ref 65], mz_up (mz_i xs Ln) 64 2 1)) rfl ?_
          refine mz_do (R := mz_r127) (as := [.ref 65, .int 2]) (rest := []) (r1 := some (.int (-1000002))) (m1 := mz_up (mz_up (mz_i xs Ln) 64 2 1) 68 2 1) rfl ⟨?_, rfl⟩ ?_
          · refine mz_go 11 (c' := (14, [some (.ref 65), some (.int 2)], [.int (-1000002)], mz_up (mz_up (mz_i xs Ln) 64 2 1) 68 2 1)) rfl ?_
            exact mz_ret rfl
          exact mz_ret rfl
      · refine ⟨(-1000002), mz_up (mz_i xs Ln) 64 2 1, mz_up (mz_up (mz_i xs Ln) 64 2 1) 68 2 1, ⟨?_, rfl⟩, ⟨?_, rfl⟩⟩
        · refine mz_go 3 (c' := (5, [some (.ref 0), some (.int 3), none], [.int 3, .ref 60], (mz_i xs Ln))) rfl ?_
          refine mz_do (R := mz_r45) (as := [.ref 60, .int 3]) (rest := []) (r1 := some (.int 1)) (m1 := (mz_i xs Ln)) rfl ⟨?_, rfl⟩ ?_
          · refine mz_go 7 (c' := (14, [some (.ref 60), some (.int 3)], [.int 1], (mz_i xs Ln))) rfl ?_
            exact mz_ret rfl
          refine mz_go 4 (c' := (22, [some (.ref 0), some (.int 3), none], [.int 3, .ref 60], (mz_i xs Ln))) rfl ?_
          refine mz_do (R := mz_r46) (as := [.ref 60, .int 3]) (rest := []) (r1 := some (.int 1)) (m1 := (mz_i xs Ln)) rfl ⟨?_, rfl⟩ ?_
          · refine mz_go 2 (c' := (2, [some (.ref 60), some (.int 3)], [.int 3, .ref 60], (mz_i xs Ln))) rfl ?_
            refine mz_do (R := mz_r45) (as := [.ref 60, .int 3]) (rest := []) (r1 := some (.int 1)) (m1 := (mz_i xs Ln)) rfl ⟨?_, rfl⟩ ?_
            · refine mz_go 7 (c' := (14, [some (.ref 60), some (.int 3)], [.int 1], (mz_i xs Ln))) rfl ?_
              exact mz_ret rfl
            refine mz_go 8 (c' := (22, [some (.ref 60), some (.int 3)], [.int 1], (mz_i xs Ln))) rfl ?_
            exact mz_ret rfl
          refine mz_go 3 (c' := (30, [some (.ref 0), some (.int 3), none], [.int 2, .ref 0], (mz_i xs Ln))) rfl ?_
          refine mz_do (R := mz_r109) (as := [.ref 0, .int 2]) (rest := []) (r1 := some (.int (-1000002))) (m1 := mz_up (mz_i xs Ln) 64 2 1) rfl ⟨?_, rfl⟩ ?_
          · refine mz_go 3 (c' := (4, [some (.ref 0), some (.int 2)], [.int 6, .int 1, .int 2], (mz_i xs Ln))) rfl ?_
            refine mz_do (R := mz_r121) (as := [.int 2, .int 1, .int 6]) (rest := []) (r1 := some (.int 1)) (m1 := (mz_i xs Ln)) rfl ⟨?_, rfl⟩ ?_
            · refine mz_go 8 (c' := (15, [some (.int 2), some (.int 1), some (.int 6)], [.int 1], (mz_i xs Ln))) rfl ?_
              exact mz_ret rfl
            refine mz_go 12 (c' := (25, [some (.ref 0), some (.int 2)], [.int (-1000002)], mz_up (mz_i xs Ln) 64 2 1)) rfl ?_
            exact mz_ret rfl
          exact mz_ret rfl
        · refine mz_go 1 (c' := (1, [some (.ref 65), some (.int 3), none, none, none], [.int 3], mz_up (mz_i xs Ln) 64 2 1)) rfl ?_
          refine mz_do (R := mz_r219) (as := [.int 3]) (rest := []) (r1 := some (.int 1)) (m1 := mz_up (mz_i xs Ln) 64 2 1) rfl ⟨?_, rfl⟩ ?_
          · refine mz_go 3 (c' := (3, [some (.int 3)], [.int 3, .int 0, .int 3], mz_up (mz_i xs Ln) 64 2 1)) rfl ?_
            refine mz_do (R := mz_r128) (as := [.int 3, .int 0, .int 3]) (rest := []) (r1 := some (.int 1)) (m1 := mz_up (mz_i xs Ln) 64 2 1) rfl ⟨?_, rfl⟩ ?_
            · refine mz_go 8 (c' := (15, [some (.int 3), some (.int 0), some (.int 3)], [.int 1], mz_up (mz_i xs Ln) 64 2 1)) rfl ?_
              exact mz_ret rfl
            exact mz_ret rfl
          refine mz_go 8 (c' := (24, [some (.ref 65), some (.int 3), none, none, none], [.int 2, .ref 65], mz_up (mz_i xs Ln) 64 2 1)) rfl ?_
          refine mz_do (R := mz_r127) (as := [.ref 65, .int 2]) (rest := []) (r1 := some (.int (-1000002))) (m1 := mz_up (mz_up (mz_i xs Ln) 64 2 1) 68 2 1) rfl ⟨?_, rfl⟩ ?_
          · refine mz_go 11 (c' := (14, [some (.ref 65), some (.int 2)], [.int (-1000002)], mz_up (mz_up (mz_i xs Ln) 64 2 1) 68 2 1)) rfl ?_
            exact mz_ret rfl
          exact mz_ret rfl
set_option maxHeartbeats 4000000 in
set_option maxRecDepth 100000 in
theorem p1_restore (xs : Nat → Int32) (Ln : Nat)  : ∃ v m1 m2, mz_Me 100 mz_r104 [.ref 0] (mz_i xs Ln) (some (.int v)) m1 ∧ mz_Me 100 mz_r225 [.ref 65] m1 (some (.int v)) m2 := by
  refine ⟨(-1000002), mz_up (mz_i xs Ln) 64 2 1, mz_up (mz_up (mz_i xs Ln) 64 2 1) 68 2 1, ⟨?_, rfl⟩, ⟨?_, rfl⟩⟩
  · refine mz_go 5 (c' := (9, [some (.ref 0)], [.int 2, .ref 0], (mz_i xs Ln))) rfl ?_
    refine mz_do (R := mz_r109) (as := [.ref 0, .int 2]) (rest := []) (r1 := some (.int (-1000002))) (m1 := mz_up (mz_i xs Ln) 64 2 1) rfl ⟨?_, rfl⟩ ?_
    · refine mz_go 3 (c' := (4, [some (.ref 0), some (.int 2)], [.int 6, .int 1, .int 2], (mz_i xs Ln))) rfl ?_
      refine mz_do (R := mz_r121) (as := [.int 2, .int 1, .int 6]) (rest := []) (r1 := some (.int 1)) (m1 := (mz_i xs Ln)) rfl ⟨?_, rfl⟩ ?_
      · refine mz_go 8 (c' := (15, [some (.int 2), some (.int 1), some (.int 6)], [.int 1], (mz_i xs Ln))) rfl ?_
        exact mz_ret rfl
      refine mz_go 12 (c' := (25, [some (.ref 0), some (.int 2)], [.int (-1000002)], mz_up (mz_i xs Ln) 64 2 1)) rfl ?_
      exact mz_ret rfl
    exact mz_ret rfl
  · refine mz_go 5 (c' := (9, [some (.ref 65), none], [.int 2, .ref 65], mz_up (mz_i xs Ln) 64 2 1)) rfl ?_
    refine mz_do (R := mz_r127) (as := [.ref 65, .int 2]) (rest := []) (r1 := some (.int (-1000002))) (m1 := mz_up (mz_up (mz_i xs Ln) 64 2 1) 68 2 1) rfl ⟨?_, rfl⟩ ?_
    · refine mz_go 11 (c' := (14, [some (.ref 65), some (.int 2)], [.int (-1000002)], mz_up (mz_up (mz_i xs Ln) 64 2 1) 68 2 1)) rfl ?_
      exact mz_ret rfl
    exact mz_ret rfl
set_option maxHeartbeats 4000000 in
set_option maxRecDepth 100000 in
theorem p1_tell (xs : Nat → Int32) (Ln : Nat) (a : Int32) : ∃ v m1 m2, mz_Me 100 mz_r105 [.ref 0, .int a] (mz_i xs Ln) (some (.int v)) m1 ∧ mz_Me 100 mz_r226 [.ref 65, .int a] m1 (some (.int v)) m2 := by
  refine ⟨1, mz_up (mz_up (mz_i xs Ln) 24 0 a) 1 11 1, mz_up (mz_up (mz_up (mz_up (mz_i xs Ln) 24 0 a) 1 11 1) 66 620 a) 66 2 1, ⟨?_, rfl⟩, ⟨?_, rfl⟩⟩
  · refine mz_go 23 (c' := (54, [some (.ref 0), some (.int a)], [.int 1], mz_up (mz_up (mz_i xs Ln) 24 0 a) 1 11 1)) rfl ?_
    exact mz_ret rfl
  · refine mz_go 24 (c' := (43, [some (.ref 65), some (.int a)], [], mz_up (mz_up (mz_up (mz_up (mz_i xs Ln) 24 0 a) 1 11 1) 66 620 a) 66 2 1)) rfl ?_
    refine mz_go 4 (c' := (49, [some (.ref 65), some (.int a)], [.int 1], mz_up (mz_up (mz_up (mz_up (mz_i xs Ln) 24 0 a) 1 11 1) 66 620 a) 66 2 1)) rfl ?_
    exact mz_ret rfl
set_option maxHeartbeats 4000000 in
set_option maxRecDepth 100000 in
theorem p1_check (xs : Nat → Int32) (Ln : Nat) (a : Int32) : ∃ v m1 m2, mz_Me 100 mz_r106 [.ref 0, .int a] (mz_i xs Ln) (some (.int v)) m1 ∧ mz_Me 100 mz_r227 [.ref 65, .int a] m1 (some (.int v)) m2 := by
  refine ⟨(-1000002), mz_up (mz_up (mz_i xs Ln) 1 11 0) 64 2 1, mz_up (mz_up (mz_up (mz_up (mz_i xs Ln) 1 11 0) 64 2 1) 66 2 0) 68 2 1, ⟨?_, rfl⟩, ⟨?_, rfl⟩⟩
  · refine mz_go 13 (c' := (25, [some (.ref 0), some (.int a), some (.int 0), some (.ref 20), none], [.ref 20], mz_up (mz_i xs Ln) 1 11 0)) rfl ?_
    refine mz_do (R := mz_r2) (as := [.ref 20]) (rest := []) (r1 := some (.int 0)) (m1 := mz_up (mz_i xs Ln) 1 11 0) rfl ⟨?_, rfl⟩ ?_
    · refine mz_go 4 (c' := (19, [some (.ref 20)], [.int 0], mz_up (mz_i xs Ln) 1 11 0)) rfl ?_
      exact mz_ret rfl
    refine mz_go 3 (c' := (33, [some (.ref 0), some (.int a), some (.int 0), some (.ref 20), none], [.int 2, .ref 0], mz_up (mz_i xs Ln) 1 11 0)) rfl ?_
    refine mz_do (R := mz_r109) (as := [.ref 0, .int 2]) (rest := []) (r1 := some (.int (-1000002))) (m1 := mz_up (mz_up (mz_i xs Ln) 1 11 0) 64 2 1) rfl ⟨?_, rfl⟩ ?_
    · refine mz_go 3 (c' := (4, [some (.ref 0), some (.int 2)], [.int 6, .int 1, .int 2], mz_up (mz_i xs Ln) 1 11 0)) rfl ?_
      refine mz_do (R := mz_r121) (as := [.int 2, .int 1, .int 6]) (rest := []) (r1 := some (.int 1)) (m1 := mz_up (mz_i xs Ln) 1 11 0) rfl ⟨?_, rfl⟩ ?_
      · refine mz_go 8 (c' := (15, [some (.int 2), some (.int 1), some (.int 6)], [.int 1], mz_up (mz_i xs Ln) 1 11 0)) rfl ?_
        exact mz_ret rfl
      refine mz_go 12 (c' := (25, [some (.ref 0), some (.int 2)], [.int (-1000002)], mz_up (mz_up (mz_i xs Ln) 1 11 0) 64 2 1)) rfl ?_
      exact mz_ret rfl
    exact mz_ret rfl
  · refine mz_go 11 (c' := (15, [some (.ref 65), some (.int a), some (.int 0), none], [.ref 65], mz_up (mz_up (mz_up (mz_i xs Ln) 1 11 0) 64 2 1) 66 2 0)) rfl ?_
    refine mz_do (R := mz_r185) (as := [.ref 65]) (rest := []) (r1 := some (.int 0)) (m1 := mz_up (mz_up (mz_up (mz_i xs Ln) 1 11 0) 64 2 1) 66 2 0) rfl ⟨?_, rfl⟩ ?_
    · refine mz_go 1 (c' := (1, [some (.ref 65)], [.ref 65], mz_up (mz_up (mz_up (mz_i xs Ln) 1 11 0) 64 2 1) 66 2 0)) rfl ?_
      refine mz_do (R := mz_r183) (as := [.ref 65]) (rest := []) (r1 := some (.int 0)) (m1 := mz_up (mz_up (mz_up (mz_i xs Ln) 1 11 0) 64 2 1) 66 2 0) rfl ⟨?_, rfl⟩ ?_
      · refine mz_go 4 (c' := (7, [some (.ref 65)], [.int 0], mz_up (mz_up (mz_up (mz_i xs Ln) 1 11 0) 64 2 1) 66 2 0)) rfl ?_
        exact mz_ret rfl
      refine mz_go 2 (c' := (12, [some (.ref 65)], [.int 0], mz_up (mz_up (mz_up (mz_i xs Ln) 1 11 0) 64 2 1) 66 2 0)) rfl ?_
      exact mz_ret rfl
    refine mz_go 3 (c' := (23, [some (.ref 65), some (.int a), some (.int 0), none], [.int 2, .ref 65], mz_up (mz_up (mz_up (mz_i xs Ln) 1 11 0) 64 2 1) 66 2 0)) rfl ?_
    refine mz_do (R := mz_r127) (as := [.ref 65, .int 2]) (rest := []) (r1 := some (.int (-1000002))) (m1 := mz_up (mz_up (mz_up (mz_up (mz_i xs Ln) 1 11 0) 64 2 1) 66 2 0) 68 2 1) rfl ⟨?_, rfl⟩ ?_
    · refine mz_go 11 (c' := (14, [some (.ref 65), some (.int 2)], [.int (-1000002)], mz_up (mz_up (mz_up (mz_up (mz_i xs Ln) 1 11 0) 64 2 1) 66 2 0) 68 2 1)) rfl ?_
      exact mz_ret rfl
    exact mz_ret rfl
set_option maxHeartbeats 4000000 in
set_option maxRecDepth 100000 in
theorem p1_count (xs : Nat → Int32) (Ln : Nat) (a : Int32) : ∃ v m1 m2, mz_Me 100 mz_r107 [.ref 0, .int a] (mz_i xs Ln) (some (.int v)) m1 ∧ mz_Me 100 mz_r228 [.ref 65, .int a] m1 (some (.int v)) m2 := by
  by_cases h1 : a < 0
  · refine ⟨(-1000001), mz_up (mz_i xs Ln) 64 1 1, mz_up (mz_up (mz_i xs Ln) 64 1 1) 68 1 1, ⟨?_, rfl⟩, ⟨?_, rfl⟩⟩
    · refine mz_go 1 (c' := (1, [some (.ref 0), some (.int a)], [.int a], (mz_i xs Ln))) rfl ?_
      refine mz_swd (c' := (97, [some (.ref 0), some (.int a)], [], (mz_i xs Ln))) rfl (Or.inl (Int32.lt_iff_toInt_lt.mp h1)) ?_
      refine mz_go 2 (c' := (99, [some (.ref 0), some (.int a)], [.int 1, .ref 0], (mz_i xs Ln))) rfl ?_
      refine mz_do (R := mz_r109) (as := [.ref 0, .int 1]) (rest := []) (r1 := some (.int (-1000001))) (m1 := mz_up (mz_i xs Ln) 64 1 1) rfl ⟨?_, rfl⟩ ?_
      · refine mz_go 3 (c' := (4, [some (.ref 0), some (.int 1)], [.int 6, .int 1, .int 1], (mz_i xs Ln))) rfl ?_
        refine mz_do (R := mz_r121) (as := [.int 1, .int 1, .int 6]) (rest := []) (r1 := some (.int 1)) (m1 := (mz_i xs Ln)) rfl ⟨?_, rfl⟩ ?_
        · refine mz_go 8 (c' := (15, [some (.int 1), some (.int 1), some (.int 6)], [.int 1], (mz_i xs Ln))) rfl ?_
          exact mz_ret rfl
        refine mz_go 12 (c' := (25, [some (.ref 0), some (.int 1)], [.int (-1000001)], mz_up (mz_i xs Ln) 64 1 1)) rfl ?_
        exact mz_ret rfl
      exact mz_ret rfl
    · refine mz_go 1 (c' := (1, [some (.ref 65), some (.int a)], [.int a], mz_up (mz_i xs Ln) 64 1 1)) rfl ?_
      refine mz_swd (c' := (83, [some (.ref 65), some (.int a)], [], mz_up (mz_i xs Ln) 64 1 1)) rfl (Or.inl (Int32.lt_iff_toInt_lt.mp h1)) ?_
      refine mz_go 2 (c' := (85, [some (.ref 65), some (.int a)], [.int 1, .ref 65], mz_up (mz_i xs Ln) 64 1 1)) rfl ?_
      refine mz_do (R := mz_r127) (as := [.ref 65, .int 1]) (rest := []) (r1 := some (.int (-1000001))) (m1 := mz_up (mz_up (mz_i xs Ln) 64 1 1) 68 1 1) rfl ⟨?_, rfl⟩ ?_
      · refine mz_go 11 (c' := (14, [some (.ref 65), some (.int 1)], [.int (-1000001)], mz_up (mz_up (mz_i xs Ln) 64 1 1) 68 1 1)) rfl ?_
        exact mz_ret rfl
      exact mz_ret rfl
  · by_cases h2 : 5 < a
    · refine ⟨(-1000001), mz_up (mz_i xs Ln) 64 1 1, mz_up (mz_up (mz_i xs Ln) 64 1 1) 68 1 1, ⟨?_, rfl⟩, ⟨?_, rfl⟩⟩
      · refine mz_go 1 (c' := (1, [some (.ref 0), some (.int a)], [.int a], (mz_i xs Ln))) rfl ?_
        refine mz_swd (c' := (97, [some (.ref 0), some (.int a)], [], (mz_i xs Ln))) rfl (Or.inr (Int32.lt_iff_toInt_lt.mp h2)) ?_
        refine mz_go 2 (c' := (99, [some (.ref 0), some (.int a)], [.int 1, .ref 0], (mz_i xs Ln))) rfl ?_
        refine mz_do (R := mz_r109) (as := [.ref 0, .int 1]) (rest := []) (r1 := some (.int (-1000001))) (m1 := mz_up (mz_i xs Ln) 64 1 1) rfl ⟨?_, rfl⟩ ?_
        · refine mz_go 3 (c' := (4, [some (.ref 0), some (.int 1)], [.int 6, .int 1, .int 1], (mz_i xs Ln))) rfl ?_
          refine mz_do (R := mz_r121) (as := [.int 1, .int 1, .int 6]) (rest := []) (r1 := some (.int 1)) (m1 := (mz_i xs Ln)) rfl ⟨?_, rfl⟩ ?_
          · refine mz_go 8 (c' := (15, [some (.int 1), some (.int 1), some (.int 6)], [.int 1], (mz_i xs Ln))) rfl ?_
            exact mz_ret rfl
          refine mz_go 12 (c' := (25, [some (.ref 0), some (.int 1)], [.int (-1000001)], mz_up (mz_i xs Ln) 64 1 1)) rfl ?_
          exact mz_ret rfl
        exact mz_ret rfl
      · refine mz_go 1 (c' := (1, [some (.ref 65), some (.int a)], [.int a], mz_up (mz_i xs Ln) 64 1 1)) rfl ?_
        refine mz_swd (c' := (83, [some (.ref 65), some (.int a)], [], mz_up (mz_i xs Ln) 64 1 1)) rfl (Or.inr (Int32.lt_iff_toInt_lt.mp h2)) ?_
        refine mz_go 2 (c' := (85, [some (.ref 65), some (.int a)], [.int 1, .ref 65], mz_up (mz_i xs Ln) 64 1 1)) rfl ?_
        refine mz_do (R := mz_r127) (as := [.ref 65, .int 1]) (rest := []) (r1 := some (.int (-1000001))) (m1 := mz_up (mz_up (mz_i xs Ln) 64 1 1) 68 1 1) rfl ⟨?_, rfl⟩ ?_
        · refine mz_go 11 (c' := (14, [some (.ref 65), some (.int 1)], [.int (-1000001)], mz_up (mz_up (mz_i xs Ln) 64 1 1) 68 1 1)) rfl ?_
          exact mz_ret rfl
        exact mz_ret rfl
    · have hl3 : (0 : Int) ≤ (a).toInt := Int32.le_iff_toInt_le.mp (Int32.not_lt.mp h1)
      have hu3 : (a).toInt ≤ (5 : Int) := Int32.le_iff_toInt_le.mp (Int32.not_lt.mp h2)
      obtain rfl | rfl | rfl | rfl | rfl | rfl : a = 0 ∨ a = 1 ∨ a = 2 ∨ a = 3 ∨ a = 4 ∨ a = 5 := by
          rcases (show a.toInt = 0 ∨ a.toInt = 1 ∨ a.toInt = 2 ∨ a.toInt = 3 ∨ a.toInt = 4 ∨ a.toInt = 5 by omega) with h | h | h | h | h | h
          · exact (Or.inl (Int32.toInt_inj.mp h))
          · exact (Or.inr (Or.inl (Int32.toInt_inj.mp h)))
          · exact (Or.inr (Or.inr (Or.inl (Int32.toInt_inj.mp h))))
          · exact (Or.inr (Or.inr (Or.inr (Or.inl (Int32.toInt_inj.mp h)))))
          · exact (Or.inr (Or.inr (Or.inr (Or.inr (Or.inl (Int32.toInt_inj.mp h))))))
          · exact (Or.inr (Or.inr (Or.inr (Or.inr (Or.inr (Int32.toInt_inj.mp h))))))
      · refine ⟨0, (mz_i xs Ln), (mz_i xs Ln), ⟨?_, rfl⟩, ⟨?_, rfl⟩⟩
        · refine mz_go 6 (c' := (50, [some (.ref 0), some (.int 0)], [.int 0], (mz_i xs Ln))) rfl ?_
          exact mz_ret rfl
        · refine mz_go 6 (c' := (46, [some (.ref 65), some (.int 0)], [.int 0], (mz_i xs Ln))) rfl ?_
          exact mz_ret rfl
      · refine ⟨0, (mz_i xs Ln), (mz_i xs Ln), ⟨?_, rfl⟩, ⟨?_, rfl⟩⟩
        · refine mz_go 5 (c' := (58, [some (.ref 0), some (.int 1)], [.ref 20], (mz_i xs Ln))) rfl ?_
          refine mz_do (R := mz_r3) (as := [.ref 20]) (rest := []) (r1 := some (.int 0)) (m1 := (mz_i xs Ln)) rfl ⟨?_, rfl⟩ ?_
          · refine mz_go 5 (c' := (9, [some (.ref 20)], [.int 0], (mz_i xs Ln))) rfl ?_
            exact mz_ret rfl
          exact mz_ret rfl
        · refine mz_go 3 (c' := (48, [some (.ref 65), some (.int 1)], [.ref 65], (mz_i xs Ln))) rfl ?_
          refine mz_do (R := mz_r183) (as := [.ref 65]) (rest := []) (r1 := some (.int 0)) (m1 := (mz_i xs Ln)) rfl ⟨?_, rfl⟩ ?_
          · refine mz_go 4 (c' := (7, [some (.ref 65)], [.int 0], (mz_i xs Ln))) rfl ?_
            exact mz_ret rfl
          refine mz_go 1 (c' := (52, [some (.ref 65), some (.int 1)], [.ref 65, .int 0], (mz_i xs Ln))) rfl ?_
          refine mz_do (R := mz_r184) (as := [.ref 65]) (rest := [.int 0]) (r1 := some (.int 0)) (m1 := (mz_i xs Ln)) rfl ⟨?_, rfl⟩ ?_
          · refine mz_go 4 (c' := (7, [some (.ref 65)], [.int 0], (mz_i xs Ln))) rfl ?_
            exact mz_ret rfl
          refine mz_go 1 (c' := (56, [some (.ref 65), some (.int 1)], [.int 0], (mz_i xs Ln))) rfl ?_
          exact mz_ret rfl
      · refine ⟨0, (mz_i xs Ln), (mz_i xs Ln), ⟨?_, rfl⟩, ⟨?_, rfl⟩⟩
        · refine mz_go 6 (c' := (72, [some (.ref 0), some (.int 2)], [.int 0], (mz_i xs Ln))) rfl ?_
          exact mz_ret rfl
        · refine mz_go 6 (c' := (63, [some (.ref 65), some (.int 2)], [.int 0], (mz_i xs Ln))) rfl ?_
          exact mz_ret rfl
      · refine ⟨0, (mz_i xs Ln), (mz_i xs Ln), ⟨?_, rfl⟩, ⟨?_, rfl⟩⟩
        · refine mz_go 5 (c' := (80, [some (.ref 0), some (.int 3)], [.int 0], (mz_i xs Ln))) rfl ?_
          exact mz_ret rfl
        · refine mz_go 6 (c' := (70, [some (.ref 65), some (.int 3)], [.int 0], (mz_i xs Ln))) rfl ?_
          exact mz_ret rfl
      · refine ⟨0, (mz_i xs Ln), (mz_i xs Ln), ⟨?_, rfl⟩, ⟨?_, rfl⟩⟩
        · refine mz_go 5 (c' := (88, [some (.ref 0), some (.int 4)], [.int 0], (mz_i xs Ln))) rfl ?_
          exact mz_ret rfl
        · refine mz_go 4 (c' := (75, [some (.ref 65), some (.int 4)], [.int 0], (mz_i xs Ln))) rfl ?_
          exact mz_ret rfl
      · refine ⟨1, (mz_i xs Ln), (mz_i xs Ln), ⟨?_, rfl⟩, ⟨?_, rfl⟩⟩
        · refine mz_go 5 (c' := (96, [some (.ref 0), some (.int 5)], [.int 1], (mz_i xs Ln))) rfl ?_
          exact mz_ret rfl
        · refine mz_go 6 (c' := (82, [some (.ref 65), some (.int 5)], [.int 1], (mz_i xs Ln))) rfl ?_
          exact mz_ret rfl
set_option maxHeartbeats 4000000 in
set_option maxRecDepth 100000 in
theorem p1_told (xs : Nat → Int32) (Ln : Nat) (a : Int32) : ∃ v m1 m2, mz_Me 100 mz_r108 [.ref 0, .int a] (mz_i xs Ln) (some (.int v)) m1 ∧ mz_Me 100 mz_r229 [.ref 65, .int a] m1 (some (.int v)) m2 := by
  by_cases h1 : a < 1
  · refine ⟨(-1000001), mz_up (mz_i xs Ln) 64 1 1, mz_up (mz_up (mz_i xs Ln) 64 1 1) 68 1 1, ⟨?_, rfl⟩, ⟨?_, rfl⟩⟩
    · refine mz_go 3 (c' := (4, [some (.ref 0), some (.int a)], [.int 6, .int 1, .int a], (mz_i xs Ln))) rfl ?_
      refine mz_do (R := mz_r121) (as := [.int a, .int 1, .int 6]) (rest := []) (r1 := some (.int 0)) (m1 := (mz_i xs Ln)) rfl ⟨?_, rfl⟩ ?_
      · refine mz_go 3 (c' := (if a < 1 then 14 else 5, [some (.int a), some (.int 1), some (.int 6)], [], (mz_i xs Ln))) rfl ?_
        refine mz_ifT h1 ?_
        refine mz_go 1 (c' := (15, [some (.int a), some (.int 1), some (.int 6)], [.int 0], (mz_i xs Ln))) rfl ?_
        exact mz_ret rfl
      refine mz_go 3 (c' := (21, [some (.ref 0), some (.int a)], [.int 1, .ref 0], (mz_i xs Ln))) rfl ?_
      refine mz_do (R := mz_r109) (as := [.ref 0, .int 1]) (rest := []) (r1 := some (.int (-1000001))) (m1 := mz_up (mz_i xs Ln) 64 1 1) rfl ⟨?_, rfl⟩ ?_
      · refine mz_go 3 (c' := (4, [some (.ref 0), some (.int 1)], [.int 6, .int 1, .int 1], (mz_i xs Ln))) rfl ?_
        refine mz_do (R := mz_r121) (as := [.int 1, .int 1, .int 6]) (rest := []) (r1 := some (.int 1)) (m1 := (mz_i xs Ln)) rfl ⟨?_, rfl⟩ ?_
        · refine mz_go 8 (c' := (15, [some (.int 1), some (.int 1), some (.int 6)], [.int 1], (mz_i xs Ln))) rfl ?_
          exact mz_ret rfl
        refine mz_go 12 (c' := (25, [some (.ref 0), some (.int 1)], [.int (-1000001)], mz_up (mz_i xs Ln) 64 1 1)) rfl ?_
        exact mz_ret rfl
      exact mz_ret rfl
    · refine mz_go 3 (c' := (4, [some (.ref 65), some (.int a)], [.int 6, .int 1, .int a], mz_up (mz_i xs Ln) 64 1 1)) rfl ?_
      refine mz_do (R := mz_r128) (as := [.int a, .int 1, .int 6]) (rest := []) (r1 := some (.int 0)) (m1 := mz_up (mz_i xs Ln) 64 1 1) rfl ⟨?_, rfl⟩ ?_
      · refine mz_go 3 (c' := (if a < 1 then 14 else 5, [some (.int a), some (.int 1), some (.int 6)], [], mz_up (mz_i xs Ln) 64 1 1)) rfl ?_
        refine mz_ifT h1 ?_
        refine mz_go 1 (c' := (15, [some (.int a), some (.int 1), some (.int 6)], [.int 0], mz_up (mz_i xs Ln) 64 1 1)) rfl ?_
        exact mz_ret rfl
      refine mz_go 3 (c' := (21, [some (.ref 65), some (.int a)], [.int 1, .ref 65], mz_up (mz_i xs Ln) 64 1 1)) rfl ?_
      refine mz_do (R := mz_r127) (as := [.ref 65, .int 1]) (rest := []) (r1 := some (.int (-1000001))) (m1 := mz_up (mz_up (mz_i xs Ln) 64 1 1) 68 1 1) rfl ⟨?_, rfl⟩ ?_
      · refine mz_go 11 (c' := (14, [some (.ref 65), some (.int 1)], [.int (-1000001)], mz_up (mz_up (mz_i xs Ln) 64 1 1) 68 1 1)) rfl ?_
        exact mz_ret rfl
      exact mz_ret rfl
  · by_cases h2 : 6 < a
    · refine ⟨(-1000001), mz_up (mz_i xs Ln) 64 1 1, mz_up (mz_up (mz_i xs Ln) 64 1 1) 68 1 1, ⟨?_, rfl⟩, ⟨?_, rfl⟩⟩
      · refine mz_go 3 (c' := (4, [some (.ref 0), some (.int a)], [.int 6, .int 1, .int a], (mz_i xs Ln))) rfl ?_
        refine mz_do (R := mz_r121) (as := [.int a, .int 1, .int 6]) (rest := []) (r1 := some (.int 0)) (m1 := (mz_i xs Ln)) rfl ⟨?_, rfl⟩ ?_
        · refine mz_go 3 (c' := (if a < 1 then 14 else 5, [some (.int a), some (.int 1), some (.int 6)], [], (mz_i xs Ln))) rfl ?_
          refine mz_ifF h1 ?_
          refine mz_go 3 (c' := (if 6 < a then 14 else 10, [some (.int a), some (.int 1), some (.int 6)], [], (mz_i xs Ln))) rfl ?_
          refine mz_ifT h2 ?_
          refine mz_go 1 (c' := (15, [some (.int a), some (.int 1), some (.int 6)], [.int 0], (mz_i xs Ln))) rfl ?_
          exact mz_ret rfl
        refine mz_go 3 (c' := (21, [some (.ref 0), some (.int a)], [.int 1, .ref 0], (mz_i xs Ln))) rfl ?_
        refine mz_do (R := mz_r109) (as := [.ref 0, .int 1]) (rest := []) (r1 := some (.int (-1000001))) (m1 := mz_up (mz_i xs Ln) 64 1 1) rfl ⟨?_, rfl⟩ ?_
        · refine mz_go 3 (c' := (4, [some (.ref 0), some (.int 1)], [.int 6, .int 1, .int 1], (mz_i xs Ln))) rfl ?_
          refine mz_do (R := mz_r121) (as := [.int 1, .int 1, .int 6]) (rest := []) (r1 := some (.int 1)) (m1 := (mz_i xs Ln)) rfl ⟨?_, rfl⟩ ?_
          · refine mz_go 8 (c' := (15, [some (.int 1), some (.int 1), some (.int 6)], [.int 1], (mz_i xs Ln))) rfl ?_
            exact mz_ret rfl
          refine mz_go 12 (c' := (25, [some (.ref 0), some (.int 1)], [.int (-1000001)], mz_up (mz_i xs Ln) 64 1 1)) rfl ?_
          exact mz_ret rfl
        exact mz_ret rfl
      · refine mz_go 3 (c' := (4, [some (.ref 65), some (.int a)], [.int 6, .int 1, .int a], mz_up (mz_i xs Ln) 64 1 1)) rfl ?_
        refine mz_do (R := mz_r128) (as := [.int a, .int 1, .int 6]) (rest := []) (r1 := some (.int 0)) (m1 := mz_up (mz_i xs Ln) 64 1 1) rfl ⟨?_, rfl⟩ ?_
        · refine mz_go 3 (c' := (if a < 1 then 14 else 5, [some (.int a), some (.int 1), some (.int 6)], [], mz_up (mz_i xs Ln) 64 1 1)) rfl ?_
          refine mz_ifF h1 ?_
          refine mz_go 3 (c' := (if 6 < a then 14 else 10, [some (.int a), some (.int 1), some (.int 6)], [], mz_up (mz_i xs Ln) 64 1 1)) rfl ?_
          refine mz_ifT h2 ?_
          refine mz_go 1 (c' := (15, [some (.int a), some (.int 1), some (.int 6)], [.int 0], mz_up (mz_i xs Ln) 64 1 1)) rfl ?_
          exact mz_ret rfl
        refine mz_go 3 (c' := (21, [some (.ref 65), some (.int a)], [.int 1, .ref 65], mz_up (mz_i xs Ln) 64 1 1)) rfl ?_
        refine mz_do (R := mz_r127) (as := [.ref 65, .int 1]) (rest := []) (r1 := some (.int (-1000001))) (m1 := mz_up (mz_up (mz_i xs Ln) 64 1 1) 68 1 1) rfl ⟨?_, rfl⟩ ?_
        · refine mz_go 11 (c' := (14, [some (.ref 65), some (.int 1)], [.int (-1000001)], mz_up (mz_up (mz_i xs Ln) 64 1 1) 68 1 1)) rfl ?_
          exact mz_ret rfl
        exact mz_ret rfl
    · have hl3 : (1 : Int) ≤ (a).toInt := Int32.le_iff_toInt_le.mp (Int32.not_lt.mp h1)
      have hu3 : (a).toInt ≤ (6 : Int) := Int32.le_iff_toInt_le.mp (Int32.not_lt.mp h2)
      obtain rfl | rfl | rfl | rfl | rfl | rfl : a = 1 ∨ a = 2 ∨ a = 3 ∨ a = 4 ∨ a = 5 ∨ a = 6 := by
          rcases (show a.toInt = 1 ∨ a.toInt = 2 ∨ a.toInt = 3 ∨ a.toInt = 4 ∨ a.toInt = 5 ∨ a.toInt = 6 by omega) with h | h | h | h | h | h
          · exact (Or.inl (Int32.toInt_inj.mp h))
          · exact (Or.inr (Or.inl (Int32.toInt_inj.mp h)))
          · exact (Or.inr (Or.inr (Or.inl (Int32.toInt_inj.mp h))))
          · exact (Or.inr (Or.inr (Or.inr (Or.inl (Int32.toInt_inj.mp h)))))
          · exact (Or.inr (Or.inr (Or.inr (Or.inr (Or.inl (Int32.toInt_inj.mp h))))))
          · exact (Or.inr (Or.inr (Or.inr (Or.inr (Or.inr (Int32.toInt_inj.mp h))))))
      · refine ⟨0, (mz_i xs Ln), (mz_i xs Ln), ⟨?_, rfl⟩, ⟨?_, rfl⟩⟩
        · refine mz_go 3 (c' := (4, [some (.ref 0), some (.int 1)], [.int 6, .int 1, .int 1], (mz_i xs Ln))) rfl ?_
          refine mz_do (R := mz_r121) (as := [.int 1, .int 1, .int 6]) (rest := []) (r1 := some (.int 1)) (m1 := (mz_i xs Ln)) rfl ⟨?_, rfl⟩ ?_
          · refine mz_go 8 (c' := (15, [some (.int 1), some (.int 1), some (.int 6)], [.int 1], (mz_i xs Ln))) rfl ?_
            exact mz_ret rfl
          refine mz_go 6 (c' := (24, [some (.ref 0), some (.int 1)], [.int 0], (mz_i xs Ln))) rfl ?_
          exact mz_ret rfl
        · refine mz_go 3 (c' := (4, [some (.ref 65), some (.int 1)], [.int 6, .int 1, .int 1], (mz_i xs Ln))) rfl ?_
          refine mz_do (R := mz_r128) (as := [.int 1, .int 1, .int 6]) (rest := []) (r1 := some (.int 1)) (m1 := (mz_i xs Ln)) rfl ⟨?_, rfl⟩ ?_
          · refine mz_go 8 (c' := (15, [some (.int 1), some (.int 1), some (.int 6)], [.int 1], (mz_i xs Ln))) rfl ?_
            exact mz_ret rfl
          refine mz_go 6 (c' := (24, [some (.ref 65), some (.int 1)], [.int 0], (mz_i xs Ln))) rfl ?_
          exact mz_ret rfl
      · refine ⟨0, (mz_i xs Ln), (mz_i xs Ln), ⟨?_, rfl⟩, ⟨?_, rfl⟩⟩
        · refine mz_go 3 (c' := (4, [some (.ref 0), some (.int 2)], [.int 6, .int 1, .int 2], (mz_i xs Ln))) rfl ?_
          refine mz_do (R := mz_r121) (as := [.int 2, .int 1, .int 6]) (rest := []) (r1 := some (.int 1)) (m1 := (mz_i xs Ln)) rfl ⟨?_, rfl⟩ ?_
          · refine mz_go 8 (c' := (15, [some (.int 2), some (.int 1), some (.int 6)], [.int 1], (mz_i xs Ln))) rfl ?_
            exact mz_ret rfl
          refine mz_go 6 (c' := (24, [some (.ref 0), some (.int 2)], [.int 0], (mz_i xs Ln))) rfl ?_
          exact mz_ret rfl
        · refine mz_go 3 (c' := (4, [some (.ref 65), some (.int 2)], [.int 6, .int 1, .int 2], (mz_i xs Ln))) rfl ?_
          refine mz_do (R := mz_r128) (as := [.int 2, .int 1, .int 6]) (rest := []) (r1 := some (.int 1)) (m1 := (mz_i xs Ln)) rfl ⟨?_, rfl⟩ ?_
          · refine mz_go 8 (c' := (15, [some (.int 2), some (.int 1), some (.int 6)], [.int 1], (mz_i xs Ln))) rfl ?_
            exact mz_ret rfl
          refine mz_go 6 (c' := (24, [some (.ref 65), some (.int 2)], [.int 0], (mz_i xs Ln))) rfl ?_
          exact mz_ret rfl
      · refine ⟨0, (mz_i xs Ln), (mz_i xs Ln), ⟨?_, rfl⟩, ⟨?_, rfl⟩⟩
        · refine mz_go 3 (c' := (4, [some (.ref 0), some (.int 3)], [.int 6, .int 1, .int 3], (mz_i xs Ln))) rfl ?_
          refine mz_do (R := mz_r121) (as := [.int 3, .int 1, .int 6]) (rest := []) (r1 := some (.int 1)) (m1 := (mz_i xs Ln)) rfl ⟨?_, rfl⟩ ?_
          · refine mz_go 8 (c' := (15, [some (.int 3), some (.int 1), some (.int 6)], [.int 1], (mz_i xs Ln))) rfl ?_
            exact mz_ret rfl
          refine mz_go 6 (c' := (24, [some (.ref 0), some (.int 3)], [.int 0], (mz_i xs Ln))) rfl ?_
          exact mz_ret rfl
        · refine mz_go 3 (c' := (4, [some (.ref 65), some (.int 3)], [.int 6, .int 1, .int 3], (mz_i xs Ln))) rfl ?_
          refine mz_do (R := mz_r128) (as := [.int 3, .int 1, .int 6]) (rest := []) (r1 := some (.int 1)) (m1 := (mz_i xs Ln)) rfl ⟨?_, rfl⟩ ?_
          · refine mz_go 8 (c' := (15, [some (.int 3), some (.int 1), some (.int 6)], [.int 1], (mz_i xs Ln))) rfl ?_
            exact mz_ret rfl
          refine mz_go 6 (c' := (24, [some (.ref 65), some (.int 3)], [.int 0], (mz_i xs Ln))) rfl ?_
          exact mz_ret rfl
      · refine ⟨0, (mz_i xs Ln), (mz_i xs Ln), ⟨?_, rfl⟩, ⟨?_, rfl⟩⟩
        · refine mz_go 3 (c' := (4, [some (.ref 0), some (.int 4)], [.int 6, .int 1, .int 4], (mz_i xs Ln))) rfl ?_
          refine mz_do (R := mz_r121) (as := [.int 4, .int 1, .int 6]) (rest := []) (r1 := some (.int 1)) (m1 := (mz_i xs Ln)) rfl ⟨?_, rfl⟩ ?_
          · refine mz_go 8 (c' := (15, [some (.int 4), some (.int 1), some (.int 6)], [.int 1], (mz_i xs Ln))) rfl ?_
            exact mz_ret rfl
          refine mz_go 6 (c' := (24, [some (.ref 0), some (.int 4)], [.int 0], (mz_i xs Ln))) rfl ?_
          exact mz_ret rfl
        · refine mz_go 3 (c' := (4, [some (.ref 65), some (.int 4)], [.int 6, .int 1, .int 4], (mz_i xs Ln))) rfl ?_
          refine mz_do (R := mz_r128) (as := [.int 4, .int 1, .int 6]) (rest := []) (r1 := some (.int 1)) (m1 := (mz_i xs Ln)) rfl ⟨?_, rfl⟩ ?_
          · refine mz_go 8 (c' := (15, [some (.int 4), some (.int 1), some (.int 6)], [.int 1], (mz_i xs Ln))) rfl ?_
            exact mz_ret rfl
          refine mz_go 6 (c' := (24, [some (.ref 65), some (.int 4)], [.int 0], (mz_i xs Ln))) rfl ?_
          exact mz_ret rfl
      · refine ⟨0, (mz_i xs Ln), (mz_i xs Ln), ⟨?_, rfl⟩, ⟨?_, rfl⟩⟩
        · refine mz_go 3 (c' := (4, [some (.ref 0), some (.int 5)], [.int 6, .int 1, .int 5], (mz_i xs Ln))) rfl ?_
          refine mz_do (R := mz_r121) (as := [.int 5, .int 1, .int 6]) (rest := []) (r1 := some (.int 1)) (m1 := (mz_i xs Ln)) rfl ⟨?_, rfl⟩ ?_
          · refine mz_go 8 (c' := (15, [some (.int 5), some (.int 1), some (.int 6)], [.int 1], (mz_i xs Ln))) rfl ?_
            exact mz_ret rfl
          refine mz_go 6 (c' := (24, [some (.ref 0), some (.int 5)], [.int 0], (mz_i xs Ln))) rfl ?_
          exact mz_ret rfl
        · refine mz_go 3 (c' := (4, [some (.ref 65), some (.int 5)], [.int 6, .int 1, .int 5], (mz_i xs Ln))) rfl ?_
          refine mz_do (R := mz_r128) (as := [.int 5, .int 1, .int 6]) (rest := []) (r1 := some (.int 1)) (m1 := (mz_i xs Ln)) rfl ⟨?_, rfl⟩ ?_
          · refine mz_go 8 (c' := (15, [some (.int 5), some (.int 1), some (.int 6)], [.int 1], (mz_i xs Ln))) rfl ?_
            exact mz_ret rfl
          refine mz_go 6 (c' := (24, [some (.ref 65), some (.int 5)], [.int 0], (mz_i xs Ln))) rfl ?_
          exact mz_ret rfl
      · refine ⟨0, (mz_i xs Ln), (mz_i xs Ln), ⟨?_, rfl⟩, ⟨?_, rfl⟩⟩
        · refine mz_go 3 (c' := (4, [some (.ref 0), some (.int 6)], [.int 6, .int 1, .int 6], (mz_i xs Ln))) rfl ?_
          refine mz_do (R := mz_r121) (as := [.int 6, .int 1, .int 6]) (rest := []) (r1 := some (.int 1)) (m1 := (mz_i xs Ln)) rfl ⟨?_, rfl⟩ ?_
          · refine mz_go 8 (c' := (15, [some (.int 6), some (.int 1), some (.int 6)], [.int 1], (mz_i xs Ln))) rfl ?_
            exact mz_ret rfl
          refine mz_go 6 (c' := (24, [some (.ref 0), some (.int 6)], [.int 0], (mz_i xs Ln))) rfl ?_
          exact mz_ret rfl
        · refine mz_go 3 (c' := (4, [some (.ref 65), some (.int 6)], [.int 6, .int 1, .int 6], (mz_i xs Ln))) rfl ?_
          refine mz_do (R := mz_r128) (as := [.int 6, .int 1, .int 6]) (rest := []) (r1 := some (.int 1)) (m1 := (mz_i xs Ln)) rfl ⟨?_, rfl⟩ ?_
          · refine mz_go 8 (c' := (15, [some (.int 6), some (.int 1), some (.int 6)], [.int 1], (mz_i xs Ln))) rfl ?_
            exact mz_ret rfl
          refine mz_go 6 (c' := (24, [some (.ref 65), some (.int 6)], [.int 0], (mz_i xs Ln))) rfl ?_
          exact mz_ret rfl
