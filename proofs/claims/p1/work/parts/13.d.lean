set_option maxHeartbeats 4000000 in
set_option maxRecDepth 100000 in
theorem p1_share (xs : Nat → Int32) (Ln : Nat) (a : Int32) : ∃ v m1 m2, mz_Me 100 mz_r87 [.ref 0, .int a] (mz_i xs Ln) (some (.int v)) m1 ∧ mz_Me 100 mz_r194 [.ref 65, .int a] m1 (some (.int v)) m2 := by
  by_cases h1 : a = 9
  · subst h1
    refine ⟨(-1000002), mz_up (mz_i xs Ln) 64 2 1, mz_up (mz_up (mz_i xs Ln) 64 2 1) 68 2 1, ⟨?_, rfl⟩, ⟨?_, rfl⟩⟩
    · refine mz_go 1 (c' := (1, [some (.ref 0), some (.int 9)], [.int 9], (mz_i xs Ln))) rfl ?_
      refine mz_do (R := mz_r118) (as := [.int 9]) (rest := []) (r1 := some (.int 1)) (m1 := (mz_i xs Ln)) rfl ⟨?_, rfl⟩ ?_
      · refine mz_go 5 (c' := (20, [some (.int 9)], [.int 1], (mz_i xs Ln))) rfl ?_
        exact mz_ret rfl
      refine mz_go 4 (c' := (20, [some (.ref 0), some (.int 9)], [.ref 20], (mz_i xs Ln))) rfl ?_
      refine mz_do (R := mz_r2) (as := [.ref 20]) (rest := []) (r1 := some (.int 0)) (m1 := (mz_i xs Ln)) rfl ⟨?_, rfl⟩ ?_
      · refine mz_go 4 (c' := (19, [some (.ref 20)], [.int 0], (mz_i xs Ln))) rfl ?_
        exact mz_ret rfl
      refine mz_go 3 (c' := (28, [some (.ref 0), some (.int 9)], [.int 2, .ref 0], (mz_i xs Ln))) rfl ?_
      refine mz_do (R := mz_r109) (as := [.ref 0, .int 2]) (rest := []) (r1 := some (.int (-1000002))) (m1 := mz_up (mz_i xs Ln) 64 2 1) rfl ⟨?_, rfl⟩ ?_
      · refine mz_go 3 (c' := (4, [some (.ref 0), some (.int 2)], [.int 6, .int 1, .int 2], (mz_i xs Ln))) rfl ?_
        refine mz_do (R := mz_r121) (as := [.int 2, .int 1, .int 6]) (rest := []) (r1 := some (.int 1)) (m1 := (mz_i xs Ln)) rfl ⟨?_, rfl⟩ ?_
        · refine mz_go 8 (c' := (15, [some (.int 2), some (.int 1), some (.int 6)], [.int 1], (mz_i xs Ln))) rfl ?_
          exact mz_ret rfl
        refine mz_go 12 (c' := (25, [some (.ref 0), some (.int 2)], [.int (-1000002)], mz_up (mz_i xs Ln) 64 2 1)) rfl ?_
        exact mz_ret rfl
      exact mz_ret rfl
    · refine mz_go 1 (c' := (1, [some (.ref 65), some (.int 9)], [.int 9], mz_up (mz_i xs Ln) 64 2 1)) rfl ?_
      refine mz_do (R := mz_r188) (as := [.int 9]) (rest := []) (r1 := some (.int 1)) (m1 := mz_up (mz_i xs Ln) 64 2 1) rfl ⟨?_, rfl⟩ ?_
      · refine mz_go 3 (c' := (3, [some (.int 9)], [.int 5, .int 0, .int 9], mz_up (mz_i xs Ln) 64 2 1)) rfl ?_
        refine mz_do (R := mz_r128) (as := [.int 9, .int 0, .int 5]) (rest := []) (r1 := some (.int 0)) (m1 := mz_up (mz_i xs Ln) 64 2 1) rfl ⟨?_, rfl⟩ ?_
        · refine mz_go 7 (c' := (15, [some (.int 9), some (.int 0), some (.int 5)], [.int 0], mz_up (mz_i xs Ln) 64 2 1)) rfl ?_
          exact mz_ret rfl
        refine mz_go 6 (c' := (20, [some (.int 9)], [.int 1], mz_up (mz_i xs Ln) 64 2 1)) rfl ?_
        exact mz_ret rfl
      refine mz_go 2 (c' := (14, [some (.ref 65), some (.int 9)], [.ref 65], mz_up (mz_i xs Ln) 64 2 1)) rfl ?_
      refine mz_do (R := mz_r185) (as := [.ref 65]) (rest := []) (r1 := some (.int 0)) (m1 := mz_up (mz_i xs Ln) 64 2 1) rfl ⟨?_, rfl⟩ ?_
      · refine mz_go 1 (c' := (1, [some (.ref 65)], [.ref 65], mz_up (mz_i xs Ln) 64 2 1)) rfl ?_
        refine mz_do (R := mz_r183) (as := [.ref 65]) (rest := []) (r1 := some (.int 0)) (m1 := mz_up (mz_i xs Ln) 64 2 1) rfl ⟨?_, rfl⟩ ?_
        · refine mz_go 4 (c' := (7, [some (.ref 65)], [.int 0], mz_up (mz_i xs Ln) 64 2 1)) rfl ?_
          exact mz_ret rfl
        refine mz_go 2 (c' := (12, [some (.ref 65)], [.int 0], mz_up (mz_i xs Ln) 64 2 1)) rfl ?_
        exact mz_ret rfl
      refine mz_go 3 (c' := (30, [some (.ref 65), some (.int 9)], [.int 2, .ref 65], mz_up (mz_i xs Ln) 64 2 1)) rfl ?_
      refine mz_do (R := mz_r127) (as := [.ref 65, .int 2]) (rest := []) (r1 := some (.int (-1000002))) (m1 := mz_up (mz_up (mz_i xs Ln) 64 2 1) 68 2 1) rfl ⟨?_, rfl⟩ ?_
      · refine mz_go 11 (c' := (14, [some (.ref 65), some (.int 2)], [.int (-1000002)], mz_up (mz_up (mz_i xs Ln) 64 2 1) 68 2 1)) rfl ?_
        exact mz_ret rfl
      exact mz_ret rfl
  · by_cases h2 : a < 0
    · refine ⟨(-1000001), mz_up (mz_i xs Ln) 64 1 1, mz_up (mz_up (mz_i xs Ln) 64 1 1) 68 1 1, ⟨?_, rfl⟩, ⟨?_, rfl⟩⟩
      · refine mz_go 1 (c' := (1, [some (.ref 0), some (.int a)], [.int a], (mz_i xs Ln))) rfl ?_
        refine mz_do (R := mz_r118) (as := [.int a]) (rest := []) (r1 := some (.int 0)) (m1 := (mz_i xs Ln)) rfl ⟨?_, rfl⟩ ?_
        · refine mz_go 3 (c' := (if a = 9 then 15 else 6, [some (.int a)], [], (mz_i xs Ln))) rfl ?_
          refine mz_ifF h1 ?_
          refine mz_go 3 (c' := (9, [some (.int a)], [.int 5, .int 0, .int a], (mz_i xs Ln))) rfl ?_
          refine mz_do (R := mz_r121) (as := [.int a, .int 0, .int 5]) (rest := []) (r1 := some (.int 0)) (m1 := (mz_i xs Ln)) rfl ⟨?_, rfl⟩ ?_
          · refine mz_go 3 (c' := (if a < 0 then 14 else 5, [some (.int a), some (.int 0), some (.int 5)], [], (mz_i xs Ln))) rfl ?_
            refine mz_ifT h2 ?_
            refine mz_go 1 (c' := (15, [some (.int a), some (.int 0), some (.int 5)], [.int 0], (mz_i xs Ln))) rfl ?_
            exact mz_ret rfl
          refine mz_go 2 (c' := (20, [some (.int a)], [.int 0], (mz_i xs Ln))) rfl ?_
          exact mz_ret rfl
        refine mz_go 3 (c' := (9, [some (.ref 0), some (.int a)], [.int 1, .ref 0], (mz_i xs Ln))) rfl ?_
        refine mz_do (R := mz_r109) (as := [.ref 0, .int 1]) (rest := []) (r1 := some (.int (-1000001))) (m1 := mz_up (mz_i xs Ln) 64 1 1) rfl ⟨?_, rfl⟩ ?_
        · refine mz_go 3 (c' := (4, [some (.ref 0), some (.int 1)], [.int 6, .int 1, .int 1], (mz_i xs Ln))) rfl ?_
          refine mz_do (R := mz_r121) (as := [.int 1, .int 1, .int 6]) (rest := []) (r1 := some (.int 1)) (m1 := (mz_i xs Ln)) rfl ⟨?_, rfl⟩ ?_
          · refine mz_go 8 (c' := (15, [some (.int 1), some (.int 1), some (.int 6)], [.int 1], (mz_i xs Ln))) rfl ?_
            exact mz_ret rfl
          refine mz_go 12 (c' := (25, [some (.ref 0), some (.int 1)], [.int (-1000001)], mz_up (mz_i xs Ln) 64 1 1)) rfl ?_
          exact mz_ret rfl
        exact mz_ret rfl
      · refine mz_go 1 (c' := (1, [some (.ref 65), some (.int a)], [.int a], mz_up (mz_i xs Ln) 64 1 1)) rfl ?_
        refine mz_do (R := mz_r188) (as := [.int a]) (rest := []) (r1 := some (.int 0)) (m1 := mz_up (mz_i xs Ln) 64 1 1) rfl ⟨?_, rfl⟩ ?_
        · refine mz_go 3 (c' := (3, [some (.int a)], [.int 5, .int 0, .int a], mz_up (mz_i xs Ln) 64 1 1)) rfl ?_
          refine mz_do (R := mz_r128) (as := [.int a, .int 0, .int 5]) (rest := []) (r1 := some (.int 0)) (m1 := mz_up (mz_i xs Ln) 64 1 1) rfl ⟨?_, rfl⟩ ?_
          · refine mz_go 3 (c' := (if a < 0 then 14 else 5, [some (.int a), some (.int 0), some (.int 5)], [], mz_up (mz_i xs Ln) 64 1 1)) rfl ?_
            refine mz_ifT h2 ?_
            refine mz_go 1 (c' := (15, [some (.int a), some (.int 0), some (.int 5)], [.int 0], mz_up (mz_i xs Ln) 64 1 1)) rfl ?_
            exact mz_ret rfl
          refine mz_go 4 (c' := (if a = 9 then 15 else 19, [some (.int a)], [], mz_up (mz_i xs Ln) 64 1 1)) rfl ?_
          refine mz_ifF h1 ?_
          refine mz_go 1 (c' := (20, [some (.int a)], [.int 0], mz_up (mz_i xs Ln) 64 1 1)) rfl ?_
          exact mz_ret rfl
        refine mz_go 3 (c' := (9, [some (.ref 65), some (.int a)], [.int 1, .ref 65], mz_up (mz_i xs Ln) 64 1 1)) rfl ?_
        refine mz_do (R := mz_r127) (as := [.ref 65, .int 1]) (rest := []) (r1 := some (.int (-1000001))) (m1 := mz_up (mz_up (mz_i xs Ln) 64 1 1) 68 1 1) rfl ⟨?_, rfl⟩ ?_
        · refine mz_go 11 (c' := (14, [some (.ref 65), some (.int 1)], [.int (-1000001)], mz_up (mz_up (mz_i xs Ln) 64 1 1) 68 1 1)) rfl ?_
          exact mz_ret rfl
        exact mz_ret rfl
    · by_cases h3 : 5 < a
      · refine ⟨(-1000001), mz_up (mz_i xs Ln) 64 1 1, mz_up (mz_up (mz_i xs Ln) 64 1 1) 68 1 1, ⟨?_, rfl⟩, ⟨?_, rfl⟩⟩
        · refine mz_go 1 (c' := (1, [some (.ref 0), some (.int a)], [.int a], (mz_i xs Ln))) rfl ?_
          refine mz_do (R := mz_r118) (as := [.int a]) (rest := []) (r1 := some (.int 0)) (m1 := (mz_i xs Ln)) rfl ⟨?_, rfl⟩ ?_
          · refine mz_go 3 (c' := (if a = 9 then 15 else 6, [some (.int a)], [], (mz_i xs Ln))) rfl ?_
            refine mz_ifF h1 ?_
            refine mz_go 3 (c' := (9, [some (.int a)], [.int 5, .int 0, .int a], (mz_i xs Ln))) rfl ?_
            refine mz_do (R := mz_r121) (as := [.int a, .int 0, .int 5]) (rest := []) (r1 := some (.int 0)) (m1 := (mz_i xs Ln)) rfl ⟨?_, rfl⟩ ?_
            · refine mz_go 3 (c' := (if a < 0 then 14 else 5, [some (.int a), some (.int 0), some (.int 5)], [], (mz_i xs Ln))) rfl ?_
              refine mz_ifF h2 ?_
              refine mz_go 3 (c' := (if 5 < a then 14 else 10, [some (.int a), some (.int 0), some (.int 5)], [], (mz_i xs Ln))) rfl ?_
              refine mz_ifT h3 ?_
              refine mz_go 1 (c' := (15, [some (.int a), some (.int 0), some (.int 5)], [.int 0], (mz_i xs Ln))) rfl ?_
              exact mz_ret rfl
            refine mz_go 2 (c' := (20, [some (.int a)], [.int 0], (mz_i xs Ln))) rfl ?_
            exact mz_ret rfl
          refine mz_go 3 (c' := (9, [some (.ref 0), some (.int a)], [.int 1, .ref 0], (mz_i xs Ln))) rfl ?_
          refine mz_do (R := mz_r109) (as := [.ref 0, .int 1]) (rest := []) (r1 := some (.int (-1000001))) (m1 := mz_up (mz_i xs Ln) 64 1 1) rfl ⟨?_, rfl⟩ ?_
          · refine mz_go 3 (c' := (4, [some (.ref 0), some (.int 1)], [.int 6, .int 1, .int 1], (mz_i xs Ln))) rfl ?_
            refine mz_do (R := mz_r121) (as := [.int 1, .int 1, .int 6]) (rest := []) (r1 := some (.int 1)) (m1 := (mz_i xs Ln)) rfl ⟨?_, rfl⟩ ?_
            · refine mz_go 8 (c' := (15, [some (.int 1), some (.int 1), some (.int 6)], [.int 1], (mz_i xs Ln))) rfl ?_
              exact mz_ret rfl
            refine mz_go 12 (c' := (25, [some (.ref 0), some (.int 1)], [.int (-1000001)], mz_up (mz_i xs Ln) 64 1 1)) rfl ?_
            exact mz_ret rfl
          exact mz_ret rfl
        · refine mz_go 1 (c' := (1, [some (.ref 65), some (.int a)], [.int a], mz_up (mz_i xs Ln) 64 1 1)) rfl ?_
          refine mz_do (R := mz_r188) (as := [.int a]) (rest := []) (r1 := some (.int 0)) (m1 := mz_up (mz_i xs Ln) 64 1 1) rfl ⟨?_, rfl⟩ ?_
          · refine mz_go 3 (c' := (3, [some (.int a)], [.int 5, .int 0, .int a], mz_up (mz_i xs Ln) 64 1 1)) rfl ?_
            refine mz_do (R := mz_r128) (as := [.int a, .int 0, .int 5]) (rest := []) (r1 := some (.int 0)) (m1 := mz_up (mz_i xs Ln) 64 1 1) rfl ⟨?_, rfl⟩ ?_
            · refine mz_go 3 (c' := (if a < 0 then 14 else 5, [some (.int a), some (.int 0), some (.int 5)], [], mz_up (mz_i xs Ln) 64 1 1)) rfl ?_
              refine mz_ifF h2 ?_
              refine mz_go 3 (c' := (if 5 < a then 14 else 10, [some (.int a), some (.int 0), some (.int 5)], [], mz_up (mz_i xs Ln) 64 1 1)) rfl ?_
              refine mz_ifT h3 ?_
              refine mz_go 1 (c' := (15, [some (.int a), some (.int 0), some (.int 5)], [.int 0], mz_up (mz_i xs Ln) 64 1 1)) rfl ?_
              exact mz_ret rfl
            refine mz_go 4 (c' := (if a = 9 then 15 else 19, [some (.int a)], [], mz_up (mz_i xs Ln) 64 1 1)) rfl ?_
            refine mz_ifF h1 ?_
            refine mz_go 1 (c' := (20, [some (.int a)], [.int 0], mz_up (mz_i xs Ln) 64 1 1)) rfl ?_
            exact mz_ret rfl
          refine mz_go 3 (c' := (9, [some (.ref 65), some (.int a)], [.int 1, .ref 65], mz_up (mz_i xs Ln) 64 1 1)) rfl ?_
          refine mz_do (R := mz_r127) (as := [.ref 65, .int 1]) (rest := []) (r1 := some (.int (-1000001))) (m1 := mz_up (mz_up (mz_i xs Ln) 64 1 1) 68 1 1) rfl ⟨?_, rfl⟩ ?_
          · refine mz_go 11 (c' := (14, [some (.ref 65), some (.int 1)], [.int (-1000001)], mz_up (mz_up (mz_i xs Ln) 64 1 1) 68 1 1)) rfl ?_
            exact mz_ret rfl
          exact mz_ret rfl
      · refine ⟨(-1000002), mz_up (mz_i xs Ln) 64 2 1, mz_up (mz_up (mz_i xs Ln) 64 2 1) 68 2 1, ⟨?_, rfl⟩, ⟨?_, rfl⟩⟩
        · refine mz_go 1 (c' := (1, [some (.ref 0), some (.int a)], [.int a], (mz_i xs Ln))) rfl ?_
          refine mz_do (R := mz_r118) (as := [.int a]) (rest := []) (r1 := some (.int 1)) (m1 := (mz_i xs Ln)) rfl ⟨?_, rfl⟩ ?_
          · refine mz_go 3 (c' := (if a = 9 then 15 else 6, [some (.int a)], [], (mz_i xs Ln))) rfl ?_
            refine mz_ifF h1 ?_
            refine mz_go 3 (c' := (9, [some (.int a)], [.int 5, .int 0, .int a], (mz_i xs Ln))) rfl ?_
            refine mz_do (R := mz_r121) (as := [.int a, .int 0, .int 5]) (rest := []) (r1 := some (.int 1)) (m1 := (mz_i xs Ln)) rfl ⟨?_, rfl⟩ ?_
            · refine mz_go 3 (c' := (if a < 0 then 14 else 5, [some (.int a), some (.int 0), some (.int 5)], [], (mz_i xs Ln))) rfl ?_
              refine mz_ifF h2 ?_
              refine mz_go 3 (c' := (if 5 < a then 14 else 10, [some (.int a), some (.int 0), some (.int 5)], [], (mz_i xs Ln))) rfl ?_
              refine mz_ifF h3 ?_
              refine mz_go 2 (c' := (15, [some (.int a), some (.int 0), some (.int 5)], [.int 1], (mz_i xs Ln))) rfl ?_
              exact mz_ret rfl
            refine mz_go 3 (c' := (20, [some (.int a)], [.int 1], (mz_i xs Ln))) rfl ?_
            exact mz_ret rfl
          refine mz_go 4 (c' := (20, [some (.ref 0), some (.int a)], [.ref 20], (mz_i xs Ln))) rfl ?_
          refine mz_do (R := mz_r2) (as := [.ref 20]) (rest := []) (r1 := some (.int 0)) (m1 := (mz_i xs Ln)) rfl ⟨?_, rfl⟩ ?_
          · refine mz_go 4 (c' := (19, [some (.ref 20)], [.int 0], (mz_i xs Ln))) rfl ?_
            exact mz_ret rfl
          refine mz_go 3 (c' := (28, [some (.ref 0), some (.int a)], [.int 2, .ref 0], (mz_i xs Ln))) rfl ?_
          refine mz_do (R := mz_r109) (as := [.ref 0, .int 2]) (rest := []) (r1 := some (.int (-1000002))) (m1 := mz_up (mz_i xs Ln) 64 2 1) rfl ⟨?_, rfl⟩ ?_
          · refine mz_go 3 (c' := (4, [some (.ref 0), some (.int 2)], [.int 6, .int 1, .int 2], (mz_i xs Ln))) rfl ?_
            refine mz_do (R := mz_r121) (as := [.int 2, .int 1, .int 6]) (rest := []) (r1 := some (.int 1)) (m1 := (mz_i xs Ln)) rfl ⟨?_, rfl⟩ ?_
            · refine mz_go 8 (c' := (15, [some (.int 2), some (.int 1), some (.int 6)], [.int 1], (mz_i xs Ln))) rfl ?_
              exact mz_ret rfl
            refine mz_go 12 (c' := (25, [some (.ref 0), some (.int 2)], [.int (-1000002)], mz_up (mz_i xs Ln) 64 2 1)) rfl ?_
            exact mz_ret rfl
          exact mz_ret rfl
        · refine mz_go 1 (c' := (1, [some (.ref 65), some (.int a)], [.int a], mz_up (mz_i xs Ln) 64 2 1)) rfl ?_
          refine mz_do (R := mz_r188) (as := [.int a]) (rest := []) (r1 := some (.int 1)) (m1 := mz_up (mz_i xs Ln) 64 2 1) rfl ⟨?_, rfl⟩ ?_
          · refine mz_go 3 (c' := (3, [some (.int a)], [.int 5, .int 0, .int a], mz_up (mz_i xs Ln) 64 2 1)) rfl ?_
            refine mz_do (R := mz_r128) (as := [.int a, .int 0, .int 5]) (rest := []) (r1 := some (.int 1)) (m1 := mz_up (mz_i xs Ln) 64 2 1) rfl ⟨?_, rfl⟩ ?_
            · refine mz_go 3 (c' := (if a < 0 then 14 else 5, [some (.int a), some (.int 0), some (.int 5)], [], mz_up (mz_i xs Ln) 64 2 1)) rfl ?_
              refine mz_ifF h2 ?_
              refine mz_go 3 (c' := (if 5 < a then 14 else 10, [some (.int a), some (.int 0), some (.int 5)], [], mz_up (mz_i xs Ln) 64 2 1)) rfl ?_
              refine mz_ifF h3 ?_
              refine mz_go 2 (c' := (15, [some (.int a), some (.int 0), some (.int 5)], [.int 1], mz_up (mz_i xs Ln) 64 2 1)) rfl ?_
              exact mz_ret rfl
            refine mz_go 3 (c' := (20, [some (.int a)], [.int 1], mz_up (mz_i xs Ln) 64 2 1)) rfl ?_
            exact mz_ret rfl
          refine mz_go 2 (c' := (14, [some (.ref 65), some (.int a)], [.ref 65], mz_up (mz_i xs Ln) 64 2 1)) rfl ?_
          refine mz_do (R := mz_r185) (as := [.ref 65]) (rest := []) (r1 := some (.int 0)) (m1 := mz_up (mz_i xs Ln) 64 2 1) rfl ⟨?_, rfl⟩ ?_
          · refine mz_go 1 (c' := (1, [some (.ref 65)], [.ref 65], mz_up (mz_i xs Ln) 64 2 1)) rfl ?_
            refine mz_do (R := mz_r183) (as := [.ref 65]) (rest := []) (r1 := some (.int 0)) (m1 := mz_up (mz_i xs Ln) 64 2 1) rfl ⟨?_, rfl⟩ ?_
            · refine mz_go 4 (c' := (7, [some (.ref 65)], [.int 0], mz_up (mz_i xs Ln) 64 2 1)) rfl ?_
              exact mz_ret rfl
            refine mz_go 2 (c' := (12, [some (.ref 65)], [.int 0], mz_up (mz_i xs Ln) 64 2 1)) rfl ?_
            exact mz_ret rfl
          refine mz_go 3 (c' := (30, [some (.ref 65), some (.int a)], [.int 2, .ref 65], mz_up (mz_i xs Ln) 64 2 1)) rfl ?_
          refine mz_do (R := mz_r127) (as := [.ref 65, .int 2]) (rest := []) (r1 := some (.int (-1000002))) (m1 := mz_up (mz_up (mz_i xs Ln) 64 2 1) 68 2 1) rfl ⟨?_, rfl⟩ ?_
          · refine mz_go 11 (c' := (14, [some (.ref 65), some (.int 2)], [.int (-1000002)], mz_up (mz_up (mz_i xs Ln) 64 2 1) 68 2 1)) rfl ?_
            exact mz_ret rfl
          exact mz_ret rfl
set_option maxHeartbeats 4000000 in
set_option maxRecDepth 100000 in
theorem p1_edge (xs : Nat → Int32) (Ln : Nat) (a : Int32) (b : Int32) : ∃ v m1 m2, mz_Me 100 mz_r88 [.ref 0, .int a, .int b] (mz_i xs Ln) (some (.int v)) m1 ∧ mz_Me 100 mz_r197 [.ref 65, .int a, .int b] m1 (some (.int v)) m2 := by
  refine ⟨(-1000002), mz_up (mz_i xs Ln) 64 2 1, mz_up (mz_up (mz_i xs Ln) 64 2 1) 68 2 1, ⟨?_, rfl⟩, ⟨?_, rfl⟩⟩
  · refine mz_go 3 (c' := (7, [some (.ref 0), some (.int a), some (.int b)], [.ref 20], (mz_i xs Ln))) rfl ?_
    refine mz_do (R := mz_r2) (as := [.ref 20]) (rest := []) (r1 := some (.int 0)) (m1 := (mz_i xs Ln)) rfl ⟨?_, rfl⟩ ?_
    · refine mz_go 4 (c' := (19, [some (.ref 20)], [.int 0], (mz_i xs Ln))) rfl ?_
      exact mz_ret rfl
    refine mz_go 3 (c' := (15, [some (.ref 0), some (.int a), some (.int b)], [.int 2, .ref 0], (mz_i xs Ln))) rfl ?_
    refine mz_do (R := mz_r109) (as := [.ref 0, .int 2]) (rest := []) (r1 := some (.int (-1000002))) (m1 := mz_up (mz_i xs Ln) 64 2 1) rfl ⟨?_, rfl⟩ ?_
    · refine mz_go 3 (c' := (4, [some (.ref 0), some (.int 2)], [.int 6, .int 1, .int 2], (mz_i xs Ln))) rfl ?_
      refine mz_do (R := mz_r121) (as := [.int 2, .int 1, .int 6]) (rest := []) (r1 := some (.int 1)) (m1 := (mz_i xs Ln)) rfl ⟨?_, rfl⟩ ?_
      · refine mz_go 8 (c' := (15, [some (.int 2), some (.int 1), some (.int 6)], [.int 1], (mz_i xs Ln))) rfl ?_
        exact mz_ret rfl
      refine mz_go 12 (c' := (25, [some (.ref 0), some (.int 2)], [.int (-1000002)], mz_up (mz_i xs Ln) 64 2 1)) rfl ?_
      exact mz_ret rfl
    exact mz_ret rfl
  · refine mz_go 1 (c' := (1, [some (.ref 65), some (.int a), some (.int b)], [.ref 65], mz_up (mz_i xs Ln) 64 2 1)) rfl ?_
    refine mz_do (R := mz_r185) (as := [.ref 65]) (rest := []) (r1 := some (.int 0)) (m1 := mz_up (mz_i xs Ln) 64 2 1) rfl ⟨?_, rfl⟩ ?_
    · refine mz_go 1 (c' := (1, [some (.ref 65)], [.ref 65], mz_up (mz_i xs Ln) 64 2 1)) rfl ?_
      refine mz_do (R := mz_r183) (as := [.ref 65]) (rest := []) (r1 := some (.int 0)) (m1 := mz_up (mz_i xs Ln) 64 2 1) rfl ⟨?_, rfl⟩ ?_
      · refine mz_go 4 (c' := (7, [some (.ref 65)], [.int 0], mz_up (mz_i xs Ln) 64 2 1)) rfl ?_
        exact mz_ret rfl
      refine mz_go 2 (c' := (12, [some (.ref 65)], [.int 0], mz_up (mz_i xs Ln) 64 2 1)) rfl ?_
      exact mz_ret rfl
    refine mz_go 3 (c' := (9, [some (.ref 65), some (.int a), some (.int b)], [.int 2, .ref 65], mz_up (mz_i xs Ln) 64 2 1)) rfl ?_
    refine mz_do (R := mz_r127) (as := [.ref 65, .int 2]) (rest := []) (r1 := some (.int (-1000002))) (m1 := mz_up (mz_up (mz_i xs Ln) 64 2 1) 68 2 1) rfl ⟨?_, rfl⟩ ?_
    · refine mz_go 11 (c' := (14, [some (.ref 65), some (.int 2)], [.int (-1000002)], mz_up (mz_up (mz_i xs Ln) 64 2 1) 68 2 1)) rfl ?_
      exact mz_ret rfl
    exact mz_ret rfl
set_option maxHeartbeats 4000000 in
set_option maxRecDepth 100000 in
theorem p1_seen (xs : Nat → Int32) (Ln : Nat) (a : Int32) : ∃ v m1 m2, mz_Me 100 mz_r89 [.ref 0, .int a] (mz_i xs Ln) (some (.int v)) m1 ∧ mz_Me 100 mz_r199 [.ref 65, .int a] m1 (some (.int v)) m2 := by
  by_cases h1 : a < 0
  · refine ⟨(-1000001), mz_up (mz_i xs Ln) 64 1 1, mz_up (mz_up (mz_i xs Ln) 64 1 1) 68 1 1, ⟨?_, rfl⟩, ⟨?_, rfl⟩⟩
    · refine mz_go 3 (c' := (3, [some (.ref 0), some (.int a)], [.int 3, .int 0, .int a], (mz_i xs Ln))) rfl ?_
      refine mz_do (R := mz_r121) (as := [.int a, .int 0, .int 3]) (rest := []) (r1 := some (.int 0)) (m1 := (mz_i xs Ln)) rfl ⟨?_, rfl⟩ ?_
      · refine mz_go 3 (c' := (if a < 0 then 14 else 5, [some (.int a), some (.int 0), some (.int 3)], [], (mz_i xs Ln))) rfl ?_
        refine mz_ifT h1 ?_
        refine mz_go 1 (c' := (15, [some (.int a), some (.int 0), some (.int 3)], [.int 0], (mz_i xs Ln))) rfl ?_
        exact mz_ret rfl
      refine mz_go 3 (c' := (11, [some (.ref 0), some (.int a)], [.int 1, .ref 0], (mz_i xs Ln))) rfl ?_
      refine mz_do (R := mz_r109) (as := [.ref 0, .int 1]) (rest := []) (r1 := some (.int (-1000001))) (m1 := mz_up (mz_i xs Ln) 64 1 1) rfl ⟨?_, rfl⟩ ?_
      · refine mz_go 3 (c' := (4, [some (.ref 0), some (.int 1)], [.int 6, .int 1, .int 1], (mz_i xs Ln))) rfl ?_
        refine mz_do (R := mz_r121) (as := [.int 1, .int 1, .int 6]) (rest := []) (r1 := some (.int 1)) (m1 := (mz_i xs Ln)) rfl ⟨?_, rfl⟩ ?_
        · refine mz_go 8 (c' := (15, [some (.int 1), some (.int 1), some (.int 6)], [.int 1], (mz_i xs Ln))) rfl ?_
          exact mz_ret rfl
        refine mz_go 12 (c' := (25, [some (.ref 0), some (.int 1)], [.int (-1000001)], mz_up (mz_i xs Ln) 64 1 1)) rfl ?_
        exact mz_ret rfl
      exact mz_ret rfl
    · refine mz_go 3 (c' := (3, [some (.ref 65), some (.int a), none, none, none], [.int 3, .int 0, .int a], mz_up (mz_i xs Ln) 64 1 1)) rfl ?_
      refine mz_do (R := mz_r128) (as := [.int a, .int 0, .int 3]) (rest := []) (r1 := some (.int 0)) (m1 := mz_up (mz_i xs Ln) 64 1 1) rfl ⟨?_, rfl⟩ ?_
      · refine mz_go 3 (c' := (if a < 0 then 14 else 5, [some (.int a), some (.int 0), some (.int 3)], [], mz_up (mz_i xs Ln) 64 1 1)) rfl ?_
        refine mz_ifT h1 ?_
        refine mz_go 1 (c' := (15, [some (.int a), some (.int 0), some (.int 3)], [.int 0], mz_up (mz_i xs Ln) 64 1 1)) rfl ?_
        exact mz_ret rfl
      refine mz_go 3 (c' := (11, [some (.ref 65), some (.int a), none, none, none], [.int 1, .ref 65], mz_up (mz_i xs Ln) 64 1 1)) rfl ?_
      refine mz_do (R := mz_r127) (as := [.ref 65, .int 1]) (rest := []) (r1 := some (.int (-1000001))) (m1 := mz_up (mz_up (mz_i xs Ln) 64 1 1) 68 1 1) rfl ⟨?_, rfl⟩ ?_
      · refine mz_go 11 (c' := (14, [some (.ref 65), some (.int 1)], [.int (-1000001)], mz_up (mz_up (mz_i xs Ln) 64 1 1) 68 1 1)) rfl ?_
        exact mz_ret rfl
      exact mz_ret rfl
  · by_cases h2 : 3 < a
    · refine ⟨(-1000001), mz_up (mz_i xs Ln) 64 1 1, mz_up (mz_up (mz_i xs Ln) 64 1 1) 68 1 1, ⟨?_, rfl⟩, ⟨?_, rfl⟩⟩
      · refine mz_go 3 (c' := (3, [some (.ref 0), some (.int a)], [.int 3, .int 0, .int a], (mz_i xs Ln))) rfl ?_
        refine mz_do (R := mz_r121) (as := [.int a, .int 0, .int 3]) (rest := []) (r1 := some (.int 0)) (m1 := (mz_i xs Ln)) rfl ⟨?_, rfl⟩ ?_
        · refine mz_go 3 (c' := (if a < 0 then 14 else 5, [some (.int a), some (.int 0), some (.int 3)], [], (mz_i xs Ln))) rfl ?_
          refine mz_ifF h1 ?_
          refine mz_go 3 (c' := (if 3 < a then 14 else 10, [some (.int a), some (.int 0), some (.int 3)], [], (mz_i xs Ln))) rfl ?_
          refine mz_ifT h2 ?_
          refine mz_go 1 (c' := (15, [some (.int a), some (.int 0), some (.int 3)], [.int 0], (mz_i xs Ln))) rfl ?_
          exact mz_ret rfl
        refine mz_go 3 (c' := (11, [some (.ref 0), some (.int a)], [.int 1, .ref 0], (mz_i xs Ln))) rfl ?_
        refine mz_do (R := mz_r109) (as := [.ref 0, .int 1]) (rest := []) (r1 := some (.int (-1000001))) (m1 := mz_up (mz_i xs Ln) 64 1 1) rfl ⟨?_, rfl⟩ ?_
        · refine mz_go 3 (c' := (4, [some (.ref 0), some (.int 1)], [.int 6, .int 1, .int 1], (mz_i xs Ln))) rfl ?_
          refine mz_do (R := mz_r121) (as := [.int 1, .int 1, .int 6]) (rest := []) (r1 := some (.int 1)) (m1 := (mz_i xs Ln)) rfl ⟨?_, rfl⟩ ?_
          · refine mz_go 8 (c' := (15, [some (.int 1), some (.int 1), some (.int 6)], [.int 1], (mz_i xs Ln))) rfl ?_
            exact mz_ret rfl
          refine mz_go 12 (c' := (25, [some (.ref 0), some (.int 1)], [.int (-1000001)], mz_up (mz_i xs Ln) 64 1 1)) rfl ?_
          exact mz_ret rfl
        exact mz_ret rfl
      · refine mz_go 3 (c' := (3, [some (.ref 65), some (.int a), none, none, none], [.int 3, .int 0, .int a], mz_up (mz_i xs Ln) 64 1 1)) rfl ?_
        refine mz_do (R := mz_r128) (as := [.int a, .int 0, .int 3]) (rest := []) (r1 := some (.int 0)) (m1 := mz_up (mz_i xs Ln) 64 1 1) rfl ⟨?_, rfl⟩ ?_
        · refine mz_go 3 (c' := (if a < 0 then 14 else 5, [some (.int a), some (.int 0), some (.int 3)], [], mz_up (mz_i xs Ln) 64 1 1)) rfl ?_
          refine mz_ifF h1 ?_
          refine mz_go 3 (c' := (if 3 < a then 14 else 10, [some (.int a), some (.int 0), some (.int 3)], [], mz_up (mz_i xs Ln) 64 1 1)) rfl ?_
          refine mz_ifT h2 ?_
          refine mz_go 1 (c' := (15, [some (.int a), some (.int 0), some (.int 3)], [.int 0], mz_up (mz_i xs Ln) 64 1 1)) rfl ?_
          exact mz_ret rfl
        refine mz_go 3 (c' := (11, [some (.ref 65), some (.int a), none, none, none], [.int 1, .ref 65], mz_up (mz_i xs Ln) 64 1 1)) rfl ?_
        refine mz_do (R := mz_r127) (as := [.ref 65, .int 1]) (rest := []) (r1 := some (.int (-1000001))) (m1 := mz_up (mz_up (mz_i xs Ln) 64 1 1) 68 1 1) rfl ⟨?_, rfl⟩ ?_
        · refine mz_go 11 (c' := (14, [some (.ref 65), some (.int 1)], [.int (-1000001)], mz_up (mz_up (mz_i xs Ln) 64 1 1) 68 1 1)) rfl ?_
          exact mz_ret rfl
        exact mz_ret rfl
    · refine ⟨(-1000002), mz_up (mz_i xs Ln) 64 2 1, mz_up (mz_up (mz_i xs Ln) 64 2 1) 68 2 1, ⟨?_, rfl⟩, ⟨?_, rfl⟩⟩
      · refine mz_go 3 (c' := (3, [some (.ref 0), some (.int a)], [.int 3, .int 0, .int a], (mz_i xs Ln))) rfl ?_
        refine mz_do (R := mz_r121) (as := [.int a, .int 0, .int 3]) (rest := []) (r1 := some (.int 1)) (m1 := (mz_i xs Ln)) rfl ⟨?_, rfl⟩ ?_
        · refine mz_go 3 (c' := (if a < 0 then 14 else 5, [some (.int a), some (.int 0), some (.int 3)], [], (mz_i xs Ln))) rfl ?_
          refine mz_ifF h1 ?_
          refine mz_go 3 (c' := (if 3 < a then 14 else 10, [some (.int a), some (.int 0), some (.int 3)], [], (mz_i xs Ln))) rfl ?_
          refine mz_ifF h2 ?_
          refine mz_go 2 (c' := (15, [some (.int a), some (.int 0), some (.int 3)], [.int 1], (mz_i xs Ln))) rfl ?_
          exact mz_ret rfl
        refine mz_go 4 (c' := (22, [some (.ref 0), some (.int a)], [.ref 20], (mz_i xs Ln))) rfl ?_
        refine mz_do (R := mz_r2) (as := [.ref 20]) (rest := []) (r1 := some (.int 0)) (m1 := (mz_i xs Ln)) rfl ⟨?_, rfl⟩ ?_
        · refine mz_go 4 (c' := (19, [some (.ref 20)], [.int 0], (mz_i xs Ln))) rfl ?_
          exact mz_ret rfl
        refine mz_go 3 (c' := (30, [some (.ref 0), some (.int a)], [.int 2, .ref 0], (mz_i xs Ln))) rfl ?_
        refine mz_do (R := mz_r109) (as := [.ref 0, .int 2]) (rest := []) (r1 := some (.int (-1000002))) (m1 := mz_up (mz_i xs Ln) 64 2 1) rfl ⟨?_, rfl⟩ ?_
        · refine mz_go 3 (c' := (4, [some (.ref 0), some (.int 2)], [.int 6, .int 1, .int 2], (mz_i xs Ln))) rfl ?_
          refine mz_do (R := mz_r121) (as := [.int 2, .int 1, .int 6]) (rest := []) (r1 := some (.int 1)) (m1 := (mz_i xs Ln)) rfl ⟨?_, rfl⟩ ?_
          · refine mz_go 8 (c' := (15, [some (.int 2), some (.int 1), some (.int 6)], [.int 1], (mz_i xs Ln))) rfl ?_
            exact mz_ret rfl
          refine mz_go 12 (c' := (25, [some (.ref 0), some (.int 2)], [.int (-1000002)], mz_up (mz_i xs Ln) 64 2 1)) rfl ?_
          exact mz_ret rfl
        exact mz_ret rfl
      · refine mz_go 3 (c' := (3, [some (.ref 65), some (.int a), none, none, none], [.int 3, .int 0, .int a], mz_up (mz_i xs Ln) 64 2 1)) rfl ?_
        refine mz_do (R := mz_r128) (as := [.int a, .int 0, .int 3]) (rest := []) (r1 := some (.int 1)) (m1 := mz_up (mz_i xs Ln) 64 2 1) rfl ⟨?_, rfl⟩ ?_
        · refine mz_go 3 (c' := (if a < 0 then 14 else 5, [some (.int a), some (.int 0), some (.int 3)], [], mz_up (mz_i xs Ln) 64 2 1)) rfl ?_
          refine mz_ifF h1 ?_
          refine mz_go 3 (c' := (if 3 < a then 14 else 10, [some (.int a), some (.int 0), some (.int 3)], [], mz_up (mz_i xs Ln) 64 2 1)) rfl ?_
          refine mz_ifF h2 ?_
          refine mz_go 2 (c' := (15, [some (.int a), some (.int 0), some (.int 3)], [.int 1], mz_up (mz_i xs Ln) 64 2 1)) rfl ?_
          exact mz_ret rfl
        refine mz_go 2 (c' := (16, [some (.ref 65), some (.int a), none, none, none], [.ref 65], mz_up (mz_i xs Ln) 64 2 1)) rfl ?_
        refine mz_do (R := mz_r185) (as := [.ref 65]) (rest := []) (r1 := some (.int 0)) (m1 := mz_up (mz_i xs Ln) 64 2 1) rfl ⟨?_, rfl⟩ ?_
        · refine mz_go 1 (c' := (1, [some (.ref 65)], [.ref 65], mz_up (mz_i xs Ln) 64 2 1)) rfl ?_
          refine mz_do (R := mz_r183) (as := [.ref 65]) (rest := []) (r1 := some (.int 0)) (m1 := mz_up (mz_i xs Ln) 64 2 1) rfl ⟨?_, rfl⟩ ?_
          · refine mz_go 4 (c' := (7, [some (.ref 65)], [.int 0], mz_up (mz_i xs Ln) 64 2 1)) rfl ?_
            exact mz_ret rfl
          refine mz_go 2 (c' := (12, [some (.ref 65)], [.int 0], mz_up (mz_i xs Ln) 64 2 1)) rfl ?_
          exact mz_ret rfl
        refine mz_go 3 (c' := (24, [some (.ref 65), some (.int a), none, none, none], [.int 2, .ref 65], mz_up (mz_i xs Ln) 64 2 1)) rfl ?_
        refine mz_do (R := mz_r127) (as := [.ref 65, .int 2]) (rest := []) (r1 := some (.int (-1000002))) (m1 := mz_up (mz_up (mz_i xs Ln) 64 2 1) 68 2 1) rfl ⟨?_, rfl⟩ ?_
        · refine mz_go 11 (c' := (14, [some (.ref 65), some (.int 2)], [.int (-1000002)], mz_up (mz_up (mz_i xs Ln) 64 2 1) 68 2 1)) rfl ?_
          exact mz_ret rfl
        exact mz_ret rfl
set_option maxHeartbeats 4000000 in
set_option maxRecDepth 100000 in
theorem p1_sure (xs : Nat → Int32) (Ln : Nat) (a : Int32) (b : Int32) (c : Int32) : ∃ v m1 m2, mz_Me 100 mz_r90 [.ref 0, .int a, .int b, .int c] (mz_i xs Ln) (some (.int v)) m1 ∧ mz_Me 100 mz_r200 [.ref 65, .int a, .int b, .int c] m1 (some (.int v)) m2 := by
  by_cases h1 : a = 9
  · subst h1
    by_cases h2 : b < 0
    · refine ⟨(-1000001), mz_up (mz_i xs Ln) 64 1 1, mz_up (mz_up (mz_i xs Ln) 64 1 1) 68 1 1, ⟨?_, rfl⟩, ⟨?_, rfl⟩⟩
      · refine mz_go 1 (c' := (1, [some (.ref 0), some (.int 9), some (.int b), some (.int c), none, none, none, none, none, none], [.int 9], (mz_i xs Ln))) rfl ?_
        refine mz_do (R := mz_r118) (as := [.int 9]) (rest := []) (r1 := some (.int 1)) (m1 := (mz_i xs Ln)) rfl ⟨?_, rfl⟩ ?_
        · refine mz_go 5 (c' := (20, [some (.int 9)], [.int 1], (mz_i xs Ln))) rfl ?_
          exact mz_ret rfl
        refine mz_go 4 (c' := (10, [some (.ref 0), some (.int 9), some (.int b), some (.int c), none, none, none, none, none, none], [.int 5, .int 0, .int b], (mz_i xs Ln))) rfl ?_
        refine mz_do (R := mz_r121) (as := [.int b, .int 0, .int 5]) (rest := []) (r1 := some (.int 0)) (m1 := (mz_i xs Ln)) rfl ⟨?_, rfl⟩ ?_
        · refine mz_go 3 (c' := (if b < 0 then 14 else 5, [some (.int b), some (.int 0), some (.int 5)], [], (mz_i xs Ln))) rfl ?_
          refine mz_ifT h2 ?_
          refine mz_go 1 (c' := (15, [some (.int b), some (.int 0), some (.int 5)], [.int 0], (mz_i xs Ln))) rfl ?_
          exact mz_ret rfl
        refine mz_go 3 (c' := (27, [some (.ref 0), some (.int 9), some (.int b), some (.int c), none, none, none, none, none, none], [.int 1, .ref 0], (mz_i xs Ln))) rfl ?_
        refine mz_do (R := mz_r109) (as := [.ref 0, .int 1]) (rest := []) (r1 := some (.int (-1000001))) (m1 := mz_up (mz_i xs Ln) 64 1 1) rfl ⟨?_, rfl⟩ ?_
        · refine mz_go 3 (c' := (4, [some (.ref 0), some (.int 1)], [.int 6, .int 1, .int 1], (mz_i xs Ln))) rfl ?_
          refine mz_do (R := mz_r121) (as := [.int 1, .int 1, .int 6]) (rest := []) (r1 := some (.int 1)) (m1 := (mz_i xs Ln)) rfl ⟨?_, rfl⟩ ?_
          · refine mz_go 8 (c' := (15, [some (.int 1), some (.int 1), some (.int 6)], [.int 1], (mz_i xs Ln))) rfl ?_
            exact mz_ret rfl
          refine mz_go 12 (c' := (25, [some (.ref 0), some (.int 1)], [.int (-1000001)], mz_up (mz_i xs Ln) 64 1 1)) rfl ?_
          exact mz_ret rfl
        exact mz_ret rfl
      · refine mz_go 1 (c' := (1, [some (.ref 65), some (.int 9), some (.int b), some (.int c), none, none, none, none, none], [.int 9], mz_up (mz_i xs Ln) 64 1 1)) rfl ?_
        refine mz_do (R := mz_r188) (as := [.int 9]) (rest := []) (r1 := some (.int 1)) (m1 := mz_up (mz_i xs Ln) 64 1 1) rfl ⟨?_, rfl⟩ ?_
        · refine mz_go 3 (c' := (3, [some (.int 9)], [.int 5, .int 0, .int 9], mz_up (mz_i xs Ln) 64 1 1)) rfl ?_
          refine mz_do (R := mz_r128) (as := [.int 9, .int 0, .int 5]) (rest := []) (r1 := some (.int 0)) (m1 := mz_up (mz_i xs Ln) 64 1 1) rfl ⟨?_, rfl⟩ ?_
          · refine mz_go 7 (c' := (15, [some (.int 9), some (.int 0), some (.int 5)], [.int 0], mz_up (mz_i xs Ln) 64 1 1)) rfl ?_
            exact mz_ret rfl
          refine mz_go 6 (c' := (20, [some (.int 9)], [.int 1], mz_up (mz_i xs Ln) 64 1 1)) rfl ?_
          exact mz_ret rfl
        refine mz_go 4 (c' := (10, [some (.ref 65), some (.int 9), some (.int b), some (.int c), none, none, none, none, none], [.int 5, .int 0, .int b], mz_up (mz_i xs Ln) 64 1 1)) rfl ?_
        refine mz_do (R := mz_r128) (as := [.int b, .int 0, .int 5]) (rest := []) (r1 := some (.int 0)) (m1 := mz_up (mz_i xs Ln) 64 1 1) rfl ⟨?_, rfl⟩ ?_
        · refine mz_go 3 (c' := (if b < 0 then 14 else 5, [some (.int b), some (.int 0), some (.int 5)], [], mz_up (mz_i xs Ln) 64 1 1)) rfl ?_
          refine mz_ifT h2 ?_
          refine mz_go 1 (c' := (15, [some (.int b), some (.int 0), some (.int 5)], [.int 0], mz_up (mz_i xs Ln) 64 1 1)) rfl ?_
          exact mz_ret rfl
        refine mz_go 3 (c' := (27, [some (.ref 65), some (.int 9), some (.int b), some (.int c), none, none, none, none, none], [.int 1, .ref 65], mz_up (mz_i xs Ln) 64 1 1)) rfl ?_
        refine mz_do (R := mz_r127) (as := [.ref 65, .int 1]) (rest := []) (r1 := some (.int (-1000001))) (m1 := mz_up (mz_up (mz_i xs Ln) 64 1 1) 68 1 1) rfl ⟨?_, rfl⟩ ?_
        · refine mz_go 11 (c' := (14, [some (.ref 65), some (.int 1)], [.int (-1000001)], mz_up (mz_up (mz_i xs Ln) 64 1 1) 68 1 1)) rfl ?_
          exact mz_ret rfl
        exact mz_ret rfl
    · by_cases h3 : 5 < b
      · refine ⟨(-1000001), mz_up (mz_i xs Ln) 64 1 1, mz_up (mz_up (mz_i xs Ln) 64 1 1) 68 1 1, ⟨?_, rfl⟩, ⟨?_, rfl⟩⟩
        · refine mz_go 1 (c' := (1, [some (.ref 0), some (.int 9), some (.int b), some (.int c), none, none, none, none, none, none], [.int 9], (mz_i xs Ln))) rfl ?_
          refine mz_do (R := mz_r118) (as := [.int 9]) (rest := []) (r1 := some (.int 1)) (m1 := (mz_i xs Ln)) rfl ⟨?_, rfl⟩ ?_
          · refine mz_go 5 (c' := (20, [some (.int 9)], [.int 1], (mz_i xs Ln))) rfl ?_
            exact mz_ret rfl
          refine mz_go 4 (c' := (10, [some (.ref 0), some (.int 9), some (.int b), some (.int c), none, none, none, none, none, none], [.int 5, .int 0, .int b], (mz_i xs Ln))) rfl ?_
          refine mz_do (R := mz_r121) (as := [.int b, .int 0, .int 5]) (rest := []) (r1 := some (.int 0)) (m1 := (mz_i xs Ln)) rfl ⟨?_, rfl⟩ ?_
          · refine mz_go 3 (c' := (if b < 0 then 14 else 5, [some (.int b), some (.int 0), some (.int 5)], [], (mz_i xs Ln))) rfl ?_
            refine mz_ifF h2 ?_
            refine mz_go 3 (c' := (if 5 < b then 14 else 10, [some (.int b), some (.int 0), some (.int 5)], [], (mz_i xs Ln))) rfl ?_
            refine mz_ifT h3 ?_
            refine mz_go 1 (c' := (15, [some (.int b), some (.int 0), some (.int 5)], [.int 0], (mz_i xs Ln))) rfl ?_
            exact mz_ret rfl
          refine mz_go 3 (c' := (27, [some (.ref 0), some (.int 9), some (.int b), some (.int c), none, none, none, none, none, none], [.int 1, .ref 0], (mz_i xs Ln))) rfl ?_
          refine mz_do (R := mz_r109) (as := [.ref 0, .int 1]) (rest := []) (r1 := some (.int (-1000001))) (m1 := mz_up (mz_i xs Ln) 64 1 1) rfl ⟨?_, rfl⟩ ?_
          · refine mz_go 3 (c' := (4, [some (.ref 0), some (.int 1)], [.int 6, .int 1, .int 1], (mz_i xs Ln))) rfl ?_
            refine mz_do (R := mz_r121) (as := [.int 1, .int 1, .int 6]) (rest := []) (r1 := some (.int 1)) (m1 := (mz_i xs Ln)) rfl ⟨?_, rfl⟩ ?_
            · refine mz_go 8 (c' := (15, [some (.int 1), some (.int 1), some (.int 6)], [.int 1], (mz_i xs Ln))) rfl ?_
              exact mz_ret rfl
            refine mz_go 12 (c' := (25, [some (.ref 0), some (.int 1)], [.int (-1000001)], mz_up (mz_i xs Ln) 64 1 1)) rfl ?_
            exact mz_ret rfl
          exact mz_ret rfl
        · refine mz_go 1 (c' := (1, [some (.ref 65), some (.int 9), some (.int b), some (.int c), none, none, none, none, none], [.int 9], mz_up (mz_i xs Ln) 64 1 1)) rfl ?_
          refine mz_do (R := mz_r188) (as := [.int 9]) (rest := []) (r1 := some (.int 1)) (m1 := mz_up (mz_i xs Ln) 64 1 1) rfl ⟨?_, rfl⟩ ?_
          · refine mz_go 3 (c' := (3, [some (.int 9)], [.int 5, .int 0, .int 9], mz_up (mz_i xs Ln) 64 1 1)) rfl ?_
            refine mz_do (R := mz_r128) (as := [.int 9, .int 0, .int 5]) (rest := []) (r1 := some (.int 0)) (m1 := mz_up (mz_i xs Ln) 64 1 1) rfl ⟨?_, rfl⟩ ?_
            · refine mz_go 7 (c' := (15, [some (.int 9), some (.int 0), some (.int 5)], [.int 0], mz_up (mz_i xs Ln) 64 1 1)) rfl ?_
              exact mz_ret rfl
            refine mz_go 6 (c' := (20, [some (.int 9)], [.int 1], mz_up (mz_i xs Ln) 64 1 1)) rfl ?_
            exact mz_ret rfl
          refine mz_go 4 (c' := (10, [some (.ref 65), some (.int 9), some (.int b), some (.int c), none, none, none, none, none], [.int 5, .int 0, .int b], mz_up (mz_i xs Ln) 64 1 1)) rfl ?_
          refine mz_do (R := mz_r128) (as := [.int b, .int 0, .int 5]) (rest := []) (r1 := some (.int 0)) (m1 := mz_up (mz_i xs Ln) 64 1 1) rfl ⟨?_, rfl⟩ ?_
          · refine mz_go 3 (c' := (if b < 0 then 14 else 5, [some (.int b), some (.int 0), some (.int 5)], [], mz_up (mz_i xs Ln) 64 1 1)) rfl ?_
            refine mz_ifF h2 ?_
            refine mz_go 3 (c' := (if 5 < b then 14 else 10, [some (.int b), some (.int 0), some (.int 5)], [], mz_up (mz_i xs Ln) 64 1 1)) rfl ?_
            refine mz_ifT h3 ?_
            refine mz_go 1 (c' := (15, [some (.int b), some (.int 0), some (.int 5)], [.int 0], mz_up (mz_i xs Ln) 64 1 1)) rfl ?_
            exact mz_ret rfl
          refine mz_go 3 (c' := (27, [some (.ref 65), some (.int 9), some (.int b), some (.int c), none, none, none, none, none], [.int 1, .ref 65], mz_up (mz_i xs Ln) 64 1 1)) rfl ?_
          refine mz_do (R := mz_r127) (as := [.ref 65, .int 1]) (rest := []) (r1 := some (.int (-1000001))) (m1 := mz_up (mz_up (mz_i xs Ln) 64 1 1) 68 1 1) rfl ⟨?_, rfl⟩ ?_
          · refine mz_go 11 (c' := (14, [some (.ref 65), some (.int 1)], [.int (-1000001)], mz_up (mz_up (mz_i xs Ln) 64 1 1) 68 1 1)) rfl ?_
            exact mz_ret rfl
          exact mz_ret rfl
      · by_cases h4 : c < 0
        · refine ⟨(-1000001), mz_up (mz_i xs Ln) 64 1 1, mz_up (mz_up (mz_i xs Ln) 64 1 1) 68 1 1, ⟨?_, rfl⟩, ⟨?_, rfl⟩⟩
          · refine mz_go 1 (c' := (1, [some (.ref 0), some (.int 9), some (.int b), some (.int c), none, none, none, none, none, none], [.int 9], (mz_i xs Ln))) rfl ?_
            refine mz_do (R := mz_r118) (as := [.int 9]) (rest := []) (r1 := some (.int 1)) (m1 := (mz_i xs Ln)) rfl ⟨?_, rfl⟩ ?_
            · refine mz_go 5 (c' := (20, [some (.int 9)], [.int 1], (mz_i xs Ln))) rfl ?_
              exact mz_ret rfl
            refine mz_go 4 (c' := (10, [some (.ref 0), some (.int 9), some (.int b), some (.int c), none, none, none, none, none, none], [.int 5, .int 0, .int b], (mz_i xs Ln))) rfl ?_
            refine mz_do (R := mz_r121) (as := [.int b, .int 0, .int 5]) (rest := []) (r1 := some (.int 1)) (m1 := (mz_i xs Ln)) rfl ⟨?_, rfl⟩ ?_
            · refine mz_go 3 (c' := (if b < 0 then 14 else 5, [some (.int b), some (.int 0), some (.int 5)], [], (mz_i xs Ln))) rfl ?_
              refine mz_ifF h2 ?_
              refine mz_go 3 (c' := (if 5 < b then 14 else 10, [some (.int b), some (.int 0), some (.int 5)], [], (mz_i xs Ln))) rfl ?_
              refine mz_ifF h3 ?_
              refine mz_go 2 (c' := (15, [some (.int b), some (.int 0), some (.int 5)], [.int 1], (mz_i xs Ln))) rfl ?_
              exact mz_ret rfl
            refine mz_go 4 (c' := (19, [some (.ref 0), some (.int 9), some (.int b), some (.int c), none, none, none, none, none, none], [.int 1, .int 0, .int c], (mz_i xs Ln))) rfl ?_
            refine mz_do (R := mz_r121) (as := [.int c, .int 0, .int 1]) (rest := []) (r1 := some (.int 0)) (m1 := (mz_i xs Ln)) rfl ⟨?_, rfl⟩ ?_
            · refine mz_go 3 (c' := (if c < 0 then 14 else 5, [some (.int c), some (.int 0), some (.int 1)], [], (mz_i xs Ln))) rfl ?_
              refine mz_ifT h4 ?_
              refine mz_go 1 (c' := (15, [some (.int c), some (.int 0), some (.int 1)], [.int 0], (mz_i xs Ln))) rfl ?_
              exact mz_ret rfl
            refine mz_go 3 (c' := (27, [some (.ref 0), some (.int 9), some (.int b), some (.int c), none, none, none, none, none, none], [.int 1, .ref 0], (mz_i xs Ln))) rfl ?_
            refine mz_do (R := mz_r109) (as := [.ref 0, .int 1]) (rest := []) (r1 := some (.int (-1000001))) (m1 := mz_up (mz_i xs Ln) 64 1 1) rfl ⟨?_, rfl⟩ ?_
            · refine mz_go 3 (c' := (4, [some (.ref 0), some (.int 1)], [.int 6, .int 1, .int 1], (mz_i xs Ln))) rfl ?_
              refine mz_do (R := mz_r121) (as := [.int 1, .int 1, .int 6]) (rest := []) (r1 := some (.int 1)) (m1 := (mz_i xs Ln)) rfl ⟨?_, rfl⟩ ?_
              · refine mz_go 8 (c' := (15, [some (.int 1), some (.int 1), some (.int 6)], [.int 1], (mz_i xs Ln))) rfl ?_
                exact mz_ret rfl
              refine mz_go 12 (c' := (25, [some (.ref 0), some (.int 1)], [.int (-1000001)], mz_up (mz_i xs Ln) 64 1 1)) rfl ?_
              exact mz_ret rfl
            exact mz_ret rfl
          · refine mz_go 1 (c' := (1, [some (.ref 65), some (.int 9), some (.int b), some (.int c), none, none, none, none, none], [.int 9], mz_up (mz_i xs Ln) 64 1 1)) rfl ?_
            refine mz_do (R := mz_r188) (as := [.int 9]) (rest := []) (r1 := some (.int 1)) (m1 := mz_up (mz_i xs Ln) 64 1 1) rfl ⟨?_, rfl⟩ ?_
            · refine mz_go 3 (c' := (3, [some (.int 9)], [.int 5, .int 0, .int 9], mz_up (mz_i xs Ln) 64 1 1)) rfl ?_
              refine mz_do (R := mz_r128) (as := [.int 9, .int 0, .int 5]) (rest := []) (r1 := some (.int 0)) (m1 := mz_up (mz_i xs Ln) 64 1 1) rfl ⟨?_, rfl⟩ ?_
              · refine mz_go 7 (c' := (15, [some (.int 9), some (.int 0), some (.int 5)], [.int 0], mz_up (mz_i xs Ln) 64 1 1)) rfl ?_
                exact mz_ret rfl
              refine mz_go 6 (c' := (20, [some (.int 9)], [.int 1], mz_up (mz_i xs Ln) 64 1 1)) rfl ?_
              exact mz_ret rfl
            refine mz_go 4 (c' := (10, [some (.ref 65), some (.int 9), some (.int b), some (.int c), none, none, none, none, none], [.int 5, .int 0, .int b], mz_up (mz_i xs Ln) 64 1 1)) rfl ?_
            refine mz_do (R := mz_r128) (as := [.int b, .int 0, .int 5]) (rest := []) (r1 := some (.int 1)) (m1 := mz_up (mz_i xs Ln) 64 1 1) rfl ⟨?_, rfl⟩ ?_
            · refine mz_go 3 (c' := (if b < 0 then 14 else 5, [some (.int b), some (.int 0), some (.int 5)], [], mz_up (mz_i xs Ln) 64 1 1)) rfl ?_
              refine mz_ifF h2 ?_
              refine mz_go 3 (c' := (if 5 < b then 14 else 10, [some (.int b), some (.int 0), some (.int 5)], [], mz_up (mz_i xs Ln) 64 1 1)) rfl ?_
              refine mz_ifF h3 ?_
              refine mz_go 2 (c' := (15, [some (.int b), some (.int 0), some (.int 5)], [.int 1], mz_up (mz_i xs Ln) 64 1 1)) rfl ?_
              exact mz_ret rfl
            refine mz_go 4 (c' := (19, [some (.ref 65), some (.int 9), some (.int b), some (.int c), none, none, none, none, none], [.int 1, .int 0, .int c], mz_up (mz_i xs Ln) 64 1 1)) rfl ?_
            refine mz_do (R := mz_r128) (as := [.int c, .int 0, .int 1]) (rest := []) (r1 := some (.int 0)) (m1 := mz_up (mz_i xs Ln) 64 1 1) rfl ⟨?_, rfl⟩ ?_
            · refine mz_go 3 (c' := (if c < 0 then 14 else 5, [some (.int c), some (.int 0), some (.int 1)], [], mz_up (mz_i xs Ln) 64 1 1)) rfl ?_
              refine mz_ifT h4 ?_
              refine mz_go 1 (c' := (15, [some (.int c), some (.int 0), some (.int 1)], [.int 0], mz_up (mz_i xs Ln) 64 1 1)) rfl ?_
              exact mz_ret rfl
            refine mz_go 3 (c' := (27, [some (.ref 65), some (.int 9), some (.int b), some (.int c), none, none, none, none, none], [.int 1, .ref 65], mz_up (mz_i xs Ln) 64 1 1)) rfl ?_
            refine mz_do (R := mz_r127) (as := [.ref 65, .int 1]) (rest := []) (r1 := some (.int (-1000001))) (m1 := mz_up (mz_up (mz_i xs Ln) 64 1 1) 68 1 1) rfl ⟨?_, rfl⟩ ?_
            · refine mz_go 11 (c' := (14, [some (.ref 65), some (.int 1)], [.int (-1000001)], mz_up (mz_up (mz_i xs Ln) 64 1 1) 68 1 1)) rfl ?_
              exact mz_ret rfl
            exact mz_ret rfl
        · by_cases h5 : 1 < c
          · refine ⟨(-1000001), mz_up (mz_i xs Ln) 64 1 1, mz_up (mz_up (mz_i xs Ln) 64 1 1) 68 1 1, ⟨?_, rfl⟩, ⟨?_, rfl⟩⟩
            · refine mz_go 1 (c' := (1, [some (.ref 0), some (.int 9), some (.int b), some (.int c), none, none, none, none, none, none], [.int 9], (mz_i xs Ln))) rfl ?_
              refine mz_do (R := mz_r118) (as := [.int 9]) (rest := []) (r1 := some (.int 1)) (m1 := (mz_i xs Ln)) rfl ⟨?_, rfl⟩ ?_
              · refine mz_go 5 (c' := (20, [some (.int 9)], [.int 1], (mz_i xs Ln))) rfl ?_
                exact mz_ret rfl
              refine mz_go 4 (c' := (10, [some (.ref 0), some (.int 9), some (.int b), some (.int c), none, none, none, none, none, none], [.int 5, .int 0, .int b], (mz_i xs Ln))) rfl ?_
              refine mz_do (R := mz_r121) (as := [.int b, .int 0, .int 5]) (rest := []) (r1 := some (.int 1)) (m1 := (mz_i xs Ln)) rfl ⟨?_, rfl⟩ ?_
              · refine mz_go 3 (c' := (if b < 0 then 14 else 5, [some (.int b), some (.int 0), some (.int 5)], [], (mz_i xs Ln))) rfl ?_
                refine mz_ifF h2 ?_
                refine mz_go 3 (c' := (if 5 < b then 14 else 10, [some (.int b), some (.int 0), some (.int 5)], [], (mz_i xs Ln))) rfl ?_
                refine mz_ifF h3 ?_
                refine mz_go 2 (c' := (15, [some (.int b), some (.int 0), some (.int 5)], [.int 1], (mz_i xs Ln))) rfl ?_
                exact mz_ret rfl
              refine mz_go 4 (c' := (19, [some (.ref 0), some (.int 9), some (.int b), some (.int c), none, none, none, none, none, none], [.int 1, .int 0, .int c], (mz_i xs Ln))) rfl ?_
              refine mz_do (R := mz_r121) (as := [.int c, .int 0, .int 1]) (rest := []) (r1 := some (.int 0)) (m1 := (mz_i xs Ln)) rfl ⟨?_, rfl⟩ ?_
              · refine mz_go 3 (c' := (if c < 0 then 14 else 5, [some (.int c), some (.int 0), some (.int 1)], [], (mz_i xs Ln))) rfl ?_
                refine mz_ifF h4 ?_
                refine mz_go 3 (c' := (if 1 < c then 14 else 10, [some (.int c), some (.int 0), some (.int 1)], [], (mz_i xs Ln))) rfl ?_
                refine mz_ifT h5 ?_
                refine mz_go 1 (c' := (15, [some (.int c), some (.int 0), some (.int 1)], [.int 0], (mz_i xs Ln))) rfl ?_
                exact mz_ret rfl
              refine mz_go 3 (c' := (27, [some (.ref 0), some (.int 9), some (.int b), some (.int c), none, none, none, none, none, none], [.int 1, .ref 0], (mz_i xs Ln))) rfl ?_
              refine mz_do (R := mz_r109) (as := [.ref 0, .int 1]) (rest := []) (r1 := some (.int (-1000001))) (m1 := mz_up (mz_i xs Ln) 64 1 1) rfl ⟨?_, rfl⟩ ?_
              · refine mz_go 3 (c' := (4, [some (.ref 0), some (.int 1)], [.int 6, .int 1, .int 1], (mz_i xs Ln))) rfl ?_
                refine mz_do (R := mz_r121) (as := [.int 1, .int 1, .int 6]) (rest := []) (r1 := some (.int 1)) (m1 := (mz_i xs Ln)) rfl ⟨?_, rfl⟩ ?_
                · refine mz_go 8 (c' := (15, [some (.int 1), some (.int 1), some (.int 6)], [.int 1], (mz_i xs Ln))) rfl ?_
                  exact mz_ret rfl
                refine mz_go 12 (c' := (25, [some (.ref 0), some (.int 1)], [.int (-1000001)], mz_up (mz_i xs Ln) 64 1 1)) rfl ?_
                exact mz_ret rfl
              exact mz_ret rfl
            · refine mz_go 1 (c' := (1, [some (.ref 65), some (.int 9), some (.int b), some (.int c), none, none, none, none, none], [.int 9], mz_up (mz_i xs Ln) 64 1 1)) rfl ?_
              refine mz_do (R := mz_r188) (as := [.int 9]) (rest := []) (r1 := some (.int 1)) (m1 := mz_up (mz_i xs Ln) 64 1 1) rfl ⟨?_, rfl⟩ ?_
              · refine mz_go 3 (c' := (3, [some (.int 9)], [.int 5, .int 0, .int 9], mz_up (mz_i xs Ln) 64 1 1)) rfl ?_
                refine mz_do (R := mz_r128) (as := [.int 9, .int 0, .int 5]) (rest := []) (r1 := some (.int 0)) (m1 := mz_up (mz_i xs Ln) 64 1 1) rfl ⟨?_, rfl⟩ ?_
                · refine mz_go 7 (c' := (15, [some (.int 9), some (.int 0), some (.int 5)], [.int 0], mz_up (mz_i xs Ln) 64 1 1)) rfl ?_
                  exact mz_ret rfl
                refine mz_go 6 (c' := (20, [some (.int 9)], [.int 1], mz_up (mz_i xs Ln) 64 1 1)) rfl ?_
                exact mz_ret rfl
              refine mz_go 4 (c' := (10, [some (.ref 65), some (.int 9), some (.int b), some (.int c), none, none, none, none, none], [.int 5, .int 0, .int b], mz_up (mz_i xs Ln) 64 1 1)) rfl ?_
              refine mz_do (R := mz_r128) (as := [.int b, .int 0, .int 5]) (rest := []) (r1 := some (.int 1)) (m1 := mz_up (mz_i xs Ln) 64 1 1) rfl ⟨?_, rfl⟩ ?_
              · refine mz_go 3 (c' := (if b < 0 then 14 else 5, [some (.int b), some (.int 0), some (.int 5)], [], mz_up (mz_i xs Ln) 64 1 1)) rfl ?_
                refine mz_ifF h2 ?_
                refine mz_go 3 (c' := (if 5 < b then 14 else 10, [some (.int b), some (.int 0), some (.int 5)], [], mz_up (mz_i xs Ln) 64 1 1)) rfl ?_
                refine mz_ifF h3 ?_
                refine mz_go 2 (c' := (15, [some (.int b), some (.int 0), some (.int 5)], [.int 1], mz_up (mz_i xs Ln) 64 1 1)) rfl ?_
                exact mz_ret rfl
              refine mz_go 4 (c' := (19, [some (.ref 65), some (.int 9), some (.int b), some (.int c), none, none, none, none, none], [.int 1, .int 0, .int c], mz_up (mz_i xs Ln) 64 1 1)) rfl ?_
              refine mz_do (R := mz_r128) (as := [.int c, .int 0, .int 1]) (rest := []) (r1 := some (.int 0)) (m1 := mz_up (mz_i xs Ln) 64 1 1) rfl ⟨?_, rfl⟩ ?_
              · refine mz_go 3 (c' := (if c < 0 then 14 else 5, [some (.int c), some (.int 0), some (.int 1)], [], mz_up (mz_i xs Ln) 64 1 1)) rfl ?_
                refine mz_ifF h4 ?_
                refine mz_go 3 (c' := (if 1 < c then 14 else 10, [some (.int c), some (.int 0), some (.int 1)], [], mz_up (mz_i xs Ln) 64 1 1)) rfl ?_
                refine mz_ifT h5 ?_
                refine mz_go 1 (c' := (15, [some (.int c), some (.int 0), some (.int 1)], [.int 0], mz_up (mz_i xs Ln) 64 1 1)) rfl ?_
                exact mz_ret rfl
              refine mz_go 3 (c' := (27, [some (.ref 65), some (.int 9), some (.int b), some (.int c), none, none, none, none, none], [.int 1, .ref 65], mz_up (mz_i xs Ln) 64 1 1)) rfl ?_
              refine mz_do (R := mz_r127) (as := [.ref 65, .int 1]) (rest := []) (r1 := some (.int (-1000001))) (m1 := mz_up (mz_up (mz_i xs Ln) 64 1 1) 68 1 1) rfl ⟨?_, rfl⟩ ?_
              · refine mz_go 11 (c' := (14, [some (.ref 65), some (.int 1)], [.int (-1000001)], mz_up (mz_up (mz_i xs Ln) 64 1 1) 68 1 1)) rfl ?_
                exact mz_ret rfl
              exact mz_ret rfl
          · refine ⟨(-1000002), mz_up (mz_i xs Ln) 64 2 1, mz_up (mz_up (mz_i xs Ln) 64 2 1) 68 2 1, ⟨?_, rfl⟩, ⟨?_, rfl⟩⟩
            · refine mz_go 1 (c' := (1, [some (.ref 0), some (.int 9), some (.int b), some (.int c), none, none, none, none, none, none], [.int 9], (mz_i xs Ln))) rfl ?_
              refine mz_do (R := mz_r118) (as := [.int 9]) (rest := []) (r1 := some (.int 1)) (m1 := (mz_i xs Ln)) rfl ⟨?_, rfl⟩ ?_
              · refine mz_go 5 (c' := (20, [some (.int 9)], [.int 1], (mz_i xs Ln))) rfl ?_
                exact mz_ret rfl
              refine mz_go 4 (c' := (10, [some (.ref 0), some (.int 9), some (.int b), some (.int c), none, none, none, none, none, none], [.int 5, .int 0, .int b], (mz_i xs Ln))) rfl ?_
              refine mz_do (R := mz_r121) (as := [.int b, .int 0, .int 5]) (rest := []) (r1 := some (.int 1)) (m1 := (mz_i xs Ln)) rfl ⟨?_, rfl⟩ ?_
              · refine mz_go 3 (c' := (if b < 0 then 14 else 5, [some (.int b), some (.int 0), some (.int 5)], [], (mz_i xs Ln))) rfl ?_
                refine mz_ifF h2 ?_
                refine mz_go 3 (c' := (if 5 < b then 14 else 10, [some (.int b), some (.int 0), some (.int 5)], [], (mz_i xs Ln))) rfl ?_
                refine mz_ifF h3 ?_
                refine mz_go 2 (c' := (15, [some (.int b), some (.int 0), some (.int 5)], [.int 1], (mz_i xs Ln))) rfl ?_
                exact mz_ret rfl
              refine mz_go 4 (c' := (19, [some (.ref 0), some (.int 9), some (.int b), some (.int c), none, none, none, none, none, none], [.int 1, .int 0, .int c], (mz_i xs Ln))) rfl ?_
              refine mz_do (R := mz_r121) (as := [.int c, .int 0, .int 1]) (rest := []) (r1 := some (.int 1)) (m1 := (mz_i xs Ln)) rfl ⟨?_, rfl⟩ ?_
              · refine mz_go 3 (c' := (if c < 0 then 14 else 5, [some (.int c), some (.int 0), some (.int 1)], [], (mz_i xs Ln))) rfl ?_
                refine mz_ifF h4 ?_
                refine mz_go 3 (c' := (if 1 < c then 14 else 10, [some (.int c), some (.int 0), some (.int 1)], [], (mz_i xs Ln))) rfl ?_
                refine mz_ifF h5 ?_
                refine mz_go 2 (c' := (15, [some (.int c), some (.int 0), some (.int 1)], [.int 1], (mz_i xs Ln))) rfl ?_
                exact mz_ret rfl
              refine mz_go 6 (c' := (42, [some (.ref 0), some (.int 9), some (.int b), some (.int c), some (.ref 20), none, none, none, none, none], [.ref 20], (mz_i xs Ln))) rfl ?_
              refine mz_do (R := mz_r2) (as := [.ref 20]) (rest := []) (r1 := some (.int 0)) (m1 := (mz_i xs Ln)) rfl ⟨?_, rfl⟩ ?_
              · refine mz_go 4 (c' := (19, [some (.ref 20)], [.int 0], (mz_i xs Ln))) rfl ?_
                exact mz_ret rfl
              refine mz_go 3 (c' := (50, [some (.ref 0), some (.int 9), some (.int b), some (.int c), some (.ref 20), none, none, none, none, none], [.int 2, .ref 0], (mz_i xs Ln))) rfl ?_
              refine mz_do (R := mz_r109) (as := [.ref 0, .int 2]) (rest := []) (r1 := some (.int (-1000002))) (m1 := mz_up (mz_i xs Ln) 64 2 1) rfl ⟨?_, rfl⟩ ?_
              · refine mz_go 3 (c' := (4, [some (.ref 0), some (.int 2)], [.int 6, .int 1, .int 2], (mz_i xs Ln))) rfl ?_
                refine mz_do (R := mz_r121) (as := [.int 2, .int 1, .int 6]) (rest := []) (r1 := some (.int 1)) (m1 := (mz_i xs Ln)) rfl ⟨?_, rfl⟩ ?_
                · refine mz_go 8 (c' := (15, [some (.int 2), some (.int 1), some (.int 6)], [.int 1], (mz_i xs Ln))) rfl ?_
                  exact mz_ret rfl
                refine mz_go 12 (c' := (25, [some (.ref 0), some (.int 2)], [.int (-1000002)], mz_up (mz_i xs Ln) 64 2 1)) rfl ?_
                exact mz_ret rfl
              exact mz_ret rfl
            · refine mz_go 1 (c' := (1, [some (.ref 65), some (.int 9), some (.int b), some (.int c), none, none, none, none, none], [.int 9], mz_up (mz_i xs Ln) 64 2 1)) rfl ?_
              refine mz_do (R := mz_r188) (as := [.int 9]) (rest := []) (r1 := some (.int 1)) (m1 := mz_up (mz_i xs Ln) 64 2 1) rfl ⟨?_, rfl⟩ ?_
              · refine mz_go 3 (c' := (3, [some (.int 9)], [.int 5, .int 0, .int 9], mz_up (mz_i xs Ln) 64 2 1)) rfl ?_
                refine mz_do (R := mz_r128) (as := [.int 9, .int 0, .int 5]) (rest := []) (r1 := some (.int 0)) (m1 := mz_up (mz_i xs Ln) 64 2 1) rfl ⟨?_, rfl⟩ ?_
                · refine mz_go 7 (c' := (15, [some (.int 9), some (.int 0), some (.int 5)], [.int 0], mz_up (mz_i xs Ln) 64 2 1)) rfl ?_
                  exact mz_ret rfl
                refine mz_go 6 (c' := (20, [some (.int 9)], [.int 1], mz_up (mz_i xs Ln) 64 2 1)) rfl ?_
                exact mz_ret rfl
              refine mz_go 4 (c' := (10, [some (.ref 65), some (.int 9), some (.int b), some (.int c), none, none, none, none, none], [.int 5, .int 0, .int b], mz_up (mz_i xs Ln) 64 2 1)) rfl ?_
              refine mz_do (R := mz_r128) (as := [.int b, .int 0, .int 5]) (rest := []) (r1 := some (.int 1)) (m1 := mz_up (mz_i xs Ln) 64 2 1) rfl ⟨?_, rfl⟩ ?_
              · refine mz_go 3 (c' := (if b < 0 then 14 else 5, [some (.int b), some (.int 0), some (.int 5)], [], mz_up (mz_i xs Ln) 64 2 1)) rfl ?_
                refine mz_ifF h2 ?_
                refine mz_go 3 (c' := (if 5 < b then 14 else 10, [some (.int b), some (.int 0), some (.int 5)], [], mz_up (mz_i xs Ln) 64 2 1)) rfl ?_
                refine mz_ifF h3 ?_
                refine mz_go 2 (c' := (15, [some (.int b), some (.int 0), some (.int 5)], [.int 1], mz_up (mz_i xs Ln) 64 2 1)) rfl ?_
                exact mz_ret rfl
              refine mz_go 4 (c' := (19, [some (.ref 65), some (.int 9), some (.int b), some (.int c), none, none, none, none, none], [.int 1, .int 0, .int c], mz_up (mz_i xs Ln) 64 2 1)) rfl ?_
              refine mz_do (R := mz_r128) (as := [.int c, .int 0, .int 1]) (rest := []) (r1 := some (.int 1)) (m1 := mz_up (mz_i xs Ln) 64 2 1) rfl ⟨?_, rfl⟩ ?_
              · refine mz_go 3 (c' := (if c < 0 then 14 else 5, [some (.int c), some (.int 0), some (.int 1)], [], mz_up (mz_i xs Ln) 64 2 1)) rfl ?_
                refine mz_ifF h4 ?_
                refine mz_go 3 (c' := (if 1 < c then 14 else 10, [some (.int c), some (.int 0), some (.int 1)], [], mz_up (mz_i xs Ln) 64 2 1)) rfl ?_
                refine mz_ifF h5 ?_
                refine mz_go 2 (c' := (15, [some (.int c), some (.int 0), some (.int 1)], [.int 1], mz_up (mz_i xs Ln) 64 2 1)) rfl ?_
                exact mz_ret rfl
              refine mz_go 2 (c' := (32, [some (.ref 65), some (.int 9), some (.int b), some (.int c), none, none, none, none, none], [.ref 65], mz_up (mz_i xs Ln) 64 2 1)) rfl ?_
              refine mz_do (R := mz_r185) (as := [.ref 65]) (rest := []) (r1 := some (.int 0)) (m1 := mz_up (mz_i xs Ln) 64 2 1) rfl ⟨?_, rfl⟩ ?_
              · refine mz_go 1 (c' := (1, [some (.ref 65)], [.ref 65], mz_up (mz_i xs Ln) 64 2 1)) rfl ?_
                refine mz_do (R := mz_r183) (as := [.ref 65]) (rest := []) (r1 := some (.int 0)) (m1 := mz_up (mz_i xs Ln) 64 2 1) rfl ⟨?_, rfl⟩ ?_
                · refine mz_go 4 (c' := (7, [some (.ref 65)], [.int 0], mz_up (mz_i xs Ln) 64 2 1)) rfl ?_
                  exact mz_ret rfl
                refine mz_go 2 (c' := (12, [some (.ref 65)], [.int 0], mz_up (mz_i xs Ln) 64 2 1)) rfl ?_
                exact mz_ret rfl
              refine mz_go 3 (c' := (40, [some (.ref 65), some (.int 9), some (.int b), some (.int c), none, none, none, none, none], [.int 2, .ref 65], mz_up (mz_i xs Ln) 64 2 1)) rfl ?_
              refine mz_do (R := mz_r127) (as := [.ref 65, .int 2]) (rest := []) (r1 := some (.int (-1000002))) (m1 := mz_up (mz_up (mz_i xs Ln) 64 2 1) 68 2 1) rfl ⟨?_, rfl⟩ ?_
              · refine mz_go 11 (c' := (14, [some (.ref 65), some (.int 2)], [.int (-1000002)], mz_up (mz_up (mz_i xs Ln) 64 2 1) 68 2 1)) rfl ?_
                exact mz_ret rfl
              exact mz_ret rfl
  · by_cases h6 : a < 0
    · refine ⟨(-1000001), mz_up (mz_i xs Ln) 64 1 1, mz_up (mz_up (mz_i xs Ln) 64 1 1) 68 1 1, ⟨?_, rfl⟩, ⟨?_, rfl⟩⟩
      · refine mz_go 1 (c' := (1, [some (.ref 0), some (.int a), some (.int b), some (.int c), none, none, none, none, none, none], [.int a], (mz_i xs Ln))) rfl ?_
        refine mz_do (R := mz_r118) (as := [.int a]) (rest := []) (r1 := some (.int 0)) (m1 := (mz_i xs Ln)) rfl ⟨?_, rfl⟩ ?_
        · refine mz_go 3 (c' := (if a = 9 then 15 else 6, [some (.int a)], [], (mz_i xs Ln))) rfl ?_
          refine mz_ifF h1 ?_
          refine mz_go 3 (c' := (9, [some (.int a)], [.int 5, .int 0, .int a], (mz_i xs Ln))) rfl ?_
          refine mz_do (R := mz_r121) (as := [.int a, .int 0, .int 5]) (rest := []) (r1 := some (.int 0)) (m1 := (mz_i xs Ln)) rfl ⟨?_, rfl⟩ ?_
          · refine mz_go 3 (c' := (if a < 0 then 14 else 5, [some (.int a), some (.int 0), some (.int 5)], [], (mz_i xs Ln))) rfl ?_
            refine mz_ifT h6 ?_
            refine mz_go 1 (c' := (15, [some (.int a), some (.int 0), some (.int 5)], [.int 0], (mz_i xs Ln))) rfl ?_
            exact mz_ret rfl
          refine mz_go 2 (c' := (20, [some (.int a)], [.int 0], (mz_i xs Ln))) rfl ?_
          exact mz_ret rfl
        refine mz_go 3 (c' := (27, [some (.ref 0), some (.int a), some (.int b), some (.int c), none, none, none, none, none, none], [.int 1, .ref 0], (mz_i xs Ln))) rfl ?_
        refine mz_do (R := mz_r109) (as := [.ref 0, .int 1]) (rest := []) (r1 := some (.int (-1000001))) (m1 := mz_up (mz_i xs Ln) 64 1 1) rfl ⟨?_, rfl⟩ ?_
        · refine mz_go 3 (c' := (4, [some (.ref 0), some (.int 1)], [.int 6, .int 1, .int 1], (mz_i xs Ln))) rfl ?_
          refine mz_do (R := mz_r121) (as := [.int 1, .int 1, .int 6]) (rest := []) (r1 := some (.int 1)) (m1 := (mz_i xs Ln)) rfl ⟨?_, rfl⟩ ?_
          · refine mz_go 8 (c' := (15, [some (.int 1), some (.int 1), some (.int 6)], [.int 1], (mz_i xs Ln))) rfl ?_
            exact mz_ret rfl
          refine mz_go 12 (c' := (25, [some (.ref 0), some (.int 1)], [.int (-1000001)], mz_up (mz_i xs Ln) 64 1 1)) rfl ?_
          exact mz_ret rfl
        exact mz_ret rfl
      · refine mz_go 1 (c' := (1, [some (.ref 65), some (.int a), some (.int b), some (.int c), none, none, none, none, none], [.int a], mz_up (mz_i xs Ln) 64 1 1)) rfl ?_
        refine mz_do (R := mz_r188) (as := [.int a]) (rest := []) (r1 := some (.int 0)) (m1 := mz_up (mz_i xs Ln) 64 1 1) rfl ⟨?_, rfl⟩ ?_
        · refine mz_go 3 (c' := (3, [some (.int a)], [.int 5, .int 0, .int a], mz_up (mz_i xs Ln) 64 1 1)) rfl ?_
          refine mz_do (R := mz_r128) (as := [.int a, .int 0, .int 5]) (rest := []) (r1 := some (.int 0)) (m1 := mz_up (mz_i xs Ln) 64 1 1) rfl ⟨?_, rfl⟩ ?_
          · refine mz_go 3 (c' := (if a < 0 then 14 else 5, [some (.int a), some (.int 0), some (.int 5)], [], mz_up (mz_i xs Ln) 64 1 1)) rfl ?_
            refine mz_ifT h6 ?_
            refine mz_go 1 (c' := (15, [some (.int a), some (.int 0), some (.int 5)], [.int 0], mz_up (mz_i xs Ln) 64 1 1)) rfl ?_
            exact mz_ret rfl
          refine mz_go 4 (c' := (if a = 9 then 15 else 19, [some (.int a)], [], mz_up (mz_i xs Ln) 64 1 1)) rfl ?_
          refine mz_ifF h1 ?_
          refine mz_go 1 (c' := (20, [some (.int a)], [.int 0], mz_up (mz_i xs Ln) 64 1 1)) rfl ?_
          exact mz_ret rfl
        refine mz_go 3 (c' := (27, [some (.ref 65), some (.int a), some (.int b), some (.int c), none, none, none, none, none], [.int 1, .ref 65], mz_up (mz_i xs Ln) 64 1 1)) rfl ?_
        refine mz_do (R := mz_r127) (as := [.ref 65, .int 1]) (rest := []) (r1 := some (.int (-1000001))) (m1 := mz_up (mz_up (mz_i xs Ln) 64 1 1) 68 1 1) rfl ⟨?_, rfl⟩ ?_
        · refine mz_go 11 (c' := (14, [some (.ref 65), some (.int 1)], [.int (-1000001)], mz_up (mz_up (mz_i xs Ln) 64 1 1) 68 1 1)) rfl ?_
          exact mz_ret rfl
        exact mz_ret rfl
    · by_cases h7 : 5 < a
      · refine ⟨(-1000001), mz_up (mz_i xs Ln) 64 1 1, mz_up (mz_up (mz_i xs Ln) 64 1 1) 68 1 1, ⟨?_, rfl⟩, ⟨?_, rfl⟩⟩
        · refine mz_go 1 (c' := (1, [some (.ref 0), some (.int a), some (.int b), some (.int c), none, none, none, none, none, none], [.int a], (mz_i xs Ln))) rfl ?_
          refine mz_do (R := mz_r118) (as := [.int a]) (rest := []) (r1 := some (.int 0)) (m1 := (mz_i xs Ln)) rfl ⟨?_, rfl⟩ ?_
          · refine mz_go 3 (c' := (if a = 9 then 15 else 6, [some (.int a)], [], (mz_i xs Ln))) rfl ?_
            refine mz_ifF h1 ?_
            refine mz_go 3 (c' := (9, [some (.int a)], [.int 5, .int 0, .int a], (mz_i xs Ln))) rfl ?_
            refine mz_do (R := mz_r121) (as := [.int a, .int 0, .int 5]) (rest := []) (r1 := some (.int 0)) (m1 := (mz_i xs Ln)) rfl ⟨?_, rfl⟩ ?_
            · refine mz_go 3 (c' := (if a < 0 then 14 else 5, [some (.int a), some (.int 0), some (.int 5)], [], (mz_i xs Ln))) rfl ?_
              refine mz_ifF h6 ?_
              refine mz_go 3 (c' := (if 5 < a then 14 else 10, [some (.int a), some (.int 0), some (.int 5)], [], (mz_i xs Ln))) rfl ?_
              refine mz_ifT h7 ?_
              refine mz_go 1 (c' := (15, [some (.int a), some (.int 0), some (.int 5)], [.int 0], (mz_i xs Ln))) rfl ?_
              exact mz_ret rfl
            refine mz_go 2 (c' := (20, [some (.int a)], [.int 0], (mz_i xs Ln))) rfl ?_
            exact mz_ret rfl
          refine mz_go 3 (c' := (27, [some (.ref 0), some (.int a), some (.int b), some (.int c), none, none, none, none, none, none], [.int 1, .ref 0], (mz_i xs Ln))) rfl ?_
          refine mz_do (R := mz_r109) (as := [.ref 0, .int 1]) (rest := []) (r1 := some (.int (-1000001))) (m1 := mz_up (mz_i xs Ln) 64 1 1) rfl ⟨?_, rfl⟩ ?_
          · refine mz_go 3 (c' := (4, [some (.ref 0), some (.int 1)], [.int 6, .int 1, .int 1], (mz_i xs Ln))) rfl ?_
            refine mz_do (R := mz_r121) (as := [.int 1, .int 1, .int 6]) (rest := []) (r1 := some (.int 1)) (m1 := (mz_i xs Ln)) rfl ⟨?_, rfl⟩ ?_
            · refine mz_go 8 (c' := (15, [some (.int 1), some (.int 1), some (.int 6)], [.int 1], (mz_i xs Ln))) rfl ?_
              exact mz_ret rfl
            refine mz_go 12 (c' := (25, [some (.ref 0), some (.int 1)], [.int (-1000001)], mz_up (mz_i xs Ln) 64 1 1)) rfl ?_
            exact mz_ret rfl
          exact mz_ret rfl
        · refine mz_go 1 (c' := (1, [some (.ref 65), some (.int a), some (.int b), some (.int c), none, none, none, none, none], [.int a], mz_up (mz_i xs Ln) 64 1 1)) rfl ?_
          refine mz_do (R := mz_r188) (as := [.int a]) (rest := []) (r1 := some (.int 0)) (m1 := mz_up (mz_i xs Ln) 64 1 1) rfl ⟨?_, rfl⟩ ?_
          · refine mz_go 3 (c' := (3, [some (.int a)], [.int 5, .int 0, .int a], mz_up (mz_i xs Ln) 64 1 1)) rfl ?_
            refine mz_do (R := mz_r128) (as := [.int a, .int 0, .int 5]) (rest := []) (r1 := some (.int 0)) (m1 := mz_up (mz_i xs Ln) 64 1 1) rfl ⟨?_, rfl⟩ ?_
            · refine mz_go 3 (c' := (if a < 0 then 14 else 5, [some (.int a), some (.int 0), some (.int 5)], [], mz_up (mz_i xs Ln) 64 1 1)) rfl ?_
              refine mz_ifF h6 ?_
              refine mz_go 3 (c' := (if 5 < a then 14 else 10, [some (.int a), some (.int 0), some (.int 5)], [], mz_up (mz_i xs Ln) 64 1 1)) rfl ?_
              refine mz_ifT h7 ?_
              refine mz_go 1 (c' := (15, [some (.int a), some (.int 0), some (.int 5)], [.int 0], mz_up (mz_i xs Ln) 64 1 1)) rfl ?_
              exact mz_ret rfl
            refine mz_go 4 (c' := (if a = 9 then 15 else 19, [some (.int a)], [], mz_up (mz_i xs Ln) 64 1 1)) rfl ?_
            refine mz_ifF h1 ?_
            refine mz_go 1 (c' := (20, [some (.int a)], [.int 0], mz_up (mz_i xs Ln) 64 1 1)) rfl ?_
            exact mz_ret rfl
          refine mz_go 3 (c' := (27, [some (.ref 65), some (.int a), some (.int b), some (.int c), none, none, none, none, none], [.int 1, .ref 65], mz_up (mz_i xs Ln) 64 1 1)) rfl ?_
          refine mz_do (R := mz_r127) (as := [.ref 65, .int 1]) (rest := []) (r1 := some (.int (-1000001))) (m1 := mz_up (mz_up (mz_i xs Ln) 64 1 1) 68 1 1) rfl ⟨?_, rfl⟩ ?_
          · refine mz_go 11 (c' := (14, [some (.ref 65), some (.int 1)], [.int (-1000001)], mz_up (mz_up (mz_i xs Ln) 64 1 1) 68 1 1)) rfl ?_
            exact mz_ret rfl
          exact mz_ret rfl
      · by_cases h8 : b < 0
        · refine ⟨(-1000001), mz_up (mz_i xs Ln) 64 1 1, mz_up (mz_up (mz_i xs Ln) 64 1 1) 68 1 1, ⟨?_, rfl⟩, ⟨?_, rfl⟩⟩
          · refine mz_go 1 (c' := (1, [some (.ref 0), some (.int a), some (.int b), some (.int c), none, none, none, none, none, none], [.int a], (mz_i xs Ln))) rfl ?_
            refine mz_do (R := mz_r118) (as := [.int a]) (rest := []) (r1 := some (.int 1)) (m1 := (mz_i xs Ln)) rfl ⟨?_, rfl⟩ ?_
            · refine mz_go 3 (c' := (if a = 9 then 15 else 6, [some (.int a)], [], (mz_i xs Ln))) rfl ?_
              refine mz_ifF h1 ?_
              refine mz_go 3 (c' := (9, [some (.int a)], [.int 5, .int 0, .int a], (mz_i xs Ln))) rfl ?_
              refine mz_do (R := mz_r121) (as := [.int a, .int 0, .int 5]) (rest := []) (r1 := some (.int 1)) (m1 := (mz_i xs Ln)) rfl ⟨?_, rfl⟩ ?_
              · refine mz_go 3 (c' := (if a < 0 then 14 else 5, [some (.int a), some (.int 0), some (.int 5)], [], (mz_i xs Ln))) rfl ?_
                refine mz_ifF h6 ?_
                refine mz_go 3 (c' := (if 5 < a then 14 else 10, [some (.int a), some (.int 0), some (.int 5)], [], (mz_i xs Ln))) rfl ?_
                refine mz_ifF h7 ?_
                refine mz_go 2 (c' := (15, [some (.int a), some (.int 0), some (.int 5)], [.int 1], (mz_i xs Ln))) rfl ?_
                exact mz_ret rfl
              refine mz_go 3 (c' := (20, [some (.int a)], [.int 1], (mz_i xs Ln))) rfl ?_
              exact mz_ret rfl
            refine mz_go 4 (c' := (10, [some (.ref 0), some (.int a), some (.int b), some (.int c), none, none, none, none, none, none], [.int 5, .int 0, .int b], (mz_i xs Ln))) rfl ?_
            refine mz_do (R := mz_r121) (as := [.int b, .int 0, .int 5]) (rest := []) (r1 := some (.int 0)) (m1 := (mz_i xs Ln)) rfl ⟨?_, rfl⟩ ?_
            · refine mz_go 3 (c' := (if b < 0 then 14 else 5, [some (.int b), some (.int 0), some (.int 5)], [], (mz_i xs Ln))) rfl ?_
              refine mz_ifT h8 ?_
              refine mz_go 1 (c' := (15, [some (.int b), some (.int 0), some (.int 5)], [.int 0], (mz_i xs Ln))) rfl ?_
              exact mz_ret rfl
            refine mz_go 3 (c' := (27, [some (.ref 0), some (.int a), some (.int b), some (.int c), none, none, none, none, none, none], [.int 1, .ref 0], (mz_i xs Ln))) rfl ?_
            refine mz_do (R := mz_r109) (as := [.ref 0, .int 1]) (rest := []) (r1 := some (.int (-1000001))) (m1 := mz_up (mz_i xs Ln) 64 1 1) rfl ⟨?_, rfl⟩ ?_
            · refine mz_go 3 (c' := (4, [some (.ref 0), some (.int 1)], [.int 6, .int 1, .int 1], (mz_i xs Ln))) rfl ?_
              refine mz_do (R := mz_r121) (as := [.int 1, .int 1, .int 6]) (rest := []) (r1 := some (.int 1)) (m1 := (mz_i xs Ln)) rfl ⟨?_, rfl⟩ ?_
              · refine mz_go 8 (c' := (15, [some (.int 1), some (.int 1), some (.int 6)], [.int 1], (mz_i xs Ln))) rfl ?_
                exact mz_ret rfl
              refine mz_go 12 (c' := (25, [some (.ref 0), some (.int 1)], [.int (-1000001)], mz_up (mz_i xs Ln) 64 1 1)) rfl ?_
              exact mz_ret rfl
            exact mz_ret rfl
          · refine mz_go 1 (c' := (1, [some (.ref 65), some (.int a), some (.int b), some (.int c), none, none, none, none, none], [.int a], mz_up (mz_i xs Ln) 64 1 1)) rfl ?_
            refine mz_do (R := mz_r188) (as := [.int a]) (rest := []) (r1 := some (.int 1)) (m1 := mz_up (mz_i xs Ln) 64 1 1) rfl ⟨?_, rfl⟩ ?_
            · refine mz_go 3 (c' := (3, [some (.int a)], [.int 5, .int 0, .int a], mz_up (mz_i xs Ln) 64 1 1)) rfl ?_
              refine mz_do (R := mz_r128) (as := [.int a, .int 0, .int 5]) (rest := []) (r1 := some (.int 1)) (m1 := mz_up (mz_i xs Ln) 64 1 1) rfl ⟨?_, rfl⟩ ?_
              · refine mz_go 3 (c' := (if a < 0 then 14 else 5, [some (.int a), some (.int 0), some (.int 5)], [], mz_up (mz_i xs Ln) 64 1 1)) rfl ?_
                refine mz_ifF h6 ?_
                refine mz_go 3 (c' := (if 5 < a then 14 else 10, [some (.int a), some (.int 0), some (.int 5)], [], mz_up (mz_i xs Ln) 64 1 1)) rfl ?_
                refine mz_ifF h7 ?_
                refine mz_go 2 (c' := (15, [some (.int a), some (.int 0), some (.int 5)], [.int 1], mz_up (mz_i xs Ln) 64 1 1)) rfl ?_
                exact mz_ret rfl
              refine mz_go 3 (c' := (20, [some (.int a)], [.int 1], mz_up (mz_i xs Ln) 64 1 1)) rfl ?_
              exact mz_ret rfl
            refine mz_go 4 (c' := (10, [some (.ref 65), some (.int a), some (.int b), some (.int c), none, none, none, none, none], [.int 5, .int 0, .int b], mz_up (mz_i xs Ln) 64 1 1)) rfl ?_
            refine mz_do (R := mz_r128) (as := [.int b, .int 0, .int 5]) (rest := []) (r1 := some (.int 0)) (m1 := mz_up (mz_i xs Ln) 64 1 1) rfl ⟨?_, rfl⟩ ?_
            · refine mz_go 3 (c' := (if b < 0 then 14 else 5, [some (.int b), some (.int 0), some (.int 5)], [], mz_up (mz_i xs Ln) 64 1 1)) rfl ?_
              refine mz_ifT h8 ?_
              refine mz_go 1 (c' := (15, [some (.int b), some (.int 0), some (.int 5)], [.int 0], mz_up (mz_i xs Ln) 64 1 1)) rfl ?_
              exact mz_ret rfl
            refine mz_go 3 (c' := (27, [some (.ref 65), some (.int a), some (.int b), some (.int c), none, none, none, none, none], [.int 1, .ref 65], mz_up (mz_i xs Ln) 64 1 1)) rfl ?_
            refine mz_do (R := mz_r127) (as := [.ref 65, .int 1]) (rest := []) (r1 := some (.int (-1000001))) (m1 := mz_up (mz_up (mz_i xs Ln) 64 1 1) 68 1 1) rfl ⟨?_, rfl⟩ ?_
            · refine mz_go 11 (c' := (14, [some (.ref 65), some (.int 1)], [.int (-1000001)], mz_up (mz_up (mz_i xs Ln) 64 1 1) 68 1 1)) rfl ?_
              exact mz_ret rfl
            exact mz_ret rfl
        · by_cases h9 : 5 < b
          · refine ⟨(-1000001), mz_up (mz_i xs Ln) 64 1 1, mz_up (mz_up (mz_i xs Ln) 64 1 1) 68 1 1, ⟨?_, rfl⟩, ⟨?_, rfl⟩⟩
            · refine mz_go 1 (c' := (1, [some (.ref 0), some (.int a), some (.int b), some (.int c), none, none, none, none, none, none], [.int a], (mz_i xs Ln))) rfl ?_
              refine mz_do (R := mz_r118) (as := [.int a]) (rest := []) (r1 := some (.int 1)) (m1 := (mz_i xs Ln)) rfl ⟨?_, rfl⟩ ?_
              · refine mz_go 3 (c' := (if a = 9 then 15 else 6, [some (.int a)], [], (mz_i xs Ln))) rfl ?_
                refine mz_ifF h1 ?_
                refine mz_go 3 (c' := (9, [some (.int a)], [.int 5, .int 0, .int a], (mz_i xs Ln))) rfl ?_
                refine mz_do (R := mz_r121) (as := [.int a, .int 0, .int 5]) (rest := []) (r1 := some (.int 1)) (m1 := (mz_i xs Ln)) rfl ⟨?_, rfl⟩ ?_
                · refine mz_go 3 (c' := (if a < 0 then 14 else 5, [some (.int a), some (.int 0), some (.int 5)], [], (mz_i xs Ln))) rfl ?_
                  refine mz_ifF h6 ?_
                  refine mz_go 3 (c' := (if 5 < a then 14 else 10, [some (.int a), some (.int 0), some (.int 5)], [], (mz_i xs Ln))) rfl ?_
                  refine mz_ifF h7 ?_
                  refine mz_go 2 (c' := (15, [some (.int a), some (.int 0), some (.int 5)], [.int 1], (mz_i xs Ln))) rfl ?_
                  exact mz_ret rfl
                refine mz_go 3 (c' := (20, [some (.int a)], [.int 1], (mz_i xs Ln))) rfl ?_
                exact mz_ret rfl
              refine mz_go 4 (c' := (10, [some (.ref 0), some (.int a), some (.int b), some (.int c), none, none, none, none, none, none], [.int 5, .int 0, .int b], (mz_i xs Ln))) rfl ?_
              refine mz_do (R := mz_r121) (as := [.int b, .int 0, .int 5]) (rest := []) (r1 := some (.int 0)) (m1 := (mz_i xs Ln)) rfl ⟨?_, rfl⟩ ?_
              · refine mz_go 3 (c' := (if b < 0 then 14 else 5, [some (.int b), some (.int 0), some (.int 5)], [], (mz_i xs Ln))) rfl ?_
                refine mz_ifF h8 ?_
                refine mz_go 3 (c' := (if 5 < b then 14 else 10, [some (.int b), some (.int 0), some (.int 5)], [], (mz_i xs Ln))) rfl ?_
                refine mz_ifT h9 ?_
                refine mz_go 1 (c' := (15, [some (.int b), some (.int 0), some (.int 5)], [.int 0], (mz_i xs Ln))) rfl ?_
                exact mz_ret rfl
              refine mz_go 3 (c' := (27, [some (.ref 0), some (.int a), some (.int b), some (.int c), none, none, none, none, none, none], [.int 1, .ref 0], (mz_i xs Ln))) rfl ?_
              refine mz_do (R := mz_r109) (as := [.ref 0, .int 1]) (rest := []) (r1 := some (.int (-1000001))) (m1 := mz_up (mz_i xs Ln) 64 1 1) rfl ⟨?_, rfl⟩ ?_
              · refine mz_go 3 (c' := (4, [some (.ref 0), some (.int 1)], [.int 6, .int 1, .int 1], (mz_i xs Ln))) rfl ?_
                refine mz_do (R := mz_r121) (as := [.int 1, .int 1, .int 6]) (rest := []) (r1 := some (.int 1)) (m1 := (mz_i xs Ln)) rfl ⟨?_, rfl⟩ ?_
                · refine mz_go 8 (c' := (15, [some (.int 1), some (.int 1), some (.int 6)], [.int 1], (mz_i xs Ln))) rfl ?_
                  exact mz_ret rfl
                refine mz_go 12 (c' := (25, [some (.ref 0), some (.int 1)], [.int (-1000001)], mz_up (mz_i xs Ln) 64 1 1)) rfl ?_
                exact mz_ret rfl
              exact mz_ret rfl
            · refine mz_go 1 (c' := (1, [some (.ref 65), some (.int a), some (.int b), some (.int c), none, none, none, none, none], [.int a], mz_up (mz_i xs Ln) 64 1 1)) rfl ?_
              refine mz_do (R := mz_r188) (as := [.int a]) (rest := []) (r1 := some (.int 1)) (m1 := mz_up (mz_i xs Ln) 64 1 1) rfl ⟨?_, rfl⟩ ?_
              · refine mz_go 3 (c' := (3, [some (.int a)], [.int 5, .int 0, .int a], mz_up (mz_i xs Ln) 64 1 1)) rfl ?_
                refine mz_do (R := mz_r128) (as := [.int a, .int 0, .int 5]) (rest := []) (r1 := some (.int 1)) (m1 := mz_up (mz_i xs Ln) 64 1 1) rfl ⟨?_, rfl⟩ ?_
                · refine mz_go 3 (c' := (if a < 0 then 14 else 5, [some (.int a), some (.int 0), some (.int 5)], [], mz_up (mz_i xs Ln) 64 1 1)) rfl ?_
                  refine mz_ifF h6 ?_
                  refine mz_go 3 (c' := (if 5 < a then 14 else 10, [some (.int a), some (.int 0), some (.int 5)], [], mz_up (mz_i xs Ln) 64 1 1)) rfl ?_
                  refine mz_ifF h7 ?_
                  refine mz_go 2 (c' := (15, [some (.int a), some (.int 0), some (.int 5)], [.int 1], mz_up (mz_i xs Ln) 64 1 1)) rfl ?_
                  exact mz_ret rfl
                refine mz_go 3 (c' := (20, [some (.int a)], [.int 1], mz_up (mz_i xs Ln) 64 1 1)) rfl ?_
                exact mz_ret rfl
              refine mz_go 4 (c' := (10, [some (.ref 65), some (.int a), some (.int b), some (.int c), none, none, none, none, none], [.int 5, .int 0, .int b], mz_up (mz_i xs Ln) 64 1 1)) rfl ?_
              refine mz_do (R := mz_r128) (as := [.int b, .int 0, .int 5]) (rest := []) (r1 := some (.int 0)) (m1 := mz_up (mz_i xs Ln) 64 1 1) rfl ⟨?_, rfl⟩ ?_
              · refine mz_go 3 (c' := (if b < 0 then 14 else 5, [some (.int b), some (.int 0), some (.int 5)], [], mz_up (mz_i xs Ln) 64 1 1)) rfl ?_
                refine mz_ifF h8 ?_
                refine mz_go 3 (c' := (if 5 < b then 14 else 10, [some (.int b), some (.int 0), some (.int 5)], [], mz_up (mz_i xs Ln) 64 1 1)) rfl ?_
                refine mz_ifT h9 ?_
                refine mz_go 1 (c' := (15, [some (.int b), some (.int 0), some (.int 5)], [.int 0], mz_up (mz_i xs Ln) 64 1 1)) rfl ?_
                exact mz_ret rfl
              refine mz_go 3 (c' := (27, [some (.ref 65), some (.int a), some (.int b), some (.int c), none, none, none, none, none], [.int 1, .ref 65], mz_up (mz_i xs Ln) 64 1 1)) rfl ?_
              refine mz_do (R := mz_r127) (as := [.ref 65, .int 1]) (rest := []) (r1 := some (.int (-1000001))) (m1 := mz_up (mz_up (mz_i xs Ln) 64 1 1) 68 1 1) rfl ⟨?_, rfl⟩ ?_
              · refine mz_go 11 (c' := (14, [some (.ref 65), some (.int 1)], [.int (-1000001)], mz_up (mz_up (mz_i xs Ln) 64 1 1) 68 1 1)) rfl ?_
                exact mz_ret rfl
              exact mz_ret rfl
          · by_cases h10 : c < 0
            · refine ⟨(-1000001), mz_up (mz_i xs Ln) 64 1 1, mz_up (mz_up (mz_i xs Ln) 64 1 1) 68 1 1, ⟨?_, rfl⟩, ⟨?_, rfl⟩⟩
              · refine mz_go 1 (c' := (1, [some (.ref 0), some (.int a), some (.int b), some (.int c), none, none, none, none, none, none], [.int a], (mz_i xs Ln))) rfl ?_
                refine mz_do (R := mz_r118) (as := [.int a]) (rest := []) (r1 := some (.int 1)) (m1 := (mz_i xs Ln)) rfl ⟨?_, rfl⟩ ?_
                · refine mz_go 3 (c' := (if a = 9 then 15 else 6, [some (.int a)], [], (mz_i xs Ln))) rfl ?_
                  refine mz_ifF h1 ?_
                  refine mz_go 3 (c' := (9, [some (.int a)], [.int 5, .int 0, .int a], (mz_i xs Ln))) rfl ?_
                  refine mz_do (R := mz_r121) (as := [.int a, .int 0, .int 5]) (rest := []) (r1 := some (.int 1)) (m1 := (mz_i xs Ln)) rfl ⟨?_, rfl⟩ ?_
                  · refine mz_go 3 (c' := (if a < 0 then 14 else 5, [some (.int a), some (.int 0), some (.int 5)], [], (mz_i xs Ln))) rfl ?_
                    refine mz_ifF h6 ?_
                    refine mz_go 3 (c' := (if 5 < a then 14 else 10, [some (.int a), some (.int 0), some (.int 5)], [], (mz_i xs Ln))) rfl ?_
                    refine mz_ifF h7 ?_
                    refine mz_go 2 (c' := (15, [some (.int a), some (.int 0), some (.int 5)], [.int 1], (mz_i xs Ln))) rfl ?_
                    exact mz_ret rfl
                  refine mz_go 3 (c' := (20, [some (.int a)], [.int 1], (mz_i xs Ln))) rfl ?_
                  exact mz_ret rfl
                refine mz_go 4 (c' := (10, [some (.ref 0), some (.int a), some (.int b), some (.int c), none, none, none, none, none, none], [.int 5, .int 0, .int b], (mz_i xs Ln))) rfl ?_
                refine mz_do (R := mz_r121) (as := [.int b, .int 0, .int 5]) (rest := []) (r1 := some (.int 1)) (m1 := (mz_i xs Ln)) rfl ⟨?_, rfl⟩ ?_
                · refine mz_go 3 (c' := (if b < 0 then 14 else 5, [some (.int b), some (.int 0), some (.int 5)], [], (mz_i xs Ln))) rfl ?_
                  refine mz_ifF h8 ?_
                  refine mz_go 3 (c' := (if 5 < b then 14 else 10, [some (.int b), some (.int 0), some (.int 5)], [], (mz_i xs Ln))) rfl ?_
                  refine mz_ifF h9 ?_
                  refine mz_go 2 (c' := (15, [some (.int b), some (.int 0), some (.int 5)], [.int 1], (mz_i xs Ln))) rfl ?_
                  exact mz_ret rfl
                refine mz_go 4 (c' := (19, [some (.ref 0), some (.int a), some (.int b), some (.int c), none, none, none, none, none, none], [.int 1, .int 0, .int c], (mz_i xs Ln))) rfl ?_
                refine mz_do (R := mz_r121) (as := [.int c, .int 0, .int 1]) (rest := []) (r1 := some (.int 0)) (m1 := (mz_i xs Ln)) rfl ⟨?_, rfl⟩ ?_
                · refine mz_go 3 (c' := (if c < 0 then 14 else 5, [some (.int c), some (.int 0), some (.int 1)], [], (mz_i xs Ln))) rfl ?_
                  refine mz_ifT h10 ?_
                  refine mz_go 1 (c' := (15, [some (.int c), some (.int 0), some (.int 1)], [.int 0], (mz_i xs Ln))) rfl ?_
                  exact mz_ret rfl
                refine mz_go 3 (c' := (27, [some (.ref 0), some (.int a), some (.int b), some (.int c), none, none, none, none, none, none], [.int 1, .ref 0], (mz_i xs Ln))) rfl ?_
                refine mz_do (R := mz_r109) (as := [.ref 0, .int 1]) (rest := []) (r1 := some (.int (-1000001))) (m1 := mz_up (mz_i xs Ln) 64 1 1) rfl ⟨?_, rfl⟩ ?_
                · refine mz_go 3 (c' := (4, [some (.ref 0), some (.int 1)], [.int 6, .int 1, .int 1], (mz_i xs Ln))) rfl ?_
                  refine mz_do (R := mz_r121) (as := [.int 1, .int 1, .int 6]) (rest := []) (r1 := some (.int 1)) (m1 := (mz_i xs Ln)) rfl ⟨?_, rfl⟩ ?_
                  · refine mz_go 8 (c' := (15, [some (.int 1), some (.int 1), some (.int 6)], [.int 1], (mz_i xs Ln))) rfl ?_
                    exact mz_ret rfl
                  refine mz_go 12 (c' := (25, [some (.ref 0), some (.int 1)], [.int (-1000001)], mz_up (mz_i xs Ln) 64 1 1)) rfl ?_
                  exact mz_ret rfl
                exact mz_ret rfl
              · refine mz_go 1 (c' := (1, [some (.ref 65), some (.int a), some (.int b), some (.int c), none, none, none, none, none], [.int a], mz_up (mz_i xs Ln) 64 1 1)) rfl ?_
                refine mz_do (R := mz_r188) (as := [.int a]) (rest := []) (r1 := some (.int 1)) (m1 := mz_up (mz_i xs Ln) 64 1 1) rfl ⟨?_, rfl⟩ ?_
                · refine mz_go 3 (c' := (3, [some (.int a)], [.int 5, .int 0, .int a], mz_up (mz_i xs Ln) 64 1 1)) rfl ?_
                  refine mz_do (R := mz_r128) (as := [.int a, .int 0, .int 5]) (rest := []) (r1 := some (.int 1)) (m1 := mz_up (mz_i xs Ln) 64 1 1) rfl ⟨?_, rfl⟩ ?_
                  · refine mz_go 3 (c' := (if a < 0 then 14 else 5, [some (.int a), some (.int 0), some (.int 5)], [], mz_up (mz_i xs Ln) 64 1 1)) rfl ?_
                    refine mz_ifF h6 ?_
                    refine mz_go 3 (c' := (if 5 < a then 14 else 10, [some (.int a), some (.int 0), some (.int 5)], [], mz_up (mz_i xs Ln) 64 1 1)) rfl ?_
                    refine mz_ifF h7 ?_
                    refine mz_go 2 (c' := (15, [some (.int a), some (.int 0), some (.int 5)], [.int 1], mz_up (mz_i xs Ln) 64 1 1)) rfl ?_
                    exact mz_ret rfl
                  refine mz_go 3 (c' := (20, [some (.int a)], [.int 1], mz_up (mz_i xs Ln) 64 1 1)) rfl ?_
                  exact mz_ret rfl
                refine mz_go 4 (c' := (10, [some (.ref 65), some (.int a), some (.int b), some (.int c), none, none, none, none, none], [.int 5, .int 0, .int b], mz_up (mz_i xs Ln) 64 1 1)) rfl ?_
                refine mz_do (R := mz_r128) (as := [.int b, .int 0, .int 5]) (rest := []) (r1 := some (.int 1)) (m1 := mz_up (mz_i xs Ln) 64 1 1) rfl ⟨?_, rfl⟩ ?_
                · refine mz_go 3 (c' := (if b < 0 then 14 else 5, [some (.int b), some (.int 0), some (.int 5)], [], mz_up (mz_i xs Ln) 64 1 1)) rfl ?_
                  refine mz_ifF h8 ?_
                  refine mz_go 3 (c' := (if 5 < b then 14 else 10, [some (.int b), some (.int 0), some (.int 5)], [], mz_up (mz_i xs Ln) 64 1 1)) rfl ?_
                  refine mz_ifF h9 ?_
                  refine mz_go 2 (c' := (15, [some (.int b), some (.int 0), some (.int 5)], [.int 1], mz_up (mz_i xs Ln) 64 1 1)) rfl ?_
                  exact mz_ret rfl
                refine mz_go 4 (c' := (19, [some (.ref 65), some (.int a), some (.int b), some (.int c), none, none, none, none, none], [.int 1, .int 0, .int c], mz_up (mz_i xs Ln) 64 1 1)) rfl ?_
                refine mz_do (R := mz_r128) (as := [.int c, .int 0, .int 1]) (rest := []) (r1 := some (.int 0)) (m1 := mz_up (mz_i xs Ln) 64 1 1) rfl ⟨?_, rfl⟩ ?_
                · refine mz_go 3 (c' := (if c < 0 then 14 else 5, [some (.int c), some (.int 0), some (.int 1)], [], mz_up (mz_i xs Ln) 64 1 1)) rfl ?_
                  refine mz_ifT h10 ?_
                  refine mz_go 1 (c' := (15, [some (.int c), some (.int 0), some (.int 1)], [.int 0], mz_up (mz_i xs Ln) 64 1 1)) rfl ?_
                  exact mz_ret rfl
                refine mz_go 3 (c' := (27, [some (.ref 65), some (.int a), some (.int b), some (.int c), none, none, none, none, none], [.int 1, .ref 65], mz_up (mz_i xs Ln) 64 1 1)) rfl ?_
                refine mz_do (R := mz_r127) (as := [.ref 65, .int 1]) (rest := []) (r1 := some (.int (-1000001))) (m1 := mz_up (mz_up (mz_i xs Ln) 64 1 1) 68 1 1) rfl ⟨?_, rfl⟩ ?_
                · refine mz_go 11 (c' := (14, [some (.ref 65), some (.int 1)], [.int (-1000001)], mz_up (mz_up (mz_i xs Ln) 64 1 1) 68 1 1)) rfl ?_
                  exact mz_ret rfl
                exact mz_ret rfl
            · by_cases h11 : 1 < c
              · refine ⟨(-1000001), mz_up (mz_i xs Ln) 64 1 1, mz_up (mz_up (mz_i xs Ln) 64 1 1) 68 1 1, ⟨?_, rfl⟩, ⟨?_, rfl⟩⟩
                · refine mz_go 1 (c' := (1, [some (.ref 0), some (.int a), some (.int b), some (.int c), none, none, none, none, none, none], [.int a], (mz_i xs Ln))) rfl ?_
                  refine mz_do (R := mz_r118) (as := [.int a]) (rest := []) (r1 := some (.int 1)) (m1 := (mz_i xs Ln)) rfl ⟨?_, rfl⟩ ?_
                  · refine mz_go 3 (c' := (if a = 9 then 15 else 6, [some (.int a)], [], (mz_i xs Ln))) rfl ?_
                    refine mz_ifF h1 ?_
                    refine mz_go 3 (c' := (9, [some (.int a)], [.int 5, .int 0, .int a], (mz_i xs Ln))) rfl ?_
                    refine mz_do (R := mz_r121) (as := [.int a, .int 0, .int 5]) (rest := []) (r1 := some (.int 1)) (m1 := (mz_i xs Ln)) rfl ⟨?_, rfl⟩ ?_
                    · refine mz_go 3 (c' := (if a < 0 then 14 else 5, [some (.int a), some (.int 0), some (.int 5)], [], (mz_i xs Ln))) rfl ?_
                      refine mz_ifF h6 ?_
                      refine mz_go 3 (c' := (if 5 < a then 14 else 10, [some (.int a), some (.int 0), some (.int 5)], [], (mz_i xs Ln))) rfl ?_
                      refine mz_ifF h7 ?_
                      refine mz_go 2 (c' := (15, [some (.int a), some (.int 0), some (.int 5)], [.int 1], (mz_i xs Ln))) rfl ?_
                      exact mz_ret rfl
                    refine mz_go 3 (c' := (20, [some (.int a)], [.int 1], (mz_i xs Ln))) rfl ?_
                    exact mz_ret rfl
                  refine mz_go 4 (c' := (10, [some (.ref 0), some (.int a), some (.int b), some (.int c), none, none, none, none, none, none], [.int 5, .int 0, .int b], (mz_i xs Ln))) rfl ?_
                  refine mz_do (R := mz_r121) (as := [.int b, .int 0, .int 5]) (rest := []) (r1 := some (.int 1)) (m1 := (mz_i xs Ln)) rfl ⟨?_, rfl⟩ ?_
                  · refine mz_go 3 (c' := (if b < 0 then 14 else 5, [some (.int b), some (.int 0), some (.int 5)], [], (mz_i xs Ln))) rfl ?_
                    refine mz_ifF h8 ?_
                    refine mz_go 3 (c' := (if 5 < b then 14 else 10, [some (.int b), some (.int 0), some (.int 5)], [], (mz_i xs Ln))) rfl ?_
                    refine mz_ifF h9 ?_
                    refine mz_go 2 (c' := (15, [some (.int b), some (.int 0), some (.int 5)], [.int 1], (mz_i xs Ln))) rfl ?_
                    exact mz_ret rfl
                  refine mz_go 4 (c' := (19, [some (.ref 0), some (.int a), some (.int b), some (.int c), none, none, none, none, none, none], [.int 1, .int 0, .int c], (mz_i xs Ln))) rfl ?_
                  refine mz_do (R := mz_r121) (as := [.int c, .int 0, .int 1]) (rest := []) (r1 := some (.int 0)) (m1 := (mz_i xs Ln)) rfl ⟨?_, rfl⟩ ?_
                  · refine mz_go 3 (c' := (if c < 0 then 14 else 5, [some (.int c), some (.int 0), some (.int 1)], [], (mz_i xs Ln))) rfl ?_
                    refine mz_ifF h10 ?_
                    refine mz_go 3 (c' := (if 1 < c then 14 else 10, [some (.int c), some (.int 0), some (.int 1)], [], (mz_i xs Ln))) rfl ?_
                    refine mz_ifT h11 ?_
                    refine mz_go 1 (c' := (15, [some (.int c), some (.int 0), some (.int 1)], [.int 0], (mz_i xs Ln))) rfl ?_
                    exact mz_ret rfl
                  refine mz_go 3 (c' := (27, [some (.ref 0), some (.int a), some (.int b), some (.int c), none, none, none, none, none, none], [.int 1, .ref 0], (mz_i xs Ln))) rfl ?_
                  refine mz_do (R := mz_r109) (as := [.ref 0, .int 1]) (rest := []) (r1 := some (.int (-1000001))) (m1 := mz_up (mz_i xs Ln) 64 1 1) rfl ⟨?_, rfl⟩ ?_
                  · refine mz_go 3 (c' := (4, [some (.ref 0), some (.int 1)], [.int 6, .int 1, .int 1], (mz_i xs Ln))) rfl ?_
                    refine mz_do (R := mz_r121) (as := [.int 1, .int 1, .int 6]) (rest := []) (r1 := some (.int 1)) (m1 := (mz_i xs Ln)) rfl ⟨?_, rfl⟩ ?_
                    · refine mz_go 8 (c' := (15, [some (.int 1), some (.int 1), some (.int 6)], [.int 1], (mz_i xs Ln))) rfl ?_
                      exact mz_ret rfl
                    refine mz_go 12 (c' := (25, [some (.ref 0), some (.int 1)], [.int (-1000001)], mz_up (mz_i xs Ln) 64 1 1)) rfl ?_
                    exact mz_ret rfl
                  exact mz_ret rfl
                · refine mz_go 1 (c' := (1, [some (.ref 65), some (.int a), some (.int b), some (.int c), none, none, none, none, none], [.int a], mz_up (mz_i xs Ln) 64 1 1)) rfl ?_
                  refine mz_do (R := mz_r188) (as := [.int a]) (rest := []) (r1 := some (.int 1)) (m1 := mz_up (mz_i xs Ln) 64 1 1) rfl ⟨?_, rfl⟩ ?_
                  · refine mz_go 3 (c' := (3, [some (.int a)], [.int 5, .int 0, .int a], mz_up (mz_i xs Ln) 64 1 1)) rfl ?_
                    refine mz_do (R := mz_r128) (as := [.int a, .int 0, .int 5]) (rest := []) (r1 := some (.int 1)) (m1 := mz_up (mz_i xs Ln) 64 1 1) rfl ⟨?_, rfl⟩ ?_
                    · refine mz_go 3 (c' := (if a < 0 then 14 else 5, [some (.int a), some (.int 0), some (.int 5)], [], mz_up (mz_i xs Ln) 64 1 1)) rfl ?_
                      refine mz_ifF h6 ?_
                      refine mz_go 3 (c' := (if 5 < a then 14 else 10, [some (.int a), some (.int 0), some (.int 5)], [], mz_up (mz_i xs Ln) 64 1 1)) rfl ?_
                      refine mz_ifF h7 ?_
                      refine mz_go 2 (c' := (15, [some (.int a), some (.int 0), some (.int 5)], [.int 1], mz_up (mz_i xs Ln) 64 1 1)) rfl ?_
                      exact mz_ret rfl
                    refine mz_go 3 (c' := (20, [some (.int a)], [.int 1], mz_up (mz_i xs Ln) 64 1 1)) rfl ?_
                    exact mz_ret rfl
                  refine mz_go 4 (c' := (10, [some (.ref 65), some (.int a), some (.int b), some (.int c), none, none, none, none, none], [.int 5, .int 0, .int b], mz_up (mz_i xs Ln) 64 1 1)) rfl ?_
                  refine mz_do (R := mz_r128) (as := [.int b, .int 0, .int 5]) (rest := []) (r1 := some (.int 1)) (m1 := mz_up (mz_i xs Ln) 64 1 1) rfl ⟨?_, rfl⟩ ?_
                  · refine mz_go 3 (c' := (if b < 0 then 14 else 5, [some (.int b), some (.int 0), some (.int 5)], [], mz_up (mz_i xs Ln) 64 1 1)) rfl ?_
                    refine mz_ifF h8 ?_
                    refine mz_go 3 (c' := (if 5 < b then 14 else 10, [some (.int b), some (.int 0), some (.int 5)], [], mz_up (mz_i xs Ln) 64 1 1)) rfl ?_
                    refine mz_ifF h9 ?_
                    refine mz_go 2 (c' := (15, [some (.int b), some (.int 0), some (.int 5)], [.int 1], mz_up (mz_i xs Ln) 64 1 1)) rfl ?_
                    exact mz_ret rfl
                  refine mz_go 4 (c' := (19, [some (.ref 65), some (.int a), some (.int b), some (.int c), none, none, none, none, none], [.int 1, .int 0, .int c], mz_up (mz_i xs Ln) 64 1 1)) rfl ?_
                  refine mz_do (R := mz_r128) (as := [.int c, .int 0, .int 1]) (rest := []) (r1 := some (.int 0)) (m1 := mz_up (mz_i xs Ln) 64 1 1) rfl ⟨?_, rfl⟩ ?_
                  · refine mz_go 3 (c' := (if c < 0 then 14 else 5, [some (.int c), some (.int 0), some (.int 1)], [], mz_up (mz_i xs Ln) 64 1 1)) rfl ?_
                    refine mz_ifF h10 ?_
                    refine mz_go 3 (c' := (if 1 < c then 14 else 10, [some (.int c), some (.int 0), some (.int 1)], [], mz_up (mz_i xs Ln) 64 1 1)) rfl ?_
                    refine mz_ifT h11 ?_
                    refine mz_go 1 (c' := (15, [some (.int c), some (.int 0), some (.int 1)], [.int 0], mz_up (mz_i xs Ln) 64 1 1)) rfl ?_
                    exact mz_ret rfl
                  refine mz_go 3 (c' := (27, [some (.ref 65), some (.int a), some (.int b), some (.int c), none, none, none, none, none], [.int 1, .ref 65], mz_up (mz_i xs Ln) 64 1 1)) rfl ?_
                  refine mz_do (R := mz_r127) (as := [.ref 65, .int 1]) (rest := []) (r1 := some (.int (-1000001))) (m1 := mz_up (mz_up (mz_i xs Ln) 64 1 1) 68 1 1) rfl ⟨?_, rfl⟩ ?_
                  · refine mz_go 11 (c' := (14, [some (.ref 65), some (.int 1)], [.int (-1000001)], mz_up (mz_up (mz_i xs Ln) 64 1 1) 68 1 1)) rfl ?_
                    exact mz_ret rfl
                  exact mz_ret rfl
              · refine ⟨(-1000002), mz_up (mz_i xs Ln) 64 2 1, mz_up (mz_up (mz_i xs Ln) 64 2 1) 68 2 1, ⟨?_, rfl⟩, ⟨?_, rfl⟩⟩
                · refine mz_go 1 (c' := (1, [some (.ref 0), some (.int a), some (.int b), some (.int c), none, none, none, none, none, none], [.int a], (mz_i xs Ln))) rfl ?_
                  refine mz_do (R := mz_r118) (as := [.int a]) (rest := []) (r1 := some (.int 1)) (m1 := (mz_i xs Ln)) rfl ⟨?_, rfl⟩ ?_
                  · refine mz_go 3 (c' := (if a = 9 then 15 else 6, [some (.int a)], [], (mz_i xs Ln))) rfl ?_
                    refine mz_ifF h1 ?_
                    refine mz_go 3 (c' := (9, [some (.int a)], [.int 5, .int 0, .int a], (mz_i xs Ln))) rfl ?_
                    refine mz_do (R := mz_r121) (as := [.int a, .int 0, .int 5]) (rest := []) (r1 := some (.int 1)) (m1 := (mz_i xs Ln)) rfl ⟨?_, rfl⟩ ?_
                    · refine mz_go 3 (c' := (if a < 0 then 14 else 5, [some (.int a), some (.int 0), some (.int 5)], [], (mz_i xs Ln))) rfl ?_
                      refine mz_ifF h6 ?_
                      refine mz_go 3 (c' := (if 5 < a then 14 else 10, [some (.int a), some (.int 0), some (.int 5)], [], (mz_i xs Ln))) rfl ?_
                      refine mz_ifF h7 ?_
                      refine mz_go 2 (c' := (15, [some (.int a), some (.int 0), some (.int 5)], [.int 1], (mz_i xs Ln))) rfl ?_
                      exact mz_ret rfl
                    refine mz_go 3 (c' := (20, [some (.int a)], [.int 1], (mz_i xs Ln))) rfl ?_
                    exact mz_ret rfl
                  refine mz_go 4 (c' := (10, [some (.ref 0), some (.int a), some (.int b), some (.int c), none, none, none, none, none, none], [.int 5, .int 0, .int b], (mz_i xs Ln))) rfl ?_
                  refine mz_do (R := mz_r121) (as := [.int b, .int 0, .int 5]) (rest := []) (r1 := some (.int 1)) (m1 := (mz_i xs Ln)) rfl ⟨?_, rfl⟩ ?_
                  · refine mz_go 3 (c' := (if b < 0 then 14 else 5, [some (.int b), some (.int 0), some (.int 5)], [], (mz_i xs Ln))) rfl ?_
                    refine mz_ifF h8 ?_
                    refine mz_go 3 (c' := (if 5 < b then 14 else 10, [some (.int b), some (.int 0), some (.int 5)], [], (mz_i xs Ln))) rfl ?_
                    refine mz_ifF h9 ?_
                    refine mz_go 2 (c' := (15, [some (.int b), some (.int 0), some (.int 5)], [.int 1], (mz_i xs Ln))) rfl ?_
                    exact mz_ret rfl
                  refine mz_go 4 (c' := (19, [some (.ref 0), some (.int a), some (.int b), some (.int c), none, none, none, none, none, none], [.int 1, .int 0, .int c], (mz_i xs Ln))) rfl ?_
                  refine mz_do (R := mz_r121) (as := [.int c, .int 0, .int 1]) (rest := []) (r1 := some (.int 1)) (m1 := (mz_i xs Ln)) rfl ⟨?_, rfl⟩ ?_
                  · refine mz_go 3 (c' := (if c < 0 then 14 else 5, [some (.int c), some (.int 0), some (.int 1)], [], (mz_i xs Ln))) rfl ?_
                    refine mz_ifF h10 ?_
                    refine mz_go 3 (c' := (if 1 < c then 14 else 10, [some (.int c), some (.int 0), some (.int 1)], [], (mz_i xs Ln))) rfl ?_
                    refine mz_ifF h11 ?_
                    refine mz_go 2 (c' := (15, [some (.int c), some (.int 0), some (.int 1)], [.int 1], (mz_i xs Ln))) rfl ?_
                    exact mz_ret rfl
                  refine mz_go 6 (c' := (42, [some (.ref 0), some (.int a), some (.int b), some (.int c), some (.ref 20), none, none, none, none, none], [.ref 20], (mz_i xs Ln))) rfl ?_
                  refine mz_do (R := mz_r2) (as := [.ref 20]) (rest := []) (r1 := some (.int 0)) (m1 := (mz_i xs Ln)) rfl ⟨?_, rfl⟩ ?_
                  · refine mz_go 4 (c' := (19, [some (.ref 20)], [.int 0], (mz_i xs Ln))) rfl ?_
                    exact mz_ret rfl
                  refine mz_go 3 (c' := (50, [some (.ref 0), some (.int a), some (.int b), some (.int c), some (.ref 20), none, none, none, none, none], [.int 2, .ref 0], (mz_i xs Ln))) rfl ?_
                  refine mz_do (R := mz_r109) (as := [.ref 0, .int 2]) (rest := []) (r1 := some (.int (-1000002))) (m1 := mz_up (mz_i xs Ln) 64 2 1) rfl ⟨?_, rfl⟩ ?_
                  · refine mz_go 3 (c' := (4, [some (.ref 0), some (.int 2)], [.int 6, .int 1, .int 2], (mz_i xs Ln))) rfl ?_
                    refine mz_do (R := mz_r121) (as := [.int 2, .int 1, .int 6]) (rest := []) (r1 := some (.int 1)) (m1 := (mz_i xs Ln)) rfl ⟨?_, rfl⟩ ?_
                    · refine mz_go 8 (c' := (15, [some (.int 2), some (.int 1), some (.int 6)], [.int 1], (mz_i xs Ln))) rfl ?_
                      exact mz_ret rfl
                    refine mz_go 12 (c' := (25, [some (.ref 0), some (.int 2)], [.int (-1000002)], mz_up (mz_i xs Ln) 64 2 1)) rfl ?_
                    exact mz_ret rfl
                  exact mz_ret rfl
                · refine mz_go 1 (c' := (1, [some (.ref 65), some (.int a), some (.int b), some (.int c), none, none, none, none, none], [.int a], mz_up (mz_i xs Ln) 64 2 1)) rfl ?_
                  refine mz_do (R := mz_r188) (as := [.int a]) (rest := []) (r1 := some (.int 1)) (m1 := mz_up (mz_i xs Ln) 64 2 1) rfl ⟨?_, rfl⟩ ?_
                  · refine mz_go 3 (c' := (3, [some (.int a)], [.int 5, .int 0, .int a], mz_up (mz_i xs Ln) 64 2 1)) rfl ?_
                    refine mz_do (R := mz_r128) (as := [.int a, .int 0, .int 5]) (rest := []) (r1 := some (.int 1)) (m1 := mz_up (mz_i xs Ln) 64 2 1) rfl ⟨?_, rfl⟩ ?_
                    · refine mz_go 3 (c' := (if a < 0 then 14 else 5, [some (.int a), some (.int 0), some (.int 5)], [], mz_up (mz_i xs Ln) 64 2 1)) rfl ?_
                      refine mz_ifF h6 ?_
                      refine mz_go 3 (c' := (if 5 < a then 14 else 10, [some (.int a), some (.int 0), some (.int 5)], [], mz_up (mz_i xs Ln) 64 2 1)) rfl ?_
                      refine mz_ifF h7 ?_
                      refine mz_go 2 (c' := (15, [some (.int a), some (.int 0), some (.int 5)], [.int 1], mz_up (mz_i xs Ln) 64 2 1)) rfl ?_
                      exact mz_ret rfl
                    refine mz_go 3 (c' := (20, [some (.int a)], [.int 1], mz_up (mz_i xs Ln) 64 2 1)) rfl ?_
                    exact mz_ret rfl
                  refine mz_go 4 (c' := (10, [some (.ref 65), some (.int a), some (.int b), some (.int c), none, none, none, none, none], [.int 5, .int 0, .int b], mz_up (mz_i xs Ln) 64 2 1)) rfl ?_
                  refine mz_do (R := mz_r128) (as := [.int b, .int 0, .int 5]) (rest := []) (r1 := some (.int 1)) (m1 := mz_up (mz_i xs Ln) 64 2 1) rfl ⟨?_, rfl⟩ ?_
                  · refine mz_go 3 (c' := (if b < 0 then 14 else 5, [some (.int b), some (.int 0), some (.int 5)], [], mz_up (mz_i xs Ln) 64 2 1)) rfl ?_
                    refine mz_ifF h8 ?_
                    refine mz_go 3 (c' := (if 5 < b then 14 else 10, [some (.int b), some (.int 0), some (.int 5)], [], mz_up (mz_i xs Ln) 64 2 1)) rfl ?_
                    refine mz_ifF h9 ?_
                    refine mz_go 2 (c' := (15, [some (.int b), some (.int 0), some (.int 5)], [.int 1], mz_up (mz_i xs Ln) 64 2 1)) rfl ?_
                    exact mz_ret rfl
                  refine mz_go 4 (c' := (19, [some (.ref 65), some (.int a), some (.int b), some (.int c), none, none, none, none, none], [.int 1, .int 0, .int c], mz_up (mz_i xs Ln) 64 2 1)) rfl ?_
                  refine mz_do (R := mz_r128) (as := [.int c, .int 0, .int 1]) (rest := []) (r1 := some (.int 1)) (m1 := mz_up (mz_i xs Ln) 64 2 1) rfl ⟨?_, rfl⟩ ?_
                  · refine mz_go 3 (c' := (if c < 0 then 14 else 5, [some (.int c), some (.int 0), some (.int 1)], [], mz_up (mz_i xs Ln) 64 2 1)) rfl ?_
                    refine mz_ifF h10 ?_
                    refine mz_go 3 (c' := (if 1 < c then 14 else 10, [some (.int c), some (.int 0), some (.int 1)], [], mz_up (mz_i xs Ln) 64 2 1)) rfl ?_
                    refine mz_ifF h11 ?_
                    refine mz_go 2 (c' := (15, [some (.int c), some (.int 0), some (.int 1)], [.int 1], mz_up (mz_i xs Ln) 64 2 1)) rfl ?_
                    exact mz_ret rfl
                  refine mz_go 2 (c' := (32, [some (.ref 65), some (.int a), some (.int b), some (.int c), none, none, none, none, none], [.ref 65], mz_up (mz_i xs Ln) 64 2 1)) rfl ?_
                  refine mz_do (R := mz_r185) (as := [.ref 65]) (rest := []) (r1 := some (.int 0)) (m1 := mz_up (mz_i xs Ln) 64 2 1) rfl ⟨?_, rfl⟩ ?_
                  · refine mz_go 1 (c' := (1, [some (.ref 65)], [.ref 65], mz_up (mz_i xs Ln) 64 2 1)) rfl ?_
                    refine mz_do (R := mz_r183) (as := [.ref 65]) (rest := []) (r1 := some (.int 0)) (m1 := mz_up (mz_i xs Ln) 64 2 1) rfl ⟨?_, rfl⟩ ?_
                    · refine mz_go 4 (c' := (7, [some (.ref 65)], [.int 0], mz_up (mz_i xs Ln) 64 2 1)) rfl ?_
                      exact mz_ret rfl
                    refine mz_go 2 (c' := (12, [some (.ref 65)], [.int 0], mz_up (mz_i xs Ln) 64 2 1)) rfl ?_
                    exact mz_ret rfl
                  refine mz_go 3 (c' := (40, [some (.ref 65), some (.int a), some (.int b), some (.int c), none, none, none, none, none], [.int 2, .ref 65], mz_up (mz_i xs Ln) 64 2 1)) rfl ?_
                  refine mz_do (R := mz_r127) (as := [.ref 65, .int 2]) (rest := []) (r1 := some (.int (-1000002))) (m1 := mz_up (mz_up (mz_i xs Ln) 64 2 1) 68 2 1) rfl ⟨?_, rfl⟩ ?_
                  · refine mz_go 11 (c' := (14, [some (.ref 65), some (.int 2)], [.int (-1000002)], mz_up (mz_up (mz_i xs Ln) 64 2 1) 68 2 1)) rfl ?_
                    exact mz_ret rfl
                  exact mz_ret rfl
set_option maxHeartbeats 4000000 in
set_option maxRecDepth 100000 in
theorem p1_turned (xs : Nat → Int32) (Ln : Nat) (a : Int32) : ∃ v m1 m2, mz_Me 100 mz_r91 [.ref 0, .int a] (mz_i xs Ln) (some (.int v)) m1 ∧ mz_Me 100 mz_r201 [.ref 65, .int a] m1 (some (.int v)) m2 := by
  by_cases h1 : a < 0
  · refine ⟨(-1000001), mz_up (mz_i xs Ln) 64 1 1, mz_up (mz_up (mz_i xs Ln) 64 1 1) 68 1 1, ⟨?_, rfl⟩, ⟨?_, rfl⟩⟩
    · refine mz_go 3 (c' := (3, [some (.ref 0), some (.int a)], [.int 3, .int 0, .int a], (mz_i xs Ln))) rfl ?_
      refine mz_do (R := mz_r121) (as := [.int a, .int 0, .int 3]) (rest := []) (r1 := some (.int 0)) (m1 := (mz_i xs Ln)) rfl ⟨?_, rfl⟩ ?_
      · refine mz_go 3 (c' := (if a < 0 then 14 else 5, [some (.int a), some (.int 0), some (.int 3)], [], (mz_i xs Ln))) rfl ?_
        refine mz_ifT h1 ?_
        refine mz_go 1 (c' := (15, [some (.int a), some (.int 0), some (.int 3)], [.int 0], (mz_i xs Ln))) rfl ?_
        exact mz_ret rfl
      refine mz_go 3 (c' := (11, [some (.ref 0), some (.int a)], [.int 1, .ref 0], (mz_i xs Ln))) rfl ?_
      refine mz_do (R := mz_r109) (as := [.ref 0, .int 1]) (rest := []) (r1 := some (.int (-1000001))) (m1 := mz_up (mz_i xs Ln) 64 1 1) rfl ⟨?_, rfl⟩ ?_
      · refine mz_go 3 (c' := (4, [some (.ref 0), some (.int 1)], [.int 6, .int 1, .int 1], (mz_i xs Ln))) rfl ?_
        refine mz_do (R := mz_r121) (as := [.int 1, .int 1, .int 6]) (rest := []) (r1 := some (.int 1)) (m1 := (mz_i xs Ln)) rfl ⟨?_, rfl⟩ ?_
        · refine mz_go 8 (c' := (15, [some (.int 1), some (.int 1), some (.int 6)], [.int 1], (mz_i xs Ln))) rfl ?_
          exact mz_ret rfl
        refine mz_go 12 (c' := (25, [some (.ref 0), some (.int 1)], [.int (-1000001)], mz_up (mz_i xs Ln) 64 1 1)) rfl ?_
        exact mz_ret rfl
      exact mz_ret rfl
    · refine mz_go 3 (c' := (3, [some (.ref 65), some (.int a), none, none, none, none, none, none, none], [.int 3, .int 0, .int a], mz_up (mz_i xs Ln) 64 1 1)) rfl ?_
      refine mz_do (R := mz_r128) (as := [.int a, .int 0, .int 3]) (rest := []) (r1 := some (.int 0)) (m1 := mz_up (mz_i xs Ln) 64 1 1) rfl ⟨?_, rfl⟩ ?_
      · refine mz_go 3 (c' := (if a < 0 then 14 else 5, [some (.int a), some (.int 0), some (.int 3)], [], mz_up (mz_i xs Ln) 64 1 1)) rfl ?_
        refine mz_ifT h1 ?_
        refine mz_go 1 (c' := (15, [some (.int a), some (.int 0), some (.int 3)], [.int 0], mz_up (mz_i xs Ln) 64 1 1)) rfl ?_
        exact mz_ret rfl
      refine mz_go 3 (c' := (11, [some (.ref 65), some (.int a), none, none, none, none, none, none, none], [.int 1, .ref 65], mz_up (mz_i xs Ln) 64 1 1)) rfl ?_
      refine mz_do (R := mz_r127) (as := [.ref 65, .int 1]) (rest := []) (r1 := some (.int (-1000001))) (m1 := mz_up (mz_up (mz_i xs Ln) 64 1 1) 68 1 1) rfl ⟨?_, rfl⟩ ?_
      · refine mz_go 11 (c' := (14, [some (.ref 65), some (.int 1)], [.int (-1000001)], mz_up (mz_up (mz_i xs Ln) 64 1 1) 68 1 1)) rfl ?_
        exact mz_ret rfl
      exact mz_ret rfl
  · by_cases h2 : 3 < a
    · refine ⟨(-1000001), mz_up (mz_i xs Ln) 64 1 1, mz_up (mz_up (mz_i xs Ln) 64 1 1) 68 1 1, ⟨?_, rfl⟩, ⟨?_, rfl⟩⟩
      · refine mz_go 3 (c' := (3, [some (.ref 0), some (.int a)], [.int 3, .int 0, .int a], (mz_i xs Ln))) rfl ?_
        refine mz_do (R := mz_r121) (as := [.int a, .int 0, .int 3]) (rest := []) (r1 := some (.int 0)) (m1 := (mz_i xs Ln)) rfl ⟨?_, rfl⟩ ?_
        · refine mz_go 3 (c' := (if a < 0 then 14 else 5, [some (.int a), some (.int 0), some (.int 3)], [], (mz_i xs Ln))) rfl ?_
          refine mz_ifF h1 ?_
          refine mz_go 3 (c' := (if 3 < a then 14 else 10, [some (.int a), some (.int 0), some (.int 3)], [], (mz_i xs Ln))) rfl ?_
          refine mz_ifT h2 ?_
          refine mz_go 1 (c' := (15, [some (.int a), some (.int 0), some (.int 3)], [.int 0], (mz_i xs Ln))) rfl ?_
          exact mz_ret rfl
        refine mz_go 3 (c' := (11, [some (.ref 0), some (.int a)], [.int 1, .ref 0], (mz_i xs Ln))) rfl ?_
        refine mz_do (R := mz_r109) (as := [.ref 0, .int 1]) (rest := []) (r1 := some (.int (-1000001))) (m1 := mz_up (mz_i xs Ln) 64 1 1) rfl ⟨?_, rfl⟩ ?_
        · refine mz_go 3 (c' := (4, [some (.ref 0), some (.int 1)], [.int 6, .int 1, .int 1], (mz_i xs Ln))) rfl ?_
          refine mz_do (R := mz_r121) (as := [.int 1, .int 1, .int 6]) (rest := []) (r1 := some (.int 1)) (m1 := (mz_i xs Ln)) rfl ⟨?_, rfl⟩ ?_
          · refine mz_go 8 (c' := (15, [some (.int 1), some (.int 1), some (.int 6)], [.int 1], (mz_i xs Ln))) rfl ?_
            exact mz_ret rfl
          refine mz_go 12 (c' := (25, [some (.ref 0), some (.int 1)], [.int (-1000001)], mz_up (mz_i xs Ln) 64 1 1)) rfl ?_
          exact mz_ret rfl
        exact mz_ret rfl
      · refine mz_go 3 (c' := (3, [some (.ref 65), some (.int a), none, none, none, none, none, none, none], [.int 3, .int 0, .int a], mz_up (mz_i xs Ln) 64 1 1)) rfl ?_
        refine mz_do (R := mz_r128) (as := [.int a, .int 0, .int 3]) (rest := []) (r1 := some (.int 0)) (m1 := mz_up (mz_i xs Ln) 64 1 1) rfl ⟨?_, rfl⟩ ?_
        · refine mz_go 3 (c' := (if a < 0 then 14 else 5, [some (.int a), some (.int 0), some (.int 3)], [], mz_up (mz_i xs Ln) 64 1 1)) rfl ?_
          refine mz_ifF h1 ?_
          refine mz_go 3 (c' := (if 3 < a then 14 else 10, [some (.int a), some (.int 0), some (.int 3)], [], mz_up (mz_i xs Ln) 64 1 1)) rfl ?_
          refine mz_ifT h2 ?_
          refine mz_go 1 (c' := (15, [some (.int a), some (.int 0), some (.int 3)], [.int 0], mz_up (mz_i xs Ln) 64 1 1)) rfl ?_
          exact mz_ret rfl
        refine mz_go 3 (c' := (11, [some (.ref 65), some (.int a), none, none, none, none, none, none, none], [.int 1, .ref 65], mz_up (mz_i xs Ln) 64 1 1)) rfl ?_
        refine mz_do (R := mz_r127) (as := [.ref 65, .int 1]) (rest := []) (r1 := some (.int (-1000001))) (m1 := mz_up (mz_up (mz_i xs Ln) 64 1 1) 68 1 1) rfl ⟨?_, rfl⟩ ?_
        · refine mz_go 11 (c' := (14, [some (.ref 65), some (.int 1)], [.int (-1000001)], mz_up (mz_up (mz_i xs Ln) 64 1 1) 68 1 1)) rfl ?_
          exact mz_ret rfl
        exact mz_ret rfl
    · refine ⟨(-1000002), mz_up (mz_i xs Ln) 64 2 1, mz_up (mz_up (mz_i xs Ln) 64 2 1) 68 2 1, ⟨?_, rfl⟩, ⟨?_, rfl⟩⟩
      · refine mz_go 3 (c' := (3, [some (.ref 0), some (.int a)], [.int 3, .int 0, .int a], (mz_i xs Ln))) rfl ?_
        refine mz_do (R := mz_r121) (as := [.int a, .int 0, .int 3]) (rest := []) (r1 := some (.int 1)) (m1 := (mz_i xs Ln)) rfl ⟨?_, rfl⟩ ?_
        · refine mz_go 3 (c' := (if a < 0 then 14 else 5, [some (.int a), some (.int 0), some (.int 3)], [], (mz_i xs Ln))) rfl ?_
          refine mz_ifF h1 ?_
          refine mz_go 3 (c' := (if 3 < a then 14 else 10, [some (.int a), some (.int 0), some (.int 3)], [], (mz_i xs Ln))) rfl ?_
          refine mz_ifF h2 ?_
          refine mz_go 2 (c' := (15, [some (.int a), some (.int 0), some (.int 3)], [.int 1], (mz_i xs Ln))) rfl ?_
          exact mz_ret rfl
        refine mz_go 4 (c' := (22, [some (.ref 0), some (.int a)], [.ref 20], (mz_i xs Ln))) rfl ?_
        refine mz_do (R := mz_r2) (as := [.ref 20]) (rest := []) (r1 := some (.int 0)) (m1 := (mz_i xs Ln)) rfl ⟨?_, rfl⟩ ?_
        · refine mz_go 4 (c' := (19, [some (.ref 20)], [.int 0], (mz_i xs Ln))) rfl ?_
          exact mz_ret rfl
        refine mz_go 3 (c' := (30, [some (.ref 0), some (.int a)], [.int 2, .ref 0], (mz_i xs Ln))) rfl ?_
        refine mz_do (R := mz_r109) (as := [.ref 0, .int 2]) (rest := []) (r1 := some (.int (-1000002))) (m1 := mz_up (mz_i xs Ln) 64 2 1) rfl ⟨?_, rfl⟩ ?_
        · refine mz_go 3 (c' := (4, [some (.ref 0), some (.int 2)], [.int 6, .int 1, .int 2], (mz_i xs Ln))) rfl ?_
          refine mz_do (R := mz_r121) (as := [.int 2, .int 1, .int 6]) (rest := []) (r1 := some (.int 1)) (m1 := (mz_i xs Ln)) rfl ⟨?_, rfl⟩ ?_
          · refine mz_go 8 (c' := (15, [some (.int 2), some (.int 1), some (.int 6)], [.int 1], (mz_i xs Ln))) rfl ?_
            exact mz_ret rfl
          refine mz_go 12 (c' := (25, [some (.ref 0), some (.int 2)], [.int (-1000002)], mz_up (mz_i xs Ln) 64 2 1)) rfl ?_
          exact mz_ret rfl
        exact mz_ret rfl
      · refine mz_go 3 (c' := (3, [some (.ref 65), some (.int a), none, none, none, none, none, none, none], [.int 3, .int 0, .int a], mz_up (mz_i xs Ln) 64 2 1)) rfl ?_
        refine mz_do (R := mz_r128) (as := [.int a, .int 0, .int 3]) (rest := []) (r1 := some (.int 1)) (m1 := mz_up (mz_i xs Ln) 64 2 1) rfl ⟨?_, rfl⟩ ?_
        · refine mz_go 3 (c' := (if a < 0 then 14 else 5, [some (.int a), some (.int 0), some (.int 3)], [], mz_up (mz_i xs Ln) 64 2 1)) rfl ?_
          refine mz_ifF h1 ?_
          refine mz_go 3 (c' := (if 3 < a then 14 else 10, [some (.int a), some (.int 0), some (.int 3)], [], mz_up (mz_i xs Ln) 64 2 1)) rfl ?_
          refine mz_ifF h2 ?_
          refine mz_go 2 (c' := (15, [some (.int a), some (.int 0), some (.int 3)], [.int 1], mz_up (mz_i xs Ln) 64 2 1)) rfl ?_
          exact mz_ret rfl
        refine mz_go 2 (c' := (16, [some (.ref 65), some (.int a), none, none, none, none, none, none, none], [.ref 65], mz_up (mz_i xs Ln) 64 2 1)) rfl ?_
        refine mz_do (R := mz_r185) (as := [.ref 65]) (rest := []) (r1 := some (.int 0)) (m1 := mz_up (mz_i xs Ln) 64 2 1) rfl ⟨?_, rfl⟩ ?_
        · refine mz_go 1 (c' := (1, [some (.ref 65)], [.ref 65], mz_up (mz_i xs Ln) 64 2 1)) rfl ?_
          refine mz_do (R := mz_r183) (as := [.ref 65]) (rest := []) (r1 := some (.int 0)) (m1 := mz_up (mz_i xs Ln) 64 2 1) rfl ⟨?_, rfl⟩ ?_
          · refine mz_go 4 (c' := (7, [some (.ref 65)], [.int 0], mz_up (mz_i xs Ln) 64 2 1)) rfl ?_
            exact mz_ret rfl
          refine mz_go 2 (c' := (12, [some (.ref 65)], [.int 0], mz_up (mz_i xs Ln) 64 2 1)) rfl ?_
          exact mz_ret rfl
        refine mz_go 3 (c' := (24, [some (.ref 65), some (.int a), none, none, none, none, none, none, none], [.int 2, .ref 65], mz_up (mz_i xs Ln) 64 2 1)) rfl ?_
        refine mz_do (R := mz_r127) (as := [.ref 65, .int 2]) (rest := []) (r1 := some (.int (-1000002))) (m1 := mz_up (mz_up (mz_i xs Ln) 64 2 1) 68 2 1) rfl ⟨?_, rfl⟩ ?_
        · refine mz_go 11 (c' := (14, [some (.ref 65), some (.int 2)], [.int (-1000002)], mz_up (mz_up (mz_i xs Ln) 64 2 1) 68 2 1)) rfl ?_
          exact mz_ret rfl
        exact mz_ret rfl
set_option maxHeartbeats 4000000 in
set_option maxRecDepth 100000 in
theorem p1_fair (xs : Nat → Int32) (Ln : Nat) (a : Int32) : ∃ v m1 m2, mz_Me 100 mz_r92 [.ref 0, .int a] (mz_i xs Ln) (some (.int v)) m1 ∧ mz_Me 100 mz_r202 [.ref 65, .int a] m1 (some (.int v)) m2 := by
  by_cases h1 : a < 0
  · refine ⟨(-1000001), mz_up (mz_i xs Ln) 64 1 1, mz_up (mz_up (mz_i xs Ln) 64 1 1) 68 1 1, ⟨?_, rfl⟩, ⟨?_, rfl⟩⟩
    · refine mz_go 3 (c' := (3, [some (.ref 0), some (.int a), none, none, none, none, none], [.int 1, .int 0, .int a], (mz_i xs Ln))) rfl ?_
      refine mz_do (R := mz_r121) (as := [.int a, .int 0, .int 1]) (rest := []) (r1 := some (.int 0)) (m1 := (mz_i xs Ln)) rfl ⟨?_, rfl⟩ ?_
      · refine mz_go 3 (c' := (if a < 0 then 14 else 5, [some (.int a), some (.int 0), some (.int 1)], [], (mz_i xs Ln))) rfl ?_
        refine mz_ifT h1 ?_
        refine mz_go 1 (c' := (15, [some (.int a), some (.int 0), some (.int 1)], [.int 0], (mz_i xs Ln))) rfl ?_
        exact mz_ret rfl
      refine mz_go 3 (c' := (11, [some (.ref 0), some (.int a), none, none, none, none, none], [.int 1, .ref 0], (mz_i xs Ln))) rfl ?_
      refine mz_do (R := mz_r109) (as := [.ref 0, .int 1]) (rest := []) (r1 := some (.int (-1000001))) (m1 := mz_up (mz_i xs Ln) 64 1 1) rfl ⟨?_, rfl⟩ ?_
      · refine mz_go 3 (c' := (4, [some (.ref 0), some (.int 1)], [.int 6, .int 1, .int 1], (mz_i xs Ln))) rfl ?_
        refine mz_do (R := mz_r121) (as := [.int 1, .int 1, .int 6]) (rest := []) (r1 := some (.int 1)) (m1 := (mz_i xs Ln)) rfl ⟨?_, rfl⟩ ?_
        · refine mz_go 8 (c' := (15, [some (.int 1), some (.int 1), some (.int 6)], [.int 1], (mz_i xs Ln))) rfl ?_
          exact mz_ret rfl
        refine mz_go 12 (c' := (25, [some (.ref 0), some (.int 1)], [.int (-1000001)], mz_up (mz_i xs Ln) 64 1 1)) rfl ?_
        exact mz_ret rfl
      exact mz_ret rfl
    · refine mz_go 3 (c' := (3, [some (.ref 65), some (.int a), none, none, none, none, none], [.int 1, .int 0, .int a], mz_up (mz_i xs Ln) 64 1 1)) rfl ?_
      refine mz_do (R := mz_r128) (as := [.int a, .int 0, .int 1]) (rest := []) (r1 := some (.int 0)) (m1 := mz_up (mz_i xs Ln) 64 1 1) rfl ⟨?_, rfl⟩ ?_
      · refine mz_go 3 (c' := (if a < 0 then 14 else 5, [some (.int a), some (.int 0), some (.int 1)], [], mz_up (mz_i xs Ln) 64 1 1)) rfl ?_
        refine mz_ifT h1 ?_
        refine mz_go 1 (c' := (15, [some (.int a), some (.int 0), some (.int 1)], [.int 0], mz_up (mz_i xs Ln) 64 1 1)) rfl ?_
        exact mz_ret rfl
      refine mz_go 3 (c' := (11, [some (.ref 65), some (.int a), none, none, none, none, none], [.int 1, .ref 65], mz_up (mz_i xs Ln) 64 1 1)) rfl ?_
      refine mz_do (R := mz_r127) (as := [.ref 65, .int 1]) (rest := []) (r1 := some (.int (-1000001))) (m1 := mz_up (mz_up (mz_i xs Ln) 64 1 1) 68 1 1) rfl ⟨?_, rfl⟩ ?_
      · refine mz_go 11 (c' := (14, [some (.ref 65), some (.int 1)], [.int (-1000001)], mz_up (mz_up (mz_i xs Ln) 64 1 1) 68 1 1)) rfl ?_
        exact mz_ret rfl
      exact mz_ret rfl
  · by_cases h2 : 1 < a
    · refine ⟨(-1000001), mz_up (mz_i xs Ln) 64 1 1, mz_up (mz_up (mz_i xs Ln) 64 1 1) 68 1 1, ⟨?_, rfl⟩, ⟨?_, rfl⟩⟩
      · refine mz_go 3 (c' := (3, [some (.ref 0), some (.int a), none, none, none, none, none], [.int 1, .int 0, .int a], (mz_i xs Ln))) rfl ?_
        refine mz_do (R := mz_r121) (as := [.int a, .int 0, .int 1]) (rest := []) (r1 := some (.int 0)) (m1 := (mz_i xs Ln)) rfl ⟨?_, rfl⟩ ?_
        · refine mz_go 3 (c' := (if a < 0 then 14 else 5, [some (.int a), some (.int 0), some (.int 1)], [], (mz_i xs Ln))) rfl ?_
          refine mz_ifF h1 ?_
          refine mz_go 3 (c' := (if 1 < a then 14 else 10, [some (.int a), some (.int 0), some (.int 1)], [], (mz_i xs Ln))) rfl ?_
          refine mz_ifT h2 ?_
          refine mz_go 1 (c' := (15, [some (.int a), some (.int 0), some (.int 1)], [.int 0], (mz_i xs Ln))) rfl ?_
          exact mz_ret rfl
        refine mz_go 3 (c' := (11, [some (.ref 0), some (.int a), none, none, none, none, none], [.int 1, .ref 0], (mz_i xs Ln))) rfl ?_
        refine mz_do (R := mz_r109) (as := [.ref 0, .int 1]) (rest := []) (r1 := some (.int (-1000001))) (m1 := mz_up (mz_i xs Ln) 64 1 1) rfl ⟨?_, rfl⟩ ?_
        · refine mz_go 3 (c' := (4, [some (.ref 0), some (.int 1)], [.int 6, .int 1, .int 1], (mz_i xs Ln))) rfl ?_
          refine mz_do (R := mz_r121) (as := [.int 1, .int 1, .int 6]) (rest := []) (r1 := some (.int 1)) (m1 := (mz_i xs Ln)) rfl ⟨?_, rfl⟩ ?_
          · refine mz_go 8 (c' := (15, [some (.int 1), some (.int 1), some (.int 6)], [.int 1], (mz_i xs Ln))) rfl ?_
            exact mz_ret rfl
          refine mz_go 12 (c' := (25, [some (.ref 0), some (.int 1)], [.int (-1000001)], mz_up (mz_i xs Ln) 64 1 1)) rfl ?_
          exact mz_ret rfl
        exact mz_ret rfl
      · refine mz_go 3 (c' := (3, [some (.ref 65), some (.int a), none, none, none, none, none], [.int 1, .int 0, .int a], mz_up (mz_i xs Ln) 64 1 1)) rfl ?_
        refine mz_do (R := mz_r128) (as := [.int a, .int 0, .int 1]) (rest := []) (r1 := some (.int 0)) (m1 := mz_up (mz_i xs Ln) 64 1 1) rfl ⟨?_, rfl⟩ ?_
        · refine mz_go 3 (c' := (if a < 0 then 14 else 5, [some (.int a), some (.int 0), some (.int 1)], [], mz_up (mz_i xs Ln) 64 1 1)) rfl ?_
          refine mz_ifF h1 ?_
          refine mz_go 3 (c' := (if 1 < a then 14 else 10, [some (.int a), some (.int 0), some (.int 1)], [], mz_up (mz_i xs Ln) 64 1 1)) rfl ?_
          refine mz_ifT h2 ?_
          refine mz_go 1 (c' := (15, [some (.int a), some (.int 0), some (.int 1)], [.int 0], mz_up (mz_i xs Ln) 64 1 1)) rfl ?_
          exact mz_ret rfl
        refine mz_go 3 (c' := (11, [some (.ref 65), some (.int a), none, none, none, none, none], [.int 1, .ref 65], mz_up (mz_i xs Ln) 64 1 1)) rfl ?_
        refine mz_do (R := mz_r127) (as := [.ref 65, .int 1]) (rest := []) (r1 := some (.int (-1000001))) (m1 := mz_up (mz_up (mz_i xs Ln) 64 1 1) 68 1 1) rfl ⟨?_, rfl⟩ ?_
        · refine mz_go 11 (c' := (14, [some (.ref 65), some (.int 1)], [.int (-1000001)], mz_up (mz_up (mz_i xs Ln) 64 1 1) 68 1 1)) rfl ?_
          exact mz_ret rfl
        exact mz_ret rfl
    · refine ⟨(-1000002), mz_up (mz_i xs Ln) 64 2 1, mz_up (mz_up (mz_i xs Ln) 64 2 1) 68 2 1, ⟨?_, rfl⟩, ⟨?_, rfl⟩⟩
      · refine mz_go 3 (c' := (3, [some (.ref 0), some (.int a), none, none, none, none, none], [.int 1, .int 0, .int a], (mz_i xs Ln))) rfl ?_
        refine mz_do (R := mz_r121) (as := [.int a, .int 0, .int 1]) (rest := []) (r1 := some (.int 1)) (m1 := (mz_i xs Ln)) rfl ⟨?_, rfl⟩ ?_
        · refine mz_go 3 (c' := (if a < 0 then 14 else 5, [some (.int a), some (.int 0), some (.int 1)], [], (mz_i xs Ln))) rfl ?_
          refine mz_ifF h1 ?_
          refine mz_go 3 (c' := (if 1 < a then 14 else 10, [some (.int a), some (.int 0), some (.int 1)], [], (mz_i xs Ln))) rfl ?_
          refine mz_ifF h2 ?_
          refine mz_go 2 (c' := (15, [some (.int a), some (.int 0), some (.int 1)], [.int 1], (mz_i xs Ln))) rfl ?_
          exact mz_ret rfl
        refine mz_go 4 (c' := (22, [some (.ref 0), some (.int a), none, none, none, none, none], [.ref 20], (mz_i xs Ln))) rfl ?_
        refine mz_do (R := mz_r2) (as := [.ref 20]) (rest := []) (r1 := some (.int 0)) (m1 := (mz_i xs Ln)) rfl ⟨?_, rfl⟩ ?_
        · refine mz_go 4 (c' := (19, [some (.ref 20)], [.int 0], (mz_i xs Ln))) rfl ?_
          exact mz_ret rfl
        refine mz_go 3 (c' := (43, [some (.ref 0), some (.int a), none, none, none, none, none], [.int 2, .ref 0], (mz_i xs Ln))) rfl ?_
        refine mz_do (R := mz_r109) (as := [.ref 0, .int 2]) (rest := []) (r1 := some (.int (-1000002))) (m1 := mz_up (mz_i xs Ln) 64 2 1) rfl ⟨?_, rfl⟩ ?_
        · refine mz_go 3 (c' := (4, [some (.ref 0), some (.int 2)], [.int 6, .int 1, .int 2], (mz_i xs Ln))) rfl ?_
          refine mz_do (R := mz_r121) (as := [.int 2, .int 1, .int 6]) (rest := []) (r1 := some (.int 1)) (m1 := (mz_i xs Ln)) rfl ⟨?_, rfl⟩ ?_
          · refine mz_go 8 (c' := (15, [some (.int 2), some (.int 1), some (.int 6)], [.int 1], (mz_i xs Ln))) rfl ?_
            exact mz_ret rfl
          refine mz_go 12 (c' := (25, [some (.ref 0), some (.int 2)], [.int (-1000002)], mz_up (mz_i xs Ln) 64 2 1)) rfl ?_
          exact mz_ret rfl
        exact mz_ret rfl
      · refine mz_go 3 (c' := (3, [some (.ref 65), some (.int a), none, none, none, none, none], [.int 1, .int 0, .int a], mz_up (mz_i xs Ln) 64 2 1)) rfl ?_
        refine mz_do (R := mz_r128) (as := [.int a, .int 0, .int 1]) (rest := []) (r1 := some (.int 1)) (m1 := mz_up (mz_i xs Ln) 64 2 1) rfl ⟨?_, rfl⟩ ?_
        · refine mz_go 3 (c' := (if a < 0 then 14 else 5, [some (.int a), some (.int 0), some (.int 1)], [], mz_up (mz_i xs Ln) 64 2 1)) rfl ?_
          refine mz_ifF h1 ?_
          refine mz_go 3 (c' := (if 1 < a then 14 else 10, [some (.int a), some (.int 0), some (.int 1)], [], mz_up (mz_i xs Ln) 64 2 1)) rfl ?_
          refine mz_ifF h2 ?_
          refine mz_go 2 (c' := (15, [some (.int a), some (.int 0), some (.int 1)], [.int 1], mz_up (mz_i xs Ln) 64 2 1)) rfl ?_
          exact mz_ret rfl
        refine mz_go 2 (c' := (16, [some (.ref 65), some (.int a), none, none, none, none, none], [.ref 65], mz_up (mz_i xs Ln) 64 2 1)) rfl ?_
        refine mz_do (R := mz_r185) (as := [.ref 65]) (rest := []) (r1 := some (.int 0)) (m1 := mz_up (mz_i xs Ln) 64 2 1) rfl ⟨?_, rfl⟩ ?_
        · refine mz_go 1 (c' := (1, [some (.ref 65)], [.ref 65], mz_up (mz_i xs Ln) 64 2 1)) rfl ?_
          refine mz_do (R := mz_r183) (as := [.ref 65]) (rest := []) (r1 := some (.int 0)) (m1 := mz_up (mz_i xs Ln) 64 2 1) rfl ⟨?_, rfl⟩ ?_
          · refine mz_go 4 (c' := (7, [some (.ref 65)], [.int 0], mz_up (mz_i xs Ln) 64 2 1)) rfl ?_
            exact mz_ret rfl
          refine mz_go 2 (c' := (12, [some (.ref 65)], [.int 0], mz_up (mz_i xs Ln) 64 2 1)) rfl ?_
          exact mz_ret rfl
        refine mz_go 3 (c' := (33, [some (.ref 65), some (.int a), none, none, none, none, none], [.int 2, .ref 65], mz_up (mz_i xs Ln) 64 2 1)) rfl ?_
        refine mz_do (R := mz_r127) (as := [.ref 65, .int 2]) (rest := []) (r1 := some (.int (-1000002))) (m1 := mz_up (mz_up (mz_i xs Ln) 64 2 1) 68 2 1) rfl ⟨?_, rfl⟩ ?_
        · refine mz_go 11 (c' := (14, [some (.ref 65), some (.int 2)], [.int (-1000002)], mz_up (mz_up (mz_i xs Ln) 64 2 1) 68 2 1)) rfl ?_
          exact mz_ret rfl
        exact mz_ret rfl
set_option maxHeartbeats 4000000 in
set_option maxRecDepth 100000 in
theorem p1_want (xs : Nat → Int32) (Ln : Nat) (a : Int32) : ∃ v m1 m2, mz_Me 100 mz_r93 [.ref 0, .int a] (mz_i xs Ln) (some (.int v)) m1 ∧ mz_Me 100 mz_r204 [.ref 65, .int a] m1 (some (.int v)) m2 := by
  by_cases h1 : a < 0
  · refine ⟨(-1000001), mz_up (mz_i xs Ln) 64 1 1, mz_up (mz_up (mz_i xs Ln) 64 1 1) 68 1 1, ⟨?_, rfl⟩, ⟨?_, rfl⟩⟩
    · refine mz_go 3 (c' := (3, [some (.ref 0), some (.int a), none, none, none, none, none, none], [.int 1, .int 0, .int a], (mz_i xs Ln))) rfl ?_
      refine mz_do (R := mz_r121) (as := [.int a, .int 0, .int 1]) (rest := []) (r1 := some (.int 0)) (m1 := (mz_i xs Ln)) rfl ⟨?_, rfl⟩ ?_
      · refine mz_go 3 (c' := (if a < 0 then 14 else 5, [some (.int a), some (.int 0), some (.int 1)], [], (mz_i xs Ln))) rfl ?_
        refine mz_ifT h1 ?_
        refine mz_go 1 (c' := (15, [some (.int a), some (.int 0), some (.int 1)], [.int 0], (mz_i xs Ln))) rfl ?_
        exact mz_ret rfl
      refine mz_go 3 (c' := (11, [some (.ref 0), some (.int a), none, none, none, none, none, none], [.int 1, .ref 0], (mz_i xs Ln))) rfl ?_
      refine mz_do (R := mz_r109) (as := [.ref 0, .int 1]) (rest := []) (r1 := some (.int (-1000001))) (m1 := mz_up (mz_i xs Ln) 64 1 1) rfl ⟨?_, rfl⟩ ?_
      · refine mz_go 3 (c' := (4, [some (.ref 0), some (.int 1)], [.int 6, .int 1, .int 1], (mz_i xs Ln))) rfl ?_
        refine mz_do (R := mz_r121) (as := [.int 1, .int 1, .int 6]) (rest := []) (r1 := some (.int 1)) (m1 := (mz_i xs Ln)) rfl ⟨?_, rfl⟩ ?_
        · refine mz_go 8 (c' := (15, [some (.int 1), some (.int 1), some (.int 6)], [.int 1], (mz_i xs Ln))) rfl ?_
          exact mz_ret rfl
        refine mz_go 12 (c' := (25, [some (.ref 0), some (.int 1)], [.int (-1000001)], mz_up (mz_i xs Ln) 64 1 1)) rfl ?_
        exact mz_ret rfl
      exact mz_ret rfl
    · refine mz_go 3 (c' := (3, [some (.ref 65), some (.int a), none, none, none, none], [.int 1, .int 0, .int a], mz_up (mz_i xs Ln) 64 1 1)) rfl ?_
      refine mz_do (R := mz_r128) (as := [.int a, .int 0, .int 1]) (rest := []) (r1 := some (.int 0)) (m1 := mz_up (mz_i xs Ln) 64 1 1) rfl ⟨?_, rfl⟩ ?_
      · refine mz_go 3 (c' := (if a < 0 then 14 else 5, [some (.int a), some (.int 0), some (.int 1)], [], mz_up (mz_i xs Ln) 64 1 1)) rfl ?_
        refine mz_ifT h1 ?_
        refine mz_go 1 (c' := (15, [some (.int a), some (.int 0), some (.int 1)], [.int 0], mz_up (mz_i xs Ln) 64 1 1)) rfl ?_
        exact mz_ret rfl
      refine mz_go 3 (c' := (11, [some (.ref 65), some (.int a), none, none, none, none], [.int 1, .ref 65], mz_up (mz_i xs Ln) 64 1 1)) rfl ?_
      refine mz_do (R := mz_r127) (as := [.ref 65, .int 1]) (rest := []) (r1 := some (.int (-1000001))) (m1 := mz_up (mz_up (mz_i xs Ln) 64 1 1) 68 1 1) rfl ⟨?_, rfl⟩ ?_
      · refine mz_go 11 (c' := (14, [some (.ref 65), some (.int 1)], [.int (-1000001)], mz_up (mz_up (mz_i xs Ln) 64 1 1) 68 1 1)) rfl ?_
        exact mz_ret rfl
      exact mz_ret rfl
  · by_cases h2 : 1 < a
    · refine ⟨(-1000001), mz_up (mz_i xs Ln) 64 1 1, mz_up (mz_up (mz_i xs Ln) 64 1 1) 68 1 1, ⟨?_, rfl⟩, ⟨?_, rfl⟩⟩
      · refine mz_go 3 (c' := (3, [some (.ref 0), some (.int a), none, none, none, none, none, none], [.int 1, .int 0, .int a], (mz_i xs Ln))) rfl ?_
        refine mz_do (R := mz_r121) (as := [.int a, .int 0, .int 1]) (rest := []) (r1 := some (.int 0)) (m1 := (mz_i xs Ln)) rfl ⟨?_, rfl⟩ ?_
        · refine mz_go 3 (c' := (if a < 0 then 14 else 5, [some (.int a), some (.int 0), some (.int 1)], [], (mz_i xs Ln))) rfl ?_
          refine mz_ifF h1 ?_
          refine mz_go 3 (c' := (if 1 < a then 14 else 10, [some (.int a), some (.int 0), some (.int 1)], [], (mz_i xs Ln))) rfl ?_
          refine mz_ifT h2 ?_
          refine mz_go 1 (c' := (15, [some (.int a), some (.int 0), some (.int 1)], [.int 0], (mz_i xs Ln))) rfl ?_
          exact mz_ret rfl
        refine mz_go 3 (c' := (11, [some (.ref 0), some (.int a), none, none, none, none, none, none], [.int 1, .ref 0], (mz_i xs Ln))) rfl ?_
        refine mz_do (R := mz_r109) (as := [.ref 0, .int 1]) (rest := []) (r1 := some (.int (-1000001))) (m1 := mz_up (mz_i xs Ln) 64 1 1) rfl ⟨?_, rfl⟩ ?_
        · refine mz_go 3 (c' := (4, [some (.ref 0), some (.int 1)], [.int 6, .int 1, .int 1], (mz_i xs Ln))) rfl ?_
          refine mz_do (R := mz_r121) (as := [.int 1, .int 1, .int 6]) (rest := []) (r1 := some (.int 1)) (m1 := (mz_i xs Ln)) rfl ⟨?_, rfl⟩ ?_
          · refine mz_go 8 (c' := (15, [some (.int 1), some (.int 1), some (.int 6)], [.int 1], (mz_i xs Ln))) rfl ?_
            exact mz_ret rfl
          refine mz_go 12 (c' := (25, [some (.ref 0), some (.int 1)], [.int (-1000001)], mz_up (mz_i xs Ln) 64 1 1)) rfl ?_
          exact mz_ret rfl
        exact mz_ret rfl
      · refine mz_go 3 (c' := (3, [some (.ref 65), some (.int a), none, none, none, none], [.int 1, .int 0, .int a], mz_up (mz_i xs Ln) 64 1 1)) rfl ?_
        refine mz_do (R := mz_r128) (as := [.int a, .int 0, .int 1]) (rest := []) (r1 := some (.int 0)) (m1 := mz_up (mz_i xs Ln) 64 1 1) rfl ⟨?_, rfl⟩ ?_
        · refine mz_go 3 (c' := (if a < 0 then 14 else 5, [some (.int a), some (.int 0), some (.int 1)], [], mz_up (mz_i xs Ln) 64 1 1)) rfl ?_
          refine mz_ifF h1 ?_
          refine mz_go 3 (c' := (if 1 < a then 14 else 10, [some (.int a), some (.int 0), some (.int 1)], [], mz_up (mz_i xs Ln) 64 1 1)) rfl ?_
          refine mz_ifT h2 ?_
          refine mz_go 1 (c' := (15, [some (.int a), some (.int 0), some (.int 1)], [.int 0], mz_up (mz_i xs Ln) 64 1 1)) rfl ?_
          exact mz_ret rfl
        refine mz_go 3 (c' := (11, [some (.ref 65), some (.int a), none, none, none, none], [.int 1, .ref 65], mz_up (mz_i xs Ln) 64 1 1)) rfl ?_
        refine mz_do (R := mz_r127) (as := [.ref 65, .int 1]) (rest := []) (r1 := some (.int (-1000001))) (m1 := mz_up (mz_up (mz_i xs Ln) 64 1 1) 68 1 1) rfl ⟨?_, rfl⟩ ?_
        · refine mz_go 11 (c' := (14, [some (.ref 65), some (.int 1)], [.int (-1000001)], mz_up (mz_up (mz_i xs Ln) 64 1 1) 68 1 1)) rfl ?_
          exact mz_ret rfl
        exact mz_ret rfl
    · refine ⟨(-1000002), mz_up (mz_i xs Ln) 64 2 1, mz_up (mz_up (mz_i xs Ln) 64 2 1) 68 2 1, ⟨?_, rfl⟩, ⟨?_, rfl⟩⟩
      · refine mz_go 3 (c' := (3, [some (.ref 0), some (.int a), none, none, none, none, none, none], [.int 1, .int 0, .int a], (mz_i xs Ln))) rfl ?_
        refine mz_do (R := mz_r121) (as := [.int a, .int 0, .int 1]) (rest := []) (r1 := some (.int 1)) (m1 := (mz_i xs Ln)) rfl ⟨?_, rfl⟩ ?_
        · refine mz_go 3 (c' := (if a < 0 then 14 else 5, [some (.int a), some (.int 0), some (.int 1)], [], (mz_i xs Ln))) rfl ?_
          refine mz_ifF h1 ?_
          refine mz_go 3 (c' := (if 1 < a then 14 else 10, [some (.int a), some (.int 0), some (.int 1)], [], (mz_i xs Ln))) rfl ?_
          refine mz_ifF h2 ?_
          refine mz_go 2 (c' := (15, [some (.int a), some (.int 0), some (.int 1)], [.int 1], (mz_i xs Ln))) rfl ?_
          exact mz_ret rfl
        refine mz_go 6 (c' := (24, [some (.ref 0), some (.int a), some (.ref 20), none, none, none, none, none], [.ref 20], (mz_i xs Ln))) rfl ?_
        refine mz_do (R := mz_r2) (as := [.ref 20]) (rest := []) (r1 := some (.int 0)) (m1 := (mz_i xs Ln)) rfl ⟨?_, rfl⟩ ?_
        · refine mz_go 4 (c' := (19, [some (.ref 20)], [.int 0], (mz_i xs Ln))) rfl ?_
          exact mz_ret rfl
        refine mz_go 3 (c' := (32, [some (.ref 0), some (.int a), some (.ref 20), none, none, none, none, none], [.int 2, .ref 0], (mz_i xs Ln))) rfl ?_
        refine mz_do (R := mz_r109) (as := [.ref 0, .int 2]) (rest := []) (r1 := some (.int (-1000002))) (m1 := mz_up (mz_i xs Ln) 64 2 1) rfl ⟨?_, rfl⟩ ?_
        · refine mz_go 3 (c' := (4, [some (.ref 0), some (.int 2)], [.int 6, .int 1, .int 2], (mz_i xs Ln))) rfl ?_
          refine mz_do (R := mz_r121) (as := [.int 2, .int 1, .int 6]) (rest := []) (r1 := some (.int 1)) (m1 := (mz_i xs Ln)) rfl ⟨?_, rfl⟩ ?_
          · refine mz_go 8 (c' := (15, [some (.int 2), some (.int 1), some (.int 6)], [.int 1], (mz_i xs Ln))) rfl ?_
            exact mz_ret rfl
          refine mz_go 12 (c' := (25, [some (.ref 0), some (.int 2)], [.int (-1000002)], mz_up (mz_i xs Ln) 64 2 1)) rfl ?_
          exact mz_ret rfl
        exact mz_ret rfl
      · refine mz_go 3 (c' := (3, [some (.ref 65), some (.int a), none, none, none, none], [.int 1, .int 0, .int a], mz_up (mz_i xs Ln) 64 2 1)) rfl ?_
        refine mz_do (R := mz_r128) (as := [.int a, .int 0, .int 1]) (rest := []) (r1 := some (.int 1)) (m1 := mz_up (mz_i xs Ln) 64 2 1) rfl ⟨?_, rfl⟩ ?_
        · refine mz_go 3 (c' := (if a < 0 then 14 else 5, [some (.int a), some (.int 0), some (.int 1)], [], mz_up (mz_i xs Ln) 64 2 1)) rfl ?_
          refine mz_ifF h1 ?_
          refine mz_go 3 (c' := (if 1 < a then 14 else 10, [some (.int a), some (.int 0), some (.int 1)], [], mz_up (mz_i xs Ln) 64 2 1)) rfl ?_
          refine mz_ifF h2 ?_
          refine mz_go 2 (c' := (15, [some (.int a), some (.int 0), some (.int 1)], [.int 1], mz_up (mz_i xs Ln) 64 2 1)) rfl ?_
          exact mz_ret rfl
        refine mz_go 2 (c' := (16, [some (.ref 65), some (.int a), none, none, none, none], [.ref 65], mz_up (mz_i xs Ln) 64 2 1)) rfl ?_
        refine mz_do (R := mz_r185) (as := [.ref 65]) (rest := []) (r1 := some (.int 0)) (m1 := mz_up (mz_i xs Ln) 64 2 1) rfl ⟨?_, rfl⟩ ?_
        · refine mz_go 1 (c' := (1, [some (.ref 65)], [.ref 65], mz_up (mz_i xs Ln) 64 2 1)) rfl ?_
          refine mz_do (R := mz_r183) (as := [.ref 65]) (rest := []) (r1 := some (.int 0)) (m1 := mz_up (mz_i xs Ln) 64 2 1) rfl ⟨?_, rfl⟩ ?_
          · refine mz_go 4 (c' := (7, [some (.ref 65)], [.int 0], mz_up (mz_i xs Ln) 64 2 1)) rfl ?_
            exact mz_ret rfl
          refine mz_go 2 (c' := (12, [some (.ref 65)], [.int 0], mz_up (mz_i xs Ln) 64 2 1)) rfl ?_
          exact mz_ret rfl
        refine mz_go 3 (c' := (24, [some (.ref 65), some (.int a), none, none, none, none], [.int 2, .ref 65], mz_up (mz_i xs Ln) 64 2 1)) rfl ?_
        refine mz_do (R := mz_r127) (as := [.ref 65, .int 2]) (rest := []) (r1 := some (.int (-1000002))) (m1 := mz_up (mz_up (mz_i xs Ln) 64 2 1) 68 2 1) rfl ⟨?_, rfl⟩ ?_
        · refine mz_go 11 (c' := (14, [some (.ref 65), some (.int 2)], [.int (-1000002)], mz_up (mz_up (mz_i xs Ln) 64 2 1) 68 2 1)) rfl ?_
          exact mz_ret rfl
        exact mz_ret rfl
set_option maxHeartbeats 4000000 in
set_option maxRecDepth 100000 in
theorem p1_thrownAt (xs : Nat → Int32) (Ln : Nat) (a : Int32) : ∃ v m1 m2, mz_Me 100 mz_r95 [.ref 0, .int a] (mz_i xs Ln) (some (.int v)) m1 ∧ mz_Me 100 mz_r207 [.ref 65, .int a] m1 (some (.int v)) m2 := by
  by_cases h1 : a = 9
  · subst h1
    refine ⟨(-1000002), mz_up (mz_i xs Ln) 64 2 1, mz_up (mz_up (mz_i xs Ln) 64 2 1) 68 2 1, ⟨?_, rfl⟩, ⟨?_, rfl⟩⟩
    · refine mz_go 1 (c' := (1, [some (.ref 0), some (.int 9)], [.int 9], (mz_i xs Ln))) rfl ?_
      refine mz_do (R := mz_r118) (as := [.int 9]) (rest := []) (r1 := some (.int 1)) (m1 := (mz_i xs Ln)) rfl ⟨?_, rfl⟩ ?_
      · refine mz_go 5 (c' := (20, [some (.int 9)], [.int 1], (mz_i xs Ln))) rfl ?_
        exact mz_ret rfl
      refine mz_go 7 (c' := (25, [some (.ref 0), some (.int 9)], [.int 2, .ref 0], (mz_i xs Ln))) rfl ?_
      refine mz_do (R := mz_r109) (as := [.ref 0, .int 2]) (rest := []) (r1 := some (.int (-1000002))) (m1 := mz_up (mz_i xs Ln) 64 2 1) rfl ⟨?_, rfl⟩ ?_
      · refine mz_go 3 (c' := (4, [some (.ref 0), some (.int 2)], [.int 6, .int 1, .int 2], (mz_i xs Ln))) rfl ?_
        refine mz_do (R := mz_r121) (as := [.int 2, .int 1, .int 6]) (rest := []) (r1 := some (.int 1)) (m1 := (mz_i xs Ln)) rfl ⟨?_, rfl⟩ ?_
        · refine mz_go 8 (c' := (15, [some (.int 2), some (.int 1), some (.int 6)], [.int 1], (mz_i xs Ln))) rfl ?_
          exact mz_ret rfl
        refine mz_go 12 (c' := (25, [some (.ref 0), some (.int 2)], [.int (-1000002)], mz_up (mz_i xs Ln) 64 2 1)) rfl ?_
        exact mz_ret rfl
      exact mz_ret rfl
    · refine mz_go 1 (c' := (1, [some (.ref 65), some (.int 9)], [.int 9], mz_up (mz_i xs Ln) 64 2 1)) rfl ?_
      refine mz_do (R := mz_r188) (as := [.int 9]) (rest := []) (r1 := some (.int 1)) (m1 := mz_up (mz_i xs Ln) 64 2 1) rfl ⟨?_, rfl⟩ ?_
      · refine mz_go 3 (c' := (3, [some (.int 9)], [.int 5, .int 0, .int 9], mz_up (mz_i xs Ln) 64 2 1)) rfl ?_
        refine mz_do (R := mz_r128) (as := [.int 9, .int 0, .int 5]) (rest := []) (r1 := some (.int 0)) (m1 := mz_up (mz_i xs Ln) 64 2 1) rfl ⟨?_, rfl⟩ ?_
        · refine mz_go 7 (c' := (15, [some (.int 9), some (.int 0), some (.int 5)], [.int 0], mz_up (mz_i xs Ln) 64 2 1)) rfl ?_
          exact mz_ret rfl
        refine mz_go 6 (c' := (20, [some (.int 9)], [.int 1], mz_up (mz_i xs Ln) 64 2 1)) rfl ?_
        exact mz_ret rfl
      refine mz_go 8 (c' := (26, [some (.ref 65), some (.int 9)], [.int 2, .ref 65], mz_up (mz_i xs Ln) 64 2 1)) rfl ?_
      refine mz_do (R := mz_r127) (as := [.ref 65, .int 2]) (rest := []) (r1 := some (.int (-1000002))) (m1 := mz_up (mz_up (mz_i xs Ln) 64 2 1) 68 2 1) rfl ⟨?_, rfl⟩ ?_
      · refine mz_go 11 (c' := (14, [some (.ref 65), some (.int 2)], [.int (-1000002)], mz_up (mz_up (mz_i xs Ln) 64 2 1) 68 2 1)) rfl ?_
        exact mz_ret rfl
      refine mz_go 1 (c' := (42, [some (.ref 65), some (.int 9)], [.int (-1000002)], mz_up (mz_up (mz_i xs Ln) 64 2 1) 68 2 1)) rfl ?_
      exact mz_ret rfl
  · by_cases h2 : a < 0
    · refine ⟨(-1000001), mz_up (mz_i xs Ln) 64 1 1, mz_up (mz_up (mz_i xs Ln) 64 1 1) 68 1 1, ⟨?_, rfl⟩, ⟨?_, rfl⟩⟩
      · refine mz_go 1 (c' := (1, [some (.ref 0), some (.int a)], [.int a], (mz_i xs Ln))) rfl ?_
        refine mz_do (R := mz_r118) (as := [.int a]) (rest := []) (r1 := some (.int 0)) (m1 := (mz_i xs Ln)) rfl ⟨?_, rfl⟩ ?_
        · refine mz_go 3 (c' := (if a = 9 then 15 else 6, [some (.int a)], [], (mz_i xs Ln))) rfl ?_
          refine mz_ifF h1 ?_
          refine mz_go 3 (c' := (9, [some (.int a)], [.int 5, .int 0, .int a], (mz_i xs Ln))) rfl ?_
          refine mz_do (R := mz_r121) (as := [.int a, .int 0, .int 5]) (rest := []) (r1 := some (.int 0)) (m1 := (mz_i xs Ln)) rfl ⟨?_, rfl⟩ ?_
          · refine mz_go 3 (c' := (if a < 0 then 14 else 5, [some (.int a), some (.int 0), some (.int 5)], [], (mz_i xs Ln))) rfl ?_
            refine mz_ifT h2 ?_
            refine mz_go 1 (c' := (15, [some (.int a), some (.int 0), some (.int 5)], [.int 0], (mz_i xs Ln))) rfl ?_
            exact mz_ret rfl
          refine mz_go 2 (c' := (20, [some (.int a)], [.int 0], (mz_i xs Ln))) rfl ?_
          exact mz_ret rfl
        refine mz_go 3 (c' := (9, [some (.ref 0), some (.int a)], [.int 1, .ref 0], (mz_i xs Ln))) rfl ?_
        refine mz_do (R := mz_r109) (as := [.ref 0, .int 1]) (rest := []) (r1 := some (.int (-1000001))) (m1 := mz_up (mz_i xs Ln) 64 1 1) rfl ⟨?_, rfl⟩ ?_
        · refine mz_go 3 (c' := (4, [some (.ref 0), some (.int 1)], [.int 6, .int 1, .int 1], (mz_i xs Ln))) rfl ?_
          refine mz_do (R := mz_r121) (as := [.int 1, .int 1, .int 6]) (rest := []) (r1 := some (.int 1)) (m1 := (mz_i xs Ln)) rfl ⟨?_, rfl⟩ ?_
          · refine mz_go 8 (c' := (15, [some (.int 1), some (.int 1), some (.int 6)], [.int 1], (mz_i xs Ln))) rfl ?_
            exact mz_ret rfl
          refine mz_go 12 (c' := (25, [some (.ref 0), some (.int 1)], [.int (-1000001)], mz_up (mz_i xs Ln) 64 1 1)) rfl ?_
          exact mz_ret rfl
        exact mz_ret rfl
      · refine mz_go 1 (c' := (1, [some (.ref 65), some (.int a)], [.int a], mz_up (mz_i xs Ln) 64 1 1)) rfl ?_
        refine mz_do (R := mz_r188) (as := [.int a]) (rest := []) (r1 := some (.int 0)) (m1 := mz_up (mz_i xs Ln) 64 1 1) rfl ⟨?_, rfl⟩ ?_
        · refine mz_go 3 (c' := (3, [some (.int a)], [.int 5, .int 0, .int a], mz_up (mz_i xs Ln) 64 1 1)) rfl ?_
          refine mz_do (R := mz_r128) (as := [.int a, .int 0, .int 5]) (rest := []) (r1 := some (.int 0)) (m1 := mz_up (mz_i xs Ln) 64 1 1) rfl ⟨?_, rfl⟩ ?_
          · refine mz_go 3 (c' := (if a < 0 then 14 else 5, [some (.int a), some (.int 0), some (.int 5)], [], mz_up (mz_i xs Ln) 64 1 1)) rfl ?_
            refine mz_ifT h2 ?_
            refine mz_go 1 (c' := (15, [some (.int a), some (.int 0), some (.int 5)], [.int 0], mz_up (mz_i xs Ln) 64 1 1)) rfl ?_
            exact mz_ret rfl
          refine mz_go 4 (c' := (if a = 9 then 15 else 19, [some (.int a)], [], mz_up (mz_i xs Ln) 64 1 1)) rfl ?_
          refine mz_ifF h1 ?_
          refine mz_go 1 (c' := (20, [some (.int a)], [.int 0], mz_up (mz_i xs Ln) 64 1 1)) rfl ?_
          exact mz_ret rfl
        refine mz_go 3 (c' := (9, [some (.ref 65), some (.int a)], [.int 1, .ref 65], mz_up (mz_i xs Ln) 64 1 1)) rfl ?_
        refine mz_do (R := mz_r127) (as := [.ref 65, .int 1]) (rest := []) (r1 := some (.int (-1000001))) (m1 := mz_up (mz_up (mz_i xs Ln) 64 1 1) 68 1 1) rfl ⟨?_, rfl⟩ ?_
        · refine mz_go 11 (c' := (14, [some (.ref 65), some (.int 1)], [.int (-1000001)], mz_up (mz_up (mz_i xs Ln) 64 1 1) 68 1 1)) rfl ?_
          exact mz_ret rfl
        exact mz_ret rfl
    · by_cases h3 : 5 < a
      · refine ⟨(-1000001), mz_up (mz_i xs Ln) 64 1 1, mz_up (mz_up (mz_i xs Ln) 64 1 1) 68 1 1, ⟨?_, rfl⟩, ⟨?_, rfl⟩⟩
        · refine mz_go 1 (c' := (1, [some (.ref 0), some (.int a)], [.int a], (mz_i xs Ln))) rfl ?_
          refine mz_do (R := mz_r118) (as := [.int a]) (rest := []) (r1 := some (.int 0)) (m1 := (mz_i xs Ln)) rfl ⟨?_, rfl⟩ ?_
          · refine mz_go 3 (c' := (if a = 9 then 15 else 6, [some (.int a)], [], (mz_i xs Ln))) rfl ?_
            refine mz_ifF h1 ?_
            refine mz_go 3 (c' := (9, [some (.int a)], [.int 5, .int 0, .int a], (mz_i xs Ln))) rfl ?_
            refine mz_do (R := mz_r121) (as := [.int a, .int 0, .int 5]) (rest := []) (r1 := some (.int 0)) (m1 := (mz_i xs Ln)) rfl ⟨?_, rfl⟩ ?_
            · refine mz_go 3 (c' := (if a < 0 then 14 else 5, [some (.int a), some (.int 0), some (.int 5)], [], (mz_i xs Ln))) rfl ?_
              refine mz_ifF h2 ?_
              refine mz_go 3 (c' := (if 5 < a then 14 else 10, [some (.int a), some (.int 0), some (.int 5)], [], (mz_i xs Ln))) rfl ?_
              refine mz_ifT h3 ?_
              refine mz_go 1 (c' := (15, [some (.int a), some (.int 0), some (.int 5)], [.int 0], (mz_i xs Ln))) rfl ?_
              exact mz_ret rfl
            refine mz_go 2 (c' := (20, [some (.int a)], [.int 0], (mz_i xs Ln))) rfl ?_
            exact mz_ret rfl
          refine mz_go 3 (c' := (9, [some (.ref 0), some (.int a)], [.int 1, .ref 0], (mz_i xs Ln))) rfl ?_
          refine mz_do (R := mz_r109) (as := [.ref 0, .int 1]) (rest := []) (r1 := some (.int (-1000001))) (m1 := mz_up (mz_i xs Ln) 64 1 1) rfl ⟨?_, rfl⟩ ?_
          · refine mz_go 3 (c' := (4, [some (.ref 0), some (.int 1)], [.int 6, .int 1, .int 1], (mz_i xs Ln))) rfl ?_
            refine mz_do (R := mz_r121) (as := [.int 1, .int 1, .int 6]) (rest := []) (r1 := some (.int 1)) (m1 := (mz_i xs Ln)) rfl ⟨?_, rfl⟩ ?_
            · refine mz_go 8 (c' := (15, [some (.int 1), some (.int 1), some (.int 6)], [.int 1], (mz_i xs Ln))) rfl ?_
              exact mz_ret rfl
            refine mz_go 12 (c' := (25, [some (.ref 0), some (.int 1)], [.int (-1000001)], mz_up (mz_i xs Ln) 64 1 1)) rfl ?_
            exact mz_ret rfl
          exact mz_ret rfl
        · refine mz_go 1 (c' := (1, [some (.ref 65), some (.int a)], [.int a], mz_up (mz_i xs Ln) 64 1 1)) rfl ?_
          refine mz_do (R := mz_r188) (as := [.int a]) (rest := []) (r1 := some (.int 0)) (m1 := mz_up (mz_i xs Ln) 64 1 1) rfl ⟨?_, rfl⟩ ?_
          · refine mz_go 3 (c' := (3, [some (.int a)], [.int 5, .int 0, .int a], mz_up (mz_i xs Ln) 64 1 1)) rfl ?_
            refine mz_do (R := mz_r128) (as := [.int a, .int 0, .int 5]) (rest := []) (r1 := some (.int 0)) (m1 := mz_up (mz_i xs Ln) 64 1 1) rfl ⟨?_, rfl⟩ ?_
            · refine mz_go 3 (c' := (if a < 0 then 14 else 5, [some (.int a), some (.int 0), some (.int 5)], [], mz_up (mz_i xs Ln) 64 1 1)) rfl ?_
              refine mz_ifF h2 ?_
              refine mz_go 3 (c' := (if 5 < a then 14 else 10, [some (.int a), some (.int 0), some (.int 5)], [], mz_up (mz_i xs Ln) 64 1 1)) rfl ?_
              refine mz_ifT h3 ?_
              refine mz_go 1 (c' := (15, [some (.int a), some (.int 0), some (.int 5)], [.int 0], mz_up (mz_i xs Ln) 64 1 1)) rfl ?_
              exact mz_ret rfl
            refine mz_go 4 (c' := (if a = 9 then 15 else 19, [some (.int a)], [], mz_up (mz_i xs Ln) 64 1 1)) rfl ?_
            refine mz_ifF h1 ?_
            refine mz_go 1 (c' := (20, [some (.int a)], [.int 0], mz_up (mz_i xs Ln) 64 1 1)) rfl ?_
            exact mz_ret rfl
          refine mz_go 3 (c' := (9, [some (.ref 65), some (.int a)], [.int 1, .ref 65], mz_up (mz_i xs Ln) 64 1 1)) rfl ?_
          refine mz_do (R := mz_r127) (as := [.ref 65, .int 1]) (rest := []) (r1 := some (.int (-1000001))) (m1 := mz_up (mz_up (mz_i xs Ln) 64 1 1) 68 1 1) rfl ⟨?_, rfl⟩ ?_
          · refine mz_go 11 (c' := (14, [some (.ref 65), some (.int 1)], [.int (-1000001)], mz_up (mz_up (mz_i xs Ln) 64 1 1) 68 1 1)) rfl ?_
            exact mz_ret rfl
          exact mz_ret rfl
      · refine ⟨(-1000002), mz_up (mz_i xs Ln) 64 2 1, mz_up (mz_up (mz_i xs Ln) 64 2 1) 68 2 1, ⟨?_, rfl⟩, ⟨?_, rfl⟩⟩
        · refine mz_go 1 (c' := (1, [some (.ref 0), some (.int a)], [.int a], (mz_i xs Ln))) rfl ?_
          refine mz_do (R := mz_r118) (as := [.int a]) (rest := []) (r1 := some (.int 1)) (m1 := (mz_i xs Ln)) rfl ⟨?_, rfl⟩ ?_
          · refine mz_go 3 (c' := (if a = 9 then 15 else 6, [some (.int a)], [], (mz_i xs Ln))) rfl ?_
            refine mz_ifF h1 ?_
            refine mz_go 3 (c' := (9, [some (.int a)], [.int 5, .int 0, .int a], (mz_i xs Ln))) rfl ?_
            refine mz_do (R := mz_r121) (as := [.int a, .int 0, .int 5]) (rest := []) (r1 := some (.int 1)) (m1 := (mz_i xs Ln)) rfl ⟨?_, rfl⟩ ?_
            · refine mz_go 3 (c' := (if a < 0 then 14 else 5, [some (.int a), some (.int 0), some (.int 5)], [], (mz_i xs Ln))) rfl ?_
              refine mz_ifF h2 ?_
              refine mz_go 3 (c' := (if 5 < a then 14 else 10, [some (.int a), some (.int 0), some (.int 5)], [], (mz_i xs Ln))) rfl ?_
              refine mz_ifF h3 ?_
              refine mz_go 2 (c' := (15, [some (.int a), some (.int 0), some (.int 5)], [.int 1], (mz_i xs Ln))) rfl ?_
              exact mz_ret rfl
            refine mz_go 3 (c' := (20, [some (.int a)], [.int 1], (mz_i xs Ln))) rfl ?_
            exact mz_ret rfl
          refine mz_go 7 (c' := (25, [some (.ref 0), some (.int a)], [.int 2, .ref 0], (mz_i xs Ln))) rfl ?_
          refine mz_do (R := mz_r109) (as := [.ref 0, .int 2]) (rest := []) (r1 := some (.int (-1000002))) (m1 := mz_up (mz_i xs Ln) 64 2 1) rfl ⟨?_, rfl⟩ ?_
          · refine mz_go 3 (c' := (4, [some (.ref 0), some (.int 2)], [.int 6, .int 1, .int 2], (mz_i xs Ln))) rfl ?_
            refine mz_do (R := mz_r121) (as := [.int 2, .int 1, .int 6]) (rest := []) (r1 := some (.int 1)) (m1 := (mz_i xs Ln)) rfl ⟨?_, rfl⟩ ?_
            · refine mz_go 8 (c' := (15, [some (.int 2), some (.int 1), some (.int 6)], [.int 1], (mz_i xs Ln))) rfl ?_
              exact mz_ret rfl
            refine mz_go 12 (c' := (25, [some (.ref 0), some (.int 2)], [.int (-1000002)], mz_up (mz_i xs Ln) 64 2 1)) rfl ?_
            exact mz_ret rfl
          exact mz_ret rfl
        · refine mz_go 1 (c' := (1, [some (.ref 65), some (.int a)], [.int a], mz_up (mz_i xs Ln) 64 2 1)) rfl ?_
          refine mz_do (R := mz_r188) (as := [.int a]) (rest := []) (r1 := some (.int 1)) (m1 := mz_up (mz_i xs Ln) 64 2 1) rfl ⟨?_, rfl⟩ ?_
          · refine mz_go 3 (c' := (3, [some (.int a)], [.int 5, .int 0, .int a], mz_up (mz_i xs Ln) 64 2 1)) rfl ?_
            refine mz_do (R := mz_r128) (as := [.int a, .int 0, .int 5]) (rest := []) (r1 := some (.int 1)) (m1 := mz_up (mz_i xs Ln) 64 2 1) rfl ⟨?_, rfl⟩ ?_
            · refine mz_go 3 (c' := (if a < 0 then 14 else 5, [some (.int a), some (.int 0), some (.int 5)], [], mz_up (mz_i xs Ln) 64 2 1)) rfl ?_
              refine mz_ifF h2 ?_
              refine mz_go 3 (c' := (if 5 < a then 14 else 10, [some (.int a), some (.int 0), some (.int 5)], [], mz_up (mz_i xs Ln) 64 2 1)) rfl ?_
              refine mz_ifF h3 ?_
              refine mz_go 2 (c' := (15, [some (.int a), some (.int 0), some (.int 5)], [.int 1], mz_up (mz_i xs Ln) 64 2 1)) rfl ?_
              exact mz_ret rfl
            refine mz_go 3 (c' := (20, [some (.int a)], [.int 1], mz_up (mz_i xs Ln) 64 2 1)) rfl ?_
            exact mz_ret rfl
          refine mz_go 8 (c' := (26, [some (.ref 65), some (.int a)], [.int 2, .ref 65], mz_up (mz_i xs Ln) 64 2 1)) rfl ?_
          refine mz_do (R := mz_r127) (as := [.ref 65, .int 2]) (rest := []) (r1 := some (.int (-1000002))) (m1 := mz_up (mz_up (mz_i xs Ln) 64 2 1) 68 2 1) rfl ⟨?_, rfl⟩ ?_
          · refine mz_go 11 (c' := (14, [some (.ref 65), some (.int 2)], [.int (-1000002)], mz_up (mz_up (mz_i xs Ln) 64 2 1) 68 2 1)) rfl ?_
            exact mz_ret rfl
          refine mz_go 1 (c' := (42, [some (.ref 65), some (.int a)], [.int (-1000002)], mz_up (mz_up (mz_i xs Ln) 64 2 1) 68 2 1)) rfl ?_
          exact mz_ret rfl
