set_option maxHeartbeats 4000000 in
set_option maxRecDepth 100000 in
theorem p1_text (xs : Nat → Int32) (Ln : Nat) (a : Int32) : ∃ v m1 m2, mz_Me 100 mz_r75 [.ref 0, .int a] (mz_i xs Ln) (some (.int v)) m1 ∧ mz_Me 100 mz_r170 [.ref 65, .int a] m1 (some (.int v)) m2 := by
  by_cases h1 : a < 0
  · refine ⟨(-1000001), mz_up (mz_i xs Ln) 64 1 1, mz_up (mz_up (mz_i xs Ln) 64 1 1) 68 1 1, ⟨?_, rfl⟩, ⟨?_, rfl⟩⟩
    · refine mz_go 1 (c' := (1, [some (.ref 0), some (.int a), none], [.int a], (mz_i xs Ln))) rfl ?_
      refine mz_do (R := mz_r119) (as := [.int a]) (rest := []) (r1 := some (.int 0)) (m1 := (mz_i xs Ln)) rfl ⟨?_, rfl⟩ ?_
      · refine mz_go 3 (c' := (3, [some (.int a)], [.int 2, .int 0, .int a], (mz_i xs Ln))) rfl ?_
        refine mz_do (R := mz_r121) (as := [.int a, .int 0, .int 2]) (rest := []) (r1 := some (.int 0)) (m1 := (mz_i xs Ln)) rfl ⟨?_, rfl⟩ ?_
        · refine mz_go 3 (c' := (if a < 0 then 14 else 5, [some (.int a), some (.int 0), some (.int 2)], [], (mz_i xs Ln))) rfl ?_
          refine mz_ifT h1 ?_
          refine mz_go 1 (c' := (15, [some (.int a), some (.int 0), some (.int 2)], [.int 0], (mz_i xs Ln))) rfl ?_
          exact mz_ret rfl
        exact mz_ret rfl
      refine mz_go 3 (c' := (9, [some (.ref 0), some (.int a), none], [.int 1, .ref 0], (mz_i xs Ln))) rfl ?_
      refine mz_do (R := mz_r109) (as := [.ref 0, .int 1]) (rest := []) (r1 := some (.int (-1000001))) (m1 := mz_up (mz_i xs Ln) 64 1 1) rfl ⟨?_, rfl⟩ ?_
      · refine mz_go 3 (c' := (4, [some (.ref 0), some (.int 1)], [.int 6, .int 1, .int 1], (mz_i xs Ln))) rfl ?_
        refine mz_do (R := mz_r121) (as := [.int 1, .int 1, .int 6]) (rest := []) (r1 := some (.int 1)) (m1 := (mz_i xs Ln)) rfl ⟨?_, rfl⟩ ?_
        · refine mz_go 8 (c' := (15, [some (.int 1), some (.int 1), some (.int 6)], [.int 1], (mz_i xs Ln))) rfl ?_
          exact mz_ret rfl
        refine mz_go 12 (c' := (25, [some (.ref 0), some (.int 1)], [.int (-1000001)], mz_up (mz_i xs Ln) 64 1 1)) rfl ?_
        exact mz_ret rfl
      exact mz_ret rfl
    · refine mz_go 3 (c' := (3, [some (.ref 65), some (.int a), none, none, none], [.int 2, .int 0, .int a], mz_up (mz_i xs Ln) 64 1 1)) rfl ?_
      refine mz_do (R := mz_r128) (as := [.int a, .int 0, .int 2]) (rest := []) (r1 := some (.int 0)) (m1 := mz_up (mz_i xs Ln) 64 1 1) rfl ⟨?_, rfl⟩ ?_
      · refine mz_go 3 (c' := (if a < 0 then 14 else 5, [some (.int a), some (.int 0), some (.int 2)], [], mz_up (mz_i xs Ln) 64 1 1)) rfl ?_
        refine mz_ifT h1 ?_
        refine mz_go 1 (c' := (15, [some (.int a), some (.int 0), some (.int 2)], [.int 0], mz_up (mz_i xs Ln) 64 1 1)) rfl ?_
        exact mz_ret rfl
      refine mz_go 3 (c' := (11, [some (.ref 65), some (.int a), none, none, none], [.int 1, .ref 65], mz_up (mz_i xs Ln) 64 1 1)) rfl ?_
      refine mz_do (R := mz_r127) (as := [.ref 65, .int 1]) (rest := []) (r1 := some (.int (-1000001))) (m1 := mz_up (mz_up (mz_i xs Ln) 64 1 1) 68 1 1) rfl ⟨?_, rfl⟩ ?_
      · refine mz_go 11 (c' := (14, [some (.ref 65), some (.int 1)], [.int (-1000001)], mz_up (mz_up (mz_i xs Ln) 64 1 1) 68 1 1)) rfl ?_
        exact mz_ret rfl
      exact mz_ret rfl
  · by_cases h2 : 2 < a
    · refine ⟨(-1000001), mz_up (mz_i xs Ln) 64 1 1, mz_up (mz_up (mz_i xs Ln) 64 1 1) 68 1 1, ⟨?_, rfl⟩, ⟨?_, rfl⟩⟩
      · refine mz_go 1 (c' := (1, [some (.ref 0), some (.int a), none], [.int a], (mz_i xs Ln))) rfl ?_
        refine mz_do (R := mz_r119) (as := [.int a]) (rest := []) (r1 := some (.int 0)) (m1 := (mz_i xs Ln)) rfl ⟨?_, rfl⟩ ?_
        · refine mz_go 3 (c' := (3, [some (.int a)], [.int 2, .int 0, .int a], (mz_i xs Ln))) rfl ?_
          refine mz_do (R := mz_r121) (as := [.int a, .int 0, .int 2]) (rest := []) (r1 := some (.int 0)) (m1 := (mz_i xs Ln)) rfl ⟨?_, rfl⟩ ?_
          · refine mz_go 3 (c' := (if a < 0 then 14 else 5, [some (.int a), some (.int 0), some (.int 2)], [], (mz_i xs Ln))) rfl ?_
            refine mz_ifF h1 ?_
            refine mz_go 3 (c' := (if 2 < a then 14 else 10, [some (.int a), some (.int 0), some (.int 2)], [], (mz_i xs Ln))) rfl ?_
            refine mz_ifT h2 ?_
            refine mz_go 1 (c' := (15, [some (.int a), some (.int 0), some (.int 2)], [.int 0], (mz_i xs Ln))) rfl ?_
            exact mz_ret rfl
          exact mz_ret rfl
        refine mz_go 3 (c' := (9, [some (.ref 0), some (.int a), none], [.int 1, .ref 0], (mz_i xs Ln))) rfl ?_
        refine mz_do (R := mz_r109) (as := [.ref 0, .int 1]) (rest := []) (r1 := some (.int (-1000001))) (m1 := mz_up (mz_i xs Ln) 64 1 1) rfl ⟨?_, rfl⟩ ?_
        · refine mz_go 3 (c' := (4, [some (.ref 0), some (.int 1)], [.int 6, .int 1, .int 1], (mz_i xs Ln))) rfl ?_
          refine mz_do (R := mz_r121) (as := [.int 1, .int 1, .int 6]) (rest := []) (r1 := some (.int 1)) (m1 := (mz_i xs Ln)) rfl ⟨?_, rfl⟩ ?_
          · refine mz_go 8 (c' := (15, [some (.int 1), some (.int 1), some (.int 6)], [.int 1], (mz_i xs Ln))) rfl ?_
            exact mz_ret rfl
          refine mz_go 12 (c' := (25, [some (.ref 0), some (.int 1)], [.int (-1000001)], mz_up (mz_i xs Ln) 64 1 1)) rfl ?_
          exact mz_ret rfl
        exact mz_ret rfl
      · refine mz_go 3 (c' := (3, [some (.ref 65), some (.int a), none, none, none], [.int 2, .int 0, .int a], mz_up (mz_i xs Ln) 64 1 1)) rfl ?_
        refine mz_do (R := mz_r128) (as := [.int a, .int 0, .int 2]) (rest := []) (r1 := some (.int 0)) (m1 := mz_up (mz_i xs Ln) 64 1 1) rfl ⟨?_, rfl⟩ ?_
        · refine mz_go 3 (c' := (if a < 0 then 14 else 5, [some (.int a), some (.int 0), some (.int 2)], [], mz_up (mz_i xs Ln) 64 1 1)) rfl ?_
          refine mz_ifF h1 ?_
          refine mz_go 3 (c' := (if 2 < a then 14 else 10, [some (.int a), some (.int 0), some (.int 2)], [], mz_up (mz_i xs Ln) 64 1 1)) rfl ?_
          refine mz_ifT h2 ?_
          refine mz_go 1 (c' := (15, [some (.int a), some (.int 0), some (.int 2)], [.int 0], mz_up (mz_i xs Ln) 64 1 1)) rfl ?_
          exact mz_ret rfl
        refine mz_go 3 (c' := (11, [some (.ref 65), some (.int a), none, none, none], [.int 1, .ref 65], mz_up (mz_i xs Ln) 64 1 1)) rfl ?_
        refine mz_do (R := mz_r127) (as := [.ref 65, .int 1]) (rest := []) (r1 := some (.int (-1000001))) (m1 := mz_up (mz_up (mz_i xs Ln) 64 1 1) 68 1 1) rfl ⟨?_, rfl⟩ ?_
        · refine mz_go 11 (c' := (14, [some (.ref 65), some (.int 1)], [.int (-1000001)], mz_up (mz_up (mz_i xs Ln) 64 1 1) 68 1 1)) rfl ?_
          exact mz_ret rfl
        exact mz_ret rfl
    · by_cases h3 : a = 0
      · subst h3
        refine ⟨(-10), mz_up (mz_up (mz_up (mz_up (mz_up (mz_up (mz_i xs Ln) 53 2 2001) 53 3 0) 53 4 1) 54 2 0) 53 4 0) 8 1 0, mz_up (mz_up (mz_up (mz_up (mz_up (mz_up (mz_up (mz_up (mz_up (mz_up (mz_up (mz_i xs Ln) 53 2 2001) 53 3 0) 53 4 1) 54 2 0) 53 4 0) 8 1 0) 65 12 0) 65 9 0) 65 10 0) 65 11 0) 66 1 0, ⟨?_, rfl⟩, ⟨?_, rfl⟩⟩
        · refine mz_go 1 (c' := (1, [some (.ref 0), some (.int 0), none], [.int 0], (mz_i xs Ln))) rfl ?_
          refine mz_do (R := mz_r119) (as := [.int 0]) (rest := []) (r1 := some (.int 1)) (m1 := (mz_i xs Ln)) rfl ⟨?_, rfl⟩ ?_
          · refine mz_go 3 (c' := (3, [some (.int 0)], [.int 2, .int 0, .int 0], (mz_i xs Ln))) rfl ?_
            refine mz_do (R := mz_r121) (as := [.int 0, .int 0, .int 2]) (rest := []) (r1 := some (.int 1)) (m1 := (mz_i xs Ln)) rfl ⟨?_, rfl⟩ ?_
            · refine mz_go 8 (c' := (15, [some (.int 0), some (.int 0), some (.int 2)], [.int 1], (mz_i xs Ln))) rfl ?_
              exact mz_ret rfl
            exact mz_ret rfl
          refine mz_go 4 (c' := (18, [some (.ref 0), some (.int 0), none], [.int 0, .ref 53], (mz_i xs Ln))) rfl ?_
          refine mz_do (R := mz_r120) (as := [.int 0]) (rest := [.ref 53]) (r1 := some (.ref 2001)) (m1 := (mz_i xs Ln)) rfl ⟨?_, rfl⟩ ?_
          · refine mz_go 4 (c' := (24, [some (.int 0)], [.ref 2001], (mz_i xs Ln))) rfl ?_
            exact mz_ret rfl
          refine mz_do (R := mz_r28) (as := [.ref 53, .ref 2001]) (rest := []) (r1 := some (.int 0)) (m1 := mz_up (mz_up (mz_up (mz_up (mz_up (mz_i xs Ln) 53 2 2001) 53 3 0) 53 4 1) 54 2 0) 53 4 0) rfl ⟨?_, rfl⟩ ?_
          · refine mz_go 16 (c' := (26, [some (.ref 53), some (.ref 2001)], [.int 0, .int 0, .ref 53], mz_up (mz_up (mz_up (mz_up (mz_i xs Ln) 53 2 2001) 53 3 0) 53 4 1) 54 2 0)) rfl ?_
            refine mz_do (R := mz_r29) (as := [.ref 53, .int 0, .int 0]) (rest := []) (r1 := none) (m1 := mz_up (mz_up (mz_up (mz_up (mz_up (mz_i xs Ln) 53 2 2001) 53 3 0) 53 4 1) 54 2 0) 53 4 0) rfl ⟨?_, rfl⟩ ?_
            · refine mz_go 8 (c' := (16, [some (.ref 53), some (.int 0), some (.int 0), none, none, none], [.int 0, .int 1, .ref 53], mz_up (mz_up (mz_up (mz_up (mz_i xs Ln) 53 2 2001) 53 3 0) 53 4 1) 54 2 0)) rfl ?_
              refine mz_do (R := mz_r29) (as := [.ref 53, .int 1, .int 0]) (rest := []) (r1 := none) (m1 := mz_up (mz_up (mz_up (mz_up (mz_up (mz_i xs Ln) 53 2 2001) 53 3 0) 53 4 1) 54 2 0) 53 4 0) rfl ⟨?_, rfl⟩ ?_
              · refine mz_go 8 (c' := (16, [some (.ref 53), some (.int 1), some (.int 0), none, none, none], [.int 0, .int 2, .ref 53], mz_up (mz_up (mz_up (mz_up (mz_i xs Ln) 53 2 2001) 53 3 0) 53 4 1) 54 2 0)) rfl ?_
                refine mz_do (R := mz_r29) (as := [.ref 53, .int 2, .int 0]) (rest := []) (r1 := none) (m1 := mz_up (mz_up (mz_up (mz_up (mz_up (mz_i xs Ln) 53 2 2001) 53 3 0) 53 4 1) 54 2 0) 53 4 0) rfl ⟨?_, rfl⟩ ?_
                · refine mz_go 8 (c' := (16, [some (.ref 53), some (.int 2), some (.int 0), none, none, none], [.int 0, .int 3, .ref 53], mz_up (mz_up (mz_up (mz_up (mz_i xs Ln) 53 2 2001) 53 3 0) 53 4 1) 54 2 0)) rfl ?_
                  refine mz_do (R := mz_r29) (as := [.ref 53, .int 3, .int 0]) (rest := []) (r1 := none) (m1 := mz_up (mz_up (mz_up (mz_up (mz_up (mz_i xs Ln) 53 2 2001) 53 3 0) 53 4 1) 54 2 0) 53 4 0) rfl ⟨?_, rfl⟩ ?_
                  · refine mz_go 8 (c' := (16, [some (.ref 53), some (.int 3), some (.int 0), none, none, none], [.int 0, .int 4, .ref 53], mz_up (mz_up (mz_up (mz_up (mz_i xs Ln) 53 2 2001) 53 3 0) 53 4 1) 54 2 0)) rfl ?_
                    refine mz_do (R := mz_r29) (as := [.ref 53, .int 4, .int 0]) (rest := []) (r1 := none) (m1 := mz_up (mz_up (mz_up (mz_up (mz_up (mz_i xs Ln) 53 2 2001) 53 3 0) 53 4 1) 54 2 0) 53 4 0) rfl ⟨?_, rfl⟩ ?_
                    · refine mz_go 8 (c' := (16, [some (.ref 53), some (.int 4), some (.int 0), none, none, none], [.int 0, .int 5, .ref 53], mz_up (mz_up (mz_up (mz_up (mz_i xs Ln) 53 2 2001) 53 3 0) 53 4 1) 54 2 0)) rfl ?_
                      refine mz_do (R := mz_r29) (as := [.ref 53, .int 5, .int 0]) (rest := []) (r1 := none) (m1 := mz_up (mz_up (mz_up (mz_up (mz_up (mz_i xs Ln) 53 2 2001) 53 3 0) 53 4 1) 54 2 0) 53 4 0) rfl ⟨?_, rfl⟩ ?_
                      · refine mz_go 5 (c' := (7, [some (.ref 53), some (.int 5), some (.int 0), none, none, none], [.int 0, .ref 53], mz_up (mz_up (mz_up (mz_up (mz_i xs Ln) 53 2 2001) 53 3 0) 53 4 1) 54 2 0)) rfl ?_
                        refine mz_do (R := mz_r31) (as := [.ref 53, .int 0]) (rest := []) (r1 := none) (m1 := mz_up (mz_up (mz_up (mz_up (mz_up (mz_i xs Ln) 53 2 2001) 53 3 0) 53 4 1) 54 2 0) 53 4 0) rfl ⟨?_, rfl⟩ ?_
                        · refine mz_go 4 (c' := (8, [some (.ref 53), some (.int 0), none], [.int 0, .ref 8], mz_up (mz_up (mz_up (mz_up (mz_i xs Ln) 53 2 2001) 53 3 0) 53 4 1) 54 2 0)) rfl ?_
                          refine mz_do (R := mz_r54) (as := [.ref 8, .int 0]) (rest := []) (r1 := some (.int (-1))) (m1 := mz_up (mz_up (mz_up (mz_up (mz_i xs Ln) 53 2 2001) 53 3 0) 53 4 1) 54 2 0) rfl ⟨?_, rfl⟩ ?_
                          · refine mz_go 7 (c' := (28, [some (.ref 8), some (.int 0)], [.int (-1)], mz_up (mz_up (mz_up (mz_up (mz_i xs Ln) 53 2 2001) 53 3 0) 53 4 1) 54 2 0)) rfl ?_
                            exact mz_ret rfl
                          refine mz_go 2 (c' := (13, [some (.ref 53), some (.int 0), some (.int (-1))], [.int (-1)], mz_up (mz_up (mz_up (mz_up (mz_i xs Ln) 53 2 2001) 53 3 0) 53 4 1) 54 2 0)) rfl ?_
                          refine mz_do (R := mz_r35) (as := [.int (-1)]) (rest := []) (r1 := some (.int 0)) (m1 := mz_up (mz_up (mz_up (mz_up (mz_i xs Ln) 53 2 2001) 53 3 0) 53 4 1) 54 2 0) rfl ⟨?_, rfl⟩ ?_
                          · refine mz_go 4 (c' := (17, [some (.int (-1))], [.int 0], mz_up (mz_up (mz_up (mz_up (mz_i xs Ln) 53 2 2001) 53 3 0) 53 4 1) 54 2 0)) rfl ?_
                            exact mz_ret rfl
                          refine mz_go 9 (c' := (105, [some (.ref 53), some (.int 0), some (.int (-1))], [.int (-1), .ref 53], mz_up (mz_up (mz_up (mz_up (mz_i xs Ln) 53 2 2001) 53 3 0) 53 4 1) 54 2 0)) rfl ?_
                          refine mz_do (R := mz_r34) (as := [.ref 53, .int (-1)]) (rest := []) (r1 := none) (m1 := mz_up (mz_up (mz_up (mz_up (mz_up (mz_i xs Ln) 53 2 2001) 53 3 0) 53 4 1) 54 2 0) 53 4 0) rfl ⟨?_, rfl⟩ ?_
                          · refine mz_go 10 (c' := (27, [some (.ref 53), some (.int (-1)), some (.int (-1))], [], mz_up (mz_up (mz_up (mz_up (mz_up (mz_i xs Ln) 53 2 2001) 53 3 0) 53 4 1) 54 2 0) 53 4 0)) rfl ?_
                            exact mz_ret rfl
                          exact mz_ret rfl
                        exact mz_ret rfl
                      refine mz_go 13 (c' := (112, [some (.ref 53), some (.int 4), some (.int 0), some (.int 60), some (.int 0), none], [], mz_up (mz_up (mz_up (mz_up (mz_up (mz_i xs Ln) 53 2 2001) 53 3 0) 53 4 1) 54 2 0) 53 4 0)) rfl ?_
                      exact mz_ret rfl
                    refine mz_go 13 (c' := (112, [some (.ref 53), some (.int 3), some (.int 0), some (.int 60), some (.int 0), none], [], mz_up (mz_up (mz_up (mz_up (mz_up (mz_i xs Ln) 53 2 2001) 53 3 0) 53 4 1) 54 2 0) 53 4 0)) rfl ?_
                    exact mz_ret rfl
                  refine mz_go 14 (c' := (112, [some (.ref 53), some (.int 2), some (.int 0), some (.int 1), some (.int 0), none], [], mz_up (mz_up (mz_up (mz_up (mz_up (mz_i xs Ln) 53 2 2001) 53 3 0) 53 4 1) 54 2 0) 53 4 0)) rfl ?_
                  exact mz_ret rfl
                refine mz_go 13 (c' := (112, [some (.ref 53), some (.int 1), some (.int 0), some (.int 60), some (.int 0), none], [], mz_up (mz_up (mz_up (mz_up (mz_up (mz_i xs Ln) 53 2 2001) 53 3 0) 53 4 1) 54 2 0) 53 4 0)) rfl ?_
                exact mz_ret rfl
              refine mz_go 13 (c' := (112, [some (.ref 53), some (.int 0), some (.int 0), some (.int 60), some (.int 0), none], [], mz_up (mz_up (mz_up (mz_up (mz_up (mz_i xs Ln) 53 2 2001) 53 3 0) 53 4 1) 54 2 0) 53 4 0)) rfl ?_
              exact mz_ret rfl
            refine mz_go 5 (c' := (58, [some (.ref 53), some (.ref 2001)], [.int 0], mz_up (mz_up (mz_up (mz_up (mz_up (mz_i xs Ln) 53 2 2001) 53 3 0) 53 4 1) 54 2 0) 53 4 0)) rfl ?_
            exact mz_ret rfl
          refine mz_go 11 (c' := (44, [some (.ref 0), some (.int 0), some (.int 0)], [.int (-10)], mz_up (mz_up (mz_up (mz_up (mz_up (mz_up (mz_i xs Ln) 53 2 2001) 53 3 0) 53 4 1) 54 2 0) 53 4 0) 8 1 0)) rfl ?_
          exact mz_ret rfl
        · refine mz_go 3 (c' := (3, [some (.ref 65), some (.int 0), none, none, none], [.int 2, .int 0, .int 0], mz_up (mz_up (mz_up (mz_up (mz_up (mz_up (mz_i xs Ln) 53 2 2001) 53 3 0) 53 4 1) 54 2 0) 53 4 0) 8 1 0)) rfl ?_
          refine mz_do (R := mz_r128) (as := [.int 0, .int 0, .int 2]) (rest := []) (r1 := some (.int 1)) (m1 := mz_up (mz_up (mz_up (mz_up (mz_up (mz_up (mz_i xs Ln) 53 2 2001) 53 3 0) 53 4 1) 54 2 0) 53 4 0) 8 1 0) rfl ⟨?_, rfl⟩ ?_
          · refine mz_go 8 (c' := (15, [some (.int 0), some (.int 0), some (.int 2)], [.int 1], mz_up (mz_up (mz_up (mz_up (mz_up (mz_up (mz_i xs Ln) 53 2 2001) 53 3 0) 53 4 1) 54 2 0) 53 4 0) 8 1 0)) rfl ?_
            exact mz_ret rfl
          refine mz_go 14 (c' := (36, [some (.ref 65), some (.int 0), none, none, none], [.ref 65], mz_up (mz_up (mz_up (mz_up (mz_up (mz_up (mz_up (mz_up (mz_up (mz_up (mz_i xs Ln) 53 2 2001) 53 3 0) 53 4 1) 54 2 0) 53 4 0) 8 1 0) 65 12 0) 65 9 0) 65 10 0) 65 11 0)) rfl ?_
          refine mz_do (R := mz_r162) (as := [.ref 65]) (rest := []) (r1 := some (.int 0)) (m1 := mz_up (mz_up (mz_up (mz_up (mz_up (mz_up (mz_up (mz_up (mz_up (mz_up (mz_i xs Ln) 53 2 2001) 53 3 0) 53 4 1) 54 2 0) 53 4 0) 8 1 0) 65 12 0) 65 9 0) 65 10 0) 65 11 0) rfl ⟨?_, rfl⟩ ?_
          · refine mz_go 1 (c' := (1, [some (.ref 65)], [.ref 65], mz_up (mz_up (mz_up (mz_up (mz_up (mz_up (mz_up (mz_up (mz_up (mz_up (mz_i xs Ln) 53 2 2001) 53 3 0) 53 4 1) 54 2 0) 53 4 0) 8 1 0) 65 12 0) 65 9 0) 65 10 0) 65 11 0)) rfl ?_
            refine mz_do (R := mz_r163) (as := [.ref 65]) (rest := []) (r1 := some (.int 0)) (m1 := mz_up (mz_up (mz_up (mz_up (mz_up (mz_up (mz_up (mz_up (mz_up (mz_up (mz_i xs Ln) 53 2 2001) 53 3 0) 53 4 1) 54 2 0) 53 4 0) 8 1 0) 65 12 0) 65 9 0) 65 10 0) 65 11 0) rfl ⟨?_, rfl⟩ ?_
            · refine mz_go 1 (c' := (1, [some (.ref 65)], [.ref 65], mz_up (mz_up (mz_up (mz_up (mz_up (mz_up (mz_up (mz_up (mz_up (mz_up (mz_i xs Ln) 53 2 2001) 53 3 0) 53 4 1) 54 2 0) 53 4 0) 8 1 0) 65 12 0) 65 9 0) 65 10 0) 65 11 0)) rfl ?_
              refine mz_do (R := mz_r164) (as := [.ref 65]) (rest := []) (r1 := some (.int 0)) (m1 := mz_up (mz_up (mz_up (mz_up (mz_up (mz_up (mz_up (mz_up (mz_up (mz_up (mz_i xs Ln) 53 2 2001) 53 3 0) 53 4 1) 54 2 0) 53 4 0) 8 1 0) 65 12 0) 65 9 0) 65 10 0) 65 11 0) rfl ⟨?_, rfl⟩ ?_
              · refine mz_go 1 (c' := (1, [some (.ref 65), none], [.ref 65], mz_up (mz_up (mz_up (mz_up (mz_up (mz_up (mz_up (mz_up (mz_up (mz_up (mz_i xs Ln) 53 2 2001) 53 3 0) 53 4 1) 54 2 0) 53 4 0) 8 1 0) 65 12 0) 65 9 0) 65 10 0) 65 11 0)) rfl ?_
                refine mz_do (R := mz_r165) (as := [.ref 65]) (rest := []) (r1 := some (.int 0)) (m1 := mz_up (mz_up (mz_up (mz_up (mz_up (mz_up (mz_up (mz_up (mz_up (mz_up (mz_i xs Ln) 53 2 2001) 53 3 0) 53 4 1) 54 2 0) 53 4 0) 8 1 0) 65 12 0) 65 9 0) 65 10 0) 65 11 0) rfl ⟨?_, rfl⟩ ?_
                · refine mz_go 1 (c' := (1, [some (.ref 65), none], [.ref 65], mz_up (mz_up (mz_up (mz_up (mz_up (mz_up (mz_up (mz_up (mz_up (mz_up (mz_i xs Ln) 53 2 2001) 53 3 0) 53 4 1) 54 2 0) 53 4 0) 8 1 0) 65 12 0) 65 9 0) 65 10 0) 65 11 0)) rfl ?_
                  refine mz_do (R := mz_r166) (as := [.ref 65]) (rest := []) (r1 := some (.int 0)) (m1 := mz_up (mz_up (mz_up (mz_up (mz_up (mz_up (mz_up (mz_up (mz_up (mz_up (mz_i xs Ln) 53 2 2001) 53 3 0) 53 4 1) 54 2 0) 53 4 0) 8 1 0) 65 12 0) 65 9 0) 65 10 0) 65 11 0) rfl ⟨?_, rfl⟩ ?_
                  · refine mz_go 1 (c' := (1, [some (.ref 65), none], [.ref 65], mz_up (mz_up (mz_up (mz_up (mz_up (mz_up (mz_up (mz_up (mz_up (mz_up (mz_i xs Ln) 53 2 2001) 53 3 0) 53 4 1) 54 2 0) 53 4 0) 8 1 0) 65 12 0) 65 9 0) 65 10 0) 65 11 0)) rfl ?_
                    refine mz_do (R := mz_r168) (as := [.ref 65]) (rest := []) (r1 := some (.int 0)) (m1 := mz_up (mz_up (mz_up (mz_up (mz_up (mz_up (mz_up (mz_up (mz_up (mz_up (mz_i xs Ln) 53 2 2001) 53 3 0) 53 4 1) 54 2 0) 53 4 0) 8 1 0) 65 12 0) 65 9 0) 65 10 0) 65 11 0) rfl ⟨?_, rfl⟩ ?_
                    · refine mz_go 1 (c' := (1, [some (.ref 65), none, none, none], [.ref 65], mz_up (mz_up (mz_up (mz_up (mz_up (mz_up (mz_up (mz_up (mz_up (mz_up (mz_i xs Ln) 53 2 2001) 53 3 0) 53 4 1) 54 2 0) 53 4 0) 8 1 0) 65 12 0) 65 9 0) 65 10 0) 65 11 0)) rfl ?_
                      refine mz_do (R := mz_r159) (as := [.ref 65]) (rest := []) (r1 := some (.int (-1))) (m1 := mz_up (mz_up (mz_up (mz_up (mz_up (mz_up (mz_up (mz_up (mz_up (mz_up (mz_i xs Ln) 53 2 2001) 53 3 0) 53 4 1) 54 2 0) 53 4 0) 8 1 0) 65 12 0) 65 9 0) 65 10 0) 65 11 0) rfl ⟨?_, rfl⟩ ?_
                      · refine mz_go 8 (c' := (30, [some (.ref 65)], [.int (-1)], mz_up (mz_up (mz_up (mz_up (mz_up (mz_up (mz_up (mz_up (mz_up (mz_up (mz_i xs Ln) 53 2 2001) 53 3 0) 53 4 1) 54 2 0) 53 4 0) 8 1 0) 65 12 0) 65 9 0) 65 10 0) 65 11 0)) rfl ?_
                        exact mz_ret rfl
                      refine mz_go 3 (c' := (7, [some (.ref 65), some (.int (-1)), none, none], [.int (-1), .ref 65], mz_up (mz_up (mz_up (mz_up (mz_up (mz_up (mz_up (mz_up (mz_up (mz_up (mz_i xs Ln) 53 2 2001) 53 3 0) 53 4 1) 54 2 0) 53 4 0) 8 1 0) 65 12 0) 65 9 0) 65 10 0) 65 11 0)) rfl ?_
                      refine mz_do (R := mz_r160) (as := [.ref 65, .int (-1)]) (rest := []) (r1 := some (.int 0)) (m1 := mz_up (mz_up (mz_up (mz_up (mz_up (mz_up (mz_up (mz_up (mz_up (mz_up (mz_i xs Ln) 53 2 2001) 53 3 0) 53 4 1) 54 2 0) 53 4 0) 8 1 0) 65 12 0) 65 9 0) 65 10 0) 65 11 0) rfl ⟨?_, rfl⟩ ?_
                      · refine mz_go 13 (c' := (30, [some (.ref 65), some (.int (-1))], [.int 0], mz_up (mz_up (mz_up (mz_up (mz_up (mz_up (mz_up (mz_up (mz_up (mz_up (mz_i xs Ln) 53 2 2001) 53 3 0) 53 4 1) 54 2 0) 53 4 0) 8 1 0) 65 12 0) 65 9 0) 65 10 0) 65 11 0)) rfl ?_
                        exact mz_ret rfl
                      refine mz_go 4 (c' := (36, [some (.ref 65), some (.int (-1)), none, none], [.int 57, .int 48, .int (-1)], mz_up (mz_up (mz_up (mz_up (mz_up (mz_up (mz_up (mz_up (mz_up (mz_up (mz_i xs Ln) 53 2 2001) 53 3 0) 53 4 1) 54 2 0) 53 4 0) 8 1 0) 65 12 0) 65 9 0) 65 10 0) 65 11 0)) rfl ?_
                      refine mz_do (R := mz_r128) (as := [.int (-1), .int 48, .int 57]) (rest := []) (r1 := some (.int 0)) (m1 := mz_up (mz_up (mz_up (mz_up (mz_up (mz_up (mz_up (mz_up (mz_up (mz_up (mz_i xs Ln) 53 2 2001) 53 3 0) 53 4 1) 54 2 0) 53 4 0) 8 1 0) 65 12 0) 65 9 0) 65 10 0) 65 11 0) rfl ⟨?_, rfl⟩ ?_
                      · refine mz_go 4 (c' := (15, [some (.int (-1)), some (.int 48), some (.int 57)], [.int 0], mz_up (mz_up (mz_up (mz_up (mz_up (mz_up (mz_up (mz_up (mz_up (mz_up (mz_i xs Ln) 53 2 2001) 53 3 0) 53 4 1) 54 2 0) 53 4 0) 8 1 0) 65 12 0) 65 9 0) 65 10 0) 65 11 0)) rfl ?_
                        exact mz_ret rfl
                      refine mz_go 8 (c' := (172, [some (.ref 65), some (.int (-1)), none, none], [.int 0], mz_up (mz_up (mz_up (mz_up (mz_up (mz_up (mz_up (mz_up (mz_up (mz_up (mz_i xs Ln) 53 2 2001) 53 3 0) 53 4 1) 54 2 0) 53 4 0) 8 1 0) 65 12 0) 65 9 0) 65 10 0) 65 11 0)) rfl ?_
                      exact mz_ret rfl
                    refine mz_go 2 (c' := (8, [some (.ref 65), none], [.int 0], mz_up (mz_up (mz_up (mz_up (mz_up (mz_up (mz_up (mz_up (mz_up (mz_up (mz_i xs Ln) 53 2 2001) 53 3 0) 53 4 1) 54 2 0) 53 4 0) 8 1 0) 65 12 0) 65 9 0) 65 10 0) 65 11 0)) rfl ?_
                    exact mz_ret rfl
                  refine mz_go 2 (c' := (8, [some (.ref 65), none], [.int 0], mz_up (mz_up (mz_up (mz_up (mz_up (mz_up (mz_up (mz_up (mz_up (mz_up (mz_i xs Ln) 53 2 2001) 53 3 0) 53 4 1) 54 2 0) 53 4 0) 8 1 0) 65 12 0) 65 9 0) 65 10 0) 65 11 0)) rfl ?_
                  exact mz_ret rfl
                refine mz_go 2 (c' := (8, [some (.ref 65), none], [.int 0], mz_up (mz_up (mz_up (mz_up (mz_up (mz_up (mz_up (mz_up (mz_up (mz_up (mz_i xs Ln) 53 2 2001) 53 3 0) 53 4 1) 54 2 0) 53 4 0) 8 1 0) 65 12 0) 65 9 0) 65 10 0) 65 11 0)) rfl ?_
                exact mz_ret rfl
              refine mz_go 2 (c' := (8, [some (.ref 65)], [.int 0], mz_up (mz_up (mz_up (mz_up (mz_up (mz_up (mz_up (mz_up (mz_up (mz_up (mz_i xs Ln) 53 2 2001) 53 3 0) 53 4 1) 54 2 0) 53 4 0) 8 1 0) 65 12 0) 65 9 0) 65 10 0) 65 11 0)) rfl ?_
              exact mz_ret rfl
            refine mz_go 2 (c' := (8, [some (.ref 65)], [.int 0], mz_up (mz_up (mz_up (mz_up (mz_up (mz_up (mz_up (mz_up (mz_up (mz_up (mz_i xs Ln) 53 2 2001) 53 3 0) 53 4 1) 54 2 0) 53 4 0) 8 1 0) 65 12 0) 65 9 0) 65 10 0) 65 11 0)) rfl ?_
            exact mz_ret rfl
          refine mz_go 13 (c' := (78, [some (.ref 65), some (.int 0), some (.int 0), none, none], [.int 0, .int (-10)], mz_up (mz_up (mz_up (mz_up (mz_up (mz_up (mz_up (mz_up (mz_up (mz_up (mz_up (mz_i xs Ln) 53 2 2001) 53 3 0) 53 4 1) 54 2 0) 53 4 0) 8 1 0) 65 12 0) 65 9 0) 65 10 0) 65 11 0) 66 1 0)) rfl ?_
          refine mz_go 1 (c' := (79, [some (.ref 65), some (.int 0), some (.int 0), none, none], [.int (-10)], mz_up (mz_up (mz_up (mz_up (mz_up (mz_up (mz_up (mz_up (mz_up (mz_up (mz_up (mz_i xs Ln) 53 2 2001) 53 3 0) 53 4 1) 54 2 0) 53 4 0) 8 1 0) 65 12 0) 65 9 0) 65 10 0) 65 11 0) 66 1 0)) rfl ?_
          exact mz_ret rfl
      · by_cases h4 : a = 1
        · subst h4
          refine ⟨(-10), mz_up (mz_up (mz_up (mz_up (mz_up (mz_up (mz_i xs Ln) 53 2 2002) 53 3 0) 53 4 1) 54 2 0) 53 4 0) 8 1 0, mz_up (mz_up (mz_up (mz_up (mz_up (mz_up (mz_up (mz_up (mz_up (mz_up (mz_up (mz_i xs Ln) 53 2 2002) 53 3 0) 53 4 1) 54 2 0) 53 4 0) 8 1 0) 65 12 1) 65 9 0) 65 10 0) 65 11 0) 66 1 0, ⟨?_, rfl⟩, ⟨?_, rfl⟩⟩
          · refine mz_go 1 (c' := (1, [some (.ref 0), some (.int 1), none], [.int 1], (mz_i xs Ln))) rfl ?_
            refine mz_do (R := mz_r119) (as := [.int 1]) (rest := []) (r1 := some (.int 1)) (m1 := (mz_i xs Ln)) rfl ⟨?_, rfl⟩ ?_
            · refine mz_go 3 (c' := (3, [some (.int 1)], [.int 2, .int 0, .int 1], (mz_i xs Ln))) rfl ?_
              refine mz_do (R := mz_r121) (as := [.int 1, .int 0, .int 2]) (rest := []) (r1 := some (.int 1)) (m1 := (mz_i xs Ln)) rfl ⟨?_, rfl⟩ ?_
              · refine mz_go 8 (c' := (15, [some (.int 1), some (.int 0), some (.int 2)], [.int 1], (mz_i xs Ln))) rfl ?_
                exact mz_ret rfl
              exact mz_ret rfl
            refine mz_go 4 (c' := (18, [some (.ref 0), some (.int 1), none], [.int 1, .ref 53], (mz_i xs Ln))) rfl ?_
            refine mz_do (R := mz_r120) (as := [.int 1]) (rest := [.ref 53]) (r1 := some (.ref 2002)) (m1 := (mz_i xs Ln)) rfl ⟨?_, rfl⟩ ?_
            · refine mz_go 7 (c' := (24, [some (.int 1)], [.ref 2002], (mz_i xs Ln))) rfl ?_
              exact mz_ret rfl
            refine mz_do (R := mz_r28) (as := [.ref 53, .ref 2002]) (rest := []) (r1 := some (.int 0)) (m1 := mz_up (mz_up (mz_up (mz_up (mz_up (mz_i xs Ln) 53 2 2002) 53 3 0) 53 4 1) 54 2 0) 53 4 0) rfl ⟨?_, rfl⟩ ?_
            · refine mz_go 16 (c' := (26, [some (.ref 53), some (.ref 2002)], [.int 0, .int 0, .ref 53], mz_up (mz_up (mz_up (mz_up (mz_i xs Ln) 53 2 2002) 53 3 0) 53 4 1) 54 2 0)) rfl ?_
              refine mz_do (R := mz_r29) (as := [.ref 53, .int 0, .int 0]) (rest := []) (r1 := none) (m1 := mz_up (mz_up (mz_up (mz_up (mz_up (mz_i xs Ln) 53 2 2002) 53 3 0) 53 4 1) 54 2 0) 53 4 0) rfl ⟨?_, rfl⟩ ?_
              · refine mz_go 8 (c' := (16, [some (.ref 53), some (.int 0), some (.int 0), none, none, none], [.int 0, .int 1, .ref 53], mz_up (mz_up (mz_up (mz_up (mz_i xs Ln) 53 2 2002) 53 3 0) 53 4 1) 54 2 0)) rfl ?_
                refine mz_do (R := mz_r29) (as := [.ref 53, .int 1, .int 0]) (rest := []) (r1 := none) (m1 := mz_up (mz_up (mz_up (mz_up (mz_up (mz_i xs Ln) 53 2 2002) 53 3 0) 53 4 1) 54 2 0) 53 4 0) rfl ⟨?_, rfl⟩ ?_
                · refine mz_go 8 (c' := (16, [some (.ref 53), some (.int 1), some (.int 0), none, none, none], [.int 0, .int 2, .ref 53], mz_up (mz_up (mz_up (mz_up (mz_i xs Ln) 53 2 2002) 53 3 0) 53 4 1) 54 2 0)) rfl ?_
                  refine mz_do (R := mz_r29) (as := [.ref 53, .int 2, .int 0]) (rest := []) (r1 := none) (m1 := mz_up (mz_up (mz_up (mz_up (mz_up (mz_i xs Ln) 53 2 2002) 53 3 0) 53 4 1) 54 2 0) 53 4 0) rfl ⟨?_, rfl⟩ ?_
                  · refine mz_go 8 (c' := (16, [some (.ref 53), some (.int 2), some (.int 0), none, none, none], [.int 0, .int 3, .ref 53], mz_up (mz_up (mz_up (mz_up (mz_i xs Ln) 53 2 2002) 53 3 0) 53 4 1) 54 2 0)) rfl ?_
                    refine mz_do (R := mz_r29) (as := [.ref 53, .int 3, .int 0]) (rest := []) (r1 := none) (m1 := mz_up (mz_up (mz_up (mz_up (mz_up (mz_i xs Ln) 53 2 2002) 53 3 0) 53 4 1) 54 2 0) 53 4 0) rfl ⟨?_, rfl⟩ ?_
                    · refine mz_go 8 (c' := (16, [some (.ref 53), some (.int 3), some (.int 0), none, none, none], [.int 0, .int 4, .ref 53], mz_up (mz_up (mz_up (mz_up (mz_i xs Ln) 53 2 2002) 53 3 0) 53 4 1) 54 2 0)) rfl ?_
                      refine mz_do (R := mz_r29) (as := [.ref 53, .int 4, .int 0]) (rest := []) (r1 := none) (m1 := mz_up (mz_up (mz_up (mz_up (mz_up (mz_i xs Ln) 53 2 2002) 53 3 0) 53 4 1) 54 2 0) 53 4 0) rfl ⟨?_, rfl⟩ ?_
                      · refine mz_go 8 (c' := (16, [some (.ref 53), some (.int 4), some (.int 0), none, none, none], [.int 0, .int 5, .ref 53], mz_up (mz_up (mz_up (mz_up (mz_i xs Ln) 53 2 2002) 53 3 0) 53 4 1) 54 2 0)) rfl ?_
                        refine mz_do (R := mz_r29) (as := [.ref 53, .int 5, .int 0]) (rest := []) (r1 := none) (m1 := mz_up (mz_up (mz_up (mz_up (mz_up (mz_i xs Ln) 53 2 2002) 53 3 0) 53 4 1) 54 2 0) 53 4 0) rfl ⟨?_, rfl⟩ ?_
                        · refine mz_go 5 (c' := (7, [some (.ref 53), some (.int 5), some (.int 0), none, none, none], [.int 0, .ref 53], mz_up (mz_up (mz_up (mz_up (mz_i xs Ln) 53 2 2002) 53 3 0) 53 4 1) 54 2 0)) rfl ?_
                          refine mz_do (R := mz_r31) (as := [.ref 53, .int 0]) (rest := []) (r1 := none) (m1 := mz_up (mz_up (mz_up (mz_up (mz_up (mz_i xs Ln) 53 2 2002) 53 3 0) 53 4 1) 54 2 0) 53 4 0) rfl ⟨?_, rfl⟩ ?_
                          · refine mz_go 4 (c' := (8, [some (.ref 53), some (.int 0), none], [.int 0, .ref 8], mz_up (mz_up (mz_up (mz_up (mz_i xs Ln) 53 2 2002) 53 3 0) 53 4 1) 54 2 0)) rfl ?_
                            refine mz_do (R := mz_r54) (as := [.ref 8, .int 0]) (rest := []) (r1 := some (.int (-1))) (m1 := mz_up (mz_up (mz_up (mz_up (mz_i xs Ln) 53 2 2002) 53 3 0) 53 4 1) 54 2 0) rfl ⟨?_, rfl⟩ ?_
                            · refine mz_go 7 (c' := (28, [some (.ref 8), some (.int 0)], [.int (-1)], mz_up (mz_up (mz_up (mz_up (mz_i xs Ln) 53 2 2002) 53 3 0) 53 4 1) 54 2 0)) rfl ?_
                              exact mz_ret rfl
                            refine mz_go 2 (c' := (13, [some (.ref 53), some (.int 0), some (.int (-1))], [.int (-1)], mz_up (mz_up (mz_up (mz_up (mz_i xs Ln) 53 2 2002) 53 3 0) 53 4 1) 54 2 0)) rfl ?_
                            refine mz_do (R := mz_r35) (as := [.int (-1)]) (rest := []) (r1 := some (.int 0)) (m1 := mz_up (mz_up (mz_up (mz_up (mz_i xs Ln) 53 2 2002) 53 3 0) 53 4 1) 54 2 0) rfl ⟨?_, rfl⟩ ?_
                            · refine mz_go 4 (c' := (17, [some (.int (-1))], [.int 0], mz_up (mz_up (mz_up (mz_up (mz_i xs Ln) 53 2 2002) 53 3 0) 53 4 1) 54 2 0)) rfl ?_
                              exact mz_ret rfl
                            refine mz_go 9 (c' := (105, [some (.ref 53), some (.int 0), some (.int (-1))], [.int (-1), .ref 53], mz_up (mz_up (mz_up (mz_up (mz_i xs Ln) 53 2 2002) 53 3 0) 53 4 1) 54 2 0)) rfl ?_
                            refine mz_do (R := mz_r34) (as := [.ref 53, .int (-1)]) (rest := []) (r1 := none) (m1 := mz_up (mz_up (mz_up (mz_up (mz_up (mz_i xs Ln) 53 2 2002) 53 3 0) 53 4 1) 54 2 0) 53 4 0) rfl ⟨?_, rfl⟩ ?_
                            · refine mz_go 10 (c' := (27, [some (.ref 53), some (.int (-1)), some (.int (-1))], [], mz_up (mz_up (mz_up (mz_up (mz_up (mz_i xs Ln) 53 2 2002) 53 3 0) 53 4 1) 54 2 0) 53 4 0)) rfl ?_
                              exact mz_ret rfl
                            exact mz_ret rfl
                          exact mz_ret rfl
                        refine mz_go 13 (c' := (112, [some (.ref 53), some (.int 4), some (.int 0), some (.int 60), some (.int 0), none], [], mz_up (mz_up (mz_up (mz_up (mz_up (mz_i xs Ln) 53 2 2002) 53 3 0) 53 4 1) 54 2 0) 53 4 0)) rfl ?_
                        exact mz_ret rfl
                      refine mz_go 13 (c' := (112, [some (.ref 53), some (.int 3), some (.int 0), some (.int 60), some (.int 0), none], [], mz_up (mz_up (mz_up (mz_up (mz_up (mz_i xs Ln) 53 2 2002) 53 3 0) 53 4 1) 54 2 0) 53 4 0)) rfl ?_
                      exact mz_ret rfl
                    refine mz_go 14 (c' := (112, [some (.ref 53), some (.int 2), some (.int 0), some (.int 1), some (.int 0), none], [], mz_up (mz_up (mz_up (mz_up (mz_up (mz_i xs Ln) 53 2 2002) 53 3 0) 53 4 1) 54 2 0) 53 4 0)) rfl ?_
                    exact mz_ret rfl
                  refine mz_go 13 (c' := (112, [some (.ref 53), some (.int 1), some (.int 0), some (.int 60), some (.int 0), none], [], mz_up (mz_up (mz_up (mz_up (mz_up (mz_i xs Ln) 53 2 2002) 53 3 0) 53 4 1) 54 2 0) 53 4 0)) rfl ?_
                  exact mz_ret rfl
                refine mz_go 13 (c' := (112, [some (.ref 53), some (.int 0), some (.int 0), some (.int 60), some (.int 0), none], [], mz_up (mz_up (mz_up (mz_up (mz_up (mz_i xs Ln) 53 2 2002) 53 3 0) 53 4 1) 54 2 0) 53 4 0)) rfl ?_
                exact mz_ret rfl
              refine mz_go 5 (c' := (58, [some (.ref 53), some (.ref 2002)], [.int 0], mz_up (mz_up (mz_up (mz_up (mz_up (mz_i xs Ln) 53 2 2002) 53 3 0) 53 4 1) 54 2 0) 53 4 0)) rfl ?_
              exact mz_ret rfl
            refine mz_go 11 (c' := (44, [some (.ref 0), some (.int 1), some (.int 0)], [.int (-10)], mz_up (mz_up (mz_up (mz_up (mz_up (mz_up (mz_i xs Ln) 53 2 2002) 53 3 0) 53 4 1) 54 2 0) 53 4 0) 8 1 0)) rfl ?_
            exact mz_ret rfl
          · refine mz_go 3 (c' := (3, [some (.ref 65), some (.int 1), none, none, none], [.int 2, .int 0, .int 1], mz_up (mz_up (mz_up (mz_up (mz_up (mz_up (mz_i xs Ln) 53 2 2002) 53 3 0) 53 4 1) 54 2 0) 53 4 0) 8 1 0)) rfl ?_
            refine mz_do (R := mz_r128) (as := [.int 1, .int 0, .int 2]) (rest := []) (r1 := some (.int 1)) (m1 := mz_up (mz_up (mz_up (mz_up (mz_up (mz_up (mz_i xs Ln) 53 2 2002) 53 3 0) 53 4 1) 54 2 0) 53 4 0) 8 1 0) rfl ⟨?_, rfl⟩ ?_
            · refine mz_go 8 (c' := (15, [some (.int 1), some (.int 0), some (.int 2)], [.int 1], mz_up (mz_up (mz_up (mz_up (mz_up (mz_up (mz_i xs Ln) 53 2 2002) 53 3 0) 53 4 1) 54 2 0) 53 4 0) 8 1 0)) rfl ?_
              exact mz_ret rfl
            refine mz_go 14 (c' := (36, [some (.ref 65), some (.int 1), none, none, none], [.ref 65], mz_up (mz_up (mz_up (mz_up (mz_up (mz_up (mz_up (mz_up (mz_up (mz_up (mz_i xs Ln) 53 2 2002) 53 3 0) 53 4 1) 54 2 0) 53 4 0) 8 1 0) 65 12 1) 65 9 0) 65 10 0) 65 11 0)) rfl ?_
            refine mz_do (R := mz_r162) (as := [.ref 65]) (rest := []) (r1 := some (.int 0)) (m1 := mz_up (mz_up (mz_up (mz_up (mz_up (mz_up (mz_up (mz_up (mz_up (mz_up (mz_i xs Ln) 53 2 2002) 53 3 0) 53 4 1) 54 2 0) 53 4 0) 8 1 0) 65 12 1) 65 9 0) 65 10 0) 65 11 0) rfl ⟨?_, rfl⟩ ?_
            · refine mz_go 1 (c' := (1, [some (.ref 65)], [.ref 65], mz_up (mz_up (mz_up (mz_up (mz_up (mz_up (mz_up (mz_up (mz_up (mz_up (mz_i xs Ln) 53 2 2002) 53 3 0) 53 4 1) 54 2 0) 53 4 0) 8 1 0) 65 12 1) 65 9 0) 65 10 0) 65 11 0)) rfl ?_
              refine mz_do (R := mz_r163) (as := [.ref 65]) (rest := []) (r1 := some (.int 0)) (m1 := mz_up (mz_up (mz_up (mz_up (mz_up (mz_up (mz_up (mz_up (mz_up (mz_up (mz_i xs Ln) 53 2 2002) 53 3 0) 53 4 1) 54 2 0) 53 4 0) 8 1 0) 65 12 1) 65 9 0) 65 10 0) 65 11 0) rfl ⟨?_, rfl⟩ ?_
              · refine mz_go 1 (c' := (1, [some (.ref 65)], [.ref 65], mz_up (mz_up (mz_up (mz_up (mz_up (mz_up (mz_up (mz_up (mz_up (mz_up (mz_i xs Ln) 53 2 2002) 53 3 0) 53 4 1) 54 2 0) 53 4 0) 8 1 0) 65 12 1) 65 9 0) 65 10 0) 65 11 0)) rfl ?_
                refine mz_do (R := mz_r164) (as := [.ref 65]) (rest := []) (r1 := some (.int 0)) (m1 := mz_up (mz_up (mz_up (mz_up (mz_up (mz_up (mz_up (mz_up (mz_up (mz_up (mz_i xs Ln) 53 2 2002) 53 3 0) 53 4 1) 54 2 0) 53 4 0) 8 1 0) 65 12 1) 65 9 0) 65 10 0) 65 11 0) rfl ⟨?_, rfl⟩ ?_
                · refine mz_go 1 (c' := (1, [some (.ref 65), none], [.ref 65], mz_up (mz_up (mz_up (mz_up (mz_up (mz_up (mz_up (mz_up (mz_up (mz_up (mz_i xs Ln) 53 2 2002) 53 3 0) 53 4 1) 54 2 0) 53 4 0) 8 1 0) 65 12 1) 65 9 0) 65 10 0) 65 11 0)) rfl ?_
                  refine mz_do (R := mz_r165) (as := [.ref 65]) (rest := []) (r1 := some (.int 0)) (m1 := mz_up (mz_up (mz_up (mz_up (mz_up (mz_up (mz_up (mz_up (mz_up (mz_up (mz_i xs Ln) 53 2 2002) 53 3 0) 53 4 1) 54 2 0) 53 4 0) 8 1 0) 65 12 1) 65 9 0) 65 10 0) 65 11 0) rfl ⟨?_, rfl⟩ ?_
                  · refine mz_go 1 (c' := (1, [some (.ref 65), none], [.ref 65], mz_up (mz_up (mz_up (mz_up (mz_up (mz_up (mz_up (mz_up (mz_up (mz_up (mz_i xs Ln) 53 2 2002) 53 3 0) 53 4 1) 54 2 0) 53 4 0) 8 1 0) 65 12 1) 65 9 0) 65 10 0) 65 11 0)) rfl ?_
                    refine mz_do (R := mz_r166) (as := [.ref 65]) (rest := []) (r1 := some (.int 0)) (m1 := mz_up (mz_up (mz_up (mz_up (mz_up (mz_up (mz_up (mz_up (mz_up (mz_up (mz_i xs Ln) 53 2 2002) 53 3 0) 53 4 1) 54 2 0) 53 4 0) 8 1 0) 65 12 1) 65 9 0) 65 10 0) 65 11 0) rfl ⟨?_, rfl⟩ ?_
                    · refine mz_go 1 (c' := (1, [some (.ref 65), none], [.ref 65], mz_up (mz_up (mz_up (mz_up (mz_up (mz_up (mz_up (mz_up (mz_up (mz_up (mz_i xs Ln) 53 2 2002) 53 3 0) 53 4 1) 54 2 0) 53 4 0) 8 1 0) 65 12 1) 65 9 0) 65 10 0) 65 11 0)) rfl ?_
                      refine mz_do (R := mz_r168) (as := [.ref 65]) (rest := []) (r1 := some (.int 0)) (m1 := mz_up (mz_up (mz_up (mz_up (mz_up (mz_up (mz_up (mz_up (mz_up (mz_up (mz_i xs Ln) 53 2 2002) 53 3 0) 53 4 1) 54 2 0) 53 4 0) 8 1 0) 65 12 1) 65 9 0) 65 10 0) 65 11 0) rfl ⟨?_, rfl⟩ ?_
                      · refine mz_go 1 (c' := (1, [some (.ref 65), none, none, none], [.ref 65], mz_up (mz_up (mz_up (mz_up (mz_up (mz_up (mz_up (mz_up (mz_up (mz_up (mz_i xs Ln) 53 2 2002) 53 3 0) 53 4 1) 54 2 0) 53 4 0) 8 1 0) 65 12 1) 65 9 0) 65 10 0) 65 11 0)) rfl ?_
                        refine mz_do (R := mz_r159) (as := [.ref 65]) (rest := []) (r1 := some (.int (-1))) (m1 := mz_up (mz_up (mz_up (mz_up (mz_up (mz_up (mz_up (mz_up (mz_up (mz_up (mz_i xs Ln) 53 2 2002) 53 3 0) 53 4 1) 54 2 0) 53 4 0) 8 1 0) 65 12 1) 65 9 0) 65 10 0) 65 11 0) rfl ⟨?_, rfl⟩ ?_
                        · refine mz_go 8 (c' := (30, [some (.ref 65)], [.int (-1)], mz_up (mz_up (mz_up (mz_up (mz_up (mz_up (mz_up (mz_up (mz_up (mz_up (mz_i xs Ln) 53 2 2002) 53 3 0) 53 4 1) 54 2 0) 53 4 0) 8 1 0) 65 12 1) 65 9 0) 65 10 0) 65 11 0)) rfl ?_
                          exact mz_ret rfl
                        refine mz_go 3 (c' := (7, [some (.ref 65), some (.int (-1)), none, none], [.int (-1), .ref 65], mz_up (mz_up (mz_up (mz_up (mz_up (mz_up (mz_up (mz_up (mz_up (mz_up (mz_i xs Ln) 53 2 2002) 53 3 0) 53 4 1) 54 2 0) 53 4 0) 8 1 0) 65 12 1) 65 9 0) 65 10 0) 65 11 0)) rfl ?_
                        refine mz_do (R := mz_r160) (as := [.ref 65, .int (-1)]) (rest := []) (r1 := some (.int 0)) (m1 := mz_up (mz_up (mz_up (mz_up (mz_up (mz_up (mz_up (mz_up (mz_up (mz_up (mz_i xs Ln) 53 2 2002) 53 3 0) 53 4 1) 54 2 0) 53 4 0) 8 1 0) 65 12 1) 65 9 0) 65 10 0) 65 11 0) rfl ⟨?_, rfl⟩ ?_
                        · refine mz_go 17 (c' := (62, [some (.ref 65), some (.int (-1))], [.int 0], mz_up (mz_up (mz_up (mz_up (mz_up (mz_up (mz_up (mz_up (mz_up (mz_up (mz_i xs Ln) 53 2 2002) 53 3 0) 53 4 1) 54 2 0) 53 4 0) 8 1 0) 65 12 1) 65 9 0) 65 10 0) 65 11 0)) rfl ?_
                          exact mz_ret rfl
                        refine mz_go 4 (c' := (36, [some (.ref 65), some (.int (-1)), none, none], [.int 57, .int 48, .int (-1)], mz_up (mz_up (mz_up (mz_up (mz_up (mz_up (mz_up (mz_up (mz_up (mz_up (mz_i xs Ln) 53 2 2002) 53 3 0) 53 4 1) 54 2 0) 53 4 0) 8 1 0) 65 12 1) 65 9 0) 65 10 0) 65 11 0)) rfl ?_
                        refine mz_do (R := mz_r128) (as := [.int (-1), .int 48, .int 57]) (rest := []) (r1 := some (.int 0)) (m1 := mz_up (mz_up (mz_up (mz_up (mz_up (mz_up (mz_up (mz_up (mz_up (mz_up (mz_i xs Ln) 53 2 2002) 53 3 0) 53 4 1) 54 2 0) 53 4 0) 8 1 0) 65 12 1) 65 9 0) 65 10 0) 65 11 0) rfl ⟨?_, rfl⟩ ?_
                        · refine mz_go 4 (c' := (15, [some (.int (-1)), some (.int 48), some (.int 57)], [.int 0], mz_up (mz_up (mz_up (mz_up (mz_up (mz_up (mz_up (mz_up (mz_up (mz_up (mz_i xs Ln) 53 2 2002) 53 3 0) 53 4 1) 54 2 0) 53 4 0) 8 1 0) 65 12 1) 65 9 0) 65 10 0) 65 11 0)) rfl ?_
                          exact mz_ret rfl
                        refine mz_go 8 (c' := (172, [some (.ref 65), some (.int (-1)), none, none], [.int 0], mz_up (mz_up (mz_up (mz_up (mz_up (mz_up (mz_up (mz_up (mz_up (mz_up (mz_i xs Ln) 53 2 2002) 53 3 0) 53 4 1) 54 2 0) 53 4 0) 8 1 0) 65 12 1) 65 9 0) 65 10 0) 65 11 0)) rfl ?_
                        exact mz_ret rfl
                      refine mz_go 2 (c' := (8, [some (.ref 65), none], [.int 0], mz_up (mz_up (mz_up (mz_up (mz_up (mz_up (mz_up (mz_up (mz_up (mz_up (mz_i xs Ln) 53 2 2002) 53 3 0) 53 4 1) 54 2 0) 53 4 0) 8 1 0) 65 12 1) 65 9 0) 65 10 0) 65 11 0)) rfl ?_
                      exact mz_ret rfl
                    refine mz_go 2 (c' := (8, [some (.ref 65), none], [.int 0], mz_up (mz_up (mz_up (mz_up (mz_up (mz_up (mz_up (mz_up (mz_up (mz_up (mz_i xs Ln) 53 2 2002) 53 3 0) 53 4 1) 54 2 0) 53 4 0) 8 1 0) 65 12 1) 65 9 0) 65 10 0) 65 11 0)) rfl ?_
                    exact mz_ret rfl
                  refine mz_go 2 (c' := (8, [some (.ref 65), none], [.int 0], mz_up (mz_up (mz_up (mz_up (mz_up (mz_up (mz_up (mz_up (mz_up (mz_up (mz_i xs Ln) 53 2 2002) 53 3 0) 53 4 1) 54 2 0) 53 4 0) 8 1 0) 65 12 1) 65 9 0) 65 10 0) 65 11 0)) rfl ?_
                  exact mz_ret rfl
                refine mz_go 2 (c' := (8, [some (.ref 65)], [.int 0], mz_up (mz_up (mz_up (mz_up (mz_up (mz_up (mz_up (mz_up (mz_up (mz_up (mz_i xs Ln) 53 2 2002) 53 3 0) 53 4 1) 54 2 0) 53 4 0) 8 1 0) 65 12 1) 65 9 0) 65 10 0) 65 11 0)) rfl ?_
                exact mz_ret rfl
              refine mz_go 2 (c' := (8, [some (.ref 65)], [.int 0], mz_up (mz_up (mz_up (mz_up (mz_up (mz_up (mz_up (mz_up (mz_up (mz_up (mz_i xs Ln) 53 2 2002) 53 3 0) 53 4 1) 54 2 0) 53 4 0) 8 1 0) 65 12 1) 65 9 0) 65 10 0) 65 11 0)) rfl ?_
              exact mz_ret rfl
            refine mz_go 13 (c' := (78, [some (.ref 65), some (.int 1), some (.int 0), none, none], [.int 0, .int (-10)], mz_up (mz_up (mz_up (mz_up (mz_up (mz_up (mz_up (mz_up (mz_up (mz_up (mz_up (mz_i xs Ln) 53 2 2002) 53 3 0) 53 4 1) 54 2 0) 53 4 0) 8 1 0) 65 12 1) 65 9 0) 65 10 0) 65 11 0) 66 1 0)) rfl ?_
            refine mz_go 1 (c' := (79, [some (.ref 65), some (.int 1), some (.int 0), none, none], [.int (-10)], mz_up (mz_up (mz_up (mz_up (mz_up (mz_up (mz_up (mz_up (mz_up (mz_up (mz_up (mz_i xs Ln) 53 2 2002) 53 3 0) 53 4 1) 54 2 0) 53 4 0) 8 1 0) 65 12 1) 65 9 0) 65 10 0) 65 11 0) 66 1 0)) rfl ?_
            exact mz_ret rfl
        · refine ⟨(-10), mz_up (mz_up (mz_up (mz_up (mz_up (mz_up (mz_i xs Ln) 53 2 2003) 53 3 0) 53 4 1) 54 2 0) 53 4 0) 8 1 0, mz_up (mz_up (mz_up (mz_up (mz_up (mz_up (mz_up (mz_up (mz_up (mz_up (mz_up (mz_i xs Ln) 53 2 2003) 53 3 0) 53 4 1) 54 2 0) 53 4 0) 8 1 0) 65 12 a) 65 9 0) 65 10 0) 65 11 0) 66 1 0, ⟨?_, rfl⟩, ⟨?_, rfl⟩⟩
          · refine mz_go 1 (c' := (1, [some (.ref 0), some (.int a), none], [.int a], (mz_i xs Ln))) rfl ?_
            refine mz_do (R := mz_r119) (as := [.int a]) (rest := []) (r1 := some (.int 1)) (m1 := (mz_i xs Ln)) rfl ⟨?_, rfl⟩ ?_
            · refine mz_go 3 (c' := (3, [some (.int a)], [.int 2, .int 0, .int a], (mz_i xs Ln))) rfl ?_
              refine mz_do (R := mz_r121) (as := [.int a, .int 0, .int 2]) (rest := []) (r1 := some (.int 1)) (m1 := (mz_i xs Ln)) rfl ⟨?_, rfl⟩ ?_
              · refine mz_go 3 (c' := (if a < 0 then 14 else 5, [some (.int a), some (.int 0), some (.int 2)], [], (mz_i xs Ln))) rfl ?_
                refine mz_ifF h1 ?_
                refine mz_go 3 (c' := (if 2 < a then 14 else 10, [some (.int a), some (.int 0), some (.int 2)], [], (mz_i xs Ln))) rfl ?_
                refine mz_ifF h2 ?_
                refine mz_go 2 (c' := (15, [some (.int a), some (.int 0), some (.int 2)], [.int 1], (mz_i xs Ln))) rfl ?_
                exact mz_ret rfl
              exact mz_ret rfl
            refine mz_go 4 (c' := (18, [some (.ref 0), some (.int a), none], [.int a, .ref 53], (mz_i xs Ln))) rfl ?_
            refine mz_do (R := mz_r120) (as := [.int a]) (rest := [.ref 53]) (r1 := some (.ref 2003)) (m1 := (mz_i xs Ln)) rfl ⟨?_, rfl⟩ ?_
            · refine mz_go 2 (c' := (if a = 0 then 4 else 10, [some (.int a)], [], (mz_i xs Ln))) rfl ?_
              refine mz_ifF h3 ?_
              refine mz_go 3 (c' := (if a = 1 then 15 else 21, [some (.int a)], [], (mz_i xs Ln))) rfl ?_
              refine mz_ifF h4 ?_
              refine mz_go 1 (c' := (24, [some (.int a)], [.ref 2003], (mz_i xs Ln))) rfl ?_
              exact mz_ret rfl
            refine mz_do (R := mz_r28) (as := [.ref 53, .ref 2003]) (rest := []) (r1 := some (.int 0)) (m1 := mz_up (mz_up (mz_up (mz_up (mz_up (mz_i xs Ln) 53 2 2003) 53 3 0) 53 4 1) 54 2 0) 53 4 0) rfl ⟨?_, rfl⟩ ?_
            · refine mz_go 16 (c' := (26, [some (.ref 53), some (.ref 2003)], [.int 0, .int 0, .ref 53], mz_up (mz_up (mz_up (mz_up (mz_i xs Ln) 53 2 2003) 53 3 0) 53 4 1) 54 2 0)) rfl ?_
              refine mz_do (R := mz_r29) (as := [.ref 53, .int 0, .int 0]) (rest := []) (r1 := none) (m1 := mz_up (mz_up (mz_up (mz_up (mz_up (mz_i xs Ln) 53 2 2003) 53 3 0) 53 4 1) 54 2 0) 53 4 0) rfl ⟨?_, rfl⟩ ?_
              · refine mz_go 8 (c' := (16, [some (.ref 53), some (.int 0), some (.int 0), none, none, none], [.int 0, .int 1, .ref 53], mz_up (mz_up (mz_up (mz_up (mz_i xs Ln) 53 2 2003) 53 3 0) 53 4 1) 54 2 0)) rfl ?_
                refine mz_do (R := mz_r29) (as := [.ref 53, .int 1, .int 0]) (rest := []) (r1 := none) (m1 := mz_up (mz_up (mz_up (mz_up (mz_up (mz_i xs Ln) 53 2 2003) 53 3 0) 53 4 1) 54 2 0) 53 4 0) rfl ⟨?_, rfl⟩ ?_
                · refine mz_go 8 (c' := (16, [some (.ref 53), some (.int 1), some (.int 0), none, none, none], [.int 0, .int 2, .ref 53], mz_up (mz_up (mz_up (mz_up (mz_i xs Ln) 53 2 2003) 53 3 0) 53 4 1) 54 2 0)) rfl ?_
                  refine mz_do (R := mz_r29) (as := [.ref 53, .int 2, .int 0]) (rest := []) (r1 := none) (m1 := mz_up (mz_up (mz_up (mz_up (mz_up (mz_i xs Ln) 53 2 2003) 53 3 0) 53 4 1) 54 2 0) 53 4 0) rfl ⟨?_, rfl⟩ ?_
                  · refine mz_go 8 (c' := (16, [some (.ref 53), some (.int 2), some (.int 0), none, none, none], [.int 0, .int 3, .ref 53], mz_up (mz_up (mz_up (mz_up (mz_i xs Ln) 53 2 2003) 53 3 0) 53 4 1) 54 2 0)) rfl ?_
                    refine mz_do (R := mz_r29) (as := [.ref 53, .int 3, .int 0]) (rest := []) (r1 := none) (m1 := mz_up (mz_up (mz_up (mz_up (mz_up (mz_i xs Ln) 53 2 2003) 53 3 0) 53 4 1) 54 2 0) 53 4 0) rfl ⟨?_, rfl⟩ ?_
                    · refine mz_go 8 (c' := (16, [some (.ref 53), some (.int 3), some (.int 0), none, none, none], [.int 0, .int 4, .ref 53], mz_up (mz_up (mz_up (mz_up (mz_i xs Ln) 53 2 2003) 53 3 0) 53 4 1) 54 2 0)) rfl ?_
                      refine mz_do (R := mz_r29) (as := [.ref 53, .int 4, .int 0]) (rest := []) (r1 := none) (m1 := mz_up (mz_up (mz_up (mz_up (mz_up (mz_i xs Ln) 53 2 2003) 53 3 0) 53 4 1) 54 2 0) 53 4 0) rfl ⟨?_, rfl⟩ ?_
                      · refine mz_go 8 (c' := (16, [some (.ref 53), some (.int 4), some (.int 0), none, none, none], [.int 0, .int 5, .ref 53], mz_up (mz_up (mz_up (mz_up (mz_i xs Ln) 53 2 2003) 53 3 0) 53 4 1) 54 2 0)) rfl ?_
                        refine mz_do (R := mz_r29) (as := [.ref 53, .int 5, .int 0]) (rest := []) (r1 := none) (m1 := mz_up (mz_up (mz_up (mz_up (mz_up (mz_i xs Ln) 53 2 2003) 53 3 0) 53 4 1) 54 2 0) 53 4 0) rfl ⟨?_, rfl⟩ ?_
                        · refine mz_go 5 (c' := (7, [some (.ref 53), some (.int 5), some (.int 0), none, none, none], [.int 0, .ref 53], mz_up (mz_up (mz_up (mz_up (mz_i xs Ln) 53 2 2003) 53 3 0) 53 4 1) 54 2 0)) rfl ?_
                          refine mz_do (R := mz_r31) (as := [.ref 53, .int 0]) (rest := []) (r1 := none) (m1 := mz_up (mz_up (mz_up (mz_up (mz_up (mz_i xs Ln) 53 2 2003) 53 3 0) 53 4 1) 54 2 0) 53 4 0) rfl ⟨?_, rfl⟩ ?_
                          · refine mz_go 4 (c' := (8, [some (.ref 53), some (.int 0), none], [.int 0, .ref 8], mz_up (mz_up (mz_up (mz_up (mz_i xs Ln) 53 2 2003) 53 3 0) 53 4 1) 54 2 0)) rfl ?_
                            refine mz_do (R := mz_r54) (as := [.ref 8, .int 0]) (rest := []) (r1 := some (.int (-1))) (m1 := mz_up (mz_up (mz_up (mz_up (mz_i xs Ln) 53 2 2003) 53 3 0) 53 4 1) 54 2 0) rfl ⟨?_, rfl⟩ ?_
                            · refine mz_go 7 (c' := (28, [some (.ref 8), some (.int 0)], [.int (-1)], mz_up (mz_up (mz_up (mz_up (mz_i xs Ln) 53 2 2003) 53 3 0) 53 4 1) 54 2 0)) rfl ?_
                              exact mz_ret rfl
                            refine mz_go 2 (c' := (13, [some (.ref 53), some (.int 0), some (.int (-1))], [.int (-1)], mz_up (mz_up (mz_up (mz_up (mz_i xs Ln) 53 2 2003) 53 3 0) 53 4 1) 54 2 0)) rfl ?_
                            refine mz_do (R := mz_r35) (as := [.int (-1)]) (rest := []) (r1 := some (.int 0)) (m1 := mz_up (mz_up (mz_up (mz_up (mz_i xs Ln) 53 2 2003) 53 3 0) 53 4 1) 54 2 0) rfl ⟨?_, rfl⟩ ?_
                            · refine mz_go 4 (c' := (17, [some (.int (-1))], [.int 0], mz_up (mz_up (mz_up (mz_up (mz_i xs Ln) 53 2 2003) 53 3 0) 53 4 1) 54 2 0)) rfl ?_
                              exact mz_ret rfl
                            refine mz_go 9 (c' := (105, [some (.ref 53), some (.int 0), some (.int (-1))], [.int (-1), .ref 53], mz_up (mz_up (mz_up (mz_up (mz_i xs Ln) 53 2 2003) 53 3 0) 53 4 1) 54 2 0)) rfl ?_
                            refine mz_do (R := mz_r34) (as := [.ref 53, .int (-1)]) (rest := []) (r1 := none) (m1 := mz_up (mz_up (mz_up (mz_up (mz_up (mz_i xs Ln) 53 2 2003) 53 3 0) 53 4 1) 54 2 0) 53 4 0) rfl ⟨?_, rfl⟩ ?_
                            · refine mz_go 10 (c' := (27, [some (.ref 53), some (.int (-1)), some (.int (-1))], [], mz_up (mz_up (mz_up (mz_up (mz_up (mz_i xs Ln) 53 2 2003) 53 3 0) 53 4 1) 54 2 0) 53 4 0)) rfl ?_
                              exact mz_ret rfl
                            exact mz_ret rfl
                          exact mz_ret rfl
                        refine mz_go 13 (c' := (112, [some (.ref 53), some (.int 4), some (.int 0), some (.int 60), some (.int 0), none], [], mz_up (mz_up (mz_up (mz_up (mz_up (mz_i xs Ln) 53 2 2003) 53 3 0) 53 4 1) 54 2 0) 53 4 0)) rfl ?_
                        exact mz_ret rfl
                      refine mz_go 13 (c' := (112, [some (.ref 53), some (.int 3), some (.int 0), some (.int 60), some (.int 0), none], [], mz_up (mz_up (mz_up (mz_up (mz_up (mz_i xs Ln) 53 2 2003) 53 3 0) 53 4 1) 54 2 0) 53 4 0)) rfl ?_
                      exact mz_ret rfl
                    refine mz_go 14 (c' := (112, [some (.ref 53), some (.int 2), some (.int 0), some (.int 1), some (.int 0), none], [], mz_up (mz_up (mz_up (mz_up (mz_up (mz_i xs Ln) 53 2 2003) 53 3 0) 53 4 1) 54 2 0) 53 4 0)) rfl ?_
                    exact mz_ret rfl
                  refine mz_go 13 (c' := (112, [some (.ref 53), some (.int 1), some (.int 0), some (.int 60), some (.int 0), none], [], mz_up (mz_up (mz_up (mz_up (mz_up (mz_i xs Ln) 53 2 2003) 53 3 0) 53 4 1) 54 2 0) 53 4 0)) rfl ?_
                  exact mz_ret rfl
                refine mz_go 13 (c' := (112, [some (.ref 53), some (.int 0), some (.int 0), some (.int 60), some (.int 0), none], [], mz_up (mz_up (mz_up (mz_up (mz_up (mz_i xs Ln) 53 2 2003) 53 3 0) 53 4 1) 54 2 0) 53 4 0)) rfl ?_
                exact mz_ret rfl
              refine mz_go 5 (c' := (58, [some (.ref 53), some (.ref 2003)], [.int 0], mz_up (mz_up (mz_up (mz_up (mz_up (mz_i xs Ln) 53 2 2003) 53 3 0) 53 4 1) 54 2 0) 53 4 0)) rfl ?_
              exact mz_ret rfl
            refine mz_go 11 (c' := (44, [some (.ref 0), some (.int a), some (.int 0)], [.int (-10)], mz_up (mz_up (mz_up (mz_up (mz_up (mz_up (mz_i xs Ln) 53 2 2003) 53 3 0) 53 4 1) 54 2 0) 53 4 0) 8 1 0)) rfl ?_
            exact mz_ret rfl
          · refine mz_go 3 (c' := (3, [some (.ref 65), some (.int a), none, none, none], [.int 2, .int 0, .int a], mz_up (mz_up (mz_up (mz_up (mz_up (mz_up (mz_i xs Ln) 53 2 2003) 53 3 0) 53 4 1) 54 2 0) 53 4 0) 8 1 0)) rfl ?_
            refine mz_do (R := mz_r128) (as := [.int a, .int 0, .int 2]) (rest := []) (r1 := some (.int 1)) (m1 := mz_up (mz_up (mz_up (mz_up (mz_up (mz_up (mz_i xs Ln) 53 2 2003) 53 3 0) 53 4 1) 54 2 0) 53 4 0) 8 1 0) rfl ⟨?_, rfl⟩ ?_
            · refine mz_go 3 (c' := (if a < 0 then 14 else 5, [some (.int a), some (.int 0), some (.int 2)], [], mz_up (mz_up (mz_up (mz_up (mz_up (mz_up (mz_i xs Ln) 53 2 2003) 53 3 0) 53 4 1) 54 2 0) 53 4 0) 8 1 0)) rfl ?_
              refine mz_ifF h1 ?_
              refine mz_go 3 (c' := (if 2 < a then 14 else 10, [some (.int a), some (.int 0), some (.int 2)], [], mz_up (mz_up (mz_up (mz_up (mz_up (mz_up (mz_i xs Ln) 53 2 2003) 53 3 0) 53 4 1) 54 2 0) 53 4 0) 8 1 0)) rfl ?_
              refine mz_ifF h2 ?_
              refine mz_go 2 (c' := (15, [some (.int a), some (.int 0), some (.int 2)], [.int 1], mz_up (mz_up (mz_up (mz_up (mz_up (mz_up (mz_i xs Ln) 53 2 2003) 53 3 0) 53 4 1) 54 2 0) 53 4 0) 8 1 0)) rfl ?_
              exact mz_ret rfl
            refine mz_go 14 (c' := (36, [some (.ref 65), some (.int a), none, none, none], [.ref 65], mz_up (mz_up (mz_up (mz_up (mz_up (mz_up (mz_up (mz_up (mz_up (mz_up (mz_i xs Ln) 53 2 2003) 53 3 0) 53 4 1) 54 2 0) 53 4 0) 8 1 0) 65 12 a) 65 9 0) 65 10 0) 65 11 0)) rfl ?_
            refine mz_do (R := mz_r162) (as := [.ref 65]) (rest := []) (r1 := some (.int 0)) (m1 := mz_up (mz_up (mz_up (mz_up (mz_up (mz_up (mz_up (mz_up (mz_up (mz_up (mz_i xs Ln) 53 2 2003) 53 3 0) 53 4 1) 54 2 0) 53 4 0) 8 1 0) 65 12 a) 65 9 0) 65 10 0) 65 11 0) rfl ⟨?_, rfl⟩ ?_
            · refine mz_go 1 (c' := (1, [some (.ref 65)], [.ref 65], mz_up (mz_up (mz_up (mz_up (mz_up (mz_up (mz_up (mz_up (mz_up (mz_up (mz_i xs Ln) 53 2 2003) 53 3 0) 53 4 1) 54 2 0) 53 4 0) 8 1 0) 65 12 a) 65 9 0) 65 10 0) 65 11 0)) rfl ?_
              refine mz_do (R := mz_r163) (as := [.ref 65]) (rest := []) (r1 := some (.int 0)) (m1 := mz_up (mz_up (mz_up (mz_up (mz_up (mz_up (mz_up (mz_up (mz_up (mz_up (mz_i xs Ln) 53 2 2003) 53 3 0) 53 4 1) 54 2 0) 53 4 0) 8 1 0) 65 12 a) 65 9 0) 65 10 0) 65 11 0) rfl ⟨?_, rfl⟩ ?_
              · refine mz_go 1 (c' := (1, [some (.ref 65)], [.ref 65], mz_up (mz_up (mz_up (mz_up (mz_up (mz_up (mz_up (mz_up (mz_up (mz_up (mz_i xs Ln) 53 2 2003) 53 3 0) 53 4 1) 54 2 0) 53 4 0) 8 1 0) 65 12 a) 65 9 0) 65 10 0) 65 11 0)) rfl ?_
                refine mz_do (R := mz_r164) (as := [.ref 65]) (rest := []) (r1 := some (.int 0)) (m1 := mz_up (mz_up (mz_up (mz_up (mz_up (mz_up (mz_up (mz_up (mz_up (mz_up (mz_i xs Ln) 53 2 2003) 53 3 0) 53 4 1) 54 2 0) 53 4 0) 8 1 0) 65 12 a) 65 9 0) 65 10 0) 65 11 0) rfl ⟨?_, rfl⟩ ?_
                · refine mz_go 1 (c' := (1, [some (.ref 65), none], [.ref 65], mz_up (mz_up (mz_up (mz_up (mz_up (mz_up (mz_up (mz_up (mz_up (mz_up (mz_i xs Ln) 53 2 2003) 53 3 0) 53 4 1) 54 2 0) 53 4 0) 8 1 0) 65 12 a) 65 9 0) 65 10 0) 65 11 0)) rfl ?_
                  refine mz_do (R := mz_r165) (as := [.ref 65]) (rest := []) (r1 := some (.int 0)) (m1 := mz_up (mz_up (mz_up (mz_up (mz_up (mz_up (mz_up (mz_up (mz_up (mz_up (mz_i xs Ln) 53 2 2003) 53 3 0) 53 4 1) 54 2 0) 53 4 0) 8 1 0) 65 12 a) 65 9 0) 65 10 0) 65 11 0) rfl ⟨?_, rfl⟩ ?_
                  · refine mz_go 1 (c' := (1, [some (.ref 65), none], [.ref 65], mz_up (mz_up (mz_up (mz_up (mz_up (mz_up (mz_up (mz_up (mz_up (mz_up (mz_i xs Ln) 53 2 2003) 53 3 0) 53 4 1) 54 2 0) 53 4 0) 8 1 0) 65 12 a) 65 9 0) 65 10 0) 65 11 0)) rfl ?_
                    refine mz_do (R := mz_r166) (as := [.ref 65]) (rest := []) (r1 := some (.int 0)) (m1 := mz_up (mz_up (mz_up (mz_up (mz_up (mz_up (mz_up (mz_up (mz_up (mz_up (mz_i xs Ln) 53 2 2003) 53 3 0) 53 4 1) 54 2 0) 53 4 0) 8 1 0) 65 12 a) 65 9 0) 65 10 0) 65 11 0) rfl ⟨?_, rfl⟩ ?_
                    · refine mz_go 1 (c' := (1, [some (.ref 65), none], [.ref 65], mz_up (mz_up (mz_up (mz_up (mz_up (mz_up (mz_up (mz_up (mz_up (mz_up (mz_i xs Ln) 53 2 2003) 53 3 0) 53 4 1) 54 2 0) 53 4 0) 8 1 0) 65 12 a) 65 9 0) 65 10 0) 65 11 0)) rfl ?_
                      refine mz_do (R := mz_r168) (as := [.ref 65]) (rest := []) (r1 := some (.int 0)) (m1 := mz_up (mz_up (mz_up (mz_up (mz_up (mz_up (mz_up (mz_up (mz_up (mz_up (mz_i xs Ln) 53 2 2003) 53 3 0) 53 4 1) 54 2 0) 53 4 0) 8 1 0) 65 12 a) 65 9 0) 65 10 0) 65 11 0) rfl ⟨?_, rfl⟩ ?_
                      · refine mz_go 1 (c' := (1, [some (.ref 65), none, none, none], [.ref 65], mz_up (mz_up (mz_up (mz_up (mz_up (mz_up (mz_up (mz_up (mz_up (mz_up (mz_i xs Ln) 53 2 2003) 53 3 0) 53 4 1) 54 2 0) 53 4 0) 8 1 0) 65 12 a) 65 9 0) 65 10 0) 65 11 0)) rfl ?_
                        refine mz_do (R := mz_r159) (as := [.ref 65]) (rest := []) (r1 := some (.int (-1))) (m1 := mz_up (mz_up (mz_up (mz_up (mz_up (mz_up (mz_up (mz_up (mz_up (mz_up (mz_i xs Ln) 53 2 2003) 53 3 0) 53 4 1) 54 2 0) 53 4 0) 8 1 0) 65 12 a) 65 9 0) 65 10 0) 65 11 0) rfl ⟨?_, rfl⟩ ?_
                        · refine mz_go 8 (c' := (30, [some (.ref 65)], [.int (-1)], mz_up (mz_up (mz_up (mz_up (mz_up (mz_up (mz_up (mz_up (mz_up (mz_up (mz_i xs Ln) 53 2 2003) 53 3 0) 53 4 1) 54 2 0) 53 4 0) 8 1 0) 65 12 a) 65 9 0) 65 10 0) 65 11 0)) rfl ?_
                          exact mz_ret rfl
                        refine mz_go 3 (c' := (7, [some (.ref 65), some (.int (-1)), none, none], [.int (-1), .ref 65], mz_up (mz_up (mz_up (mz_up (mz_up (mz_up (mz_up (mz_up (mz_up (mz_up (mz_i xs Ln) 53 2 2003) 53 3 0) 53 4 1) 54 2 0) 53 4 0) 8 1 0) 65 12 a) 65 9 0) 65 10 0) 65 11 0)) rfl ?_
                        refine mz_do (R := mz_r160) (as := [.ref 65, .int (-1)]) (rest := []) (r1 := some (.int 0)) (m1 := mz_up (mz_up (mz_up (mz_up (mz_up (mz_up (mz_up (mz_up (mz_up (mz_up (mz_i xs Ln) 53 2 2003) 53 3 0) 53 4 1) 54 2 0) 53 4 0) 8 1 0) 65 12 a) 65 9 0) 65 10 0) 65 11 0) rfl ⟨?_, rfl⟩ ?_
                        · refine mz_go 3 (c' := (if a = 0 then 7 else 31, [some (.ref 65), some (.int (-1))], [], mz_up (mz_up (mz_up (mz_up (mz_up (mz_up (mz_up (mz_up (mz_up (mz_up (mz_i xs Ln) 53 2 2003) 53 3 0) 53 4 1) 54 2 0) 53 4 0) 8 1 0) 65 12 a) 65 9 0) 65 10 0) 65 11 0)) rfl ?_
                          refine mz_ifF h3 ?_
                          refine mz_go 4 (c' := (if a = 1 then 39 else 63, [some (.ref 65), some (.int (-1))], [], mz_up (mz_up (mz_up (mz_up (mz_up (mz_up (mz_up (mz_up (mz_up (mz_up (mz_i xs Ln) 53 2 2003) 53 3 0) 53 4 1) 54 2 0) 53 4 0) 8 1 0) 65 12 a) 65 9 0) 65 10 0) 65 11 0)) rfl ?_
                          refine mz_ifF h4 ?_
                          refine mz_go 16 (c' := (98, [some (.ref 65), some (.int (-1))], [.int 0], mz_up (mz_up (mz_up (mz_up (mz_up (mz_up (mz_up (mz_up (mz_up (mz_up (mz_i xs Ln) 53 2 2003) 53 3 0) 53 4 1) 54 2 0) 53 4 0) 8 1 0) 65 12 a) 65 9 0) 65 10 0) 65 11 0)) rfl ?_
                          exact mz_ret rfl
                        refine mz_go 4 (c' := (36, [some (.ref 65), some (.int (-1)), none, none], [.int 57, .int 48, .int (-1)], mz_up (mz_up (mz_up (mz_up (mz_up (mz_up (mz_up (mz_up (mz_up (mz_up (mz_i xs Ln) 53 2 2003) 53 3 0) 53 4 1) 54 2 0) 53 4 0) 8 1 0) 65 12 a) 65 9 0) 65 10 0) 65 11 0)) rfl ?_
                        refine mz_do (R := mz_r128) (as := [.int (-1), .int 48, .int 57]) (rest := []) (r1 := some (.int 0)) (m1 := mz_up (mz_up (mz_up (mz_up (mz_up (mz_up (mz_up (mz_up (mz_up (mz_up (mz_i xs Ln) 53 2 2003) 53 3 0) 53 4 1) 54 2 0) 53 4 0) 8 1 0) 65 12 a) 65 9 0) 65 10 0) 65 11 0) rfl ⟨?_, rfl⟩ ?_
                        · refine mz_go 4 (c' := (15, [some (.int (-1)), some (.int 48), some (.int 57)], [.int 0], mz_up (mz_up (mz_up (mz_up (mz_up (mz_up (mz_up (mz_up (mz_up (mz_up (mz_i xs Ln) 53 2 2003) 53 3 0) 53 4 1) 54 2 0) 53 4 0) 8 1 0) 65 12 a) 65 9 0) 65 10 0) 65 11 0)) rfl ?_
                          exact mz_ret rfl
                        refine mz_go 8 (c' := (172, [some (.ref 65), some (.int (-1)), none, none], [.int 0], mz_up (mz_up (mz_up (mz_up (mz_up (mz_up (mz_up (mz_up (mz_up (mz_up (mz_i xs Ln) 53 2 2003) 53 3 0) 53 4 1) 54 2 0) 53 4 0) 8 1 0) 65 12 a) 65 9 0) 65 10 0) 65 11 0)) rfl ?_
                        exact mz_ret rfl
                      refine mz_go 2 (c' := (8, [some (.ref 65), none], [.int 0], mz_up (mz_up (mz_up (mz_up (mz_up (mz_up (mz_up (mz_up (mz_up (mz_up (mz_i xs Ln) 53 2 2003) 53 3 0) 53 4 1) 54 2 0) 53 4 0) 8 1 0) 65 12 a) 65 9 0) 65 10 0) 65 11 0)) rfl ?_
                      exact mz_ret rfl
                    refine mz_go 2 (c' := (8, [some (.ref 65), none], [.int 0], mz_up (mz_up (mz_up (mz_up (mz_up (mz_up (mz_up (mz_up (mz_up (mz_up (mz_i xs Ln) 53 2 2003) 53 3 0) 53 4 1) 54 2 0) 53 4 0) 8 1 0) 65 12 a) 65 9 0) 65 10 0) 65 11 0)) rfl ?_
                    exact mz_ret rfl
                  refine mz_go 2 (c' := (8, [some (.ref 65), none], [.int 0], mz_up (mz_up (mz_up (mz_up (mz_up (mz_up (mz_up (mz_up (mz_up (mz_up (mz_i xs Ln) 53 2 2003) 53 3 0) 53 4 1) 54 2 0) 53 4 0) 8 1 0) 65 12 a) 65 9 0) 65 10 0) 65 11 0)) rfl ?_
                  exact mz_ret rfl
                refine mz_go 2 (c' := (8, [some (.ref 65)], [.int 0], mz_up (mz_up (mz_up (mz_up (mz_up (mz_up (mz_up (mz_up (mz_up (mz_up (mz_i xs Ln) 53 2 2003) 53 3 0) 53 4 1) 54 2 0) 53 4 0) 8 1 0) 65 12 a) 65 9 0) 65 10 0) 65 11 0)) rfl ?_
                exact mz_ret rfl
              refine mz_go 2 (c' := (8, [some (.ref 65)], [.int 0], mz_up (mz_up (mz_up (mz_up (mz_up (mz_up (mz_up (mz_up (mz_up (mz_up (mz_i xs Ln) 53 2 2003) 53 3 0) 53 4 1) 54 2 0) 53 4 0) 8 1 0) 65 12 a) 65 9 0) 65 10 0) 65 11 0)) rfl ?_
              exact mz_ret rfl
            refine mz_go 13 (c' := (78, [some (.ref 65), some (.int a), some (.int 0), none, none], [.int 0, .int (-10)], mz_up (mz_up (mz_up (mz_up (mz_up (mz_up (mz_up (mz_up (mz_up (mz_up (mz_up (mz_i xs Ln) 53 2 2003) 53 3 0) 53 4 1) 54 2 0) 53 4 0) 8 1 0) 65 12 a) 65 9 0) 65 10 0) 65 11 0) 66 1 0)) rfl ?_
            refine mz_go 1 (c' := (79, [some (.ref 65), some (.int a), some (.int 0), none, none], [.int (-10)], mz_up (mz_up (mz_up (mz_up (mz_up (mz_up (mz_up (mz_up (mz_up (mz_up (mz_up (mz_i xs Ln) 53 2 2003) 53 3 0) 53 4 1) 54 2 0) 53 4 0) 8 1 0) 65 12 a) 65 9 0) 65 10 0) 65 11 0) 66 1 0)) rfl ?_
            exact mz_ret rfl
set_option maxHeartbeats 4000000 in
set_option maxRecDepth 100000 in
theorem p1_untell (xs : Nat → Int32) (Ln : Nat) (a : Int32) : ∃ v m1 m2, mz_Me 100 mz_r76 [.ref 0, .int a] (mz_i xs Ln) (some (.int v)) m1 ∧ mz_Me 100 mz_r171 [.ref 65, .int a] m1 (some (.int v)) m2 := by
  by_cases h1 : a < 0
  · refine ⟨(-1000001), mz_up (mz_i xs Ln) 64 1 1, mz_up (mz_up (mz_i xs Ln) 64 1 1) 68 1 1, ⟨?_, rfl⟩, ⟨?_, rfl⟩⟩
    · refine mz_go 1 (c' := (1, [some (.ref 0), some (.int a), none, none], [.int a], (mz_i xs Ln))) rfl ?_
      refine mz_do (R := mz_r119) (as := [.int a]) (rest := []) (r1 := some (.int 0)) (m1 := (mz_i xs Ln)) rfl ⟨?_, rfl⟩ ?_
      · refine mz_go 3 (c' := (3, [some (.int a)], [.int 2, .int 0, .int a], (mz_i xs Ln))) rfl ?_
        refine mz_do (R := mz_r121) (as := [.int a, .int 0, .int 2]) (rest := []) (r1 := some (.int 0)) (m1 := (mz_i xs Ln)) rfl ⟨?_, rfl⟩ ?_
        · refine mz_go 3 (c' := (if a < 0 then 14 else 5, [some (.int a), some (.int 0), some (.int 2)], [], (mz_i xs Ln))) rfl ?_
          refine mz_ifT h1 ?_
          refine mz_go 1 (c' := (15, [some (.int a), some (.int 0), some (.int 2)], [.int 0], (mz_i xs Ln))) rfl ?_
          exact mz_ret rfl
        exact mz_ret rfl
      refine mz_go 3 (c' := (9, [some (.ref 0), some (.int a), none, none], [.int 1, .ref 0], (mz_i xs Ln))) rfl ?_
      refine mz_do (R := mz_r109) (as := [.ref 0, .int 1]) (rest := []) (r1 := some (.int (-1000001))) (m1 := mz_up (mz_i xs Ln) 64 1 1) rfl ⟨?_, rfl⟩ ?_
      · refine mz_go 3 (c' := (4, [some (.ref 0), some (.int 1)], [.int 6, .int 1, .int 1], (mz_i xs Ln))) rfl ?_
        refine mz_do (R := mz_r121) (as := [.int 1, .int 1, .int 6]) (rest := []) (r1 := some (.int 1)) (m1 := (mz_i xs Ln)) rfl ⟨?_, rfl⟩ ?_
        · refine mz_go 8 (c' := (15, [some (.int 1), some (.int 1), some (.int 6)], [.int 1], (mz_i xs Ln))) rfl ?_
          exact mz_ret rfl
        refine mz_go 12 (c' := (25, [some (.ref 0), some (.int 1)], [.int (-1000001)], mz_up (mz_i xs Ln) 64 1 1)) rfl ?_
        exact mz_ret rfl
      exact mz_ret rfl
    · refine mz_go 3 (c' := (3, [some (.ref 65), some (.int a), none], [.int 2, .int 0, .int a], mz_up (mz_i xs Ln) 64 1 1)) rfl ?_
      refine mz_do (R := mz_r128) (as := [.int a, .int 0, .int 2]) (rest := []) (r1 := some (.int 0)) (m1 := mz_up (mz_i xs Ln) 64 1 1) rfl ⟨?_, rfl⟩ ?_
      · refine mz_go 3 (c' := (if a < 0 then 14 else 5, [some (.int a), some (.int 0), some (.int 2)], [], mz_up (mz_i xs Ln) 64 1 1)) rfl ?_
        refine mz_ifT h1 ?_
        refine mz_go 1 (c' := (15, [some (.int a), some (.int 0), some (.int 2)], [.int 0], mz_up (mz_i xs Ln) 64 1 1)) rfl ?_
        exact mz_ret rfl
      refine mz_go 3 (c' := (11, [some (.ref 65), some (.int a), none], [.int 1, .ref 65], mz_up (mz_i xs Ln) 64 1 1)) rfl ?_
      refine mz_do (R := mz_r127) (as := [.ref 65, .int 1]) (rest := []) (r1 := some (.int (-1000001))) (m1 := mz_up (mz_up (mz_i xs Ln) 64 1 1) 68 1 1) rfl ⟨?_, rfl⟩ ?_
      · refine mz_go 11 (c' := (14, [some (.ref 65), some (.int 1)], [.int (-1000001)], mz_up (mz_up (mz_i xs Ln) 64 1 1) 68 1 1)) rfl ?_
        exact mz_ret rfl
      exact mz_ret rfl
  · by_cases h2 : 2 < a
    · refine ⟨(-1000001), mz_up (mz_i xs Ln) 64 1 1, mz_up (mz_up (mz_i xs Ln) 64 1 1) 68 1 1, ⟨?_, rfl⟩, ⟨?_, rfl⟩⟩
      · refine mz_go 1 (c' := (1, [some (.ref 0), some (.int a), none, none], [.int a], (mz_i xs Ln))) rfl ?_
        refine mz_do (R := mz_r119) (as := [.int a]) (rest := []) (r1 := some (.int 0)) (m1 := (mz_i xs Ln)) rfl ⟨?_, rfl⟩ ?_
        · refine mz_go 3 (c' := (3, [some (.int a)], [.int 2, .int 0, .int a], (mz_i xs Ln))) rfl ?_
          refine mz_do (R := mz_r121) (as := [.int a, .int 0, .int 2]) (rest := []) (r1 := some (.int 0)) (m1 := (mz_i xs Ln)) rfl ⟨?_, rfl⟩ ?_
          · refine mz_go 3 (c' := (if a < 0 then 14 else 5, [some (.int a), some (.int 0), some (.int 2)], [], (mz_i xs Ln))) rfl ?_
            refine mz_ifF h1 ?_
            refine mz_go 3 (c' := (if 2 < a then 14 else 10, [some (.int a), some (.int 0), some (.int 2)], [], (mz_i xs Ln))) rfl ?_
            refine mz_ifT h2 ?_
            refine mz_go 1 (c' := (15, [some (.int a), some (.int 0), some (.int 2)], [.int 0], (mz_i xs Ln))) rfl ?_
            exact mz_ret rfl
          exact mz_ret rfl
        refine mz_go 3 (c' := (9, [some (.ref 0), some (.int a), none, none], [.int 1, .ref 0], (mz_i xs Ln))) rfl ?_
        refine mz_do (R := mz_r109) (as := [.ref 0, .int 1]) (rest := []) (r1 := some (.int (-1000001))) (m1 := mz_up (mz_i xs Ln) 64 1 1) rfl ⟨?_, rfl⟩ ?_
        · refine mz_go 3 (c' := (4, [some (.ref 0), some (.int 1)], [.int 6, .int 1, .int 1], (mz_i xs Ln))) rfl ?_
          refine mz_do (R := mz_r121) (as := [.int 1, .int 1, .int 6]) (rest := []) (r1 := some (.int 1)) (m1 := (mz_i xs Ln)) rfl ⟨?_, rfl⟩ ?_
          · refine mz_go 8 (c' := (15, [some (.int 1), some (.int 1), some (.int 6)], [.int 1], (mz_i xs Ln))) rfl ?_
            exact mz_ret rfl
          refine mz_go 12 (c' := (25, [some (.ref 0), some (.int 1)], [.int (-1000001)], mz_up (mz_i xs Ln) 64 1 1)) rfl ?_
          exact mz_ret rfl
        exact mz_ret rfl
      · refine mz_go 3 (c' := (3, [some (.ref 65), some (.int a), none], [.int 2, .int 0, .int a], mz_up (mz_i xs Ln) 64 1 1)) rfl ?_
        refine mz_do (R := mz_r128) (as := [.int a, .int 0, .int 2]) (rest := []) (r1 := some (.int 0)) (m1 := mz_up (mz_i xs Ln) 64 1 1) rfl ⟨?_, rfl⟩ ?_
        · refine mz_go 3 (c' := (if a < 0 then 14 else 5, [some (.int a), some (.int 0), some (.int 2)], [], mz_up (mz_i xs Ln) 64 1 1)) rfl ?_
          refine mz_ifF h1 ?_
          refine mz_go 3 (c' := (if 2 < a then 14 else 10, [some (.int a), some (.int 0), some (.int 2)], [], mz_up (mz_i xs Ln) 64 1 1)) rfl ?_
          refine mz_ifT h2 ?_
          refine mz_go 1 (c' := (15, [some (.int a), some (.int 0), some (.int 2)], [.int 0], mz_up (mz_i xs Ln) 64 1 1)) rfl ?_
          exact mz_ret rfl
        refine mz_go 3 (c' := (11, [some (.ref 65), some (.int a), none], [.int 1, .ref 65], mz_up (mz_i xs Ln) 64 1 1)) rfl ?_
        refine mz_do (R := mz_r127) (as := [.ref 65, .int 1]) (rest := []) (r1 := some (.int (-1000001))) (m1 := mz_up (mz_up (mz_i xs Ln) 64 1 1) 68 1 1) rfl ⟨?_, rfl⟩ ?_
        · refine mz_go 11 (c' := (14, [some (.ref 65), some (.int 1)], [.int (-1000001)], mz_up (mz_up (mz_i xs Ln) 64 1 1) 68 1 1)) rfl ?_
          exact mz_ret rfl
        exact mz_ret rfl
    · by_cases h3 : a = 0
      · subst h3
        refine ⟨0, mz_up (mz_i xs Ln) 10 2 0, mz_up (mz_up (mz_i xs Ln) 10 2 0) 66 170 0, ⟨?_, rfl⟩, ⟨?_, rfl⟩⟩
        · refine mz_go 1 (c' := (1, [some (.ref 0), some (.int 0), none, none], [.int 0], (mz_i xs Ln))) rfl ?_
          refine mz_do (R := mz_r119) (as := [.int 0]) (rest := []) (r1 := some (.int 1)) (m1 := (mz_i xs Ln)) rfl ⟨?_, rfl⟩ ?_
          · refine mz_go 3 (c' := (3, [some (.int 0)], [.int 2, .int 0, .int 0], (mz_i xs Ln))) rfl ?_
            refine mz_do (R := mz_r121) (as := [.int 0, .int 0, .int 2]) (rest := []) (r1 := some (.int 1)) (m1 := (mz_i xs Ln)) rfl ⟨?_, rfl⟩ ?_
            · refine mz_go 8 (c' := (15, [some (.int 0), some (.int 0), some (.int 2)], [.int 1], (mz_i xs Ln))) rfl ?_
              exact mz_ret rfl
            exact mz_ret rfl
          refine mz_go 4 (c' := (18, [some (.ref 0), some (.int 0), none, none], [.int 0, .ref 1], (mz_i xs Ln))) rfl ?_
          refine mz_do (R := mz_r52) (as := [.ref 1, .int 0]) (rest := []) (r1 := some (.ref 10)) (m1 := (mz_i xs Ln)) rfl ⟨?_, rfl⟩ ?_
          · refine mz_go 5 (c' := (27, [some (.ref 1), some (.int 0)], [.ref 10], (mz_i xs Ln))) rfl ?_
            exact mz_ret rfl
          refine mz_go 10 (c' := (41, [some (.ref 0), some (.int 0), some (.ref 10), some (.int 0)], [.int 0], mz_up (mz_i xs Ln) 10 2 0)) rfl ?_
          exact mz_ret rfl
        · refine mz_go 3 (c' := (3, [some (.ref 65), some (.int 0), none], [.int 2, .int 0, .int 0], mz_up (mz_i xs Ln) 10 2 0)) rfl ?_
          refine mz_do (R := mz_r128) (as := [.int 0, .int 0, .int 2]) (rest := []) (r1 := some (.int 1)) (m1 := mz_up (mz_i xs Ln) 10 2 0) rfl ⟨?_, rfl⟩ ?_
          · refine mz_go 8 (c' := (15, [some (.int 0), some (.int 0), some (.int 2)], [.int 1], mz_up (mz_i xs Ln) 10 2 0)) rfl ?_
            exact mz_ret rfl
          refine mz_go 3 (c' := (17, [some (.ref 65), some (.int 0), none], [.int 0, .ref 65], mz_up (mz_i xs Ln) 10 2 0)) rfl ?_
          refine mz_do (R := mz_r169) (as := [.ref 65, .int 0]) (rest := []) (r1 := some (.int 0)) (m1 := mz_up (mz_i xs Ln) 10 2 0) rfl ⟨?_, rfl⟩ ?_
          · refine mz_go 10 (c' := (21, [some (.ref 65), some (.int 0)], [.int 0], mz_up (mz_i xs Ln) 10 2 0)) rfl ?_
            exact mz_ret rfl
          refine mz_go 13 (c' := (44, [some (.ref 65), some (.int 0), some (.int 0)], [.int 0], mz_up (mz_up (mz_i xs Ln) 10 2 0) 66 170 0)) rfl ?_
          exact mz_ret rfl
      · by_cases h4 : a = 1
        · subst h4
          refine ⟨0, mz_up (mz_i xs Ln) 13 2 0, mz_up (mz_up (mz_i xs Ln) 13 2 0) 66 295 0, ⟨?_, rfl⟩, ⟨?_, rfl⟩⟩
          · refine mz_go 1 (c' := (1, [some (.ref 0), some (.int 1), none, none], [.int 1], (mz_i xs Ln))) rfl ?_
            refine mz_do (R := mz_r119) (as := [.int 1]) (rest := []) (r1 := some (.int 1)) (m1 := (mz_i xs Ln)) rfl ⟨?_, rfl⟩ ?_
            · refine mz_go 3 (c' := (3, [some (.int 1)], [.int 2, .int 0, .int 1], (mz_i xs Ln))) rfl ?_
              refine mz_do (R := mz_r121) (as := [.int 1, .int 0, .int 2]) (rest := []) (r1 := some (.int 1)) (m1 := (mz_i xs Ln)) rfl ⟨?_, rfl⟩ ?_
              · refine mz_go 8 (c' := (15, [some (.int 1), some (.int 0), some (.int 2)], [.int 1], (mz_i xs Ln))) rfl ?_
                exact mz_ret rfl
              exact mz_ret rfl
            refine mz_go 4 (c' := (18, [some (.ref 0), some (.int 1), none, none], [.int 1, .ref 1], (mz_i xs Ln))) rfl ?_
            refine mz_do (R := mz_r52) (as := [.ref 1, .int 1]) (rest := []) (r1 := some (.ref 13)) (m1 := (mz_i xs Ln)) rfl ⟨?_, rfl⟩ ?_
            · refine mz_go 8 (c' := (27, [some (.ref 1), some (.int 1)], [.ref 13], (mz_i xs Ln))) rfl ?_
              exact mz_ret rfl
            refine mz_go 10 (c' := (41, [some (.ref 0), some (.int 1), some (.ref 13), some (.int 0)], [.int 0], mz_up (mz_i xs Ln) 13 2 0)) rfl ?_
            exact mz_ret rfl
          · refine mz_go 3 (c' := (3, [some (.ref 65), some (.int 1), none], [.int 2, .int 0, .int 1], mz_up (mz_i xs Ln) 13 2 0)) rfl ?_
            refine mz_do (R := mz_r128) (as := [.int 1, .int 0, .int 2]) (rest := []) (r1 := some (.int 1)) (m1 := mz_up (mz_i xs Ln) 13 2 0) rfl ⟨?_, rfl⟩ ?_
            · refine mz_go 8 (c' := (15, [some (.int 1), some (.int 0), some (.int 2)], [.int 1], mz_up (mz_i xs Ln) 13 2 0)) rfl ?_
              exact mz_ret rfl
            refine mz_go 3 (c' := (17, [some (.ref 65), some (.int 1), none], [.int 1, .ref 65], mz_up (mz_i xs Ln) 13 2 0)) rfl ?_
            refine mz_do (R := mz_r169) (as := [.ref 65, .int 1]) (rest := []) (r1 := some (.int 0)) (m1 := mz_up (mz_i xs Ln) 13 2 0) rfl ⟨?_, rfl⟩ ?_
            · refine mz_go 10 (c' := (21, [some (.ref 65), some (.int 1)], [.int 0], mz_up (mz_i xs Ln) 13 2 0)) rfl ?_
              exact mz_ret rfl
            refine mz_go 13 (c' := (44, [some (.ref 65), some (.int 1), some (.int 0)], [.int 0], mz_up (mz_up (mz_i xs Ln) 13 2 0) 66 295 0)) rfl ?_
            exact mz_ret rfl
        · have hl5 : (0 : Int) ≤ (a).toInt := Int32.le_iff_toInt_le.mp (Int32.not_lt.mp h1)
          have hu5 : (a).toInt ≤ (2 : Int) := Int32.le_iff_toInt_le.mp (Int32.not_lt.mp h2)
          obtain rfl | rfl | rfl : a = 0 ∨ a = 1 ∨ a = 2 := by
              rcases (show a.toInt = 0 ∨ a.toInt = 1 ∨ a.toInt = 2 by omega) with h | h | h
              · exact (Or.inl (Int32.toInt_inj.mp h))
              · exact (Or.inr (Or.inl (Int32.toInt_inj.mp h)))
              · exact (Or.inr (Or.inr (Int32.toInt_inj.mp h)))
          · refine ⟨0, mz_up (mz_i xs Ln) 10 2 0, mz_up (mz_up (mz_i xs Ln) 10 2 0) 66 170 0, ⟨?_, rfl⟩, ⟨?_, rfl⟩⟩
            · refine mz_go 1 (c' := (1, [some (.ref 0), some (.int 0), none, none], [.int 0], (mz_i xs Ln))) rfl ?_
              refine mz_do (R := mz_r119) (as := [.int 0]) (rest := []) (r1 := some (.int 1)) (m1 := (mz_i xs Ln)) rfl ⟨?_, rfl⟩ ?_
              · refine mz_go 3 (c' := (3, [some (.int 0)], [.int 2, .int 0, .int 0], (mz_i xs Ln))) rfl ?_
                refine mz_do (R := mz_r121) (as := [.int 0, .int 0, .int 2]) (rest := []) (r1 := some (.int 1)) (m1 := (mz_i xs Ln)) rfl ⟨?_, rfl⟩ ?_
                · refine mz_go 8 (c' := (15, [some (.int 0), some (.int 0), some (.int 2)], [.int 1], (mz_i xs Ln))) rfl ?_
                  exact mz_ret rfl
                exact mz_ret rfl
              refine mz_go 4 (c' := (18, [some (.ref 0), some (.int 0), none, none], [.int 0, .ref 1], (mz_i xs Ln))) rfl ?_
              refine mz_do (R := mz_r52) (as := [.ref 1, .int 0]) (rest := []) (r1 := some (.ref 10)) (m1 := (mz_i xs Ln)) rfl ⟨?_, rfl⟩ ?_
              · refine mz_go 5 (c' := (27, [some (.ref 1), some (.int 0)], [.ref 10], (mz_i xs Ln))) rfl ?_
                exact mz_ret rfl
              refine mz_go 10 (c' := (41, [some (.ref 0), some (.int 0), some (.ref 10), some (.int 0)], [.int 0], mz_up (mz_i xs Ln) 10 2 0)) rfl ?_
              exact mz_ret rfl
            · refine mz_go 3 (c' := (3, [some (.ref 65), some (.int 0), none], [.int 2, .int 0, .int 0], mz_up (mz_i xs Ln) 10 2 0)) rfl ?_
              refine mz_do (R := mz_r128) (as := [.int 0, .int 0, .int 2]) (rest := []) (r1 := some (.int 1)) (m1 := mz_up (mz_i xs Ln) 10 2 0) rfl ⟨?_, rfl⟩ ?_
              · refine mz_go 8 (c' := (15, [some (.int 0), some (.int 0), some (.int 2)], [.int 1], mz_up (mz_i xs Ln) 10 2 0)) rfl ?_
                exact mz_ret rfl
              refine mz_go 3 (c' := (17, [some (.ref 65), some (.int 0), none], [.int 0, .ref 65], mz_up (mz_i xs Ln) 10 2 0)) rfl ?_
              refine mz_do (R := mz_r169) (as := [.ref 65, .int 0]) (rest := []) (r1 := some (.int 0)) (m1 := mz_up (mz_i xs Ln) 10 2 0) rfl ⟨?_, rfl⟩ ?_
              · refine mz_go 10 (c' := (21, [some (.ref 65), some (.int 0)], [.int 0], mz_up (mz_i xs Ln) 10 2 0)) rfl ?_
                exact mz_ret rfl
              refine mz_go 13 (c' := (44, [some (.ref 65), some (.int 0), some (.int 0)], [.int 0], mz_up (mz_up (mz_i xs Ln) 10 2 0) 66 170 0)) rfl ?_
              exact mz_ret rfl
          · refine ⟨0, mz_up (mz_i xs Ln) 13 2 0, mz_up (mz_up (mz_i xs Ln) 13 2 0) 66 295 0, ⟨?_, rfl⟩, ⟨?_, rfl⟩⟩
            · refine mz_go 1 (c' := (1, [some (.ref 0), some (.int 1), none, none], [.int 1], (mz_i xs Ln))) rfl ?_
              refine mz_do (R := mz_r119) (as := [.int 1]) (rest := []) (r1 := some (.int 1)) (m1 := (mz_i xs Ln)) rfl ⟨?_, rfl⟩ ?_
              · refine mz_go 3 (c' := (3, [some (.int 1)], [.int 2, .int 0, .int 1], (mz_i xs Ln))) rfl ?_
                refine mz_do (R := mz_r121) (as := [.int 1, .int 0, .int 2]) (rest := []) (r1 := some (.int 1)) (m1 := (mz_i xs Ln)) rfl ⟨?_, rfl⟩ ?_
                · refine mz_go 8 (c' := (15, [some (.int 1), some (.int 0), some (.int 2)], [.int 1], (mz_i xs Ln))) rfl ?_
                  exact mz_ret rfl
                exact mz_ret rfl
              refine mz_go 4 (c' := (18, [some (.ref 0), some (.int 1), none, none], [.int 1, .ref 1], (mz_i xs Ln))) rfl ?_
              refine mz_do (R := mz_r52) (as := [.ref 1, .int 1]) (rest := []) (r1 := some (.ref 13)) (m1 := (mz_i xs Ln)) rfl ⟨?_, rfl⟩ ?_
              · refine mz_go 8 (c' := (27, [some (.ref 1), some (.int 1)], [.ref 13], (mz_i xs Ln))) rfl ?_
                exact mz_ret rfl
              refine mz_go 10 (c' := (41, [some (.ref 0), some (.int 1), some (.ref 13), some (.int 0)], [.int 0], mz_up (mz_i xs Ln) 13 2 0)) rfl ?_
              exact mz_ret rfl
            · refine mz_go 3 (c' := (3, [some (.ref 65), some (.int 1), none], [.int 2, .int 0, .int 1], mz_up (mz_i xs Ln) 13 2 0)) rfl ?_
              refine mz_do (R := mz_r128) (as := [.int 1, .int 0, .int 2]) (rest := []) (r1 := some (.int 1)) (m1 := mz_up (mz_i xs Ln) 13 2 0) rfl ⟨?_, rfl⟩ ?_
              · refine mz_go 8 (c' := (15, [some (.int 1), some (.int 0), some (.int 2)], [.int 1], mz_up (mz_i xs Ln) 13 2 0)) rfl ?_
                exact mz_ret rfl
              refine mz_go 3 (c' := (17, [some (.ref 65), some (.int 1), none], [.int 1, .ref 65], mz_up (mz_i xs Ln) 13 2 0)) rfl ?_
              refine mz_do (R := mz_r169) (as := [.ref 65, .int 1]) (rest := []) (r1 := some (.int 0)) (m1 := mz_up (mz_i xs Ln) 13 2 0) rfl ⟨?_, rfl⟩ ?_
              · refine mz_go 10 (c' := (21, [some (.ref 65), some (.int 1)], [.int 0], mz_up (mz_i xs Ln) 13 2 0)) rfl ?_
                exact mz_ret rfl
              refine mz_go 13 (c' := (44, [some (.ref 65), some (.int 1), some (.int 0)], [.int 0], mz_up (mz_up (mz_i xs Ln) 13 2 0) 66 295 0)) rfl ?_
              exact mz_ret rfl
          · refine ⟨0, mz_up (mz_i xs Ln) 16 2 0, mz_up (mz_up (mz_i xs Ln) 16 2 0) 66 420 0, ⟨?_, rfl⟩, ⟨?_, rfl⟩⟩
            · refine mz_go 1 (c' := (1, [some (.ref 0), some (.int 2), none, none], [.int 2], (mz_i xs Ln))) rfl ?_
              refine mz_do (R := mz_r119) (as := [.int 2]) (rest := []) (r1 := some (.int 1)) (m1 := (mz_i xs Ln)) rfl ⟨?_, rfl⟩ ?_
              · refine mz_go 3 (c' := (3, [some (.int 2)], [.int 2, .int 0, .int 2], (mz_i xs Ln))) rfl ?_
                refine mz_do (R := mz_r121) (as := [.int 2, .int 0, .int 2]) (rest := []) (r1 := some (.int 1)) (m1 := (mz_i xs Ln)) rfl ⟨?_, rfl⟩ ?_
                · refine mz_go 8 (c' := (15, [some (.int 2), some (.int 0), some (.int 2)], [.int 1], (mz_i xs Ln))) rfl ?_
                  exact mz_ret rfl
                exact mz_ret rfl
              refine mz_go 4 (c' := (18, [some (.ref 0), some (.int 2), none, none], [.int 2, .ref 1], (mz_i xs Ln))) rfl ?_
              refine mz_do (R := mz_r52) (as := [.ref 1, .int 2]) (rest := []) (r1 := some (.ref 16)) (m1 := (mz_i xs Ln)) rfl ⟨?_, rfl⟩ ?_
              · refine mz_go 7 (c' := (27, [some (.ref 1), some (.int 2)], [.ref 16], (mz_i xs Ln))) rfl ?_
                exact mz_ret rfl
              refine mz_go 10 (c' := (41, [some (.ref 0), some (.int 2), some (.ref 16), some (.int 0)], [.int 0], mz_up (mz_i xs Ln) 16 2 0)) rfl ?_
              exact mz_ret rfl
            · refine mz_go 3 (c' := (3, [some (.ref 65), some (.int 2), none], [.int 2, .int 0, .int 2], mz_up (mz_i xs Ln) 16 2 0)) rfl ?_
              refine mz_do (R := mz_r128) (as := [.int 2, .int 0, .int 2]) (rest := []) (r1 := some (.int 1)) (m1 := mz_up (mz_i xs Ln) 16 2 0) rfl ⟨?_, rfl⟩ ?_
              · refine mz_go 8 (c' := (15, [some (.int 2), some (.int 0), some (.int 2)], [.int 1], mz_up (mz_i xs Ln) 16 2 0)) rfl ?_
                exact mz_ret rfl
              refine mz_go 3 (c' := (17, [some (.ref 65), some (.int 2), none], [.int 2, .ref 65], mz_up (mz_i xs Ln) 16 2 0)) rfl ?_
              refine mz_do (R := mz_r169) (as := [.ref 65, .int 2]) (rest := []) (r1 := some (.int 0)) (m1 := mz_up (mz_i xs Ln) 16 2 0) rfl ⟨?_, rfl⟩ ?_
              · refine mz_go 10 (c' := (21, [some (.ref 65), some (.int 2)], [.int 0], mz_up (mz_i xs Ln) 16 2 0)) rfl ?_
                exact mz_ret rfl
              refine mz_go 13 (c' := (44, [some (.ref 65), some (.int 2), some (.int 0)], [.int 0], mz_up (mz_up (mz_i xs Ln) 16 2 0) 66 420 0)) rfl ?_
              exact mz_ret rfl
set_option maxHeartbeats 4000000 in
set_option maxRecDepth 100000 in
theorem p1_let (xs : Nat → Int32) (Ln : Nat) (a : Int32) (b : Int32) : ∃ v m1 m2, mz_Me 100 mz_r77 [.ref 0, .int a, .int b] (mz_i xs Ln) (some (.int v)) m1 ∧ mz_Me 100 mz_r174 [.ref 65, .int a, .int b] m1 (some (.int v)) m2 := by
  by_cases h1 : a < (-100)
  · refine ⟨(-1000001), mz_up (mz_i xs Ln) 64 1 1, mz_up (mz_up (mz_i xs Ln) 64 1 1) 68 1 1, ⟨?_, rfl⟩, ⟨?_, rfl⟩⟩
    · refine mz_go 2 (c' := (2, [some (.ref 0), some (.int a), some (.int b)], [.int b, .int a], (mz_i xs Ln))) rfl ?_
      refine mz_do (R := mz_r116) (as := [.int a, .int b]) (rest := []) (r1 := some (.int 0)) (m1 := (mz_i xs Ln)) rfl ⟨?_, rfl⟩ ?_
      · refine mz_go 3 (c' := (5, [some (.int a), some (.int b)], [.int 100, .int (-100), .int a], (mz_i xs Ln))) rfl ?_
        refine mz_do (R := mz_r121) (as := [.int a, .int (-100), .int 100]) (rest := []) (r1 := some (.int 0)) (m1 := (mz_i xs Ln)) rfl ⟨?_, rfl⟩ ?_
        · refine mz_go 3 (c' := (if a < (-100) then 14 else 5, [some (.int a), some (.int (-100)), some (.int 100)], [], (mz_i xs Ln))) rfl ?_
          refine mz_ifT h1 ?_
          refine mz_go 1 (c' := (15, [some (.int a), some (.int (-100)), some (.int 100)], [.int 0], (mz_i xs Ln))) rfl ?_
          exact mz_ret rfl
        refine mz_go 2 (c' := (27, [some (.int a), some (.int b)], [.int 0], (mz_i xs Ln))) rfl ?_
        exact mz_ret rfl
      refine mz_go 3 (c' := (10, [some (.ref 0), some (.int a), some (.int b)], [.int 1, .ref 0], (mz_i xs Ln))) rfl ?_
      refine mz_do (R := mz_r109) (as := [.ref 0, .int 1]) (rest := []) (r1 := some (.int (-1000001))) (m1 := mz_up (mz_i xs Ln) 64 1 1) rfl ⟨?_, rfl⟩ ?_
      · refine mz_go 3 (c' := (4, [some (.ref 0), some (.int 1)], [.int 6, .int 1, .int 1], (mz_i xs Ln))) rfl ?_
        refine mz_do (R := mz_r121) (as := [.int 1, .int 1, .int 6]) (rest := []) (r1 := some (.int 1)) (m1 := (mz_i xs Ln)) rfl ⟨?_, rfl⟩ ?_
        · refine mz_go 8 (c' := (15, [some (.int 1), some (.int 1), some (.int 6)], [.int 1], (mz_i xs Ln))) rfl ?_
          exact mz_ret rfl
        refine mz_go 12 (c' := (25, [some (.ref 0), some (.int 1)], [.int (-1000001)], mz_up (mz_i xs Ln) 64 1 1)) rfl ?_
        exact mz_ret rfl
      exact mz_ret rfl
    · refine mz_go 2 (c' := (2, [some (.ref 65), some (.int a), some (.int b)], [.int b, .int a], mz_up (mz_i xs Ln) 64 1 1)) rfl ?_
      refine mz_do (R := mz_r131) (as := [.int a, .int b]) (rest := []) (r1 := some (.int 0)) (m1 := mz_up (mz_i xs Ln) 64 1 1) rfl ⟨?_, rfl⟩ ?_
      · refine mz_go 3 (c' := (5, [some (.int a), some (.int b)], [.int 100, .int (-100), .int a], mz_up (mz_i xs Ln) 64 1 1)) rfl ?_
        refine mz_do (R := mz_r128) (as := [.int a, .int (-100), .int 100]) (rest := []) (r1 := some (.int 0)) (m1 := mz_up (mz_i xs Ln) 64 1 1) rfl ⟨?_, rfl⟩ ?_
        · refine mz_go 3 (c' := (if a < (-100) then 14 else 5, [some (.int a), some (.int (-100)), some (.int 100)], [], mz_up (mz_i xs Ln) 64 1 1)) rfl ?_
          refine mz_ifT h1 ?_
          refine mz_go 1 (c' := (15, [some (.int a), some (.int (-100)), some (.int 100)], [.int 0], mz_up (mz_i xs Ln) 64 1 1)) rfl ?_
          exact mz_ret rfl
        refine mz_go 2 (c' := (27, [some (.int a), some (.int b)], [.int 0], mz_up (mz_i xs Ln) 64 1 1)) rfl ?_
        exact mz_ret rfl
      refine mz_go 3 (c' := (10, [some (.ref 65), some (.int a), some (.int b)], [.int 1, .ref 65], mz_up (mz_i xs Ln) 64 1 1)) rfl ?_
      refine mz_do (R := mz_r127) (as := [.ref 65, .int 1]) (rest := []) (r1 := some (.int (-1000001))) (m1 := mz_up (mz_up (mz_i xs Ln) 64 1 1) 68 1 1) rfl ⟨?_, rfl⟩ ?_
      · refine mz_go 11 (c' := (14, [some (.ref 65), some (.int 1)], [.int (-1000001)], mz_up (mz_up (mz_i xs Ln) 64 1 1) 68 1 1)) rfl ?_
        exact mz_ret rfl
      exact mz_ret rfl
  · by_cases h2 : 100 < a
    · refine ⟨(-1000001), mz_up (mz_i xs Ln) 64 1 1, mz_up (mz_up (mz_i xs Ln) 64 1 1) 68 1 1, ⟨?_, rfl⟩, ⟨?_, rfl⟩⟩
      · refine mz_go 2 (c' := (2, [some (.ref 0), some (.int a), some (.int b)], [.int b, .int a], (mz_i xs Ln))) rfl ?_
        refine mz_do (R := mz_r116) (as := [.int a, .int b]) (rest := []) (r1 := some (.int 0)) (m1 := (mz_i xs Ln)) rfl ⟨?_, rfl⟩ ?_
        · refine mz_go 3 (c' := (5, [some (.int a), some (.int b)], [.int 100, .int (-100), .int a], (mz_i xs Ln))) rfl ?_
          refine mz_do (R := mz_r121) (as := [.int a, .int (-100), .int 100]) (rest := []) (r1 := some (.int 0)) (m1 := (mz_i xs Ln)) rfl ⟨?_, rfl⟩ ?_
          · refine mz_go 3 (c' := (if a < (-100) then 14 else 5, [some (.int a), some (.int (-100)), some (.int 100)], [], (mz_i xs Ln))) rfl ?_
            refine mz_ifF h1 ?_
            refine mz_go 3 (c' := (if 100 < a then 14 else 10, [some (.int a), some (.int (-100)), some (.int 100)], [], (mz_i xs Ln))) rfl ?_
            refine mz_ifT h2 ?_
            refine mz_go 1 (c' := (15, [some (.int a), some (.int (-100)), some (.int 100)], [.int 0], (mz_i xs Ln))) rfl ?_
            exact mz_ret rfl
          refine mz_go 2 (c' := (27, [some (.int a), some (.int b)], [.int 0], (mz_i xs Ln))) rfl ?_
          exact mz_ret rfl
        refine mz_go 3 (c' := (10, [some (.ref 0), some (.int a), some (.int b)], [.int 1, .ref 0], (mz_i xs Ln))) rfl ?_
        refine mz_do (R := mz_r109) (as := [.ref 0, .int 1]) (rest := []) (r1 := some (.int (-1000001))) (m1 := mz_up (mz_i xs Ln) 64 1 1) rfl ⟨?_, rfl⟩ ?_
        · refine mz_go 3 (c' := (4, [some (.ref 0), some (.int 1)], [.int 6, .int 1, .int 1], (mz_i xs Ln))) rfl ?_
          refine mz_do (R := mz_r121) (as := [.int 1, .int 1, .int 6]) (rest := []) (r1 := some (.int 1)) (m1 := (mz_i xs Ln)) rfl ⟨?_, rfl⟩ ?_
          · refine mz_go 8 (c' := (15, [some (.int 1), some (.int 1), some (.int 6)], [.int 1], (mz_i xs Ln))) rfl ?_
            exact mz_ret rfl
          refine mz_go 12 (c' := (25, [some (.ref 0), some (.int 1)], [.int (-1000001)], mz_up (mz_i xs Ln) 64 1 1)) rfl ?_
          exact mz_ret rfl
        exact mz_ret rfl
      · refine mz_go 2 (c' := (2, [some (.ref 65), some (.int a), some (.int b)], [.int b, .int a], mz_up (mz_i xs Ln) 64 1 1)) rfl ?_
        refine mz_do (R := mz_r131) (as := [.int a, .int b]) (rest := []) (r1 := some (.int 0)) (m1 := mz_up (mz_i xs Ln) 64 1 1) rfl ⟨?_, rfl⟩ ?_
        · refine mz_go 3 (c' := (5, [some (.int a), some (.int b)], [.int 100, .int (-100), .int a], mz_up (mz_i xs Ln) 64 1 1)) rfl ?_
          refine mz_do (R := mz_r128) (as := [.int a, .int (-100), .int 100]) (rest := []) (r1 := some (.int 0)) (m1 := mz_up (mz_i xs Ln) 64 1 1) rfl ⟨?_, rfl⟩ ?_
          · refine mz_go 3 (c' := (if a < (-100) then 14 else 5, [some (.int a), some (.int (-100)), some (.int 100)], [], mz_up (mz_i xs Ln) 64 1 1)) rfl ?_
            refine mz_ifF h1 ?_
            refine mz_go 3 (c' := (if 100 < a then 14 else 10, [some (.int a), some (.int (-100)), some (.int 100)], [], mz_up (mz_i xs Ln) 64 1 1)) rfl ?_
            refine mz_ifT h2 ?_
            refine mz_go 1 (c' := (15, [some (.int a), some (.int (-100)), some (.int 100)], [.int 0], mz_up (mz_i xs Ln) 64 1 1)) rfl ?_
            exact mz_ret rfl
          refine mz_go 2 (c' := (27, [some (.int a), some (.int b)], [.int 0], mz_up (mz_i xs Ln) 64 1 1)) rfl ?_
          exact mz_ret rfl
        refine mz_go 3 (c' := (10, [some (.ref 65), some (.int a), some (.int b)], [.int 1, .ref 65], mz_up (mz_i xs Ln) 64 1 1)) rfl ?_
        refine mz_do (R := mz_r127) (as := [.ref 65, .int 1]) (rest := []) (r1 := some (.int (-1000001))) (m1 := mz_up (mz_up (mz_i xs Ln) 64 1 1) 68 1 1) rfl ⟨?_, rfl⟩ ?_
        · refine mz_go 11 (c' := (14, [some (.ref 65), some (.int 1)], [.int (-1000001)], mz_up (mz_up (mz_i xs Ln) 64 1 1) 68 1 1)) rfl ?_
          exact mz_ret rfl
        exact mz_ret rfl
    · by_cases h3 : b < (-100)
      · refine ⟨(-1000001), mz_up (mz_i xs Ln) 64 1 1, mz_up (mz_up (mz_i xs Ln) 64 1 1) 68 1 1, ⟨?_, rfl⟩, ⟨?_, rfl⟩⟩
        · refine mz_go 2 (c' := (2, [some (.ref 0), some (.int a), some (.int b)], [.int b, .int a], (mz_i xs Ln))) rfl ?_
          refine mz_do (R := mz_r116) (as := [.int a, .int b]) (rest := []) (r1 := some (.int 0)) (m1 := (mz_i xs Ln)) rfl ⟨?_, rfl⟩ ?_
          · refine mz_go 3 (c' := (5, [some (.int a), some (.int b)], [.int 100, .int (-100), .int a], (mz_i xs Ln))) rfl ?_
            refine mz_do (R := mz_r121) (as := [.int a, .int (-100), .int 100]) (rest := []) (r1 := some (.int 1)) (m1 := (mz_i xs Ln)) rfl ⟨?_, rfl⟩ ?_
            · refine mz_go 3 (c' := (if a < (-100) then 14 else 5, [some (.int a), some (.int (-100)), some (.int 100)], [], (mz_i xs Ln))) rfl ?_
              refine mz_ifF h1 ?_
              refine mz_go 3 (c' := (if 100 < a then 14 else 10, [some (.int a), some (.int (-100)), some (.int 100)], [], (mz_i xs Ln))) rfl ?_
              refine mz_ifF h2 ?_
              refine mz_go 2 (c' := (15, [some (.int a), some (.int (-100)), some (.int 100)], [.int 1], (mz_i xs Ln))) rfl ?_
              exact mz_ret rfl
            refine mz_go 4 (c' := (16, [some (.int a), some (.int b)], [.int 100, .int (-100), .int b], (mz_i xs Ln))) rfl ?_
            refine mz_do (R := mz_r121) (as := [.int b, .int (-100), .int 100]) (rest := []) (r1 := some (.int 0)) (m1 := (mz_i xs Ln)) rfl ⟨?_, rfl⟩ ?_
            · refine mz_go 3 (c' := (if b < (-100) then 14 else 5, [some (.int b), some (.int (-100)), some (.int 100)], [], (mz_i xs Ln))) rfl ?_
              refine mz_ifT h3 ?_
              refine mz_go 1 (c' := (15, [some (.int b), some (.int (-100)), some (.int 100)], [.int 0], (mz_i xs Ln))) rfl ?_
              exact mz_ret rfl
            refine mz_go 2 (c' := (27, [some (.int a), some (.int b)], [.int 0], (mz_i xs Ln))) rfl ?_
            exact mz_ret rfl
          refine mz_go 3 (c' := (10, [some (.ref 0), some (.int a), some (.int b)], [.int 1, .ref 0], (mz_i xs Ln))) rfl ?_
          refine mz_do (R := mz_r109) (as := [.ref 0, .int 1]) (rest := []) (r1 := some (.int (-1000001))) (m1 := mz_up (mz_i xs Ln) 64 1 1) rfl ⟨?_, rfl⟩ ?_
          · refine mz_go 3 (c' := (4, [some (.ref 0), some (.int 1)], [.int 6, .int 1, .int 1], (mz_i xs Ln))) rfl ?_
            refine mz_do (R := mz_r121) (as := [.int 1, .int 1, .int 6]) (rest := []) (r1 := some (.int 1)) (m1 := (mz_i xs Ln)) rfl ⟨?_, rfl⟩ ?_
            · refine mz_go 8 (c' := (15, [some (.int 1), some (.int 1), some (.int 6)], [.int 1], (mz_i xs Ln))) rfl ?_
              exact mz_ret rfl
            refine mz_go 12 (c' := (25, [some (.ref 0), some (.int 1)], [.int (-1000001)], mz_up (mz_i xs Ln) 64 1 1)) rfl ?_
            exact mz_ret rfl
          exact mz_ret rfl
        · refine mz_go 2 (c' := (2, [some (.ref 65), some (.int a), some (.int b)], [.int b, .int a], mz_up (mz_i xs Ln) 64 1 1)) rfl ?_
          refine mz_do (R := mz_r131) (as := [.int a, .int b]) (rest := []) (r1 := some (.int 0)) (m1 := mz_up (mz_i xs Ln) 64 1 1) rfl ⟨?_, rfl⟩ ?_
          · refine mz_go 3 (c' := (5, [some (.int a), some (.int b)], [.int 100, .int (-100), .int a], mz_up (mz_i xs Ln) 64 1 1)) rfl ?_
            refine mz_do (R := mz_r128) (as := [.int a, .int (-100), .int 100]) (rest := []) (r1 := some (.int 1)) (m1 := mz_up (mz_i xs Ln) 64 1 1) rfl ⟨?_, rfl⟩ ?_
            · refine mz_go 3 (c' := (if a < (-100) then 14 else 5, [some (.int a), some (.int (-100)), some (.int 100)], [], mz_up (mz_i xs Ln) 64 1 1)) rfl ?_
              refine mz_ifF h1 ?_
              refine mz_go 3 (c' := (if 100 < a then 14 else 10, [some (.int a), some (.int (-100)), some (.int 100)], [], mz_up (mz_i xs Ln) 64 1 1)) rfl ?_
              refine mz_ifF h2 ?_
              refine mz_go 2 (c' := (15, [some (.int a), some (.int (-100)), some (.int 100)], [.int 1], mz_up (mz_i xs Ln) 64 1 1)) rfl ?_
              exact mz_ret rfl
            refine mz_go 4 (c' := (16, [some (.int a), some (.int b)], [.int 100, .int (-100), .int b], mz_up (mz_i xs Ln) 64 1 1)) rfl ?_
            refine mz_do (R := mz_r128) (as := [.int b, .int (-100), .int 100]) (rest := []) (r1 := some (.int 0)) (m1 := mz_up (mz_i xs Ln) 64 1 1) rfl ⟨?_, rfl⟩ ?_
            · refine mz_go 3 (c' := (if b < (-100) then 14 else 5, [some (.int b), some (.int (-100)), some (.int 100)], [], mz_up (mz_i xs Ln) 64 1 1)) rfl ?_
              refine mz_ifT h3 ?_
              refine mz_go 1 (c' := (15, [some (.int b), some (.int (-100)), some (.int 100)], [.int 0], mz_up (mz_i xs Ln) 64 1 1)) rfl ?_
              exact mz_ret rfl
            refine mz_go 2 (c' := (27, [some (.int a), some (.int b)], [.int 0], mz_up (mz_i xs Ln) 64 1 1)) rfl ?_
            exact mz_ret rfl
          refine mz_go 3 (c' := (10, [some (.ref 65), some (.int a), some (.int b)], [.int 1, .ref 65], mz_up (mz_i xs Ln) 64 1 1)) rfl ?_
          refine mz_do (R := mz_r127) (as := [.ref 65, .int 1]) (rest := []) (r1 := some (.int (-1000001))) (m1 := mz_up (mz_up (mz_i xs Ln) 64 1 1) 68 1 1) rfl ⟨?_, rfl⟩ ?_
          · refine mz_go 11 (c' := (14, [some (.ref 65), some (.int 1)], [.int (-1000001)], mz_up (mz_up (mz_i xs Ln) 64 1 1) 68 1 1)) rfl ?_
            exact mz_ret rfl
          exact mz_ret rfl
      · by_cases h4 : 100 < b
        · refine ⟨(-1000001), mz_up (mz_i xs Ln) 64 1 1, mz_up (mz_up (mz_i xs Ln) 64 1 1) 68 1 1, ⟨?_, rfl⟩, ⟨?_, rfl⟩⟩
          · refine mz_go 2 (c' := (2, [some (.ref 0), some (.int a), some (.int b)], [.int b, .int a], (mz_i xs Ln))) rfl ?_
            refine mz_do (R := mz_r116) (as := [.int a, .int b]) (rest := []) (r1 := some (.int 0)) (m1 := (mz_i xs Ln)) rfl ⟨?_, rfl⟩ ?_
            · refine mz_go 3 (c' := (5, [some (.int a), some (.int b)], [.int 100, .int (-100), .int a], (mz_i xs Ln))) rfl ?_
              refine mz_do (R := mz_r121) (as := [.int a, .int (-100), .int 100]) (rest := []) (r1 := some (.int 1)) (m1 := (mz_i xs Ln)) rfl ⟨?_, rfl⟩ ?_
              · refine mz_go 3 (c' := (if a < (-100) then 14 else 5, [some (.int a), some (.int (-100)), some (.int 100)], [], (mz_i xs Ln))) rfl ?_
                refine mz_ifF h1 ?_
                refine mz_go 3 (c' := (if 100 < a then 14 else 10, [some (.int a), some (.int (-100)), some (.int 100)], [], (mz_i xs Ln))) rfl ?_
                refine mz_ifF h2 ?_
                refine mz_go 2 (c' := (15, [some (.int a), some (.int (-100)), some (.int 100)], [.int 1], (mz_i xs Ln))) rfl ?_
                exact mz_ret rfl
              refine mz_go 4 (c' := (16, [some (.int a), some (.int b)], [.int 100, .int (-100), .int b], (mz_i xs Ln))) rfl ?_
              refine mz_do (R := mz_r121) (as := [.int b, .int (-100), .int 100]) (rest := []) (r1 := some (.int 0)) (m1 := (mz_i xs Ln)) rfl ⟨?_, rfl⟩ ?_
              · refine mz_go 3 (c' := (if b < (-100) then 14 else 5, [some (.int b), some (.int (-100)), some (.int 100)], [], (mz_i xs Ln))) rfl ?_
                refine mz_ifF h3 ?_
                refine mz_go 3 (c' := (if 100 < b then 14 else 10, [some (.int b), some (.int (-100)), some (.int 100)], [], (mz_i xs Ln))) rfl ?_
                refine mz_ifT h4 ?_
                refine mz_go 1 (c' := (15, [some (.int b), some (.int (-100)), some (.int 100)], [.int 0], (mz_i xs Ln))) rfl ?_
                exact mz_ret rfl
              refine mz_go 2 (c' := (27, [some (.int a), some (.int b)], [.int 0], (mz_i xs Ln))) rfl ?_
              exact mz_ret rfl
            refine mz_go 3 (c' := (10, [some (.ref 0), some (.int a), some (.int b)], [.int 1, .ref 0], (mz_i xs Ln))) rfl ?_
            refine mz_do (R := mz_r109) (as := [.ref 0, .int 1]) (rest := []) (r1 := some (.int (-1000001))) (m1 := mz_up (mz_i xs Ln) 64 1 1) rfl ⟨?_, rfl⟩ ?_
            · refine mz_go 3 (c' := (4, [some (.ref 0), some (.int 1)], [.int 6, .int 1, .int 1], (mz_i xs Ln))) rfl ?_
              refine mz_do (R := mz_r121) (as := [.int 1, .int 1, .int 6]) (rest := []) (r1 := some (.int 1)) (m1 := (mz_i xs Ln)) rfl ⟨?_, rfl⟩ ?_
              · refine mz_go 8 (c' := (15, [some (.int 1), some (.int 1), some (.int 6)], [.int 1], (mz_i xs Ln))) rfl ?_
                exact mz_ret rfl
              refine mz_go 12 (c' := (25, [some (.ref 0), some (.int 1)], [.int (-1000001)], mz_up (mz_i xs Ln) 64 1 1)) rfl ?_
              exact mz_ret rfl
            exact mz_ret rfl
          · refine mz_go 2 (c' := (2, [some (.ref 65), some (.int a), some (.int b)], [.int b, .int a], mz_up (mz_i xs Ln) 64 1 1)) rfl ?_
            refine mz_do (R := mz_r131) (as := [.int a, .int b]) (rest := []) (r1 := some (.int 0)) (m1 := mz_up (mz_i xs Ln) 64 1 1) rfl ⟨?_, rfl⟩ ?_
            · refine mz_go 3 (c' := (5, [some (.int a), some (.int b)], [.int 100, .int (-100), .int a], mz_up (mz_i xs Ln) 64 1 1)) rfl ?_
              refine mz_do (R := mz_r128) (as := [.int a, .int (-100), .int 100]) (rest := []) (r1 := some (.int 1)) (m1 := mz_up (mz_i xs Ln) 64 1 1) rfl ⟨?_, rfl⟩ ?_
              · refine mz_go 3 (c' := (if a < (-100) then 14 else 5, [some (.int a), some (.int (-100)), some (.int 100)], [], mz_up (mz_i xs Ln) 64 1 1)) rfl ?_
                refine mz_ifF h1 ?_
                refine mz_go 3 (c' := (if 100 < a then 14 else 10, [some (.int a), some (.int (-100)), some (.int 100)], [], mz_up (mz_i xs Ln) 64 1 1)) rfl ?_
                refine mz_ifF h2 ?_
                refine mz_go 2 (c' := (15, [some (.int a), some (.int (-100)), some (.int 100)], [.int 1], mz_up (mz_i xs Ln) 64 1 1)) rfl ?_
                exact mz_ret rfl
              refine mz_go 4 (c' := (16, [some (.int a), some (.int b)], [.int 100, .int (-100), .int b], mz_up (mz_i xs Ln) 64 1 1)) rfl ?_
              refine mz_do (R := mz_r128) (as := [.int b, .int (-100), .int 100]) (rest := []) (r1 := some (.int 0)) (m1 := mz_up (mz_i xs Ln) 64 1 1) rfl ⟨?_, rfl⟩ ?_
              · refine mz_go 3 (c' := (if b < (-100) then 14 else 5, [some (.int b), some (.int (-100)), some (.int 100)], [], mz_up (mz_i xs Ln) 64 1 1)) rfl ?_
                refine mz_ifF h3 ?_
                refine mz_go 3 (c' := (if 100 < b then 14 else 10, [some (.int b), some (.int (-100)), some (.int 100)], [], mz_up (mz_i xs Ln) 64 1 1)) rfl ?_
                refine mz_ifT h4 ?_
                refine mz_go 1 (c' := (15, [some (.int b), some (.int (-100)), some (.int 100)], [.int 0], mz_up (mz_i xs Ln) 64 1 1)) rfl ?_
                exact mz_ret rfl
              refine mz_go 2 (c' := (27, [some (.int a), some (.int b)], [.int 0], mz_up (mz_i xs Ln) 64 1 1)) rfl ?_
              exact mz_ret rfl
            refine mz_go 3 (c' := (10, [some (.ref 65), some (.int a), some (.int b)], [.int 1, .ref 65], mz_up (mz_i xs Ln) 64 1 1)) rfl ?_
            refine mz_do (R := mz_r127) (as := [.ref 65, .int 1]) (rest := []) (r1 := some (.int (-1000001))) (m1 := mz_up (mz_up (mz_i xs Ln) 64 1 1) 68 1 1) rfl ⟨?_, rfl⟩ ?_
            · refine mz_go 11 (c' := (14, [some (.ref 65), some (.int 1)], [.int (-1000001)], mz_up (mz_up (mz_i xs Ln) 64 1 1) 68 1 1)) rfl ?_
              exact mz_ret rfl
            exact mz_ret rfl
        · refine ⟨1, mz_up (mz_up (mz_up (mz_up (mz_up (mz_i xs Ln) 19 0 (a * 16)) 19 1 (b * 16)) 19 2 0) 19 3 0) 19 4 0, mz_up (mz_up (mz_up (mz_up (mz_up (mz_up (mz_up (mz_up (mz_up (mz_up (mz_up (mz_up (mz_up (mz_up (mz_up (mz_i xs Ln) 19 0 (a * 16)) 19 1 (b * 16)) 19 2 0) 19 3 0) 19 4 0) 65 4 (16 * a)) 65 5 (16 * b)) 65 6 0) 65 7 0) 65 8 0) 66 20 (16 * a)) 66 21 (16 * b)) 66 22 0) 66 23 0) 66 24 0, ⟨?_, rfl⟩, ⟨?_, rfl⟩⟩
          · refine mz_go 2 (c' := (2, [some (.ref 0), some (.int a), some (.int b)], [.int b, .int a], (mz_i xs Ln))) rfl ?_
            refine mz_do (R := mz_r116) (as := [.int a, .int b]) (rest := []) (r1 := some (.int 1)) (m1 := (mz_i xs Ln)) rfl ⟨?_, rfl⟩ ?_
            · refine mz_go 3 (c' := (5, [some (.int a), some (.int b)], [.int 100, .int (-100), .int a], (mz_i xs Ln))) rfl ?_
              refine mz_do (R := mz_r121) (as := [.int a, .int (-100), .int 100]) (rest := []) (r1 := some (.int 1)) (m1 := (mz_i xs Ln)) rfl ⟨?_, rfl⟩ ?_
              · refine mz_go 3 (c' := (if a < (-100) then 14 else 5, [some (.int a), some (.int (-100)), some (.int 100)], [], (mz_i xs Ln))) rfl ?_
                refine mz_ifF h1 ?_
                refine mz_go 3 (c' := (if 100 < a then 14 else 10, [some (.int a), some (.int (-100)), some (.int 100)], [], (mz_i xs Ln))) rfl ?_
                refine mz_ifF h2 ?_
                refine mz_go 2 (c' := (15, [some (.int a), some (.int (-100)), some (.int 100)], [.int 1], (mz_i xs Ln))) rfl ?_
                exact mz_ret rfl
              refine mz_go 4 (c' := (16, [some (.int a), some (.int b)], [.int 100, .int (-100), .int b], (mz_i xs Ln))) rfl ?_
              refine mz_do (R := mz_r121) (as := [.int b, .int (-100), .int 100]) (rest := []) (r1 := some (.int 1)) (m1 := (mz_i xs Ln)) rfl ⟨?_, rfl⟩ ?_
              · refine mz_go 3 (c' := (if b < (-100) then 14 else 5, [some (.int b), some (.int (-100)), some (.int 100)], [], (mz_i xs Ln))) rfl ?_
                refine mz_ifF h3 ?_
                refine mz_go 3 (c' := (if 100 < b then 14 else 10, [some (.int b), some (.int (-100)), some (.int 100)], [], (mz_i xs Ln))) rfl ?_
                refine mz_ifF h4 ?_
                refine mz_go 2 (c' := (15, [some (.int b), some (.int (-100)), some (.int 100)], [.int 1], (mz_i xs Ln))) rfl ?_
                exact mz_ret rfl
              refine mz_go 3 (c' := (27, [some (.int a), some (.int b)], [.int 1], (mz_i xs Ln))) rfl ?_
              exact mz_ret rfl
            refine mz_go 8 (c' := (25, [some (.ref 0), some (.int a), some (.int b)], [.int 0, .int 0, .int b, .int a, .ref 19], (mz_i xs Ln))) rfl ?_
            refine mz_do (R := mz_r0) (as := [.ref 19, .int a, .int b, .int 0, .int 0]) (rest := []) (r1 := none) (m1 := mz_up (mz_up (mz_up (mz_up (mz_up (mz_i xs Ln) 19 0 (a * 16)) 19 1 (b * 16)) 19 2 0) 19 3 0) 19 4 0) rfl ⟨?_, rfl⟩ ?_
            · refine mz_go 19 (c' := (32, [some (.ref 19), some (.int a), some (.int b), some (.int 0), some (.int 0)], [], mz_up (mz_up (mz_up (mz_up (mz_up (mz_i xs Ln) 19 0 (a * 16)) 19 1 (b * 16)) 19 2 0) 19 3 0) 19 4 0)) rfl ?_
              exact mz_ret rfl
            refine mz_go 1 (c' := (29, [some (.ref 0), some (.int a), some (.int b)], [.int 1], mz_up (mz_up (mz_up (mz_up (mz_up (mz_i xs Ln) 19 0 (a * 16)) 19 1 (b * 16)) 19 2 0) 19 3 0) 19 4 0)) rfl ?_
            exact mz_ret rfl
          · refine mz_go 2 (c' := (2, [some (.ref 65), some (.int a), some (.int b)], [.int b, .int a], mz_up (mz_up (mz_up (mz_up (mz_up (mz_i xs Ln) 19 0 (a * 16)) 19 1 (b * 16)) 19 2 0) 19 3 0) 19 4 0)) rfl ?_
            refine mz_do (R := mz_r131) (as := [.int a, .int b]) (rest := []) (r1 := some (.int 1)) (m1 := mz_up (mz_up (mz_up (mz_up (mz_up (mz_i xs Ln) 19 0 (a * 16)) 19 1 (b * 16)) 19 2 0) 19 3 0) 19 4 0) rfl ⟨?_, rfl⟩ ?_
            · refine mz_go 3 (c' := (5, [some (.int a), some (.int b)], [.int 100, .int (-100), .int a], mz_up (mz_up (mz_up (mz_up (mz_up (mz_i xs Ln) 19 0 (a * 16)) 19 1 (b * 16)) 19 2 0) 19 3 0) 19 4 0)) rfl ?_
              refine mz_do (R := mz_r128) (as := [.int a, .int (-100), .int 100]) (rest := []) (r1 := some (.int 1)) (m1 := mz_up (mz_up (mz_up (mz_up (mz_up (mz_i xs Ln) 19 0 (a * 16)) 19 1 (b * 16)) 19 2 0) 19 3 0) 19 4 0) rfl ⟨?_, rfl⟩ ?_
              · refine mz_go 3 (c' := (if a < (-100) then 14 else 5, [some (.int a), some (.int (-100)), some (.int 100)], [], mz_up (mz_up (mz_up (mz_up (mz_up (mz_i xs Ln) 19 0 (a * 16)) 19 1 (b * 16)) 19 2 0) 19 3 0) 19 4 0)) rfl ?_
                refine mz_ifF h1 ?_
                refine mz_go 3 (c' := (if 100 < a then 14 else 10, [some (.int a), some (.int (-100)), some (.int 100)], [], mz_up (mz_up (mz_up (mz_up (mz_up (mz_i xs Ln) 19 0 (a * 16)) 19 1 (b * 16)) 19 2 0) 19 3 0) 19 4 0)) rfl ?_
                refine mz_ifF h2 ?_
                refine mz_go 2 (c' := (15, [some (.int a), some (.int (-100)), some (.int 100)], [.int 1], mz_up (mz_up (mz_up (mz_up (mz_up (mz_i xs Ln) 19 0 (a * 16)) 19 1 (b * 16)) 19 2 0) 19 3 0) 19 4 0)) rfl ?_
                exact mz_ret rfl
              refine mz_go 4 (c' := (16, [some (.int a), some (.int b)], [.int 100, .int (-100), .int b], mz_up (mz_up (mz_up (mz_up (mz_up (mz_i xs Ln) 19 0 (a * 16)) 19 1 (b * 16)) 19 2 0) 19 3 0) 19 4 0)) rfl ?_
              refine mz_do (R := mz_r128) (as := [.int b, .int (-100), .int 100]) (rest := []) (r1 := some (.int 1)) (m1 := mz_up (mz_up (mz_up (mz_up (mz_up (mz_i xs Ln) 19 0 (a * 16)) 19 1 (b * 16)) 19 2 0) 19 3 0) 19 4 0) rfl ⟨?_, rfl⟩ ?_
              · refine mz_go 3 (c' := (if b < (-100) then 14 else 5, [some (.int b), some (.int (-100)), some (.int 100)], [], mz_up (mz_up (mz_up (mz_up (mz_up (mz_i xs Ln) 19 0 (a * 16)) 19 1 (b * 16)) 19 2 0) 19 3 0) 19 4 0)) rfl ?_
                refine mz_ifF h3 ?_
                refine mz_go 3 (c' := (if 100 < b then 14 else 10, [some (.int b), some (.int (-100)), some (.int 100)], [], mz_up (mz_up (mz_up (mz_up (mz_up (mz_i xs Ln) 19 0 (a * 16)) 19 1 (b * 16)) 19 2 0) 19 3 0) 19 4 0)) rfl ?_
                refine mz_ifF h4 ?_
                refine mz_go 2 (c' := (15, [some (.int b), some (.int (-100)), some (.int 100)], [.int 1], mz_up (mz_up (mz_up (mz_up (mz_up (mz_i xs Ln) 19 0 (a * 16)) 19 1 (b * 16)) 19 2 0) 19 3 0) 19 4 0)) rfl ?_
                exact mz_ret rfl
              refine mz_go 3 (c' := (27, [some (.int a), some (.int b)], [.int 1], mz_up (mz_up (mz_up (mz_up (mz_up (mz_i xs Ln) 19 0 (a * 16)) 19 1 (b * 16)) 19 2 0) 19 3 0) 19 4 0)) rfl ?_
              exact mz_ret rfl
            refine mz_go 6 (c' := (19, [some (.ref 65), some (.int a), some (.int b)], [.int 0, .int 0, .int b, .int a, .ref 65], mz_up (mz_up (mz_up (mz_up (mz_up (mz_i xs Ln) 19 0 (a * 16)) 19 1 (b * 16)) 19 2 0) 19 3 0) 19 4 0)) rfl ?_
            refine mz_do (R := mz_r144) (as := [.ref 65, .int a, .int b, .int 0, .int 0]) (rest := []) (r1 := none) (m1 := mz_up (mz_up (mz_up (mz_up (mz_up (mz_up (mz_up (mz_up (mz_up (mz_up (mz_i xs Ln) 19 0 (a * 16)) 19 1 (b * 16)) 19 2 0) 19 3 0) 19 4 0) 65 4 (16 * a)) 65 5 (16 * b)) 65 6 0) 65 7 0) 65 8 0) rfl ⟨?_, rfl⟩ ?_
            · refine mz_go 19 (c' := (32, [some (.ref 65), some (.int a), some (.int b), some (.int 0), some (.int 0)], [], mz_up (mz_up (mz_up (mz_up (mz_up (mz_up (mz_up (mz_up (mz_up (mz_up (mz_i xs Ln) 19 0 (a * 16)) 19 1 (b * 16)) 19 2 0) 19 3 0) 19 4 0) 65 4 (16 * a)) 65 5 (16 * b)) 65 6 0) 65 7 0) 65 8 0)) rfl ?_
              exact mz_ret rfl
            refine mz_go 1 (c' := (23, [some (.ref 65), some (.int a), some (.int b)], [.ref 65], mz_up (mz_up (mz_up (mz_up (mz_up (mz_up (mz_up (mz_up (mz_up (mz_up (mz_i xs Ln) 19 0 (a * 16)) 19 1 (b * 16)) 19 2 0) 19 3 0) 19 4 0) 65 4 (16 * a)) 65 5 (16 * b)) 65 6 0) 65 7 0) 65 8 0)) rfl ?_
            refine mz_do (R := mz_r146) (as := [.ref 65]) (rest := []) (r1 := none) (m1 := mz_up (mz_up (mz_up (mz_up (mz_up (mz_up (mz_up (mz_up (mz_up (mz_up (mz_up (mz_up (mz_up (mz_up (mz_up (mz_i xs Ln) 19 0 (a * 16)) 19 1 (b * 16)) 19 2 0) 19 3 0) 19 4 0) 65 4 (16 * a)) 65 5 (16 * b)) 65 6 0) 65 7 0) 65 8 0) 66 20 (16 * a)) 66 21 (16 * b)) 66 22 0) 66 23 0) 66 24 0) rfl ⟨?_, rfl⟩ ?_
            · refine mz_go 24 (c' := (44, [some (.ref 65)], [], mz_up (mz_up (mz_up (mz_up (mz_up (mz_up (mz_up (mz_up (mz_up (mz_up (mz_up (mz_up (mz_up (mz_up (mz_i xs Ln) 19 0 (a * 16)) 19 1 (b * 16)) 19 2 0) 19 3 0) 19 4 0) 65 4 (16 * a)) 65 5 (16 * b)) 65 6 0) 65 7 0) 65 8 0) 66 20 (16 * a)) 66 21 (16 * b)) 66 22 0) 66 23 0)) rfl ?_
              refine mz_go 6 (c' := (55, [some (.ref 65)], [], mz_up (mz_up (mz_up (mz_up (mz_up (mz_up (mz_up (mz_up (mz_up (mz_up (mz_up (mz_up (mz_up (mz_up (mz_up (mz_i xs Ln) 19 0 (a * 16)) 19 1 (b * 16)) 19 2 0) 19 3 0) 19 4 0) 65 4 (16 * a)) 65 5 (16 * b)) 65 6 0) 65 7 0) 65 8 0) 66 20 (16 * a)) 66 21 (16 * b)) 66 22 0) 66 23 0) 66 24 0)) rfl ?_
              exact mz_ret rfl
            refine mz_go 1 (c' := (27, [some (.ref 65), some (.int a), some (.int b)], [.int 1], mz_up (mz_up (mz_up (mz_up (mz_up (mz_up (mz_up (mz_up (mz_up (mz_up (mz_up (mz_up (mz_up (mz_up (mz_up (mz_i xs Ln) 19 0 (a * 16)) 19 1 (b * 16)) 19 2 0) 19 3 0) 19 4 0) 65 4 (16 * a)) 65 5 (16 * b)) 65 6 0) 65 7 0) 65 8 0) 66 20 (16 * a)) 66 21 (16 * b)) 66 22 0) 66 23 0) 66 24 0)) rfl ?_
            exact mz_ret rfl
set_option maxHeartbeats 4000000 in
set_option maxRecDepth 100000 in
theorem p1_push (xs : Nat → Int32) (Ln : Nat) (a : Int32) (b : Int32) : ∃ v m1 m2, mz_Me 100 mz_r78 [.ref 0, .int a, .int b] (mz_i xs Ln) (some (.int v)) m1 ∧ mz_Me 100 mz_r176 [.ref 65, .int a, .int b] m1 (some (.int v)) m2 := by
  by_cases h1 : a < (-9999)
  · refine ⟨(-1000001), mz_up (mz_i xs Ln) 64 1 1, mz_up (mz_up (mz_i xs Ln) 64 1 1) 68 1 1, ⟨?_, rfl⟩, ⟨?_, rfl⟩⟩
    · refine mz_go 1 (c' := (1, [some (.ref 0), some (.int a), some (.int b)], [.int a], (mz_i xs Ln))) rfl ?_
      refine mz_do (R := mz_r117) (as := [.int a]) (rest := []) (r1 := some (.int 0)) (m1 := (mz_i xs Ln)) rfl ⟨?_, rfl⟩ ?_
      · refine mz_go 3 (c' := (7, [some (.int a)], [.int 9999, .int (-9999), .int a], (mz_i xs Ln))) rfl ?_
        refine mz_do (R := mz_r121) (as := [.int a, .int (-9999), .int 9999]) (rest := []) (r1 := some (.int 0)) (m1 := (mz_i xs Ln)) rfl ⟨?_, rfl⟩ ?_
        · refine mz_go 3 (c' := (if a < (-9999) then 14 else 5, [some (.int a), some (.int (-9999)), some (.int 9999)], [], (mz_i xs Ln))) rfl ?_
          refine mz_ifT h1 ?_
          refine mz_go 1 (c' := (15, [some (.int a), some (.int (-9999)), some (.int 9999)], [.int 0], (mz_i xs Ln))) rfl ?_
          exact mz_ret rfl
        exact mz_ret rfl
      refine mz_go 3 (c' := (16, [some (.ref 0), some (.int a), some (.int b)], [.int 1, .ref 0], (mz_i xs Ln))) rfl ?_
      refine mz_do (R := mz_r109) (as := [.ref 0, .int 1]) (rest := []) (r1 := some (.int (-1000001))) (m1 := mz_up (mz_i xs Ln) 64 1 1) rfl ⟨?_, rfl⟩ ?_
      · refine mz_go 3 (c' := (4, [some (.ref 0), some (.int 1)], [.int 6, .int 1, .int 1], (mz_i xs Ln))) rfl ?_
        refine mz_do (R := mz_r121) (as := [.int 1, .int 1, .int 6]) (rest := []) (r1 := some (.int 1)) (m1 := (mz_i xs Ln)) rfl ⟨?_, rfl⟩ ?_
        · refine mz_go 8 (c' := (15, [some (.int 1), some (.int 1), some (.int 6)], [.int 1], (mz_i xs Ln))) rfl ?_
          exact mz_ret rfl
        refine mz_go 12 (c' := (25, [some (.ref 0), some (.int 1)], [.int (-1000001)], mz_up (mz_i xs Ln) 64 1 1)) rfl ?_
        exact mz_ret rfl
      exact mz_ret rfl
    · refine mz_go 2 (c' := (2, [some (.ref 65), some (.int a), some (.int b)], [.int b, .int a], mz_up (mz_i xs Ln) 64 1 1)) rfl ?_
      refine mz_do (R := mz_r175) (as := [.int a, .int b]) (rest := []) (r1 := some (.int 0)) (m1 := mz_up (mz_i xs Ln) 64 1 1) rfl ⟨?_, rfl⟩ ?_
      · refine mz_go 3 (c' := (7, [some (.int a), some (.int b)], [.int 9999, .int (-9999), .int a], mz_up (mz_i xs Ln) 64 1 1)) rfl ?_
        refine mz_do (R := mz_r128) (as := [.int a, .int (-9999), .int 9999]) (rest := []) (r1 := some (.int 0)) (m1 := mz_up (mz_i xs Ln) 64 1 1) rfl ⟨?_, rfl⟩ ?_
        · refine mz_go 3 (c' := (if a < (-9999) then 14 else 5, [some (.int a), some (.int (-9999)), some (.int 9999)], [], mz_up (mz_i xs Ln) 64 1 1)) rfl ?_
          refine mz_ifT h1 ?_
          refine mz_go 1 (c' := (15, [some (.int a), some (.int (-9999)), some (.int 9999)], [.int 0], mz_up (mz_i xs Ln) 64 1 1)) rfl ?_
          exact mz_ret rfl
        refine mz_go 2 (c' := (31, [some (.int a), some (.int b)], [.int 0], mz_up (mz_i xs Ln) 64 1 1)) rfl ?_
        exact mz_ret rfl
      refine mz_go 3 (c' := (10, [some (.ref 65), some (.int a), some (.int b)], [.int 1, .ref 65], mz_up (mz_i xs Ln) 64 1 1)) rfl ?_
      refine mz_do (R := mz_r127) (as := [.ref 65, .int 1]) (rest := []) (r1 := some (.int (-1000001))) (m1 := mz_up (mz_up (mz_i xs Ln) 64 1 1) 68 1 1) rfl ⟨?_, rfl⟩ ?_
      · refine mz_go 11 (c' := (14, [some (.ref 65), some (.int 1)], [.int (-1000001)], mz_up (mz_up (mz_i xs Ln) 64 1 1) 68 1 1)) rfl ?_
        exact mz_ret rfl
      exact mz_ret rfl
  · by_cases h2 : 9999 < a
    · refine ⟨(-1000001), mz_up (mz_i xs Ln) 64 1 1, mz_up (mz_up (mz_i xs Ln) 64 1 1) 68 1 1, ⟨?_, rfl⟩, ⟨?_, rfl⟩⟩
      · refine mz_go 1 (c' := (1, [some (.ref 0), some (.int a), some (.int b)], [.int a], (mz_i xs Ln))) rfl ?_
        refine mz_do (R := mz_r117) (as := [.int a]) (rest := []) (r1 := some (.int 0)) (m1 := (mz_i xs Ln)) rfl ⟨?_, rfl⟩ ?_
        · refine mz_go 3 (c' := (7, [some (.int a)], [.int 9999, .int (-9999), .int a], (mz_i xs Ln))) rfl ?_
          refine mz_do (R := mz_r121) (as := [.int a, .int (-9999), .int 9999]) (rest := []) (r1 := some (.int 0)) (m1 := (mz_i xs Ln)) rfl ⟨?_, rfl⟩ ?_
          · refine mz_go 3 (c' := (if a < (-9999) then 14 else 5, [some (.int a), some (.int (-9999)), some (.int 9999)], [], (mz_i xs Ln))) rfl ?_
            refine mz_ifF h1 ?_
            refine mz_go 3 (c' := (if 9999 < a then 14 else 10, [some (.int a), some (.int (-9999)), some (.int 9999)], [], (mz_i xs Ln))) rfl ?_
            refine mz_ifT h2 ?_
            refine mz_go 1 (c' := (15, [some (.int a), some (.int (-9999)), some (.int 9999)], [.int 0], (mz_i xs Ln))) rfl ?_
            exact mz_ret rfl
          exact mz_ret rfl
        refine mz_go 3 (c' := (16, [some (.ref 0), some (.int a), some (.int b)], [.int 1, .ref 0], (mz_i xs Ln))) rfl ?_
        refine mz_do (R := mz_r109) (as := [.ref 0, .int 1]) (rest := []) (r1 := some (.int (-1000001))) (m1 := mz_up (mz_i xs Ln) 64 1 1) rfl ⟨?_, rfl⟩ ?_
        · refine mz_go 3 (c' := (4, [some (.ref 0), some (.int 1)], [.int 6, .int 1, .int 1], (mz_i xs Ln))) rfl ?_
          refine mz_do (R := mz_r121) (as := [.int 1, .int 1, .int 6]) (rest := []) (r1 := some (.int 1)) (m1 := (mz_i xs Ln)) rfl ⟨?_, rfl⟩ ?_
          · refine mz_go 8 (c' := (15, [some (.int 1), some (.int 1), some (.int 6)], [.int 1], (mz_i xs Ln))) rfl ?_
            exact mz_ret rfl
          refine mz_go 12 (c' := (25, [some (.ref 0), some (.int 1)], [.int (-1000001)], mz_up (mz_i xs Ln) 64 1 1)) rfl ?_
          exact mz_ret rfl
        exact mz_ret rfl
      · refine mz_go 2 (c' := (2, [some (.ref 65), some (.int a), some (.int b)], [.int b, .int a], mz_up (mz_i xs Ln) 64 1 1)) rfl ?_
        refine mz_do (R := mz_r175) (as := [.int a, .int b]) (rest := []) (r1 := some (.int 0)) (m1 := mz_up (mz_i xs Ln) 64 1 1) rfl ⟨?_, rfl⟩ ?_
        · refine mz_go 3 (c' := (7, [some (.int a), some (.int b)], [.int 9999, .int (-9999), .int a], mz_up (mz_i xs Ln) 64 1 1)) rfl ?_
          refine mz_do (R := mz_r128) (as := [.int a, .int (-9999), .int 9999]) (rest := []) (r1 := some (.int 0)) (m1 := mz_up (mz_i xs Ln) 64 1 1) rfl ⟨?_, rfl⟩ ?_
          · refine mz_go 3 (c' := (if a < (-9999) then 14 else 5, [some (.int a), some (.int (-9999)), some (.int 9999)], [], mz_up (mz_i xs Ln) 64 1 1)) rfl ?_
            refine mz_ifF h1 ?_
            refine mz_go 3 (c' := (if 9999 < a then 14 else 10, [some (.int a), some (.int (-9999)), some (.int 9999)], [], mz_up (mz_i xs Ln) 64 1 1)) rfl ?_
            refine mz_ifT h2 ?_
            refine mz_go 1 (c' := (15, [some (.int a), some (.int (-9999)), some (.int 9999)], [.int 0], mz_up (mz_i xs Ln) 64 1 1)) rfl ?_
            exact mz_ret rfl
          refine mz_go 2 (c' := (31, [some (.int a), some (.int b)], [.int 0], mz_up (mz_i xs Ln) 64 1 1)) rfl ?_
          exact mz_ret rfl
        refine mz_go 3 (c' := (10, [some (.ref 65), some (.int a), some (.int b)], [.int 1, .ref 65], mz_up (mz_i xs Ln) 64 1 1)) rfl ?_
        refine mz_do (R := mz_r127) (as := [.ref 65, .int 1]) (rest := []) (r1 := some (.int (-1000001))) (m1 := mz_up (mz_up (mz_i xs Ln) 64 1 1) 68 1 1) rfl ⟨?_, rfl⟩ ?_
        · refine mz_go 11 (c' := (14, [some (.ref 65), some (.int 1)], [.int (-1000001)], mz_up (mz_up (mz_i xs Ln) 64 1 1) 68 1 1)) rfl ?_
          exact mz_ret rfl
        exact mz_ret rfl
    · by_cases h3 : b < (-9999)
      · refine ⟨(-1000001), mz_up (mz_i xs Ln) 64 1 1, mz_up (mz_up (mz_i xs Ln) 64 1 1) 68 1 1, ⟨?_, rfl⟩, ⟨?_, rfl⟩⟩
        · refine mz_go 1 (c' := (1, [some (.ref 0), some (.int a), some (.int b)], [.int a], (mz_i xs Ln))) rfl ?_
          refine mz_do (R := mz_r117) (as := [.int a]) (rest := []) (r1 := some (.int 1)) (m1 := (mz_i xs Ln)) rfl ⟨?_, rfl⟩ ?_
          · refine mz_go 3 (c' := (7, [some (.int a)], [.int 9999, .int (-9999), .int a], (mz_i xs Ln))) rfl ?_
            refine mz_do (R := mz_r121) (as := [.int a, .int (-9999), .int 9999]) (rest := []) (r1 := some (.int 1)) (m1 := (mz_i xs Ln)) rfl ⟨?_, rfl⟩ ?_
            · refine mz_go 3 (c' := (if a < (-9999) then 14 else 5, [some (.int a), some (.int (-9999)), some (.int 9999)], [], (mz_i xs Ln))) rfl ?_
              refine mz_ifF h1 ?_
              refine mz_go 3 (c' := (if 9999 < a then 14 else 10, [some (.int a), some (.int (-9999)), some (.int 9999)], [], (mz_i xs Ln))) rfl ?_
              refine mz_ifF h2 ?_
              refine mz_go 2 (c' := (15, [some (.int a), some (.int (-9999)), some (.int 9999)], [.int 1], (mz_i xs Ln))) rfl ?_
              exact mz_ret rfl
            exact mz_ret rfl
          refine mz_go 2 (c' := (8, [some (.ref 0), some (.int a), some (.int b)], [.int b], (mz_i xs Ln))) rfl ?_
          refine mz_do (R := mz_r117) (as := [.int b]) (rest := []) (r1 := some (.int 0)) (m1 := (mz_i xs Ln)) rfl ⟨?_, rfl⟩ ?_
          · refine mz_go 3 (c' := (7, [some (.int b)], [.int 9999, .int (-9999), .int b], (mz_i xs Ln))) rfl ?_
            refine mz_do (R := mz_r121) (as := [.int b, .int (-9999), .int 9999]) (rest := []) (r1 := some (.int 0)) (m1 := (mz_i xs Ln)) rfl ⟨?_, rfl⟩ ?_
            · refine mz_go 3 (c' := (if b < (-9999) then 14 else 5, [some (.int b), some (.int (-9999)), some (.int 9999)], [], (mz_i xs Ln))) rfl ?_
              refine mz_ifT h3 ?_
              refine mz_go 1 (c' := (15, [some (.int b), some (.int (-9999)), some (.int 9999)], [.int 0], (mz_i xs Ln))) rfl ?_
              exact mz_ret rfl
            exact mz_ret rfl
          refine mz_go 3 (c' := (16, [some (.ref 0), some (.int a), some (.int b)], [.int 1, .ref 0], (mz_i xs Ln))) rfl ?_
          refine mz_do (R := mz_r109) (as := [.ref 0, .int 1]) (rest := []) (r1 := some (.int (-1000001))) (m1 := mz_up (mz_i xs Ln) 64 1 1) rfl ⟨?_, rfl⟩ ?_
          · refine mz_go 3 (c' := (4, [some (.ref 0), some (.int 1)], [.int 6, .int 1, .int 1], (mz_i xs Ln))) rfl ?_
            refine mz_do (R := mz_r121) (as := [.int 1, .int 1, .int 6]) (rest := []) (r1 := some (.int 1)) (m1 := (mz_i xs Ln)) rfl ⟨?_, rfl⟩ ?_
            · refine mz_go 8 (c' := (15, [some (.int 1), some (.int 1), some (.int 6)], [.int 1], (mz_i xs Ln))) rfl ?_
              exact mz_ret rfl
            refine mz_go 12 (c' := (25, [some (.ref 0), some (.int 1)], [.int (-1000001)], mz_up (mz_i xs Ln) 64 1 1)) rfl ?_
            exact mz_ret rfl
          exact mz_ret rfl
        · refine mz_go 2 (c' := (2, [some (.ref 65), some (.int a), some (.int b)], [.int b, .int a], mz_up (mz_i xs Ln) 64 1 1)) rfl ?_
          refine mz_do (R := mz_r175) (as := [.int a, .int b]) (rest := []) (r1 := some (.int 0)) (m1 := mz_up (mz_i xs Ln) 64 1 1) rfl ⟨?_, rfl⟩ ?_
          · refine mz_go 3 (c' := (7, [some (.int a), some (.int b)], [.int 9999, .int (-9999), .int a], mz_up (mz_i xs Ln) 64 1 1)) rfl ?_
            refine mz_do (R := mz_r128) (as := [.int a, .int (-9999), .int 9999]) (rest := []) (r1 := some (.int 1)) (m1 := mz_up (mz_i xs Ln) 64 1 1) rfl ⟨?_, rfl⟩ ?_
            · refine mz_go 3 (c' := (if a < (-9999) then 14 else 5, [some (.int a), some (.int (-9999)), some (.int 9999)], [], mz_up (mz_i xs Ln) 64 1 1)) rfl ?_
              refine mz_ifF h1 ?_
              refine mz_go 3 (c' := (if 9999 < a then 14 else 10, [some (.int a), some (.int (-9999)), some (.int 9999)], [], mz_up (mz_i xs Ln) 64 1 1)) rfl ?_
              refine mz_ifF h2 ?_
              refine mz_go 2 (c' := (15, [some (.int a), some (.int (-9999)), some (.int 9999)], [.int 1], mz_up (mz_i xs Ln) 64 1 1)) rfl ?_
              exact mz_ret rfl
            refine mz_go 4 (c' := (20, [some (.int a), some (.int b)], [.int 9999, .int (-9999), .int b], mz_up (mz_i xs Ln) 64 1 1)) rfl ?_
            refine mz_do (R := mz_r128) (as := [.int b, .int (-9999), .int 9999]) (rest := []) (r1 := some (.int 0)) (m1 := mz_up (mz_i xs Ln) 64 1 1) rfl ⟨?_, rfl⟩ ?_
            · refine mz_go 3 (c' := (if b < (-9999) then 14 else 5, [some (.int b), some (.int (-9999)), some (.int 9999)], [], mz_up (mz_i xs Ln) 64 1 1)) rfl ?_
              refine mz_ifT h3 ?_
              refine mz_go 1 (c' := (15, [some (.int b), some (.int (-9999)), some (.int 9999)], [.int 0], mz_up (mz_i xs Ln) 64 1 1)) rfl ?_
              exact mz_ret rfl
            refine mz_go 2 (c' := (31, [some (.int a), some (.int b)], [.int 0], mz_up (mz_i xs Ln) 64 1 1)) rfl ?_
            exact mz_ret rfl
          refine mz_go 3 (c' := (10, [some (.ref 65), some (.int a), some (.int b)], [.int 1, .ref 65], mz_up (mz_i xs Ln) 64 1 1)) rfl ?_
          refine mz_do (R := mz_r127) (as := [.ref 65, .int 1]) (rest := []) (r1 := some (.int (-1000001))) (m1 := mz_up (mz_up (mz_i xs Ln) 64 1 1) 68 1 1) rfl ⟨?_, rfl⟩ ?_
          · refine mz_go 11 (c' := (14, [some (.ref 65), some (.int 1)], [.int (-1000001)], mz_up (mz_up (mz_i xs Ln) 64 1 1) 68 1 1)) rfl ?_
            exact mz_ret rfl
          exact mz_ret rfl
      · by_cases h4 : 9999 < b
        · refine ⟨(-1000001), mz_up (mz_i xs Ln) 64 1 1, mz_up (mz_up (mz_i xs Ln) 64 1 1) 68 1 1, ⟨?_, rfl⟩, ⟨?_, rfl⟩⟩
          · refine mz_go 1 (c' := (1, [some (.ref 0), some (.int a), some (.int b)], [.int a], (mz_i xs Ln))) rfl ?_
            refine mz_do (R := mz_r117) (as := [.int a]) (rest := []) (r1 := some (.int 1)) (m1 := (mz_i xs Ln)) rfl ⟨?_, rfl⟩ ?_
            · refine mz_go 3 (c' := (7, [some (.int a)], [.int 9999, .int (-9999), .int a], (mz_i xs Ln))) rfl ?_
              refine mz_do (R := mz_r121) (as := [.int a, .int (-9999), .int 9999]) (rest := []) (r1 := some (.int 1)) (m1 := (mz_i xs Ln)) rfl ⟨?_, rfl⟩ ?_
              · refine mz_go 3 (c' := (if a < (-9999) then 14 else 5, [some (.int a), some (.int (-9999)), some (.int 9999)], [], (mz_i xs Ln))) rfl ?_
                refine mz_ifF h1 ?_
                refine mz_go 3 (c' := (if 9999 < a then 14 else 10, [some (.int a), some (.int (-9999)), some (.int 9999)], [], (mz_i xs Ln))) rfl ?_
                refine mz_ifF h2 ?_
                refine mz_go 2 (c' := (15, [some (.int a), some (.int (-9999)), some (.int 9999)], [.int 1], (mz_i xs Ln))) rfl ?_
                exact mz_ret rfl
              exact mz_ret rfl
            refine mz_go 2 (c' := (8, [some (.ref 0), some (.int a), some (.int b)], [.int b], (mz_i xs Ln))) rfl ?_
            refine mz_do (R := mz_r117) (as := [.int b]) (rest := []) (r1 := some (.int 0)) (m1 := (mz_i xs Ln)) rfl ⟨?_, rfl⟩ ?_
            · refine mz_go 3 (c' := (7, [some (.int b)], [.int 9999, .int (-9999), .int b], (mz_i xs Ln))) rfl ?_
              refine mz_do (R := mz_r121) (as := [.int b, .int (-9999), .int 9999]) (rest := []) (r1 := some (.int 0)) (m1 := (mz_i xs Ln)) rfl ⟨?_, rfl⟩ ?_
              · refine mz_go 3 (c' := (if b < (-9999) then 14 else 5, [some (.int b), some (.int (-9999)), some (.int 9999)], [], (mz_i xs Ln))) rfl ?_
                refine mz_ifF h3 ?_
                refine mz_go 3 (c' := (if 9999 < b then 14 else 10, [some (.int b), some (.int (-9999)), some (.int 9999)], [], (mz_i xs Ln))) rfl ?_
                refine mz_ifT h4 ?_
                refine mz_go 1 (c' := (15, [some (.int b), some (.int (-9999)), some (.int 9999)], [.int 0], (mz_i xs Ln))) rfl ?_
                exact mz_ret rfl
              exact mz_ret rfl
            refine mz_go 3 (c' := (16, [some (.ref 0), some (.int a), some (.int b)], [.int 1, .ref 0], (mz_i xs Ln))) rfl ?_
            refine mz_do (R := mz_r109) (as := [.ref 0, .int 1]) (rest := []) (r1 := some (.int (-1000001))) (m1 := mz_up (mz_i xs Ln) 64 1 1) rfl ⟨?_, rfl⟩ ?_
            · refine mz_go 3 (c' := (4, [some (.ref 0), some (.int 1)], [.int 6, .int 1, .int 1], (mz_i xs Ln))) rfl ?_
              refine mz_do (R := mz_r121) (as := [.int 1, .int 1, .int 6]) (rest := []) (r1 := some (.int 1)) (m1 := (mz_i xs Ln)) rfl ⟨?_, rfl⟩ ?_
              · refine mz_go 8 (c' := (15, [some (.int 1), some (.int 1), some (.int 6)], [.int 1], (mz_i xs Ln))) rfl ?_
                exact mz_ret rfl
              refine mz_go 12 (c' := (25, [some (.ref 0), some (.int 1)], [.int (-1000001)], mz_up (mz_i xs Ln) 64 1 1)) rfl ?_
              exact mz_ret rfl
            exact mz_ret rfl
          · refine mz_go 2 (c' := (2, [some (.ref 65), some (.int a), some (.int b)], [.int b, .int a], mz_up (mz_i xs Ln) 64 1 1)) rfl ?_
            refine mz_do (R := mz_r175) (as := [.int a, .int b]) (rest := []) (r1 := some (.int 0)) (m1 := mz_up (mz_i xs Ln) 64 1 1) rfl ⟨?_, rfl⟩ ?_
            · refine mz_go 3 (c' := (7, [some (.int a), some (.int b)], [.int 9999, .int (-9999), .int a], mz_up (mz_i xs Ln) 64 1 1)) rfl ?_
              refine mz_do (R := mz_r128) (as := [.int a, .int (-9999), .int 9999]) (rest := []) (r1 := some (.int 1)) (m1 := mz_up (mz_i xs Ln) 64 1 1) rfl ⟨?_, rfl⟩ ?_
              · refine mz_go 3 (c' := (if a < (-9999) then 14 else 5, [some (.int a), some (.int (-9999)), some (.int 9999)], [], mz_up (mz_i xs Ln) 64 1 1)) rfl ?_
                refine mz_ifF h1 ?_
                refine mz_go 3 (c' := (if 9999 < a then 14 else 10, [some (.int a), some (.int (-9999)), some (.int 9999)], [], mz_up (mz_i xs Ln) 64 1 1)) rfl ?_
                refine mz_ifF h2 ?_
                refine mz_go 2 (c' := (15, [some (.int a), some (.int (-9999)), some (.int 9999)], [.int 1], mz_up (mz_i xs Ln) 64 1 1)) rfl ?_
                exact mz_ret rfl
              refine mz_go 4 (c' := (20, [some (.int a), some (.int b)], [.int 9999, .int (-9999), .int b], mz_up (mz_i xs Ln) 64 1 1)) rfl ?_
              refine mz_do (R := mz_r128) (as := [.int b, .int (-9999), .int 9999]) (rest := []) (r1 := some (.int 0)) (m1 := mz_up (mz_i xs Ln) 64 1 1) rfl ⟨?_, rfl⟩ ?_
              · refine mz_go 3 (c' := (if b < (-9999) then 14 else 5, [some (.int b), some (.int (-9999)), some (.int 9999)], [], mz_up (mz_i xs Ln) 64 1 1)) rfl ?_
                refine mz_ifF h3 ?_
                refine mz_go 3 (c' := (if 9999 < b then 14 else 10, [some (.int b), some (.int (-9999)), some (.int 9999)], [], mz_up (mz_i xs Ln) 64 1 1)) rfl ?_
                refine mz_ifT h4 ?_
                refine mz_go 1 (c' := (15, [some (.int b), some (.int (-9999)), some (.int 9999)], [.int 0], mz_up (mz_i xs Ln) 64 1 1)) rfl ?_
                exact mz_ret rfl
              refine mz_go 2 (c' := (31, [some (.int a), some (.int b)], [.int 0], mz_up (mz_i xs Ln) 64 1 1)) rfl ?_
              exact mz_ret rfl
            refine mz_go 3 (c' := (10, [some (.ref 65), some (.int a), some (.int b)], [.int 1, .ref 65], mz_up (mz_i xs Ln) 64 1 1)) rfl ?_
            refine mz_do (R := mz_r127) (as := [.ref 65, .int 1]) (rest := []) (r1 := some (.int (-1000001))) (m1 := mz_up (mz_up (mz_i xs Ln) 64 1 1) 68 1 1) rfl ⟨?_, rfl⟩ ?_
            · refine mz_go 11 (c' := (14, [some (.ref 65), some (.int 1)], [.int (-1000001)], mz_up (mz_up (mz_i xs Ln) 64 1 1) 68 1 1)) rfl ?_
              exact mz_ret rfl
            exact mz_ret rfl
        · refine ⟨1, mz_up (mz_up (mz_i xs Ln) 19 2 a) 19 3 b, mz_up (mz_up (mz_up (mz_up (mz_i xs Ln) 19 2 a) 19 3 b) 66 22 a) 66 23 b, ⟨?_, rfl⟩, ⟨?_, rfl⟩⟩
          · refine mz_go 1 (c' := (1, [some (.ref 0), some (.int a), some (.int b)], [.int a], (mz_i xs Ln))) rfl ?_
            refine mz_do (R := mz_r117) (as := [.int a]) (rest := []) (r1 := some (.int 1)) (m1 := (mz_i xs Ln)) rfl ⟨?_, rfl⟩ ?_
            · refine mz_go 3 (c' := (7, [some (.int a)], [.int 9999, .int (-9999), .int a], (mz_i xs Ln))) rfl ?_
              refine mz_do (R := mz_r121) (as := [.int a, .int (-9999), .int 9999]) (rest := []) (r1 := some (.int 1)) (m1 := (mz_i xs Ln)) rfl ⟨?_, rfl⟩ ?_
              · refine mz_go 3 (c' := (if a < (-9999) then 14 else 5, [some (.int a), some (.int (-9999)), some (.int 9999)], [], (mz_i xs Ln))) rfl ?_
                refine mz_ifF h1 ?_
                refine mz_go 3 (c' := (if 9999 < a then 14 else 10, [some (.int a), some (.int (-9999)), some (.int 9999)], [], (mz_i xs Ln))) rfl ?_
                refine mz_ifF h2 ?_
                refine mz_go 2 (c' := (15, [some (.int a), some (.int (-9999)), some (.int 9999)], [.int 1], (mz_i xs Ln))) rfl ?_
                exact mz_ret rfl
              exact mz_ret rfl
            refine mz_go 2 (c' := (8, [some (.ref 0), some (.int a), some (.int b)], [.int b], (mz_i xs Ln))) rfl ?_
            refine mz_do (R := mz_r117) (as := [.int b]) (rest := []) (r1 := some (.int 1)) (m1 := (mz_i xs Ln)) rfl ⟨?_, rfl⟩ ?_
            · refine mz_go 3 (c' := (7, [some (.int b)], [.int 9999, .int (-9999), .int b], (mz_i xs Ln))) rfl ?_
              refine mz_do (R := mz_r121) (as := [.int b, .int (-9999), .int 9999]) (rest := []) (r1 := some (.int 1)) (m1 := (mz_i xs Ln)) rfl ⟨?_, rfl⟩ ?_
              · refine mz_go 3 (c' := (if b < (-9999) then 14 else 5, [some (.int b), some (.int (-9999)), some (.int 9999)], [], (mz_i xs Ln))) rfl ?_
                refine mz_ifF h3 ?_
                refine mz_go 3 (c' := (if 9999 < b then 14 else 10, [some (.int b), some (.int (-9999)), some (.int 9999)], [], (mz_i xs Ln))) rfl ?_
                refine mz_ifF h4 ?_
                refine mz_go 2 (c' := (15, [some (.int b), some (.int (-9999)), some (.int 9999)], [.int 1], (mz_i xs Ln))) rfl ?_
                exact mz_ret rfl
              exact mz_ret rfl
            refine mz_go 12 (c' := (43, [some (.ref 0), some (.int a), some (.int b)], [.int 1], mz_up (mz_up (mz_i xs Ln) 19 2 a) 19 3 b)) rfl ?_
            exact mz_ret rfl
          · refine mz_go 2 (c' := (2, [some (.ref 65), some (.int a), some (.int b)], [.int b, .int a], mz_up (mz_up (mz_i xs Ln) 19 2 a) 19 3 b)) rfl ?_
            refine mz_do (R := mz_r175) (as := [.int a, .int b]) (rest := []) (r1 := some (.int 1)) (m1 := mz_up (mz_up (mz_i xs Ln) 19 2 a) 19 3 b) rfl ⟨?_, rfl⟩ ?_
            · refine mz_go 3 (c' := (7, [some (.int a), some (.int b)], [.int 9999, .int (-9999), .int a], mz_up (mz_up (mz_i xs Ln) 19 2 a) 19 3 b)) rfl ?_
              refine mz_do (R := mz_r128) (as := [.int a, .int (-9999), .int 9999]) (rest := []) (r1 := some (.int 1)) (m1 := mz_up (mz_up (mz_i xs Ln) 19 2 a) 19 3 b) rfl ⟨?_, rfl⟩ ?_
              · refine mz_go 3 (c' := (if a < (-9999) then 14 else 5, [some (.int a), some (.int (-9999)), some (.int 9999)], [], mz_up (mz_up (mz_i xs Ln) 19 2 a) 19 3 b)) rfl ?_
                refine mz_ifF h1 ?_
                refine mz_go 3 (c' := (if 9999 < a then 14 else 10, [some (.int a), some (.int (-9999)), some (.int 9999)], [], mz_up (mz_up (mz_i xs Ln) 19 2 a) 19 3 b)) rfl ?_
                refine mz_ifF h2 ?_
                refine mz_go 2 (c' := (15, [some (.int a), some (.int (-9999)), some (.int 9999)], [.int 1], mz_up (mz_up (mz_i xs Ln) 19 2 a) 19 3 b)) rfl ?_
                exact mz_ret rfl
              refine mz_go 4 (c' := (20, [some (.int a), some (.int b)], [.int 9999, .int (-9999), .int b], mz_up (mz_up (mz_i xs Ln) 19 2 a) 19 3 b)) rfl ?_
              refine mz_do (R := mz_r128) (as := [.int b, .int (-9999), .int 9999]) (rest := []) (r1 := some (.int 1)) (m1 := mz_up (mz_up (mz_i xs Ln) 19 2 a) 19 3 b) rfl ⟨?_, rfl⟩ ?_
              · refine mz_go 3 (c' := (if b < (-9999) then 14 else 5, [some (.int b), some (.int (-9999)), some (.int 9999)], [], mz_up (mz_up (mz_i xs Ln) 19 2 a) 19 3 b)) rfl ?_
                refine mz_ifF h3 ?_
                refine mz_go 3 (c' := (if 9999 < b then 14 else 10, [some (.int b), some (.int (-9999)), some (.int 9999)], [], mz_up (mz_up (mz_i xs Ln) 19 2 a) 19 3 b)) rfl ?_
                refine mz_ifF h4 ?_
                refine mz_go 2 (c' := (15, [some (.int b), some (.int (-9999)), some (.int 9999)], [.int 1], mz_up (mz_up (mz_i xs Ln) 19 2 a) 19 3 b)) rfl ?_
                exact mz_ret rfl
              refine mz_go 3 (c' := (31, [some (.int a), some (.int b)], [.int 1], mz_up (mz_up (mz_i xs Ln) 19 2 a) 19 3 b)) rfl ?_
              exact mz_ret rfl
            refine mz_go 12 (c' := (31, [some (.ref 65), some (.int a), some (.int b)], [.int 1], mz_up (mz_up (mz_up (mz_up (mz_i xs Ln) 19 2 a) 19 3 b) 66 22 a) 66 23 b)) rfl ?_
            exact mz_ret rfl
set_option maxHeartbeats 4000000 in
set_option maxRecDepth 100000 in
theorem p1_bob (xs : Nat → Int32) (Ln : Nat) (a : Int32) : ∃ v m1 m2, mz_Me 100 mz_r80 [.ref 0, .int a] (mz_i xs Ln) (some (.int v)) m1 ∧ mz_Me 100 mz_r178 [.ref 65, .int a] m1 (some (.int v)) m2 := by
  by_cases h1 : a < 0
  · refine ⟨(-1000001), mz_up (mz_i xs Ln) 64 1 1, mz_up (mz_up (mz_i xs Ln) 64 1 1) 68 1 1, ⟨?_, rfl⟩, ⟨?_, rfl⟩⟩
    · refine mz_go 1 (c' := (1, [some (.ref 0), some (.int a)], [.int a], (mz_i xs Ln))) rfl ?_
      refine mz_swd (c' := (110, [some (.ref 0), some (.int a)], [], (mz_i xs Ln))) rfl (Or.inl (Int32.lt_iff_toInt_lt.mp h1)) ?_
      refine mz_go 2 (c' := (112, [some (.ref 0), some (.int a)], [.int 1, .ref 0], (mz_i xs Ln))) rfl ?_
      refine mz_do (R := mz_r109) (as := [.ref 0, .int 1]) (rest := []) (r1 := some (.int (-1000001))) (m1 := mz_up (mz_i xs Ln) 64 1 1) rfl ⟨?_, rfl⟩ ?_
      · refine mz_go 3 (c' := (4, [some (.ref 0), some (.int 1)], [.int 6, .int 1, .int 1], (mz_i xs Ln))) rfl ?_
        refine mz_do (R := mz_r121) (as := [.int 1, .int 1, .int 6]) (rest := []) (r1 := some (.int 1)) (m1 := (mz_i xs Ln)) rfl ⟨?_, rfl⟩ ?_
        · refine mz_go 8 (c' := (15, [some (.int 1), some (.int 1), some (.int 6)], [.int 1], (mz_i xs Ln))) rfl ?_
          exact mz_ret rfl
        refine mz_go 12 (c' := (25, [some (.ref 0), some (.int 1)], [.int (-1000001)], mz_up (mz_i xs Ln) 64 1 1)) rfl ?_
        exact mz_ret rfl
      exact mz_ret rfl
    · refine mz_go 3 (c' := (3, [some (.ref 65), some (.int a)], [.int 5, .int 0, .int a], mz_up (mz_i xs Ln) 64 1 1)) rfl ?_
      refine mz_do (R := mz_r128) (as := [.int a, .int 0, .int 5]) (rest := []) (r1 := some (.int 0)) (m1 := mz_up (mz_i xs Ln) 64 1 1) rfl ⟨?_, rfl⟩ ?_
      · refine mz_go 3 (c' := (if a < 0 then 14 else 5, [some (.int a), some (.int 0), some (.int 5)], [], mz_up (mz_i xs Ln) 64 1 1)) rfl ?_
        refine mz_ifT h1 ?_
        refine mz_go 1 (c' := (15, [some (.int a), some (.int 0), some (.int 5)], [.int 0], mz_up (mz_i xs Ln) 64 1 1)) rfl ?_
        exact mz_ret rfl
      refine mz_go 3 (c' := (11, [some (.ref 65), some (.int a)], [.int 1, .ref 65], mz_up (mz_i xs Ln) 64 1 1)) rfl ?_
      refine mz_do (R := mz_r127) (as := [.ref 65, .int 1]) (rest := []) (r1 := some (.int (-1000001))) (m1 := mz_up (mz_up (mz_i xs Ln) 64 1 1) 68 1 1) rfl ⟨?_, rfl⟩ ?_
      · refine mz_go 11 (c' := (14, [some (.ref 65), some (.int 1)], [.int (-1000001)], mz_up (mz_up (mz_i xs Ln) 64 1 1) 68 1 1)) rfl ?_
        exact mz_ret rfl
      exact mz_ret rfl
  · by_cases h2 : 5 < a
    · refine ⟨(-1000001), mz_up (mz_i xs Ln) 64 1 1, mz_up (mz_up (mz_i xs Ln) 64 1 1) 68 1 1, ⟨?_, rfl⟩, ⟨?_, rfl⟩⟩
      · refine mz_go 1 (c' := (1, [some (.ref 0), some (.int a)], [.int a], (mz_i xs Ln))) rfl ?_
        refine mz_swd (c' := (110, [some (.ref 0), some (.int a)], [], (mz_i xs Ln))) rfl (Or.inr (Int32.lt_iff_toInt_lt.mp h2)) ?_
        refine mz_go 2 (c' := (112, [some (.ref 0), some (.int a)], [.int 1, .ref 0], (mz_i xs Ln))) rfl ?_
        refine mz_do (R := mz_r109) (as := [.ref 0, .int 1]) (rest := []) (r1 := some (.int (-1000001))) (m1 := mz_up (mz_i xs Ln) 64 1 1) rfl ⟨?_, rfl⟩ ?_
        · refine mz_go 3 (c' := (4, [some (.ref 0), some (.int 1)], [.int 6, .int 1, .int 1], (mz_i xs Ln))) rfl ?_
          refine mz_do (R := mz_r121) (as := [.int 1, .int 1, .int 6]) (rest := []) (r1 := some (.int 1)) (m1 := (mz_i xs Ln)) rfl ⟨?_, rfl⟩ ?_
          · refine mz_go 8 (c' := (15, [some (.int 1), some (.int 1), some (.int 6)], [.int 1], (mz_i xs Ln))) rfl ?_
            exact mz_ret rfl
          refine mz_go 12 (c' := (25, [some (.ref 0), some (.int 1)], [.int (-1000001)], mz_up (mz_i xs Ln) 64 1 1)) rfl ?_
          exact mz_ret rfl
        exact mz_ret rfl
      · refine mz_go 3 (c' := (3, [some (.ref 65), some (.int a)], [.int 5, .int 0, .int a], mz_up (mz_i xs Ln) 64 1 1)) rfl ?_
        refine mz_do (R := mz_r128) (as := [.int a, .int 0, .int 5]) (rest := []) (r1 := some (.int 0)) (m1 := mz_up (mz_i xs Ln) 64 1 1) rfl ⟨?_, rfl⟩ ?_
        · refine mz_go 3 (c' := (if a < 0 then 14 else 5, [some (.int a), some (.int 0), some (.int 5)], [], mz_up (mz_i xs Ln) 64 1 1)) rfl ?_
          refine mz_ifF h1 ?_
          refine mz_go 3 (c' := (if 5 < a then 14 else 10, [some (.int a), some (.int 0), some (.int 5)], [], mz_up (mz_i xs Ln) 64 1 1)) rfl ?_
          refine mz_ifT h2 ?_
          refine mz_go 1 (c' := (15, [some (.int a), some (.int 0), some (.int 5)], [.int 0], mz_up (mz_i xs Ln) 64 1 1)) rfl ?_
          exact mz_ret rfl
        refine mz_go 3 (c' := (11, [some (.ref 65), some (.int a)], [.int 1, .ref 65], mz_up (mz_i xs Ln) 64 1 1)) rfl ?_
        refine mz_do (R := mz_r127) (as := [.ref 65, .int 1]) (rest := []) (r1 := some (.int (-1000001))) (m1 := mz_up (mz_up (mz_i xs Ln) 64 1 1) 68 1 1) rfl ⟨?_, rfl⟩ ?_
        · refine mz_go 11 (c' := (14, [some (.ref 65), some (.int 1)], [.int (-1000001)], mz_up (mz_up (mz_i xs Ln) 64 1 1) 68 1 1)) rfl ?_
          exact mz_ret rfl
        exact mz_ret rfl
    · have hl3 : (0 : Int) ≤ (a).toInt := Int32.le_iff_toInt_le.mp (Int32.not_lt.mp h1)
      have hu3 : (a).toInt ≤ (5 : Int) := Int32.le_iff_toInt_le.mp (Int32.not_lt.mp h2)
      obtain rfl | rfl | rfl | rfl | rfl | rfl : a = 0 ∨ a = 1 ∨ a = 2 ∨ a = 3 ∨ a = 4 ∨ a = 5 := by
          rcases (show a.toInt = 0 ∨ a.toInt = 1 ∨ a.toInt = 2 ∨ a.toInt = 3 ∨ a.toInt = 4 ∨ a.toInt = 5 by omega) with h | h | h | h | h | h
          · exact (Or.inl (Int32.toInt_inj.mp h))
          · exact (Or.inr (Or.inl (Int32.toInt_inj.mp h)))
          · exact (Or.inr (Or.inr (Or.inl (Int32.toInt_inj.mp h))))
          · exact (Or.inr (Or.inr (Or.inr (Or.inl (Int32.toInt_inj.mp h)))))
          · exact (Or.inr (Or.inr (Or.inr (Or.inr (Or.inl (Int32.toInt_inj.mp h))))))
          · exact (Or.inr (Or.inr (Or.inr (Or.inr (Or.inr (Int32.toInt_inj.mp h))))))
      · refine ⟨0, (mz_i xs Ln), mz_up (mz_up (mz_up (mz_up (mz_up (mz_i xs Ln) 65 4 0) 65 5 0) 65 6 0) 65 7 0) 65 8 0, ⟨?_, rfl⟩, ⟨?_, rfl⟩⟩
        · refine mz_go 6 (c' := (50, [some (.ref 0), some (.int 0)], [.int 0], (mz_i xs Ln))) rfl ?_
          exact mz_ret rfl
        · refine mz_go 3 (c' := (3, [some (.ref 65), some (.int 0)], [.int 5, .int 0, .int 0], (mz_i xs Ln))) rfl ?_
          refine mz_do (R := mz_r128) (as := [.int 0, .int 0, .int 5]) (rest := []) (r1 := some (.int 1)) (m1 := (mz_i xs Ln)) rfl ⟨?_, rfl⟩ ?_
          · refine mz_go 8 (c' := (15, [some (.int 0), some (.int 0), some (.int 5)], [.int 1], (mz_i xs Ln))) rfl ?_
            exact mz_ret rfl
          refine mz_go 2 (c' := (16, [some (.ref 65), some (.int 0)], [.ref 65], (mz_i xs Ln))) rfl ?_
          refine mz_do (R := mz_r145) (as := [.ref 65]) (rest := []) (r1 := none) (m1 := mz_up (mz_up (mz_up (mz_up (mz_up (mz_i xs Ln) 65 4 0) 65 5 0) 65 6 0) 65 7 0) 65 8 0) rfl ⟨?_, rfl⟩ ?_
          · refine mz_go 24 (c' := (44, [some (.ref 65)], [], mz_up (mz_up (mz_up (mz_up (mz_i xs Ln) 65 4 0) 65 5 0) 65 6 0) 65 7 0)) rfl ?_
            refine mz_go 6 (c' := (55, [some (.ref 65)], [], mz_up (mz_up (mz_up (mz_up (mz_up (mz_i xs Ln) 65 4 0) 65 5 0) 65 6 0) 65 7 0) 65 8 0)) rfl ?_
            exact mz_ret rfl
          refine mz_go 10 (c' := (40, [some (.ref 65), some (.int 0)], [.int 0], mz_up (mz_up (mz_up (mz_up (mz_up (mz_i xs Ln) 65 4 0) 65 5 0) 65 6 0) 65 7 0) 65 8 0)) rfl ?_
          exact mz_ret rfl
      · refine ⟨0, (mz_i xs Ln), mz_up (mz_up (mz_up (mz_up (mz_up (mz_i xs Ln) 65 4 0) 65 5 0) 65 6 0) 65 7 0) 65 8 0, ⟨?_, rfl⟩, ⟨?_, rfl⟩⟩
        · refine mz_go 6 (c' := (61, [some (.ref 0), some (.int 1)], [.int 0], (mz_i xs Ln))) rfl ?_
          exact mz_ret rfl
        · refine mz_go 3 (c' := (3, [some (.ref 65), some (.int 1)], [.int 5, .int 0, .int 1], (mz_i xs Ln))) rfl ?_
          refine mz_do (R := mz_r128) (as := [.int 1, .int 0, .int 5]) (rest := []) (r1 := some (.int 1)) (m1 := (mz_i xs Ln)) rfl ⟨?_, rfl⟩ ?_
          · refine mz_go 8 (c' := (15, [some (.int 1), some (.int 0), some (.int 5)], [.int 1], (mz_i xs Ln))) rfl ?_
            exact mz_ret rfl
          refine mz_go 2 (c' := (16, [some (.ref 65), some (.int 1)], [.ref 65], (mz_i xs Ln))) rfl ?_
          refine mz_do (R := mz_r145) (as := [.ref 65]) (rest := []) (r1 := none) (m1 := mz_up (mz_up (mz_up (mz_up (mz_up (mz_i xs Ln) 65 4 0) 65 5 0) 65 6 0) 65 7 0) 65 8 0) rfl ⟨?_, rfl⟩ ?_
          · refine mz_go 24 (c' := (44, [some (.ref 65)], [], mz_up (mz_up (mz_up (mz_up (mz_i xs Ln) 65 4 0) 65 5 0) 65 6 0) 65 7 0)) rfl ?_
            refine mz_go 6 (c' := (55, [some (.ref 65)], [], mz_up (mz_up (mz_up (mz_up (mz_up (mz_i xs Ln) 65 4 0) 65 5 0) 65 6 0) 65 7 0) 65 8 0)) rfl ?_
            exact mz_ret rfl
          refine mz_go 10 (c' := (40, [some (.ref 65), some (.int 1)], [.int 0], mz_up (mz_up (mz_up (mz_up (mz_up (mz_i xs Ln) 65 4 0) 65 5 0) 65 6 0) 65 7 0) 65 8 0)) rfl ?_
          exact mz_ret rfl
      · refine ⟨0, (mz_i xs Ln), mz_up (mz_up (mz_up (mz_up (mz_up (mz_i xs Ln) 65 4 0) 65 5 0) 65 6 0) 65 7 0) 65 8 0, ⟨?_, rfl⟩, ⟨?_, rfl⟩⟩
        · refine mz_go 6 (c' := (72, [some (.ref 0), some (.int 2)], [.int 0], (mz_i xs Ln))) rfl ?_
          exact mz_ret rfl
        · refine mz_go 3 (c' := (3, [some (.ref 65), some (.int 2)], [.int 5, .int 0, .int 2], (mz_i xs Ln))) rfl ?_
          refine mz_do (R := mz_r128) (as := [.int 2, .int 0, .int 5]) (rest := []) (r1 := some (.int 1)) (m1 := (mz_i xs Ln)) rfl ⟨?_, rfl⟩ ?_
          · refine mz_go 8 (c' := (15, [some (.int 2), some (.int 0), some (.int 5)], [.int 1], (mz_i xs Ln))) rfl ?_
            exact mz_ret rfl
          refine mz_go 2 (c' := (16, [some (.ref 65), some (.int 2)], [.ref 65], (mz_i xs Ln))) rfl ?_
          refine mz_do (R := mz_r145) (as := [.ref 65]) (rest := []) (r1 := none) (m1 := mz_up (mz_up (mz_up (mz_up (mz_up (mz_i xs Ln) 65 4 0) 65 5 0) 65 6 0) 65 7 0) 65 8 0) rfl ⟨?_, rfl⟩ ?_
          · refine mz_go 24 (c' := (44, [some (.ref 65)], [], mz_up (mz_up (mz_up (mz_up (mz_i xs Ln) 65 4 0) 65 5 0) 65 6 0) 65 7 0)) rfl ?_
            refine mz_go 6 (c' := (55, [some (.ref 65)], [], mz_up (mz_up (mz_up (mz_up (mz_up (mz_i xs Ln) 65 4 0) 65 5 0) 65 6 0) 65 7 0) 65 8 0)) rfl ?_
            exact mz_ret rfl
          refine mz_go 10 (c' := (40, [some (.ref 65), some (.int 2)], [.int 0], mz_up (mz_up (mz_up (mz_up (mz_up (mz_i xs Ln) 65 4 0) 65 5 0) 65 6 0) 65 7 0) 65 8 0)) rfl ?_
          exact mz_ret rfl
      · refine ⟨0, (mz_i xs Ln), mz_up (mz_up (mz_up (mz_up (mz_up (mz_i xs Ln) 65 4 0) 65 5 0) 65 6 0) 65 7 0) 65 8 0, ⟨?_, rfl⟩, ⟨?_, rfl⟩⟩
        · refine mz_go 6 (c' := (83, [some (.ref 0), some (.int 3)], [.int 0], (mz_i xs Ln))) rfl ?_
          exact mz_ret rfl
        · refine mz_go 3 (c' := (3, [some (.ref 65), some (.int 3)], [.int 5, .int 0, .int 3], (mz_i xs Ln))) rfl ?_
          refine mz_do (R := mz_r128) (as := [.int 3, .int 0, .int 5]) (rest := []) (r1 := some (.int 1)) (m1 := (mz_i xs Ln)) rfl ⟨?_, rfl⟩ ?_
          · refine mz_go 8 (c' := (15, [some (.int 3), some (.int 0), some (.int 5)], [.int 1], (mz_i xs Ln))) rfl ?_
            exact mz_ret rfl
          refine mz_go 2 (c' := (16, [some (.ref 65), some (.int 3)], [.ref 65], (mz_i xs Ln))) rfl ?_
          refine mz_do (R := mz_r145) (as := [.ref 65]) (rest := []) (r1 := none) (m1 := mz_up (mz_up (mz_up (mz_up (mz_up (mz_i xs Ln) 65 4 0) 65 5 0) 65 6 0) 65 7 0) 65 8 0) rfl ⟨?_, rfl⟩ ?_
          · refine mz_go 24 (c' := (44, [some (.ref 65)], [], mz_up (mz_up (mz_up (mz_up (mz_i xs Ln) 65 4 0) 65 5 0) 65 6 0) 65 7 0)) rfl ?_
            refine mz_go 6 (c' := (55, [some (.ref 65)], [], mz_up (mz_up (mz_up (mz_up (mz_up (mz_i xs Ln) 65 4 0) 65 5 0) 65 6 0) 65 7 0) 65 8 0)) rfl ?_
            exact mz_ret rfl
          refine mz_go 10 (c' := (40, [some (.ref 65), some (.int 3)], [.int 0], mz_up (mz_up (mz_up (mz_up (mz_up (mz_i xs Ln) 65 4 0) 65 5 0) 65 6 0) 65 7 0) 65 8 0)) rfl ?_
          exact mz_ret rfl
      · refine ⟨0, (mz_i xs Ln), mz_up (mz_up (mz_up (mz_up (mz_up (mz_i xs Ln) 65 4 0) 65 5 0) 65 6 0) 65 7 0) 65 8 0, ⟨?_, rfl⟩, ⟨?_, rfl⟩⟩
        · refine mz_go 6 (c' := (94, [some (.ref 0), some (.int 4)], [.int 0], (mz_i xs Ln))) rfl ?_
          exact mz_ret rfl
        · refine mz_go 3 (c' := (3, [some (.ref 65), some (.int 4)], [.int 5, .int 0, .int 4], (mz_i xs Ln))) rfl ?_
          refine mz_do (R := mz_r128) (as := [.int 4, .int 0, .int 5]) (rest := []) (r1 := some (.int 1)) (m1 := (mz_i xs Ln)) rfl ⟨?_, rfl⟩ ?_
          · refine mz_go 8 (c' := (15, [some (.int 4), some (.int 0), some (.int 5)], [.int 1], (mz_i xs Ln))) rfl ?_
            exact mz_ret rfl
          refine mz_go 2 (c' := (16, [some (.ref 65), some (.int 4)], [.ref 65], (mz_i xs Ln))) rfl ?_
          refine mz_do (R := mz_r145) (as := [.ref 65]) (rest := []) (r1 := none) (m1 := mz_up (mz_up (mz_up (mz_up (mz_up (mz_i xs Ln) 65 4 0) 65 5 0) 65 6 0) 65 7 0) 65 8 0) rfl ⟨?_, rfl⟩ ?_
          · refine mz_go 24 (c' := (44, [some (.ref 65)], [], mz_up (mz_up (mz_up (mz_up (mz_i xs Ln) 65 4 0) 65 5 0) 65 6 0) 65 7 0)) rfl ?_
            refine mz_go 6 (c' := (55, [some (.ref 65)], [], mz_up (mz_up (mz_up (mz_up (mz_up (mz_i xs Ln) 65 4 0) 65 5 0) 65 6 0) 65 7 0) 65 8 0)) rfl ?_
            exact mz_ret rfl
          refine mz_go 10 (c' := (40, [some (.ref 65), some (.int 4)], [.int 0], mz_up (mz_up (mz_up (mz_up (mz_up (mz_i xs Ln) 65 4 0) 65 5 0) 65 6 0) 65 7 0) 65 8 0)) rfl ?_
          exact mz_ret rfl
      · refine ⟨9, (mz_i xs Ln), mz_up (mz_up (mz_up (mz_up (mz_up (mz_i xs Ln) 65 4 0) 65 5 0) 65 6 0) 65 7 0) 65 8 0, ⟨?_, rfl⟩, ⟨?_, rfl⟩⟩
        · refine mz_go 7 (c' := (106, [some (.ref 0), some (.int 5)], [.ref 19, .ref 49], (mz_i xs Ln))) rfl ?_
          refine mz_do (R := mz_r37) (as := [.ref 49, .ref 19]) (rest := []) (r1 := some (.int 9)) (m1 := (mz_i xs Ln)) rfl ⟨?_, rfl⟩ ?_
          · refine mz_go 21 (c' := (46, [some (.ref 49), some (.ref 19), none], [.int 1, .int 0, .int 0, .ref 2], (mz_i xs Ln))) rfl ?_
            refine mz_do (R := mz_r25) (as := [.ref 2, .int 0, .int 0, .int 1]) (rest := []) (r1 := some (.int (-1))) (m1 := (mz_i xs Ln)) rfl ⟨?_, rfl⟩ ?_
            · refine mz_go 11 (c' := (69, [some (.ref 2), some (.int 0), some (.int 0), some (.int 1), some (.int (-1)), some (.int 0), some (.int 0), none], [.int (-1)], (mz_i xs Ln))) rfl ?_
              exact mz_ret rfl
            refine mz_go 4 (c' := (87, [some (.ref 49), some (.ref 19), some (.int (-1))], [.int 9], (mz_i xs Ln))) rfl ?_
            exact mz_ret rfl
          exact mz_ret rfl
        · refine mz_go 3 (c' := (3, [some (.ref 65), some (.int 5)], [.int 5, .int 0, .int 5], (mz_i xs Ln))) rfl ?_
          refine mz_do (R := mz_r128) (as := [.int 5, .int 0, .int 5]) (rest := []) (r1 := some (.int 1)) (m1 := (mz_i xs Ln)) rfl ⟨?_, rfl⟩ ?_
          · refine mz_go 8 (c' := (15, [some (.int 5), some (.int 0), some (.int 5)], [.int 1], (mz_i xs Ln))) rfl ?_
            exact mz_ret rfl
          refine mz_go 2 (c' := (16, [some (.ref 65), some (.int 5)], [.ref 65], (mz_i xs Ln))) rfl ?_
          refine mz_do (R := mz_r145) (as := [.ref 65]) (rest := []) (r1 := none) (m1 := mz_up (mz_up (mz_up (mz_up (mz_up (mz_i xs Ln) 65 4 0) 65 5 0) 65 6 0) 65 7 0) 65 8 0) rfl ⟨?_, rfl⟩ ?_
          · refine mz_go 24 (c' := (44, [some (.ref 65)], [], mz_up (mz_up (mz_up (mz_up (mz_i xs Ln) 65 4 0) 65 5 0) 65 6 0) 65 7 0)) rfl ?_
            refine mz_go 6 (c' := (55, [some (.ref 65)], [], mz_up (mz_up (mz_up (mz_up (mz_up (mz_i xs Ln) 65 4 0) 65 5 0) 65 6 0) 65 7 0) 65 8 0)) rfl ?_
            exact mz_ret rfl
          refine mz_go 4 (c' := (37, [some (.ref 65), some (.int 5)], [.ref 65], mz_up (mz_up (mz_up (mz_up (mz_up (mz_i xs Ln) 65 4 0) 65 5 0) 65 6 0) 65 7 0) 65 8 0)) rfl ?_
          refine mz_do (R := mz_r153) (as := [.ref 65]) (rest := []) (r1 := some (.int 9)) (m1 := mz_up (mz_up (mz_up (mz_up (mz_up (mz_i xs Ln) 65 4 0) 65 5 0) 65 6 0) 65 7 0) 65 8 0) rfl ⟨?_, rfl⟩ ?_
          · refine mz_go 2 (c' := (4, [some (.ref 65), none], [.int 0], mz_up (mz_up (mz_up (mz_up (mz_up (mz_i xs Ln) 65 4 0) 65 5 0) 65 6 0) 65 7 0) 65 8 0)) rfl ?_
            refine mz_do (R := mz_r129) (as := [.int 0]) (rest := []) (r1 := some (.int 0)) (m1 := mz_up (mz_up (mz_up (mz_up (mz_up (mz_i xs Ln) 65 4 0) 65 5 0) 65 6 0) 65 7 0) 65 8 0) rfl ⟨?_, rfl⟩ ?_
            · refine mz_go 3 (c' := (10, [some (.int 0)], [.int 0], mz_up (mz_up (mz_up (mz_up (mz_up (mz_i xs Ln) 65 4 0) 65 5 0) 65 6 0) 65 7 0) 65 8 0)) rfl ?_
              exact mz_ret rfl
            refine mz_go 2 (c' := (11, [some (.ref 65), none], [.int 0, .int 0], mz_up (mz_up (mz_up (mz_up (mz_up (mz_i xs Ln) 65 4 0) 65 5 0) 65 6 0) 65 7 0) 65 8 0)) rfl ?_
            refine mz_do (R := mz_r129) (as := [.int 0]) (rest := [.int 0]) (r1 := some (.int 0)) (m1 := mz_up (mz_up (mz_up (mz_up (mz_up (mz_i xs Ln) 65 4 0) 65 5 0) 65 6 0) 65 7 0) 65 8 0) rfl ⟨?_, rfl⟩ ?_
            · refine mz_go 3 (c' := (10, [some (.int 0)], [.int 0], mz_up (mz_up (mz_up (mz_up (mz_up (mz_i xs Ln) 65 4 0) 65 5 0) 65 6 0) 65 7 0) 65 8 0)) rfl ?_
              exact mz_ret rfl
            refine mz_go 8 (c' := (30, [some (.ref 65), none], [.int 0, .ref 65], mz_up (mz_up (mz_up (mz_up (mz_up (mz_i xs Ln) 65 4 0) 65 5 0) 65 6 0) 65 7 0) 65 8 0)) rfl ?_
            refine mz_do (R := mz_r148) (as := [.ref 65, .int 0]) (rest := []) (r1 := some (.int (-1))) (m1 := mz_up (mz_up (mz_up (mz_up (mz_up (mz_i xs Ln) 65 4 0) 65 5 0) 65 6 0) 65 7 0) 65 8 0) rfl ⟨?_, rfl⟩ ?_
            · refine mz_go 11 (c' := (73, [some (.ref 65), some (.int 0), some (.int (-1)), some (.int 0), none], [.int (-1)], mz_up (mz_up (mz_up (mz_up (mz_up (mz_i xs Ln) 65 4 0) 65 5 0) 65 6 0) 65 7 0) 65 8 0)) rfl ?_
              exact mz_ret rfl
            refine mz_go 4 (c' := (59, [some (.ref 65), some (.int (-1))], [.int 9], mz_up (mz_up (mz_up (mz_up (mz_up (mz_i xs Ln) 65 4 0) 65 5 0) 65 6 0) 65 7 0) 65 8 0)) rfl ?_
            exact mz_ret rfl
          exact mz_ret rfl
set_option maxHeartbeats 4000000 in
set_option maxRecDepth 100000 in
theorem p1_holds (xs : Nat → Int32) (Ln : Nat) (a : Int32) (b : Int32) : ∃ v m1 m2, mz_Me 100 mz_r84 [.ref 0, .int a, .int b] (mz_i xs Ln) (some (.int v)) m1 ∧ mz_Me 100 mz_r182 [.ref 65, .int a, .int b] m1 (some (.int v)) m2 := by
  by_cases h1 : a < 0
  · refine ⟨(-1000001), mz_up (mz_i xs Ln) 64 1 1, mz_up (mz_up (mz_i xs Ln) 64 1 1) 68 1 1, ⟨?_, rfl⟩, ⟨?_, rfl⟩⟩
    · refine mz_go 4 (c' := (8, [some (.ref 0), some (.int a), some (.int b), none, none, none, none], [.int a, .ref 2], (mz_i xs Ln))) rfl ?_
      refine mz_do (R := mz_r21) (as := [.ref 2, .int a]) (rest := []) (r1 := some (.int 0)) (m1 := (mz_i xs Ln)) rfl ⟨?_, rfl⟩ ?_
      · refine mz_go 2 (c' := (if a < 0 then 22 else 4, [some (.ref 2), some (.int a)], [], (mz_i xs Ln))) rfl ?_
        refine mz_ifT h1 ?_
        refine mz_go 1 (c' := (23, [some (.ref 2), some (.int a)], [.int 0], (mz_i xs Ln))) rfl ?_
        exact mz_ret rfl
      refine mz_go 3 (c' := (27, [some (.ref 0), some (.int a), some (.int b), none, none, none, none], [.int 1, .ref 0], (mz_i xs Ln))) rfl ?_
      refine mz_do (R := mz_r109) (as := [.ref 0, .int 1]) (rest := []) (r1 := some (.int (-1000001))) (m1 := mz_up (mz_i xs Ln) 64 1 1) rfl ⟨?_, rfl⟩ ?_
      · refine mz_go 3 (c' := (4, [some (.ref 0), some (.int 1)], [.int 6, .int 1, .int 1], (mz_i xs Ln))) rfl ?_
        refine mz_do (R := mz_r121) (as := [.int 1, .int 1, .int 6]) (rest := []) (r1 := some (.int 1)) (m1 := (mz_i xs Ln)) rfl ⟨?_, rfl⟩ ?_
        · refine mz_go 8 (c' := (15, [some (.int 1), some (.int 1), some (.int 6)], [.int 1], (mz_i xs Ln))) rfl ?_
          exact mz_ret rfl
        refine mz_go 12 (c' := (25, [some (.ref 0), some (.int 1)], [.int (-1000001)], mz_up (mz_i xs Ln) 64 1 1)) rfl ?_
        exact mz_ret rfl
      exact mz_ret rfl
    · refine mz_go 2 (c' := (2, [some (.ref 65), some (.int a), some (.int b), none, none, none], [.int a, .ref 65], mz_up (mz_i xs Ln) 64 1 1)) rfl ?_
      refine mz_do (R := mz_r132) (as := [.ref 65, .int a]) (rest := []) (r1 := some (.int 0)) (m1 := mz_up (mz_i xs Ln) 64 1 1) rfl ⟨?_, rfl⟩ ?_
      · refine mz_go 7 (c' := (9, [some (.ref 65), some (.int a)], [.int 1, .int 0, .int 0, .int a], mz_up (mz_i xs Ln) 64 1 1)) rfl ?_
        refine mz_go 1 (c' := (10, [some (.ref 65), some (.int a)], [.int (-1), .int 0, .int a], mz_up (mz_i xs Ln) 64 1 1)) rfl ?_
        refine mz_do (R := mz_r128) (as := [.int a, .int 0, .int (-1)]) (rest := []) (r1 := some (.int 0)) (m1 := mz_up (mz_i xs Ln) 64 1 1) rfl ⟨?_, rfl⟩ ?_
        · refine mz_go 3 (c' := (if a < 0 then 14 else 5, [some (.int a), some (.int 0), some (.int (-1))], [], mz_up (mz_i xs Ln) 64 1 1)) rfl ?_
          refine mz_ifT h1 ?_
          refine mz_go 1 (c' := (15, [some (.int a), some (.int 0), some (.int (-1))], [.int 0], mz_up (mz_i xs Ln) 64 1 1)) rfl ?_
          exact mz_ret rfl
        exact mz_ret rfl
      refine mz_go 3 (c' := (21, [some (.ref 65), some (.int a), some (.int b), none, none, none], [.int 1, .ref 65], mz_up (mz_i xs Ln) 64 1 1)) rfl ?_
      refine mz_do (R := mz_r127) (as := [.ref 65, .int 1]) (rest := []) (r1 := some (.int (-1000001))) (m1 := mz_up (mz_up (mz_i xs Ln) 64 1 1) 68 1 1) rfl ⟨?_, rfl⟩ ?_
      · refine mz_go 11 (c' := (14, [some (.ref 65), some (.int 1)], [.int (-1000001)], mz_up (mz_up (mz_i xs Ln) 64 1 1) 68 1 1)) rfl ?_
        exact mz_ret rfl
      exact mz_ret rfl
  · refine ⟨(-1000001), mz_up (mz_i xs Ln) 64 1 1, mz_up (mz_up (mz_i xs Ln) 64 1 1) 68 1 1, ⟨?_, rfl⟩, ⟨?_, rfl⟩⟩
    · refine mz_go 4 (c' := (8, [some (.ref 0), some (.int a), some (.int b), none, none, none, none], [.int a, .ref 2], (mz_i xs Ln))) rfl ?_
      refine mz_do (R := mz_r21) (as := [.ref 2, .int a]) (rest := []) (r1 := some (.int 0)) (m1 := (mz_i xs Ln)) rfl ⟨?_, rfl⟩ ?_
      · refine mz_go 2 (c' := (if a < 0 then 22 else 4, [some (.ref 2), some (.int a)], [], (mz_i xs Ln))) rfl ?_
        refine mz_ifF h1 ?_
        refine mz_go 4 (c' := (if 0 ≤ a then 22 else 12, [some (.ref 2), some (.int a)], [], (mz_i xs Ln))) rfl ?_
        refine mz_ifT (by have hl : (0 : Int) ≤ (a).toInt := Int32.le_iff_toInt_le.mp (Int32.not_lt.mp h1); exact Int32.le_iff_toInt_le.mpr (show (0 : Int) ≤ (a).toInt by omega)) ?_
        refine mz_go 1 (c' := (23, [some (.ref 2), some (.int a)], [.int 0], (mz_i xs Ln))) rfl ?_
        exact mz_ret rfl
      refine mz_go 3 (c' := (27, [some (.ref 0), some (.int a), some (.int b), none, none, none, none], [.int 1, .ref 0], (mz_i xs Ln))) rfl ?_
      refine mz_do (R := mz_r109) (as := [.ref 0, .int 1]) (rest := []) (r1 := some (.int (-1000001))) (m1 := mz_up (mz_i xs Ln) 64 1 1) rfl ⟨?_, rfl⟩ ?_
      · refine mz_go 3 (c' := (4, [some (.ref 0), some (.int 1)], [.int 6, .int 1, .int 1], (mz_i xs Ln))) rfl ?_
        refine mz_do (R := mz_r121) (as := [.int 1, .int 1, .int 6]) (rest := []) (r1 := some (.int 1)) (m1 := (mz_i xs Ln)) rfl ⟨?_, rfl⟩ ?_
        · refine mz_go 8 (c' := (15, [some (.int 1), some (.int 1), some (.int 6)], [.int 1], (mz_i xs Ln))) rfl ?_
          exact mz_ret rfl
        refine mz_go 12 (c' := (25, [some (.ref 0), some (.int 1)], [.int (-1000001)], mz_up (mz_i xs Ln) 64 1 1)) rfl ?_
        exact mz_ret rfl
      exact mz_ret rfl
    · refine mz_go 2 (c' := (2, [some (.ref 65), some (.int a), some (.int b), none, none, none], [.int a, .ref 65], mz_up (mz_i xs Ln) 64 1 1)) rfl ?_
      refine mz_do (R := mz_r132) (as := [.ref 65, .int a]) (rest := []) (r1 := some (.int 0)) (m1 := mz_up (mz_i xs Ln) 64 1 1) rfl ⟨?_, rfl⟩ ?_
      · refine mz_go 7 (c' := (9, [some (.ref 65), some (.int a)], [.int 1, .int 0, .int 0, .int a], mz_up (mz_i xs Ln) 64 1 1)) rfl ?_
        refine mz_go 1 (c' := (10, [some (.ref 65), some (.int a)], [.int (-1), .int 0, .int a], mz_up (mz_i xs Ln) 64 1 1)) rfl ?_
        refine mz_do (R := mz_r128) (as := [.int a, .int 0, .int (-1)]) (rest := []) (r1 := some (.int 0)) (m1 := mz_up (mz_i xs Ln) 64 1 1) rfl ⟨?_, rfl⟩ ?_
        · refine mz_go 3 (c' := (if a < 0 then 14 else 5, [some (.int a), some (.int 0), some (.int (-1))], [], mz_up (mz_i xs Ln) 64 1 1)) rfl ?_
          refine mz_ifF h1 ?_
          refine mz_go 3 (c' := (if (-1) < a then 14 else 10, [some (.int a), some (.int 0), some (.int (-1))], [], mz_up (mz_i xs Ln) 64 1 1)) rfl ?_
          refine mz_ifT (by have hl : (0 : Int) ≤ (a).toInt := Int32.le_iff_toInt_le.mp (Int32.not_lt.mp h1); exact Int32.lt_iff_toInt_lt.mpr (show (-1 : Int) < (a).toInt by omega)) ?_
          refine mz_go 1 (c' := (15, [some (.int a), some (.int 0), some (.int (-1))], [.int 0], mz_up (mz_i xs Ln) 64 1 1)) rfl ?_
          exact mz_ret rfl
        exact mz_ret rfl
      refine mz_go 3 (c' := (21, [some (.ref 65), some (.int a), some (.int b), none, none, none], [.int 1, .ref 65], mz_up (mz_i xs Ln) 64 1 1)) rfl ?_
      refine mz_do (R := mz_r127) (as := [.ref 65, .int 1]) (rest := []) (r1 := some (.int (-1000001))) (m1 := mz_up (mz_up (mz_i xs Ln) 64 1 1) 68 1 1) rfl ⟨?_, rfl⟩ ?_
      · refine mz_go 11 (c' := (14, [some (.ref 65), some (.int 1)], [.int (-1000001)], mz_up (mz_up (mz_i xs Ln) 64 1 1) 68 1 1)) rfl ?_
        exact mz_ret rfl
      exact mz_ret rfl
set_option maxHeartbeats 4000000 in
set_option maxRecDepth 100000 in
theorem p1_cell (xs : Nat → Int32) (Ln : Nat) (a : Int32) (b : Int32) : ∃ v m1 m2, mz_Me 100 mz_r86 [.ref 0, .int a, .int b] (mz_i xs Ln) (some (.int v)) m1 ∧ mz_Me 100 mz_r191 [.ref 65, .int a, .int b] m1 (some (.int v)) m2 := by
  refine ⟨(-1000002), mz_up (mz_i xs Ln) 64 2 1, mz_up (mz_up (mz_i xs Ln) 64 2 1) 68 2 1, ⟨?_, rfl⟩, ⟨?_, rfl⟩⟩
  · refine mz_go 3 (c' := (7, [some (.ref 0), some (.int a), some (.int b)], [.ref 20], (mz_i xs Ln))) rfl ?_
    refine mz_do (R := mz_r2) (as := [.ref 20]) (rest := []) (r1 := some (.int 0)) (m1 := (mz_i xs Ln)) rfl ⟨?_, rfl⟩ ?_
    · refine mz_go 4 (c' := (19, [some (.ref 20)], [.int 0], (mz_i xs Ln))) rfl ?_
      exact mz_ret rfl
    refine mz_go 3 (c' := (15, [some (.ref 0), some (.int a), some (.int b)], [.int 2, .ref 0], (mz_i xs Ln))) rfl ?_
    refine mz_do (R := mz_r109) (as := [.ref 0, .int 2]) (rest := []) (r1 := some (.int (-1000002))) (m1 := mz_up (mz_i xs Ln) 64 2 1) rfl ⟨?_, rfl⟩ ?_
    · refine mz_go 3 (c' := (4, [some (.ref 0), some (.int 2)], [.int 6, .int 1, .int 2], (mz_i xs Ln))) rfl ?_
      refine mz_do (R := mz_r121) (as := [.int 2, .int 1, .int 6]) (rest := []) (r1 := some (.int 1)) (m1 := (mz_i xs Ln)) rfl ⟨?_, rfl⟩ ?_
      · refine mz_go 8 (c' := (15, [some (.int 2), some (.int 1), some (.int 6)], [.int 1], (mz_i xs Ln))) rfl ?_
        exact mz_ret rfl
      refine mz_go 12 (c' := (25, [some (.ref 0), some (.int 2)], [.int (-1000002)], mz_up (mz_i xs Ln) 64 2 1)) rfl ?_
      exact mz_ret rfl
    exact mz_ret rfl
  · refine mz_go 1 (c' := (1, [some (.ref 65), some (.int a), some (.int b)], [.ref 65], mz_up (mz_i xs Ln) 64 2 1)) rfl ?_
    refine mz_do (R := mz_r185) (as := [.ref 65]) (rest := []) (r1 := some (.int 0)) (m1 := mz_up (mz_i xs Ln) 64 2 1) rfl ⟨?_, rfl⟩ ?_
    · refine mz_go 1 (c' := (1, [some (.ref 65)], [.ref 65], mz_up (mz_i xs Ln) 64 2 1)) rfl ?_
      refine mz_do (R := mz_r183) (as := [.ref 65]) (rest := []) (r1 := some (.int 0)) (m1 := mz_up (mz_i xs Ln) 64 2 1) rfl ⟨?_, rfl⟩ ?_
      · refine mz_go 4 (c' := (7, [some (.ref 65)], [.int 0], mz_up (mz_i xs Ln) 64 2 1)) rfl ?_
        exact mz_ret rfl
      refine mz_go 2 (c' := (12, [some (.ref 65)], [.int 0], mz_up (mz_i xs Ln) 64 2 1)) rfl ?_
      exact mz_ret rfl
    refine mz_go 3 (c' := (9, [some (.ref 65), some (.int a), some (.int b)], [.int 2, .ref 65], mz_up (mz_i xs Ln) 64 2 1)) rfl ?_
    refine mz_do (R := mz_r127) (as := [.ref 65, .int 2]) (rest := []) (r1 := some (.int (-1000002))) (m1 := mz_up (mz_up (mz_i xs Ln) 64 2 1) 68 2 1) rfl ⟨?_, rfl⟩ ?_
    · refine mz_go 11 (c' := (14, [some (.ref 65), some (.int 2)], [.int (-1000002)], mz_up (mz_up (mz_i xs Ln) 64 2 1) 68 2 1)) rfl ?_
      exact mz_ret rfl
    exact mz_ret rfl
