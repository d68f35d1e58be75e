set_option maxHeartbeats 4000000 in
set_option maxRecDepth 100000 in
theorem p1_picture (xs : Nat → Int32) (Ln : Nat) (a : Int32) (b : Int32) (c : Int32) (d : Int32) : ∃ v m1 m2, mz_Me 100 mz_r85 [.ref 0, .int a, .int b, .int c, .int d] (mz_i xs Ln) (some (.int v)) m1 ∧ mz_Me 100 mz_r190 [.ref 65, .int a, .int b, .int c, .int d] m1 (some (.int v)) m2 := by
  by_cases h1 : a < (-100)
  · refine ⟨(-1000001), mz_up (mz_i xs Ln) 64 1 1, mz_up (mz_up (mz_i xs Ln) 64 1 1) 68 1 1, ⟨?_, rfl⟩, ⟨?_, rfl⟩⟩
    · refine mz_go 10 (c' := (14, [some (.ref 0), some (.int a), some (.int b), some (.int c), some (.int d), some (.int (c / 10)), some (.int (c - c / 10 * 10)), none, none, none, none], [.int b, .int a], (mz_i xs Ln))) rfl ?_
      refine mz_do (R := mz_r116) (as := [.int a, .int b]) (rest := []) (r1 := some (.int 0)) (m1 := (mz_i xs Ln)) rfl ⟨?_, rfl⟩ ?_
      · refine mz_go 3 (c' := (5, [some (.int a), some (.int b)], [.int 100, .int (-100), .int a], (mz_i xs Ln))) rfl ?_
        refine mz_do (R := mz_r121) (as := [.int a, .int (-100), .int 100]) (rest := []) (r1 := some (.int 0)) (m1 := (mz_i xs Ln)) rfl ⟨?_, rfl⟩ ?_
        · refine mz_go 3 (c' := (if a < (-100) then 14 else 5, [some (.int a), some (.int (-100)), some (.int 100)], [], (mz_i xs Ln))) rfl ?_
          refine mz_ifT h1 ?_
          refine mz_go 1 (c' := (15, [some (.int a), some (.int (-100)), some (.int 100)], [.int 0], (mz_i xs Ln))) rfl ?_
          exact mz_ret rfl
        refine mz_go 2 (c' := (27, [some (.int a), some (.int b)], [.int 0], (mz_i xs Ln))) rfl ?_
        exact mz_ret rfl
      refine mz_go 3 (c' := (79, [some (.ref 0), some (.int a), some (.int b), some (.int c), some (.int d), some (.int (c / 10)), some (.int (c - c / 10 * 10)), none, none, none, none], [.int 1, .ref 0], (mz_i xs Ln))) rfl ?_
      refine mz_do (R := mz_r109) (as := [.ref 0, .int 1]) (rest := []) (r1 := some (.int (-1000001))) (m1 := mz_up (mz_i xs Ln) 64 1 1) rfl ⟨?_, rfl⟩ ?_
      · refine mz_go 3 (c' := (4, [some (.ref 0), some (.int 1)], [.int 6, .int 1, .int 1], (mz_i xs Ln))) rfl ?_
        refine mz_do (R := mz_r121) (as := [.int 1, .int 1, .int 6]) (rest := []) (r1 := some (.int 1)) (m1 := (mz_i xs Ln)) rfl ⟨?_, rfl⟩ ?_
        · refine mz_go 8 (c' := (15, [some (.int 1), some (.int 1), some (.int 6)], [.int 1], (mz_i xs Ln))) rfl ?_
          exact mz_ret rfl
        refine mz_go 12 (c' := (25, [some (.ref 0), some (.int 1)], [.int (-1000001)], mz_up (mz_i xs Ln) 64 1 1)) rfl ?_
        exact mz_ret rfl
      exact mz_ret rfl
    · refine mz_go 10 (c' := (14, [some (.ref 65), some (.int a), some (.int b), some (.int c), some (.int d), some (.int (c / 10)), some (.int (c - c / 10 * 10)), none, none, none], [.int b, .int a], mz_up (mz_i xs Ln) 64 1 1)) rfl ?_
      refine mz_do (R := mz_r131) (as := [.int a, .int b]) (rest := []) (r1 := some (.int 0)) (m1 := mz_up (mz_i xs Ln) 64 1 1) rfl ⟨?_, rfl⟩ ?_
      · refine mz_go 3 (c' := (5, [some (.int a), some (.int b)], [.int 100, .int (-100), .int a], mz_up (mz_i xs Ln) 64 1 1)) rfl ?_
        refine mz_do (R := mz_r128) (as := [.int a, .int (-100), .int 100]) (rest := []) (r1 := some (.int 0)) (m1 := mz_up (mz_i xs Ln) 64 1 1) rfl ⟨?_, rfl⟩ ?_
        · refine mz_go 3 (c' := (if a < (-100) then 14 else 5, [some (.int a), some (.int (-100)), some (.int 100)], [], mz_up (mz_i xs Ln) 64 1 1)) rfl ?_
          refine mz_ifT h1 ?_
          refine mz_go 1 (c' := (15, [some (.int a), some (.int (-100)), some (.int 100)], [.int 0], mz_up (mz_i xs Ln) 64 1 1)) rfl ?_
          exact mz_ret rfl
        refine mz_go 2 (c' := (27, [some (.int a), some (.int b)], [.int 0], mz_up (mz_i xs Ln) 64 1 1)) rfl ?_
        exact mz_ret rfl
      refine mz_go 7 (c' := (91, [some (.ref 65), some (.int a), some (.int b), some (.int c), some (.int d), some (.int (c / 10)), some (.int (c - c / 10 * 10)), some (.int 0), none, none], [.int 1, .ref 65], mz_up (mz_i xs Ln) 64 1 1)) rfl ?_
      refine mz_do (R := mz_r127) (as := [.ref 65, .int 1]) (rest := []) (r1 := some (.int (-1000001))) (m1 := mz_up (mz_up (mz_i xs Ln) 64 1 1) 68 1 1) rfl ⟨?_, rfl⟩ ?_
      · refine mz_go 11 (c' := (14, [some (.ref 65), some (.int 1)], [.int (-1000001)], mz_up (mz_up (mz_i xs Ln) 64 1 1) 68 1 1)) rfl ?_
        exact mz_ret rfl
      exact mz_ret rfl
  · by_cases h2 : 100 < a
    · refine ⟨(-1000001), mz_up (mz_i xs Ln) 64 1 1, mz_up (mz_up (mz_i xs Ln) 64 1 1) 68 1 1, ⟨?_, rfl⟩, ⟨?_, rfl⟩⟩
      · refine mz_go 10 (c' := (14, [some (.ref 0), some (.int a), some (.int b), some (.int c), some (.int d), some (.int (c / 10)), some (.int (c - c / 10 * 10)), none, none, none, none], [.int b, .int a], (mz_i xs Ln))) rfl ?_
        refine mz_do (R := mz_r116) (as := [.int a, .int b]) (rest := []) (r1 := some (.int 0)) (m1 := (mz_i xs Ln)) rfl ⟨?_, rfl⟩ ?_
        · refine mz_go 3 (c' := (5, [some (.int a), some (.int b)], [.int 100, .int (-100), .int a], (mz_i xs Ln))) rfl ?_
          refine mz_do (R := mz_r121) (as := [.int a, .int (-100), .int 100]) (rest := []) (r1 := some (.int 0)) (m1 := (mz_i xs Ln)) rfl ⟨?_, rfl⟩ ?_
          · refine mz_go 3 (c' := (if a < (-100) then 14 else 5, [some (.int a), some (.int (-100)), some (.int 100)], [], (mz_i xs Ln))) rfl ?_
            refine mz_ifF h1 ?_
            refine mz_go 3 (c' := (if 100 < a then 14 else 10, [some (.int a), some (.int (-100)), some (.int 100)], [], (mz_i xs Ln))) rfl ?_
            refine mz_ifT h2 ?_
            refine mz_go 1 (c' := (15, [some (.int a), some (.int (-100)), some (.int 100)], [.int 0], (mz_i xs Ln))) rfl ?_
            exact mz_ret rfl
          refine mz_go 2 (c' := (27, [some (.int a), some (.int b)], [.int 0], (mz_i xs Ln))) rfl ?_
          exact mz_ret rfl
        refine mz_go 3 (c' := (79, [some (.ref 0), some (.int a), some (.int b), some (.int c), some (.int d), some (.int (c / 10)), some (.int (c - c / 10 * 10)), none, none, none, none], [.int 1, .ref 0], (mz_i xs Ln))) rfl ?_
        refine mz_do (R := mz_r109) (as := [.ref 0, .int 1]) (rest := []) (r1 := some (.int (-1000001))) (m1 := mz_up (mz_i xs Ln) 64 1 1) rfl ⟨?_, rfl⟩ ?_
        · refine mz_go 3 (c' := (4, [some (.ref 0), some (.int 1)], [.int 6, .int 1, .int 1], (mz_i xs Ln))) rfl ?_
          refine mz_do (R := mz_r121) (as := [.int 1, .int 1, .int 6]) (rest := []) (r1 := some (.int 1)) (m1 := (mz_i xs Ln)) rfl ⟨?_, rfl⟩ ?_
          · refine mz_go 8 (c' := (15, [some (.int 1), some (.int 1), some (.int 6)], [.int 1], (mz_i xs Ln))) rfl ?_
            exact mz_ret rfl
          refine mz_go 12 (c' := (25, [some (.ref 0), some (.int 1)], [.int (-1000001)], mz_up (mz_i xs Ln) 64 1 1)) rfl ?_
          exact mz_ret rfl
        exact mz_ret rfl
      · refine mz_go 10 (c' := (14, [some (.ref 65), some (.int a), some (.int b), some (.int c), some (.int d), some (.int (c / 10)), some (.int (c - c / 10 * 10)), none, none, none], [.int b, .int a], mz_up (mz_i xs Ln) 64 1 1)) rfl ?_
        refine mz_do (R := mz_r131) (as := [.int a, .int b]) (rest := []) (r1 := some (.int 0)) (m1 := mz_up (mz_i xs Ln) 64 1 1) rfl ⟨?_, rfl⟩ ?_
        · refine mz_go 3 (c' := (5, [some (.int a), some (.int b)], [.int 100, .int (-100), .int a], mz_up (mz_i xs Ln) 64 1 1)) rfl ?_
          refine mz_do (R := mz_r128) (as := [.int a, .int (-100), .int 100]) (rest := []) (r1 := some (.int 0)) (m1 := mz_up (mz_i xs Ln) 64 1 1) rfl ⟨?_, rfl⟩ ?_
          · refine mz_go 3 (c' := (if a < (-100) then 14 else 5, [some (.int a), some (.int (-100)), some (.int 100)], [], mz_up (mz_i xs Ln) 64 1 1)) rfl ?_
            refine mz_ifF h1 ?_
            refine mz_go 3 (c' := (if 100 < a then 14 else 10, [some (.int a), some (.int (-100)), some (.int 100)], [], mz_up (mz_i xs Ln) 64 1 1)) rfl ?_
            refine mz_ifT h2 ?_
            refine mz_go 1 (c' := (15, [some (.int a), some (.int (-100)), some (.int 100)], [.int 0], mz_up (mz_i xs Ln) 64 1 1)) rfl ?_
            exact mz_ret rfl
          refine mz_go 2 (c' := (27, [some (.int a), some (.int b)], [.int 0], mz_up (mz_i xs Ln) 64 1 1)) rfl ?_
          exact mz_ret rfl
        refine mz_go 7 (c' := (91, [some (.ref 65), some (.int a), some (.int b), some (.int c), some (.int d), some (.int (c / 10)), some (.int (c - c / 10 * 10)), some (.int 0), none, none], [.int 1, .ref 65], mz_up (mz_i xs Ln) 64 1 1)) rfl ?_
        refine mz_do (R := mz_r127) (as := [.ref 65, .int 1]) (rest := []) (r1 := some (.int (-1000001))) (m1 := mz_up (mz_up (mz_i xs Ln) 64 1 1) 68 1 1) rfl ⟨?_, rfl⟩ ?_
        · refine mz_go 11 (c' := (14, [some (.ref 65), some (.int 1)], [.int (-1000001)], mz_up (mz_up (mz_i xs Ln) 64 1 1) 68 1 1)) rfl ?_
          exact mz_ret rfl
        exact mz_ret rfl
    · by_cases h3 : b < (-100)
      · refine ⟨(-1000001), mz_up (mz_i xs Ln) 64 1 1, mz_up (mz_up (mz_i xs Ln) 64 1 1) 68 1 1, ⟨?_, rfl⟩, ⟨?_, rfl⟩⟩
        · refine mz_go 10 (c' := (14, [some (.ref 0), some (.int a), some (.int b), some (.int c), some (.int d), some (.int (c / 10)), some (.int (c - c / 10 * 10)), none, none, none, none], [.int b, .int a], (mz_i xs Ln))) rfl ?_
          refine mz_do (R := mz_r116) (as := [.int a, .int b]) (rest := []) (r1 := some (.int 0)) (m1 := (mz_i xs Ln)) rfl ⟨?_, rfl⟩ ?_
          · refine mz_go 3 (c' := (5, [some (.int a), some (.int b)], [.int 100, .int (-100), .int a], (mz_i xs Ln))) rfl ?_
            refine mz_do (R := mz_r121) (as := [.int a, .int (-100), .int 100]) (rest := []) (r1 := some (.int 1)) (m1 := (mz_i xs Ln)) rfl ⟨?_, rfl⟩ ?_
            · refine mz_go 3 (c' := (if a < (-100) then 14 else 5, [some (.int a), some (.int (-100)), some (.int 100)], [], (mz_i xs Ln))) rfl ?_
              refine mz_ifF h1 ?_
              refine mz_go 3 (c' := (if 100 < a then 14 else 10, [some (.int a), some (.int (-100)), some (.int 100)], [], (mz_i xs Ln))) rfl ?_
              refine mz_ifF h2 ?_
              refine mz_go 2 (c' := (15, [some (.int a), some (.int (-100)), some (.int 100)], [.int 1], (mz_i xs Ln))) rfl ?_
              exact mz_ret rfl
            refine mz_go 4 (c' := (16, [some (.int a), some (.int b)], [.int 100, .int (-100), .int b], (mz_i xs Ln))) rfl ?_
            refine mz_do (R := mz_r121) (as := [.int b, .int (-100), .int 100]) (rest := []) (r1 := some (.int 0)) (m1 := (mz_i xs Ln)) rfl ⟨?_, rfl⟩ ?_
            · refine mz_go 3 (c' := (if b < (-100) then 14 else 5, [some (.int b), some (.int (-100)), some (.int 100)], [], (mz_i xs Ln))) rfl ?_
              refine mz_ifT h3 ?_
              refine mz_go 1 (c' := (15, [some (.int b), some (.int (-100)), some (.int 100)], [.int 0], (mz_i xs Ln))) rfl ?_
              exact mz_ret rfl
            refine mz_go 2 (c' := (27, [some (.int a), some (.int b)], [.int 0], (mz_i xs Ln))) rfl ?_
            exact mz_ret rfl
          refine mz_go 3 (c' := (79, [some (.ref 0), some (.int a), some (.int b), some (.int c), some (.int d), some (.int (c / 10)), some (.int (c - c / 10 * 10)), none, none, none, none], [.int 1, .ref 0], (mz_i xs Ln))) rfl ?_
          refine mz_do (R := mz_r109) (as := [.ref 0, .int 1]) (rest := []) (r1 := some (.int (-1000001))) (m1 := mz_up (mz_i xs Ln) 64 1 1) rfl ⟨?_, rfl⟩ ?_
          · refine mz_go 3 (c' := (4, [some (.ref 0), some (.int 1)], [.int 6, .int 1, .int 1], (mz_i xs Ln))) rfl ?_
            refine mz_do (R := mz_r121) (as := [.int 1, .int 1, .int 6]) (rest := []) (r1 := some (.int 1)) (m1 := (mz_i xs Ln)) rfl ⟨?_, rfl⟩ ?_
            · refine mz_go 8 (c' := (15, [some (.int 1), some (.int 1), some (.int 6)], [.int 1], (mz_i xs Ln))) rfl ?_
              exact mz_ret rfl
            refine mz_go 12 (c' := (25, [some (.ref 0), some (.int 1)], [.int (-1000001)], mz_up (mz_i xs Ln) 64 1 1)) rfl ?_
            exact mz_ret rfl
          exact mz_ret rfl
        · refine mz_go 10 (c' := (14, [some (.ref 65), some (.int a), some (.int b), some (.int c), some (.int d), some (.int (c / 10)), some (.int (c - c / 10 * 10)), none, none, none], [.int b, .int a], mz_up (mz_i xs Ln) 64 1 1)) rfl ?_
          refine mz_do (R := mz_r131) (as := [.int a, .int b]) (rest := []) (r1 := some (.int 0)) (m1 := mz_up (mz_i xs Ln) 64 1 1) rfl ⟨?_, rfl⟩ ?_
          · refine mz_go 3 (c' := (5, [some (.int a), some (.int b)], [.int 100, .int (-100), .int a], mz_up (mz_i xs Ln) 64 1 1)) rfl ?_
            refine mz_do (R := mz_r128) (as := [.int a, .int (-100), .int 100]) (rest := []) (r1 := some (.int 1)) (m1 := mz_up (mz_i xs Ln) 64 1 1) rfl ⟨?_, rfl⟩ ?_
            · refine mz_go 3 (c' := (if a < (-100) then 14 else 5, [some (.int a), some (.int (-100)), some (.int 100)], [], mz_up (mz_i xs Ln) 64 1 1)) rfl ?_
              refine mz_ifF h1 ?_
              refine mz_go 3 (c' := (if 100 < a then 14 else 10, [some (.int a), some (.int (-100)), some (.int 100)], [], mz_up (mz_i xs Ln) 64 1 1)) rfl ?_
              refine mz_ifF h2 ?_
              refine mz_go 2 (c' := (15, [some (.int a), some (.int (-100)), some (.int 100)], [.int 1], mz_up (mz_i xs Ln) 64 1 1)) rfl ?_
              exact mz_ret rfl
            refine mz_go 4 (c' := (16, [some (.int a), some (.int b)], [.int 100, .int (-100), .int b], mz_up (mz_i xs Ln) 64 1 1)) rfl ?_
            refine mz_do (R := mz_r128) (as := [.int b, .int (-100), .int 100]) (rest := []) (r1 := some (.int 0)) (m1 := mz_up (mz_i xs Ln) 64 1 1) rfl ⟨?_, rfl⟩ ?_
            · refine mz_go 3 (c' := (if b < (-100) then 14 else 5, [some (.int b), some (.int (-100)), some (.int 100)], [], mz_up (mz_i xs Ln) 64 1 1)) rfl ?_
              refine mz_ifT h3 ?_
              refine mz_go 1 (c' := (15, [some (.int b), some (.int (-100)), some (.int 100)], [.int 0], mz_up (mz_i xs Ln) 64 1 1)) rfl ?_
              exact mz_ret rfl
            refine mz_go 2 (c' := (27, [some (.int a), some (.int b)], [.int 0], mz_up (mz_i xs Ln) 64 1 1)) rfl ?_
            exact mz_ret rfl
          refine mz_go 7 (c' := (91, [some (.ref 65), some (.int a), some (.int b), some (.int c), some (.int d), some (.int (c / 10)), some (.int (c - c / 10 * 10)), some (.int 0), none, none], [.int 1, .ref 65], mz_up (mz_i xs Ln) 64 1 1)) rfl ?_
          refine mz_do (R := mz_r127) (as := [.ref 65, .int 1]) (rest := []) (r1 := some (.int (-1000001))) (m1 := mz_up (mz_up (mz_i xs Ln) 64 1 1) 68 1 1) rfl ⟨?_, rfl⟩ ?_
          · refine mz_go 11 (c' := (14, [some (.ref 65), some (.int 1)], [.int (-1000001)], mz_up (mz_up (mz_i xs Ln) 64 1 1) 68 1 1)) rfl ?_
            exact mz_ret rfl
          exact mz_ret rfl
      · by_cases h4 : 100 < b
        · refine ⟨(-1000001), mz_up (mz_i xs Ln) 64 1 1, mz_up (mz_up (mz_i xs Ln) 64 1 1) 68 1 1, ⟨?_, rfl⟩, ⟨?_, rfl⟩⟩
          · refine mz_go 10 (c' := (14, [some (.ref 0), some (.int a), some (.int b), some (.int c), some (.int d), some (.int (c / 10)), some (.int (c - c / 10 * 10)), none, none, none, none], [.int b, .int a], (mz_i xs Ln))) rfl ?_
            refine mz_do (R := mz_r116) (as := [.int a, .int b]) (rest := []) (r1 := some (.int 0)) (m1 := (mz_i xs Ln)) rfl ⟨?_, rfl⟩ ?_
            · refine mz_go 3 (c' := (5, [some (.int a), some (.int b)], [.int 100, .int (-100), .int a], (mz_i xs Ln))) rfl ?_
              refine mz_do (R := mz_r121) (as := [.int a, .int (-100), .int 100]) (rest := []) (r1 := some (.int 1)) (m1 := (mz_i xs Ln)) rfl ⟨?_, rfl⟩ ?_
              · refine mz_go 3 (c' := (if a < (-100) then 14 else 5, [some (.int a), some (.int (-100)), some (.int 100)], [], (mz_i xs Ln))) rfl ?_
                refine mz_ifF h1 ?_
                refine mz_go 3 (c' := (if 100 < a then 14 else 10, [some (.int a), some (.int (-100)), some (.int 100)], [], (mz_i xs Ln))) rfl ?_
                refine mz_ifF h2 ?_
                refine mz_go 2 (c' := (15, [some (.int a), some (.int (-100)), some (.int 100)], [.int 1], (mz_i xs Ln))) rfl ?_
                exact mz_ret rfl
              refine mz_go 4 (c' := (16, [some (.int a), some (.int b)], [.int 100, .int (-100), .int b], (mz_i xs Ln))) rfl ?_
              refine mz_do (R := mz_r121) (as := [.int b, .int (-100), .int 100]) (rest := []) (r1 := some (.int 0)) (m1 := (mz_i xs Ln)) rfl ⟨?_, rfl⟩ ?_
              · refine mz_go 3 (c' := (if b < (-100) then 14 else 5, [some (.int b), some (.int (-100)), some (.int 100)], [], (mz_i xs Ln))) rfl ?_
                refine mz_ifF h3 ?_
                refine mz_go 3 (c' := (if 100 < b then 14 else 10, [some (.int b), some (.int (-100)), some (.int 100)], [], (mz_i xs Ln))) rfl ?_
                refine mz_ifT h4 ?_
                refine mz_go 1 (c' := (15, [some (.int b), some (.int (-100)), some (.int 100)], [.int 0], (mz_i xs Ln))) rfl ?_
                exact mz_ret rfl
              refine mz_go 2 (c' := (27, [some (.int a), some (.int b)], [.int 0], (mz_i xs Ln))) rfl ?_
              exact mz_ret rfl
            refine mz_go 3 (c' := (79, [some (.ref 0), some (.int a), some (.int b), some (.int c), some (.int d), some (.int (c / 10)), some (.int (c - c / 10 * 10)), none, none, none, none], [.int 1, .ref 0], (mz_i xs Ln))) rfl ?_
            refine mz_do (R := mz_r109) (as := [.ref 0, .int 1]) (rest := []) (r1 := some (.int (-1000001))) (m1 := mz_up (mz_i xs Ln) 64 1 1) rfl ⟨?_, rfl⟩ ?_
            · refine mz_go 3 (c' := (4, [some (.ref 0), some (.int 1)], [.int 6, .int 1, .int 1], (mz_i xs Ln))) rfl ?_
              refine mz_do (R := mz_r121) (as := [.int 1, .int 1, .int 6]) (rest := []) (r1 := some (.int 1)) (m1 := (mz_i xs Ln)) rfl ⟨?_, rfl⟩ ?_
              · refine mz_go 8 (c' := (15, [some (.int 1), some (.int 1), some (.int 6)], [.int 1], (mz_i xs Ln))) rfl ?_
                exact mz_ret rfl
              refine mz_go 12 (c' := (25, [some (.ref 0), some (.int 1)], [.int (-1000001)], mz_up (mz_i xs Ln) 64 1 1)) rfl ?_
              exact mz_ret rfl
            exact mz_ret rfl
          · refine mz_go 10 (c' := (14, [some (.ref 65), some (.int a), some (.int b), some (.int c), some (.int d), some (.int (c / 10)), some (.int (c - c / 10 * 10)), none, none, none], [.int b, .int a], mz_up (mz_i xs Ln) 64 1 1)) rfl ?_
            refine mz_do (R := mz_r131) (as := [.int a, .int b]) (rest := []) (r1 := some (.int 0)) (m1 := mz_up (mz_i xs Ln) 64 1 1) rfl ⟨?_, rfl⟩ ?_
            · refine mz_go 3 (c' := (5, [some (.int a), some (.int b)], [.int 100, .int (-100), .int a], mz_up (mz_i xs Ln) 64 1 1)) rfl ?_
              refine mz_do (R := mz_r128) (as := [.int a, .int (-100), .int 100]) (rest := []) (r1 := some (.int 1)) (m1 := mz_up (mz_i xs Ln) 64 1 1) rfl ⟨?_, rfl⟩ ?_
              · refine mz_go 3 (c' := (if a < (-100) then 14 else 5, [some (.int a), some (.int (-100)), some (.int 100)], [], mz_up (mz_i xs Ln) 64 1 1)) rfl ?_
                refine mz_ifF h1 ?_
                refine mz_go 3 (c' := (if 100 < a then 14 else 10, [some (.int a), some (.int (-100)), some (.int 100)], [], mz_up (mz_i xs Ln) 64 1 1)) rfl ?_
                refine mz_ifF h2 ?_
                refine mz_go 2 (c' := (15, [some (.int a), some (.int (-100)), some (.int 100)], [.int 1], mz_up (mz_i xs Ln) 64 1 1)) rfl ?_
                exact mz_ret rfl
              refine mz_go 4 (c' := (16, [some (.int a), some (.int b)], [.int 100, .int (-100), .int b], mz_up (mz_i xs Ln) 64 1 1)) rfl ?_
              refine mz_do (R := mz_r128) (as := [.int b, .int (-100), .int 100]) (rest := []) (r1 := some (.int 0)) (m1 := mz_up (mz_i xs Ln) 64 1 1) rfl ⟨?_, rfl⟩ ?_
              · refine mz_go 3 (c' := (if b < (-100) then 14 else 5, [some (.int b), some (.int (-100)), some (.int 100)], [], mz_up (mz_i xs Ln) 64 1 1)) rfl ?_
                refine mz_ifF h3 ?_
                refine mz_go 3 (c' := (if 100 < b then 14 else 10, [some (.int b), some (.int (-100)), some (.int 100)], [], mz_up (mz_i xs Ln) 64 1 1)) rfl ?_
                refine mz_ifT h4 ?_
                refine mz_go 1 (c' := (15, [some (.int b), some (.int (-100)), some (.int 100)], [.int 0], mz_up (mz_i xs Ln) 64 1 1)) rfl ?_
                exact mz_ret rfl
              refine mz_go 2 (c' := (27, [some (.int a), some (.int b)], [.int 0], mz_up (mz_i xs Ln) 64 1 1)) rfl ?_
              exact mz_ret rfl
            refine mz_go 7 (c' := (91, [some (.ref 65), some (.int a), some (.int b), some (.int c), some (.int d), some (.int (c / 10)), some (.int (c - c / 10 * 10)), some (.int 0), none, none], [.int 1, .ref 65], mz_up (mz_i xs Ln) 64 1 1)) rfl ?_
            refine mz_do (R := mz_r127) (as := [.ref 65, .int 1]) (rest := []) (r1 := some (.int (-1000001))) (m1 := mz_up (mz_up (mz_i xs Ln) 64 1 1) 68 1 1) rfl ⟨?_, rfl⟩ ?_
            · refine mz_go 11 (c' := (14, [some (.ref 65), some (.int 1)], [.int (-1000001)], mz_up (mz_up (mz_i xs Ln) 64 1 1) 68 1 1)) rfl ?_
              exact mz_ret rfl
            exact mz_ret rfl
        · by_cases h5 : d < 1
          · by_cases h6 : (c / 10) < 1
            · refine ⟨(-1000001), mz_up (mz_i xs Ln) 64 1 1, mz_up (mz_up (mz_i xs Ln) 64 1 1) 68 1 1, ⟨?_, rfl⟩, ⟨?_, rfl⟩⟩
              · refine mz_go 10 (c' := (14, [some (.ref 0), some (.int a), some (.int b), some (.int c), some (.int d), some (.int (c / 10)), some (.int (c - c / 10 * 10)), none, none, none, none], [.int b, .int a], (mz_i xs Ln))) rfl ?_
                refine mz_do (R := mz_r116) (as := [.int a, .int b]) (rest := []) (r1 := some (.int 1)) (m1 := (mz_i xs Ln)) rfl ⟨?_, rfl⟩ ?_
                · refine mz_go 3 (c' := (5, [some (.int a), some (.int b)], [.int 100, .int (-100), .int a], (mz_i xs Ln))) rfl ?_
                  refine mz_do (R := mz_r121) (as := [.int a, .int (-100), .int 100]) (rest := []) (r1 := some (.int 1)) (m1 := (mz_i xs Ln)) rfl ⟨?_, rfl⟩ ?_
                  · refine mz_go 3 (c' := (if a < (-100) then 14 else 5, [some (.int a), some (.int (-100)), some (.int 100)], [], (mz_i xs Ln))) rfl ?_
                    refine mz_ifF h1 ?_
                    refine mz_go 3 (c' := (if 100 < a then 14 else 10, [some (.int a), some (.int (-100)), some (.int 100)], [], (mz_i xs Ln))) rfl ?_
                    refine mz_ifF h2 ?_
                    refine mz_go 2 (c' := (15, [some (.int a), some (.int (-100)), some (.int 100)], [.int 1], (mz_i xs Ln))) rfl ?_
                    exact mz_ret rfl
                  refine mz_go 4 (c' := (16, [some (.int a), some (.int b)], [.int 100, .int (-100), .int b], (mz_i xs Ln))) rfl ?_
                  refine mz_do (R := mz_r121) (as := [.int b, .int (-100), .int 100]) (rest := []) (r1 := some (.int 1)) (m1 := (mz_i xs Ln)) rfl ⟨?_, rfl⟩ ?_
                  · refine mz_go 3 (c' := (if b < (-100) then 14 else 5, [some (.int b), some (.int (-100)), some (.int 100)], [], (mz_i xs Ln))) rfl ?_
                    refine mz_ifF h3 ?_
                    refine mz_go 3 (c' := (if 100 < b then 14 else 10, [some (.int b), some (.int (-100)), some (.int 100)], [], (mz_i xs Ln))) rfl ?_
                    refine mz_ifF h4 ?_
                    refine mz_go 2 (c' := (15, [some (.int b), some (.int (-100)), some (.int 100)], [.int 1], (mz_i xs Ln))) rfl ?_
                    exact mz_ret rfl
                  refine mz_go 3 (c' := (27, [some (.int a), some (.int b)], [.int 1], (mz_i xs Ln))) rfl ?_
                  exact mz_ret rfl
                refine mz_go 4 (c' := (25, [some (.ref 0), some (.int a), some (.int b), some (.int c), some (.int d), some (.int (c / 10)), some (.int (c - c / 10 * 10)), none, none, none, none], [.int 40, .int 1, .int d], (mz_i xs Ln))) rfl ?_
                refine mz_do (R := mz_r121) (as := [.int d, .int 1, .int 40]) (rest := []) (r1 := some (.int 0)) (m1 := (mz_i xs Ln)) rfl ⟨?_, rfl⟩ ?_
                · refine mz_go 3 (c' := (if d < 1 then 14 else 5, [some (.int d), some (.int 1), some (.int 40)], [], (mz_i xs Ln))) rfl ?_
                  refine mz_ifT h5 ?_
                  refine mz_go 1 (c' := (15, [some (.int d), some (.int 1), some (.int 40)], [.int 0], (mz_i xs Ln))) rfl ?_
                  exact mz_ret rfl
                refine mz_go 3 (c' := (79, [some (.ref 0), some (.int a), some (.int b), some (.int c), some (.int d), some (.int (c / 10)), some (.int (c - c / 10 * 10)), none, none, none, none], [.int 1, .ref 0], (mz_i xs Ln))) rfl ?_
                refine mz_do (R := mz_r109) (as := [.ref 0, .int 1]) (rest := []) (r1 := some (.int (-1000001))) (m1 := mz_up (mz_i xs Ln) 64 1 1) rfl ⟨?_, rfl⟩ ?_
                · refine mz_go 3 (c' := (4, [some (.ref 0), some (.int 1)], [.int 6, .int 1, .int 1], (mz_i xs Ln))) rfl ?_
                  refine mz_do (R := mz_r121) (as := [.int 1, .int 1, .int 6]) (rest := []) (r1 := some (.int 1)) (m1 := (mz_i xs Ln)) rfl ⟨?_, rfl⟩ ?_
                  · refine mz_go 8 (c' := (15, [some (.int 1), some (.int 1), some (.int 6)], [.int 1], (mz_i xs Ln))) rfl ?_
                    exact mz_ret rfl
                  refine mz_go 12 (c' := (25, [some (.ref 0), some (.int 1)], [.int (-1000001)], mz_up (mz_i xs Ln) 64 1 1)) rfl ?_
                  exact mz_ret rfl
                exact mz_ret rfl
              · refine mz_go 10 (c' := (14, [some (.ref 65), some (.int a), some (.int b), some (.int c), some (.int d), some (.int (c / 10)), some (.int (c - c / 10 * 10)), none, none, none], [.int b, .int a], mz_up (mz_i xs Ln) 64 1 1)) rfl ?_
                refine mz_do (R := mz_r131) (as := [.int a, .int b]) (rest := []) (r1 := some (.int 1)) (m1 := mz_up (mz_i xs Ln) 64 1 1) rfl ⟨?_, rfl⟩ ?_
                · refine mz_go 3 (c' := (5, [some (.int a), some (.int b)], [.int 100, .int (-100), .int a], mz_up (mz_i xs Ln) 64 1 1)) rfl ?_
                  refine mz_do (R := mz_r128) (as := [.int a, .int (-100), .int 100]) (rest := []) (r1 := some (.int 1)) (m1 := mz_up (mz_i xs Ln) 64 1 1) rfl ⟨?_, rfl⟩ ?_
                  · refine mz_go 3 (c' := (if a < (-100) then 14 else 5, [some (.int a), some (.int (-100)), some (.int 100)], [], mz_up (mz_i xs Ln) 64 1 1)) rfl ?_
                    refine mz_ifF h1 ?_
                    refine mz_go 3 (c' := (if 100 < a then 14 else 10, [some (.int a), some (.int (-100)), some (.int 100)], [], mz_up (mz_i xs Ln) 64 1 1)) rfl ?_
                    refine mz_ifF h2 ?_
                    refine mz_go 2 (c' := (15, [some (.int a), some (.int (-100)), some (.int 100)], [.int 1], mz_up (mz_i xs Ln) 64 1 1)) rfl ?_
                    exact mz_ret rfl
                  refine mz_go 4 (c' := (16, [some (.int a), some (.int b)], [.int 100, .int (-100), .int b], mz_up (mz_i xs Ln) 64 1 1)) rfl ?_
                  refine mz_do (R := mz_r128) (as := [.int b, .int (-100), .int 100]) (rest := []) (r1 := some (.int 1)) (m1 := mz_up (mz_i xs Ln) 64 1 1) rfl ⟨?_, rfl⟩ ?_
                  · refine mz_go 3 (c' := (if b < (-100) then 14 else 5, [some (.int b), some (.int (-100)), some (.int 100)], [], mz_up (mz_i xs Ln) 64 1 1)) rfl ?_
                    refine mz_ifF h3 ?_
                    refine mz_go 3 (c' := (if 100 < b then 14 else 10, [some (.int b), some (.int (-100)), some (.int 100)], [], mz_up (mz_i xs Ln) 64 1 1)) rfl ?_
                    refine mz_ifF h4 ?_
                    refine mz_go 2 (c' := (15, [some (.int b), some (.int (-100)), some (.int 100)], [.int 1], mz_up (mz_i xs Ln) 64 1 1)) rfl ?_
                    exact mz_ret rfl
                  refine mz_go 3 (c' := (27, [some (.int a), some (.int b)], [.int 1], mz_up (mz_i xs Ln) 64 1 1)) rfl ?_
                  exact mz_ret rfl
                refine mz_go 4 (c' := (25, [some (.ref 65), some (.int a), some (.int b), some (.int c), some (.int d), some (.int (c / 10)), some (.int (c - c / 10 * 10)), none, none, none], [.int 6, .int 1, .int (c / 10)], mz_up (mz_i xs Ln) 64 1 1)) rfl ?_
                refine mz_do (R := mz_r128) (as := [.int (c / 10), .int 1, .int 6]) (rest := []) (r1 := some (.int 0)) (m1 := mz_up (mz_i xs Ln) 64 1 1) rfl ⟨?_, rfl⟩ ?_
                · refine mz_go 3 (c' := (if (c / 10) < 1 then 14 else 5, [some (.int (c / 10)), some (.int 1), some (.int 6)], [], mz_up (mz_i xs Ln) 64 1 1)) rfl ?_
                  refine mz_ifT h6 ?_
                  refine mz_go 1 (c' := (15, [some (.int (c / 10)), some (.int 1), some (.int 6)], [.int 0], mz_up (mz_i xs Ln) 64 1 1)) rfl ?_
                  exact mz_ret rfl
                refine mz_go 7 (c' := (91, [some (.ref 65), some (.int a), some (.int b), some (.int c), some (.int d), some (.int (c / 10)), some (.int (c - c / 10 * 10)), some (.int 0), none, none], [.int 1, .ref 65], mz_up (mz_i xs Ln) 64 1 1)) rfl ?_
                refine mz_do (R := mz_r127) (as := [.ref 65, .int 1]) (rest := []) (r1 := some (.int (-1000001))) (m1 := mz_up (mz_up (mz_i xs Ln) 64 1 1) 68 1 1) rfl ⟨?_, rfl⟩ ?_
                · refine mz_go 11 (c' := (14, [some (.ref 65), some (.int 1)], [.int (-1000001)], mz_up (mz_up (mz_i xs Ln) 64 1 1) 68 1 1)) rfl ?_
                  exact mz_ret rfl
                exact mz_ret rfl
            · by_cases h7 : 6 < (c / 10)
              · refine ⟨(-1000001), mz_up (mz_i xs Ln) 64 1 1, mz_up (mz_up (mz_i xs Ln) 64 1 1) 68 1 1, ⟨?_, rfl⟩, ⟨?_, rfl⟩⟩
                · refine mz_go 10 (c' := (14, [some (.ref 0), some (.int a), some (.int b), some (.int c), some (.int d), some (.int (c / 10)), some (.int (c - c / 10 * 10)), none, none, none, none], [.int b, .int a], (mz_i xs Ln))) rfl ?_
                  refine mz_do (R := mz_r116) (as := [.int a, .int b]) (rest := []) (r1 := some (.int 1)) (m1 := (mz_i xs Ln)) rfl ⟨?_, rfl⟩ ?_
                  · refine mz_go 3 (c' := (5, [some (.int a), some (.int b)], [.int 100, .int (-100), .int a], (mz_i xs Ln))) rfl ?_
                    refine mz_do (R := mz_r121) (as := [.int a, .int (-100), .int 100]) (rest := []) (r1 := some (.int 1)) (m1 := (mz_i xs Ln)) rfl ⟨?_, rfl⟩ ?_
                    · refine mz_go 3 (c' := (if a < (-100) then 14 else 5, [some (.int a), some (.int (-100)), some (.int 100)], [], (mz_i xs Ln))) rfl ?_
                      refine mz_ifF h1 ?_
                      refine mz_go 3 (c' := (if 100 < a then 14 else 10, [some (.int a), some (.int (-100)), some (.int 100)], [], (mz_i xs Ln))) rfl ?_
                      refine mz_ifF h2 ?_
                      refine mz_go 2 (c' := (15, [some (.int a), some (.int (-100)), some (.int 100)], [.int 1], (mz_i xs Ln))) rfl ?_
                      exact mz_ret rfl
                    refine mz_go 4 (c' := (16, [some (.int a), some (.int b)], [.int 100, .int (-100), .int b], (mz_i xs Ln))) rfl ?_
                    refine mz_do (R := mz_r121) (as := [.int b, .int (-100), .int 100]) (rest := []) (r1 := some (.int 1)) (m1 := (mz_i xs Ln)) rfl ⟨?_, rfl⟩ ?_
                    · refine mz_go 3 (c' := (if b < (-100) then 14 else 5, [some (.int b), some (.int (-100)), some (.int 100)], [], (mz_i xs Ln))) rfl ?_
                      refine mz_ifF h3 ?_
                      refine mz_go 3 (c' := (if 100 < b then 14 else 10, [some (.int b), some (.int (-100)), some (.int 100)], [], (mz_i xs Ln))) rfl ?_
                      refine mz_ifF h4 ?_
                      refine mz_go 2 (c' := (15, [some (.int b), some (.int (-100)), some (.int 100)], [.int 1], (mz_i xs Ln))) rfl ?_
                      exact mz_ret rfl
                    refine mz_go 3 (c' := (27, [some (.int a), some (.int b)], [.int 1], (mz_i xs Ln))) rfl ?_
                    exact mz_ret rfl
                  refine mz_go 4 (c' := (25, [some (.ref 0), some (.int a), some (.int b), some (.int c), some (.int d), some (.int (c / 10)), some (.int (c - c / 10 * 10)), none, none, none, none], [.int 40, .int 1, .int d], (mz_i xs Ln))) rfl ?_
                  refine mz_do (R := mz_r121) (as := [.int d, .int 1, .int 40]) (rest := []) (r1 := some (.int 0)) (m1 := (mz_i xs Ln)) rfl ⟨?_, rfl⟩ ?_
                  · refine mz_go 3 (c' := (if d < 1 then 14 else 5, [some (.int d), some (.int 1), some (.int 40)], [], (mz_i xs Ln))) rfl ?_
                    refine mz_ifT h5 ?_
                    refine mz_go 1 (c' := (15, [some (.int d), some (.int 1), some (.int 40)], [.int 0], (mz_i xs Ln))) rfl ?_
                    exact mz_ret rfl
                  refine mz_go 3 (c' := (79, [some (.ref 0), some (.int a), some (.int b), some (.int c), some (.int d), some (.int (c / 10)), some (.int (c - c / 10 * 10)), none, none, none, none], [.int 1, .ref 0], (mz_i xs Ln))) rfl ?_
                  refine mz_do (R := mz_r109) (as := [.ref 0, .int 1]) (rest := []) (r1 := some (.int (-1000001))) (m1 := mz_up (mz_i xs Ln) 64 1 1) rfl ⟨?_, rfl⟩ ?_
                  · refine mz_go 3 (c' := (4, [some (.ref 0), some (.int 1)], [.int 6, .int 1, .int 1], (mz_i xs Ln))) rfl ?_
                    refine mz_do (R := mz_r121) (as := [.int 1, .int 1, .int 6]) (rest := []) (r1 := some (.int 1)) (m1 := (mz_i xs Ln)) rfl ⟨?_, rfl⟩ ?_
                    · refine mz_go 8 (c' := (15, [some (.int 1), some (.int 1), some (.int 6)], [.int 1], (mz_i xs Ln))) rfl ?_
                      exact mz_ret rfl
                    refine mz_go 12 (c' := (25, [some (.ref 0), some (.int 1)], [.int (-1000001)], mz_up (mz_i xs Ln) 64 1 1)) rfl ?_
                    exact mz_ret rfl
                  exact mz_ret rfl
                · refine mz_go 10 (c' := (14, [some (.ref 65), some (.int a), some (.int b), some (.int c), some (.int d), some (.int (c / 10)), some (.int (c - c / 10 * 10)), none, none, none], [.int b, .int a], mz_up (mz_i xs Ln) 64 1 1)) rfl ?_
                  refine mz_do (R := mz_r131) (as := [.int a, .int b]) (rest := []) (r1 := some (.int 1)) (m1 := mz_up (mz_i xs Ln) 64 1 1) rfl ⟨?_, rfl⟩ ?_
                  · refine mz_go 3 (c' := (5, [some (.int a), some (.int b)], [.int 100, .int (-100), .int a], mz_up (mz_i xs Ln) 64 1 1)) rfl ?_
                    refine mz_do (R := mz_r128) (as := [.int a, .int (-100), .int 100]) (rest := []) (r1 := some (.int 1)) (m1 := mz_up (mz_i xs Ln) 64 1 1) rfl ⟨?_, rfl⟩ ?_
                    · refine mz_go 3 (c' := (if a < (-100) then 14 else 5, [some (.int a), some (.int (-100)), some (.int 100)], [], mz_up (mz_i xs Ln) 64 1 1)) rfl ?_
                      refine mz_ifF h1 ?_
                      refine mz_go 3 (c' := (if 100 < a then 14 else 10, [some (.int a), some (.int (-100)), some (.int 100)], [], mz_up (mz_i xs Ln) 64 1 1)) rfl ?_
                      refine mz_ifF h2 ?_
                      refine mz_go 2 (c' := (15, [some (.int a), some (.int (-100)), some (.int 100)], [.int 1], mz_up (mz_i xs Ln) 64 1 1)) rfl ?_
                      exact mz_ret rfl
                    refine mz_go 4 (c' := (16, [some (.int a), some (.int b)], [.int 100, .int (-100), .int b], mz_up (mz_i xs Ln) 64 1 1)) rfl ?_
                    refine mz_do (R := mz_r128) (as := [.int b, .int (-100), .int 100]) (rest := []) (r1 := some (.int 1)) (m1 := mz_up (mz_i xs Ln) 64 1 1) rfl ⟨?_, rfl⟩ ?_
                    · refine mz_go 3 (c' := (if b < (-100) then 14 else 5, [some (.int b), some (.int (-100)), some (.int 100)], [], mz_up (mz_i xs Ln) 64 1 1)) rfl ?_
                      refine mz_ifF h3 ?_
                      refine mz_go 3 (c' := (if 100 < b then 14 else 10, [some (.int b), some (.int (-100)), some (.int 100)], [], mz_up (mz_i xs Ln) 64 1 1)) rfl ?_
                      refine mz_ifF h4 ?_
                      refine mz_go 2 (c' := (15, [some (.int b), some (.int (-100)), some (.int 100)], [.int 1], mz_up (mz_i xs Ln) 64 1 1)) rfl ?_
                      exact mz_ret rfl
                    refine mz_go 3 (c' := (27, [some (.int a), some (.int b)], [.int 1], mz_up (mz_i xs Ln) 64 1 1)) rfl ?_
                    exact mz_ret rfl
                  refine mz_go 4 (c' := (25, [some (.ref 65), some (.int a), some (.int b), some (.int c), some (.int d), some (.int (c / 10)), some (.int (c - c / 10 * 10)), none, none, none], [.int 6, .int 1, .int (c / 10)], mz_up (mz_i xs Ln) 64 1 1)) rfl ?_
                  refine mz_do (R := mz_r128) (as := [.int (c / 10), .int 1, .int 6]) (rest := []) (r1 := some (.int 0)) (m1 := mz_up (mz_i xs Ln) 64 1 1) rfl ⟨?_, rfl⟩ ?_
                  · refine mz_go 3 (c' := (if (c / 10) < 1 then 14 else 5, [some (.int (c / 10)), some (.int 1), some (.int 6)], [], mz_up (mz_i xs Ln) 64 1 1)) rfl ?_
                    refine mz_ifF h6 ?_
                    refine mz_go 3 (c' := (if 6 < (c / 10) then 14 else 10, [some (.int (c / 10)), some (.int 1), some (.int 6)], [], mz_up (mz_i xs Ln) 64 1 1)) rfl ?_
                    refine mz_ifT h7 ?_
                    refine mz_go 1 (c' := (15, [some (.int (c / 10)), some (.int 1), some (.int 6)], [.int 0], mz_up (mz_i xs Ln) 64 1 1)) rfl ?_
                    exact mz_ret rfl
                  refine mz_go 7 (c' := (91, [some (.ref 65), some (.int a), some (.int b), some (.int c), some (.int d), some (.int (c / 10)), some (.int (c - c / 10 * 10)), some (.int 0), none, none], [.int 1, .ref 65], mz_up (mz_i xs Ln) 64 1 1)) rfl ?_
                  refine mz_do (R := mz_r127) (as := [.ref 65, .int 1]) (rest := []) (r1 := some (.int (-1000001))) (m1 := mz_up (mz_up (mz_i xs Ln) 64 1 1) 68 1 1) rfl ⟨?_, rfl⟩ ?_
                  · refine mz_go 11 (c' := (14, [some (.ref 65), some (.int 1)], [.int (-1000001)], mz_up (mz_up (mz_i xs Ln) 64 1 1) 68 1 1)) rfl ?_
                    exact mz_ret rfl
                  exact mz_ret rfl
              · by_cases h8 : (c - c / 10 * 10) < 1
                · refine ⟨(-1000001), mz_up (mz_i xs Ln) 64 1 1, mz_up (mz_up (mz_i xs Ln) 64 1 1) 68 1 1, ⟨?_, rfl⟩, ⟨?_, rfl⟩⟩
                  · refine mz_go 10 (c' := (14, [some (.ref 0), some (.int a), some (.int b), some (.int c), some (.int d), some (.int (c / 10)), some (.int (c - c / 10 * 10)), none, none, none, none], [.int b, .int a], (mz_i xs Ln))) rfl ?_
                    refine mz_do (R := mz_r116) (as := [.int a, .int b]) (rest := []) (r1 := some (.int 1)) (m1 := (mz_i xs Ln)) rfl ⟨?_, rfl⟩ ?_
                    · refine mz_go 3 (c' := (5, [some (.int a), some (.int b)], [.int 100, .int (-100), .int a], (mz_i xs Ln))) rfl ?_
                      refine mz_do (R := mz_r121) (as := [.int a, .int (-100), .int 100]) (rest := []) (r1 := some (.int 1)) (m1 := (mz_i xs Ln)) rfl ⟨?_, rfl⟩ ?_
                      · refine mz_go 3 (c' := (if a < (-100) then 14 else 5, [some (.int a), some (.int (-100)), some (.int 100)], [], (mz_i xs Ln))) rfl ?_
                        refine mz_ifF h1 ?_
                        refine mz_go 3 (c' := (if 100 < a then 14 else 10, [some (.int a), some (.int (-100)), some (.int 100)], [], (mz_i xs Ln))) rfl ?_
                        refine mz_ifF h2 ?_
                        refine mz_go 2 (c' := (15, [some (.int a), some (.int (-100)), some (.int 100)], [.int 1], (mz_i xs Ln))) rfl ?_
                        exact mz_ret rfl
                      refine mz_go 4 (c' := (16, [some (.int a), some (.int b)], [.int 100, .int (-100), .int b], (mz_i xs Ln))) rfl ?_
                      refine mz_do (R := mz_r121) (as := [.int b, .int (-100), .int 100]) (rest := []) (r1 := some (.int 1)) (m1 := (mz_i xs Ln)) rfl ⟨?_, rfl⟩ ?_
                      · refine mz_go 3 (c' := (if b < (-100) then 14 else 5, [some (.int b), some (.int (-100)), some (.int 100)], [], (mz_i xs Ln))) rfl ?_
                        refine mz_ifF h3 ?_
                        refine mz_go 3 (c' := (if 100 < b then 14 else 10, [some (.int b), some (.int (-100)), some (.int 100)], [], (mz_i xs Ln))) rfl ?_
                        refine mz_ifF h4 ?_
                        refine mz_go 2 (c' := (15, [some (.int b), some (.int (-100)), some (.int 100)], [.int 1], (mz_i xs Ln))) rfl ?_
                        exact mz_ret rfl
                      refine mz_go 3 (c' := (27, [some (.int a), some (.int b)], [.int 1], (mz_i xs Ln))) rfl ?_
                      exact mz_ret rfl
                    refine mz_go 4 (c' := (25, [some (.ref 0), some (.int a), some (.int b), some (.int c), some (.int d), some (.int (c / 10)), some (.int (c - c / 10 * 10)), none, none, none, none], [.int 40, .int 1, .int d], (mz_i xs Ln))) rfl ?_
                    refine mz_do (R := mz_r121) (as := [.int d, .int 1, .int 40]) (rest := []) (r1 := some (.int 0)) (m1 := (mz_i xs Ln)) rfl ⟨?_, rfl⟩ ?_
                    · refine mz_go 3 (c' := (if d < 1 then 14 else 5, [some (.int d), some (.int 1), some (.int 40)], [], (mz_i xs Ln))) rfl ?_
                      refine mz_ifT h5 ?_
                      refine mz_go 1 (c' := (15, [some (.int d), some (.int 1), some (.int 40)], [.int 0], (mz_i xs Ln))) rfl ?_
                      exact mz_ret rfl
                    refine mz_go 3 (c' := (79, [some (.ref 0), some (.int a), some (.int b), some (.int c), some (.int d), some (.int (c / 10)), some (.int (c - c / 10 * 10)), none, none, none, none], [.int 1, .ref 0], (mz_i xs Ln))) rfl ?_
                    refine mz_do (R := mz_r109) (as := [.ref 0, .int 1]) (rest := []) (r1 := some (.int (-1000001))) (m1 := mz_up (mz_i xs Ln) 64 1 1) rfl ⟨?_, rfl⟩ ?_
                    · refine mz_go 3 (c' := (4, [some (.ref 0), some (.int 1)], [.int 6, .int 1, .int 1], (mz_i xs Ln))) rfl ?_
                      refine mz_do (R := mz_r121) (as := [.int 1, .int 1, .int 6]) (rest := []) (r1 := some (.int 1)) (m1 := (mz_i xs Ln)) rfl ⟨?_, rfl⟩ ?_
                      · refine mz_go 8 (c' := (15, [some (.int 1), some (.int 1), some (.int 6)], [.int 1], (mz_i xs Ln))) rfl ?_
                        exact mz_ret rfl
                      refine mz_go 12 (c' := (25, [some (.ref 0), some (.int 1)], [.int (-1000001)], mz_up (mz_i xs Ln) 64 1 1)) rfl ?_
                      exact mz_ret rfl
                    exact mz_ret rfl
                  · refine mz_go 10 (c' := (14, [some (.ref 65), some (.int a), some (.int b), some (.int c), some (.int d), some (.int (c / 10)), some (.int (c - c / 10 * 10)), none, none, none], [.int b, .int a], mz_up (mz_i xs Ln) 64 1 1)) rfl ?_
                    refine mz_do (R := mz_r131) (as := [.int a, .int b]) (rest := []) (r1 := some (.int 1)) (m1 := mz_up (mz_i xs Ln) 64 1 1) rfl ⟨?_, rfl⟩ ?_
                    · refine mz_go 3 (c' := (5, [some (.int a), some (.int b)], [.int 100, .int (-100), .int a], mz_up (mz_i xs Ln) 64 1 1)) rfl ?_
                      refine mz_do (R := mz_r128) (as := [.int a, .int (-100), .int 100]) (rest := []) (r1 := some (.int 1)) (m1 := mz_up (mz_i xs Ln) 64 1 1) rfl ⟨?_, rfl⟩ ?_
                      · refine mz_go 3 (c' := (if a < (-100) then 14 else 5, [some (.int a), some (.int (-100)), some (.int 100)], [], mz_up (mz_i xs Ln) 64 1 1)) rfl ?_
                        refine mz_ifF h1 ?_
                        refine mz_go 3 (c' := (if 100 < a then 14 else 10, [some (.int a), some (.int (-100)), some (.int 100)], [], mz_up (mz_i xs Ln) 64 1 1)) rfl ?_
                        refine mz_ifF h2 ?_
                        refine mz_go 2 (c' := (15, [some (.int a), some (.int (-100)), some (.int 100)], [.int 1], mz_up (mz_i xs Ln) 64 1 1)) rfl ?_
                        exact mz_ret rfl
                      refine mz_go 4 (c' := (16, [some (.int a), some (.int b)], [.int 100, .int (-100), .int b], mz_up (mz_i xs Ln) 64 1 1)) rfl ?_
                      refine mz_do (R := mz_r128) (as := [.int b, .int (-100), .int 100]) (rest := []) (r1 := some (.int 1)) (m1 := mz_up (mz_i xs Ln) 64 1 1) rfl ⟨?_, rfl⟩ ?_
                      · refine mz_go 3 (c' := (if b < (-100) then 14 else 5, [some (.int b), some (.int (-100)), some (.int 100)], [], mz_up (mz_i xs Ln) 64 1 1)) rfl ?_
                        refine mz_ifF h3 ?_
                        refine mz_go 3 (c' := (if 100 < b then 14 else 10, [some (.int b), some (.int (-100)), some (.int 100)], [], mz_up (mz_i xs Ln) 64 1 1)) rfl ?_
                        refine mz_ifF h4 ?_
                        refine mz_go 2 (c' := (15, [some (.int b), some (.int (-100)), some (.int 100)], [.int 1], mz_up (mz_i xs Ln) 64 1 1)) rfl ?_
                        exact mz_ret rfl
                      refine mz_go 3 (c' := (27, [some (.int a), some (.int b)], [.int 1], mz_up (mz_i xs Ln) 64 1 1)) rfl ?_
                      exact mz_ret rfl
                    refine mz_go 4 (c' := (25, [some (.ref 65), some (.int a), some (.int b), some (.int c), some (.int d), some (.int (c / 10)), some (.int (c - c / 10 * 10)), none, none, none], [.int 6, .int 1, .int (c / 10)], mz_up (mz_i xs Ln) 64 1 1)) rfl ?_
                    refine mz_do (R := mz_r128) (as := [.int (c / 10), .int 1, .int 6]) (rest := []) (r1 := some (.int 1)) (m1 := mz_up (mz_i xs Ln) 64 1 1) rfl ⟨?_, rfl⟩ ?_
                    · refine mz_go 3 (c' := (if (c / 10) < 1 then 14 else 5, [some (.int (c / 10)), some (.int 1), some (.int 6)], [], mz_up (mz_i xs Ln) 64 1 1)) rfl ?_
                      refine mz_ifF h6 ?_
                      refine mz_go 3 (c' := (if 6 < (c / 10) then 14 else 10, [some (.int (c / 10)), some (.int 1), some (.int 6)], [], mz_up (mz_i xs Ln) 64 1 1)) rfl ?_
                      refine mz_ifF h7 ?_
                      refine mz_go 2 (c' := (15, [some (.int (c / 10)), some (.int 1), some (.int 6)], [.int 1], mz_up (mz_i xs Ln) 64 1 1)) rfl ?_
                      exact mz_ret rfl
                    refine mz_go 4 (c' := (36, [some (.ref 65), some (.int a), some (.int b), some (.int c), some (.int d), some (.int (c / 10)), some (.int (c - c / 10 * 10)), none, none, none], [.int 6, .int 1, .int (c - c / 10 * 10)], mz_up (mz_i xs Ln) 64 1 1)) rfl ?_
                    refine mz_do (R := mz_r128) (as := [.int (c - c / 10 * 10), .int 1, .int 6]) (rest := []) (r1 := some (.int 0)) (m1 := mz_up (mz_i xs Ln) 64 1 1) rfl ⟨?_, rfl⟩ ?_
                    · refine mz_go 3 (c' := (if (c - c / 10 * 10) < 1 then 14 else 5, [some (.int (c - c / 10 * 10)), some (.int 1), some (.int 6)], [], mz_up (mz_i xs Ln) 64 1 1)) rfl ?_
                      refine mz_ifT h8 ?_
                      refine mz_go 1 (c' := (15, [some (.int (c - c / 10 * 10)), some (.int 1), some (.int 6)], [.int 0], mz_up (mz_i xs Ln) 64 1 1)) rfl ?_
                      exact mz_ret rfl
                    refine mz_go 7 (c' := (91, [some (.ref 65), some (.int a), some (.int b), some (.int c), some (.int d), some (.int (c / 10)), some (.int (c - c / 10 * 10)), some (.int 0), none, none], [.int 1, .ref 65], mz_up (mz_i xs Ln) 64 1 1)) rfl ?_
                    refine mz_do (R := mz_r127) (as := [.ref 65, .int 1]) (rest := []) (r1 := some (.int (-1000001))) (m1 := mz_up (mz_up (mz_i xs Ln) 64 1 1) 68 1 1) rfl ⟨?_, rfl⟩ ?_
                    · refine mz_go 11 (c' := (14, [some (.ref 65), some (.int 1)], [.int (-1000001)], mz_up (mz_up (mz_i xs Ln) 64 1 1) 68 1 1)) rfl ?_
                      exact mz_ret rfl
                    exact mz_ret rfl
                · by_cases h9 : 6 < (c - c / 10 * 10)
                  · refine ⟨(-1000001), mz_up (mz_i xs Ln) 64 1 1, mz_up (mz_up (mz_i xs Ln) 64 1 1) 68 1 1, ⟨?_, rfl⟩, ⟨?_, rfl⟩⟩
                    · refine mz_go 10 (c' := (14, [some (.ref 0), some (.int a), some (.int b), some (.int c), some (.int d), some (.int (c / 10)), some (.int (c - c / 10 * 10)), none, none, none, none], [.int b, .int a], (mz_i xs Ln))) rfl ?_
                      refine mz_do (R := mz_r116) (as := [.int a, .int b]) (rest := []) (r1 := some (.int 1)) (m1 := (mz_i xs Ln)) rfl ⟨?_, rfl⟩ ?_
                      · refine mz_go 3 (c' := (5, [some (.int a), some (.int b)], [.int 100, .int (-100), .int a], (mz_i xs Ln))) rfl ?_
                        refine mz_do (R := mz_r121) (as := [.int a, .int (-100), .int 100]) (rest := []) (r1 := some (.int 1)) (m1 := (mz_i xs Ln)) rfl ⟨?_, rfl⟩ ?_
                        · refine mz_go 3 (c' := (if a < (-100) then 14 else 5, [some (.int a), some (.int (-100)), some (.int 100)], [], (mz_i xs Ln))) rfl ?_
                          refine mz_ifF h1 ?_
                          refine mz_go 3 (c' := (if 100 < a then 14 else 10, [some (.int a), some (.int (-100)), some (.int 100)], [], (mz_i xs Ln))) rfl ?_
                          refine mz_ifF h2 ?_
                          refine mz_go 2 (c' := (15, [some (.int a), some (.int (-100)), some (.int 100)], [.int 1], (mz_i xs Ln))) rfl ?_
                          exact mz_ret rfl
                        refine mz_go 4 (c' := (16, [some (.int a), some (.int b)], [.int 100, .int (-100), .int b], (mz_i xs Ln))) rfl ?_
                        refine mz_do (R := mz_r121) (as := [.int b, .int (-100), .int 100]) (rest := []) (r1 := some (.int 1)) (m1 := (mz_i xs Ln)) rfl ⟨?_, rfl⟩ ?_
                        · refine mz_go 3 (c' := (if b < (-100) then 14 else 5, [some (.int b), some (.int (-100)), some (.int 100)], [], (mz_i xs Ln))) rfl ?_
                          refine mz_ifF h3 ?_
                          refine mz_go 3 (c' := (if 100 < b then 14 else 10, [some (.int b), some (.int (-100)), some (.int 100)], [], (mz_i xs Ln))) rfl ?_
                          refine mz_ifF h4 ?_
                          refine mz_go 2 (c' := (15, [some (.int b), some (.int (-100)), some (.int 100)], [.int 1], (mz_i xs Ln))) rfl ?_
                          exact mz_ret rfl
                        refine mz_go 3 (c' := (27, [some (.int a), some (.int b)], [.int 1], (mz_i xs Ln))) rfl ?_
                        exact mz_ret rfl
                      refine mz_go 4 (c' := (25, [some (.ref 0), some (.int a), some (.int b), some (.int c), some (.int d), some (.int (c / 10)), some (.int (c - c / 10 * 10)), none, none, none, none], [.int 40, .int 1, .int d], (mz_i xs Ln))) rfl ?_
                      refine mz_do (R := mz_r121) (as := [.int d, .int 1, .int 40]) (rest := []) (r1 := some (.int 0)) (m1 := (mz_i xs Ln)) rfl ⟨?_, rfl⟩ ?_
                      · refine mz_go 3 (c' := (if d < 1 then 14 else 5, [some (.int d), some (.int 1), some (.int 40)], [], (mz_i xs Ln))) rfl ?_
                        refine mz_ifT h5 ?_
                        refine mz_go 1 (c' := (15, [some (.int d), some (.int 1), some (.int 40)], [.int 0], (mz_i xs Ln))) rfl ?_
                        exact mz_ret rfl
                      refine mz_go 3 (c' := (79, [some (.ref 0), some (.int a), some (.int b), some (.int c), some (.int d), some (.int (c / 10)), some (.int (c - c / 10 * 10)), none, none, none, none], [.int 1, .ref 0], (mz_i xs Ln))) rfl ?_
                      refine mz_do (R := mz_r109) (as := [.ref 0, .int 1]) (rest := []) (r1 := some (.int (-1000001))) (m1 := mz_up (mz_i xs Ln) 64 1 1) rfl ⟨?_, rfl⟩ ?_
                      · refine mz_go 3 (c' := (4, [some (.ref 0), some (.int 1)], [.int 6, .int 1, .int 1], (mz_i xs Ln))) rfl ?_
                        refine mz_do (R := mz_r121) (as := [.int 1, .int 1, .int 6]) (rest := []) (r1 := some (.int 1)) (m1 := (mz_i xs Ln)) rfl ⟨?_, rfl⟩ ?_
                        · refine mz_go 8 (c' := (15, [some (.int 1), some (.int 1), some (.int 6)], [.int 1], (mz_i xs Ln))) rfl ?_
                          exact mz_ret rfl
                        refine mz_go 12 (c' := (25, [some (.ref 0), some (.int 1)], [.int (-1000001)], mz_up (mz_i xs Ln) 64 1 1)) rfl ?_
                        exact mz_ret rfl
                      exact mz_ret rfl
                    · refine mz_go 10 (c' := (14, [some (.ref 65), some (.int a), some (.int b), some (.int c), some (.int d), some (.int (c / 10)), some (.int (c - c / 10 * 10)), none, none, none], [.int b, .int a], mz_up (mz_i xs Ln) 64 1 1)) rfl ?_
                      refine mz_do (R := mz_r131) (as := [.int a, .int b]) (rest := []) (r1 := some (.int 1)) (m1 := mz_up (mz_i xs Ln) 64 1 1) rfl ⟨?_, rfl⟩ ?_
                      · refine mz_go 3 (c' := (5, [some (.int a), some (.int b)], [.int 100, .int (-100), .int a], mz_up (mz_i xs Ln) 64 1 1)) rfl ?_
                        refine mz_do (R := mz_r128) (as := [.int a, .int (-100), .int 100]) (rest := []) (r1 := some (.int 1)) (m1 := mz_up (mz_i xs Ln) 64 1 1) rfl ⟨?_, rfl⟩ ?_
                        · refine mz_go 3 (c' := (if a < (-100) then 14 else 5, [some (.int a), some (.int (-100)), some (.int 100)], [], mz_up (mz_i xs Ln) 64 1 1)) rfl ?_
                          refine mz_ifF h1 ?_
                          refine mz_go 3 (c' := (if 100 < a then 14 else 10, [some (.int a), some (.int (-100)), some (.int 100)], [], mz_up (mz_i xs Ln) 64 1 1)) rfl ?_
                          refine mz_ifF h2 ?_
                          refine mz_go 2 (c' := (15, [some (.int a), some (.int (-100)), some (.int 100)], [.int 1], mz_up (mz_i xs Ln) 64 1 1)) rfl ?_
                          exact mz_ret rfl
                        refine mz_go 4 (c' := (16, [some (.int a), some (.int b)], [.int 100, .int (-100), .int b], mz_up (mz_i xs Ln) 64 1 1)) rfl ?_
                        refine mz_do (R := mz_r128) (as := [.int b, .int (-100), .int 100]) (rest := []) (r1 := some (.int 1)) (m1 := mz_up (mz_i xs Ln) 64 1 1) rfl ⟨?_, rfl⟩ ?_
                        · refine mz_go 3 (c' := (if b < (-100) then 14 else 5, [some (.int b), some (.int (-100)), some (.int 100)], [], mz_up (mz_i xs Ln) 64 1 1)) rfl ?_
                          refine mz_ifF h3 ?_
                          refine mz_go 3 (c' := (if 100 < b then 14 else 10, [some (.int b), some (.int (-100)), some (.int 100)], [], mz_up (mz_i xs Ln) 64 1 1)) rfl ?_
                          refine mz_ifF h4 ?_
                          refine mz_go 2 (c' := (15, [some (.int b), some (.int (-100)), some (.int 100)], [.int 1], mz_up (mz_i xs Ln) 64 1 1)) rfl ?_
                          exact mz_ret rfl
                        refine mz_go 3 (c' := (27, [some (.int a), some (.int b)], [.int 1], mz_up (mz_i xs Ln) 64 1 1)) rfl ?_
                        exact mz_ret rfl
                      refine mz_go 4 (c' := (25, [some (.ref 65), some (.int a), some (.int b), some (.int c), some (.int d), some (.int (c / 10)), some (.int (c - c / 10 * 10)), none, none, none], [.int 6, .int 1, .int (c / 10)], mz_up (mz_i xs Ln) 64 1 1)) rfl ?_
                      refine mz_do (R := mz_r128) (as := [.int (c / 10), .int 1, .int 6]) (rest := []) (r1 := some (.int 1)) (m1 := mz_up (mz_i xs Ln) 64 1 1) rfl ⟨?_, rfl⟩ ?_
                      · refine mz_go 3 (c' := (if (c / 10) < 1 then 14 else 5, [some (.int (c / 10)), some (.int 1), some (.int 6)], [], mz_up (mz_i xs Ln) 64 1 1)) rfl ?_
                        refine mz_ifF h6 ?_
                        refine mz_go 3 (c' := (if 6 < (c / 10) then 14 else 10, [some (.int (c / 10)), some (.int 1), some (.int 6)], [], mz_up (mz_i xs Ln) 64 1 1)) rfl ?_
                        refine mz_ifF h7 ?_
                        refine mz_go 2 (c' := (15, [some (.int (c / 10)), some (.int 1), some (.int 6)], [.int 1], mz_up (mz_i xs Ln) 64 1 1)) rfl ?_
                        exact mz_ret rfl
                      refine mz_go 4 (c' := (36, [some (.ref 65), some (.int a), some (.int b), some (.int c), some (.int d), some (.int (c / 10)), some (.int (c - c / 10 * 10)), none, none, none], [.int 6, .int 1, .int (c - c / 10 * 10)], mz_up (mz_i xs Ln) 64 1 1)) rfl ?_
                      refine mz_do (R := mz_r128) (as := [.int (c - c / 10 * 10), .int 1, .int 6]) (rest := []) (r1 := some (.int 0)) (m1 := mz_up (mz_i xs Ln) 64 1 1) rfl ⟨?_, rfl⟩ ?_
                      · refine mz_go 3 (c' := (if (c - c / 10 * 10) < 1 then 14 else 5, [some (.int (c - c / 10 * 10)), some (.int 1), some (.int 6)], [], mz_up (mz_i xs Ln) 64 1 1)) rfl ?_
                        refine mz_ifF h8 ?_
                        refine mz_go 3 (c' := (if 6 < (c - c / 10 * 10) then 14 else 10, [some (.int (c - c / 10 * 10)), some (.int 1), some (.int 6)], [], mz_up (mz_i xs Ln) 64 1 1)) rfl ?_
                        refine mz_ifT h9 ?_
                        refine mz_go 1 (c' := (15, [some (.int (c - c / 10 * 10)), some (.int 1), some (.int 6)], [.int 0], mz_up (mz_i xs Ln) 64 1 1)) rfl ?_
                        exact mz_ret rfl
                      refine mz_go 7 (c' := (91, [some (.ref 65), some (.int a), some (.int b), some (.int c), some (.int d), some (.int (c / 10)), some (.int (c - c / 10 * 10)), some (.int 0), none, none], [.int 1, .ref 65], mz_up (mz_i xs Ln) 64 1 1)) rfl ?_
                      refine mz_do (R := mz_r127) (as := [.ref 65, .int 1]) (rest := []) (r1 := some (.int (-1000001))) (m1 := mz_up (mz_up (mz_i xs Ln) 64 1 1) 68 1 1) rfl ⟨?_, rfl⟩ ?_
                      · refine mz_go 11 (c' := (14, [some (.ref 65), some (.int 1)], [.int (-1000001)], mz_up (mz_up (mz_i xs Ln) 64 1 1) 68 1 1)) rfl ?_
                        exact mz_ret rfl
                      exact mz_ret rfl
                  · refine ⟨(-1000001), mz_up (mz_i xs Ln) 64 1 1, mz_up (mz_up (mz_i xs Ln) 64 1 1) 68 1 1, ⟨?_, rfl⟩, ⟨?_, rfl⟩⟩
                    · refine mz_go 10 (c' := (14, [some (.ref 0), some (.int a), some (.int b), some (.int c), some (.int d), some (.int (c / 10)), some (.int (c - c / 10 * 10)), none, none, none, none], [.int b, .int a], (mz_i xs Ln))) rfl ?_
                      refine mz_do (R := mz_r116) (as := [.int a, .int b]) (rest := []) (r1 := some (.int 1)) (m1 := (mz_i xs Ln)) rfl ⟨?_, rfl⟩ ?_
                      · refine mz_go 3 (c' := (5, [some (.int a), some (.int b)], [.int 100, .int (-100), .int a], (mz_i xs Ln))) rfl ?_
                        refine mz_do (R := mz_r121) (as := [.int a, .int (-100), .int 100]) (rest := []) (r1 := some (.int 1)) (m1 := (mz_i xs Ln)) rfl ⟨?_, rfl⟩ ?_
                        · refine mz_go 3 (c' := (if a < (-100) then 14 else 5, [some (.int a), some (.int (-100)), some (.int 100)], [], (mz_i xs Ln))) rfl ?_
                          refine mz_ifF h1 ?_
                          refine mz_go 3 (c' := (if 100 < a then 14 else 10, [some (.int a), some (.int (-100)), some (.int 100)], [], (mz_i xs Ln))) rfl ?_
                          refine mz_ifF h2 ?_
                          refine mz_go 2 (c' := (15, [some (.int a), some (.int (-100)), some (.int 100)], [.int 1], (mz_i xs Ln))) rfl ?_
                          exact mz_ret rfl
                        refine mz_go 4 (c' := (16, [some (.int a), some (.int b)], [.int 100, .int (-100), .int b], (mz_i xs Ln))) rfl ?_
                        refine mz_do (R := mz_r121) (as := [.int b, .int (-100), .int 100]) (rest := []) (r1 := some (.int 1)) (m1 := (mz_i xs Ln)) rfl ⟨?_, rfl⟩ ?_
                        · refine mz_go 3 (c' := (if b < (-100) then 14 else 5, [some (.int b), some (.int (-100)), some (.int 100)], [], (mz_i xs Ln))) rfl ?_
                          refine mz_ifF h3 ?_
                          refine mz_go 3 (c' := (if 100 < b then 14 else 10, [some (.int b), some (.int (-100)), some (.int 100)], [], (mz_i xs Ln))) rfl ?_
                          refine mz_ifF h4 ?_
                          refine mz_go 2 (c' := (15, [some (.int b), some (.int (-100)), some (.int 100)], [.int 1], (mz_i xs Ln))) rfl ?_
                          exact mz_ret rfl
                        refine mz_go 3 (c' := (27, [some (.int a), some (.int b)], [.int 1], (mz_i xs Ln))) rfl ?_
                        exact mz_ret rfl
                      refine mz_go 4 (c' := (25, [some (.ref 0), some (.int a), some (.int b), some (.int c), some (.int d), some (.int (c / 10)), some (.int (c - c / 10 * 10)), none, none, none, none], [.int 40, .int 1, .int d], (mz_i xs Ln))) rfl ?_
                      refine mz_do (R := mz_r121) (as := [.int d, .int 1, .int 40]) (rest := []) (r1 := some (.int 0)) (m1 := (mz_i xs Ln)) rfl ⟨?_, rfl⟩ ?_
                      · refine mz_go 3 (c' := (if d < 1 then 14 else 5, [some (.int d), some (.int 1), some (.int 40)], [], (mz_i xs Ln))) rfl ?_
                        refine mz_ifT h5 ?_
                        refine mz_go 1 (c' := (15, [some (.int d), some (.int 1), some (.int 40)], [.int 0], (mz_i xs Ln))) rfl ?_
                        exact mz_ret rfl
                      refine mz_go 3 (c' := (79, [some (.ref 0), some (.int a), some (.int b), some (.int c), some (.int d), some (.int (c / 10)), some (.int (c - c / 10 * 10)), none, none, none, none], [.int 1, .ref 0], (mz_i xs Ln))) rfl ?_
                      refine mz_do (R := mz_r109) (as := [.ref 0, .int 1]) (rest := []) (r1 := some (.int (-1000001))) (m1 := mz_up (mz_i xs Ln) 64 1 1) rfl ⟨?_, rfl⟩ ?_
                      · refine mz_go 3 (c' := (4, [some (.ref 0), some (.int 1)], [.int 6, .int 1, .int 1], (mz_i xs Ln))) rfl ?_
                        refine mz_do (R := mz_r121) (as := [.int 1, .int 1, .int 6]) (rest := []) (r1 := some (.int 1)) (m1 := (mz_i xs Ln)) rfl ⟨?_, rfl⟩ ?_
                        · refine mz_go 8 (c' := (15, [some (.int 1), some (.int 1), some (.int 6)], [.int 1], (mz_i xs Ln))) rfl ?_
                          exact mz_ret rfl
                        refine mz_go 12 (c' := (25, [some (.ref 0), some (.int 1)], [.int (-1000001)], mz_up (mz_i xs Ln) 64 1 1)) rfl ?_
                        exact mz_ret rfl
                      exact mz_ret rfl
                    · refine mz_go 10 (c' := (14, [some (.ref 65), some (.int a), some (.int b), some (.int c), some (.int d), some (.int (c / 10)), some (.int (c - c / 10 * 10)), none, none, none], [.int b, .int a], mz_up (mz_i xs Ln) 64 1 1)) rfl ?_
                      refine mz_do (R := mz_r131) (as := [.int a, .int b]) (rest := []) (r1 := some (.int 1)) (m1 := mz_up (mz_i xs Ln) 64 1 1) rfl ⟨?_, rfl⟩ ?_
                      · refine mz_go 3 (c' := (5, [some (.int a), some (.int b)], [.int 100, .int (-100), .int a], mz_up (mz_i xs Ln) 64 1 1)) rfl ?_
                        refine mz_do (R := mz_r128) (as := [.int a, .int (-100), .int 100]) (rest := []) (r1 := some (.int 1)) (m1 := mz_up (mz_i xs Ln) 64 1 1) rfl ⟨?_, rfl⟩ ?_
                        · refine mz_go 3 (c' := (if a < (-100) then 14 else 5, [some (.int a), some (.int (-100)), some (.int 100)], [], mz_up (mz_i xs Ln) 64 1 1)) rfl ?_
                          refine mz_ifF h1 ?_
                          refine mz_go 3 (c' := (if 100 < a then 14 else 10, [some (.int a), some (.int (-100)), some (.int 100)], [], mz_up (mz_i xs Ln) 64 1 1)) rfl ?_
                          refine mz_ifF h2 ?_
                          refine mz_go 2 (c' := (15, [some (.int a), some (.int (-100)), some (.int 100)], [.int 1], mz_up (mz_i xs Ln) 64 1 1)) rfl ?_
                          exact mz_ret rfl
                        refine mz_go 4 (c' := (16, [some (.int a), some (.int b)], [.int 100, .int (-100), .int b], mz_up (mz_i xs Ln) 64 1 1)) rfl ?_
                        refine mz_do (R := mz_r128) (as := [.int b, .int (-100), .int 100]) (rest := []) (r1 := some (.int 1)) (m1 := mz_up (mz_i xs Ln) 64 1 1) rfl ⟨?_, rfl⟩ ?_
                        · refine mz_go 3 (c' := (if b < (-100) then 14 else 5, [some (.int b), some (.int (-100)), some (.int 100)], [], mz_up (mz_i xs Ln) 64 1 1)) rfl ?_
                          refine mz_ifF h3 ?_
                          refine mz_go 3 (c' := (if 100 < b then 14 else 10, [some (.int b), some (.int (-100)), some (.int 100)], [], mz_up (mz_i xs Ln) 64 1 1)) rfl ?_
                          refine mz_ifF h4 ?_
                          refine mz_go 2 (c' := (15, [some (.int b), some (.int (-100)), some (.int 100)], [.int 1], mz_up (mz_i xs Ln) 64 1 1)) rfl ?_
                          exact mz_ret rfl
                        refine mz_go 3 (c' := (27, [some (.int a), some (.int b)], [.int 1], mz_up (mz_i xs Ln) 64 1 1)) rfl ?_
                        exact mz_ret rfl
                      refine mz_go 4 (c' := (25, [some (.ref 65), some (.int a), some (.int b), some (.int c), some (.int d), some (.int (c / 10)), some (.int (c - c / 10 * 10)), none, none, none], [.int 6, .int 1, .int (c / 10)], mz_up (mz_i xs Ln) 64 1 1)) rfl ?_
                      refine mz_do (R := mz_r128) (as := [.int (c / 10), .int 1, .int 6]) (rest := []) (r1 := some (.int 1)) (m1 := mz_up (mz_i xs Ln) 64 1 1) rfl ⟨?_, rfl⟩ ?_
                      · refine mz_go 3 (c' := (if (c / 10) < 1 then 14 else 5, [some (.int (c / 10)), some (.int 1), some (.int 6)], [], mz_up (mz_i xs Ln) 64 1 1)) rfl ?_
                        refine mz_ifF h6 ?_
                        refine mz_go 3 (c' := (if 6 < (c / 10) then 14 else 10, [some (.int (c / 10)), some (.int 1), some (.int 6)], [], mz_up (mz_i xs Ln) 64 1 1)) rfl ?_
                        refine mz_ifF h7 ?_
                        refine mz_go 2 (c' := (15, [some (.int (c / 10)), some (.int 1), some (.int 6)], [.int 1], mz_up (mz_i xs Ln) 64 1 1)) rfl ?_
                        exact mz_ret rfl
                      refine mz_go 4 (c' := (36, [some (.ref 65), some (.int a), some (.int b), some (.int c), some (.int d), some (.int (c / 10)), some (.int (c - c / 10 * 10)), none, none, none], [.int 6, .int 1, .int (c - c / 10 * 10)], mz_up (mz_i xs Ln) 64 1 1)) rfl ?_
                      refine mz_do (R := mz_r128) (as := [.int (c - c / 10 * 10), .int 1, .int 6]) (rest := []) (r1 := some (.int 1)) (m1 := mz_up (mz_i xs Ln) 64 1 1) rfl ⟨?_, rfl⟩ ?_
                      · refine mz_go 3 (c' := (if (c - c / 10 * 10) < 1 then 14 else 5, [some (.int (c - c / 10 * 10)), some (.int 1), some (.int 6)], [], mz_up (mz_i xs Ln) 64 1 1)) rfl ?_
                        refine mz_ifF h8 ?_
                        refine mz_go 3 (c' := (if 6 < (c - c / 10 * 10) then 14 else 10, [some (.int (c - c / 10 * 10)), some (.int 1), some (.int 6)], [], mz_up (mz_i xs Ln) 64 1 1)) rfl ?_
                        refine mz_ifF h9 ?_
                        refine mz_go 2 (c' := (15, [some (.int (c - c / 10 * 10)), some (.int 1), some (.int 6)], [.int 1], mz_up (mz_i xs Ln) 64 1 1)) rfl ?_
                        exact mz_ret rfl
                      refine mz_go 4 (c' := (47, [some (.ref 65), some (.int a), some (.int b), some (.int c), some (.int d), some (.int (c / 10)), some (.int (c - c / 10 * 10)), none, none, none], [.int 40, .int 1, .int d], mz_up (mz_i xs Ln) 64 1 1)) rfl ?_
                      refine mz_do (R := mz_r128) (as := [.int d, .int 1, .int 40]) (rest := []) (r1 := some (.int 0)) (m1 := mz_up (mz_i xs Ln) 64 1 1) rfl ⟨?_, rfl⟩ ?_
                      · refine mz_go 3 (c' := (if d < 1 then 14 else 5, [some (.int d), some (.int 1), some (.int 40)], [], mz_up (mz_i xs Ln) 64 1 1)) rfl ?_
                        refine mz_ifT h5 ?_
                        refine mz_go 1 (c' := (15, [some (.int d), some (.int 1), some (.int 40)], [.int 0], mz_up (mz_i xs Ln) 64 1 1)) rfl ?_
                        exact mz_ret rfl
                      refine mz_go 7 (c' := (91, [some (.ref 65), some (.int a), some (.int b), some (.int c), some (.int d), some (.int (c / 10)), some (.int (c - c / 10 * 10)), some (.int 0), none, none], [.int 1, .ref 65], mz_up (mz_i xs Ln) 64 1 1)) rfl ?_
                      refine mz_do (R := mz_r127) (as := [.ref 65, .int 1]) (rest := []) (r1 := some (.int (-1000001))) (m1 := mz_up (mz_up (mz_i xs Ln) 64 1 1) 68 1 1) rfl ⟨?_, rfl⟩ ?_
                      · refine mz_go 11 (c' := (14, [some (.ref 65), some (.int 1)], [.int (-1000001)], mz_up (mz_up (mz_i xs Ln) 64 1 1) 68 1 1)) rfl ?_
                        exact mz_ret rfl
                      exact mz_ret rfl
          · by_cases h10 : 40 < d
            · by_cases h11 : (c / 10) < 1
              · refine ⟨(-1000001), mz_up (mz_i xs Ln) 64 1 1, mz_up (mz_up (mz_i xs Ln) 64 1 1) 68 1 1, ⟨?_, rfl⟩, ⟨?_, rfl⟩⟩
                · refine mz_go 10 (c' := (14, [some (.ref 0), some (.int a), some (.int b), some (.int c), some (.int d), some (.int (c / 10)), some (.int (c - c / 10 * 10)), none, none, none, none], [.int b, .int a], (mz_i xs Ln))) rfl ?_
                  refine mz_do (R := mz_r116) (as := [.int a, .int b]) (rest := []) (r1 := some (.int 1)) (m1 := (mz_i xs Ln)) rfl ⟨?_, rfl⟩ ?_
                  · refine mz_go 3 (c' := (5, [some (.int a), some (.int b)], [.int 100, .int (-100), .int a], (mz_i xs Ln))) rfl ?_
                    refine mz_do (R := mz_r121) (as := [.int a, .int (-100), .int 100]) (rest := []) (r1 := some (.int 1)) (m1 := (mz_i xs Ln)) rfl ⟨?_, rfl⟩ ?_
                    · refine mz_go 3 (c' := (if a < (-100) then 14 else 5, [some (.int a), some (.int (-100)), some (.int 100)], [], (mz_i xs Ln))) rfl ?_
                      refine mz_ifF h1 ?_
                      refine mz_go 3 (c' := (if 100 < a then 14 else 10, [some (.int a), some (.int (-100)), some (.int 100)], [], (mz_i xs Ln))) rfl ?_
                      refine mz_ifF h2 ?_
                      refine mz_go 2 (c' := (15, [some (.int a), some (.int (-100)), some (.int 100)], [.int 1], (mz_i xs Ln))) rfl ?_
                      exact mz_ret rfl
                    refine mz_go 4 (c' := (16, [some (.int a), some (.int b)], [.int 100, .int (-100), .int b], (mz_i xs Ln))) rfl ?_
                    refine mz_do (R := mz_r121) (as := [.int b, .int (-100), .int 100]) (rest := []) (r1 := some (.int 1)) (m1 := (mz_i xs Ln)) rfl ⟨?_, rfl⟩ ?_
                    · refine mz_go 3 (c' := (if b < (-100) then 14 else 5, [some (.int b), some (.int (-100)), some (.int 100)], [], (mz_i xs Ln))) rfl ?_
                      refine mz_ifF h3 ?_
                      refine mz_go 3 (c' := (if 100 < b then 14 else 10, [some (.int b), some (.int (-100)), some (.int 100)], [], (mz_i xs Ln))) rfl ?_
                      refine mz_ifF h4 ?_
                      refine mz_go 2 (c' := (15, [some (.int b), some (.int (-100)), some (.int 100)], [.int 1], (mz_i xs Ln))) rfl ?_
                      exact mz_ret rfl
                    refine mz_go 3 (c' := (27, [some (.int a), some (.int b)], [.int 1], (mz_i xs Ln))) rfl ?_
                    exact mz_ret rfl
                  refine mz_go 4 (c' := (25, [some (.ref 0), some (.int a), some (.int b), some (.int c), some (.int d), some (.int (c / 10)), some (.int (c - c / 10 * 10)), none, none, none, none], [.int 40, .int 1, .int d], (mz_i xs Ln))) rfl ?_
                  refine mz_do (R := mz_r121) (as := [.int d, .int 1, .int 40]) (rest := []) (r1 := some (.int 0)) (m1 := (mz_i xs Ln)) rfl ⟨?_, rfl⟩ ?_
                  · refine mz_go 3 (c' := (if d < 1 then 14 else 5, [some (.int d), some (.int 1), some (.int 40)], [], (mz_i xs Ln))) rfl ?_
                    refine mz_ifF h5 ?_
                    refine mz_go 3 (c' := (if 40 < d then 14 else 10, [some (.int d), some (.int 1), some (.int 40)], [], (mz_i xs Ln))) rfl ?_
                    refine mz_ifT h10 ?_
                    refine mz_go 1 (c' := (15, [some (.int d), some (.int 1), some (.int 40)], [.int 0], (mz_i xs Ln))) rfl ?_
                    exact mz_ret rfl
                  refine mz_go 3 (c' := (79, [some (.ref 0), some (.int a), some (.int b), some (.int c), some (.int d), some (.int (c / 10)), some (.int (c - c / 10 * 10)), none, none, none, none], [.int 1, .ref 0], (mz_i xs Ln))) rfl ?_
                  refine mz_do (R := mz_r109) (as := [.ref 0, .int 1]) (rest := []) (r1 := some (.int (-1000001))) (m1 := mz_up (mz_i xs Ln) 64 1 1) rfl ⟨?_, rfl⟩ ?_
                  · refine mz_go 3 (c' := (4, [some (.ref 0), some (.int 1)], [.int 6, .int 1, .int 1], (mz_i xs Ln))) rfl ?_
                    refine mz_do (R := mz_r121) (as := [.int 1, .int 1, .int 6]) (rest := []) (r1 := some (.int 1)) (m1 := (mz_i xs Ln)) rfl ⟨?_, rfl⟩ ?_
                    · refine mz_go 8 (c' := (15, [some (.int 1), some (.int 1), some (.int 6)], [.int 1], (mz_i xs Ln))) rfl ?_
                      exact mz_ret rfl
                    refine mz_go 12 (c' := (25, [some (.ref 0), some (.int 1)], [.int (-1000001)], mz_up (mz_i xs Ln) 64 1 1)) rfl ?_
                    exact mz_ret rfl
                  exact mz_ret rfl
                · refine mz_go 10 (c' := (14, [some (.ref 65), some (.int a), some (.int b), some (.int c), some (.int d), some (.int (c / 10)), some (.int (c - c / 10 * 10)), none, none, none], [.int b, .int a], mz_up (mz_i xs Ln) 64 1 1)) rfl ?_
                  refine mz_do (R := mz_r131) (as := [.int a, .int b]) (rest := []) (r1 := some (.int 1)) (m1 := mz_up (mz_i xs Ln) 64 1 1) rfl ⟨?_, rfl⟩ ?_
                  · refine mz_go 3 (c' := (5, [some (.int a), some (.int b)], [.int 100, .int (-100), .int a], mz_up (mz_i xs Ln) 64 1 1)) rfl ?_
                    refine mz_do (R := mz_r128) (as := [.int a, .int (-100), .int 100]) (rest := []) (r1 := some (.int 1)) (m1 := mz_up (mz_i xs Ln) 64 1 1) rfl ⟨?_, rfl⟩ ?_
                    · refine mz_go 3 (c' := (if a < (-100) then 14 else 5, [some (.int a), some (.int (-100)), some (.int 100)], [], mz_up (mz_i xs Ln) 64 1 1)) rfl ?_
                      refine mz_ifF h1 ?_
                      refine mz_go 3 (c' := (if 100 < a then 14 else 10, [some (.int a), some (.int (-100)), some (.int 100)], [], mz_up (mz_i xs Ln) 64 1 1)) rfl ?_
                      refine mz_ifF h2 ?_
                      refine mz_go 2 (c' := (15, [some (.int a), some (.int (-100)), some (.int 100)], [.int 1], mz_up (mz_i xs Ln) 64 1 1)) rfl ?_
                      exact mz_ret rfl
                    refine mz_go 4 (c' := (16, [some (.int a), some (.int b)], [.int 100, .int (-100), .int b], mz_up (mz_i xs Ln) 64 1 1)) rfl ?_
                    refine mz_do (R := mz_r128) (as := [.int b, .int (-100), .int 100]) (rest := []) (r1 := some (.int 1)) (m1 := mz_up (mz_i xs Ln) 64 1 1) rfl ⟨?_, rfl⟩ ?_
                    · refine mz_go 3 (c' := (if b < (-100) then 14 else 5, [some (.int b), some (.int (-100)), some (.int 100)], [], mz_up (mz_i xs Ln) 64 1 1)) rfl ?_
                      refine mz_ifF h3 ?_
                      refine mz_go 3 (c' := (if 100 < b then 14 else 10, [some (.int b), some (.int (-100)), some (.int 100)], [], mz_up (mz_i xs Ln) 64 1 1)) rfl ?_
                      refine mz_ifF h4 ?_
                      refine mz_go 2 (c' := (15, [some (.int b), some (.int (-100)), some (.int 100)], [.int 1], mz_up (mz_i xs Ln) 64 1 1)) rfl ?_
                      exact mz_ret rfl
                    refine mz_go 3 (c' := (27, [some (.int a), some (.int b)], [.int 1], mz_up (mz_i xs Ln) 64 1 1)) rfl ?_
                    exact mz_ret rfl
                  refine mz_go 4 (c' := (25, [some (.ref 65), some (.int a), some (.int b), some (.int c), some (.int d), some (.int (c / 10)), some (.int (c - c / 10 * 10)), none, none, none], [.int 6, .int 1, .int (c / 10)], mz_up (mz_i xs Ln) 64 1 1)) rfl ?_
                  refine mz_do (R := mz_r128) (as := [.int (c / 10), .int 1, .int 6]) (rest := []) (r1 := some (.int 0)) (m1 := mz_up (mz_i xs Ln) 64 1 1) rfl ⟨?_, rfl⟩ ?_
                  · refine mz_go 3 (c' := (if (c / 10) < 1 then 14 else 5, [some (.int (c / 10)), some (.int 1), some (.int 6)], [], mz_up (mz_i xs Ln) 64 1 1)) rfl ?_
                    refine mz_ifT h11 ?_
                    refine mz_go 1 (c' := (15, [some (.int (c / 10)), some (.int 1), some (.int 6)], [.int 0], mz_up (mz_i xs Ln) 64 1 1)) rfl ?_
                    exact mz_ret rfl
                  refine mz_go 7 (c' := (91, [some (.ref 65), some (.int a), some (.int b), some (.int c), some (.int d), some (.int (c / 10)), some (.int (c - c / 10 * 10)), some (.int 0), none, none], [.int 1, .ref 65], mz_up (mz_i xs Ln) 64 1 1)) rfl ?_
                  refine mz_do (R := mz_r127) (as := [.ref 65, .int 1]) (rest := []) (r1 := some (.int (-1000001))) (m1 := mz_up (mz_up (mz_i xs Ln) 64 1 1) 68 1 1) rfl ⟨?_, rfl⟩ ?_
                  · refine mz_go 11 (c' := (14, [some (.ref 65), some (.int 1)], [.int (-1000001)], mz_up (mz_up (mz_i xs Ln) 64 1 1) 68 1 1)) rfl ?_
                    exact mz_ret rfl
                  exact mz_ret rfl
              · by_cases h12 : 6 < (c / 10)
                · refine ⟨(-1000001), mz_up (mz_i xs Ln) 64 1 1, mz_up (mz_up (mz_i xs Ln) 64 1 1) 68 1 1, ⟨?_, rfl⟩, ⟨?_, rfl⟩⟩
                  · refine mz_go 10 (c' := (14, [some (.ref 0), some (.int a), some (.int b), some (.int c), some (.int d), some (.int (c / 10)), some (.int (c - c / 10 * 10)), none, none, none, none], [.int b, .int a], (mz_i xs Ln))) rfl ?_
                    refine mz_do (R := mz_r116) (as := [.int a, .int b]) (rest := []) (r1 := some (.int 1)) (m1 := (mz_i xs Ln)) rfl ⟨?_, rfl⟩ ?_
                    · refine mz_go 3 (c' := (5, [some (.int a), some (.int b)], [.int 100, .int (-100), .int a], (mz_i xs Ln))) rfl ?_
                      refine mz_do (R := mz_r121) (as := [.int a, .int (-100), .int 100]) (rest := []) (r1 := some (.int 1)) (m1 := (mz_i xs Ln)) rfl ⟨?_, rfl⟩ ?_
                      · refine mz_go 3 (c' := (if a < (-100) then 14 else 5, [some (.int a), some (.int (-100)), some (.int 100)], [], (mz_i xs Ln))) rfl ?_
                        refine mz_ifF h1 ?_
                        refine mz_go 3 (c' := (if 100 < a then 14 else 10, [some (.int a), some (.int (-100)), some (.int 100)], [], (mz_i xs Ln))) rfl ?_
                        refine mz_ifF h2 ?_
                        refine mz_go 2 (c' := (15, [some (.int a), some (.int (-100)), some (.int 100)], [.int 1], (mz_i xs Ln))) rfl ?_
                        exact mz_ret rfl
                      refine mz_go 4 (c' := (16, [some (.int a), some (.int b)], [.int 100, .int (-100), .int b], (mz_i xs Ln))) rfl ?_
                      refine mz_do (R := mz_r121) (as := [.int b, .int (-100), .int 100]) (rest := []) (r1 := some (.int 1)) (m1 := (mz_i xs Ln)) rfl ⟨?_, rfl⟩ ?_
                      · refine mz_go 3 (c' := (if b < (-100) then 14 else 5, [some (.int b), some (.int (-100)), some (.int 100)], [], (mz_i xs Ln))) rfl ?_
                        refine mz_ifF h3 ?_
                        refine mz_go 3 (c' := (if 100 < b then 14 else 10, [some (.int b), some (.int (-100)), some (.int 100)], [], (mz_i xs Ln))) rfl ?_
                        refine mz_ifF h4 ?_
                        refine mz_go 2 (c' := (15, [some (.int b), some (.int (-100)), some (.int 100)], [.int 1], (mz_i xs Ln))) rfl ?_
                        exact mz_ret rfl
                      refine mz_go 3 (c' := (27, [some (.int a), some (.int b)], [.int 1], (mz_i xs Ln))) rfl ?_
                      exact mz_ret rfl
                    refine mz_go 4 (c' := (25, [some (.ref 0), some (.int a), some (.int b), some (.int c), some (.int d), some (.int (c / 10)), some (.int (c - c / 10 * 10)), none, none, none, none], [.int 40, .int 1, .int d], (mz_i xs Ln))) rfl ?_
                    refine mz_do (R := mz_r121) (as := [.int d, .int 1, .int 40]) (rest := []) (r1 := some (.int 0)) (m1 := (mz_i xs Ln)) rfl ⟨?_, rfl⟩ ?_
                    · refine mz_go 3 (c' := (if d < 1 then 14 else 5, [some (.int d), some (.int 1), some (.int 40)], [], (mz_i xs Ln))) rfl ?_
                      refine mz_ifF h5 ?_
                      refine mz_go 3 (c' := (if 40 < d then 14 else 10, [some (.int d), some (.int 1), some (.int 40)], [], (mz_i xs Ln))) rfl ?_
                      refine mz_ifT h10 ?_
                      refine mz_go 1 (c' := (15, [some (.int d), some (.int 1), some (.int 40)], [.int 0], (mz_i xs Ln))) rfl ?_
                      exact mz_ret rfl
                    refine mz_go 3 (c' := (79, [some (.ref 0), some (.int a), some (.int b), some (.int c), some (.int d), some (.int (c / 10)), some (.int (c - c / 10 * 10)), none, none, none, none], [.int 1, .ref 0], (mz_i xs Ln))) rfl ?_
                    refine mz_do (R := mz_r109) (as := [.ref 0, .int 1]) (rest := []) (r1 := some (.int (-1000001))) (m1 := mz_up (mz_i xs Ln) 64 1 1) rfl ⟨?_, rfl⟩ ?_
                    · refine mz_go 3 (c' := (4, [some (.ref 0), some (.int 1)], [.int 6, .int 1, .int 1], (mz_i xs Ln))) rfl ?_
                      refine mz_do (R := mz_r121) (as := [.int 1, .int 1, .int 6]) (rest := []) (r1 := some (.int 1)) (m1 := (mz_i xs Ln)) rfl ⟨?_, rfl⟩ ?_
                      · refine mz_go 8 (c' := (15, [some (.int 1), some (.int 1), some (.int 6)], [.int 1], (mz_i xs Ln))) rfl ?_
                        exact mz_ret rfl
                      refine mz_go 12 (c' := (25, [some (.ref 0), some (.int 1)], [.int (-1000001)], mz_up (mz_i xs Ln) 64 1 1)) rfl ?_
                      exact mz_ret rfl
                    exact mz_ret rfl
                  · refine mz_go 10 (c' := (14, [some (.ref 65), some (.int a), some (.int b), some (.int c), some (.int d), some (.int (c / 10)), some (.int (c - c / 10 * 10)), none, none, none], [.int b, .int a], mz_up (mz_i xs Ln) 64 1 1)) rfl ?_
                    refine mz_do (R := mz_r131) (as := [.int a, .int b]) (rest := []) (r1 := some (.int 1)) (m1 := mz_up (mz_i xs Ln) 64 1 1) rfl ⟨?_, rfl⟩ ?_
                    · refine mz_go 3 (c' := (5, [some (.int a), some (.int b)], [.int 100, .int (-100), .int a], mz_up (mz_i xs Ln) 64 1 1)) rfl ?_
                      refine mz_do (R := mz_r128) (as := [.int a, .int (-100), .int 100]) (rest := []) (r1 := some (.int 1)) (m1 := mz_up (mz_i xs Ln) 64 1 1) rfl ⟨?_, rfl⟩ ?_
                      · refine mz_go 3 (c' := (if a < (-100) then 14 else 5, [some (.int a), some (.int (-100)), some (.int 100)], [], mz_up (mz_i xs Ln) 64 1 1)) rfl ?_
                        refine mz_ifF h1 ?_
                        refine mz_go 3 (c' := (if 100 < a then 14 else 10, [some (.int a), some (.int (-100)), some (.int 100)], [], mz_up (mz_i xs Ln) 64 1 1)) rfl ?_
                        refine mz_ifF h2 ?_
                        refine mz_go 2 (c' := (15, [some (.int a), some (.int (-100)), some (.int 100)], [.int 1], mz_up (mz_i xs Ln) 64 1 1)) rfl ?_
                        exact mz_ret rfl
                      refine mz_go 4 (c' := (16, [some (.int a), some (.int b)], [.int 100, .int (-100), .int b], mz_up (mz_i xs Ln) 64 1 1)) rfl ?_
                      refine mz_do (R := mz_r128) (as := [.int b, .int (-100), .int 100]) (rest := []) (r1 := some (.int 1)) (m1 := mz_up (mz_i xs Ln) 64 1 1) rfl ⟨?_, rfl⟩ ?_
                      · refine mz_go 3 (c' := (if b < (-100) then 14 else 5, [some (.int b), some (.int (-100)), some (.int 100)], [], mz_up (mz_i xs Ln) 64 1 1)) rfl ?_
                        refine mz_ifF h3 ?_
                        refine mz_go 3 (c' := (if 100 < b then 14 else 10, [some (.int b), some (.int (-100)), some (.int 100)], [], mz_up (mz_i xs Ln) 64 1 1)) rfl ?_
                        refine mz_ifF h4 ?_
                        refine mz_go 2 (c' := (15, [some (.int b), some (.int (-100)), some (.int 100)], [.int 1], mz_up (mz_i xs Ln) 64 1 1)) rfl ?_
                        exact mz_ret rfl
                      refine mz_go 3 (c' := (27, [some (.int a), some (.int b)], [.int 1], mz_up (mz_i xs Ln) 64 1 1)) rfl ?_
                      exact mz_ret rfl
                    refine mz_go 4 (c' := (25, [some (.ref 65), some (.int a), some (.int b), some (.int c), some (.int d), some (.int (c / 10)), some (.int (c - c / 10 * 10)), none, none, none], [.int 6, .int 1, .int (c / 10)], mz_up (mz_i xs Ln) 64 1 1)) rfl ?_
                    refine mz_do (R := mz_r128) (as := [.int (c / 10), .int 1, .int 6]) (rest := []) (r1 := some (.int 0)) (m1 := mz_up (mz_i xs Ln) 64 1 1) rfl ⟨?_, rfl⟩ ?_
                    · refine mz_go 3 (c' := (if (c / 10) < 1 then 14 else 5, [some (.int (c / 10)), some (.int 1), some (.int 6)], [], mz_up (mz_i xs Ln) 64 1 1)) rfl ?_
                      refine mz_ifF h11 ?_
                      refine mz_go 3 (c' := (if 6 < (c / 10) then 14 else 10, [some (.int (c / 10)), some (.int 1), some (.int 6)], [], mz_up (mz_i xs Ln) 64 1 1)) rfl ?_
                      refine mz_ifT h12 ?_
                      refine mz_go 1 (c' := (15, [some (.int (c / 10)), some (.int 1), some (.int 6)], [.int 0], mz_up (mz_i xs Ln) 64 1 1)) rfl ?_
                      exact mz_ret rfl
                    refine mz_go 7 (c' := (91, [some (.ref 65), some (.int a), some (.int b), some (.int c), some (.int d), some (.int (c / 10)), some (.int (c - c / 10 * 10)), some (.int 0), none, none], [.int 1, .ref 65], mz_up (mz_i xs Ln) 64 1 1)) rfl ?_
                    refine mz_do (R := mz_r127) (as := [.ref 65, .int 1]) (rest := []) (r1 := some (.int (-1000001))) (m1 := mz_up (mz_up (mz_i xs Ln) 64 1 1) 68 1 1) rfl ⟨?_, rfl⟩ ?_
                    · refine mz_go 11 (c' := (14, [some (.ref 65), some (.int 1)], [.int (-1000001)], mz_up (mz_up (mz_i xs Ln) 64 1 1) 68 1 1)) rfl ?_
                      exact mz_ret rfl
                    exact mz_ret rfl
                · by_cases h13 : (c - c / 10 * 10) < 1
                  · refine ⟨(-1000001), mz_up (mz_i xs Ln) 64 1 1, mz_up (mz_up (mz_i xs Ln) 64 1 1) 68 1 1, ⟨?_, rfl⟩, ⟨?_, rfl⟩⟩
                    · refine mz_go 10 (c' := (14, [some (.ref 0), some (.int a), some (.int b), some (.int c), some (.int d), some (.int (c / 10)), some (.int (c - c / 10 * 10)), none, none, none, none], [.int b, .int a], (mz_i xs Ln))) rfl ?_
                      refine mz_do (R := mz_r116) (as := [.int a, .int b]) (rest := []) (r1 := some (.int 1)) (m1 := (mz_i xs Ln)) rfl ⟨?_, rfl⟩ ?_
                      · refine mz_go 3 (c' := (5, [some (.int a), some (.int b)], [.int 100, .int (-100), .int a], (mz_i xs Ln))) rfl ?_
                        refine mz_do (R := mz_r121) (as := [.int a, .int (-100), .int 100]) (rest := []) (r1 := some (.int 1)) (m1 := (mz_i xs Ln)) rfl ⟨?_, rfl⟩ ?_
                        · refine mz_go 3 (c' := (if a < (-100) then 14 else 5, [some (.int a), some (.int (-100)), some (.int 100)], [], (mz_i xs Ln))) rfl ?_
                          refine mz_ifF h1 ?_
                          refine mz_go 3 (c' := (if 100 < a then 14 else 10, [some (.int a), some (.int (-100)), some (.int 100)], [], (mz_i xs Ln))) rfl ?_
                          refine mz_ifF h2 ?_
                          refine mz_go 2 (c' := (15, [some (.int a), some (.int (-100)), some (.int 100)], [.int 1], (mz_i xs Ln))) rfl ?_
                          exact mz_ret rfl
                        refine mz_go 4 (c' := (16, [some (.int a), some (.int b)], [.int 100, .int (-100), .int b], (mz_i xs Ln))) rfl ?_
                        refine mz_do (R := mz_r121) (as := [.int b, .int (-100), .int 100]) (rest := []) (r1 := some (.int 1)) (m1 := (mz_i xs Ln)) rfl ⟨?_, rfl⟩ ?_
                        · refine mz_go 3 (c' := (if b < (-100) then 14 else 5, [some (.int b), some (.int (-100)), some (.int 100)], [], (mz_i xs Ln))) rfl ?_
                          refine mz_ifF h3 ?_
                          refine mz_go 3 (c' := (if 100 < b then 14 else 10, [some (.int b), some (.int (-100)), some (.int 100)], [], (mz_i xs Ln))) rfl ?_
                          refine mz_ifF h4 ?_
                          refine mz_go 2 (c' := (15, [some (.int b), some (.int (-100)), some (.int 100)], [.int 1], (mz_i xs Ln))) rfl ?_
                          exact mz_ret rfl
                        refine mz_go 3 (c' := (27, [some (.int a), some (.int b)], [.int 1], (mz_i xs Ln))) rfl ?_
                        exact mz_ret rfl
                      refine mz_go 4 (c' := (25, [some (.ref 0), some (.int a), some (.int b), some (.int c), some (.int d), some (.int (c / 10)), some (.int (c - c / 10 * 10)), none, none, none, none], [.int 40, .int 1, .int d], (mz_i xs Ln))) rfl ?_
                      refine mz_do (R := mz_r121) (as := [.int d, .int 1, .int 40]) (rest := []) (r1 := some (.int 0)) (m1 := (mz_i xs Ln)) rfl ⟨?_, rfl⟩ ?_
                      · refine mz_go 3 (c' := (if d < 1 then 14 else 5, [some (.int d), some (.int 1), some (.int 40)], [], (mz_i xs Ln))) rfl ?_
                        refine mz_ifF h5 ?_
                        refine mz_go 3 (c' := (if 40 < d then 14 else 10, [some (.int d), some (.int 1), some (.int 40)], [], (mz_i xs Ln))) rfl ?_
                        refine mz_ifT h10 ?_
                        refine mz_go 1 (c' := (15, [some (.int d), some (.int 1), some (.int 40)], [.int 0], (mz_i xs Ln))) rfl ?_
                        exact mz_ret rfl
                      refine mz_go 3 (c' := (79, [some (.ref 0), some (.int a), some (.int b), some (.int c), some (.int d), some (.int (c / 10)), some (.int (c - c / 10 * 10)), none, none, none, none], [.int 1, .ref 0], (mz_i xs Ln))) rfl ?_
                      refine mz_do (R := mz_r109) (as := [.ref 0, .int 1]) (rest := []) (r1 := some (.int (-1000001))) (m1 := mz_up (mz_i xs Ln) 64 1 1) rfl ⟨?_, rfl⟩ ?_
                      · refine mz_go 3 (c' := (4, [some (.ref 0), some (.int 1)], [.int 6, .int 1, .int 1], (mz_i xs Ln))) rfl ?_
                        refine mz_do (R := mz_r121) (as := [.int 1, .int 1, .int 6]) (rest := []) (r1 := some (.int 1)) (m1 := (mz_i xs Ln)) rfl ⟨?_, rfl⟩ ?_
                        · refine mz_go 8 (c' := (15, [some (.int 1), some (.int 1), some (.int 6)], [.int 1], (mz_i xs Ln))) rfl ?_
                          exact mz_ret rfl
                        refine mz_go 12 (c' := (25, [some (.ref 0), some (.int 1)], [.int (-1000001)], mz_up (mz_i xs Ln) 64 1 1)) rfl ?_
                        exact mz_ret rfl
                      exact mz_ret rfl
                    · refine mz_go 10 (c' := (14, [some (.ref 65), some (.int a), some (.int b), some (.int c), some (.int d), some (.int (c / 10)), some (.int (c - c / 10 * 10)), none, none, none], [.int b, .int a], mz_up (mz_i xs Ln) 64 1 1)) rfl ?_
                      refine mz_do (R := mz_r131) (as := [.int a, .int b]) (rest := []) (r1 := some (.int 1)) (m1 := mz_up (mz_i xs Ln) 64 1 1) rfl ⟨?_, rfl⟩ ?_
                      · refine mz_go 3 (c' := (5, [some (.int a), some (.int b)], [.int 100, .int (-100), .int a], mz_up (mz_i xs Ln) 64 1 1)) rfl ?_
                        refine mz_do (R := mz_r128) (as := [.int a, .int (-100), .int 100]) (rest := []) (r1 := some (.int 1)) (m1 := mz_up (mz_i xs Ln) 64 1 1) rfl ⟨?_, rfl⟩ ?_
                        · refine mz_go 3 (c' := (if a < (-100) then 14 else 5, [some (.int a), some (.int (-100)), some (.int 100)], [], mz_up (mz_i xs Ln) 64 1 1)) rfl ?_
                          refine mz_ifF h1 ?_
                          refine mz_go 3 (c' := (if 100 < a then 14 else 10, [some (.int a), some (.int (-100)), some (.int 100)], [], mz_up (mz_i xs Ln) 64 1 1)) rfl ?_
                          refine mz_ifF h2 ?_
                          refine mz_go 2 (c' := (15, [some (.int a), some (.int (-100)), some (.int 100)], [.int 1], mz_up (mz_i xs Ln) 64 1 1)) rfl ?_
                          exact mz_ret rfl
                        refine mz_go 4 (c' := (16, [some (.int a), some (.int b)], [.int 100, .int (-100), .int b], mz_up (mz_i xs Ln) 64 1 1)) rfl ?_
                        refine mz_do (R := mz_r128) (as := [.int b, .int (-100), .int 100]) (rest := []) (r1 := some (.int 1)) (m1 := mz_up (mz_i xs Ln) 64 1 1) rfl ⟨?_, rfl⟩ ?_
                        · refine mz_go 3 (c' := (if b < (-100) then 14 else 5, [some (.int b), some (.int (-100)), some (.int 100)], [], mz_up (mz_i xs Ln) 64 1 1)) rfl ?_
                          refine mz_ifF h3 ?_
                          refine mz_go 3 (c' := (if 100 < b then 14 else 10, [some (.int b), some (.int (-100)), some (.int 100)], [], mz_up (mz_i xs Ln) 64 1 1)) rfl ?_
                          refine mz_ifF h4 ?_
                          refine mz_go 2 (c' := (15, [some (.int b), some (.int (-100)), some (.int 100)], [.int 1], mz_up (mz_i xs Ln) 64 1 1)) rfl ?_
                          exact mz_ret rfl
                        refine mz_go 3 (c' := (27, [some (.int a), some (.int b)], [.int 1], mz_up (mz_i xs Ln) 64 1 1)) rfl ?_
                        exact mz_ret rfl
                      refine mz_go 4 (c' := (25, [some (.ref 65), some (.int a), some (.int b), some (.int c), some (.int d), some (.int (c / 10)), some (.int (c - c / 10 * 10)), none, none, none], [.int 6, .int 1, .int (c / 10)], mz_up (mz_i xs Ln) 64 1 1)) rfl ?_
                      refine mz_do (R := mz_r128) (as := [.int (c / 10), .int 1, .int 6]) (rest := []) (r1 := some (.int 1)) (m1 := mz_up (mz_i xs Ln) 64 1 1) rfl ⟨?_, rfl⟩ ?_
                      · refine mz_go 3 (c' := (if (c / 10) < 1 then 14 else 5, [some (.int (c / 10)), some (.int 1), some (.int 6)], [], mz_up (mz_i xs Ln) 64 1 1)) rfl ?_
                        refine mz_ifF h11 ?_
                        refine mz_go 3 (c' := (if 6 < (c / 10) then 14 else 10, [some (.int (c / 10)), some (.int 1), some (.int 6)], [], mz_up (mz_i xs Ln) 64 1 1)) rfl ?_
                        refine mz_ifF h12 ?_
                        refine mz_go 2 (c' := (15, [some (.int (c / 10)), some (.int 1), some (.int 6)], [.int 1], mz_up (mz_i xs Ln) 64 1 1)) rfl ?_
                        exact mz_ret rfl
                      refine mz_go 4 (c' := (36, [some (.ref 65), some (.int a), some (.int b), some (.int c), some (.int d), some (.int (c / 10)), some (.int (c - c / 10 * 10)), none, none, none], [.int 6, .int 1, .int (c - c / 10 * 10)], mz_up (mz_i xs Ln) 64 1 1)) rfl ?_
                      refine mz_do (R := mz_r128) (as := [.int (c - c / 10 * 10), .int 1, .int 6]) (rest := []) (r1 := some (.int 0)) (m1 := mz_up (mz_i xs Ln) 64 1 1) rfl ⟨?_, rfl⟩ ?_
                      · refine mz_go 3 (c' := (if (c - c / 10 * 10) < 1 then 14 else 5, [some (.int (c - c / 10 * 10)), some (.int 1), some (.int 6)], [], mz_up (mz_i xs Ln) 64 1 1)) rfl ?_
                        refine mz_ifT h13 ?_
                        refine mz_go 1 (c' := (15, [some (.int (c - c / 10 * 10)), some (.int 1), some (.int 6)], [.int 0], mz_up (mz_i xs Ln) 64 1 1)) rfl ?_
                        exact mz_ret rfl
                      refine mz_go 7 (c' := (91, [some (.ref 65), some (.int a), some (.int b), some (.int c), some (.int d), some (.int (c / 10)), some (.int (c - c / 10 * 10)), some (.int 0), none, none], [.int 1, .ref 65], mz_up (mz_i xs Ln) 64 1 1)) rfl ?_
                      refine mz_do (R := mz_r127) (as := [.ref 65, .int 1]) (rest := []) (r1 := some (.int (-1000001))) (m1 := mz_up (mz_up (mz_i xs Ln) 64 1 1) 68 1 1) rfl ⟨?_, rfl⟩ ?_
                      · refine mz_go 11 (c' := (14, [some (.ref 65), some (.int 1)], [.int (-1000001)], mz_up (mz_up (mz_i xs Ln) 64 1 1) 68 1 1)) rfl ?_
                        exact mz_ret rfl
                      exact mz_ret rfl
                  · by_cases h14 : 6 < (c - c / 10 * 10)
                    · refine ⟨(-1000001), mz_up (mz_i xs Ln) 64 1 1, mz_up (mz_up (mz_i xs Ln) 64 1 1) 68 1 1, ⟨?_, rfl⟩, ⟨?_, rfl⟩⟩
                      · refine mz_go 10 (c' := (14, [some (.ref 0), some (.int a), some (.int b), some (.int c), some (.int d), some (.int (c / 10)), some (.int (c - c / 10 * 10)), none, none, none, none], [.int b, .int a], (mz_i xs Ln))) rfl ?_
                        refine mz_do (R := mz_r116) (as := [.int a, .int b]) (rest := []) (r1 := some (.int 1)) (m1 := (mz_i xs Ln)) rfl ⟨?_, rfl⟩ ?_
                        · refine mz_go 3 (c' := (5, [some (.int a), some (.int b)], [.int 100, .int (-100), .int a], (mz_i xs Ln))) rfl ?_
                          refine mz_do (R := mz_r121) (as := [.int a, .int (-100), .int 100]) (rest := []) (r1 := some (.int 1)) (m1 := (mz_i xs Ln)) rfl ⟨?_, rfl⟩ ?_
                          · refine mz_go 3 (c' := (if a < (-100) then 14 else 5, [some (.int a), some (.int (-100)), some (.int 100)], [], (mz_i xs Ln))) rfl ?_
                            refine mz_ifF h1 ?_
                            refine mz_go 3 (c' := (if 100 < a then 14 else 10, [some (.int a), some (.int (-100)), some (.int 100)], [], (mz_i xs Ln))) rfl ?_
                            refine mz_ifF h2 ?_
                            refine mz_go 2 (c' := (15, [some (.int a), some (.int (-100)), some (.int 100)], [.int 1], (mz_i xs Ln))) rfl ?_
                            exact mz_ret rfl
                          refine mz_go 4 (c' := (16, [some (.int a), some (.int b)], [.int 100, .int (-100), .int b], (mz_i xs Ln))) rfl ?_
                          refine mz_do (R := mz_r121) (as := [.int b, .int (-100), .int 100]) (rest := []) (r1 := some (.int 1)) (m1 := (mz_i xs Ln)) rfl ⟨?_, rfl⟩ ?_
                          · refine mz_go 3 (c' := (if b < (-100) then 14 else 5, [some (.int b), some (.int (-100)), some (.int 100)], [], (mz_i xs Ln))) rfl ?_
                            refine mz_ifF h3 ?_
                            refine mz_go 3 (c' := (if 100 < b then 14 else 10, [some (.int b), some (.int (-100)), some (.int 100)], [], (mz_i xs Ln))) rfl ?_
                            refine mz_ifF h4 ?_
                            refine mz_go 2 (c' := (15, [some (.int b), some (.int (-100)), some (.int 100)], [.int 1], (mz_i xs Ln))) rfl ?_
                            exact mz_ret rfl
                          refine mz_go 3 (c' := (27, [some (.int a), some (.int b)], [.int 1], (mz_i xs Ln))) rfl ?_
                          exact mz_ret rfl
                        refine mz_go 4 (c' := (25, [some (.ref 0), some (.int a), some (.int b), some (.int c), some (.int d), some (.int (c / 10)), some (.int (c - c / 10 * 10)), none, none, none, none], [.int 40, .int 1, .int d], (mz_i xs Ln))) rfl ?_
                        refine mz_do (R := mz_r121) (as := [.int d, .int 1, .int 40]) (rest := []) (r1 := some (.int 0)) (m1 := (mz_i xs Ln)) rfl ⟨?_, rfl⟩ ?_
                        · refine mz_go 3 (c' := (if d < 1 then 14 else 5, [some (.int d), some (.int 1), some (.int 40)], [], (mz_i xs Ln))) rfl ?_
                          refine mz_ifF h5 ?_
                          refine mz_go 3 (c' := (if 40 < d then 14 else 10, [some (.int d), some (.int 1), some (.int 40)], [], (mz_i xs Ln))) rfl ?_
                          refine mz_ifT h10 ?_
                          refine mz_go 1 (c' := (15, [some (.int d), some (.int 1), some (.int 40)], [.int 0], (mz_i xs Ln))) rfl ?_
                          exact mz_ret rfl
                        refine mz_go 3 (c' := (79, [some (.ref 0), some (.int a), some (.int b), some (.int c), some (.int d), some (.int (c / 10)), some (.int (c - c / 10 * 10)), none, none, none, none], [.int 1, .ref 0], (mz_i xs Ln))) rfl ?_
                        refine mz_do (R := mz_r109) (as := [.ref 0, .int 1]) (rest := []) (r1 := some (.int (-1000001))) (m1 := mz_up (mz_i xs Ln) 64 1 1) rfl ⟨?_, rfl⟩ ?_
                        · refine mz_go 3 (c' := (4, [some (.ref 0), some (.int 1)], [.int 6, .int 1, .int 1], (mz_i xs Ln))) rfl ?_
                          refine mz_do (R := mz_r121) (as := [.int 1, .int 1, .int 6]) (rest := []) (r1 := some (.int 1)) (m1 := (mz_i xs Ln)) rfl ⟨?_, rfl⟩ ?_
                          · refine mz_go 8 (c' := (15, [some (.int 1), some (.int 1), some (.int 6)], [.int 1], (mz_i xs Ln))) rfl ?_
                            exact mz_ret rfl
                          refine mz_go 12 (c' := (25, [some (.ref 0), some (.int 1)], [.int (-1000001)], mz_up (mz_i xs Ln) 64 1 1)) rfl ?_
                          exact mz_ret rfl
                        exact mz_ret rfl
                      · refine mz_go 10 (c' := (14, [some (.ref 65), some (.int a), some (.int b), some (.int c), some (.int d), some (.int (c / 10)), some (.int (c - c / 10 * 10)), none, none, none], [.int b, .int a], mz_up (mz_i xs Ln) 64 1 1)) rfl ?_
                        refine mz_do (R := mz_r131) (as := [.int a, .int b]) (rest := []) (r1 := some (.int 1)) (m1 := mz_up (mz_i xs Ln) 64 1 1) rfl ⟨?_, rfl⟩ ?_
                        · refine mz_go 3 (c' := (5, [some (.int a), some (.int b)], [.int 100, .int (-100), .int a], mz_up (mz_i xs Ln) 64 1 1)) rfl ?_
                          refine mz_do (R := mz_r128) (as := [.int a, .int (-100), .int 100]) (rest := []) (r1 := some (.int 1)) (m1 := mz_up (mz_i xs Ln) 64 1 1) rfl ⟨?_, rfl⟩ ?_
                          · refine mz_go 3 (c' := (if a < (-100) then 14 else 5, [some (.int a), some (.int (-100)), some (.int 100)], [], mz_up (mz_i xs Ln) 64 1 1)) rfl ?_
                            refine mz_ifF h1 ?_
                            refine mz_go 3 (c' := (if 100 < a then 14 else 10, [some (.int a), some (.int (-100)), some (.int 100)], [], mz_up (mz_i xs Ln) 64 1 1)) rfl ?_
                            refine mz_ifF h2 ?_
                            refine mz_go 2 (c' := (15, [some (.int a), some (.int (-100)), some (.int 100)], [.int 1], mz_up (mz_i xs Ln) 64 1 1)) rfl ?_
                            exact mz_ret rfl
                          refine mz_go 4 (c' := (16, [some (.int a), some (.int b)], [.int 100, .int (-100), .int b], mz_up (mz_i xs Ln) 64 1 1)) rfl ?_
                          refine mz_do (R := mz_r128) (as := [.int b, .int (-100), .int 100]) (rest := []) (r1 := some (.int 1)) (m1 := mz_up (mz_i xs Ln) 64 1 1) rfl ⟨?_, rfl⟩ ?_
                          · refine mz_go 3 (c' := (if b < (-100) then 14 else 5, [some (.int b), some (.int (-100)), some (.int 100)], [], mz_up (mz_i xs Ln) 64 1 1)) rfl ?_
                            refine mz_ifF h3 ?_
                            refine mz_go 3 (c' := (if 100 < b then 14 else 10, [some (.int b), some (.int (-100)), some (.int 100)], [], mz_up (mz_i xs Ln) 64 1 1)) rfl ?_
                            refine mz_ifF h4 ?_
                            refine mz_go 2 (c' := (15, [some (.int b), some (.int (-100)), some (.int 100)], [.int 1], mz_up (mz_i xs Ln) 64 1 1)) rfl ?_
                            exact mz_ret rfl
                          refine mz_go 3 (c' := (27, [some (.int a), some (.int b)], [.int 1], mz_up (mz_i xs Ln) 64 1 1)) rfl ?_
                          exact mz_ret rfl
                        refine mz_go 4 (c' := (25, [some (.ref 65), some (.int a), some (.int b), some (.int c), some (.int d), some (.int (c / 10)), some (.int (c - c / 10 * 10)), none, none, none], [.int 6, .int 1, .int (c / 10)], mz_up (mz_i xs Ln) 64 1 1)) rfl ?_
                        refine mz_do (R := mz_r128) (as := [.int (c / 10), .int 1, .int 6]) (rest := []) (r1 := some (.int 1)) (m1 := mz_up (mz_i xs Ln) 64 1 1) rfl ⟨?_, rfl⟩ ?_
                        · refine mz_go 3 (c' := (if (c / 10) < 1 then 14 else 5, [some (.int (c / 10)), some (.int 1), some (.int 6)], [], mz_up (mz_i xs Ln) 64 1 1)) rfl ?_
                          refine mz_ifF h11 ?_
                          refine mz_go 3 (c' := (if 6 < (c / 10) then 14 else 10, [some (.int (c / 10)), some (.int 1), some (.int 6)], [], mz_up (mz_i xs Ln) 64 1 1)) rfl ?_
                          refine mz_ifF h12 ?_
                          refine mz_go 2 (c' := (15, [some (.int (c / 10)), some (.int 1), some (.int 6)], [.int 1], mz_up (mz_i xs Ln) 64 1 1)) rfl ?_
                          exact mz_ret rfl
                        refine mz_go 4 (c' := (36, [some (.ref 65), some (.int a), some (.int b), some (.int c), some (.int d), some (.int (c / 10)), some (.int (c - c / 10 * 10)), none, none, none], [.int 6, .int 1, .int (c - c / 10 * 10)], mz_up (mz_i xs Ln) 64 1 1)) rfl ?_
                        refine mz_do (R := mz_r128) (as := [.int (c - c / 10 * 10), .int 1, .int 6]) (rest := []) (r1 := some (.int 0)) (m1 := mz_up (mz_i xs Ln) 64 1 1) rfl ⟨?_, rfl⟩ ?_
                        · refine mz_go 3 (c' := (if (c - c / 10 * 10) < 1 then 14 else 5, [some (.int (c - c / 10 * 10)), some (.int 1), some (.int 6)], [], mz_up (mz_i xs Ln) 64 1 1)) rfl ?_
                          refine mz_ifF h13 ?_
                          refine mz_go 3 (c' := (if 6 < (c - c / 10 * 10) then 14 else 10, [some (.int (c - c / 10 * 10)), some (.int 1), some (.int 6)], [], mz_up (mz_i xs Ln) 64 1 1)) rfl ?_
                          refine mz_ifT h14 ?_
                          refine mz_go 1 (c' := (15, [some (.int (c - c / 10 * 10)), some (.int 1), some (.int 6)], [.int 0], mz_up (mz_i xs Ln) 64 1 1)) rfl ?_
                          exact mz_ret rfl
                        refine mz_go 7 (c' := (91, [some (.ref 65), some (.int a), some (.int b), some (.int c), some (.int d), some (.int (c / 10)), some (.int (c - c / 10 * 10)), some (.int 0), none, none], [.int 1, .ref 65], mz_up (mz_i xs Ln) 64 1 1)) rfl ?_
                        refine mz_do (R := mz_r127) (as := [.ref 65, .int 1]) (rest := []) (r1 := some (.int (-1000001))) (m1 := mz_up (mz_up (mz_i xs Ln) 64 1 1) 68 1 1) rfl ⟨?_, rfl⟩ ?_
                        · refine mz_go 11 (c' := (14, [some (.ref 65), some (.int 1)], [.int (-1000001)], mz_up (mz_up (mz_i xs Ln) 64 1 1) 68 1 1)) rfl ?_
                          exact mz_ret rfl
                        exact mz_ret rfl
                    · refine ⟨(-1000001), mz_up (mz_i xs Ln) 64 1 1, mz_up (mz_up (mz_i xs Ln) 64 1 1) 68 1 1, ⟨?_, rfl⟩, ⟨?_, rfl⟩⟩
                      · refine mz_go 10 (c' := (14, [some (.ref 0), some (.int a), some (.int b), some (.int c), some (.int d), some (.int (c / 10)), some (.int (c - c / 10 * 10)), none, none, none, none], [.int b, .int a], (mz_i xs Ln))) rfl ?_
                        refine mz_do (R := mz_r116) (as := [.int a, .int b]) (rest := []) (r1 := some (.int 1)) (m1 := (mz_i xs Ln)) rfl ⟨?_, rfl⟩ ?_
                        · refine mz_go 3 (c' := (5, [some (.int a), some (.int b)], [.int 100, .int (-100), .int a], (mz_i xs Ln))) rfl ?_
                          refine mz_do (R := mz_r121) (as := [.int a, .int (-100), .int 100]) (rest := []) (r1 := some (.int 1)) (m1 := (mz_i xs Ln)) rfl ⟨?_, rfl⟩ ?_
                          · refine mz_go 3 (c' := (if a < (-100) then 14 else 5, [some (.int a), some (.int (-100)), some (.int 100)], [], (mz_i xs Ln))) rfl ?_
                            refine mz_ifF h1 ?_
                            refine mz_go 3 (c' := (if 100 < a then 14 else 10, [some (.int a), some (.int (-100)), some (.int 100)], [], (mz_i xs Ln))) rfl ?_
                            refine mz_ifF h2 ?_
                            refine mz_go 2 (c' := (15, [some (.int a), some (.int (-100)), some (.int 100)], [.int 1], (mz_i xs Ln))) rfl ?_
                            exact mz_ret rfl
                          refine mz_go 4 (c' := (16, [some (.int a), some (.int b)], [.int 100, .int (-100), .int b], (mz_i xs Ln))) rfl ?_
                          refine mz_do (R := mz_r121) (as := [.int b, .int (-100), .int 100]) (rest := []) (r1 := some (.int 1)) (m1 := (mz_i xs Ln)) rfl ⟨?_, rfl⟩ ?_
                          · refine mz_go 3 (c' := (if b < (-100) then 14 else 5, [some (.int b), some (.int (-100)), some (.int 100)], [], (mz_i xs Ln))) rfl ?_
                            refine mz_ifF h3 ?_
                            refine mz_go 3 (c' := (if 100 < b then 14 else 10, [some (.int b), some (.int (-100)), some (.int 100)], [], (mz_i xs Ln))) rfl ?_
                            refine mz_ifF h4 ?_
                            refine mz_go 2 (c' := (15, [some (.int b), some (.int (-100)), some (.int 100)], [.int 1], (mz_i xs Ln))) rfl ?_
                            exact mz_ret rfl
                          refine mz_go 3 (c' := (27, [some (.int a), some (.int b)], [.int 1], (mz_i xs Ln))) rfl ?_
                          exact mz_ret rfl
                        refine mz_go 4 (c' := (25, [some (.ref 0), some (.int a), some (.int b), some (.int c), some (.int d), some (.int (c / 10)), some (.int (c - c / 10 * 10)), none, none, none, none], [.int 40, .int 1, .int d], (mz_i xs Ln))) rfl ?_
                        refine mz_do (R := mz_r121) (as := [.int d, .int 1, .int 40]) (rest := []) (r1 := some (.int 0)) (m1 := (mz_i xs Ln)) rfl ⟨?_, rfl⟩ ?_
                        · refine mz_go 3 (c' := (if d < 1 then 14 else 5, [some (.int d), some (.int 1), some (.int 40)], [], (mz_i xs Ln))) rfl ?_
                          refine mz_ifF h5 ?_
                          refine mz_go 3 (c' := (if 40 < d then 14 else 10, [some (.int d), some (.int 1), some (.int 40)], [], (mz_i xs Ln))) rfl ?_
                          refine mz_ifT h10 ?_
                          refine mz_go 1 (c' := (15, [some (.int d), some (.int 1), some (.int 40)], [.int 0], (mz_i xs Ln))) rfl ?_
                          exact mz_ret rfl
                        refine mz_go 3 (c' := (79, [some (.ref 0), some (.int a), some (.int b), some (.int c), some (.int d), some (.int (c / 10)), some (.int (c - c / 10 * 10)), none, none, none, none], [.int 1, .ref 0], (mz_i xs Ln))) rfl ?_
                        refine mz_do (R := mz_r109) (as := [.ref 0, .int 1]) (rest := []) (r1 := some (.int (-1000001))) (m1 := mz_up (mz_i xs Ln) 64 1 1) rfl ⟨?_, rfl⟩ ?_
                        · refine mz_go 3 (c' := (4, [some (.ref 0), some (.int 1)], [.int 6, .int 1, .int 1], (mz_i xs Ln))) rfl ?_
                          refine mz_do (R := mz_r121) (as := [.int 1, .int 1, .int 6]) (rest := []) (r1 := some (.int 1)) (m1 := (mz_i xs Ln)) rfl ⟨?_, rfl⟩ ?_
                          · refine mz_go 8 (c' := (15, [some (.int 1), some (.int 1), some (.int 6)], [.int 1], (mz_i xs Ln))) rfl ?_
                            exact mz_ret rfl
                          refine mz_go 12 (c' := (25, [some (.ref 0), some (.int 1)], [.int (-1000001)], mz_up (mz_i xs Ln) 64 1 1)) rfl ?_
                          exact mz_ret rfl
                        exact mz_ret rfl
                      · refine mz_go 10 (c' := (14, [some (.ref 65), some (.int a), some (.int b), some (.int c), some (.int d), some (.int (c / 10)), some (.int (c - c / 10 * 10)), none, none, none], [.int b, .int a], mz_up (mz_i xs Ln) 64 1 1)) rfl ?_
                        refine mz_do (R := mz_r131) (as := [.int a, .int b]) (rest := []) (r1 := some (.int 1)) (m1 := mz_up (mz_i xs Ln) 64 1 1) rfl ⟨?_, rfl⟩ ?_
                        · refine mz_go 3 (c' := (5, [some (.int a), some (.int b)], [.int 100, .int (-100), .int a], mz_up (mz_i xs Ln) 64 1 1)) rfl ?_
                          refine mz_do (R := mz_r128) (as := [.int a, .int (-100), .int 100]) (rest := []) (r1 := some (.int 1)) (m1 := mz_up (mz_i xs Ln) 64 1 1) rfl ⟨?_, rfl⟩ ?_
                          · refine mz_go 3 (c' := (if a < (-100) then 14 else 5, [some (.int a), some (.int (-100)), some (.int 100)], [], mz_up (mz_i xs Ln) 64 1 1)) rfl ?_
                            refine mz_ifF h1 ?_
                            refine mz_go 3 (c' := (if 100 < a then 14 else 10, [some (.int a), some (.int (-100)), some (.int 100)], [], mz_up (mz_i xs Ln) 64 1 1)) rfl ?_
                            refine mz_ifF h2 ?_
                            refine mz_go 2 (c' := (15, [some (.int a), some (.int (-100)), some (.int 100)], [.int 1], mz_up (mz_i xs Ln) 64 1 1)) rfl ?_
                            exact mz_ret rfl
                          refine mz_go 4 (c' := (16, [some (.int a), some (.int b)], [.int 100, .int (-100), .int b], mz_up (mz_i xs Ln) 64 1 1)) rfl ?_
                          refine mz_do (R := mz_r128) (as := [.int b, .int (-100), .int 100]) (rest := []) (r1 := some (.int 1)) (m1 := mz_up (mz_i xs Ln) 64 1 1) rfl ⟨?_, rfl⟩ ?_
                          · refine mz_go 3 (c' := (if b < (-100) then 14 else 5, [some (.int b), some (.int (-100)), some (.int 100)], [], mz_up (mz_i xs Ln) 64 1 1)) rfl ?_
                            refine mz_ifF h3 ?_
                            refine mz_go 3 (c' := (if 100 < b then 14 else 10, [some (.int b), some (.int (-100)), some (.int 100)], [], mz_up (mz_i xs Ln) 64 1 1)) rfl ?_
                            refine mz_ifF h4 ?_
                            refine mz_go 2 (c' := (15, [some (.int b), some (.int (-100)), some (.int 100)], [.int 1], mz_up (mz_i xs Ln) 64 1 1)) rfl ?_
                            exact mz_ret rfl
                          refine mz_go 3 (c' := (27, [some (.int a), some (.int b)], [.int 1], mz_up (mz_i xs Ln) 64 1 1)) rfl ?_
                          exact mz_ret rfl
                        refine mz_go 4 (c' := (25, [some (.ref 65), some (.int a), some (.int b), some (.int c), some (.int d), some (.int (c / 10)), some (.int (c - c / 10 * 10)), none, none, none], [.int 6, .int 1, .int (c / 10)], mz_up (mz_i xs Ln) 64 1 1)) rfl ?_
                        refine mz_do (R := mz_r128) (as := [.int (c / 10), .int 1, .int 6]) (rest := []) (r1 := some (.int 1)) (m1 := mz_up (mz_i xs Ln) 64 1 1) rfl ⟨?_, rfl⟩ ?_
                        · refine mz_go 3 (c' := (if (c / 10) < 1 then 14 else 5, [some (.int (c / 10)), some (.int 1), some (.int 6)], [], mz_up (mz_i xs Ln) 64 1 1)) rfl ?_
                          refine mz_ifF h11 ?_
                          refine mz_go 3 (c' := (if 6 < (c / 10) then 14 else 10, [some (.int (c / 10)), some (.int 1), some (.int 6)], [], mz_up (mz_i xs Ln) 64 1 1)) rfl ?_
                          refine mz_ifF h12 ?_
                          refine mz_go 2 (c' := (15, [some (.int (c / 10)), some (.int 1), some (.int 6)], [.int 1], mz_up (mz_i xs Ln) 64 1 1)) rfl ?_
                          exact mz_ret rfl
                        refine mz_go 4 (c' := (36, [some (.ref 65), some (.int a), some (.int b), some (.int c), some (.int d), some (.int (c / 10)), some (.int (c - c / 10 * 10)), none, none, none], [.int 6, .int 1, .int (c - c / 10 * 10)], mz_up (mz_i xs Ln) 64 1 1)) rfl ?_
                        refine mz_do (R := mz_r128) (as := [.int (c - c / 10 * 10), .int 1, .int 6]) (rest := []) (r1 := some (.int 1)) (m1 := mz_up (mz_i xs Ln) 64 1 1) rfl ⟨?_, rfl⟩ ?_
                        · refine mz_go 3 (c' := (if (c - c / 10 * 10) < 1 then 14 else 5, [some (.int (c - c / 10 * 10)), some (.int 1), some (.int 6)], [], mz_up (mz_i xs Ln) 64 1 1)) rfl ?_
                          refine mz_ifF h13 ?_
                          refine mz_go 3 (c' := (if 6 < (c - c / 10 * 10) then 14 else 10, [some (.int (c - c / 10 * 10)), some (.int 1), some (.int 6)], [], mz_up (mz_i xs Ln) 64 1 1)) rfl ?_
                          refine mz_ifF h14 ?_
                          refine mz_go 2 (c' := (15, [some (.int (c - c / 10 * 10)), some (.int 1), some (.int 6)], [.int 1], mz_up (mz_i xs Ln) 64 1 1)) rfl ?_
                          exact mz_ret rfl
                        refine mz_go 4 (c' := (47, [some (.ref 65), some (.int a), some (.int b), some (.int c), some (.int d), some (.int (c / 10)), some (.int (c - c / 10 * 10)), none, none, none], [.int 40, .int 1, .int d], mz_up (mz_i xs Ln) 64 1 1)) rfl ?_
                        refine mz_do (R := mz_r128) (as := [.int d, .int 1, .int 40]) (rest := []) (r1 := some (.int 0)) (m1 := mz_up (mz_i xs Ln) 64 1 1) rfl ⟨?_, rfl⟩ ?_
                        · refine mz_go 3 (c' := (if d < 1 then 14 else 5, [some (.int d), some (.int 1), some (.int 40)], [], mz_up (mz_i xs Ln) 64 1 1)) rfl ?_
                          refine mz_ifF h5 ?_
                          refine mz_go 3 (c' := (if 40 < d then 14 else 10, [some (.int d), some (.int 1), some (.int 40)], [], mz_up (mz_i xs Ln) 64 1 1)) rfl ?_
                          refine mz_ifT h10 ?_
                          refine mz_go 1 (c' := (15, [some (.int d), some (.int 1), some (.int 40)], [.int 0], mz_up (mz_i xs Ln) 64 1 1)) rfl ?_
                          exact mz_ret rfl
                        refine mz_go 7 (c' := (91, [some (.ref 65), some (.int a), some (.int b), some (.int c), some (.int d), some (.int (c / 10)), some (.int (c - c / 10 * 10)), some (.int 0), none, none], [.int 1, .ref 65], mz_up (mz_i xs Ln) 64 1 1)) rfl ?_
                        refine mz_do (R := mz_r127) (as := [.ref 65, .int 1]) (rest := []) (r1 := some (.int (-1000001))) (m1 := mz_up (mz_up (mz_i xs Ln) 64 1 1) 68 1 1) rfl ⟨?_, rfl⟩ ?_
                        · refine mz_go 11 (c' := (14, [some (.ref 65), some (.int 1)], [.int (-1000001)], mz_up (mz_up (mz_i xs Ln) 64 1 1) 68 1 1)) rfl ?_
                          exact mz_ret rfl
                        exact mz_ret rfl
            · by_cases h15 : (c / 10) < 1
              · refine ⟨(-1000001), mz_up (mz_i xs Ln) 64 1 1, mz_up (mz_up (mz_i xs Ln) 64 1 1) 68 1 1, ⟨?_, rfl⟩, ⟨?_, rfl⟩⟩
                · refine mz_go 10 (c' := (14, [some (.ref 0), some (.int a), some (.int b), some (.int c), some (.int d), some (.int (c / 10)), some (.int (c - c / 10 * 10)), none, none, none, none], [.int b, .int a], (mz_i xs Ln))) rfl ?_
                  refine mz_do (R := mz_r116) (as := [.int a, .int b]) (rest := []) (r1 := some (.int 1)) (m1 := (mz_i xs Ln)) rfl ⟨?_, rfl⟩ ?_
                  · refine mz_go 3 (c' := (5, [some (.int a), some (.int b)], [.int 100, .int (-100), .int a], (mz_i xs Ln))) rfl ?_
                    refine mz_do (R := mz_r121) (as := [.int a, .int (-100), .int 100]) (rest := []) (r1 := some (.int 1)) (m1 := (mz_i xs Ln)) rfl ⟨?_, rfl⟩ ?_
                    · refine mz_go 3 (c' := (if a < (-100) then 14 else 5, [some (.int a), some (.int (-100)), some (.int 100)], [], (mz_i xs Ln))) rfl ?_
                      refine mz_ifF h1 ?_
                      refine mz_go 3 (c' := (if 100 < a then 14 else 10, [some (.int a), some (.int (-100)), some (.int 100)], [], (mz_i xs Ln))) rfl ?_
                      refine mz_ifF h2 ?_
                      refine mz_go 2 (c' := (15, [some (.int a), some (.int (-100)), some (.int 100)], [.int 1], (mz_i xs Ln))) rfl ?_
                      exact mz_ret rfl
                    refine mz_go 4 (c' := (16, [some (.int a), some (.int b)], [.int 100, .int (-100), .int b], (mz_i xs Ln))) rfl ?_
                    refine mz_do (R := mz_r121) (as := [.int b, .int (-100), .int 100]) (rest := []) (r1 := some (.int 1)) (m1 := (mz_i xs Ln)) rfl ⟨?_, rfl⟩ ?_
                    · refine mz_go 3 (c' := (if b < (-100) then 14 else 5, [some (.int b), some (.int (-100)), some (.int 100)], [], (mz_i xs Ln))) rfl ?_
                      refine mz_ifF h3 ?_
                      refine mz_go 3 (c' := (if 100 < b then 14 else 10, [some (.int b), some (.int (-100)), some (.int 100)], [], (mz_i xs Ln))) rfl ?_
                      refine mz_ifF h4 ?_
                      refine mz_go 2 (c' := (15, [some (.int b), some (.int (-100)), some (.int 100)], [.int 1], (mz_i xs Ln))) rfl ?_
                      exact mz_ret rfl
                    refine mz_go 3 (c' := (27, [some (.int a), some (.int b)], [.int 1], (mz_i xs Ln))) rfl ?_
                    exact mz_ret rfl
                  refine mz_go 4 (c' := (25, [some (.ref 0), some (.int a), some (.int b), some (.int c), some (.int d), some (.int (c / 10)), some (.int (c - c / 10 * 10)), none, none, none, none], [.int 40, .int 1, .int d], (mz_i xs Ln))) rfl ?_
                  refine mz_do (R := mz_r121) (as := [.int d, .int 1, .int 40]) (rest := []) (r1 := some (.int 1)) (m1 := (mz_i xs Ln)) rfl ⟨?_, rfl⟩ ?_
                  · refine mz_go 3 (c' := (if d < 1 then 14 else 5, [some (.int d), some (.int 1), some (.int 40)], [], (mz_i xs Ln))) rfl ?_
                    refine mz_ifF h5 ?_
                    refine mz_go 3 (c' := (if 40 < d then 14 else 10, [some (.int d), some (.int 1), some (.int 40)], [], (mz_i xs Ln))) rfl ?_
                    refine mz_ifF h10 ?_
                    refine mz_go 2 (c' := (15, [some (.int d), some (.int 1), some (.int 40)], [.int 1], (mz_i xs Ln))) rfl ?_
                    exact mz_ret rfl
                  refine mz_go 4 (c' := (36, [some (.ref 0), some (.int a), some (.int b), some (.int c), some (.int d), some (.int (c / 10)), some (.int (c - c / 10 * 10)), none, none, none, none], [.int 6, .int 1, .int (c / 10)], (mz_i xs Ln))) rfl ?_
                  refine mz_do (R := mz_r121) (as := [.int (c / 10), .int 1, .int 6]) (rest := []) (r1 := some (.int 0)) (m1 := (mz_i xs Ln)) rfl ⟨?_, rfl⟩ ?_
                  · refine mz_go 3 (c' := (if (c / 10) < 1 then 14 else 5, [some (.int (c / 10)), some (.int 1), some (.int 6)], [], (mz_i xs Ln))) rfl ?_
                    refine mz_ifT h15 ?_
                    refine mz_go 1 (c' := (15, [some (.int (c / 10)), some (.int 1), some (.int 6)], [.int 0], (mz_i xs Ln))) rfl ?_
                    exact mz_ret rfl
                  refine mz_go 3 (c' := (79, [some (.ref 0), some (.int a), some (.int b), some (.int c), some (.int d), some (.int (c / 10)), some (.int (c - c / 10 * 10)), none, none, none, none], [.int 1, .ref 0], (mz_i xs Ln))) rfl ?_
                  refine mz_do (R := mz_r109) (as := [.ref 0, .int 1]) (rest := []) (r1 := some (.int (-1000001))) (m1 := mz_up (mz_i xs Ln) 64 1 1) rfl ⟨?_, rfl⟩ ?_
                  · refine mz_go 3 (c' := (4, [some (.ref 0), some (.int 1)], [.int 6, .int 1, .int 1], (mz_i xs Ln))) rfl ?_
                    refine mz_do (R := mz_r121) (as := [.int 1, .int 1, .int 6]) (rest := []) (r1 := some (.int 1)) (m1 := (mz_i xs Ln)) rfl ⟨?_, rfl⟩ ?_
                    · refine mz_go 8 (c' := (15, [some (.int 1), some (.int 1), some (.int 6)], [.int 1], (mz_i xs Ln))) rfl ?_
                      exact mz_ret rfl
                    refine mz_go 12 (c' := (25, [some (.ref 0), some (.int 1)], [.int (-1000001)], mz_up (mz_i xs Ln) 64 1 1)) rfl ?_
                    exact mz_ret rfl
                  exact mz_ret rfl
                · refine mz_go 10 (c' := (14, [some (.ref 65), some (.int a), some (.int b), some (.int c), some (.int d), some (.int (c / 10)), some (.int (c - c / 10 * 10)), none, none, none], [.int b, .int a], mz_up (mz_i xs Ln) 64 1 1)) rfl ?_
                  refine mz_do (R := mz_r131) (as := [.int a, .int b]) (rest := []) (r1 := some (.int 1)) (m1 := mz_up (mz_i xs Ln) 64 1 1) rfl ⟨?_, rfl⟩ ?_
                  · refine mz_go 3 (c' := (5, [some (.int a), some (.int b)], [.int 100, .int (-100), .int a], mz_up (mz_i xs Ln) 64 1 1)) rfl ?_
                    refine mz_do (R := mz_r128) (as := [.int a, .int (-100), .int 100]) (rest := []) (r1 := some (.int 1)) (m1 := mz_up (mz_i xs Ln) 64 1 1) rfl ⟨?_, rfl⟩ ?_
                    · refine mz_go 3 (c' := (if a < (-100) then 14 else 5, [some (.int a), some (.int (-100)), some (.int 100)], [], mz_up (mz_i xs Ln) 64 1 1)) rfl ?_
                      refine mz_ifF h1 ?_
                      refine mz_go 3 (c' := (if 100 < a then 14 else 10, [some (.int a), some (.int (-100)), some (.int 100)], [], mz_up (mz_i xs Ln) 64 1 1)) rfl ?_
                      refine mz_ifF h2 ?_
                      refine mz_go 2 (c' := (15, [some (.int a), some (.int (-100)), some (.int 100)], [.int 1], mz_up (mz_i xs Ln) 64 1 1)) rfl ?_
                      exact mz_ret rfl
                    refine mz_go 4 (c' := (16, [some (.int a), some (.int b)], [.int 100, .int (-100), .int b], mz_up (mz_i xs Ln) 64 1 1)) rfl ?_
                    refine mz_do (R := mz_r128) (as := [.int b, .int (-100), .int 100]) (rest := []) (r1 := some (.int 1)) (m1 := mz_up (mz_i xs Ln) 64 1 1) rfl ⟨?_, rfl⟩ ?_
                    · refine mz_go 3 (c' := (if b < (-100) then 14 else 5, [some (.int b), some (.int (-100)), some (.int 100)], [], mz_up (mz_i xs Ln) 64 1 1)) rfl ?_
                      refine mz_ifF h3 ?_
                      refine mz_go 3 (c' := (if 100 < b then 14 else 10, [some (.int b), some (.int (-100)), some (.int 100)], [], mz_up (mz_i xs Ln) 64 1 1)) rfl ?_
                      refine mz_ifF h4 ?_
                      refine mz_go 2 (c' := (15, [some (.int b), some (.int (-100)), some (.int 100)], [.int 1], mz_up (mz_i xs Ln) 64 1 1)) rfl ?_
                      exact mz_ret rfl
                    refine mz_go 3 (c' := (27, [some (.int a), some (.int b)], [.int 1], mz_up (mz_i xs Ln) 64 1 1)) rfl ?_
                    exact mz_ret rfl
                  refine mz_go 4 (c' := (25, [some (.ref 65), some (.int a), some (.int b), some (.int c), some (.int d), some (.int (c / 10)), some (.int (c - c / 10 * 10)), none, none, none], [.int 6, .int 1, .int (c / 10)], mz_up (mz_i xs Ln) 64 1 1)) rfl ?_
                  refine mz_do (R := mz_r128) (as := [.int (c / 10), .int 1, .int 6]) (rest := []) (r1 := some (.int 0)) (m1 := mz_up (mz_i xs Ln) 64 1 1) rfl ⟨?_, rfl⟩ ?_
                  · refine mz_go 3 (c' := (if (c / 10) < 1 then 14 else 5, [some (.int (c / 10)), some (.int 1), some (.int 6)], [], mz_up (mz_i xs Ln) 64 1 1)) rfl ?_
                    refine mz_ifT h15 ?_
                    refine mz_go 1 (c' := (15, [some (.int (c / 10)), some (.int 1), some (.int 6)], [.int 0], mz_up (mz_i xs Ln) 64 1 1)) rfl ?_
                    exact mz_ret rfl
                  refine mz_go 7 (c' := (91, [some (.ref 65), some (.int a), some (.int b), some (.int c), some (.int d), some (.int (c / 10)), some (.int (c - c / 10 * 10)), some (.int 0), none, none], [.int 1, .ref 65], mz_up (mz_i xs Ln) 64 1 1)) rfl ?_
                  refine mz_do (R := mz_r127) (as := [.ref 65, .int 1]) (rest := []) (r1 := some (.int (-1000001))) (m1 := mz_up (mz_up (mz_i xs Ln) 64 1 1) 68 1 1) rfl ⟨?_, rfl⟩ ?_
                  · refine mz_go 11 (c' := (14, [some (.ref 65), some (.int 1)], [.int (-1000001)], mz_up (mz_up (mz_i xs Ln) 64 1 1) 68 1 1)) rfl ?_
                    exact mz_ret rfl
                  exact mz_ret rfl
              · by_cases h16 : 6 < (c / 10)
                · refine ⟨(-1000001), mz_up (mz_i xs Ln) 64 1 1, mz_up (mz_up (mz_i xs Ln) 64 1 1) 68 1 1, ⟨?_, rfl⟩, ⟨?_, rfl⟩⟩
                  · refine mz_go 10 (c' := (14, [some (.ref 0), some (.int a), some (.int b), some (.int c), some (.int d), some (.int (c / 10)), some (.int (c - c / 10 * 10)), none, none, none, none], [.int b, .int a], (mz_i xs Ln))) rfl ?_
                    refine mz_do (R := mz_r116) (as := [.int a, .int b]) (rest := []) (r1 := some (.int 1)) (m1 := (mz_i xs Ln)) rfl ⟨?_, rfl⟩ ?_
                    · refine mz_go 3 (c' := (5, [some (.int a), some (.int b)], [.int 100, .int (-100), .int a], (mz_i xs Ln))) rfl ?_
                      refine mz_do (R := mz_r121) (as := [.int a, .int (-100), .int 100]) (rest := []) (r1 := some (.int 1)) (m1 := (mz_i xs Ln)) rfl ⟨?_, rfl⟩ ?_
                      · refine mz_go 3 (c' := (if a < (-100) then 14 else 5, [some (.int a), some (.int (-100)), some (.int 100)], [], (mz_i xs Ln))) rfl ?_
                        refine mz_ifF h1 ?_
                        refine mz_go 3 (c' := (if 100 < a then 14 else 10, [some (.int a), some (.int (-100)), some (.int 100)], [], (mz_i xs Ln))) rfl ?_
                        refine mz_ifF h2 ?_
                        refine mz_go 2 (c' := (15, [some (.int a), some (.int (-100)), some (.int 100)], [.int 1], (mz_i xs Ln))) rfl ?_
                        exact mz_ret rfl
                      refine mz_go 4 (c' := (16, [some (.int a), some (.int b)], [.int 100, .int (-100), .int b], (mz_i xs Ln))) rfl ?_
                      refine mz_do (R := mz_r121) (as := [.int b, .int (-100), .int 100]) (rest := []) (r1 := some (.int 1)) (m1 := (mz_i xs Ln)) rfl ⟨?_, rfl⟩ ?_
                      · refine mz_go 3 (c' := (if b < (-100) then 14 else 5, [some (.int b), some (.int (-100)), some (.int 100)], [], (mz_i xs Ln))) rfl ?_
                        refine mz_ifF h3 ?_
                        refine mz_go 3 (c' := (if 100 < b then 14 else 10, [some (.int b), some (.int (-100)), some (.int 100)], [], (mz_i xs Ln))) rfl ?_
                        refine mz_ifF h4 ?_
                        refine mz_go 2 (c' := (15, [some (.int b), some (.int (-100)), some (.int 100)], [.int 1], (mz_i xs Ln))) rfl ?_
                        exact mz_ret rfl
                      refine mz_go 3 (c' := (27, [some (.int a), some (.int b)], [.int 1], (mz_i xs Ln))) rfl ?_
                      exact mz_ret rfl
                    refine mz_go 4 (c' := (25, [some (.ref 0), some (.int a), some (.int b), some (.int c), some (.int d), some (.int (c / 10)), some (.int (c - c / 10 * 10)), none, none, none, none], [.int 40, .int 1, .int d], (mz_i xs Ln))) rfl ?_
                    refine mz_do (R := mz_r121) (as := [.int d, .int 1, .int 40]) (rest := []) (r1 := some (.int 1)) (m1 := (mz_i xs Ln)) rfl ⟨?_, rfl⟩ ?_
                    · refine mz_go 3 (c' := (if d < 1 then 14 else 5, [some (.int d), some (.int 1), some (.int 40)], [], (mz_i xs Ln))) rfl ?_
                      refine mz_ifF h5 ?_
                      refine mz_go 3 (c' := (if 40 < d then 14 else 10, [some (.int d), some (.int 1), some (.int 40)], [], (mz_i xs Ln))) rfl ?_
                      refine mz_ifF h10 ?_
                      refine mz_go 2 (c' := (15, [some (.int d), some (.int 1), some (.int 40)], [.int 1], (mz_i xs Ln))) rfl ?_
                      exact mz_ret rfl
                    refine mz_go 4 (c' := (36, [some (.ref 0), some (.int a), some (.int b), some (.int c), some (.int d), some (.int (c / 10)), some (.int (c - c / 10 * 10)), none, none, none, none], [.int 6, .int 1, .int (c / 10)], (mz_i xs Ln))) rfl ?_
                    refine mz_do (R := mz_r121) (as := [.int (c / 10), .int 1, .int 6]) (rest := []) (r1 := some (.int 0)) (m1 := (mz_i xs Ln)) rfl ⟨?_, rfl⟩ ?_
                    · refine mz_go 3 (c' := (if (c / 10) < 1 then 14 else 5, [some (.int (c / 10)), some (.int 1), some (.int 6)], [], (mz_i xs Ln))) rfl ?_
                      refine mz_ifF h15 ?_
                      refine mz_go 3 (c' := (if 6 < (c / 10) then 14 else 10, [some (.int (c / 10)), some (.int 1), some (.int 6)], [], (mz_i xs Ln))) rfl ?_
                      refine mz_ifT h16 ?_
                      refine mz_go 1 (c' := (15, [some (.int (c / 10)), some (.int 1), some (.int 6)], [.int 0], (mz_i xs Ln))) rfl ?_
                      exact mz_ret rfl
                    refine mz_go 3 (c' := (79, [some (.ref 0), some (.int a), some (.int b), some (.int c), some (.int d), some (.int (c / 10)), some (.int (c - c / 10 * 10)), none, none, none, none], [.int 1, .ref 0], (mz_i xs Ln))) rfl ?_
                    refine mz_do (R := mz_r109) (as := [.ref 0, .int 1]) (rest := []) (r1 := some (.int (-1000001))) (m1 := mz_up (mz_i xs Ln) 64 1 1) rfl ⟨?_, rfl⟩ ?_
                    · refine mz_go 3 (c' := (4, [some (.ref 0), some (.int 1)], [.int 6, .int 1, .int 1], (mz_i xs Ln))) rfl ?_
                      refine mz_do (R := mz_r121) (as := [.int 1, .int 1, .int 6]) (rest := []) (r1 := some (.int 1)) (m1 := (mz_i xs Ln)) rfl ⟨?_, rfl⟩ ?_
                      · refine mz_go 8 (c' := (15, [some (.int 1), some (.int 1), some (.int 6)], [.int 1], (mz_i xs Ln))) rfl ?_
                        exact mz_ret rfl
                      refine mz_go 12 (c' := (25, [some (.ref 0), some (.int 1)], [.int (-1000001)], mz_up (mz_i xs Ln) 64 1 1)) rfl ?_
                      exact mz_ret rfl
                    exact mz_ret rfl
                  · refine mz_go 10 (c' := (14, [some (.ref 65), some (.int a), some (.int b), some (.int c), some (.int d), some (.int (c / 10)), some (.int (c - c / 10 * 10)), none, none, none], [.int b, .int a], mz_up (mz_i xs Ln) 64 1 1)) rfl ?_
                    refine mz_do (R := mz_r131) (as := [.int a, .int b]) (rest := []) (r1 := some (.int 1)) (m1 := mz_up (mz_i xs Ln) 64 1 1) rfl ⟨?_, rfl⟩ ?_
                    · refine mz_go 3 (c' := (5, [some (.int a), some (.int b)], [.int 100, .int (-100), .int a], mz_up (mz_i xs Ln) 64 1 1)) rfl ?_
                      refine mz_do (R := mz_r128) (as := [.int a, .int (-100), .int 100]) (rest := []) (r1 := some (.int 1)) (m1 := mz_up (mz_i xs Ln) 64 1 1) rfl ⟨?_, rfl⟩ ?_
                      · refine mz_go 3 (c' := (if a < (-100) then 14 else 5, [some (.int a), some (.int (-100)), some (.int 100)], [], mz_up (mz_i xs Ln) 64 1 1)) rfl ?_
                        refine mz_ifF h1 ?_
                        refine mz_go 3 (c' := (if 100 < a then 14 else 10, [some (.int a), some (.int (-100)), some (.int 100)], [], mz_up (mz_i xs Ln) 64 1 1)) rfl ?_
                        refine mz_ifF h2 ?_
                        refine mz_go 2 (c' := (15, [some (.int a), some (.int (-100)), some (.int 100)], [.int 1], mz_up (mz_i xs Ln) 64 1 1)) rfl ?_
                        exact mz_ret rfl
                      refine mz_go 4 (c' := (16, [some (.int a), some (.int b)], [.int 100, .int (-100), .int b], mz_up (mz_i xs Ln) 64 1 1)) rfl ?_
                      refine mz_do (R := mz_r128) (as := [.int b, .int (-100), .int 100]) (rest := []) (r1 := some (.int 1)) (m1 := mz_up (mz_i xs Ln) 64 1 1) rfl ⟨?_, rfl⟩ ?_
                      · refine mz_go 3 (c' := (if b < (-100) then 14 else 5, [some (.int b), some (.int (-100)), some (.int 100)], [], mz_up (mz_i xs Ln) 64 1 1)) rfl ?_
                        refine mz_ifF h3 ?_
                        refine mz_go 3 (c' := (if 100 < b then 14 else 10, [some (.int b), some (.int (-100)), some (.int 100)], [], mz_up (mz_i xs Ln) 64 1 1)) rfl ?_
                        refine mz_ifF h4 ?_
                        refine mz_go 2 (c' := (15, [some (.int b), some (.int (-100)), some (.int 100)], [.int 1], mz_up (mz_i xs Ln) 64 1 1)) rfl ?_
                        exact mz_ret rfl
                      refine mz_go 3 (c' := (27, [some (.int a), some (.int b)], [.int 1], mz_up (mz_i xs Ln) 64 1 1)) rfl ?_
                      exact mz_ret rfl
                    refine mz_go 4 (c' := (25, [some (.ref 65), some (.int a), some (.int b), some (.int c), some (.int d), some (.int (c / 10)), some (.int (c - c / 10 * 10)), none, none, none], [.int 6, .int 1, .int (c / 10)], mz_up (mz_i xs Ln) 64 1 1)) rfl ?_
                    refine mz_do (R := mz_r128) (as := [.int (c / 10), .int 1, .int 6]) (rest := []) (r1 := some (.int 0)) (m1 := mz_up (mz_i xs Ln) 64 1 1) rfl ⟨?_, rfl⟩ ?_
                    · refine mz_go 3 (c' := (if (c / 10) < 1 then 14 else 5, [some (.int (c / 10)), some (.int 1), some (.int 6)], [], mz_up (mz_i xs Ln) 64 1 1)) rfl ?_
                      refine mz_ifF h15 ?_
                      refine mz_go 3 (c' := (if 6 < (c / 10) then 14 else 10, [some (.int (c / 10)), some (.int 1), some (.int 6)], [], mz_up (mz_i xs Ln) 64 1 1)) rfl ?_
                      refine mz_ifT h16 ?_
                      refine mz_go 1 (c' := (15, [some (.int (c / 10)), some (.int 1), some (.int 6)], [.int 0], mz_up (mz_i xs Ln) 64 1 1)) rfl ?_
                      exact mz_ret rfl
                    refine mz_go 7 (c' := (91, [some (.ref 65), some (.int a), some (.int b), some (.int c), some (.int d), some (.int (c / 10)), some (.int (c - c / 10 * 10)), some (.int 0), none, none], [.int 1, .ref 65], mz_up (mz_i xs Ln) 64 1 1)) rfl ?_
                    refine mz_do (R := mz_r127) (as := [.ref 65, .int 1]) (rest := []) (r1 := some (.int (-1000001))) (m1 := mz_up (mz_up (mz_i xs Ln) 64 1 1) 68 1 1) rfl ⟨?_, rfl⟩ ?_
                    · refine mz_go 11 (c' := (14, [some (.ref 65), some (.int 1)], [.int (-1000001)], mz_up (mz_up (mz_i xs Ln) 64 1 1) 68 1 1)) rfl ?_
                      exact mz_ret rfl
                    exact mz_ret rfl
                · by_cases h17 : (c - c / 10 * 10) < 1
                  · refine ⟨(-1000001), mz_up (mz_i xs Ln) 64 1 1, mz_up (mz_up (mz_i xs Ln) 64 1 1) 68 1 1, ⟨?_, rfl⟩, ⟨?_, rfl⟩⟩
                    · refine mz_go 10 (c' := (14, [some (.ref 0), some (.int a), some (.int b), some (.int c), some (.int d), some (.int (c / 10)), some (.int (c - c / 10 * 10)), none, none, none, none], [.int b, .int a], (mz_i xs Ln))) rfl ?_
                      refine mz_do (R := mz_r116) (as := [.int a, .int b]) (rest := []) (r1 := some (.int 1)) (m1 := (mz_i xs Ln)) rfl ⟨?_, rfl⟩ ?_
                      · refine mz_go 3 (c' := (5, [some (.int a), some (.int b)], [.int 100, .int (-100), .int a], (mz_i xs Ln))) rfl ?_
                        refine mz_do (R := mz_r121) (as := [.int a, .int (-100), .int 100]) (rest := []) (r1 := some (.int 1)) (m1 := (mz_i xs Ln)) rfl ⟨?_, rfl⟩ ?_
                        · refine mz_go 3 (c' := (if a < (-100) then 14 else 5, [some (.int a), some (.int (-100)), some (.int 100)], [], (mz_i xs Ln))) rfl ?_
                          refine mz_ifF h1 ?_
                          refine mz_go 3 (c' := (if 100 < a then 14 else 10, [some (.int a), some (.int (-100)), some (.int 100)], [], (mz_i xs Ln))) rfl ?_
                          refine mz_ifF h2 ?_
                          refine mz_go 2 (c' := (15, [some (.int a), some (.int (-100)), some (.int 100)], [.int 1], (mz_i xs Ln))) rfl ?_
                          exact mz_ret rfl
                        refine mz_go 4 (c' := (16, [some (.int a), some (.int b)], [.int 100, .int (-100), .int b], (mz_i xs Ln))) rfl ?_
                        refine mz_do (R := mz_r121) (as := [.int b, .int (-100), .int 100]) (rest := []) (r1 := some (.int 1)) (m1 := (mz_i xs Ln)) rfl ⟨?_, rfl⟩ ?_
                        · refine mz_go 3 (c' := (if b < (-100) then 14 else 5, [some (.int b), some (.int (-100)), some (.int 100)], [], (mz_i xs Ln))) rfl ?_
                          refine mz_ifF h3 ?_
                          refine mz_go 3 (c' := (if 100 < b then 14 else 10, [some (.int b), some (.int (-100)), some (.int 100)], [], (mz_i xs Ln))) rfl ?_
                          refine mz_ifF h4 ?_
                          refine mz_go 2 (c' := (15, [some (.int b), some (.int (-100)), some (.int 100)], [.int 1], (mz_i xs Ln))) rfl ?_
                          exact mz_ret rfl
                        refine mz_go 3 (c' := (27, [some (.int a), some (.int b)], [.int 1], (mz_i xs Ln))) rfl ?_
                        exact mz_ret rfl
                      refine mz_go 4 (c' := (25, [some (.ref 0), some (.int a), some (.int b), some (.int c), some (.int d), some (.int (c / 10)), some (.int (c - c / 10 * 10)), none, none, none, none], [.int 40, .int 1, .int d], (mz_i xs Ln))) rfl ?_
                      refine mz_do (R := mz_r121) (as := [.int d, .int 1, .int 40]) (rest := []) (r1 := some (.int 1)) (m1 := (mz_i xs Ln)) rfl ⟨?_, rfl⟩ ?_
                      · refine mz_go 3 (c' := (if d < 1 then 14 else 5, [some (.int d), some (.int 1), some (.int 40)], [], (mz_i xs Ln))) rfl ?_
                        refine mz_ifF h5 ?_
                        refine mz_go 3 (c' := (if 40 < d then 14 else 10, [some (.int d), some (.int 1), some (.int 40)], [], (mz_i xs Ln))) rfl ?_
                        refine mz_ifF h10 ?_
                        refine mz_go 2 (c' := (15, [some (.int d), some (.int 1), some (.int 40)], [.int 1], (mz_i xs Ln))) rfl ?_
                        exact mz_ret rfl
                      refine mz_go 4 (c' := (36, [some (.ref 0), some (.int a), some (.int b), some (.int c), some (.int d), some (.int (c / 10)), some (.int (c - c / 10 * 10)), none, none, none, none], [.int 6, .int 1, .int (c / 10)], (mz_i xs Ln))) rfl ?_
                      refine mz_do (R := mz_r121) (as := [.int (c / 10), .int 1, .int 6]) (rest := []) (r1 := some (.int 1)) (m1 := (mz_i xs Ln)) rfl ⟨?_, rfl⟩ ?_
                      · refine mz_go 3 (c' := (if (c / 10) < 1 then 14 else 5, [some (.int (c / 10)), some (.int 1), some (.int 6)], [], (mz_i xs Ln))) rfl ?_
                        refine mz_ifF h15 ?_
                        refine mz_go 3 (c' := (if 6 < (c / 10) then 14 else 10, [some (.int (c / 10)), some (.int 1), some (.int 6)], [], (mz_i xs Ln))) rfl ?_
                        refine mz_ifF h16 ?_
                        refine mz_go 2 (c' := (15, [some (.int (c / 10)), some (.int 1), some (.int 6)], [.int 1], (mz_i xs Ln))) rfl ?_
                        exact mz_ret rfl
                      refine mz_go 4 (c' := (47, [some (.ref 0), some (.int a), some (.int b), some (.int c), some (.int d), some (.int (c / 10)), some (.int (c - c / 10 * 10)), none, none, none, none], [.int 6, .int 1, .int (c - c / 10 * 10)], (mz_i xs Ln))) rfl ?_
                      refine mz_do (R := mz_r121) (as := [.int (c - c / 10 * 10), .int 1, .int 6]) (rest := []) (r1 := some (.int 0)) (m1 := (mz_i xs Ln)) rfl ⟨?_, rfl⟩ ?_
                      · refine mz_go 3 (c' := (if (c - c / 10 * 10) < 1 then 14 else 5, [some (.int (c - c / 10 * 10)), some (.int 1), some (.int 6)], [], (mz_i xs Ln))) rfl ?_
                        refine mz_ifT h17 ?_
                        refine mz_go 1 (c' := (15, [some (.int (c - c / 10 * 10)), some (.int 1), some (.int 6)], [.int 0], (mz_i xs Ln))) rfl ?_
                        exact mz_ret rfl
                      refine mz_go 3 (c' := (79, [some (.ref 0), some (.int a), some (.int b), some (.int c), some (.int d), some (.int (c / 10)), some (.int (c - c / 10 * 10)), none, none, none, none], [.int 1, .ref 0], (mz_i xs Ln))) rfl ?_
                      refine mz_do (R := mz_r109) (as := [.ref 0, .int 1]) (rest := []) (r1 := some (.int (-1000001))) (m1 := mz_up (mz_i xs Ln) 64 1 1) rfl ⟨?_, rfl⟩ ?_
                      · refine mz_go 3 (c' := (4, [some (.ref 0), some (.int 1)], [.int 6, .int 1, .int 1], (mz_i xs Ln))) rfl ?_
                        refine mz_do (R := mz_r121) (as := [.int 1, .int 1, .int 6]) (rest := []) (r1 := some (.int 1)) (m1 := (mz_i xs Ln)) rfl ⟨?_, rfl⟩ ?_
                        · refine mz_go 8 (c' := (15, [some (.int 1), some (.int 1), some (.int 6)], [.int 1], (mz_i xs Ln))) rfl ?_
                          exact mz_ret rfl
                        refine mz_go 12 (c' := (25, [some (.ref 0), some (.int 1)], [.int (-1000001)], mz_up (mz_i xs Ln) 64 1 1)) rfl ?_
                        exact mz_ret rfl
                      exact mz_ret rfl
                    · refine mz_go 10 (c' := (14, [some (.ref 65), some (.int a), some (.int b), some (.int c), some (.int d), some (.int (c / 10)), some (.int (c - c / 10 * 10)), none, none, none], [.int b, .int a], mz_up (mz_i xs Ln) 64 1 1)) rfl ?_
                      refine mz_do (R := mz_r131) (as := [.int a, .int b]) (rest := []) (r1 := some (.int 1)) (m1 := mz_up (mz_i xs Ln) 64 1 1) rfl ⟨?_, rfl⟩ ?_
                      · refine mz_go 3 (c' := (5, [some (.int a), some (.int b)], [.int 100, .int (-100), .int a], mz_up (mz_i xs Ln) 64 1 1)) rfl ?_
                        refine mz_do (R := mz_r128) (as := [.int a, .int (-100), .int 100]) (rest := []) (r1 := some (.int 1)) (m1 := mz_up (mz_i xs Ln) 64 1 1) rfl ⟨?_, rfl⟩ ?_
                        · refine mz_go 3 (c' := (if a < (-100) then 14 else 5, [some (.int a), some (.int (-100)), some (.int 100)], [], mz_up (mz_i xs Ln) 64 1 1)) rfl ?_
                          refine mz_ifF h1 ?_
                          refine mz_go 3 (c' := (if 100 < a then 14 else 10, [some (.int a), some (.int (-100)), some (.int 100)], [], mz_up (mz_i xs Ln) 64 1 1)) rfl ?_
                          refine mz_ifF h2 ?_
                          refine mz_go 2 (c' := (15, [some (.int a), some (.int (-100)), some (.int 100)], [.int 1], mz_up (mz_i xs Ln) 64 1 1)) rfl ?_
                          exact mz_ret rfl
                        refine mz_go 4 (c' := (16, [some (.int a), some (.int b)], [.int 100, .int (-100), .int b], mz_up (mz_i xs Ln) 64 1 1)) rfl ?_
                        refine mz_do (R := mz_r128) (as := [.int b, .int (-100), .int 100]) (rest := []) (r1 := some (.int 1)) (m1 := mz_up (mz_i xs Ln) 64 1 1) rfl ⟨?_, rfl⟩ ?_
                        · refine mz_go 3 (c' := (if b < (-100) then 14 else 5, [some (.int b), some (.int (-100)), some (.int 100)], [], mz_up (mz_i xs Ln) 64 1 1)) rfl ?_
                          refine mz_ifF h3 ?_
                          refine mz_go 3 (c' := (if 100 < b then 14 else 10, [some (.int b), some (.int (-100)), some (.int 100)], [], mz_up (mz_i xs Ln) 64 1 1)) rfl ?_
                          refine mz_ifF h4 ?_
                          refine mz_go 2 (c' := (15, [some (.int b), some (.int (-100)), some (.int 100)], [.int 1], mz_up (mz_i xs Ln) 64 1 1)) rfl ?_
                          exact mz_ret rfl
                        refine mz_go 3 (c' := (27, [some (.int a), some (.int b)], [.int 1], mz_up (mz_i xs Ln) 64 1 1)) rfl ?_
                        exact mz_ret rfl
                      refine mz_go 4 (c' := (25, [some (.ref 65), some (.int a), some (.int b), some (.int c), some (.int d), some (.int (c / 10)), some (.int (c - c / 10 * 10)), none, none, none], [.int 6, .int 1, .int (c / 10)], mz_up (mz_i xs Ln) 64 1 1)) rfl ?_
                      refine mz_do (R := mz_r128) (as := [.int (c / 10), .int 1, .int 6]) (rest := []) (r1 := some (.int 1)) (m1 := mz_up (mz_i xs Ln) 64 1 1) rfl ⟨?_, rfl⟩ ?_
                      · refine mz_go 3 (c' := (if (c / 10) < 1 then 14 else 5, [some (.int (c / 10)), some (.int 1), some (.int 6)], [], mz_up (mz_i xs Ln) 64 1 1)) rfl ?_
                        refine mz_ifF h15 ?_
                        refine mz_go 3 (c' := (if 6 < (c / 10) then 14 else 10, [some (.int (c / 10)), some (.int 1), some (.int 6)], [], mz_up (mz_i xs Ln) 64 1 1)) rfl ?_
                        refine mz_ifF h16 ?_
                        refine mz_go 2 (c' := (15, [some (.int (c / 10)), some (.int 1), some (.int 6)], [.int 1], mz_up (mz_i xs Ln) 64 1 1)) rfl ?_
                        exact mz_ret rfl
                      refine mz_go 4 (c' := (36, [some (.ref 65), some (.int a), some (.int b), some (.int c), some (.int d), some (.int (c / 10)), some (.int (c - c / 10 * 10)), none, none, none], [.int 6, .int 1, .int (c - c / 10 * 10)], mz_up (mz_i xs Ln) 64 1 1)) rfl ?_
                      refine mz_do (R := mz_r128) (as := [.int (c - c / 10 * 10), .int 1, .int 6]) (rest := []) (r1 := some (.int 0)) (m1 := mz_up (mz_i xs Ln) 64 1 1) rfl ⟨?_, rfl⟩ ?_
                      · refine mz_go 3 (c' := (if (c - c / 10 * 10) < 1 then 14 else 5, [some (.int (c - c / 10 * 10)), some (.int 1), some (.int 6)], [], mz_up (mz_i xs Ln) 64 1 1)) rfl ?_
                        refine mz_ifT h17 ?_
                        refine mz_go 1 (c' := (15, [some (.int (c - c / 10 * 10)), some (.int 1), some (.int 6)], [.int 0], mz_up (mz_i xs Ln) 64 1 1)) rfl ?_
                        exact mz_ret rfl
                      refine mz_go 7 (c' := (91, [some (.ref 65), some (.int a), some (.int b), some (.int c), some (.int d), some (.int (c / 10)), some (.int (c - c / 10 * 10)), some (.int 0), none, none], [.int 1, .ref 65], mz_up (mz_i xs Ln) 64 1 1)) rfl ?_
                      refine mz_do (R := mz_r127) (as := [.ref 65, .int 1]) (rest := []) (r1 := some (.int (-1000001))) (m1 := mz_up (mz_up (mz_i xs Ln) 64 1 1) 68 1 1) rfl ⟨?_, rfl⟩ ?_
                      · refine mz_go 11 (c' := (14, [some (.ref 65), some (.int 1)], [.int (-1000001)], mz_up (mz_up (mz_i xs Ln) 64 1 1) 68 1 1)) rfl ?_
                        exact mz_ret rfl
                      exact mz_ret rfl
                  · by_cases h18 : 6 < (c - c / 10 * 10)
                    · refine ⟨(-1000001), mz_up (mz_i xs Ln) 64 1 1, mz_up (mz_up (mz_i xs Ln) 64 1 1) 68 1 1, ⟨?_, rfl⟩, ⟨?_, rfl⟩⟩
                      · refine mz_go 10 (c' := (14, [some (.ref 0), some (.int a), some (.int b), some (.int c), some (.int d), some (.int (c / 10)), some (.int (c - c / 10 * 10)), none, none, none, none], [.int b, .int a], (mz_i xs Ln))) rfl ?_
                        refine mz_do (R := mz_r116) (as := [.int a, .int b]) (rest := []) (r1 := some (.int 1)) (m1 := (mz_i xs Ln)) rfl ⟨?_, rfl⟩ ?_
                        · refine mz_go 3 (c' := (5, [some (.int a), some (.int b)], [.int 100, .int (-100), .int a], (mz_i xs Ln))) rfl ?_
                          refine mz_do (R := mz_r121) (as := [.int a, .int (-100), .int 100]) (rest := []) (r1 := some (.int 1)) (m1 := (mz_i xs Ln)) rfl ⟨?_, rfl⟩ ?_
                          · refine mz_go 3 (c' := (if a < (-100) then 14 else 5, [some (.int a), some (.int (-100)), some (.int 100)], [], (mz_i xs Ln))) rfl ?_
                            refine mz_ifF h1 ?_
                            refine mz_go 3 (c' := (if 100 < a then 14 else 10, [some (.int a), some (.int (-100)), some (.int 100)], [], (mz_i xs Ln))) rfl ?_
                            refine mz_ifF h2 ?_
                            refine mz_go 2 (c' := (15, [some (.int a), some (.int (-100)), some (.int 100)], [.int 1], (mz_i xs Ln))) rfl ?_
                            exact mz_ret rfl
                          refine mz_go 4 (c' := (16, [some (.int a), some (.int b)], [.int 100, .int (-100), .int b], (mz_i xs Ln))) rfl ?_
                          refine mz_do (R := mz_r121) (as := [.int b, .int (-100), .int 100]) (rest := []) (r1 := some (.int 1)) (m1 := (mz_i xs Ln)) rfl ⟨?_, rfl⟩ ?_
                          · refine mz_go 3 (c' := (if b < (-100) then 14 else 5, [some (.int b), some (.int (-100)), some (.int 100)], [], (mz_i xs Ln))) rfl ?_
                            refine mz_ifF h3 ?_
                            refine mz_go 3 (c' := (if 100 < b then 14 else 10, [some (.int b), some (.int (-100)), some (.int 100)], [], (mz_i xs Ln))) rfl ?_
                            refine mz_ifF h4 ?_
                            refine mz_go 2 (c' := (15, [some (.int b), some (.int (-100)), some (.int 100)], [.int 1], (mz_i xs Ln))) rfl ?_
                            exact mz_ret rfl
                          refine mz_go 3 (c' := (27, [some (.int a), some (.int b)], [.int 1], (mz_i xs Ln))) rfl ?_
                          exact mz_ret rfl
                        refine mz_go 4 (c' := (25, [some (.ref 0), some (.int a), some (.int b), some (.int c), some (.int d), some (.int (c / 10)), some (.int (c - c / 10 * 10)), none, none, none, none], [.int 40, .int 1, .int d], (mz_i xs Ln))) rfl ?_
                        refine mz_do (R := mz_r121) (as := [.int d, .int 1, .int 40]) (rest := []) (r1 := some (.int 1)) (m1 := (mz_i xs Ln)) rfl ⟨?_, rfl⟩ ?_
                        · refine mz_go 3 (c' := (if d < 1 then 14 else 5, [some (.int d), some (.int 1), some (.int 40)], [], (mz_i xs Ln))) rfl ?_
                          refine mz_ifF h5 ?_
                          refine mz_go 3 (c' := (if 40 < d then 14 else 10, [some (.int d), some (.int 1), some (.int 40)], [], (mz_i xs Ln))) rfl ?_
                          refine mz_ifF h10 ?_
                          refine mz_go 2 (c' := (15, [some (.int d), some (.int 1), some (.int 40)], [.int 1], (mz_i xs Ln))) rfl ?_
                          exact mz_ret rfl
                        refine mz_go 4 (c' := (36, [some (.ref 0), some (.int a), some (.int b), some (.int c), some (.int d), some (.int (c / 10)), some (.int (c - c / 10 * 10)), none, none, none, none], [.int 6, .int 1, .int (c / 10)], (mz_i xs Ln))) rfl ?_
                        refine mz_do (R := mz_r121) (as := [.int (c / 10), .int 1, .int 6]) (rest := []) (r1 := some (.int 1)) (m1 := (mz_i xs Ln)) rfl ⟨?_, rfl⟩ ?_
                        · refine mz_go 3 (c' := (if (c / 10) < 1 then 14 else 5, [some (.int (c / 10)), some (.int 1), some (.int 6)], [], (mz_i xs Ln))) rfl ?_
                          refine mz_ifF h15 ?_
                          refine mz_go 3 (c' := (if 6 < (c / 10) then 14 else 10, [some (.int (c / 10)), some (.int 1), some (.int 6)], [], (mz_i xs Ln))) rfl ?_
                          refine mz_ifF h16 ?_
                          refine mz_go 2 (c' := (15, [some (.int (c / 10)), some (.int 1), some (.int 6)], [.int 1], (mz_i xs Ln))) rfl ?_
                          exact mz_ret rfl
                        refine mz_go 4 (c' := (47, [some (.ref 0), some (.int a), some (.int b), some (.int c), some (.int d), some (.int (c / 10)), some (.int (c - c / 10 * 10)), none, none, none, none], [.int 6, .int 1, .int (c - c / 10 * 10)], (mz_i xs Ln))) rfl ?_
                        refine mz_do (R := mz_r121) (as := [.int (c - c / 10 * 10), .int 1, .int 6]) (rest := []) (r1 := some (.int 0)) (m1 := (mz_i xs Ln)) rfl ⟨?_, rfl⟩ ?_
                        · refine mz_go 3 (c' := (if (c - c / 10 * 10) < 1 then 14 else 5, [some (.int (c - c / 10 * 10)), some (.int 1), some (.int 6)], [], (mz_i xs Ln))) rfl ?_
                          refine mz_ifF h17 ?_
                          refine mz_go 3 (c' := (if 6 < (c - c / 10 * 10) then 14 else 10, [some (.int (c - c / 10 * 10)), some (.int 1), some (.int 6)], [], (mz_i xs Ln))) rfl ?_
                          refine mz_ifT h18 ?_
                          refine mz_go 1 (c' := (15, [some (.int (c - c / 10 * 10)), some (.int 1), some (.int 6)], [.int 0], (mz_i xs Ln))) rfl ?_
                          exact mz_ret rfl
                        refine mz_go 3 (c' := (79, [some (.ref 0), some (.int a), some (.int b), some (.int c), some (.int d), some (.int (c / 10)), some (.int (c - c / 10 * 10)), none, none, none, none], [.int 1, .ref 0], (mz_i xs Ln))) rfl ?_
                        refine mz_do (R := mz_r109) (as := [.ref 0, .int 1]) (rest := []) (r1 := some (.int (-1000001))) (m1 := mz_up (mz_i xs Ln) 64 1 1) rfl ⟨?_, rfl⟩ ?_
                        · refine mz_go 3 (c' := (4, [some (.ref 0), some (.int 1)], [.int 6, .int 1, .int 1], (mz_i xs Ln))) rfl ?_
                          refine mz_do (R := mz_r121) (as := [.int 1, .int 1, .int 6]) (rest := []) (r1 := some (.int 1)) (m1 := (mz_i xs Ln)) rfl ⟨?_, rfl⟩ ?_
                          · refine mz_go 8 (c' := (15, [some (.int 1), some (.int 1), some (.int 6)], [.int 1], (mz_i xs Ln))) rfl ?_
                            exact mz_ret rfl
                          refine mz_go 12 (c' := (25, [some (.ref 0), some (.int 1)], [.int (-1000001)], mz_up (mz_i xs Ln) 64 1 1)) rfl ?_
                          exact mz_ret rfl
                        exact mz_ret rfl
                      · refine mz_go 10 (c' := (14, [some (.ref 65), some (.int a), some (.int b), some (.int c), some (.int d), some (.int (c / 10)), some (.int (c - c / 10 * 10)), none, none, none], [.int b, .int a], mz_up (mz_i xs Ln) 64 1 1)) rfl ?_
                        refine mz_do (R := mz_r131) (as := [.int a, .int b]) (rest := []) (r1 := some (.int 1)) (m1 := mz_up (mz_i xs Ln) 64 1 1) rfl ⟨?_, rfl⟩ ?_
                        · refine mz_go 3 (c' := (5, [some (.int a), some (.int b)], [.int 100, .int (-100), .int a], mz_up (mz_i xs Ln) 64 1 1)) rfl ?_
                          refine mz_do (R := mz_r128) (as := [.int a, .int (-100), .int 100]) (rest := []) (r1 := some (.int 1)) (m1 := mz_up (mz_i xs Ln) 64 1 1) rfl ⟨?_, rfl⟩ ?_
                          · refine mz_go 3 (c' := (if a < (-100) then 14 else 5, [some (.int a), some (.int (-100)), some (.int 100)], [], mz_up (mz_i xs Ln) 64 1 1)) rfl ?_
                            refine mz_ifF h1 ?_
                            refine mz_go 3 (c' := (if 100 < a then 14 else 10, [some (.int a), some (.int (-100)), some (.int 100)], [], mz_up (mz_i xs Ln) 64 1 1)) rfl ?_
                            refine mz_ifF h2 ?_
                            refine mz_go 2 (c' := (15, [some (.int a), some (.int (-100)), some (.int 100)], [.int 1], mz_up (mz_i xs Ln) 64 1 1)) rfl ?_
                            exact mz_ret rfl
                          refine mz_go 4 (c' := (16, [some (.int a), some (.int b)], [.int 100, .int (-100), .int b], mz_up (mz_i xs Ln) 64 1 1)) rfl ?_
                          refine mz_do (R := mz_r128) (as := [.int b, .int (-100), .int 100]) (rest := []) (r1 := some (.int 1)) (m1 := mz_up (mz_i xs Ln) 64 1 1) rfl ⟨?_, rfl⟩ ?_
                          · refine mz_go 3 (c' := (if b < (-100) then 14 else 5, [some (.int b), some (.int (-100)), some (.int 100)], [], mz_up (mz_i xs Ln) 64 1 1)) rfl ?_
                            refine mz_ifF h3 ?_
                            refine mz_go 3 (c' := (if 100 < b then 14 else 10, [some (.int b), some (.int (-100)), some (.int 100)], [], mz_up (mz_i xs Ln) 64 1 1)) rfl ?_
                            refine mz_ifF h4 ?_
                            refine mz_go 2 (c' := (15, [some (.int b), some (.int (-100)), some (.int 100)], [.int 1], mz_up (mz_i xs Ln) 64 1 1)) rfl ?_
                            exact mz_ret rfl
                          refine mz_go 3 (c' := (27, [some (.int a), some (.int b)], [.int 1], mz_up (mz_i xs Ln) 64 1 1)) rfl ?_
                          exact mz_ret rfl
                        refine mz_go 4 (c' := (25, [some (.ref 65), some (.int a), some (.int b), some (.int c), some (.int d), some (.int (c / 10)), some (.int (c - c / 10 * 10)), none, none, none], [.int 6, .int 1, .int (c / 10)], mz_up (mz_i xs Ln) 64 1 1)) rfl ?_
                        refine mz_do (R := mz_r128) (as := [.int (c / 10), .int 1, .int 6]) (rest := []) (r1 := some (.int 1)) (m1 := mz_up (mz_i xs Ln) 64 1 1) rfl ⟨?_, rfl⟩ ?_
                        · refine mz_go 3 (c' := (if (c / 10) < 1 then 14 else 5, [some (.int (c / 10)), some (.int 1), some (.int 6)], [], mz_up (mz_i xs Ln) 64 1 1)) rfl ?_
                          refine mz_ifF h15 ?_
                          refine mz_go 3 (c' := (if 6 < (c / 10) then 14 else 10, [some (.int (c / 10)), some (.int 1), some (.int 6)], [], mz_up (mz_i xs Ln) 64 1 1)) rfl ?_
                          refine mz_ifF h16 ?_
                          refine mz_go 2 (c' := (15, [some (.int (c / 10)), some (.int 1), some (.int 6)], [.int 1], mz_up (mz_i xs Ln) 64 1 1)) rfl ?_
                          exact mz_ret rfl
                        refine mz_go 4 (c' := (36, [some (.ref 65), some (.int a), some (.int b), some (.int c), some (.int d), some (.int (c / 10)), some (.int (c - c / 10 * 10)), none, none, none], [.int 6, .int 1, .int (c - c / 10 * 10)], mz_up (mz_i xs Ln) 64 1 1)) rfl ?_
                        refine mz_do (R := mz_r128) (as := [.int (c - c / 10 * 10), .int 1, .int 6]) (rest := []) (r1 := some (.int 0)) (m1 := mz_up (mz_i xs Ln) 64 1 1) rfl ⟨?_, rfl⟩ ?_
                        · refine mz_go 3 (c' := (if (c - c / 10 * 10) < 1 then 14 else 5, [some (.int (c - c / 10 * 10)), some (.int 1), some (.int 6)], [], mz_up (mz_i xs Ln) 64 1 1)) rfl ?_
                          refine mz_ifF h17 ?_
                          refine mz_go 3 (c' := (if 6 < (c - c / 10 * 10) then 14 else 10, [some (.int (c - c / 10 * 10)), some (.int 1), some (.int 6)], [], mz_up (mz_i xs Ln) 64 1 1)) rfl ?_
                          refine mz_ifT h18 ?_
                          refine mz_go 1 (c' := (15, [some (.int (c - c / 10 * 10)), some (.int 1), some (.int 6)], [.int 0], mz_up (mz_i xs Ln) 64 1 1)) rfl ?_
                          exact mz_ret rfl
                        refine mz_go 7 (c' := (91, [some (.ref 65), some (.int a), some (.int b), some (.int c), some (.int d), some (.int (c / 10)), some (.int (c - c / 10 * 10)), some (.int 0), none, none], [.int 1, .ref 65], mz_up (mz_i xs Ln) 64 1 1)) rfl ?_
                        refine mz_do (R := mz_r127) (as := [.ref 65, .int 1]) (rest := []) (r1 := some (.int (-1000001))) (m1 := mz_up (mz_up (mz_i xs Ln) 64 1 1) 68 1 1) rfl ⟨?_, rfl⟩ ?_
                        · refine mz_go 11 (c' := (14, [some (.ref 65), some (.int 1)], [.int (-1000001)], mz_up (mz_up (mz_i xs Ln) 64 1 1) 68 1 1)) rfl ?_
                          exact mz_ret rfl
                        exact mz_ret rfl
                    · by_cases h19 : (a + (((c / 10) - 1) * d)) < (-100)
                      · refine ⟨(-1000001), mz_up (mz_i xs Ln) 64 1 1, mz_up (mz_up (mz_i xs Ln) 64 1 1) 68 1 1, ⟨?_, rfl⟩, ⟨?_, rfl⟩⟩
                        · refine mz_go 10 (c' := (14, [some (.ref 0), some (.int a), some (.int b), some (.int c), some (.int d), some (.int (c / 10)), some (.int (c - c / 10 * 10)), none, none, none, none], [.int b, .int a], (mz_i xs Ln))) rfl ?_
                          refine mz_do (R := mz_r116) (as := [.int a, .int b]) (rest := []) (r1 := some (.int 1)) (m1 := (mz_i xs Ln)) rfl ⟨?_, rfl⟩ ?_
                          · refine mz_go 3 (c' := (5, [some (.int a), some (.int b)], [.int 100, .int (-100), .int a], (mz_i xs Ln))) rfl ?_
                            refine mz_do (R := mz_r121) (as := [.int a, .int (-100), .int 100]) (rest := []) (r1 := some (.int 1)) (m1 := (mz_i xs Ln)) rfl ⟨?_, rfl⟩ ?_
                            · refine mz_go 3 (c' := (if a < (-100) then 14 else 5, [some (.int a), some (.int (-100)), some (.int 100)], [], (mz_i xs Ln))) rfl ?_
                              refine mz_ifF h1 ?_
                              refine mz_go 3 (c' := (if 100 < a then 14 else 10, [some (.int a), some (.int (-100)), some (.int 100)], [], (mz_i xs Ln))) rfl ?_
                              refine mz_ifF h2 ?_
                              refine mz_go 2 (c' := (15, [some (.int a), some (.int (-100)), some (.int 100)], [.int 1], (mz_i xs Ln))) rfl ?_
                              exact mz_ret rfl
                            refine mz_go 4 (c' := (16, [some (.int a), some (.int b)], [.int 100, .int (-100), .int b], (mz_i xs Ln))) rfl ?_
                            refine mz_do (R := mz_r121) (as := [.int b, .int (-100), .int 100]) (rest := []) (r1 := some (.int 1)) (m1 := (mz_i xs Ln)) rfl ⟨?_, rfl⟩ ?_
                            · refine mz_go 3 (c' := (if b < (-100) then 14 else 5, [some (.int b), some (.int (-100)), some (.int 100)], [], (mz_i xs Ln))) rfl ?_
                              refine mz_ifF h3 ?_
                              refine mz_go 3 (c' := (if 100 < b then 14 else 10, [some (.int b), some (.int (-100)), some (.int 100)], [], (mz_i xs Ln))) rfl ?_
                              refine mz_ifF h4 ?_
                              refine mz_go 2 (c' := (15, [some (.int b), some (.int (-100)), some (.int 100)], [.int 1], (mz_i xs Ln))) rfl ?_
                              exact mz_ret rfl
                            refine mz_go 3 (c' := (27, [some (.int a), some (.int b)], [.int 1], (mz_i xs Ln))) rfl ?_
                            exact mz_ret rfl
                          refine mz_go 4 (c' := (25, [some (.ref 0), some (.int a), some (.int b), some (.int c), some (.int d), some (.int (c / 10)), some (.int (c - c / 10 * 10)), none, none, none, none], [.int 40, .int 1, .int d], (mz_i xs Ln))) rfl ?_
                          refine mz_do (R := mz_r121) (as := [.int d, .int 1, .int 40]) (rest := []) (r1 := some (.int 1)) (m1 := (mz_i xs Ln)) rfl ⟨?_, rfl⟩ ?_
                          · refine mz_go 3 (c' := (if d < 1 then 14 else 5, [some (.int d), some (.int 1), some (.int 40)], [], (mz_i xs Ln))) rfl ?_
                            refine mz_ifF h5 ?_
                            refine mz_go 3 (c' := (if 40 < d then 14 else 10, [some (.int d), some (.int 1), some (.int 40)], [], (mz_i xs Ln))) rfl ?_
                            refine mz_ifF h10 ?_
                            refine mz_go 2 (c' := (15, [some (.int d), some (.int 1), some (.int 40)], [.int 1], (mz_i xs Ln))) rfl ?_
                            exact mz_ret rfl
                          refine mz_go 4 (c' := (36, [some (.ref 0), some (.int a), some (.int b), some (.int c), some (.int d), some (.int (c / 10)), some (.int (c - c / 10 * 10)), none, none, none, none], [.int 6, .int 1, .int (c / 10)], (mz_i xs Ln))) rfl ?_
                          refine mz_do (R := mz_r121) (as := [.int (c / 10), .int 1, .int 6]) (rest := []) (r1 := some (.int 1)) (m1 := (mz_i xs Ln)) rfl ⟨?_, rfl⟩ ?_
                          · refine mz_go 3 (c' := (if (c / 10) < 1 then 14 else 5, [some (.int (c / 10)), some (.int 1), some (.int 6)], [], (mz_i xs Ln))) rfl ?_
                            refine mz_ifF h15 ?_
                            refine mz_go 3 (c' := (if 6 < (c / 10) then 14 else 10, [some (.int (c / 10)), some (.int 1), some (.int 6)], [], (mz_i xs Ln))) rfl ?_
                            refine mz_ifF h16 ?_
                            refine mz_go 2 (c' := (15, [some (.int (c / 10)), some (.int 1), some (.int 6)], [.int 1], (mz_i xs Ln))) rfl ?_
                            exact mz_ret rfl
                          refine mz_go 4 (c' := (47, [some (.ref 0), some (.int a), some (.int b), some (.int c), some (.int d), some (.int (c / 10)), some (.int (c - c / 10 * 10)), none, none, none, none], [.int 6, .int 1, .int (c - c / 10 * 10)], (mz_i xs Ln))) rfl ?_
                          refine mz_do (R := mz_r121) (as := [.int (c - c / 10 * 10), .int 1, .int 6]) (rest := []) (r1 := some (.int 1)) (m1 := (mz_i xs Ln)) rfl ⟨?_, rfl⟩ ?_
                          · refine mz_go 3 (c' := (if (c - c / 10 * 10) < 1 then 14 else 5, [some (.int (c - c / 10 * 10)), some (.int 1), some (.int 6)], [], (mz_i xs Ln))) rfl ?_
                            refine mz_ifF h17 ?_
                            refine mz_go 3 (c' := (if 6 < (c - c / 10 * 10) then 14 else 10, [some (.int (c - c / 10 * 10)), some (.int 1), some (.int 6)], [], (mz_i xs Ln))) rfl ?_
                            refine mz_ifF h18 ?_
                            refine mz_go 2 (c' := (15, [some (.int (c - c / 10 * 10)), some (.int 1), some (.int 6)], [.int 1], (mz_i xs Ln))) rfl ?_
                            exact mz_ret rfl
                          refine mz_go 15 (c' := (71, [some (.ref 0), some (.int a), some (.int b), some (.int c), some (.int d), some (.int (c / 10)), some (.int (c - c / 10 * 10)), none, none, none, none], [.int (b + (((c - c / 10 * 10) - 1) * d)), .int (a + (((c / 10) - 1) * d))], (mz_i xs Ln))) rfl ?_
                          refine mz_do (R := mz_r116) (as := [.int (a + (((c / 10) - 1) * d)), .int (b + (((c - c / 10 * 10) - 1) * d))]) (rest := []) (r1 := some (.int 0)) (m1 := (mz_i xs Ln)) rfl ⟨?_, rfl⟩ ?_
                          · refine mz_go 3 (c' := (5, [some (.int (a + (((c / 10) - 1) * d))), some (.int (b + (((c - c / 10 * 10) - 1) * d)))], [.int 100, .int (-100), .int (a + (((c / 10) - 1) * d))], (mz_i xs Ln))) rfl ?_
                            refine mz_do (R := mz_r121) (as := [.int (a + (((c / 10) - 1) * d)), .int (-100), .int 100]) (rest := []) (r1 := some (.int 0)) (m1 := (mz_i xs Ln)) rfl ⟨?_, rfl⟩ ?_
                            · refine mz_go 3 (c' := (if (a + (((c / 10) - 1) * d)) < (-100) then 14 else 5, [some (.int (a + (((c / 10) - 1) * d))), some (.int (-100)), some (.int 100)], [], (mz_i xs Ln))) rfl ?_
                              refine mz_ifT h19 ?_
                              refine mz_go 1 (c' := (15, [some (.int (a + (((c / 10) - 1) * d))), some (.int (-100)), some (.int 100)], [.int 0], (mz_i xs Ln))) rfl ?_
                              exact mz_ret rfl
                            refine mz_go 2 (c' := (27, [some (.int (a + (((c / 10) - 1) * d))), some (.int (b + (((c - c / 10 * 10) - 1) * d)))], [.int 0], (mz_i xs Ln))) rfl ?_
                            exact mz_ret rfl
                          refine mz_go 3 (c' := (79, [some (.ref 0), some (.int a), some (.int b), some (.int c), some (.int d), some (.int (c / 10)), some (.int (c - c / 10 * 10)), none, none, none, none], [.int 1, .ref 0], (mz_i xs Ln))) rfl ?_
                          refine mz_do (R := mz_r109) (as := [.ref 0, .int 1]) (rest := []) (r1 := some (.int (-1000001))) (m1 := mz_up (mz_i xs Ln) 64 1 1) rfl ⟨?_, rfl⟩ ?_
                          · refine mz_go 3 (c' := (4, [some (.ref 0), some (.int 1)], [.int 6, .int 1, .int 1], (mz_i xs Ln))) rfl ?_
                            refine mz_do (R := mz_r121) (as := [.int 1, .int 1, .int 6]) (rest := []) (r1 := some (.int 1)) (m1 := (mz_i xs Ln)) rfl ⟨?_, rfl⟩ ?_
                            · refine mz_go 8 (c' := (15, [some (.int 1), some (.int 1), some (.int 6)], [.int 1], (mz_i xs Ln))) rfl ?_
                              exact mz_ret rfl
                            refine mz_go 12 (c' := (25, [some (.ref 0), some (.int 1)], [.int (-1000001)], mz_up (mz_i xs Ln) 64 1 1)) rfl ?_
                            exact mz_ret rfl
                          exact mz_ret rfl
                        · refine mz_go 10 (c' := (14, [some (.ref 65), some (.int a), some (.int b), some (.int c), some (.int d), some (.int (c / 10)), some (.int (c - c / 10 * 10)), none, none, none], [.int b, .int a], mz_up (mz_i xs Ln) 64 1 1)) rfl ?_
                          refine mz_do (R := mz_r131) (as := [.int a, .int b]) (rest := []) (r1 := some (.int 1)) (m1 := mz_up (mz_i xs Ln) 64 1 1) rfl ⟨?_, rfl⟩ ?_
                          · refine mz_go 3 (c' := (5, [some (.int a), some (.int b)], [.int 100, .int (-100), .int a], mz_up (mz_i xs Ln) 64 1 1)) rfl ?_
                            refine mz_do (R := mz_r128) (as := [.int a, .int (-100), .int 100]) (rest := []) (r1 := some (.int 1)) (m1 := mz_up (mz_i xs Ln) 64 1 1) rfl ⟨?_, rfl⟩ ?_
                            · refine mz_go 3 (c' := (if a < (-100) then 14 else 5, [some (.int a), some (.int (-100)), some (.int 100)], [], mz_up (mz_i xs Ln) 64 1 1)) rfl ?_
                              refine mz_ifF h1 ?_
                              refine mz_go 3 (c' := (if 100 < a then 14 else 10, [some (.int a), some (.int (-100)), some (.int 100)], [], mz_up (mz_i xs Ln) 64 1 1)) rfl ?_
                              refine mz_ifF h2 ?_
                              refine mz_go 2 (c' := (15, [some (.int a), some (.int (-100)), some (.int 100)], [.int 1], mz_up (mz_i xs Ln) 64 1 1)) rfl ?_
                              exact mz_ret rfl
                            refine mz_go 4 (c' := (16, [some (.int a), some (.int b)], [.int 100, .int (-100), .int b], mz_up (mz_i xs Ln) 64 1 1)) rfl ?_
                            refine mz_do (R := mz_r128) (as := [.int b, .int (-100), .int 100]) (rest := []) (r1 := some (.int 1)) (m1 := mz_up (mz_i xs Ln) 64 1 1) rfl ⟨?_, rfl⟩ ?_
                            · refine mz_go 3 (c' := (if b < (-100) then 14 else 5, [some (.int b), some (.int (-100)), some (.int 100)], [], mz_up (mz_i xs Ln) 64 1 1)) rfl ?_
                              refine mz_ifF h3 ?_
                              refine mz_go 3 (c' := (if 100 < b then 14 else 10, [some (.int b), some (.int (-100)), some (.int 100)], [], mz_up (mz_i xs Ln) 64 1 1)) rfl ?_
                              refine mz_ifF h4 ?_
                              refine mz_go 2 (c' := (15, [some (.int b), some (.int (-100)), some (.int 100)], [.int 1], mz_up (mz_i xs Ln) 64 1 1)) rfl ?_
                              exact mz_ret rfl
                            refine mz_go 3 (c' := (27, [some (.int a), some (.int b)], [.int 1], mz_up (mz_i xs Ln) 64 1 1)) rfl ?_
                            exact mz_ret rfl
                          refine mz_go 4 (c' := (25, [some (.ref 65), some (.int a), some (.int b), some (.int c), some (.int d), some (.int (c / 10)), some (.int (c - c / 10 * 10)), none, none, none], [.int 6, .int 1, .int (c / 10)], mz_up (mz_i xs Ln) 64 1 1)) rfl ?_
                          refine mz_do (R := mz_r128) (as := [.int (c / 10), .int 1, .int 6]) (rest := []) (r1 := some (.int 1)) (m1 := mz_up (mz_i xs Ln) 64 1 1) rfl ⟨?_, rfl⟩ ?_
                          · refine mz_go 3 (c' := (if (c / 10) < 1 then 14 else 5, [some (.int (c / 10)), some (.int 1), some (.int 6)], [], mz_up (mz_i xs Ln) 64 1 1)) rfl ?_
                            refine mz_ifF h15 ?_
                            refine mz_go 3 (c' := (if 6 < (c / 10) then 14 else 10, [some (.int (c / 10)), some (.int 1), some (.int 6)], [], mz_up (mz_i xs Ln) 64 1 1)) rfl ?_
                            refine mz_ifF h16 ?_
                            refine mz_go 2 (c' := (15, [some (.int (c / 10)), some (.int 1), some (.int 6)], [.int 1], mz_up (mz_i xs Ln) 64 1 1)) rfl ?_
                            exact mz_ret rfl
                          refine mz_go 4 (c' := (36, [some (.ref 65), some (.int a), some (.int b), some (.int c), some (.int d), some (.int (c / 10)), some (.int (c - c / 10 * 10)), none, none, none], [.int 6, .int 1, .int (c - c / 10 * 10)], mz_up (mz_i xs Ln) 64 1 1)) rfl ?_
                          refine mz_do (R := mz_r128) (as := [.int (c - c / 10 * 10), .int 1, .int 6]) (rest := []) (r1 := some (.int 1)) (m1 := mz_up (mz_i xs Ln) 64 1 1) rfl ⟨?_, rfl⟩ ?_
                          · refine mz_go 3 (c' := (if (c - c / 10 * 10) < 1 then 14 else 5, [some (.int (c - c / 10 * 10)), some (.int 1), some (.int 6)], [], mz_up (mz_i xs Ln) 64 1 1)) rfl ?_
                            refine mz_ifF h17 ?_
                            refine mz_go 3 (c' := (if 6 < (c - c / 10 * 10) then 14 else 10, [some (.int (c - c / 10 * 10)), some (.int 1), some (.int 6)], [], mz_up (mz_i xs Ln) 64 1 1)) rfl ?_
                            refine mz_ifF h18 ?_
                            refine mz_go 2 (c' := (15, [some (.int (c - c / 10 * 10)), some (.int 1), some (.int 6)], [.int 1], mz_up (mz_i xs Ln) 64 1 1)) rfl ?_
                            exact mz_ret rfl
                          refine mz_go 4 (c' := (47, [some (.ref 65), some (.int a), some (.int b), some (.int c), some (.int d), some (.int (c / 10)), some (.int (c - c / 10 * 10)), none, none, none], [.int 40, .int 1, .int d], mz_up (mz_i xs Ln) 64 1 1)) rfl ?_
                          refine mz_do (R := mz_r128) (as := [.int d, .int 1, .int 40]) (rest := []) (r1 := some (.int 1)) (m1 := mz_up (mz_i xs Ln) 64 1 1) rfl ⟨?_, rfl⟩ ?_
                          · refine mz_go 3 (c' := (if d < 1 then 14 else 5, [some (.int d), some (.int 1), some (.int 40)], [], mz_up (mz_i xs Ln) 64 1 1)) rfl ?_
                            refine mz_ifF h5 ?_
                            refine mz_go 3 (c' := (if 40 < d then 14 else 10, [some (.int d), some (.int 1), some (.int 40)], [], mz_up (mz_i xs Ln) 64 1 1)) rfl ?_
                            refine mz_ifF h10 ?_
                            refine mz_go 2 (c' := (15, [some (.int d), some (.int 1), some (.int 40)], [.int 1], mz_up (mz_i xs Ln) 64 1 1)) rfl ?_
                            exact mz_ret rfl
                          refine mz_go 20 (c' := (83, [some (.ref 65), some (.int a), some (.int b), some (.int c), some (.int d), some (.int (c / 10)), some (.int (c - c / 10 * 10)), some (.int 1), none, none], [.int (b + (((c - c / 10 * 10) - 1) * d)), .int (a + (((c / 10) - 1) * d))], mz_up (mz_i xs Ln) 64 1 1)) rfl ?_
                          refine mz_do (R := mz_r131) (as := [.int (a + (((c / 10) - 1) * d)), .int (b + (((c - c / 10 * 10) - 1) * d))]) (rest := []) (r1 := some (.int 0)) (m1 := mz_up (mz_i xs Ln) 64 1 1) rfl ⟨?_, rfl⟩ ?_
                          · refine mz_go 3 (c' := (5, [some (.int (a + (((c / 10) - 1) * d))), some (.int (b + (((c - c / 10 * 10) - 1) * d)))], [.int 100, .int (-100), .int (a + (((c / 10) - 1) * d))], mz_up (mz_i xs Ln) 64 1 1)) rfl ?_
                            refine mz_do (R := mz_r128) (as := [.int (a + (((c / 10) - 1) * d)), .int (-100), .int 100]) (rest := []) (r1 := some (.int 0)) (m1 := mz_up (mz_i xs Ln) 64 1 1) rfl ⟨?_, rfl⟩ ?_
                            · refine mz_go 3 (c' := (if (a + (((c / 10) - 1) * d)) < (-100) then 14 else 5, [some (.int (a + (((c / 10) - 1) * d))), some (.int (-100)), some (.int 100)], [], mz_up (mz_i xs Ln) 64 1 1)) rfl ?_
                              refine mz_ifT h19 ?_
                              refine mz_go 1 (c' := (15, [some (.int (a + (((c / 10) - 1) * d))), some (.int (-100)), some (.int 100)], [.int 0], mz_up (mz_i xs Ln) 64 1 1)) rfl ?_
                              exact mz_ret rfl
                            refine mz_go 2 (c' := (27, [some (.int (a + (((c / 10) - 1) * d))), some (.int (b + (((c - c / 10 * 10) - 1) * d)))], [.int 0], mz_up (mz_i xs Ln) 64 1 1)) rfl ?_
                            exact mz_ret rfl
                          refine mz_go 3 (c' := (91, [some (.ref 65), some (.int a), some (.int b), some (.int c), some (.int d), some (.int (c / 10)), some (.int (c - c / 10 * 10)), some (.int 1), none, none], [.int 1, .ref 65], mz_up (mz_i xs Ln) 64 1 1)) rfl ?_
                          refine mz_do (R := mz_r127) (as := [.ref 65, .int 1]) (rest := []) (r1 := some (.int (-1000001))) (m1 := mz_up (mz_up (mz_i xs Ln) 64 1 1) 68 1 1) rfl ⟨?_, rfl⟩ ?_
                          · refine mz_go 11 (c' := (14, [some (.ref 65), some (.int 1)], [.int (-1000001)], mz_up (mz_up (mz_i xs Ln) 64 1 1) 68 1 1)) rfl ?_
                            exact mz_ret rfl
                          exact mz_ret rfl
                      · by_cases h20 : 100 < (a + (((c / 10) - 1) * d))
                        · refine ⟨(-1000001), mz_up (mz_i xs Ln) 64 1 1, mz_up (mz_up (mz_i xs Ln) 64 1 1) 68 1 1, ⟨?_, rfl⟩, ⟨?_, rfl⟩⟩
                          · refine mz_go 10 (c' := (14, [some (.ref 0), some (.int a), some (.int b), some (.int c), some (.int d), some (.int (c / 10)), some (.int (c - c / 10 * 10)), none, none, none, none], [.int b, .int a], (mz_i xs Ln))) rfl ?_
                            refine mz_do (R := mz_r116) (as := [.int a, .int b]) (rest := []) (r1 := some (.int 1)) (m1 := (mz_i xs Ln)) rfl ⟨?_, rfl⟩ ?_
                            · refine mz_go 3 (c' := (5, [some (.int a), some (.int b)], [.int 100, .int (-100), .int a], (mz_i xs Ln))) rfl ?_
                              refine mz_do (R := mz_r121) (as := [.int a, .int (-100), .int 100]) (rest := []) (r1 := some (.int 1)) (m1 := (mz_i xs Ln)) rfl ⟨?_, rfl⟩ ?_
                              · refine mz_go 3 (c' := (if a < (-100) then 14 else 5, [some (.int a), some (.int (-100)), some (.int 100)], [], (mz_i xs Ln))) rfl ?_
                                refine mz_ifF h1 ?_
                                refine mz_go 3 (c' := (if 100 < a then 14 else 10, [some (.int a), some (.int (-100)), some (.int 100)], [], (mz_i xs Ln))) rfl ?_
                                refine mz_ifF h2 ?_
                                refine mz_go 2 (c' := (15, [some (.int a), some (.int (-100)), some (.int 100)], [.int 1], (mz_i xs Ln))) rfl ?_
                                exact mz_ret rfl
                              refine mz_go 4 (c' := (16, [some (.int a), some (.int b)], [.int 100, .int (-100), .int b], (mz_i xs Ln))) rfl ?_
                              refine mz_do (R := mz_r121) (as := [.int b, .int (-100), .int 100]) (rest := []) (r1 := some (.int 1)) (m1 := (mz_i xs Ln)) rfl ⟨?_, rfl⟩ ?_
                              · refine mz_go 3 (c' := (if b < (-100) then 14 else 5, [some (.int b), some (.int (-100)), some (.int 100)], [], (mz_i xs Ln))) rfl ?_
                                refine mz_ifF h3 ?_
                                refine mz_go 3 (c' := (if 100 < b then 14 else 10, [some (.int b), some (.int (-100)), some (.int 100)], [], (mz_i xs Ln))) rfl ?_
                                refine mz_ifF h4 ?_
                                refine mz_go 2 (c' := (15, [some (.int b), some (.int (-100)), some (.int 100)], [.int 1], (mz_i xs Ln))) rfl ?_
                                exact mz_ret rfl
                              refine mz_go 3 (c' := (27, [some (.int a), some (.int b)], [.int 1], (mz_i xs Ln))) rfl ?_
                              exact mz_ret rfl
                            refine mz_go 4 (c' := (25, [some (.ref 0), some (.int a), some (.int b), some (.int c), some (.int d), some (.int (c / 10)), some (.int (c - c / 10 * 10)), none, none, none, none], [.int 40, .int 1, .int d], (mz_i xs Ln))) rfl ?_
                            refine mz_do (R := mz_r121) (as := [.int d, .int 1, .int 40]) (rest := []) (r1 := some (.int 1)) (m1 := (mz_i xs Ln)) rfl ⟨?_, rfl⟩ ?_
                            · refine mz_go 3 (c' := (if d < 1 then 14 else 5, [some (.int d), some (.int 1), some (.int 40)], [], (mz_i xs Ln))) rfl ?_
                              refine mz_ifF h5 ?_
                              refine mz_go 3 (c' := (if 40 < d then 14 else 10, [some (.int d), some (.int 1), some (.int 40)], [], (mz_i xs Ln))) rfl ?_
                              refine mz_ifF h10 ?_
                              refine mz_go 2 (c' := (15, [some (.int d), some (.int 1), some (.int 40)], [.int 1], (mz_i xs Ln))) rfl ?_
                              exact mz_ret rfl
                            refine mz_go 4 (c' := (36, [some (.ref 0), some (.int a), some (.int b), some (.int c), some (.int d), some (.int (c / 10)), some (.int (c - c / 10 * 10)), none, none, none, none], [.int 6, .int 1, .int (c / 10)], (mz_i xs Ln))) rfl ?_
                            refine mz_do (R := mz_r121) (as := [.int (c / 10), .int 1, .int 6]) (rest := []) (r1 := some (.int 1)) (m1 := (mz_i xs Ln)) rfl ⟨?_, rfl⟩ ?_
                            · refine mz_go 3 (c' := (if (c / 10) < 1 then 14 else 5, [some (.int (c / 10)), some (.int 1), some (.int 6)], [], (mz_i xs Ln))) rfl ?_
                              refine mz_ifF h15 ?_
                              refine mz_go 3 (c' := (if 6 < (c / 10) then 14 else 10, [some (.int (c / 10)), some (.int 1), some (.int 6)], [], (mz_i xs Ln))) rfl ?_
                              refine mz_ifF h16 ?_
                              refine mz_go 2 (c' := (15, [some (.int (c / 10)), some (.int 1), some (.int 6)], [.int 1], (mz_i xs Ln))) rfl ?_
                              exact mz_ret rfl
                            refine mz_go 4 (c' := (47, [some (.ref 0), some (.int a), some (.int b), some (.int c), some (.int d), some (.int (c / 10)), some (.int (c - c / 10 * 10)), none, none, none, none], [.int 6, .int 1, .int (c - c / 10 * 10)], (mz_i xs Ln))) rfl ?_
                            refine mz_do (R := mz_r121) (as := [.int (c - c / 10 * 10), .int 1, .int 6]) (rest := []) (r1 := some (.int 1)) (m1 := (mz_i xs Ln)) rfl ⟨?_, rfl⟩ ?_
                            · refine mz_go 3 (c' := (if (c - c / 10 * 10) < 1 then 14 else 5, [some (.int (c - c / 10 * 10)), some (.int 1), some (.int 6)], [], (mz_i xs Ln))) rfl ?_
                              refine mz_ifF h17 ?_
                              refine mz_go 3 (c' := (if 6 < (c - c / 10 * 10) then 14 else 10, [some (.int (c - c / 10 * 10)), some (.int 1), some (.int 6)], [], (mz_i xs Ln))) rfl ?_
                              refine mz_ifF h18 ?_
                              refine mz_go 2 (c' := (15, [some (.int (c - c / 10 * 10)), some (.int 1), some (.int 6)], [.int 1], (mz_i xs Ln))) rfl ?_
                              exact mz_ret rfl
                            refine mz_go 15 (c' := (71, [some (.ref 0), some (.int a), some (.int b), some (.int c), some (.int d), some (.int (c / 10)), some (.int (c - c / 10 * 10)), none, none, none, none], [.int (b + (((c - c / 10 * 10) - 1) * d)), .int (a + (((c / 10) - 1) * d))], (mz_i xs Ln))) rfl ?_
                            refine mz_do (R := mz_r116) (as := [.int (a + (((c / 10) - 1) * d)), .int (b + (((c - c / 10 * 10) - 1) * d))]) (rest := []) (r1 := some (.int 0)) (m1 := (mz_i xs Ln)) rfl ⟨?_, rfl⟩ ?_
                            · refine mz_go 3 (c' := (5, [some (.int (a + (((c / 10) - 1) * d))), some (.int (b + (((c - c / 10 * 10) - 1) * d)))], [.int 100, .int (-100), .int (a + (((c / 10) - 1) * d))], (mz_i xs Ln))) rfl ?_
                              refine mz_do (R := mz_r121) (as := [.int (a + (((c / 10) - 1) * d)), .int (-100), .int 100]) (rest := []) (r1 := some (.int 0)) (m1 := (mz_i xs Ln)) rfl ⟨?_, rfl⟩ ?_
                              · refine mz_go 3 (c' := (if (a + (((c / 10) - 1) * d)) < (-100) then 14 else 5, [some (.int (a + (((c / 10) - 1) * d))), some (.int (-100)), some (.int 100)], [], (mz_i xs Ln))) rfl ?_
                                refine mz_ifF h19 ?_
                                refine mz_go 3 (c' := (if 100 < (a + (((c / 10) - 1) * d)) then 14 else 10, [some (.int (a + (((c / 10) - 1) * d))), some (.int (-100)), some (.int 100)], [], (mz_i xs Ln))) rfl ?_
                                refine mz_ifT h20 ?_
                                refine mz_go 1 (c' := (15, [some (.int (a + (((c / 10) - 1) * d))), some (.int (-100)), some (.int 100)], [.int 0], (mz_i xs Ln))) rfl ?_
                                exact mz_ret rfl
                              refine mz_go 2 (c' := (27, [some (.int (a + (((c / 10) - 1) * d))), some (.int (b + (((c - c / 10 * 10) - 1) * d)))], [.int 0], (mz_i xs Ln))) rfl ?_
                              exact mz_ret rfl
                            refine mz_go 3 (c' := (79, [some (.ref 0), some (.int a), some (.int b), some (.int c), some (.int d), some (.int (c / 10)), some (.int (c - c / 10 * 10)), none, none, none, none], [.int 1, .ref 0], (mz_i xs Ln))) rfl ?_
                            refine mz_do (R := mz_r109) (as := [.ref 0, .int 1]) (rest := []) (r1 := some (.int (-1000001))) (m1 := mz_up (mz_i xs Ln) 64 1 1) rfl ⟨?_, rfl⟩ ?_
                            · refine mz_go 3 (c' := (4, [some (.ref 0), some (.int 1)], [.int 6, .int 1, .int 1], (mz_i xs Ln))) rfl ?_
                              refine mz_do (R := mz_r121) (as := [.int 1, .int 1, .int 6]) (rest := []) (r1 := some (.int 1)) (m1 := (mz_i xs Ln)) rfl ⟨?_, rfl⟩ ?_
                              · refine mz_go 8 (c' := (15, [some (.int 1), some (.int 1), some (.int 6)], [.int 1], (mz_i xs Ln))) rfl ?_
                                exact mz_ret rfl
                              refine mz_go 12 (c' := (25, [some (.ref 0), some (.int 1)], [.int (-1000001)], mz_up (mz_i xs Ln) 64 1 1)) rfl ?_
                              exact mz_ret rfl
                            exact mz_ret rfl
                          · refine mz_go 10 (c' := (14, [some (.ref 65), some (.int a), some (.int b), some (.int c), some (.int d), some (.int (c / 10)), some (.int (c - c / 10 * 10)), none, none, none], [.int b, .int a], mz_up (mz_i xs Ln) 64 1 1)) rfl ?_
                            refine mz_do (R := mz_r131) (as := [.int a, .int b]) (rest := []) (r1 := some (.int 1)) (m1 := mz_up (mz_i xs Ln) 64 1 1) rfl ⟨?_, rfl⟩ ?_
                            · refine mz_go 3 (c' := (5, [some (.int a), some (.int b)], [.int 100, .int (-100), .int a], mz_up (mz_i xs Ln) 64 1 1)) rfl ?_
                              refine mz_do (R := mz_r128) (as := [.int a, .int (-100), .int 100]) (rest := []) (r1 := some (.int 1)) (m1 := mz_up (mz_i xs Ln) 64 1 1) rfl ⟨?_, rfl⟩ ?_
                              · refine mz_go 3 (c' := (if a < (-100) then 14 else 5, [some (.int a), some (.int (-100)), some (.int 100)], [], mz_up (mz_i xs Ln) 64 1 1)) rfl ?_
                                refine mz_ifF h1 ?_
                                refine mz_go 3 (c' := (if 100 < a then 14 else 10, [some (.int a), some (.int (-100)), some (.int 100)], [], mz_up (mz_i xs Ln) 64 1 1)) rfl ?_
                                refine mz_ifF h2 ?_
                                refine mz_go 2 (c' := (15, [some (.int a), some (.int (-100)), some (.int 100)], [.int 1], mz_up (mz_i xs Ln) 64 1 1)) rfl ?_
                                exact mz_ret rfl
                              refine mz_go 4 (c' := (16, [some (.int a), some (.int b)], [.int 100, .int (-100), .int b], mz_up (mz_i xs Ln) 64 1 1)) rfl ?_
                              refine mz_do (R := mz_r128) (as := [.int b, .int (-100), .int 100]) (rest := []) (r1 := some (.int 1)) (m1 := mz_up (mz_i xs Ln) 64 1 1) rfl ⟨?_, rfl⟩ ?_
                              · refine mz_go 3 (c' := (if b < (-100) then 14 else 5, [some (.int b), some (.int (-100)), some (.int 100)], [], mz_up (mz_i xs Ln) 64 1 1)) rfl ?_
                                refine mz_ifF h3 ?_
                                refine mz_go 3 (c' := (if 100 < b then 14 else 10, [some (.int b), some (.int (-100)), some (.int 100)], [], mz_up (mz_i xs Ln) 64 1 1)) rfl ?_
                                refine mz_ifF h4 ?_
                                refine mz_go 2 (c' := (15, [some (.int b), some (.int (-100)), some (.int 100)], [.int 1], mz_up (mz_i xs Ln) 64 1 1)) rfl ?_
                                exact mz_ret rfl
                              refine mz_go 3 (c' := (27, [some (.int a), some (.int b)], [.int 1], mz_up (mz_i xs Ln) 64 1 1)) rfl ?_
                              exact mz_ret rfl
                            refine mz_go 4 (c' := (25, [some (.ref 65), some (.int a), some (.int b), some (.int c), some (.int d), some (.int (c / 10)), some (.int (c - c / 10 * 10)), none, none, none], [.int 6, .int 1, .int (c / 10)], mz_up (mz_i xs Ln) 64 1 1)) rfl ?_
                            refine mz_do (R := mz_r128) (as := [.int (c / 10), .int 1, .int 6]) (rest := []) (r1 := some (.int 1)) (m1 := mz_up (mz_i xs Ln) 64 1 1) rfl ⟨?_, rfl⟩ ?_
                            · refine mz_go 3 (c' := (if (c / 10) < 1 then 14 else 5, [some (.int (c / 10)), some (.int 1), some (.int 6)], [], mz_up (mz_i xs Ln) 64 1 1)) rfl ?_
                              refine mz_ifF h15 ?_
                              refine mz_go 3 (c' := (if 6 < (c / 10) then 14 else 10, [some (.int (c / 10)), some (.int 1), some (.int 6)], [], mz_up (mz_i xs Ln) 64 1 1)) rfl ?_
                              refine mz_ifF h16 ?_
                              refine mz_go 2 (c' := (15, [some (.int (c / 10)), some (.int 1), some (.int 6)], [.int 1], mz_up (mz_i xs Ln) 64 1 1)) rfl ?_
                              exact mz_ret rfl
                            refine mz_go 4 (c' := (36, [some (.ref 65), some (.int a), some (.int b), some (.int c), some (.int d), some (.int (c / 10)), some (.int (c - c / 10 * 10)), none, none, none], [.int 6, .int 1, .int (c - c / 10 * 10)], mz_up (mz_i xs Ln) 64 1 1)) rfl ?_
                            refine mz_do (R := mz_r128) (as := [.int (c - c / 10 * 10), .int 1, .int 6]) (rest := []) (r1 := some (.int 1)) (m1 := mz_up (mz_i xs Ln) 64 1 1) rfl ⟨?_, rfl⟩ ?_
                            · refine mz_go 3 (c' := (if (c - c / 10 * 10) < 1 then 14 else 5, [some (.int (c - c / 10 * 10)), some (.int 1), some (.int 6)], [], mz_up (mz_i xs Ln) 64 1 1)) rfl ?_
                              refine mz_ifF h17 ?_
                              refine mz_go 3 (c' := (if 6 < (c - c / 10 * 10) then 14 else 10, [some (.int (c - c / 10 * 10)), some (.int 1), some (.int 6)], [], mz_up (mz_i xs Ln) 64 1 1)) rfl ?_
                              refine mz_ifF h18 ?_
                              refine mz_go 2 (c' := (15, [some (.int (c - c / 10 * 10)), some (.int 1), some (.int 6)], [.int 1], mz_up (mz_i xs Ln) 64 1 1)) rfl ?_
                              exact mz_ret rfl
                            refine mz_go 4 (c' := (47, [some (.ref 65), some (.int a), some (.int b), some (.int c), some (.int d), some (.int (c / 10)), some (.int (c - c / 10 * 10)), none, none, none], [.int 40, .int 1, .int d], mz_up (mz_i xs Ln) 64 1 1)) rfl ?_
                            refine mz_do (R := mz_r128) (as := [.int d, .int 1, .int 40]) (rest := []) (r1 := some (.int 1)) (m1 := mz_up (mz_i xs Ln) 64 1 1) rfl ⟨?_, rfl⟩ ?_
                            · refine mz_go 3 (c' := (if d < 1 then 14 else 5, [some (.int d), some (.int 1), some (.int 40)], [], mz_up (mz_i xs Ln) 64 1 1)) rfl ?_
                              refine mz_ifF h5 ?_
                              refine mz_go 3 (c' := (if 40 < d then 14 else 10, [some (.int d), some (.int 1), some (.int 40)], [], mz_up (mz_i xs Ln) 64 1 1)) rfl ?_
                              refine mz_ifF h10 ?_
                              refine mz_go 2 (c' := (15, [some (.int d), some (.int 1), some (.int 40)], [.int 1], mz_up (mz_i xs Ln) 64 1 1)) rfl ?_
                              exact mz_ret rfl
                            refine mz_go 20 (c' := (83, [some (.ref 65), some (.int a), some (.int b), some (.int c), some (.int d), some (.int (c / 10)), some (.int (c - c / 10 * 10)), some (.int 1), none, none], [.int (b + (((c - c / 10 * 10) - 1) * d)), .int (a + (((c / 10) - 1) * d))], mz_up (mz_i xs Ln) 64 1 1)) rfl ?_
                            refine mz_do (R := mz_r131) (as := [.int (a + (((c / 10) - 1) * d)), .int (b + (((c - c / 10 * 10) - 1) * d))]) (rest := []) (r1 := some (.int 0)) (m1 := mz_up (mz_i xs Ln) 64 1 1) rfl ⟨?_, rfl⟩ ?_
                            · refine mz_go 3 (c' := (5, [some (.int (a + (((c / 10) - 1) * d))), some (.int (b + (((c - c / 10 * 10) - 1) * d)))], [.int 100, .int (-100), .int (a + (((c / 10) - 1) * d))], mz_up (mz_i xs Ln) 64 1 1)) rfl ?_
                              refine mz_do (R := mz_r128) (as := [.int (a + (((c / 10) - 1) * d)), .int (-100), .int 100]) (rest := []) (r1 := some (.int 0)) (m1 := mz_up (mz_i xs Ln) 64 1 1) rfl ⟨?_, rfl⟩ ?_
                              · refine mz_go 3 (c' := (if (a + (((c / 10) - 1) * d)) < (-100) then 14 else 5, [some (.int (a + (((c / 10) - 1) * d))), some (.int (-100)), some (.int 100)], [], mz_up (mz_i xs Ln) 64 1 1)) rfl ?_
                                refine mz_ifF h19 ?_
                                refine mz_go 3 (c' := (if 100 < (a + (((c / 10) - 1) * d)) then 14 else 10, [some (.int (a + (((c / 10) - 1) * d))), some (.int (-100)), some (.int 100)], [], mz_up (mz_i xs Ln) 64 1 1)) rfl ?_
                                refine mz_ifT h20 ?_
                                refine mz_go 1 (c' := (15, [some (.int (a + (((c / 10) - 1) * d))), some (.int (-100)), some (.int 100)], [.int 0], mz_up (mz_i xs Ln) 64 1 1)) rfl ?_
                                exact mz_ret rfl
                              refine mz_go 2 (c' := (27, [some (.int (a + (((c / 10) - 1) * d))), some (.int (b + (((c - c / 10 * 10) - 1) * d)))], [.int 0], mz_up (mz_i xs Ln) 64 1 1)) rfl ?_
                              exact mz_ret rfl
                            refine mz_go 3 (c' := (91, [some (.ref 65), some (.int a), some (.int b), some (.int c), some (.int d), some (.int (c / 10)), some (.int (c - c / 10 * 10)), some (.int 1), none, none], [.int 1, .ref 65], mz_up (mz_i xs Ln) 64 1 1)) rfl ?_
                            refine mz_do (R := mz_r127) (as := [.ref 65, .int 1]) (rest := []) (r1 := some (.int (-1000001))) (m1 := mz_up (mz_up (mz_i xs Ln) 64 1 1) 68 1 1) rfl ⟨?_, rfl⟩ ?_
                            · refine mz_go 11 (c' := (14, [some (.ref 65), some (.int 1)], [.int (-1000001)], mz_up (mz_up (mz_i xs Ln) 64 1 1) 68 1 1)) rfl ?_
                              exact mz_ret rfl
                            exact mz_ret rfl
                        · by_cases h21 : (b + (((c - c / 10 * 10) - 1) * d)) < (-100)
                          · refine ⟨(-1000001), mz_up (mz_i xs Ln) 64 1 1, mz_up (mz_up (mz_i xs Ln) 64 1 1) 68 1 1, ⟨?_, rfl⟩, ⟨?_, rfl⟩⟩
                            · refine mz_go 10 (c' := (14, [some (.ref 0), some (.int a), some (.int b), some (.int c), some (.int d), some (.int (c / 10)), some (.int (c - c / 10 * 10)), none, none, none, none], [.int b, .int a], (mz_i xs Ln))) rfl ?_
                              refine mz_do (R := mz_r116) (as := [.int a, .int b]) (rest := []) (r1 := some (.int 1)) (m1 := (mz_i xs Ln)) rfl ⟨?_, rfl⟩ ?_
                              · refine mz_go 3 (c' := (5, [some (.int a), some (.int b)], [.int 100, .int (-100), .int a], (mz_i xs Ln))) rfl ?_
                                refine mz_do (R := mz_r121) (as := [.int a, .int (-100), .int 100]) (rest := []) (r1 := some (.int 1)) (m1 := (mz_i xs Ln)) rfl ⟨?_, rfl⟩ ?_
                                · refine mz_go 3 (c' := (if a < (-100) then 14 else 5, [some (.int a), some (.int (-100)), some (.int 100)], [], (mz_i xs Ln))) rfl ?_
                                  refine mz_ifF h1 ?_
                                  refine mz_go 3 (c' := (if 100 < a then 14 else 10, [some (.int a), some (.int (-100)), some (.int 100)], [], (mz_i xs Ln))) rfl ?_
                                  refine mz_ifF h2 ?_
                                  refine mz_go 2 (c' := (15, [some (.int a), some (.int (-100)), some (.int 100)], [.int 1], (mz_i xs Ln))) rfl ?_
                                  exact mz_ret rfl
                                refine mz_go 4 (c' := (16, [some (.int a), some (.int b)], [.int 100, .int (-100), .int b], (mz_i xs Ln))) rfl ?_
                                refine mz_do (R := mz_r121) (as := [.int b, .int (-100), .int 100]) (rest := []) (r1 := some (.int 1)) (m1 := (mz_i xs Ln)) rfl ⟨?_, rfl⟩ ?_
                                · refine mz_go 3 (c' := (if b < (-100) then 14 else 5, [some (.int b), some (.int (-100)), some (.int 100)], [], (mz_i xs Ln))) rfl ?_
                                  refine mz_ifF h3 ?_
                                  refine mz_go 3 (c' := (if 100 < b then 14 else 10, [some (.int b), some (.int (-100)), some (.int 100)], [], (mz_i xs Ln))) rfl ?_
                                  refine mz_ifF h4 ?_
                                  refine mz_go 2 (c' := (15, [some (.int b), some (.int (-100)), some (.int 100)], [.int 1], (mz_i xs Ln))) rfl ?_
                                  exact mz_ret rfl
                                refine mz_go 3 (c' := (27, [some (.int a), some (.int b)], [.int 1], (mz_i xs Ln))) rfl ?_
                                exact mz_ret rfl
                              refine mz_go 4 (c' := (25, [some (.ref 0), some (.int a), some (.int b), some (.int c), some (.int d), some (.int (c / 10)), some (.int (c - c / 10 * 10)), none, none, none, none], [.int 40, .int 1, .int d], (mz_i xs Ln))) rfl ?_
                              refine mz_do (R := mz_r121) (as := [.int d, .int 1, .int 40]) (rest := []) (r1 := some (.int 1)) (m1 := (mz_i xs Ln)) rfl ⟨?_, rfl⟩ ?_
                              · refine mz_go 3 (c' := (if d < 1 then 14 else 5, [some (.int d), some (.int 1), some (.int 40)], [], (mz_i xs Ln))) rfl ?_
                                refine mz_ifF h5 ?_
                                refine mz_go 3 (c' := (if 40 < d then 14 else 10, [some (.int d), some (.int 1), some (.int 40)], [], (mz_i xs Ln))) rfl ?_
                                refine mz_ifF h10 ?_
                                refine mz_go 2 (c' := (15, [some (.int d), some (.int 1), some (.int 40)], [.int 1], (mz_i xs Ln))) rfl ?_
                                exact mz_ret rfl
                              refine mz_go 4 (c' := (36, [some (.ref 0), some (.int a), some (.int b), some (.int c), some (.int d), some (.int (c / 10)), some (.int (c - c / 10 * 10)), none, none, none, none], [.int 6, .int 1, .int (c / 10)], (mz_i xs Ln))) rfl ?_
                              refine mz_do (R := mz_r121) (as := [.int (c / 10), .int 1, .int 6]) (rest := []) (r1 := some (.int 1)) (m1 := (mz_i xs Ln)) rfl ⟨?_, rfl⟩ ?_
                              · refine mz_go 3 (c' := (if (c / 10) < 1 then 14 else 5, [some (.int (c / 10)), some (.int 1), some (.int 6)], [], (mz_i xs Ln))) rfl ?_
                                refine mz_ifF h15 ?_
                                refine mz_go 3 (c' := (if 6 < (c / 10) then 14 else 10, [some (.int (c / 10)), some (.int 1), some (.int 6)], [], (mz_i xs Ln))) rfl ?_
                                refine mz_ifF h16 ?_
                                refine mz_go 2 (c' := (15, [some (.int (c / 10)), some (.int 1), some (.int 6)], [.int 1], (mz_i xs Ln))) rfl ?_
                                exact mz_ret rfl
                              refine mz_go 4 (c' := (47, [some (.ref 0), some (.int a), some (.int b), some (.int c), some (.int d), some (.int (c / 10)), some (.int (c - c / 10 * 10)), none, none, none, none], [.int 6, .int 1, .int (c - c / 10 * 10)], (mz_i xs Ln))) rfl ?_
                              refine mz_do (R := mz_r121) (as := [.int (c - c / 10 * 10), .int 1, .int 6]) (rest := []) (r1 := some (.int 1)) (m1 := (mz_i xs Ln)) rfl ⟨?_, rfl⟩ ?_
                              · refine mz_go 3 (c' := (if (c - c / 10 * 10) < 1 then 14 else 5, [some (.int (c - c / 10 * 10)), some (.int 1), some (.int 6)], [], (mz_i xs Ln))) rfl ?_
                                refine mz_ifF h17 ?_
                                refine mz_go 3 (c' := (if 6 < (c - c / 10 * 10) then 14 else 10, [some (.int (c - c / 10 * 10)), some (.int 1), some (.int 6)], [], (mz_i xs Ln))) rfl ?_
                                refine mz_ifF h18 ?_
                                refine mz_go 2 (c' := (15, [some (.int (c - c / 10 * 10)), some (.int 1), some (.int 6)], [.int 1], (mz_i xs Ln))) rfl ?_
                                exact mz_ret rfl
                              refine mz_go 15 (c' := (71, [some (.ref 0), some (.int a), some (.int b), some (.int c), some (.int d), some (.int (c / 10)), some (.int (c - c / 10 * 10)), none, none, none, none], [.int (b + (((c - c / 10 * 10) - 1) * d)), .int (a + (((c / 10) - 1) * d))], (mz_i xs Ln))) rfl ?_
                              refine mz_do (R := mz_r116) (as := [.int (a + (((c / 10) - 1) * d)), .int (b + (((c - c / 10 * 10) - 1) * d))]) (rest := []) (r1 := some (.int 0)) (m1 := (mz_i xs Ln)) rfl ⟨?_, rfl⟩ ?_
                              · refine mz_go 3 (c' := (5, [some (.int (a + (((c / 10) - 1) * d))), some (.int (b + (((c - c / 10 * 10) - 1) * d)))], [.int 100, .int (-100), .int (a + (((c / 10) - 1) * d))], (mz_i xs Ln))) rfl ?_
                                refine mz_do (R := mz_r121) (as := [.int (a + (((c / 10) - 1) * d)), .int (-100), .int 100]) (rest := []) (r1 := some (.int 1)) (m1 := (mz_i xs Ln)) rfl ⟨?_, rfl⟩ ?_
                                · refine mz_go 3 (c' := (if (a + (((c / 10) - 1) * d)) < (-100) then 14 else 5, [some (.int (a + (((c / 10) - 1) * d))), some (.int (-100)), some (.int 100)], [], (mz_i xs Ln))) rfl ?_
                                  refine mz_ifF h19 ?_
                                  refine mz_go 3 (c' := (if 100 < (a + (((c / 10) - 1) * d)) then 14 else 10, [some (.int (a + (((c / 10) - 1) * d))), some (.int (-100)), some (.int 100)], [], (mz_i xs Ln))) rfl ?_
                                  refine mz_ifF h20 ?_
                                  refine mz_go 2 (c' := (15, [some (.int (a + (((c / 10) - 1) * d))), some (.int (-100)), some (.int 100)], [.int 1], (mz_i xs Ln))) rfl ?_
                                  exact mz_ret rfl
                                refine mz_go 4 (c' := (16, [some (.int (a + (((c / 10) - 1) * d))), some (.int (b + (((c - c / 10 * 10) - 1) * d)))], [.int 100, .int (-100), .int (b + (((c - c / 10 * 10) - 1) * d))], (mz_i xs Ln))) rfl ?_
                                refine mz_do (R := mz_r121) (as := [.int (b + (((c - c / 10 * 10) - 1) * d)), .int (-100), .int 100]) (rest := []) (r1 := some (.int 0)) (m1 := (mz_i xs Ln)) rfl ⟨?_, rfl⟩ ?_
                                · refine mz_go 3 (c' := (if (b + (((c - c / 10 * 10) - 1) * d)) < (-100) then 14 else 5, [some (.int (b + (((c - c / 10 * 10) - 1) * d))), some (.int (-100)), some (.int 100)], [], (mz_i xs Ln))) rfl ?_
                                  refine mz_ifT h21 ?_
                                  refine mz_go 1 (c' := (15, [some (.int (b + (((c - c / 10 * 10) - 1) * d))), some (.int (-100)), some (.int 100)], [.int 0], (mz_i xs Ln))) rfl ?_
                                  exact mz_ret rfl
                                refine mz_go 2 (c' := (27, [some (.int (a + (((c / 10) - 1) * d))), some (.int (b + (((c - c / 10 * 10) - 1) * d)))], [.int 0], (mz_i xs Ln))) rfl ?_
                                exact mz_ret rfl
                              refine mz_go 3 (c' := (79, [some (.ref 0), some (.int a), some (.int b), some (.int c), some (.int d), some (.int (c / 10)), some (.int (c - c / 10 * 10)), none, none, none, none], [.int 1, .ref 0], (mz_i xs Ln))) rfl ?_
                              refine mz_do (R := mz_r109) (as := [.ref 0, .int 1]) (rest := []) (r1 := some (.int (-1000001))) (m1 := mz_up (mz_i xs Ln) 64 1 1) rfl ⟨?_, rfl⟩ ?_
                              · refine mz_go 3 (c' := (4, [some (.ref 0), some (.int 1)], [.int 6, .int 1, .int 1], (mz_i xs Ln))) rfl ?_
                                refine mz_do (R := mz_r121) (as := [.int 1, .int 1, .int 6]) (rest := []) (r1 := some (.int 1)) (m1 := (mz_i xs Ln)) rfl ⟨?_, rfl⟩ ?_
                                · refine mz_go 8 (c' := (15, [some (.int 1), some (.int 1), some (.int 6)], [.int 1], (mz_i xs Ln))) rfl ?_
                                  exact mz_ret rfl
                                refine mz_go 12 (c' := (25, [some (.ref 0), some (.int 1)], [.int (-1000001)], mz_up (mz_i xs Ln) 64 1 1)) rfl ?_
                                exact mz_ret rfl
                              exact mz_ret rfl
                            · refine mz_go 10 (c' := (14, [some (.ref 65), some (.int a), some (.int b), some (.int c), some (.int d), some (.int (c / 10)), some (.int (c - c / 10 * 10)), none, none, none], [.int b, .int a], mz_up (mz_i xs Ln) 64 1 1)) rfl ?_
                              refine mz_do (R := mz_r131) (as := [.int a, .int b]) (rest := []) (r1 := some (.int 1)) (m1 := mz_up (mz_i xs Ln) 64 1 1) rfl ⟨?_, rfl⟩ ?_
                              · refine mz_go 3 (c' := (5, [some (.int a), some (.int b)], [.int 100, .int (-100), .int a], mz_up (mz_i xs Ln) 64 1 1)) rfl ?_
                                refine mz_do (R := mz_r128) (as := [.int a, .int (-100), .int 100]) (rest := []) (r1 := some (.int 1)) (m1 := mz_up (mz_i xs Ln) 64 1 1) rfl ⟨?_, rfl⟩ ?_
                                · refine mz_go 3 (c' := (if a < (-100) then 14 else 5, [some (.int a), some (.int (-100)), some (.int 100)], [], mz_up (mz_i xs Ln) 64 1 1)) rfl ?_
                                  refine mz_ifF h1 ?_
                                  refine mz_go 3 (c' := (if 100 < a then 14 else 10, [some (.int a), some (.int (-100)), some (.int 100)], [], mz_up (mz_i xs Ln) 64 1 1)) rfl ?_
                                  refine mz_ifF h2 ?_
                                  refine mz_go 2 (c' := (15, [some (.int a), some (.int (-100)), some (.int 100)], [.int 1], mz_up (mz_i xs Ln) 64 1 1)) rfl ?_
                                  exact mz_ret rfl
                                refine mz_go 4 (c' := (16, [some (.int a), some (.int b)], [.int 100, .int (-100), .int b], mz_up (mz_i xs Ln) 64 1 1)) rfl ?_
                                refine mz_do (R := mz_r128) (as := [.int b, .int (-100), .int 100]) (rest := []) (r1 := some (.int 1)) (m1 := mz_up (mz_i xs Ln) 64 1 1) rfl ⟨?_, rfl⟩ ?_
                                · refine mz_go 3 (c' := (if b < (-100) then 14 else 5, [some (.int b), some (.int (-100)), some (.int 100)], [], mz_up (mz_i xs Ln) 64 1 1)) rfl ?_
                                  refine mz_ifF h3 ?_
                                  refine mz_go 3 (c' := (if 100 < b then 14 else 10, [some (.int b), some (.int (-100)), some (.int 100)], [], mz_up (mz_i xs Ln) 64 1 1)) rfl ?_
                                  refine mz_ifF h4 ?_
                                  refine mz_go 2 (c' := (15, [some (.int b), some (.int (-100)), some (.int 100)], [.int 1], mz_up (mz_i xs Ln) 64 1 1)) rfl ?_
                                  exact mz_ret rfl
                                refine mz_go 3 (c' := (27, [some (.int a), some (.int b)], [.int 1], mz_up (mz_i xs Ln) 64 1 1)) rfl ?_
                                exact mz_ret rfl
                              refine mz_go 4 (c' := (25, [some (.ref 65), some (.int a), some (.int b), some (.int c), some (.int d), some (.int (c / 10)), some (.int (c - c / 10 * 10)), none, none, none], [.int 6, .int 1, .int (c / 10)], mz_up (mz_i xs Ln) 64 1 1)) rfl ?_
                              refine mz_do (R := mz_r128) (as := [.int (c / 10), .int 1, .int 6]) (rest := []) (r1 := some (.int 1)) (m1 := mz_up (mz_i xs Ln) 64 1 1) rfl ⟨?_, rfl⟩ ?_
                              · refine mz_go 3 (c' := (if (c / 10) < 1 then 14 else 5, [some (.int (c / 10)), some (.int 1), some (.int 6)], [], mz_up (mz_i xs Ln) 64 1 1)) rfl ?_
                                refine mz_ifF h15 ?_
                                refine mz_go 3 (c' := (if 6 < (c / 10) then 14 else 10, [some (.int (c / 10)), some (.int 1), some (.int 6)], [], mz_up (mz_i xs Ln) 64 1 1)) rfl ?_
                                refine mz_ifF h16 ?_
                                refine mz_go 2 (c' := (15, [some (.int (c / 10)), some (.int 1), some (.int 6)], [.int 1], mz_up (mz_i xs Ln) 64 1 1)) rfl ?_
                                exact mz_ret rfl
                              refine mz_go 4 (c' := (36, [some (.ref 65), some (.int a), some (.int b), some (.int c), some (.int d), some (.int (c / 10)), some (.int (c - c / 10 * 10)), none, none, none], [.int 6, .int 1, .int (c - c / 10 * 10)], mz_up (mz_i xs Ln) 64 1 1)) rfl ?_
                              refine mz_do (R := mz_r128) (as := [.int (c - c / 10 * 10), .int 1, .int 6]) (rest := []) (r1 := some (.int 1)) (m1 := mz_up (mz_i xs Ln) 64 1 1) rfl ⟨?_, rfl⟩ ?_
                              · refine mz_go 3 (c' := (if (c - c / 10 * 10) < 1 then 14 else 5, [some (.int (c - c / 10 * 10)), some (.int 1), some (.int 6)], [], mz_up (mz_i xs Ln) 64 1 1)) rfl ?_
                                refine mz_ifF h17 ?_
                                refine mz_go 3 (c' := (if 6 < (c - c / 10 * 10) then 14 else 10, [some (.int (c - c / 10 * 10)), some (.int 1), some (.int 6)], [], mz_up (mz_i xs Ln) 64 1 1)) rfl ?_
                                refine mz_ifF h18 ?_
                                refine mz_go 2 (c' := (15, [some (.int (c - c / 10 * 10)), some (.int 1), some (.int 6)], [.int 1], mz_up (mz_i xs Ln) 64 1 1)) rfl ?_
                                exact mz_ret rfl
                              refine mz_go 4 (c' := (47, [some (.ref 65), some (.int a), some (.int b), some (.int c), some (.int d), some (.int (c / 10)), some (.int (c - c / 10 * 10)), none, none, none], [.int 40, .int 1, .int d], mz_up (mz_i xs Ln) 64 1 1)) rfl ?_
                              refine mz_do (R := mz_r128) (as := [.int d, .int 1, .int 40]) (rest := []) (r1 := some (.int 1)) (m1 := mz_up (mz_i xs Ln) 64 1 1) rfl ⟨?_, rfl⟩ ?_
                              · refine mz_go 3 (c' := (if d < 1 then 14 else 5, [some (.int d), some (.int 1), some (.int 40)], [], mz_up (mz_i xs Ln) 64 1 1)) rfl ?_
                                refine mz_ifF h5 ?_
                                refine mz_go 3 (c' := (if 40 < d then 14 else 10, [some (.int d), some (.int 1), some (.int 40)], [], mz_up (mz_i xs Ln) 64 1 1)) rfl ?_
                                refine mz_ifF h10 ?_
                                refine mz_go 2 (c' := (15, [some (.int d), some (.int 1), some (.int 40)], [.int 1], mz_up (mz_i xs Ln) 64 1 1)) rfl ?_
                                exact mz_ret rfl
                              refine mz_go 20 (c' := (83, [some (.ref 65), some (.int a), some (.int b), some (.int c), some (.int d), some (.int (c / 10)), some (.int (c - c / 10 * 10)), some (.int 1), none, none], [.int (b + (((c - c / 10 * 10) - 1) * d)), .int (a + (((c / 10) - 1) * d))], mz_up (mz_i xs Ln) 64 1 1)) rfl ?_
                              refine mz_do (R := mz_r131) (as := [.int (a + (((c / 10) - 1) * d)), .int (b + (((c - c / 10 * 10) - 1) * d))]) (rest := []) (r1 := some (.int 0)) (m1 := mz_up (mz_i xs Ln) 64 1 1) rfl ⟨?_, rfl⟩ ?_
                              · refine mz_go 3 (c' := (5, [some (.int (a + (((c / 10) - 1) * d))), some (.int (b + (((c - c / 10 * 10) - 1) * d)))], [.int 100, .int (-100), .int (a + (((c / 10) - 1) * d))], mz_up (mz_i xs Ln) 64 1 1)) rfl ?_
                                refine mz_do (R := mz_r128) (as := [.int (a + (((c / 10) - 1) * d)), .int (-100), .int 100]) (rest := []) (r1 := some (.int 1)) (m1 := mz_up (mz_i xs Ln) 64 1 1) rfl ⟨?_, rfl⟩ ?_
                                · refine mz_go 3 (c' := (if (a + (((c / 10) - 1) * d)) < (-100) then 14 else 5, [some (.int (a + (((c / 10) - 1) * d))), some (.int (-100)), some (.int 100)], [], mz_up (mz_i xs Ln) 64 1 1)) rfl ?_
                                  refine mz_ifF h19 ?_
                                  refine mz_go 3 (c' := (if 100 < (a + (((c / 10) - 1) * d)) then 14 else 10, [some (.int (a + (((c / 10) - 1) * d))), some (.int (-100)), some (.int 100)], [], mz_up (mz_i xs Ln) 64 1 1)) rfl ?_
                                  refine mz_ifF h20 ?_
                                  refine mz_go 2 (c' := (15, [some (.int (a + (((c / 10) - 1) * d))), some (.int (-100)), some (.int 100)], [.int 1], mz_up (mz_i xs Ln) 64 1 1)) rfl ?_
                                  exact mz_ret rfl
                                refine mz_go 4 (c' := (16, [some (.int (a + (((c / 10) - 1) * d))), some (.int (b + (((c - c / 10 * 10) - 1) * d)))], [.int 100, .int (-100), .int (b + (((c - c / 10 * 10) - 1) * d))], mz_up (mz_i xs Ln) 64 1 1)) rfl ?_
                                refine mz_do (R := mz_r128) (as := [.int (b + (((c - c / 10 * 10) - 1) * d)), .int (-100), .int 100]) (rest := []) (r1 := some (.int 0)) (m1 := mz_up (mz_i xs Ln) 64 1 1) rfl ⟨?_, rfl⟩ ?_
                                · refine mz_go 3 (c' := (if (b + (((c - c / 10 * 10) - 1) * d)) < (-100) then 14 else 5, [some (.int (b + (((c - c / 10 * 10) - 1) * d))), some (.int (-100)), some (.int 100)], [], mz_up (mz_i xs Ln) 64 1 1)) rfl ?_
                                  refine mz_ifT h21 ?_
                                  refine mz_go 1 (c' := (15, [some (.int (b + (((c - c / 10 * 10) - 1) * d))), some (.int (-100)), some (.int 100)], [.int 0], mz_up (mz_i xs Ln) 64 1 1)) rfl ?_
                                  exact mz_ret rfl
                                refine mz_go 2 (c' := (27, [some (.int (a + (((c / 10) - 1) * d))), some (.int (b + (((c - c / 10 * 10) - 1) * d)))], [.int 0], mz_up (mz_i xs Ln) 64 1 1)) rfl ?_
                                exact mz_ret rfl
                              refine mz_go 3 (c' := (91, [some (.ref 65), some (.int a), some (.int b), some (.int c), some (.int d), some (.int (c / 10)), some (.int (c - c / 10 * 10)), some (.int 1), none, none], [.int 1, .ref 65], mz_up (mz_i xs Ln) 64 1 1)) rfl ?_
                              refine mz_do (R := mz_r127) (as := [.ref 65, .int 1]) (rest := []) (r1 := some (.int (-1000001))) (m1 := mz_up (mz_up (mz_i xs Ln) 64 1 1) 68 1 1) rfl ⟨?_, rfl⟩ ?_
                              · refine mz_go 11 (c' := (14, [some (.ref 65), some (.int 1)], [.int (-1000001)], mz_up (mz_up (mz_i xs Ln) 64 1 1) 68 1 1)) rfl ?_
                                exact mz_ret rfl
                              exact mz_ret rfl
                          · by_cases h22 : 100 < (b + (((c - c / 10 * 10) - 1) * d))
                            · refine ⟨(-1000001), mz_up (mz_i xs Ln) 64 1 1, mz_up (mz_up (mz_i xs Ln) 64 1 1) 68 1 1, ⟨?_, rfl⟩, ⟨?_, rfl⟩⟩
                              · refine mz_go 10 (c' := (14, [some (.ref 0), some (.int a), some (.int b), some (.int c), some (.int d), some (.int (c / 10)), some (.int (c - c / 10 * 10)), none, none, none, none], [.int b, .int a], (mz_i xs Ln))) rfl ?_
                                refine mz_do (R := mz_r116) (as := [.int a, .int b]) (rest := []) (r1 := some (.int 1)) (m1 := (mz_i xs Ln)) rfl ⟨?_, rfl⟩ ?_
                                · refine mz_go 3 (c' := (5, [some (.int a), some (.int b)], [.int 100, .int (-100), .int a], (mz_i xs Ln))) rfl ?_
                                  refine mz_do (R := mz_r121) (as := [.int a, .int (-100), .int 100]) (rest := []) (r1 := some (.int 1)) (m1 := (mz_i xs Ln)) rfl ⟨?_, rfl⟩ ?_
                                  · refine mz_go 3 (c' := (if a < (-100) then 14 else 5, [some (.int a), some (.int (-100)), some (.int 100)], [], (mz_i xs Ln))) rfl ?_
                                    refine mz_ifF h1 ?_
                                    refine mz_go 3 (c' := (if 100 < a then 14 else 10, [some (.int a), some (.int (-100)), some (.int 100)], [], (mz_i xs Ln))) rfl ?_
                                    refine mz_ifF h2 ?_
                                    refine mz_go 2 (c' := (15, [some (.int a), some (.int (-100)), some (.int 100)], [.int 1], (mz_i xs Ln))) rfl ?_
                                    exact mz_ret rfl
                                  refine mz_go 4 (c' := (16, [some (.int a), some (.int b)], [.int 100, .int (-100), .int b], (mz_i xs Ln))) rfl ?_
                                  refine mz_do (R := mz_r121) (as := [.int b, .int (-100), .int 100]) (rest := []) (r1 := some (.int 1)) (m1 := (mz_i xs Ln)) rfl ⟨?_, rfl⟩ ?_
                                  · refine mz_go 3 (c' := (if b < (-100) then 14 else 5, [some (.int b), some (.int (-100)), some (.int 100)], [], (mz_i xs Ln))) rfl ?_
                                    refine mz_ifF h3 ?_
                                    refine mz_go 3 (c' := (if 100 < b then 14 else 10, [some (.int b), some (.int (-100)), some (.int 100)], [], (mz_i xs Ln))) rfl ?_
                                    refine mz_ifF h4 ?_
                                    refine mz_go 2 (c' := (15, [some (.int b), some (.int (-100)), some (.int 100)], [.int 1], (mz_i xs Ln))) rfl ?_
                                    exact mz_ret rfl
                                  refine mz_go 3 (c' := (27, [some (.int a), some (.int b)], [.int 1], (mz_i xs Ln))) rfl ?_
                                  exact mz_ret rfl
                                refine mz_go 4 (c' := (25, [some (.ref 0), some (.int a), some (.int b), some (.int c), some (.int d), some (.int (c / 10)), some (.int (c - c / 10 * 10)), none, none, none, none], [.int 40, .int 1, .int d], (mz_i xs Ln))) rfl ?_
                                refine mz_do (R := mz_r121) (as := [.int d, .int 1, .int 40]) (rest := []) (r1 := some (.int 1)) (m1 := (mz_i xs Ln)) rfl ⟨?_, rfl⟩ ?_
                                · refine mz_go 3 (c' := (if d < 1 then 14 else 5, [some (.int d), some (.int 1), some (.int 40)], [], (mz_i xs Ln))) rfl ?_
                                  refine mz_ifF h5 ?_
                                  refine mz_go 3 (c' := (if 40 < d then 14 else 10, [some (.int d), some (.int 1), some (.int 40)], [], (mz_i xs Ln))) rfl ?_
                                  refine mz_ifF h10 ?_
                                  refine mz_go 2 (c' := (15, [some (.int d), some (.int 1), some (.int 40)], [.int 1], (mz_i xs Ln))) rfl ?_
                                  exact mz_ret rfl
                                refine mz_go 4 (c' := (36, [some (.ref 0), some (.int a), some (.int b), some (.int c), some (.int d), some (.int (c / 10)), some (.int (c - c / 10 * 10)), none, none, none, none], [.int 6, .int 1, .int (c / 10)], (mz_i xs Ln))) rfl ?_
                                refine mz_do (R := mz_r121) (as := [.int (c / 10), .int 1, .int 6]) (rest := []) (r1 := some (.int 1)) (m1 := (mz_i xs Ln)) rfl ⟨?_, rfl⟩ ?_
                                · refine mz_go 3 (c' := (if (c / 10) < 1 then 14 else 5, [some (.int (c / 10)), some (.int 1), some (.int 6)], [], (mz_i xs Ln))) rfl ?_
                                  refine mz_ifF h15 ?_
                                  refine mz_go 3 (c' := (if 6 < (c / 10) then 14 else 10, [some (.int (c / 10)), some (.int 1), some (.int 6)], [], (mz_i xs Ln))) rfl ?_
                                  refine mz_ifF h16 ?_
                                  refine mz_go 2 (c' := (15, [some (.int (c / 10)), some (.int 1), some (.int 6)], [.int 1], (mz_i xs Ln))) rfl ?_
                                  exact mz_ret rfl
                                refine mz_go 4 (c' := (47, [some (.ref 0), some (.int a), some (.int b), some (.int c), some (.int d), some (.int (c / 10)), some (.int (c - c / 10 * 10)), none, none, none, none], [.int 6, .int 1, .int (c - c / 10 * 10)], (mz_i xs Ln))) rfl ?_
                                refine mz_do (R := mz_r121) (as := [.int (c - c / 10 * 10), .int 1, .int 6]) (rest := []) (r1 := some (.int 1)) (m1 := (mz_i xs Ln)) rfl ⟨?_, rfl⟩ ?_
                                · refine mz_go 3 (c' := (if (c - c / 10 * 10) < 1 then 14 else 5, [some (.int (c - c / 10 * 10)), some (.int 1), some (.int 6)], [], (mz_i xs Ln))) rfl ?_
                                  refine mz_ifF h17 ?_
                                  refine mz_go 3 (c' := (if 6 < (c - c / 10 * 10) then 14 else 10, [some (.int (c - c / 10 * 10)), some (.int 1), some (.int 6)], [], (mz_i xs Ln))) rfl ?_
                                  refine mz_ifF h18 ?_
                                  refine mz_go 2 (c' := (15, [some (.int (c - c / 10 * 10)), some (.int 1), some (.int 6)], [.int 1], (mz_i xs Ln))) rfl ?_
                                  exact mz_ret rfl
                                refine mz_go 15 (c' := (71, [some (.ref 0), some (.int a), some (.int b), some (.int c), some (.int d), some (.int (c / 10)), some (.int (c - c / 10 * 10)), none, none, none, none], [.int (b + (((c - c / 10 * 10) - 1) * d)), .int (a + (((c / 10) - 1) * d))], (mz_i xs Ln))) rfl ?_
                                refine mz_do (R := mz_r116) (as := [.int (a + (((c / 10) - 1) * d)), .int (b + (((c - c / 10 * 10) - 1) * d))]) (rest := []) (r1 := some (.int 0)) (m1 := (mz_i xs Ln)) rfl ⟨?_, rfl⟩ ?_
                                · refine mz_go 3 (c' := (5, [some (.int (a + (((c / 10) - 1) * d))), some (.int (b + (((c - c / 10 * 10) - 1) * d)))], [.int 100, .int (-100), .int (a + (((c / 10) - 1) * d))], (mz_i xs Ln))) rfl ?_
                                  refine mz_do (R := mz_r121) (as := [.int (a + (((c / 10) - 1) * d)), .int (-100), .int 100]) (rest := []) (r1 := some (.int 1)) (m1 := (mz_i xs Ln)) rfl ⟨?_, rfl⟩ ?_
                                  · refine mz_go 3 (c' := (if (a + (((c / 10) - 1) * d)) < (-100) then 14 else 5, [some (.int (a + (((c / 10) - 1) * d))), some (.int (-100)), some (.int 100)], [], (mz_i xs Ln))) rfl ?_
                                    refine mz_ifF h19 ?_
                                    refine mz_go 3 (c' := (if 100 < (a + (((c / 10) - 1) * d)) then 14 else 10, [some (.int (a + (((c / 10) - 1) * d))), some (.int (-100)), some (.int 100)], [], (mz_i xs Ln))) rfl ?_
                                    refine mz_ifF h20 ?_
                                    refine mz_go 2 (c' := (15, [some (.int (a + (((c / 10) - 1) * d))), some (.int (-100)), some (.int 100)], [.int 1], (mz_i xs Ln))) rfl ?_
                                    exact mz_ret rfl
                                  refine mz_go 4 (c' := (16, [some (.int (a + (((c / 10) - 1) * d))), some (.int (b + (((c - c / 10 * 10) - 1) * d)))], [.int 100, .int (-100), .int (b + (((c - c / 10 * 10) - 1) * d))], (mz_i xs Ln))) rfl ?_
                                  refine mz_do (R := mz_r121) (as := [.int (b + (((c - c / 10 * 10) - 1) * d)), .int (-100), .int 100]) (rest := []) (r1 := some (.int 0)) (m1 := (mz_i xs Ln)) rfl ⟨?_, rfl⟩ ?_
                                  · refine mz_go 3 (c' := (if (b + (((c - c / 10 * 10) - 1) * d)) < (-100) then 14 else 5, [some (.int (b + (((c - c / 10 * 10) - 1) * d))), some (.int (-100)), some (.int 100)], [], (mz_i xs Ln))) rfl ?_
                                    refine mz_ifF h21 ?_
                                    refine mz_go 3 (c' := (if 100 < (b + (((c - c / 10 * 10) - 1) * d)) then 14 else 10, [some (.int (b + (((c - c / 10 * 10) - 1) * d))), some (.int (-100)), some (.int 100)], [], (mz_i xs Ln))) rfl ?_
                                    refine mz_ifT h22 ?_
                                    refine mz_go 1 (c' := (15, [some (.int (b + (((c - c / 10 * 10) - 1) * d))), some (.int (-100)), some (.int 100)], [.int 0], (mz_i xs Ln))) rfl ?_
                                    exact mz_ret rfl
                                  refine mz_go 2 (c' := (27, [some (.int (a + (((c / 10) - 1) * d))), some (.int (b + (((c - c / 10 * 10) - 1) * d)))], [.int 0], (mz_i xs Ln))) rfl ?_
                                  exact mz_ret rfl
                                refine mz_go 3 (c' := (79, [some (.ref 0), some (.int a), some (.int b), some (.int c), some (.int d), some (.int (c / 10)), some (.int (c - c / 10 * 10)), none, none, none, none], [.int 1, .ref 0], (mz_i xs Ln))) rfl ?_
                                refine mz_do (R := mz_r109) (as := [.ref 0, .int 1]) (rest := []) (r1 := some (.int (-1000001))) (m1 := mz_up (mz_i xs Ln) 64 1 1) rfl ⟨?_, rfl⟩ ?_
                                · refine mz_go 3 (c' := (4, [some (.ref 0), some (.int 1)], [.int 6, .int 1, .int 1], (mz_i xs Ln))) rfl ?_
                                  refine mz_do (R := mz_r121) (as := [.int 1, .int 1, .int 6]) (rest := []) (r1 := some (.int 1)) (m1 := (mz_i xs Ln)) rfl ⟨?_, rfl⟩ ?_
                                  · refine mz_go 8 (c' := (15, [some (.int 1), some (.int 1), some (.int 6)], [.int 1], (mz_i xs Ln))) rfl ?_
                                    exact mz_ret rfl
                                  refine mz_go 12 (c' := (25, [some (.ref 0), some (.int 1)], [.int (-1000001)], mz_up (mz_i xs Ln) 64 1 1)) rfl ?_
                                  exact mz_ret rfl
                                exact mz_ret rfl
                              · refine mz_go 10 (c' := (14, [some (.ref 65), some (.int a), some (.int b), some (.int c), some (.int d), some (.int (c / 10)), some (.int (c - c / 10 * 10)), none, none, none], [.int b, .int a], mz_up (mz_i xs Ln) 64 1 1)) rfl ?_
                                refine mz_do (R := mz_r131) (as := [.int a, .int b]) (rest := []) (r1 := some (.int 1)) (m1 := mz_up (mz_i xs Ln) 64 1 1) rfl ⟨?_, rfl⟩ ?_
                                · refine mz_go 3 (c' := (5, [some (.int a), some (.int b)], [.int 100, .int (-100), .int a], mz_up (mz_i xs Ln) 64 1 1)) rfl ?_
                                  refine mz_do (R := mz_r128) (as := [.int a, .int (-100), .int 100]) (rest := []) (r1 := some (.int 1)) (m1 := mz_up (mz_i xs Ln) 64 1 1) rfl ⟨?_, rfl⟩ ?_
                                  · refine mz_go 3 (c' := (if a < (-100) then 14 else 5, [some (.int a), some (.int (-100)), some (.int 100)], [], mz_up (mz_i xs Ln) 64 1 1)) rfl ?_
                                    refine mz_ifF h1 ?_
                                    refine mz_go 3 (c' := (if 100 < a then 14 else 10, [some (.int a), some (.int (-100)), some (.int 100)], [], mz_up (mz_i xs Ln) 64 1 1)) rfl ?_
                                    refine mz_ifF h2 ?_
                                    refine mz_go 2 (c' := (15, [some (.int a), some (.int (-100)), some (.int 100)], [.int 1], mz_up (mz_i xs Ln) 64 1 1)) rfl ?_
                                    exact mz_ret rfl
                                  refine mz_go 4 (c' := (16, [some (.int a), some (.int b)], [.int 100, .int (-100), .int b], mz_up (mz_i xs Ln) 64 1 1)) rfl ?_
                                  refine mz_do (R := mz_r128) (as := [.int b, .int (-100), .int 100]) (rest := []) (r1 := some (.int 1)) (m1 := mz_up (mz_i xs Ln) 64 1 1) rfl ⟨?_, rfl⟩ ?_
                                  · refine mz_go 3 (c' := (if b < (-100) then 14 else 5, [some (.int b), some (.int (-100)), some (.int 100)], [], mz_up (mz_i xs Ln) 64 1 1)) rfl ?_
                                    refine mz_ifF h3 ?_
                                    refine mz_go 3 (c' := (if 100 < b then 14 else 10, [some (.int b), some (.int (-100)), some (.int 100)], [], mz_up (mz_i xs Ln) 64 1 1)) rfl ?_
                                    refine mz_ifF h4 ?_
                                    refine mz_go 2 (c' := (15, [some (.int b), some (.int (-100)), some (.int 100)], [.int 1], mz_up (mz_i xs Ln) 64 1 1)) rfl ?_
                                    exact mz_ret rfl
                                  refine mz_go 3 (c' := (27, [some (.int a), some (.int b)], [.int 1], mz_up (mz_i xs Ln) 64 1 1)) rfl ?_
                                  exact mz_ret rfl
                                refine mz_go 4 (c' := (25, [some (.ref 65), some (.int a), some (.int b), some (.int c), some (.int d), some (.int (c / 10)), some (.int (c - c / 10 * 10)), none, none, none], [.int 6, .int 1, .int (c / 10)], mz_up (mz_i xs Ln) 64 1 1)) rfl ?_
                                refine mz_do (R := mz_r128) (as := [.int (c / 10), .int 1, .int 6]) (rest := []) (r1 := some (.int 1)) (m1 := mz_up (mz_i xs Ln) 64 1 1) rfl ⟨?_, rfl⟩ ?_
                                · refine mz_go 3 (c' := (if (c / 10) < 1 then 14 else 5, [some (.int (c / 10)), some (.int 1), some (.int 6)], [], mz_up (mz_i xs Ln) 64 1 1)) rfl ?_
                                  refine mz_ifF h15 ?_
                                  refine mz_go 3 (c' := (if 6 < (c / 10) then 14 else 10, [some (.int (c / 10)), some (.int 1), some (.int 6)], [], mz_up (mz_i xs Ln) 64 1 1)) rfl ?_
                                  refine mz_ifF h16 ?_
                                  refine mz_go 2 (c' := (15, [some (.int (c / 10)), some (.int 1), some (.int 6)], [.int 1], mz_up (mz_i xs Ln) 64 1 1)) rfl ?_
                                  exact mz_ret rfl
                                refine mz_go 4 (c' := (36, [some (.ref 65), some (.int a), some (.int b), some (.int c), some (.int d), some (.int (c / 10)), some (.int (c - c / 10 * 10)), none, none, none], [.int 6, .int 1, .int (c - c / 10 * 10)], mz_up (mz_i xs Ln) 64 1 1)) rfl ?_
                                refine mz_do (R := mz_r128) (as := [.int (c - c / 10 * 10), .int 1, .int 6]) (rest := []) (r1 := some (.int 1)) (m1 := mz_up (mz_i xs Ln) 64 1 1) rfl ⟨?_, rfl⟩ ?_
                                · refine mz_go 3 (c' := (if (c - c / 10 * 10) < 1 then 14 else 5, [some (.int (c - c / 10 * 10)), some (.int 1), some (.int 6)], [], mz_up (mz_i xs Ln) 64 1 1)) rfl ?_
                                  refine mz_ifF h17 ?_
                                  refine mz_go 3 (c' := (if 6 < (c - c / 10 * 10) then 14 else 10, [some (.int (c - c / 10 * 10)), some (.int 1), some (.int 6)], [], mz_up (mz_i xs Ln) 64 1 1)) rfl ?_
                                  refine mz_ifF h18 ?_
                                  refine mz_go 2 (c' := (15, [some (.int (c - c / 10 * 10)), some (.int 1), some (.int 6)], [.int 1], mz_up (mz_i xs Ln) 64 1 1)) rfl ?_
                                  exact mz_ret rfl
                                refine mz_go 4 (c' := (47, [some (.ref 65), some (.int a), some (.int b), some (.int c), some (.int d), some (.int (c / 10)), some (.int (c - c / 10 * 10)), none, none, none], [.int 40, .int 1, .int d], mz_up (mz_i xs Ln) 64 1 1)) rfl ?_
                                refine mz_do (R := mz_r128) (as := [.int d, .int 1, .int 40]) (rest := []) (r1 := some (.int 1)) (m1 := mz_up (mz_i xs Ln) 64 1 1) rfl ⟨?_, rfl⟩ ?_
                                · refine mz_go 3 (c' := (if d < 1 then 14 else 5, [some (.int d), some (.int 1), some (.int 40)], [], mz_up (mz_i xs Ln) 64 1 1)) rfl ?_
                                  refine mz_ifF h5 ?_
                                  refine mz_go 3 (c' := (if 40 < d then 14 else 10, [some (.int d), some (.int 1), some (.int 40)], [], mz_up (mz_i xs Ln) 64 1 1)) rfl ?_
                                  refine mz_ifF h10 ?_
                                  refine mz_go 2 (c' := (15, [some (.int d), some (.int 1), some (.int 40)], [.int 1], mz_up (mz_i xs Ln) 64 1 1)) rfl ?_
                                  exact mz_ret rfl
                                refine mz_go 20 (c' := (83, [some (.ref 65), some (.int a), some (.int b), some (.int c), some (.int d), some (.int (c / 10)), some (.int (c - c / 10 * 10)), some (.int 1), none, none], [.int (b + (((c - c / 10 * 10) - 1) * d)), .int (a + (((c / 10) - 1) * d))], mz_up (mz_i xs Ln) 64 1 1)) rfl ?_
                                refine mz_do (R := mz_r131) (as := [.int (a + (((c / 10) - 1) * d)), .int (b + (((c - c / 10 * 10) - 1) * d))]) (rest := []) (r1 := some (.int 0)) (m1 := mz_up (mz_i xs Ln) 64 1 1) rfl ⟨?_, rfl⟩ ?_
                                · refine mz_go 3 (c' := (5, [some (.int (a + (((c / 10) - 1) * d))), some (.int (b + (((c - c / 10 * 10) - 1) * d)))], [.int 100, .int (-100), .int (a + (((c / 10) - 1) * d))], mz_up (mz_i xs Ln) 64 1 1)) rfl ?_
                                  refine mz_do (R := mz_r128) (as := [.int (a + (((c / 10) - 1) * d)), .int (-100), .int 100]) (rest := []) (r1 := some (.int 1)) (m1 := mz_up (mz_i xs Ln) 64 1 1) rfl ⟨?_, rfl⟩ ?_
                                  · refine mz_go 3 (c' := (if (a + (((c / 10) - 1) * d)) < (-100) then 14 else 5, [some (.int (a + (((c / 10) - 1) * d))), some (.int (-100)), some (.int 100)], [], mz_up (mz_i xs Ln) 64 1 1)) rfl ?_
                                    refine mz_ifF h19 ?_
                                    refine mz_go 3 (c' := (if 100 < (a + (((c / 10) - 1) * d)) then 14 else 10, [some (.int (a + (((c / 10) - 1) * d))), some (.int (-100)), some (.int 100)], [], mz_up (mz_i xs Ln) 64 1 1)) rfl ?_
                                    refine mz_ifF h20 ?_
                                    refine mz_go 2 (c' := (15, [some (.int (a + (((c / 10) - 1) * d))), some (.int (-100)), some (.int 100)], [.int 1], mz_up (mz_i xs Ln) 64 1 1)) rfl ?_
                                    exact mz_ret rfl
                                  refine mz_go 4 (c' := (16, [some (.int (a + (((c / 10) - 1) * d))), some (.int (b + (((c - c / 10 * 10) - 1) * d)))], [.int 100, .int (-100), .int (b + (((c - c / 10 * 10) - 1) * d))], mz_up (mz_i xs Ln) 64 1 1)) rfl ?_
                                  refine mz_do (R := mz_r128) (as := [.int (b + (((c - c / 10 * 10) - 1) * d)), .int (-100), .int 100]) (rest := []) (r1 := some (.int 0)) (m1 := mz_up (mz_i xs Ln) 64 1 1) rfl ⟨?_, rfl⟩ ?_
                                  · refine mz_go 3 (c' := (if (b + (((c - c / 10 * 10) - 1) * d)) < (-100) then 14 else 5, [some (.int (b + (((c - c / 10 * 10) - 1) * d))), some (.int (-100)), some (.int 100)], [], mz_up (mz_i xs Ln) 64 1 1)) rfl ?_
                                    refine mz_ifF h21 ?_
                                    refine mz_go 3 (c' := (if 100 < (b + (((c - c / 10 * 10) - 1) * d)) then 14 else 10, [some (.int (b + (((c - c / 10 * 10) - 1) * d))), some (.int (-100)), some (.int 100)], [], mz_up (mz_i xs Ln) 64 1 1)) rfl ?_
                                    refine mz_ifT h22 ?_
                                    refine mz_go 1 (c' := (15, [some (.int (b + (((c - c / 10 * 10) - 1) * d))), some (.int (-100)), some (.int 100)], [.int 0], mz_up (mz_i xs Ln) 64 1 1)) rfl ?_
                                    exact mz_ret rfl
                                  refine mz_go 2 (c' := (27, [some (.int (a + (((c / 10) - 1) * d))), some (.int (b + (((c - c / 10 * 10) - 1) * d)))], [.int 0], mz_up (mz_i xs Ln) 64 1 1)) rfl ?_
                                  exact mz_ret rfl
                                refine mz_go 3 (c' := (91, [some (.ref 65), some (.int a), some (.int b), some (.int c), some (.int d), some (.int (c / 10)), some (.int (c - c / 10 * 10)), some (.int 1), none, none], [.int 1, .ref 65], mz_up (mz_i xs Ln) 64 1 1)) rfl ?_
                                refine mz_do (R := mz_r127) (as := [.ref 65, .int 1]) (rest := []) (r1 := some (.int (-1000001))) (m1 := mz_up (mz_up (mz_i xs Ln) 64 1 1) 68 1 1) rfl ⟨?_, rfl⟩ ?_
                                · refine mz_go 11 (c' := (14, [some (.ref 65), some (.int 1)], [.int (-1000001)], mz_up (mz_up (mz_i xs Ln) 64 1 1) 68 1 1)) rfl ?_
                                  exact mz_ret rfl
                                exact mz_ret rfl
                            · obtain ⟨mm1, mw1, ms1⟩ := cz_pictured a b c d (c / 10) (c - c / 10 * 10) h15 h16 h17 h18 (mz_up (mz_up (mz_up (mz_up (mz_up (mz_i xs Ln) 20 0 a) 20 1 b) 20 2 (c / 10)) 20 3 (c - c / 10 * 10)) 20 4 d) rfl rfl rfl
                              rw [← zf_eq mw1] at ms1
                              obtain ⟨mm2, ms2⟩ := rz_pictured a b c d (c / 10) (c - c / 10 * 10) h15 h16 h17 h18 1 (mz_up (mz_up (mz_up (mz_up (mz_up (mz_z mm1) 66 60 (c / 10)) 66 61 (c - c / 10 * 10)) 66 62 a) 66 63 b) 66 64 d) rfl
                              refine ⟨1, (mz_z mm1), mm2, ⟨?_, rfl⟩, ⟨?_, rfl⟩⟩
                              · refine mz_go 10 (c' := (14, [some (.ref 0), some (.int a), some (.int b), some (.int c), some (.int d), some (.int (c / 10)), some (.int (c - c / 10 * 10)), none, none, none, none], [.int b, .int a], (mz_i xs Ln))) rfl ?_
                                refine mz_do (R := mz_r116) (as := [.int a, .int b]) (rest := []) (r1 := some (.int 1)) (m1 := (mz_i xs Ln)) rfl ⟨?_, rfl⟩ ?_
                                · refine mz_go 3 (c' := (5, [some (.int a), some (.int b)], [.int 100, .int (-100), .int a], (mz_i xs Ln))) rfl ?_
                                  refine mz_do (R := mz_r121) (as := [.int a, .int (-100), .int 100]) (rest := []) (r1 := some (.int 1)) (m1 := (mz_i xs Ln)) rfl ⟨?_, rfl⟩ ?_
                                  · refine mz_go 3 (c' := (if a < (-100) then 14 else 5, [some (.int a), some (.int (-100)), some (.int 100)], [], (mz_i xs Ln))) rfl ?_
                                    refine mz_ifF h1 ?_
                                    refine mz_go 3 (c' := (if 100 < a then 14 else 10, [some (.int a), some (.int (-100)), some (.int 100)], [], (mz_i xs Ln))) rfl ?_
                                    refine mz_ifF h2 ?_
                                    refine mz_go 2 (c' := (15, [some (.int a), some (.int (-100)), some (.int 100)], [.int 1], (mz_i xs Ln))) rfl ?_
                                    exact mz_ret rfl
                                  refine mz_go 4 (c' := (16, [some (.int a), some (.int b)], [.int 100, .int (-100), .int b], (mz_i xs Ln))) rfl ?_
                                  refine mz_do (R := mz_r121) (as := [.int b, .int (-100), .int 100]) (rest := []) (r1 := some (.int 1)) (m1 := (mz_i xs Ln)) rfl ⟨?_, rfl⟩ ?_
                                  · refine mz_go 3 (c' := (if b < (-100) then 14 else 5, [some (.int b), some (.int (-100)), some (.int 100)], [], (mz_i xs Ln))) rfl ?_
                                    refine mz_ifF h3 ?_
                                    refine mz_go 3 (c' := (if 100 < b then 14 else 10, [some (.int b), some (.int (-100)), some (.int 100)], [], (mz_i xs Ln))) rfl ?_
                                    refine mz_ifF h4 ?_
                                    refine mz_go 2 (c' := (15, [some (.int b), some (.int (-100)), some (.int 100)], [.int 1], (mz_i xs Ln))) rfl ?_
                                    exact mz_ret rfl
                                  refine mz_go 3 (c' := (27, [some (.int a), some (.int b)], [.int 1], (mz_i xs Ln))) rfl ?_
                                  exact mz_ret rfl
                                refine mz_go 4 (c' := (25, [some (.ref 0), some (.int a), some (.int b), some (.int c), some (.int d), some (.int (c / 10)), some (.int (c - c / 10 * 10)), none, none, none, none], [.int 40, .int 1, .int d], (mz_i xs Ln))) rfl ?_
                                refine mz_do (R := mz_r121) (as := [.int d, .int 1, .int 40]) (rest := []) (r1 := some (.int 1)) (m1 := (mz_i xs Ln)) rfl ⟨?_, rfl⟩ ?_
                                · refine mz_go 3 (c' := (if d < 1 then 14 else 5, [some (.int d), some (.int 1), some (.int 40)], [], (mz_i xs Ln))) rfl ?_
                                  refine mz_ifF h5 ?_
                                  refine mz_go 3 (c' := (if 40 < d then 14 else 10, [some (.int d), some (.int 1), some (.int 40)], [], (mz_i xs Ln))) rfl ?_
                                  refine mz_ifF h10 ?_
                                  refine mz_go 2 (c' := (15, [some (.int d), some (.int 1), some (.int 40)], [.int 1], (mz_i xs Ln))) rfl ?_
                                  exact mz_ret rfl
                                refine mz_go 4 (c' := (36, [some (.ref 0), some (.int a), some (.int b), some (.int c), some (.int d), some (.int (c / 10)), some (.int (c - c / 10 * 10)), none, none, none, none], [.int 6, .int 1, .int (c / 10)], (mz_i xs Ln))) rfl ?_
                                refine mz_do (R := mz_r121) (as := [.int (c / 10), .int 1, .int 6]) (rest := []) (r1 := some (.int 1)) (m1 := (mz_i xs Ln)) rfl ⟨?_, rfl⟩ ?_
                                · refine mz_go 3 (c' := (if (c / 10) < 1 then 14 else 5, [some (.int (c / 10)), some (.int 1), some (.int 6)], [], (mz_i xs Ln))) rfl ?_
                                  refine mz_ifF h15 ?_
                                  refine mz_go 3 (c' := (if 6 < (c / 10) then 14 else 10, [some (.int (c / 10)), some (.int 1), some (.int 6)], [], (mz_i xs Ln))) rfl ?_
                                  refine mz_ifF h16 ?_
                                  refine mz_go 2 (c' := (15, [some (.int (c / 10)), some (.int 1), some (.int 6)], [.int 1], (mz_i xs Ln))) rfl ?_
                                  exact mz_ret rfl
                                refine mz_go 4 (c' := (47, [some (.ref 0), some (.int a), some (.int b), some (.int c), some (.int d), some (.int (c / 10)), some (.int (c - c / 10 * 10)), none, none, none, none], [.int 6, .int 1, .int (c - c / 10 * 10)], (mz_i xs Ln))) rfl ?_
                                refine mz_do (R := mz_r121) (as := [.int (c - c / 10 * 10), .int 1, .int 6]) (rest := []) (r1 := some (.int 1)) (m1 := (mz_i xs Ln)) rfl ⟨?_, rfl⟩ ?_
                                · refine mz_go 3 (c' := (if (c - c / 10 * 10) < 1 then 14 else 5, [some (.int (c - c / 10 * 10)), some (.int 1), some (.int 6)], [], (mz_i xs Ln))) rfl ?_
                                  refine mz_ifF h17 ?_
                                  refine mz_go 3 (c' := (if 6 < (c - c / 10 * 10) then 14 else 10, [some (.int (c - c / 10 * 10)), some (.int 1), some (.int 6)], [], (mz_i xs Ln))) rfl ?_
                                  refine mz_ifF h18 ?_
                                  refine mz_go 2 (c' := (15, [some (.int (c - c / 10 * 10)), some (.int 1), some (.int 6)], [.int 1], (mz_i xs Ln))) rfl ?_
                                  exact mz_ret rfl
                                refine mz_go 15 (c' := (71, [some (.ref 0), some (.int a), some (.int b), some (.int c), some (.int d), some (.int (c / 10)), some (.int (c - c / 10 * 10)), none, none, none, none], [.int (b + (((c - c / 10 * 10) - 1) * d)), .int (a + (((c / 10) - 1) * d))], (mz_i xs Ln))) rfl ?_
                                refine mz_do (R := mz_r116) (as := [.int (a + (((c / 10) - 1) * d)), .int (b + (((c - c / 10 * 10) - 1) * d))]) (rest := []) (r1 := some (.int 1)) (m1 := (mz_i xs Ln)) rfl ⟨?_, rfl⟩ ?_
                                · refine mz_go 3 (c' := (5, [some (.int (a + (((c / 10) - 1) * d))), some (.int (b + (((c - c / 10 * 10) - 1) * d)))], [.int 100, .int (-100), .int (a + (((c / 10) - 1) * d))], (mz_i xs Ln))) rfl ?_
                                  refine mz_do (R := mz_r121) (as := [.int (a + (((c / 10) - 1) * d)), .int (-100), .int 100]) (rest := []) (r1 := some (.int 1)) (m1 := (mz_i xs Ln)) rfl ⟨?_, rfl⟩ ?_
                                  · refine mz_go 3 (c' := (if (a + (((c / 10) - 1) * d)) < (-100) then 14 else 5, [some (.int (a + (((c / 10) - 1) * d))), some (.int (-100)), some (.int 100)], [], (mz_i xs Ln))) rfl ?_
                                    refine mz_ifF h19 ?_
                                    refine mz_go 3 (c' := (if 100 < (a + (((c / 10) - 1) * d)) then 14 else 10, [some (.int (a + (((c / 10) - 1) * d))), some (.int (-100)), some (.int 100)], [], (mz_i xs Ln))) rfl ?_
                                    refine mz_ifF h20 ?_
                                    refine mz_go 2 (c' := (15, [some (.int (a + (((c / 10) - 1) * d))), some (.int (-100)), some (.int 100)], [.int 1], (mz_i xs Ln))) rfl ?_
                                    exact mz_ret rfl
                                  refine mz_go 4 (c' := (16, [some (.int (a + (((c / 10) - 1) * d))), some (.int (b + (((c - c / 10 * 10) - 1) * d)))], [.int 100, .int (-100), .int (b + (((c - c / 10 * 10) - 1) * d))], (mz_i xs Ln))) rfl ?_
                                  refine mz_do (R := mz_r121) (as := [.int (b + (((c - c / 10 * 10) - 1) * d)), .int (-100), .int 100]) (rest := []) (r1 := some (.int 1)) (m1 := (mz_i xs Ln)) rfl ⟨?_, rfl⟩ ?_
                                  · refine mz_go 3 (c' := (if (b + (((c - c / 10 * 10) - 1) * d)) < (-100) then 14 else 5, [some (.int (b + (((c - c / 10 * 10) - 1) * d))), some (.int (-100)), some (.int 100)], [], (mz_i xs Ln))) rfl ?_
                                    refine mz_ifF h21 ?_
                                    refine mz_go 3 (c' := (if 100 < (b + (((c - c / 10 * 10) - 1) * d)) then 14 else 10, [some (.int (b + (((c - c / 10 * 10) - 1) * d))), some (.int (-100)), some (.int 100)], [], (mz_i xs Ln))) rfl ?_
                                    refine mz_ifF h22 ?_
                                    refine mz_go 2 (c' := (15, [some (.int (b + (((c - c / 10 * 10) - 1) * d))), some (.int (-100)), some (.int 100)], [.int 1], (mz_i xs Ln))) rfl ?_
                                    exact mz_ret rfl
                                  refine mz_go 3 (c' := (27, [some (.int (a + (((c / 10) - 1) * d))), some (.int (b + (((c - c / 10 * 10) - 1) * d)))], [.int 1], (mz_i xs Ln))) rfl ?_
                                  exact mz_ret rfl
                                refine mz_go 11 (c' := (102, [some (.ref 0), some (.int a), some (.int b), some (.int c), some (.int d), some (.int (c / 10)), some (.int (c - c / 10 * 10)), some (.ref 20), none, none, none], [.int d, .int (c - c / 10 * 10), .int (c / 10), .int b, .int a, .ref 20], (mz_i xs Ln))) rfl ?_
                                refine mz_do (R := mz_r5) (as := [.ref 20, .int a, .int b, .int (c / 10), .int (c - c / 10 * 10), .int d]) (rest := []) (r1 := none) (m1 := mz_up (mz_up (mz_up (mz_up (mz_up (mz_i xs Ln) 20 0 a) 20 1 b) 20 2 (c / 10)) 20 3 (c - c / 10 * 10)) 20 4 d) rfl ⟨?_, rfl⟩ ?_
                                · refine mz_go 15 (c' := (27, [some (.ref 20), some (.int a), some (.int b), some (.int (c / 10)), some (.int (c - c / 10 * 10)), some (.int d)], [], mz_up (mz_up (mz_up (mz_up (mz_up (mz_i xs Ln) 20 0 a) 20 1 b) 20 2 (c / 10)) 20 3 (c - c / 10 * 10)) 20 4 d)) rfl ?_
                                  exact mz_ret rfl
                                refine mz_go 2 (c' := (108, [some (.ref 0), some (.int a), some (.int b), some (.int c), some (.int d), some (.int (c / 10)), some (.int (c - c / 10 * 10)), some (.ref 20), some (.int 0), none, none], [], mz_up (mz_up (mz_up (mz_up (mz_up (mz_i xs Ln) 20 0 a) 20 1 b) 20 2 (c / 10)) 20 3 (c - c / 10 * 10)) 20 4 d)) rfl ?_
                                exact (mz_Ex.deep ms1 (by decide))
                              · refine mz_go 10 (c' := (14, [some (.ref 65), some (.int a), some (.int b), some (.int c), some (.int d), some (.int (c / 10)), some (.int (c - c / 10 * 10)), none, none, none], [.int b, .int a], (mz_z mm1))) rfl ?_
                                refine mz_do (R := mz_r131) (as := [.int a, .int b]) (rest := []) (r1 := some (.int 1)) (m1 := (mz_z mm1)) rfl ⟨?_, rfl⟩ ?_
                                · refine mz_go 3 (c' := (5, [some (.int a), some (.int b)], [.int 100, .int (-100), .int a], (mz_z mm1))) rfl ?_
                                  refine mz_do (R := mz_r128) (as := [.int a, .int (-100), .int 100]) (rest := []) (r1 := some (.int 1)) (m1 := (mz_z mm1)) rfl ⟨?_, rfl⟩ ?_
                                  · refine mz_go 3 (c' := (if a < (-100) then 14 else 5, [some (.int a), some (.int (-100)), some (.int 100)], [], (mz_z mm1))) rfl ?_
                                    refine mz_ifF h1 ?_
                                    refine mz_go 3 (c' := (if 100 < a then 14 else 10, [some (.int a), some (.int (-100)), some (.int 100)], [], (mz_z mm1))) rfl ?_
                                    refine mz_ifF h2 ?_
                                    refine mz_go 2 (c' := (15, [some (.int a), some (.int (-100)), some (.int 100)], [.int 1], (mz_z mm1))) rfl ?_
                                    exact mz_ret rfl
                                  refine mz_go 4 (c' := (16, [some (.int a), some (.int b)], [.int 100, .int (-100), .int b], (mz_z mm1))) rfl ?_
                                  refine mz_do (R := mz_r128) (as := [.int b, .int (-100), .int 100]) (rest := []) (r1 := some (.int 1)) (m1 := (mz_z mm1)) rfl ⟨?_, rfl⟩ ?_
                                  · refine mz_go 3 (c' := (if b < (-100) then 14 else 5, [some (.int b), some (.int (-100)), some (.int 100)], [], (mz_z mm1))) rfl ?_
                                    refine mz_ifF h3 ?_
                                    refine mz_go 3 (c' := (if 100 < b then 14 else 10, [some (.int b), some (.int (-100)), some (.int 100)], [], (mz_z mm1))) rfl ?_
                                    refine mz_ifF h4 ?_
                                    refine mz_go 2 (c' := (15, [some (.int b), some (.int (-100)), some (.int 100)], [.int 1], (mz_z mm1))) rfl ?_
                                    exact mz_ret rfl
                                  refine mz_go 3 (c' := (27, [some (.int a), some (.int b)], [.int 1], (mz_z mm1))) rfl ?_
                                  exact mz_ret rfl
                                refine mz_go 4 (c' := (25, [some (.ref 65), some (.int a), some (.int b), some (.int c), some (.int d), some (.int (c / 10)), some (.int (c - c / 10 * 10)), none, none, none], [.int 6, .int 1, .int (c / 10)], (mz_z mm1))) rfl ?_
                                refine mz_do (R := mz_r128) (as := [.int (c / 10), .int 1, .int 6]) (rest := []) (r1 := some (.int 1)) (m1 := (mz_z mm1)) rfl ⟨?_, rfl⟩ ?_
                                · refine mz_go 3 (c' := (if (c / 10) < 1 then 14 else 5, [some (.int (c / 10)), some (.int 1), some (.int 6)], [], (mz_z mm1))) rfl ?_
                                  refine mz_ifF h15 ?_
                                  refine mz_go 3 (c' := (if 6 < (c / 10) then 14 else 10, [some (.int (c / 10)), some (.int 1), some (.int 6)], [], (mz_z mm1))) rfl ?_
                                  refine mz_ifF h16 ?_
                                  refine mz_go 2 (c' := (15, [some (.int (c / 10)), some (.int 1), some (.int 6)], [.int 1], (mz_z mm1))) rfl ?_
                                  exact mz_ret rfl
                                refine mz_go 4 (c' := (36, [some (.ref 65), some (.int a), some (.int b), some (.int c), some (.int d), some (.int (c / 10)), some (.int (c - c / 10 * 10)), none, none, none], [.int 6, .int 1, .int (c - c / 10 * 10)], (mz_z mm1))) rfl ?_
                                refine mz_do (R := mz_r128) (as := [.int (c - c / 10 * 10), .int 1, .int 6]) (rest := []) (r1 := some (.int 1)) (m1 := (mz_z mm1)) rfl ⟨?_, rfl⟩ ?_
                                · refine mz_go 3 (c' := (if (c - c / 10 * 10) < 1 then 14 else 5, [some (.int (c - c / 10 * 10)), some (.int 1), some (.int 6)], [], (mz_z mm1))) rfl ?_
                                  refine mz_ifF h17 ?_
                                  refine mz_go 3 (c' := (if 6 < (c - c / 10 * 10) then 14 else 10, [some (.int (c - c / 10 * 10)), some (.int 1), some (.int 6)], [], (mz_z mm1))) rfl ?_
                                  refine mz_ifF h18 ?_
                                  refine mz_go 2 (c' := (15, [some (.int (c - c / 10 * 10)), some (.int 1), some (.int 6)], [.int 1], (mz_z mm1))) rfl ?_
                                  exact mz_ret rfl
                                refine mz_go 4 (c' := (47, [some (.ref 65), some (.int a), some (.int b), some (.int c), some (.int d), some (.int (c / 10)), some (.int (c - c / 10 * 10)), none, none, none], [.int 40, .int 1, .int d], (mz_z mm1))) rfl ?_
                                refine mz_do (R := mz_r128) (as := [.int d, .int 1, .int 40]) (rest := []) (r1 := some (.int 1)) (m1 := (mz_z mm1)) rfl ⟨?_, rfl⟩ ?_
                                · refine mz_go 3 (c' := (if d < 1 then 14 else 5, [some (.int d), some (.int 1), some (.int 40)], [], (mz_z mm1))) rfl ?_
                                  refine mz_ifF h5 ?_
                                  refine mz_go 3 (c' := (if 40 < d then 14 else 10, [some (.int d), some (.int 1), some (.int 40)], [], (mz_z mm1))) rfl ?_
                                  refine mz_ifF h10 ?_
                                  refine mz_go 2 (c' := (15, [some (.int d), some (.int 1), some (.int 40)], [.int 1], (mz_z mm1))) rfl ?_
                                  exact mz_ret rfl
                                refine mz_go 20 (c' := (83, [some (.ref 65), some (.int a), some (.int b), some (.int c), some (.int d), some (.int (c / 10)), some (.int (c - c / 10 * 10)), some (.int 1), none, none], [.int (b + (((c - c / 10 * 10) - 1) * d)), .int (a + (((c / 10) - 1) * d))], (mz_z mm1))) rfl ?_
                                refine mz_do (R := mz_r131) (as := [.int (a + (((c / 10) - 1) * d)), .int (b + (((c - c / 10 * 10) - 1) * d))]) (rest := []) (r1 := some (.int 1)) (m1 := (mz_z mm1)) rfl ⟨?_, rfl⟩ ?_
                                · refine mz_go 3 (c' := (5, [some (.int (a + (((c / 10) - 1) * d))), some (.int (b + (((c - c / 10 * 10) - 1) * d)))], [.int 100, .int (-100), .int (a + (((c / 10) - 1) * d))], (mz_z mm1))) rfl ?_
                                  refine mz_do (R := mz_r128) (as := [.int (a + (((c / 10) - 1) * d)), .int (-100), .int 100]) (rest := []) (r1 := some (.int 1)) (m1 := (mz_z mm1)) rfl ⟨?_, rfl⟩ ?_
                                  · refine mz_go 3 (c' := (if (a + (((c / 10) - 1) * d)) < (-100) then 14 else 5, [some (.int (a + (((c / 10) - 1) * d))), some (.int (-100)), some (.int 100)], [], (mz_z mm1))) rfl ?_
                                    refine mz_ifF h19 ?_
                                    refine mz_go 3 (c' := (if 100 < (a + (((c / 10) - 1) * d)) then 14 else 10, [some (.int (a + (((c / 10) - 1) * d))), some (.int (-100)), some (.int 100)], [], (mz_z mm1))) rfl ?_
                                    refine mz_ifF h20 ?_
                                    refine mz_go 2 (c' := (15, [some (.int (a + (((c / 10) - 1) * d))), some (.int (-100)), some (.int 100)], [.int 1], (mz_z mm1))) rfl ?_
                                    exact mz_ret rfl
                                  refine mz_go 4 (c' := (16, [some (.int (a + (((c / 10) - 1) * d))), some (.int (b + (((c - c / 10 * 10) - 1) * d)))], [.int 100, .int (-100), .int (b + (((c - c / 10 * 10) - 1) * d))], (mz_z mm1))) rfl ?_
                                  refine mz_do (R := mz_r128) (as := [.int (b + (((c - c / 10 * 10) - 1) * d)), .int (-100), .int 100]) (rest := []) (r1 := some (.int 1)) (m1 := (mz_z mm1)) rfl ⟨?_, rfl⟩ ?_
                                  · refine mz_go 3 (c' := (if (b + (((c - c / 10 * 10) - 1) * d)) < (-100) then 14 else 5, [some (.int (b + (((c - c / 10 * 10) - 1) * d))), some (.int (-100)), some (.int 100)], [], (mz_z mm1))) rfl ?_
                                    refine mz_ifF h21 ?_
                                    refine mz_go 3 (c' := (if 100 < (b + (((c - c / 10 * 10) - 1) * d)) then 14 else 10, [some (.int (b + (((c - c / 10 * 10) - 1) * d))), some (.int (-100)), some (.int 100)], [], (mz_z mm1))) rfl ?_
                                    refine mz_ifF h22 ?_
                                    refine mz_go 2 (c' := (15, [some (.int (b + (((c - c / 10 * 10) - 1) * d))), some (.int (-100)), some (.int 100)], [.int 1], (mz_z mm1))) rfl ?_
                                    exact mz_ret rfl
                                  refine mz_go 3 (c' := (27, [some (.int (a + (((c / 10) - 1) * d))), some (.int (b + (((c - c / 10 * 10) - 1) * d)))], [.int 1], (mz_z mm1))) rfl ?_
                                  exact mz_ret rfl
                                refine mz_go 24 (c' := (135, [some (.ref 65), some (.int a), some (.int b), some (.int c), some (.int d), some (.int (c / 10)), some (.int (c - c / 10 * 10)), some (.int 1), none, none], [.int 64, .ref 66], mz_up (mz_up (mz_up (mz_up (mz_z mm1) 66 60 (c / 10)) 66 61 (c - c / 10 * 10)) 66 62 a) 66 63 b)) rfl ?_
                                refine mz_go 4 (c' := (141, [some (.ref 65), some (.int a), some (.int b), some (.int c), some (.int d), some (.int (c / 10)), some (.int (c - c / 10 * 10)), some (.int 1), some (.int 0), none], [], mz_up (mz_up (mz_up (mz_up (mz_up (mz_z mm1) 66 60 (c / 10)) 66 61 (c - c / 10 * 10)) 66 62 a) 66 63 b) 66 64 d)) rfl ?_
                                exact (mz_Ex.deep ms2 (by decide))
