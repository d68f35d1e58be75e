set_option maxHeartbeats 4000000 in
set_option maxRecDepth 100000 in
theorem p1_takeOff (xs : Nat → Int32) (Ln : Nat)  : ∃ v m1 m2, mz_Me 100 mz_r71 [.ref 0] (mz_i xs Ln) (some (.int v)) m1 ∧ mz_Me 100 mz_r141 [.ref 65] m1 (some (.int v)) m2 := by
  refine ⟨(-1000002), mz_up (mz_i xs Ln) 64 2 1, mz_up (mz_up (mz_i xs Ln) 64 2 1) 68 2 1, ⟨?_, rfl⟩, ⟨?_, rfl⟩⟩
  · refine mz_go 7 (c' := (15, [some (.ref 0)], [.int 2, .ref 0], (mz_i xs Ln))) rfl ?_
    refine mz_do (R := mz_r109) (as := [.ref 0, .int 2]) (rest := []) (r1 := some (.int (-1000002))) (m1 := mz_up (mz_i xs Ln) 64 2 1) rfl ⟨?_, rfl⟩ ?_
    · refine mz_go 3 (c' := (4, [some (.ref 0), some (.int 2)], [.int 6, .int 1, .int 2], (mz_i xs Ln))) rfl ?_
      refine mz_do (R := mz_r121) (as := [.int 2, .int 1, .int 6]) (rest := []) (r1 := some (.int 1)) (m1 := (mz_i xs Ln)) rfl ⟨?_, rfl⟩ ?_
      · refine mz_go 8 (c' := (15, [some (.int 2), some (.int 1), some (.int 6)], [.int 1], (mz_i xs Ln))) rfl ?_
        exact mz_ret rfl
      refine mz_go 12 (c' := (25, [some (.ref 0), some (.int 2)], [.int (-1000002)], mz_up (mz_i xs Ln) 64 2 1)) rfl ?_
      exact mz_ret rfl
    exact mz_ret rfl
  · refine mz_go 7 (c' := (11, [some (.ref 65)], [.int 2, .ref 65], mz_up (mz_i xs Ln) 64 2 1)) rfl ?_
    refine mz_do (R := mz_r127) (as := [.ref 65, .int 2]) (rest := []) (r1 := some (.int (-1000002))) (m1 := mz_up (mz_up (mz_i xs Ln) 64 2 1) 68 2 1) rfl ⟨?_, rfl⟩ ?_
    · refine mz_go 11 (c' := (14, [some (.ref 65), some (.int 2)], [.int (-1000002)], mz_up (mz_up (mz_i xs Ln) 64 2 1) 68 2 1)) rfl ?_
      exact mz_ret rfl
    exact mz_ret rfl
set_option maxHeartbeats 4000000 in
set_option maxRecDepth 100000 in
theorem p1_let (xs : Nat → Int32) (Ln : Nat) (a : Int32) (b : Int32) : ∃ v m1 m2, mz_Me 100 mz_r77 [.ref 0, .int a, .int b] (mz_i xs Ln) (some (.int v)) m1 ∧ mz_Me 100 mz_r174 [.ref 65, .int a, .int b] m1 (some (.int v)) m2 := by
  by_cases h1 : a < (-100)
  · refine ⟨(-1000001), mz_up (mz_i xs Ln) 64 1 1, mz_up (mz_up (mz_i xs Ln) 64 1 1) 68 1 1, ⟨?_, rfl⟩, ⟨?_, rfl⟩⟩
    · refine mz_go 2 (c' := (2, [some (.ref 0), some (.int a), some (.int b)], [.int b, .int a], (mz_i xs Ln))) rfl ?_
      refine mz_do (R := mz_r116) (as := [.int a, .int b]) (rest := []) (r1 := some (.int 0)) (m1 := (mz_i xs Ln)) rfl ⟨?_, rfl⟩ ?_
      · refine mz_go 3 (c' := (5, [some (.int a), some (.int b)], [.int 100, .int (-100), .int a], (mz_i xs Ln))) rfl ?_
        refine mz_do (R := mz_r121) (as := [.int a, .int (-100), .int 100]) (rest := []) (r1 := some (.int 0)) (m1 := (mz_i xs Ln)) rfl ⟨?_, rfl⟩ ?_
        · refine mz_go 3 (c' := (if a < (-100) then 14 else 5, [some (.int a), some (.int (-100)), some (.int 100)], [], (mz_i xs Ln))) rfl ?_
          refine mz_ifT h1 ?_
          refine mz_go 1 (c' := (15, [some (.int a), some (.int (-100)), some (.int 100)], [.int 0], (mz_i xs Ln))) rfl ?_
          exact mz_ret rfl
        refine mz_go 2 (c' := (27, [some (.int a), some (.int b)], [.int 0], (mz_i xs Ln))) rfl ?_
        exact mz_ret rfl
      refine mz_go 3 (c' := (10, [some (.ref 0), some (.int a), some (.int b)], [.int 1, .ref 0], (mz_i xs Ln))) rfl ?_
      refine mz_do (R := mz_r109) (as := [.ref 0, .int 1]) (rest := []) (r1 := some (.int (-1000001))) (m1 := mz_up (mz_i xs Ln) 64 1 1) rfl ⟨?_, rfl⟩ ?_
      · refine mz_go 3 (c' := (4, [some (.ref 0), some (.int 1)], [.int 6, .int 1, .int 1], (mz_i xs Ln))) rfl ?_
        refine mz_do (R := mz_r121) (as := [.int 1, .int 1, .int 6]) (rest := []) (r1 := some (.int 1)) (m1 := (mz_i xs Ln)) rfl ⟨?_, rfl⟩ ?_
        · refine mz_go 8 (c' := (15, [some (.int 1), some (.int 1), some (.int 6)], [.int 1], (mz_i xs Ln))) rfl ?_
          exact mz_ret rfl
        refine mz_go 12 (c' := (25, [some (.ref 0), some (.int 1)], [.int (-1000001)], mz_up (mz_i xs Ln) 64 1 1)) rfl ?_
        exact mz_ret rfl
      exact mz_ret rfl
    · refine mz_go 2 (c' := (2, [some (.ref 65), some (.int a), some (.int b)], [.int b, .int a], mz_up (mz_i xs Ln) 64 1 1)) rfl ?_
      refine mz_do (R := mz_r131) (as := [.int a, .int b]) (rest := []) (r1 := some (.int 0)) (m1 := mz_up (mz_i xs Ln) 64 1 1) rfl ⟨?_, rfl⟩ ?_
      · refine mz_go 3 (c' := (5, [some (.int a), some (.int b)], [.int 100, .int (-100), .int a], mz_up (mz_i xs Ln) 64 1 1)) rfl ?_
        refine mz_do (R := mz_r128) (as := [.int a, .int (-100), .int 100]) (rest := []) (r1 := some (.int 0)) (m1 := mz_up (mz_i xs Ln) 64 1 1) rfl ⟨?_, rfl⟩ ?_
        · refine mz_go 3 (c' := (if a < (-100) then 14 else 5, [some (.int a), some (.int (-100)), some (.int 100)], [], mz_up (mz_i xs Ln) 64 1 1)) rfl ?_
          refine mz_ifT h1 ?_
          refine mz_go 1 (c' := (15, [some (.int a), some (.int (-100)), some (.int 100)], [.int 0], mz_up (mz_i xs Ln) 64 1 1)) rfl ?_
          exact mz_ret rfl
        refine mz_go 2 (c' := (27, [some (.int a), some (.int b)], [.int 0], mz_up (mz_i xs Ln) 64 1 1)) rfl ?_
        exact mz_ret rfl
      refine mz_go 3 (c' := (10, [some (.ref 65), some (.int a), some (.int b)], [.int 1, .ref 65], mz_up (mz_i xs Ln) 64 1 1)) rfl ?_
      refine mz_do (R := mz_r127) (as := [.ref 65, .int 1]) (rest := []) (r1 := some (.int (-1000001))) (m1 := mz_up (mz_up (mz_i xs Ln) 64 1 1) 68 1 1) rfl ⟨?_, rfl⟩ ?_
      · refine mz_go 11 (c' := (14, [some (.ref 65), some (.int 1)], [.int (-1000001)], mz_up (mz_up (mz_i xs Ln) 64 1 1) 68 1 1)) rfl ?_
        exact mz_ret rfl
      exact mz_ret rfl
  · by_cases h2 : 100 < a
    · refine ⟨(-1000001), mz_up (mz_i xs Ln) 64 1 1, mz_up (mz_up (mz_i xs Ln) 64 1 1) 68 1 1, ⟨?_, rfl⟩, ⟨?_, rfl⟩⟩
      · refine mz_go 2 (c' := (2, [some (.ref 0), some (.int a), some (.int b)], [.int b, .int a], (mz_i xs Ln))) rfl ?_
        refine mz_do (R := mz_r116) (as := [.int a, .int b]) (rest := []) (r1 := some (.int 0)) (m1 := (mz_i xs Ln)) rfl ⟨?_, rfl⟩ ?_
        · refine mz_go 3 (c' := (5, [some (.int a), some (.int b)], [.int 100, .int (-100), .int a], (mz_i xs Ln))) rfl ?_
          refine mz_do (R := mz_r121) (as := [.int a, .int (-100), .int 100]) (rest := []) (r1 := some (.int 0)) (m1 := (mz_i xs Ln)) rfl ⟨?_, rfl⟩ ?_
          · refine mz_go 3 (c' := (if a < (-100) then 14 else 5, [some (.int a), some (.int (-100)), some (.int 100)], [], (mz_i xs Ln))) rfl ?_
            refine mz_ifF h1 ?_
            refine mz_go 3 (c' := (if 100 < a then 14 else 10, [some (.int a), some (.int (-100)), some (.int 100)], [], (mz_i xs Ln))) rfl ?_
            refine mz_ifT h2 ?_
            refine mz_go 1 (c' := (15, [some (.int a), some (.int (-100)), some (.int 100)], [.int 0], (mz_i xs Ln))) rfl ?_
            exact mz_ret rfl
          refine mz_go 2 (c' := (27, [some (.int a), some (.int b)], [.int 0], (mz_i xs Ln))) rfl ?_
          exact mz_ret rfl
        refine mz_go 3 (c' := (10, [some (.ref 0), some (.int a), some (.int b)], [.int 1, .ref 0], (mz_i xs Ln))) rfl ?_
        refine mz_do (R := mz_r109) (as := [.ref 0, .int 1]) (rest := []) (r1 := some (.int (-1000001))) (m1 := mz_up (mz_i xs Ln) 64 1 1) rfl ⟨?_, rfl⟩ ?_
        · refine mz_go 3 (c' := (4, [some (.ref 0), some (.int 1)], [.int 6, .int 1, .int 1], (mz_i xs Ln))) rfl ?_
          refine mz_do (R := mz_r121) (as := [.int 1, .int 1, .int 6]) (rest := []) (r1 := some (.int 1)) (m1 := (mz_i xs Ln)) rfl ⟨?_, rfl⟩ ?_
          · refine mz_go 8 (c' := (15, [some (.int 1), some (.int 1), some (.int 6)], [.int 1], (mz_i xs Ln))) rfl ?_
            exact mz_ret rfl
          refine mz_go 12 (c' := (25, [some (.ref 0), some (.int 1)], [.int (-1000001)], mz_up (mz_i xs Ln) 64 1 1)) rfl ?_
          exact mz_ret rfl
        exact mz_ret rfl
      · refine mz_go 2 (c' := (2, [some (.ref 65), some (.int a), some (.int b)], [.int b, .int a], mz_up (mz_i xs Ln) 64 1 1)) rfl ?_
        refine mz_do (R := mz_r131) (as := [.int a, .int b]) (rest := []) (r1 := some (.int 0)) (m1 := mz_up (mz_i xs Ln) 64 1 1) rfl ⟨?_, rfl⟩ ?_
        · refine mz_go 3 (c' := (5, [some (.int a), some (.int b)], [.int 100, .int (-100), .int a], mz_up (mz_i xs Ln) 64 1 1)) rfl ?_
          refine mz_do (R := mz_r128) (as := [.int a, .int (-100), .int 100]) (rest := []) (r1 := some (.int 0)) (m1 := mz_up (mz_i xs Ln) 64 1 1) rfl ⟨?_, rfl⟩ ?_
          · refine mz_go 3 (c' := (if a < (-100) then 14 else 5, [some (.int a), some (.int (-100)), some (.int 100)], [], mz_up (mz_i xs Ln) 64 1 1)) rfl ?_
            refine mz_ifF h1 ?_
            refine mz_go 3 (c' := (if 100 < a then 14 else 10, [some (.int a), some (.int (-100)), some (.int 100)], [], mz_up (mz_i xs Ln) 64 1 1)) rfl ?_
            refine mz_ifT h2 ?_
            refine mz_go 1 (c' := (15, [some (.int a), some (.int (-100)), some (.int 100)], [.int 0], mz_up (mz_i xs Ln) 64 1 1)) rfl ?_
            exact mz_ret rfl
          refine mz_go 2 (c' := (27, [some (.int a), some (.int b)], [.int 0], mz_up (mz_i xs Ln) 64 1 1)) rfl ?_
          exact mz_ret rfl
        refine mz_go 3 (c' := (10, [some (.ref 65), some (.int a), some (.int b)], [.int 1, .ref 65], mz_up (mz_i xs Ln) 64 1 1)) rfl ?_
        refine mz_do (R := mz_r127) (as := [.ref 65, .int 1]) (rest := []) (r1 := some (.int (-1000001))) (m1 := mz_up (mz_up (mz_i xs Ln) 64 1 1) 68 1 1) rfl ⟨?_, rfl⟩ ?_
        · refine mz_go 11 (c' := (14, [some (.ref 65), some (.int 1)], [.int (-1000001)], mz_up (mz_up (mz_i xs Ln) 64 1 1) 68 1 1)) rfl ?_
          exact mz_ret rfl
        exact mz_ret rfl
    · by_cases h3 : b < (-100)
      · refine ⟨(-1000001), mz_up (mz_i xs Ln) 64 1 1, mz_up (mz_up (mz_i xs Ln) 64 1 1) 68 1 1, ⟨?_, rfl⟩, ⟨?_, rfl⟩⟩
        · refine mz_go 2 (c' := (2, [some (.ref 0), some (.int a), some (.int b)], [.int b, .int a], (mz_i xs Ln))) rfl ?_
          refine mz_do (R := mz_r116) (as := [.int a, .int b]) (rest := []) (r1 := some (.int 0)) (m1 := (mz_i xs Ln)) rfl ⟨?_, rfl⟩ ?_
          · refine mz_go 3 (c' := (5, [some (.int a), some (.int b)], [.int 100, .int (-100), .int a], (mz_i xs Ln))) rfl ?_
            refine mz_do (R := mz_r121) (as := [.int a, .int (-100), .int 100]) (rest := []) (r1 := some (.int 1)) (m1 := (mz_i xs Ln)) rfl ⟨?_, rfl⟩ ?_
            · refine mz_go 3 (c' := (if a < (-100) then 14 else 5, [some (.int a), some (.int (-100)), some (.int 100)], [], (mz_i xs Ln))) rfl ?_
              refine mz_ifF h1 ?_
              refine mz_go 3 (c' := (if 100 < a then 14 else 10, [some (.int a), some (.int (-100)), some (.int 100)], [], (mz_i xs Ln))) rfl ?_
              refine mz_ifF h2 ?_
              refine mz_go 2 (c' := (15, [some (.int a), some (.int (-100)), some (.int 100)], [.int 1], (mz_i xs Ln))) rfl ?_
              exact mz_ret rfl
            refine mz_go 4 (c' := (16, [some (.int a), some (.int b)], [.int 100, .int (-100), .int b], (mz_i xs Ln))) rfl ?_
            refine mz_do (R := mz_r121) (as := [.int b, .int (-100), .int 100]) (rest := []) (r1 := some (.int 0)) (m1 := (mz_i xs Ln)) rfl ⟨?_, rfl⟩ ?_
            · refine mz_go 3 (c' := (if b < (-100) then 14 else 5, [some (.int b), some (.int (-100)), some (.int 100)], [], (mz_i xs Ln))) rfl ?_
              refine mz_ifT h3 ?_
              refine mz_go 1 (c' := (15, [some (.int b), some (.int (-100)), some (.int 100)], [.int 0], (mz_i xs Ln))) rfl ?_
              exact mz_ret rfl
            refine mz_go 2 (c' := (27, [some (.int a), some (.int b)], [.int 0], (mz_i xs Ln))) rfl ?_
            exact mz_ret rfl
          refine mz_go 3 (c' := (10, [some (.ref 0), some (.int a), some (.int b)], [.int 1, .ref 0], (mz_i xs Ln))) rfl ?_
          refine mz_do (R := mz_r109) (as := [.ref 0, .int 1]) (rest := []) (r1 := some (.int (-1000001))) (m1 := mz_up (mz_i xs Ln) 64 1 1) rfl ⟨?_, rfl⟩ ?_
          · refine mz_go 3 (c' := (4, [some (.ref 0), some (.int 1)], [.int 6, .int 1, .int 1], (mz_i xs Ln))) rfl ?_
            refine mz_do (R := mz_r121) (as := [.int 1, .int 1, .int 6]) (rest := []) (r1 := some (.int 1)) (m1 := (mz_i xs Ln)) rfl ⟨?_, rfl⟩ ?_
            · refine mz_go 8 (c' := (15, [some (.int 1), some (.int 1), some (.int 6)], [.int 1], (mz_i xs Ln))) rfl ?_
              exact mz_ret rfl
            refine mz_go 12 (c' := (25, [some (.ref 0), some (.int 1)], [.int (-1000001)], mz_up (mz_i xs Ln) 64 1 1)) rfl ?_
            exact mz_ret rfl
          exact mz_ret rfl
        · refine mz_go 2 (c' := (2, [some (.ref 65), some (.int a), some (.int b)], [.int b, .int a], mz_up (mz_i xs Ln) 64 1 1)) rfl ?_
          refine mz_do (R := mz_r131) (as := [.int a, .int b]) (rest := []) (r1 := some (.int 0)) (m1 := mz_up (mz_i xs Ln) 64 1 1) rfl ⟨?_, rfl⟩ ?_
          · refine mz_go 3 (c' := (5, [some (.int a), some (.int b)], [.int 100, .int (-100), .int a], mz_up (mz_i xs Ln) 64 1 1)) rfl ?_
            refine mz_do (R := mz_r128) (as := [.int a, .int (-100), .int 100]) (rest := []) (r1 := some (.int 1)) (m1 := mz_up (mz_i xs Ln) 64 1 1) rfl ⟨?_, rfl⟩ ?_
            · refine mz_go 3 (c' := (if a < (-100) then 14 else 5, [some (.int a), some (.int (-100)), some (.int 100)], [], mz_up (mz_i xs Ln) 64 1 1)) rfl ?_
              refine mz_ifF h1 ?_
              refine mz_go 3 (c' := (if 100 < a then 14 else 10, [some (.int a), some (.int (-100)), some (.int 100)], [], mz_up (mz_i xs Ln) 64 1 1)) rfl ?_
              refine mz_ifF h2 ?_
              refine mz_go 2 (c' := (15, [some (.int a), some (.int (-100)), some (.int 100)], [.int 1], mz_up (mz_i xs Ln) 64 1 1)) rfl ?_
              exact mz_ret rfl
            refine mz_go 4 (c' := (16, [some (.int a), some (.int b)], [.int 100, .int (-100), .int b], mz_up (mz_i xs Ln) 64 1 1)) rfl ?_
            refine mz_do (R := mz_r128) (as := [.int b, .int (-100), .int 100]) (rest := []) (r1 := some (.int 0)) (m1 := mz_up (mz_i xs Ln) 64 1 1) rfl ⟨?_, rfl⟩ ?_
            · refine mz_go 3 (c' := (if b < (-100) then 14 else 5, [some (.int b), some (.int (-100)), some (.int 100)], [], mz_up (mz_i xs Ln) 64 1 1)) rfl ?_
              refine mz_ifT h3 ?_
              refine mz_go 1 (c' := (15, [some (.int b), some (.int (-100)), some (.int 100)], [.int 0], mz_up (mz_i xs Ln) 64 1 1)) rfl ?_
              exact mz_ret rfl
            refine mz_go 2 (c' := (27, [some (.int a), some (.int b)], [.int 0], mz_up (mz_i xs Ln) 64 1 1)) rfl ?_
            exact mz_ret rfl
          refine mz_go 3 (c' := (10, [some (.ref 65), some (.int a), some (.int b)], [.int 1, .ref 65], mz_up (mz_i xs Ln) 64 1 1)) rfl ?_
          refine mz_do (R := mz_r127) (as := [.ref 65, .int 1]) (rest := []) (r1 := some (.int (-1000001))) (m1 := mz_up (mz_up (mz_i xs Ln) 64 1 1) 68 1 1) rfl ⟨?_, rfl⟩ ?_
          · refine mz_go 11 (c' := (14, [some (.ref 65), some (.int 1)], [.int (-1000001)], mz_up (mz_up (mz_i xs Ln) 64 1 1) 68 1 1)) rfl ?_
            exact mz_ret rfl
          exact mz_ret rfl
      · by_cases h4 : 100 < b
        · refine ⟨(-1000001), mz_up (mz_i xs Ln) 64 1 1, mz_up (mz_up (mz_i xs Ln) 64 1 1) 68 1 1, ⟨?_, rfl⟩, ⟨?_, rfl⟩⟩
          · refine mz_go 2 (c' := (2, [some (.ref 0), some (.int a), some (.int b)], [.int b, .int a], (mz_i xs Ln))) rfl ?_
            refine mz_do (R := mz_r116) (as := [.int a, .int b]) (rest := []) (r1 := some (.int 0)) (m1 := (mz_i xs Ln)) rfl ⟨?_, rfl⟩ ?_
            · refine mz_go 3 (c' := (5, [some (.int a), some (.int b)], [.int 100, .int (-100), .int a], (mz_i xs Ln))) rfl ?_
              refine mz_do (R := mz_r121) (as := [.int a, .int (-100), .int 100]) (rest := []) (r1 := some (.int 1)) (m1 := (mz_i xs Ln)) rfl ⟨?_, rfl⟩ ?_
              · refine mz_go 3 (c' := (if a < (-100) then 14 else 5, [some (.int a), some (.int (-100)), some (.int 100)], [], (mz_i xs Ln))) rfl ?_
                refine mz_ifF h1 ?_
                refine mz_go 3 (c' := (if 100 < a then 14 else 10, [some (.int a), some (.int (-100)), some (.int 100)], [], (mz_i xs Ln))) rfl ?_
                refine mz_ifF h2 ?_
                refine mz_go 2 (c' := (15, [some (.int a), some (.int (-100)), some (.int 100)], [.int 1], (mz_i xs Ln))) rfl ?_
                exact mz_ret rfl
              refine mz_go 4 (c' := (16, [some (.int a), some (.int b)], [.int 100, .int (-100), .int b], (mz_i xs Ln))) rfl ?_
              refine mz_do (R := mz_r121) (as := [.int b, .int (-100), .int 100]) (rest := []) (r1 := some (.int 0)) (m1 := (mz_i xs Ln)) rfl ⟨?_, rfl⟩ ?_
              · refine mz_go 3 (c' := (if b < (-100) then 14 else 5, [some (.int b), some (.int (-100)), some (.int 100)], [], (mz_i xs Ln))) rfl ?_
                refine mz_ifF h3 ?_
                refine mz_go 3 (c' := (if 100 < b then 14 else 10, [some (.int b), some (.int (-100)), some (.int 100)], [], (mz_i xs Ln))) rfl ?_
                refine mz_ifT h4 ?_
                refine mz_go 1 (c' := (15, [some (.int b), some (.int (-100)), some (.int 100)], [.int 0], (mz_i xs Ln))) rfl ?_
                exact mz_ret rfl
              refine mz_go 2 (c' := (27, [some (.int a), some (.int b)], [.int 0], (mz_i xs Ln))) rfl ?_
              exact mz_ret rfl
            refine mz_go 3 (c' := (10, [some (.ref 0), some (.int a), some (.int b)], [.int 1, .ref 0], (mz_i xs Ln))) rfl ?_
            refine mz_do (R := mz_r109) (as := [.ref 0, .int 1]) (rest := []) (r1 := some (.int (-1000001))) (m1 := mz_up (mz_i xs Ln) 64 1 1) rfl ⟨?_, rfl⟩ ?_
            · refine mz_go 3 (c' := (4, [some (.ref 0), some (.int 1)], [.int 6, .int 1, .int 1], (mz_i xs Ln))) rfl ?_
              refine mz_do (R := mz_r121) (as := [.int 1, .int 1, .int 6]) (rest := []) (r1 := some (.int 1)) (m1 := (mz_i xs Ln)) rfl ⟨?_, rfl⟩ ?_
              · refine mz_go 8 (c' := (15, [some (.int 1), some (.int 1), some (.int 6)], [.int 1], (mz_i xs Ln))) rfl ?_
                exact mz_ret rfl
              refine mz_go 12 (c' := (25, [some (.ref 0), some (.int 1)], [.int (-1000001)], mz_up (mz_i xs Ln) 64 1 1)) rfl ?_
              exact mz_ret rfl
            exact mz_ret rfl
          · refine mz_go 2 (c' := (2, [some (.ref 65), some (.int a), some (.int b)], [.int b, .int a], mz_up (mz_i xs Ln) 64 1 1)) rfl ?_
            refine mz_do (R := mz_r131) (as := [.int a, .int b]) (rest := []) (r1 := some (.int 0)) (m1 := mz_up (mz_i xs Ln) 64 1 1) rfl ⟨?_, rfl⟩ ?_
            · refine mz_go 3 (c' := (5, [some (.int a), some (.int b)], [.int 100, .int (-100), .int a], mz_up (mz_i xs Ln) 64 1 1)) rfl ?_
              refine mz_do (R := mz_r128) (as := [.int a, .int (-100), .int 100]) (rest := []) (r1 := some (.int 1)) (m1 := mz_up (mz_i xs Ln) 64 1 1) rfl ⟨?_, rfl⟩ ?_
              · refine mz_go 3 (c' := (if a < (-100) then 14 else 5, [some (.int a), some (.int (-100)), some (.int 100)], [], mz_up (mz_i xs Ln) 64 1 1)) rfl ?_
                refine mz_ifF h1 ?_
                refine mz_go 3 (c' := (if 100 < a then 14 else 10, [some (.int a), some (.int (-100)), some (.int 100)], [], mz_up (mz_i xs Ln) 64 1 1)) rfl ?_
                refine mz_ifF h2 ?_
                refine mz_go 2 (c' := (15, [some (.int a), some (.int (-100)), some (.int 100)], [.int 1], mz_up (mz_i xs Ln) 64 1 1)) rfl ?_
                exact mz_ret rfl
              refine mz_go 4 (c' := (16, [some (.int a), some (.int b)], [.int 100, .int (-100), .int b], mz_up (mz_i xs Ln) 64 1 1)) rfl ?_
              refine mz_do (R := mz_r128) (as := [.int b, .int (-100), .int 100]) (rest := []) (r1 := some (.int 0)) (m1 := mz_up (mz_i xs Ln) 64 1 1) rfl ⟨?_, rfl⟩ ?_
              · refine mz_go 3 (c' := (if b < (-100) then 14 else 5, [some (.int b), some (.int (-100)), some (.int 100)], [], mz_up (mz_i xs Ln) 64 1 1)) rfl ?_
                refine mz_ifF h3 ?_
                refine mz_go 3 (c' := (if 100 < b then 14 else 10, [some (.int b), some (.int (-100)), some (.int 100)], [], mz_up (mz_i xs Ln) 64 1 1)) rfl ?_
                refine mz_ifT h4 ?_
                refine mz_go 1 (c' := (15, [some (.int b), some (.int (-100)), some (.int 100)], [.int 0], mz_up (mz_i xs Ln) 64 1 1)) rfl ?_
                exact mz_ret rfl
              refine mz_go 2 (c' := (27, [some (.int a), some (.int b)], [.int 0], mz_up (mz_i xs Ln) 64 1 1)) rfl ?_
              exact mz_ret rfl
            refine mz_go 3 (c' := (10, [some (.ref 65), some (.int a), some (.int b)], [.int 1, .ref 65], mz_up (mz_i xs Ln) 64 1 1)) rfl ?_
            refine mz_do (R := mz_r127) (as := [.ref 65, .int 1]) (rest := []) (r1 := some (.int (-1000001))) (m1 := mz_up (mz_up (mz_i xs Ln) 64 1 1) 68 1 1) rfl ⟨?_, rfl⟩ ?_
            · refine mz_go 11 (c' := (14, [some (.ref 65), some (.int 1)], [.int (-1000001)], mz_up (mz_up (mz_i xs Ln) 64 1 1) 68 1 1)) rfl ?_
              exact mz_ret rfl
            exact mz_ret rfl
        · refine ⟨1, mz_up (mz_up (mz_up (mz_up (mz_up (mz_i xs Ln) 19 0 (a * 16)) 19 1 (b * 16)) 19 2 0) 19 3 0) 19 4 0, mz_up (mz_up (mz_up (mz_up (mz_up (mz_up (mz_up (mz_up (mz_up (mz_up (mz_up (mz_up (mz_up (mz_up (mz_up (mz_i xs Ln) 19 0 (a * 16)) 19 1 (b * 16)) 19 2 0) 19 3 0) 19 4 0) 65 4 (16 * a)) 65 5 (16 * b)) 65 6 0) 65 7 0) 65 8 0) 66 20 (16 * a)) 66 21 (16 * b)) 66 22 0) 66 23 0) 66 24 0, ⟨?_, rfl⟩, ⟨?_, rfl⟩⟩
          · refine mz_go 2 (c' := (2, [some (.ref 0), some (.int a), some (.int b)], [.int b, .int a], (mz_i xs Ln))) rfl ?_
            refine mz_do (R := mz_r116) (as := [.int a, .int b]) (rest := []) (r1 := some (.int 1)) (m1 := (mz_i xs Ln)) rfl ⟨?_, rfl⟩ ?_
            · refine mz_go 3 (c' := (5, [some (.int a), some (.int b)], [.int 100, .int (-100), .int a], (mz_i xs Ln))) rfl ?_
              refine mz_do (R := mz_r121) (as := [.int a, .int (-100), .int 100]) (rest := []) (r1 := some (.int 1)) (m1 := (mz_i xs Ln)) rfl ⟨?_, rfl⟩ ?_
              · refine mz_go 3 (c' := (if a < (-100) then 14 else 5, [some (.int a), some (.int (-100)), some (.int 100)], [], (mz_i xs Ln))) rfl ?_
                refine mz_ifF h1 ?_
                refine mz_go 3 (c' := (if 100 < a then 14 else 10, [some (.int a), some (.int (-100)), some (.int 100)], [], (mz_i xs Ln))) rfl ?_
                refine mz_ifF h2 ?_
                refine mz_go 2 (c' := (15, [some (.int a), some (.int (-100)), some (.int 100)], [.int 1], (mz_i xs Ln))) rfl ?_
                exact mz_ret rfl
              refine mz_go 4 (c' := (16, [some (.int a), some (.int b)], [.int 100, .int (-100), .int b], (mz_i xs Ln))) rfl ?_
              refine mz_do (R := mz_r121) (as := [.int b, .int (-100), .int 100]) (rest := []) (r1 := some (.int 1)) (m1 := (mz_i xs Ln)) rfl ⟨?_, rfl⟩ ?_
              · refine mz_go 3 (c' := (if b < (-100) then 14 else 5, [some (.int b), some (.int (-100)), some (.int 100)], [], (mz_i xs Ln))) rfl ?_
                refine mz_ifF h3 ?_
                refine mz_go 3 (c' := (if 100 < b then 14 else 10, [some (.int b), some (.int (-100)), some (.int 100)], [], (mz_i xs Ln))) rfl ?_
                refine mz_ifF h4 ?_
                refine mz_go 2 (c' := (15, [some (.int b), some (.int (-100)), some (.int 100)], [.int 1], (mz_i xs Ln))) rfl ?_
                exact mz_ret rfl
              refine mz_go 3 (c' := (27, [some (.int a), some (.int b)], [.int 1], (mz_i xs Ln))) rfl ?_
              exact mz_ret rfl
            refine mz_go 8 (c' := (25, [some (.ref 0), some (.int a), some (.int b)], [.int 0, .int 0, .int b, .int a, .ref 19], (mz_i xs Ln))) rfl ?_
            refine mz_do (R := mz_r0) (as := [.ref 19, .int a, .int b, .int 0, .int 0]) (rest := []) (r1 := none) (m1 := mz_up (mz_up (mz_up (mz_up (mz_up (mz_i xs Ln) 19 0 (a * 16)) 19 1 (b * 16)) 19 2 0) 19 3 0) 19 4 0) rfl ⟨?_, rfl⟩ ?_
            · refine mz_go 19 (c' := (32, [some (.ref 19), some (.int a), some (.int b), some (.int 0), some (.int 0)], [], mz_up (mz_up (mz_up (mz_up (mz_up (mz_i xs Ln) 19 0 (a * 16)) 19 1 (b * 16)) 19 2 0) 19 3 0) 19 4 0)) rfl ?_
              exact mz_ret rfl
            refine mz_go 1 (c' := (29, [some (.ref 0), some (.int a), some (.int b)], [.int 1], mz_up (mz_up (mz_up (mz_up (mz_up (mz_i xs Ln) 19 0 (a * 16)) 19 1 (b * 16)) 19 2 0) 19 3 0) 19 4 0)) rfl ?_
            exact mz_ret rfl
          · refine mz_go 2 (c' := (2, [some (.ref 65), some (.int a), some (.int b)], [.int b, .int a], mz_up (mz_up (mz_up (mz_up (mz_up (mz_i xs Ln) 19 0 (a * 16)) 19 1 (b * 16)) 19 2 0) 19 3 0) 19 4 0)) rfl ?_
            refine mz_do (R := mz_r131) (as := [.int a, .int b]) (rest := []) (r1 := some (.int 1)) (m1 := mz_up (mz_up (mz_up (mz_up (mz_up (mz_i xs Ln) 19 0 (a * 16)) 19 1 (b * 16)) 19 2 0) 19 3 0) 19 4 0) rfl ⟨?_, rfl⟩ ?_
            · refine mz_go 3 (c' := (5, [some (.int a), some (.int b)], [.int 100, .int (-100), .int a], mz_up (mz_up (mz_up (mz_up (mz_up (mz_i xs Ln) 19 0 (a * 16)) 19 1 (b * 16)) 19 2 0) 19 3 0) 19 4 0)) rfl ?_
              refine mz_do (R := mz_r128) (as := [.int a, .int (-100), .int 100]) (rest := []) (r1 := some (.int 1)) (m1 := mz_up (mz_up (mz_up (mz_up (mz_up (mz_i xs Ln) 19 0 (a * 16)) 19 1 (b * 16)) 19 2 0) 19 3 0) 19 4 0) rfl ⟨?_, rfl⟩ ?_
              · refine mz_go 3 (c' := (if a < (-100) then 14 else 5, [some (.int a), some (.int (-100)), some (.int 100)], [], mz_up (mz_up (mz_up (mz_up (mz_up (mz_i xs Ln) 19 0 (a * 16)) 19 1 (b * 16)) 19 2 0) 19 3 0) 19 4 0)) rfl ?_
                refine mz_ifF h1 ?_
                refine mz_go 3 (c' := (if 100 < a then 14 else 10, [some (.int a), some (.int (-100)), some (.int 100)], [], mz_up (mz_up (mz_up (mz_up (mz_up (mz_i xs Ln) 19 0 (a * 16)) 19 1 (b * 16)) 19 2 0) 19 3 0) 19 4 0)) rfl ?_
                refine mz_ifF h2 ?_
                refine mz_go 2 (c' := (15, [some (.int a), some (.int (-100)), some (.int 100)], [.int 1], mz_up (mz_up (mz_up (mz_up (mz_up (mz_i xs Ln) 19 0 (a * 16)) 19 1 (b * 16)) 19 2 0) 19 3 0) 19 4 0)) rfl ?_
                exact mz_ret rfl
              refine mz_go 4 (c' := (16, [some (.int a), some (.int b)], [.int 100, .int (-100), .int b], mz_up (mz_up (mz_up (mz_up (mz_up (mz_i xs Ln) 19 0 (a * 16)) 19 1 (b * 16)) 19 2 0) 19 3 0) 19 4 0)) rfl ?_
              refine mz_do (R := mz_r128) (as := [.int b, .int (-100), .int 100]) (rest := []) (r1 := some (.int 1)) (m1 := mz_up (mz_up (mz_up (mz_up (mz_up (mz_i xs Ln) 19 0 (a * 16)) 19 1 (b * 16)) 19 2 0) 19 3 0) 19 4 0) rfl ⟨?_, rfl⟩ ?_
              · refine mz_go 3 (c' := (if b < (-100) then 14 else 5, [some (.int b), some (.int (-100)), some (.int 100)], [], mz_up (mz_up (mz_up (mz_up (mz_up (mz_i xs Ln) 19 0 (a * 16)) 19 1 (b * 16)) 19 2 0) 19 3 0) 19 4 0)) rfl ?_
                refine mz_ifF h3 ?_
                refine mz_go 3 (c' := (if 100 < b then 14 else 10, [some (.int b), some (.int (-100)), some (.int 100)], [], mz_up (mz_up (mz_up (mz_up (mz_up (mz_i xs Ln) 19 0 (a * 16)) 19 1 (b * 16)) 19 2 0) 19 3 0) 19 4 0)) rfl ?_
                refine mz_ifF h4 ?_
                refine mz_go 2 (c' := (15, [some (.int b), some (.int (-100)), some (.int 100)], [.int 1], mz_up (mz_up (mz_up (mz_up (mz_up (mz_i xs Ln) 19 0 (a * 16)) 19 1 (b * 16)) 19 2 0) 19 3 0) 19 4 0)) rfl ?_
                exact mz_ret rfl
              refine mz_go 3 (c' := (27, [some (.int a), some (.int b)], [.int 1], mz_up (mz_up (mz_up (mz_up (mz_up (mz_i xs Ln) 19 0 (a * 16)) 19 1 (b * 16)) 19 2 0) 19 3 0) 19 4 0)) rfl ?_
              exact mz_ret rfl
            refine mz_go 6 (c' := (19, [some (.ref 65), some (.int a), some (.int b)], [.int 0, .int 0, .int b, .int a, .ref 65], mz_up (mz_up (mz_up (mz_up (mz_up (mz_i xs Ln) 19 0 (a * 16)) 19 1 (b * 16)) 19 2 0) 19 3 0) 19 4 0)) rfl ?_
            refine mz_do (R := mz_r144) (as := [.ref 65, .int a, .int b, .int 0, .int 0]) (rest := []) (r1 := none) (m1 := mz_up (mz_up (mz_up (mz_up (mz_up (mz_up (mz_up (mz_up (mz_up (mz_up (mz_i xs Ln) 19 0 (a * 16)) 19 1 (b * 16)) 19 2 0) 19 3 0) 19 4 0) 65 4 (16 * a)) 65 5 (16 * b)) 65 6 0) 65 7 0) 65 8 0) rfl ⟨?_, rfl⟩ ?_
            · refine mz_go 19 (c' := (32, [some (.ref 65), some (.int a), some (.int b), some (.int 0), some (.int 0)], [], mz_up (mz_up (mz_up (mz_up (mz_up (mz_up (mz_up (mz_up (mz_up (mz_up (mz_i xs Ln) 19 0 (a * 16)) 19 1 (b * 16)) 19 2 0) 19 3 0) 19 4 0) 65 4 (16 * a)) 65 5 (16 * b)) 65 6 0) 65 7 0) 65 8 0)) rfl ?_
              exact mz_ret rfl
            refine mz_go 1 (c' := (23, [some (.ref 65), some (.int a), some (.int b)], [.ref 65], mz_up (mz_up (mz_up (mz_up (mz_up (mz_up (mz_up (mz_up (mz_up (mz_up (mz_i xs Ln) 19 0 (a * 16)) 19 1 (b * 16)) 19 2 0) 19 3 0) 19 4 0) 65 4 (16 * a)) 65 5 (16 * b)) 65 6 0) 65 7 0) 65 8 0)) rfl ?_
            refine mz_do (R := mz_r146) (as := [.ref 65]) (rest := []) (r1 := none) (m1 := mz_up (mz_up (mz_up (mz_up (mz_up (mz_up (mz_up (mz_up (mz_up (mz_up (mz_up (mz_up (mz_up (mz_up (mz_up (mz_i xs Ln) 19 0 (a * 16)) 19 1 (b * 16)) 19 2 0) 19 3 0) 19 4 0) 65 4 (16 * a)) 65 5 (16 * b)) 65 6 0) 65 7 0) 65 8 0) 66 20 (16 * a)) 66 21 (16 * b)) 66 22 0) 66 23 0) 66 24 0) rfl ⟨?_, rfl⟩ ?_
            · refine mz_go 30 (c' := (55, [some (.ref 65)], [], mz_up (mz_up (mz_up (mz_up (mz_up (mz_up (mz_up (mz_up (mz_up (mz_up (mz_up (mz_up (mz_up (mz_up (mz_up (mz_i xs Ln) 19 0 (a * 16)) 19 1 (b * 16)) 19 2 0) 19 3 0) 19 4 0) 65 4 (16 * a)) 65 5 (16 * b)) 65 6 0) 65 7 0) 65 8 0) 66 20 (16 * a)) 66 21 (16 * b)) 66 22 0) 66 23 0) 66 24 0)) rfl ?_
              exact mz_ret rfl
            refine mz_go 1 (c' := (27, [some (.ref 65), some (.int a), some (.int b)], [.int 1], mz_up (mz_up (mz_up (mz_up (mz_up (mz_up (mz_up (mz_up (mz_up (mz_up (mz_up (mz_up (mz_up (mz_up (mz_up (mz_i xs Ln) 19 0 (a * 16)) 19 1 (b * 16)) 19 2 0) 19 3 0) 19 4 0) 65 4 (16 * a)) 65 5 (16 * b)) 65 6 0) 65 7 0) 65 8 0) 66 20 (16 * a)) 66 21 (16 * b)) 66 22 0) 66 23 0) 66 24 0)) rfl ?_
            exact mz_ret rfl
set_option maxHeartbeats 4000000 in
set_option maxRecDepth 100000 in
theorem p1_bob (xs : Nat → Int32) (Ln : Nat) (a : Int32) : ∃ v m1 m2, mz_Me 100 mz_r80 [.ref 0, .int a] (mz_i xs Ln) (some (.int v)) m1 ∧ mz_Me 100 mz_r178 [.ref 65, .int a] m1 (some (.int v)) m2 := by
  by_cases h1 : a < 0
  · refine ⟨(-1000001), mz_up (mz_i xs Ln) 64 1 1, mz_up (mz_up (mz_i xs Ln) 64 1 1) 68 1 1, ⟨?_, rfl⟩, ⟨?_, rfl⟩⟩
    · refine mz_go 1 (c' := (1, [some (.ref 0), some (.int a)], [.int a], (mz_i xs Ln))) rfl ?_
      refine mz_swd (c' := (110, [some (.ref 0), some (.int a)], [], (mz_i xs Ln))) rfl (Or.inl (Int32.lt_iff_toInt_lt.mp h1)) ?_
      refine mz_go 2 (c' := (112, [some (.ref 0), some (.int a)], [.int 1, .ref 0], (mz_i xs Ln))) rfl ?_
      refine mz_do (R := mz_r109) (as := [.ref 0, .int 1]) (rest := []) (r1 := some (.int (-1000001))) (m1 := mz_up (mz_i xs Ln) 64 1 1) rfl ⟨?_, rfl⟩ ?_
      · refine mz_go 3 (c' := (4, [some (.ref 0), some (.int 1)], [.int 6, .int 1, .int 1], (mz_i xs Ln))) rfl ?_
        refine mz_do (R := mz_r121) (as := [.int 1, .int 1, .int 6]) (rest := []) (r1 := some (.int 1)) (m1 := (mz_i xs Ln)) rfl ⟨?_, rfl⟩ ?_
        · refine mz_go 8 (c' := (15, [some (.int 1), some (.int 1), some (.int 6)], [.int 1], (mz_i xs Ln))) rfl ?_
          exact mz_ret rfl
        refine mz_go 12 (c' := (25, [some (.ref 0), some (.int 1)], [.int (-1000001)], mz_up (mz_i xs Ln) 64 1 1)) rfl ?_
        exact mz_ret rfl
      exact mz_ret rfl
    · refine mz_go 3 (c' := (3, [some (.ref 65), some (.int a)], [.int 5, .int 0, .int a], mz_up (mz_i xs Ln) 64 1 1)) rfl ?_
      refine mz_do (R := mz_r128) (as := [.int a, .int 0, .int 5]) (rest := []) (r1 := some (.int 0)) (m1 := mz_up (mz_i xs Ln) 64 1 1) rfl ⟨?_, rfl⟩ ?_
      · refine mz_go 3 (c' := (if a < 0 then 14 else 5, [some (.int a), some (.int 0), some (.int 5)], [], mz_up (mz_i xs Ln) 64 1 1)) rfl ?_
        refine mz_ifT h1 ?_
        refine mz_go 1 (c' := (15, [some (.int a), some (.int 0), some (.int 5)], [.int 0], mz_up (mz_i xs Ln) 64 1 1)) rfl ?_
        exact mz_ret rfl
      refine mz_go 3 (c' := (11, [some (.ref 65), some (.int a)], [.int 1, .ref 65], mz_up (mz_i xs Ln) 64 1 1)) rfl ?_
      refine mz_do (R := mz_r127) (as := [.ref 65, .int 1]) (rest := []) (r1 := some (.int (-1000001))) (m1 := mz_up (mz_up (mz_i xs Ln) 64 1 1) 68 1 1) rfl ⟨?_, rfl⟩ ?_
      · refine mz_go 11 (c' := (14, [some (.ref 65), some (.int 1)], [.int (-1000001)], mz_up (mz_up (mz_i xs Ln) 64 1 1) 68 1 1)) rfl ?_
        exact mz_ret rfl
      exact mz_ret rfl
  · by_cases h2 : 5 < a
    · refine ⟨(-1000001), mz_up (mz_i xs Ln) 64 1 1, mz_up (mz_up (mz_i xs Ln) 64 1 1) 68 1 1, ⟨?_, rfl⟩, ⟨?_, rfl⟩⟩
      · refine mz_go 1 (c' := (1, [some (.ref 0), some (.int a)], [.int a], (mz_i xs Ln))) rfl ?_
        refine mz_swd (c' := (110, [some (.ref 0), some (.int a)], [], (mz_i xs Ln))) rfl (Or.inr (Int32.lt_iff_toInt_lt.mp h2)) ?_
        refine mz_go 2 (c' := (112, [some (.ref 0), some (.int a)], [.int 1, .ref 0], (mz_i xs Ln))) rfl ?_
        refine mz_do (R := mz_r109) (as := [.ref 0, .int 1]) (rest := []) (r1 := some (.int (-1000001))) (m1 := mz_up (mz_i xs Ln) 64 1 1) rfl ⟨?_, rfl⟩ ?_
        · refine mz_go 3 (c' := (4, [some (.ref 0), some (.int 1)], [.int 6, .int 1, .int 1], (mz_i xs Ln))) rfl ?_
          refine mz_do (R := mz_r121) (as := [.int 1, .int 1, .int 6]) (rest := []) (r1 := some (.int 1)) (m1 := (mz_i xs Ln)) rfl ⟨?_, rfl⟩ ?_
          · refine mz_go 8 (c' := (15, [some (.int 1), some (.int 1), some (.int 6)], [.int 1], (mz_i xs Ln))) rfl ?_
            exact mz_ret rfl
          refine mz_go 12 (c' := (25, [some (.ref 0), some (.int 1)], [.int (-1000001)], mz_up (mz_i xs Ln) 64 1 1)) rfl ?_
          exact mz_ret rfl
        exact mz_ret rfl
      · refine mz_go 3 (c' := (3, [some (.ref 65), some (.int a)], [.int 5, .int 0, .int a], mz_up (mz_i xs Ln) 64 1 1)) rfl ?_
        refine mz_do (R := mz_r128) (as := [.int a, .int 0, .int 5]) (rest := []) (r1 := some (.int 0)) (m1 := mz_up (mz_i xs Ln) 64 1 1) rfl ⟨?_, rfl⟩ ?_
        · refine mz_go 3 (c' := (if a < 0 then 14 else 5, [some (.int a), some (.int 0), some (.int 5)], [], mz_up (mz_i xs Ln) 64 1 1)) rfl ?_
          refine mz_ifF h1 ?_
          refine mz_go 3 (c' := (if 5 < a then 14 else 10, [some (.int a), some (.int 0), some (.int 5)], [], mz_up (mz_i xs Ln) 64 1 1)) rfl ?_
          refine mz_ifT h2 ?_
          refine mz_go 1 (c' := (15, [some (.int a), some (.int 0), some (.int 5)], [.int 0], mz_up (mz_i xs Ln) 64 1 1)) rfl ?_
          exact mz_ret rfl
        refine mz_go 3 (c' := (11, [some (.ref 65), some (.int a)], [.int 1, .ref 65], mz_up (mz_i xs Ln) 64 1 1)) rfl ?_
        refine mz_do (R := mz_r127) (as := [.ref 65, .int 1]) (rest := []) (r1 := some (.int (-1000001))) (m1 := mz_up (mz_up (mz_i xs Ln) 64 1 1) 68 1 1) rfl ⟨?_, rfl⟩ ?_
        · refine mz_go 11 (c' := (14, [some (.ref 65), some (.int 1)], [.int (-1000001)], mz_up (mz_up (mz_i xs Ln) 64 1 1) 68 1 1)) rfl ?_
          exact mz_ret rfl
        exact mz_ret rfl
    · have hl3 : (0 : Int) ≤ (a).toInt := Int32.le_iff_toInt_le.mp (Int32.not_lt.mp h1)
      have hu3 : (a).toInt ≤ (5 : Int) := Int32.le_iff_toInt_le.mp (Int32.not_lt.mp h2)
      obtain rfl | rfl | rfl | rfl | rfl | rfl : a = 0 ∨ a = 1 ∨ a = 2 ∨ a = 3 ∨ a = 4 ∨ a = 5 := by
          rcases (show a.toInt = 0 ∨ a.toInt = 1 ∨ a.toInt = 2 ∨ a.toInt = 3 ∨ a.toInt = 4 ∨ a.toInt = 5 by omega) with h | h | h | h | h | h
          · exact (Or.inl (Int32.toInt_inj.mp h))
          · exact (Or.inr (Or.inl (Int32.toInt_inj.mp h)))
          · exact (Or.inr (Or.inr (Or.inl (Int32.toInt_inj.mp h))))
          · exact (Or.inr (Or.inr (Or.inr (Or.inl (Int32.toInt_inj.mp h)))))
          · exact (Or.inr (Or.inr (Or.inr (Or.inr (Or.inl (Int32.toInt_inj.mp h))))))
          · exact (Or.inr (Or.inr (Or.inr (Or.inr (Or.inr (Int32.toInt_inj.mp h))))))
      · refine ⟨0, (mz_i xs Ln), mz_up (mz_up (mz_up (mz_up (mz_up (mz_i xs Ln) 65 4 0) 65 5 0) 65 6 0) 65 7 0) 65 8 0, ⟨?_, rfl⟩, ⟨?_, rfl⟩⟩
        · refine mz_go 6 (c' := (50, [some (.ref 0), some (.int 0)], [.int 0], (mz_i xs Ln))) rfl ?_
          exact mz_ret rfl
        · refine mz_go 3 (c' := (3, [some (.ref 65), some (.int 0)], [.int 5, .int 0, .int 0], (mz_i xs Ln))) rfl ?_
          refine mz_do (R := mz_r128) (as := [.int 0, .int 0, .int 5]) (rest := []) (r1 := some (.int 1)) (m1 := (mz_i xs Ln)) rfl ⟨?_, rfl⟩ ?_
          · refine mz_go 8 (c' := (15, [some (.int 0), some (.int 0), some (.int 5)], [.int 1], (mz_i xs Ln))) rfl ?_
            exact mz_ret rfl
          refine mz_go 2 (c' := (16, [some (.ref 65), some (.int 0)], [.ref 65], (mz_i xs Ln))) rfl ?_
          refine mz_do (R := mz_r145) (as := [.ref 65]) (rest := []) (r1 := none) (m1 := mz_up (mz_up (mz_up (mz_up (mz_up (mz_i xs Ln) 65 4 0) 65 5 0) 65 6 0) 65 7 0) 65 8 0) rfl ⟨?_, rfl⟩ ?_
          · refine mz_go 30 (c' := (55, [some (.ref 65)], [], mz_up (mz_up (mz_up (mz_up (mz_up (mz_i xs Ln) 65 4 0) 65 5 0) 65 6 0) 65 7 0) 65 8 0)) rfl ?_
            exact mz_ret rfl
          refine mz_go 10 (c' := (40, [some (.ref 65), some (.int 0)], [.int 0], mz_up (mz_up (mz_up (mz_up (mz_up (mz_i xs Ln) 65 4 0) 65 5 0) 65 6 0) 65 7 0) 65 8 0)) rfl ?_
          exact mz_ret rfl
      · refine ⟨0, (mz_i xs Ln), mz_up (mz_up (mz_up (mz_up (mz_up (mz_i xs Ln) 65 4 0) 65 5 0) 65 6 0) 65 7 0) 65 8 0, ⟨?_, rfl⟩, ⟨?_, rfl⟩⟩
        · refine mz_go 6 (c' := (61, [some (.ref 0), some (.int 1)], [.int 0], (mz_i xs Ln))) rfl ?_
          exact mz_ret rfl
        · refine mz_go 3 (c' := (3, [some (.ref 65), some (.int 1)], [.int 5, .int 0, .int 1], (mz_i xs Ln))) rfl ?_
          refine mz_do (R := mz_r128) (as := [.int 1, .int 0, .int 5]) (rest := []) (r1 := some (.int 1)) (m1 := (mz_i xs Ln)) rfl ⟨?_, rfl⟩ ?_
          · refine mz_go 8 (c' := (15, [some (.int 1), some (.int 0), some (.int 5)], [.int 1], (mz_i xs Ln))) rfl ?_
            exact mz_ret rfl
          refine mz_go 2 (c' := (16, [some (.ref 65), some (.int 1)], [.ref 65], (mz_i xs Ln))) rfl ?_
          refine mz_do (R := mz_r145) (as := [.ref 65]) (rest := []) (r1 := none) (m1 := mz_up (mz_up (mz_up (mz_up (mz_up (mz_i xs Ln) 65 4 0) 65 5 0) 65 6 0) 65 7 0) 65 8 0) rfl ⟨?_, rfl⟩ ?_
          · refine mz_go 30 (c' := (55, [some (.ref 65)], [], mz_up (mz_up (mz_up (mz_up (mz_up (mz_i xs Ln) 65 4 0) 65 5 0) 65 6 0) 65 7 0) 65 8 0)) rfl ?_
            exact mz_ret rfl
          refine mz_go 10 (c' := (40, [some (.ref 65), some (.int 1)], [.int 0], mz_up (mz_up (mz_up (mz_up (mz_up (mz_i xs Ln) 65 4 0) 65 5 0) 65 6 0) 65 7 0) 65 8 0)) rfl ?_
          exact mz_ret rfl
      · refine ⟨0, (mz_i xs Ln), mz_up (mz_up (mz_up (mz_up (mz_up (mz_i xs Ln) 65 4 0) 65 5 0) 65 6 0) 65 7 0) 65 8 0, ⟨?_, rfl⟩, ⟨?_, rfl⟩⟩
        · refine mz_go 6 (c' := (72, [some (.ref 0), some (.int 2)], [.int 0], (mz_i xs Ln))) rfl ?_
          exact mz_ret rfl
        · refine mz_go 3 (c' := (3, [some (.ref 65), some (.int 2)], [.int 5, .int 0, .int 2], (mz_i xs Ln))) rfl ?_
          refine mz_do (R := mz_r128) (as := [.int 2, .int 0, .int 5]) (rest := []) (r1 := some (.int 1)) (m1 := (mz_i xs Ln)) rfl ⟨?_, rfl⟩ ?_
          · refine mz_go 8 (c' := (15, [some (.int 2), some (.int 0), some (.int 5)], [.int 1], (mz_i xs Ln))) rfl ?_
            exact mz_ret rfl
          refine mz_go 2 (c' := (16, [some (.ref 65), some (.int 2)], [.ref 65], (mz_i xs Ln))) rfl ?_
          refine mz_do (R := mz_r145) (as := [.ref 65]) (rest := []) (r1 := none) (m1 := mz_up (mz_up (mz_up (mz_up (mz_up (mz_i xs Ln) 65 4 0) 65 5 0) 65 6 0) 65 7 0) 65 8 0) rfl ⟨?_, rfl⟩ ?_
          · refine mz_go 30 (c' := (55, [some (.ref 65)], [], mz_up (mz_up (mz_up (mz_up (mz_up (mz_i xs Ln) 65 4 0) 65 5 0) 65 6 0) 65 7 0) 65 8 0)) rfl ?_
            exact mz_ret rfl
          refine mz_go 10 (c' := (40, [some (.ref 65), some (.int 2)], [.int 0], mz_up (mz_up (mz_up (mz_up (mz_up (mz_i xs Ln) 65 4 0) 65 5 0) 65 6 0) 65 7 0) 65 8 0)) rfl ?_
          exact mz_ret rfl
      · refine ⟨0, (mz_i xs Ln), mz_up (mz_up (mz_up (mz_up (mz_up (mz_i xs Ln) 65 4 0) 65 5 0) 65 6 0) 65 7 0) 65 8 0, ⟨?_, rfl⟩, ⟨?_, rfl⟩⟩
        · refine mz_go 6 (c' := (83, [some (.ref 0), some (.int 3)], [.int 0], (mz_i xs Ln))) rfl ?_
          exact mz_ret rfl
        · refine mz_go 3 (c' := (3, [some (.ref 65), some (.int 3)], [.int 5, .int 0, .int 3], (mz_i xs Ln))) rfl ?_
          refine mz_do (R := mz_r128) (as := [.int 3, .int 0, .int 5]) (rest := []) (r1 := some (.int 1)) (m1 := (mz_i xs Ln)) rfl ⟨?_, rfl⟩ ?_
          · refine mz_go 8 (c' := (15, [some (.int 3), some (.int 0), some (.int 5)], [.int 1], (mz_i xs Ln))) rfl ?_
            exact mz_ret rfl
          refine mz_go 2 (c' := (16, [some (.ref 65), some (.int 3)], [.ref 65], (mz_i xs Ln))) rfl ?_
          refine mz_do (R := mz_r145) (as := [.ref 65]) (rest := []) (r1 := none) (m1 := mz_up (mz_up (mz_up (mz_up (mz_up (mz_i xs Ln) 65 4 0) 65 5 0) 65 6 0) 65 7 0) 65 8 0) rfl ⟨?_, rfl⟩ ?_
          · refine mz_go 30 (c' := (55, [some (.ref 65)], [], mz_up (mz_up (mz_up (mz_up (mz_up (mz_i xs Ln) 65 4 0) 65 5 0) 65 6 0) 65 7 0) 65 8 0)) rfl ?_
            exact mz_ret rfl
          refine mz_go 10 (c' := (40, [some (.ref 65), some (.int 3)], [.int 0], mz_up (mz_up (mz_up (mz_up (mz_up (mz_i xs Ln) 65 4 0) 65 5 0) 65 6 0) 65 7 0) 65 8 0)) rfl ?_
          exact mz_ret rfl
      · refine ⟨0, (mz_i xs Ln), mz_up (mz_up (mz_up (mz_up (mz_up (mz_i xs Ln) 65 4 0) 65 5 0) 65 6 0) 65 7 0) 65 8 0, ⟨?_, rfl⟩, ⟨?_, rfl⟩⟩
        · refine mz_go 6 (c' := (94, [some (.ref 0), some (.int 4)], [.int 0], (mz_i xs Ln))) rfl ?_
          exact mz_ret rfl
        · refine mz_go 3 (c' := (3, [some (.ref 65), some (.int 4)], [.int 5, .int 0, .int 4], (mz_i xs Ln))) rfl ?_
          refine mz_do (R := mz_r128) (as := [.int 4, .int 0, .int 5]) (rest := []) (r1 := some (.int 1)) (m1 := (mz_i xs Ln)) rfl ⟨?_, rfl⟩ ?_
          · refine mz_go 8 (c' := (15, [some (.int 4), some (.int 0), some (.int 5)], [.int 1], (mz_i xs Ln))) rfl ?_
            exact mz_ret rfl
          refine mz_go 2 (c' := (16, [some (.ref 65), some (.int 4)], [.ref 65], (mz_i xs Ln))) rfl ?_
          refine mz_do (R := mz_r145) (as := [.ref 65]) (rest := []) (r1 := none) (m1 := mz_up (mz_up (mz_up (mz_up (mz_up (mz_i xs Ln) 65 4 0) 65 5 0) 65 6 0) 65 7 0) 65 8 0) rfl ⟨?_, rfl⟩ ?_
          · refine mz_go 30 (c' := (55, [some (.ref 65)], [], mz_up (mz_up (mz_up (mz_up (mz_up (mz_i xs Ln) 65 4 0) 65 5 0) 65 6 0) 65 7 0) 65 8 0)) rfl ?_
            exact mz_ret rfl
          refine mz_go 10 (c' := (40, [some (.ref 65), some (.int 4)], [.int 0], mz_up (mz_up (mz_up (mz_up (mz_up (mz_i xs Ln) 65 4 0) 65 5 0) 65 6 0) 65 7 0) 65 8 0)) rfl ?_
          exact mz_ret rfl
      · refine ⟨9, (mz_i xs Ln), mz_up (mz_up (mz_up (mz_up (mz_up (mz_i xs Ln) 65 4 0) 65 5 0) 65 6 0) 65 7 0) 65 8 0, ⟨?_, rfl⟩, ⟨?_, rfl⟩⟩
        · refine mz_go 7 (c' := (106, [some (.ref 0), some (.int 5)], [.ref 19, .ref 49], (mz_i xs Ln))) rfl ?_
          refine mz_do (R := mz_r37) (as := [.ref 49, .ref 19]) (rest := []) (r1 := some (.int 9)) (m1 := (mz_i xs Ln)) rfl ⟨?_, rfl⟩ ?_
          · refine mz_go 21 (c' := (46, [some (.ref 49), some (.ref 19), none], [.int 1, .int 0, .int 0, .ref 2], (mz_i xs Ln))) rfl ?_
            refine mz_do (R := mz_r25) (as := [.ref 2, .int 0, .int 0, .int 1]) (rest := []) (r1 := some (.int (-1))) (m1 := (mz_i xs Ln)) rfl ⟨?_, rfl⟩ ?_
            · refine mz_go 11 (c' := (69, [some (.ref 2), some (.int 0), some (.int 0), some (.int 1), some (.int (-1)), some (.int 0), some (.int 0), none], [.int (-1)], (mz_i xs Ln))) rfl ?_
              exact mz_ret rfl
            refine mz_go 4 (c' := (87, [some (.ref 49), some (.ref 19), some (.int (-1))], [.int 9], (mz_i xs Ln))) rfl ?_
            exact mz_ret rfl
          exact mz_ret rfl
        · refine mz_go 3 (c' := (3, [some (.ref 65), some (.int 5)], [.int 5, .int 0, .int 5], (mz_i xs Ln))) rfl ?_
          refine mz_do (R := mz_r128) (as := [.int 5, .int 0, .int 5]) (rest := []) (r1 := some (.int 1)) (m1 := (mz_i xs Ln)) rfl ⟨?_, rfl⟩ ?_
          · refine mz_go 8 (c' := (15, [some (.int 5), some (.int 0), some (.int 5)], [.int 1], (mz_i xs Ln))) rfl ?_
            exact mz_ret rfl
          refine mz_go 2 (c' := (16, [some (.ref 65), some (.int 5)], [.ref 65], (mz_i xs Ln))) rfl ?_
          refine mz_do (R := mz_r145) (as := [.ref 65]) (rest := []) (r1 := none) (m1 := mz_up (mz_up (mz_up (mz_up (mz_up (mz_i xs Ln) 65 4 0) 65 5 0) 65 6 0) 65 7 0) 65 8 0) rfl ⟨?_, rfl⟩ ?_
          · refine mz_go 30 (c' := (55, [some (.ref 65)], [], mz_up (mz_up (mz_up (mz_up (mz_up (mz_i xs Ln) 65 4 0) 65 5 0) 65 6 0) 65 7 0) 65 8 0)) rfl ?_
            exact mz_ret rfl
          refine mz_go 4 (c' := (37, [some (.ref 65), some (.int 5)], [.ref 65], mz_up (mz_up (mz_up (mz_up (mz_up (mz_i xs Ln) 65 4 0) 65 5 0) 65 6 0) 65 7 0) 65 8 0)) rfl ?_
          refine mz_do (R := mz_r153) (as := [.ref 65]) (rest := []) (r1 := some (.int 9)) (m1 := mz_up (mz_up (mz_up (mz_up (mz_up (mz_i xs Ln) 65 4 0) 65 5 0) 65 6 0) 65 7 0) 65 8 0) rfl ⟨?_, rfl⟩ ?_
          · refine mz_go 2 (c' := (4, [some (.ref 65), none], [.int 0], mz_up (mz_up (mz_up (mz_up (mz_up (mz_i xs Ln) 65 4 0) 65 5 0) 65 6 0) 65 7 0) 65 8 0)) rfl ?_
            refine mz_do (R := mz_r129) (as := [.int 0]) (rest := []) (r1 := some (.int 0)) (m1 := mz_up (mz_up (mz_up (mz_up (mz_up (mz_i xs Ln) 65 4 0) 65 5 0) 65 6 0) 65 7 0) 65 8 0) rfl ⟨?_, rfl⟩ ?_
            · refine mz_go 3 (c' := (10, [some (.int 0)], [.int 0], mz_up (mz_up (mz_up (mz_up (mz_up (mz_i xs Ln) 65 4 0) 65 5 0) 65 6 0) 65 7 0) 65 8 0)) rfl ?_
              exact mz_ret rfl
            refine mz_go 2 (c' := (11, [some (.ref 65), none], [.int 0, .int 0], mz_up (mz_up (mz_up (mz_up (mz_up (mz_i xs Ln) 65 4 0) 65 5 0) 65 6 0) 65 7 0) 65 8 0)) rfl ?_
            refine mz_do (R := mz_r129) (as := [.int 0]) (rest := [.int 0]) (r1 := some (.int 0)) (m1 := mz_up (mz_up (mz_up (mz_up (mz_up (mz_i xs Ln) 65 4 0) 65 5 0) 65 6 0) 65 7 0) 65 8 0) rfl ⟨?_, rfl⟩ ?_
            · refine mz_go 3 (c' := (10, [some (.int 0)], [.int 0], mz_up (mz_up (mz_up (mz_up (mz_up (mz_i xs Ln) 65 4 0) 65 5 0) 65 6 0) 65 7 0) 65 8 0)) rfl ?_
              exact mz_ret rfl
            refine mz_go 8 (c' := (30, [some (.ref 65), none], [.int 0, .ref 65], mz_up (mz_up (mz_up (mz_up (mz_up (mz_i xs Ln) 65 4 0) 65 5 0) 65 6 0) 65 7 0) 65 8 0)) rfl ?_
            refine mz_do (R := mz_r148) (as := [.ref 65, .int 0]) (rest := []) (r1 := some (.int (-1))) (m1 := mz_up (mz_up (mz_up (mz_up (mz_up (mz_i xs Ln) 65 4 0) 65 5 0) 65 6 0) 65 7 0) 65 8 0) rfl ⟨?_, rfl⟩ ?_
            · refine mz_go 11 (c' := (73, [some (.ref 65), some (.int 0), some (.int (-1)), some (.int 0), none], [.int (-1)], mz_up (mz_up (mz_up (mz_up (mz_up (mz_i xs Ln) 65 4 0) 65 5 0) 65 6 0) 65 7 0) 65 8 0)) rfl ?_
              exact mz_ret rfl
            refine mz_go 4 (c' := (59, [some (.ref 65), some (.int (-1))], [.int 9], mz_up (mz_up (mz_up (mz_up (mz_up (mz_i xs Ln) 65 4 0) 65 5 0) 65 6 0) 65 7 0) 65 8 0)) rfl ?_
            exact mz_ret rfl
          exact mz_ret rfl
set_option maxHeartbeats 4000000 in
set_option maxRecDepth 100000 in
theorem p1_seed (xs : Nat → Int32) (Ln : Nat) (a : Int32) : ∃ v m1 m2, mz_Me 100 mz_r96 [.ref 0, .int a] (mz_i xs Ln) (some (.int v)) m1 ∧ mz_Me 100 mz_r208 [.ref 65, .int a] m1 (some (.int v)) m2 := by
  refine ⟨1, mz_up (mz_i xs Ln) 1 12 a, mz_up (mz_up (mz_i xs Ln) 1 12 a) 66 3 a, ⟨?_, rfl⟩, ⟨?_, rfl⟩⟩
  · refine mz_go 9 (c' := (17, [some (.ref 0), some (.int a), some (.int 1)], [.int 1], mz_up (mz_i xs Ln) 1 12 a)) rfl ?_
    exact mz_ret rfl
  · refine mz_go 11 (c' := (15, [some (.ref 65), some (.int a), some (.int 1)], [.int 1], mz_up (mz_up (mz_i xs Ln) 1 12 a) 66 3 a)) rfl ?_
    exact mz_ret rfl
set_option maxHeartbeats 4000000 in
set_option maxRecDepth 100000 in
theorem p1_tell (xs : Nat → Int32) (Ln : Nat) (a : Int32) : ∃ v m1 m2, mz_Me 100 mz_r105 [.ref 0, .int a] (mz_i xs Ln) (some (.int v)) m1 ∧ mz_Me 100 mz_r226 [.ref 65, .int a] m1 (some (.int v)) m2 := by
  refine ⟨1, mz_up (mz_up (mz_i xs Ln) 24 0 a) 1 11 1, mz_up (mz_up (mz_up (mz_up (mz_i xs Ln) 24 0 a) 1 11 1) 66 620 a) 66 2 1, ⟨?_, rfl⟩, ⟨?_, rfl⟩⟩
  · refine mz_go 23 (c' := (54, [some (.ref 0), some (.int a)], [.int 1], mz_up (mz_up (mz_i xs Ln) 24 0 a) 1 11 1)) rfl ?_
    exact mz_ret rfl
  · refine mz_go 28 (c' := (49, [some (.ref 65), some (.int a)], [.int 1], mz_up (mz_up (mz_up (mz_up (mz_i xs Ln) 24 0 a) 1 11 1) 66 620 a) 66 2 1)) rfl ?_
    exact mz_ret rfl
