set_option maxHeartbeats 4000000 in
set_option maxRecDepth 100000 in
theorem p1_magnet (xs : Nat → Int32) (Ln : Nat) (a : Int32) (b : Int32) (c : Int32) (d : Int32) : ∃ v m1 m2, mz_Me 100 mz_r67 [.ref 0, .int a, .int b, .int c, .int d] (mz_i xs Ln) (some (.int v)) m1 ∧ mz_Me 100 mz_r137 [.ref 65, .int a, .int b, .int c, .int d] m1 (some (.int v)) m2 := by
  by_cases h1 : a < 0
  · refine ⟨(-1000001), mz_up (mz_i xs Ln) 64 1 1, mz_up (mz_up (mz_i xs Ln) 64 1 1) 68 1 1, ⟨?_, rfl⟩, ⟨?_, rfl⟩⟩
    · refine mz_go 4 (c' := (5, [some (.ref 0), some (.int a), some (.int b), some (.int c), some (.int d)], [.int d, .int c, .int b, .int a], (mz_i xs Ln))) rfl ?_
      refine mz_do (R := mz_r113) (as := [.int a, .int b, .int c, .int d]) (rest := []) (r1 := some (.int 0)) (m1 := (mz_i xs Ln)) rfl ⟨?_, rfl⟩ ?_
      · refine mz_go 1 (c' := (1, [some (.int a), some (.int b), some (.int c), some (.int d)], [.int a], (mz_i xs Ln))) rfl ?_
        refine mz_do (R := mz_r114) (as := [.int a]) (rest := []) (r1 := some (.int 0)) (m1 := (mz_i xs Ln)) rfl ⟨?_, rfl⟩ ?_
        · refine mz_go 3 (c' := (4, [some (.int a)], [.int 6, .int 0, .int a], (mz_i xs Ln))) rfl ?_
          refine mz_do (R := mz_r121) (as := [.int a, .int 0, .int 6]) (rest := []) (r1 := some (.int 0)) (m1 := (mz_i xs Ln)) rfl ⟨?_, rfl⟩ ?_
          · refine mz_go 3 (c' := (if a < 0 then 14 else 5, [some (.int a), some (.int 0), some (.int 6)], [], (mz_i xs Ln))) rfl ?_
            refine mz_ifT h1 ?_
            refine mz_go 1 (c' := (15, [some (.int a), some (.int 0), some (.int 6)], [.int 0], (mz_i xs Ln))) rfl ?_
            exact mz_ret rfl
          exact mz_ret rfl
        refine mz_go 2 (c' := (30, [some (.int a), some (.int b), some (.int c), some (.int d)], [.int 0], (mz_i xs Ln))) rfl ?_
        exact mz_ret rfl
      refine mz_go 3 (c' := (13, [some (.ref 0), some (.int a), some (.int b), some (.int c), some (.int d)], [.int 1, .ref 0], (mz_i xs Ln))) rfl ?_
      refine mz_do (R := mz_r109) (as := [.ref 0, .int 1]) (rest := []) (r1 := some (.int (-1000001))) (m1 := mz_up (mz_i xs Ln) 64 1 1) rfl ⟨?_, rfl⟩ ?_
      · refine mz_go 3 (c' := (4, [some (.ref 0), some (.int 1)], [.int 6, .int 1, .int 1], (mz_i xs Ln))) rfl ?_
        refine mz_do (R := mz_r121) (as := [.int 1, .int 1, .int 6]) (rest := []) (r1 := some (.int 1)) (m1 := (mz_i xs Ln)) rfl ⟨?_, rfl⟩ ?_
        · refine mz_go 8 (c' := (15, [some (.int 1), some (.int 1), some (.int 6)], [.int 1], (mz_i xs Ln))) rfl ?_
          exact mz_ret rfl
        refine mz_go 12 (c' := (25, [some (.ref 0), some (.int 1)], [.int (-1000001)], mz_up (mz_i xs Ln) 64 1 1)) rfl ?_
        exact mz_ret rfl
      exact mz_ret rfl
    · refine mz_go 4 (c' := (5, [some (.ref 65), some (.int a), some (.int b), some (.int c), some (.int d)], [.int d, .int c, .int b, .int a], mz_up (mz_i xs Ln) 64 1 1)) rfl ?_
      refine mz_do (R := mz_r135) (as := [.int a, .int b, .int c, .int d]) (rest := []) (r1 := some (.int 0)) (m1 := mz_up (mz_i xs Ln) 64 1 1) rfl ⟨?_, rfl⟩ ?_
      · refine mz_go 3 (c' := (4, [some (.int a), some (.int b), some (.int c), some (.int d)], [.int 6, .int 0, .int a], mz_up (mz_i xs Ln) 64 1 1)) rfl ?_
        refine mz_do (R := mz_r128) (as := [.int a, .int 0, .int 6]) (rest := []) (r1 := some (.int 0)) (m1 := mz_up (mz_i xs Ln) 64 1 1) rfl ⟨?_, rfl⟩ ?_
        · refine mz_go 3 (c' := (if a < 0 then 14 else 5, [some (.int a), some (.int 0), some (.int 6)], [], mz_up (mz_i xs Ln) 64 1 1)) rfl ?_
          refine mz_ifT h1 ?_
          refine mz_go 1 (c' := (15, [some (.int a), some (.int 0), some (.int 6)], [.int 0], mz_up (mz_i xs Ln) 64 1 1)) rfl ?_
          exact mz_ret rfl
        refine mz_go 2 (c' := (33, [some (.int a), some (.int b), some (.int c), some (.int d)], [.int 0], mz_up (mz_i xs Ln) 64 1 1)) rfl ?_
        exact mz_ret rfl
      refine mz_go 3 (c' := (13, [some (.ref 65), some (.int a), some (.int b), some (.int c), some (.int d)], [.int 1, .ref 65], mz_up (mz_i xs Ln) 64 1 1)) rfl ?_
      refine mz_do (R := mz_r127) (as := [.ref 65, .int 1]) (rest := []) (r1 := some (.int (-1000001))) (m1 := mz_up (mz_up (mz_i xs Ln) 64 1 1) 68 1 1) rfl ⟨?_, rfl⟩ ?_
      · refine mz_go 11 (c' := (14, [some (.ref 65), some (.int 1)], [.int (-1000001)], mz_up (mz_up (mz_i xs Ln) 64 1 1) 68 1 1)) rfl ?_
        exact mz_ret rfl
      exact mz_ret rfl
  · by_cases h2 : 6 < a
    · refine ⟨(-1000001), mz_up (mz_i xs Ln) 64 1 1, mz_up (mz_up (mz_i xs Ln) 64 1 1) 68 1 1, ⟨?_, rfl⟩, ⟨?_, rfl⟩⟩
      · refine mz_go 4 (c' := (5, [some (.ref 0), some (.int a), some (.int b), some (.int c), some (.int d)], [.int d, .int c, .int b, .int a], (mz_i xs Ln))) rfl ?_
        refine mz_do (R := mz_r113) (as := [.int a, .int b, .int c, .int d]) (rest := []) (r1 := some (.int 0)) (m1 := (mz_i xs Ln)) rfl ⟨?_, rfl⟩ ?_
        · refine mz_go 1 (c' := (1, [some (.int a), some (.int b), some (.int c), some (.int d)], [.int a], (mz_i xs Ln))) rfl ?_
          refine mz_do (R := mz_r114) (as := [.int a]) (rest := []) (r1 := some (.int 0)) (m1 := (mz_i xs Ln)) rfl ⟨?_, rfl⟩ ?_
          · refine mz_go 3 (c' := (4, [some (.int a)], [.int 6, .int 0, .int a], (mz_i xs Ln))) rfl ?_
            refine mz_do (R := mz_r121) (as := [.int a, .int 0, .int 6]) (rest := []) (r1 := some (.int 0)) (m1 := (mz_i xs Ln)) rfl ⟨?_, rfl⟩ ?_
            · refine mz_go 3 (c' := (if a < 0 then 14 else 5, [some (.int a), some (.int 0), some (.int 6)], [], (mz_i xs Ln))) rfl ?_
              refine mz_ifF h1 ?_
              refine mz_go 3 (c' := (if 6 < a then 14 else 10, [some (.int a), some (.int 0), some (.int 6)], [], (mz_i xs Ln))) rfl ?_
              refine mz_ifT h2 ?_
              refine mz_go 1 (c' := (15, [some (.int a), some (.int 0), some (.int 6)], [.int 0], (mz_i xs Ln))) rfl ?_
              exact mz_ret rfl
            exact mz_ret rfl
          refine mz_go 2 (c' := (30, [some (.int a), some (.int b), some (.int c), some (.int d)], [.int 0], (mz_i xs Ln))) rfl ?_
          exact mz_ret rfl
        refine mz_go 3 (c' := (13, [some (.ref 0), some (.int a), some (.int b), some (.int c), some (.int d)], [.int 1, .ref 0], (mz_i xs Ln))) rfl ?_
        refine mz_do (R := mz_r109) (as := [.ref 0, .int 1]) (rest := []) (r1 := some (.int (-1000001))) (m1 := mz_up (mz_i xs Ln) 64 1 1) rfl ⟨?_, rfl⟩ ?_
        · refine mz_go 3 (c' := (4, [some (.ref 0), some (.int 1)], [.int 6, .int 1, .int 1], (mz_i xs Ln))) rfl ?_
          refine mz_do (R := mz_r121) (as := [.int 1, .int 1, .int 6]) (rest := []) (r1 := some (.int 1)) (m1 := (mz_i xs Ln)) rfl ⟨?_, rfl⟩ ?_
          · refine mz_go 8 (c' := (15, [some (.int 1), some (.int 1), some (.int 6)], [.int 1], (mz_i xs Ln))) rfl ?_
            exact mz_ret rfl
          refine mz_go 12 (c' := (25, [some (.ref 0), some (.int 1)], [.int (-1000001)], mz_up (mz_i xs Ln) 64 1 1)) rfl ?_
          exact mz_ret rfl
        exact mz_ret rfl
      · refine mz_go 4 (c' := (5, [some (.ref 65), some (.int a), some (.int b), some (.int c), some (.int d)], [.int d, .int c, .int b, .int a], mz_up (mz_i xs Ln) 64 1 1)) rfl ?_
        refine mz_do (R := mz_r135) (as := [.int a, .int b, .int c, .int d]) (rest := []) (r1 := some (.int 0)) (m1 := mz_up (mz_i xs Ln) 64 1 1) rfl ⟨?_, rfl⟩ ?_
        · refine mz_go 3 (c' := (4, [some (.int a), some (.int b), some (.int c), some (.int d)], [.int 6, .int 0, .int a], mz_up (mz_i xs Ln) 64 1 1)) rfl ?_
          refine mz_do (R := mz_r128) (as := [.int a, .int 0, .int 6]) (rest := []) (r1 := some (.int 0)) (m1 := mz_up (mz_i xs Ln) 64 1 1) rfl ⟨?_, rfl⟩ ?_
          · refine mz_go 3 (c' := (if a < 0 then 14 else 5, [some (.int a), some (.int 0), some (.int 6)], [], mz_up (mz_i xs Ln) 64 1 1)) rfl ?_
            refine mz_ifF h1 ?_
            refine mz_go 3 (c' := (if 6 < a then 14 else 10, [some (.int a), some (.int 0), some (.int 6)], [], mz_up (mz_i xs Ln) 64 1 1)) rfl ?_
            refine mz_ifT h2 ?_
            refine mz_go 1 (c' := (15, [some (.int a), some (.int 0), some (.int 6)], [.int 0], mz_up (mz_i xs Ln) 64 1 1)) rfl ?_
            exact mz_ret rfl
          refine mz_go 2 (c' := (33, [some (.int a), some (.int b), some (.int c), some (.int d)], [.int 0], mz_up (mz_i xs Ln) 64 1 1)) rfl ?_
          exact mz_ret rfl
        refine mz_go 3 (c' := (13, [some (.ref 65), some (.int a), some (.int b), some (.int c), some (.int d)], [.int 1, .ref 65], mz_up (mz_i xs Ln) 64 1 1)) rfl ?_
        refine mz_do (R := mz_r127) (as := [.ref 65, .int 1]) (rest := []) (r1 := some (.int (-1000001))) (m1 := mz_up (mz_up (mz_i xs Ln) 64 1 1) 68 1 1) rfl ⟨?_, rfl⟩ ?_
        · refine mz_go 11 (c' := (14, [some (.ref 65), some (.int 1)], [.int (-1000001)], mz_up (mz_up (mz_i xs Ln) 64 1 1) 68 1 1)) rfl ?_
          exact mz_ret rfl
        exact mz_ret rfl
    · by_cases h3 : b < (-100)
      · refine ⟨(-1000001), mz_up (mz_i xs Ln) 64 1 1, mz_up (mz_up (mz_i xs Ln) 64 1 1) 68 1 1, ⟨?_, rfl⟩, ⟨?_, rfl⟩⟩
        · refine mz_go 4 (c' := (5, [some (.ref 0), some (.int a), some (.int b), some (.int c), some (.int d)], [.int d, .int c, .int b, .int a], (mz_i xs Ln))) rfl ?_
          refine mz_do (R := mz_r113) (as := [.int a, .int b, .int c, .int d]) (rest := []) (r1 := some (.int 0)) (m1 := (mz_i xs Ln)) rfl ⟨?_, rfl⟩ ?_
          · refine mz_go 1 (c' := (1, [some (.int a), some (.int b), some (.int c), some (.int d)], [.int a], (mz_i xs Ln))) rfl ?_
            refine mz_do (R := mz_r114) (as := [.int a]) (rest := []) (r1 := some (.int 1)) (m1 := (mz_i xs Ln)) rfl ⟨?_, rfl⟩ ?_
            · refine mz_go 3 (c' := (4, [some (.int a)], [.int 6, .int 0, .int a], (mz_i xs Ln))) rfl ?_
              refine mz_do (R := mz_r121) (as := [.int a, .int 0, .int 6]) (rest := []) (r1 := some (.int 1)) (m1 := (mz_i xs Ln)) rfl ⟨?_, rfl⟩ ?_
              · refine mz_go 3 (c' := (if a < 0 then 14 else 5, [some (.int a), some (.int 0), some (.int 6)], [], (mz_i xs Ln))) rfl ?_
                refine mz_ifF h1 ?_
                refine mz_go 3 (c' := (if 6 < a then 14 else 10, [some (.int a), some (.int 0), some (.int 6)], [], (mz_i xs Ln))) rfl ?_
                refine mz_ifF h2 ?_
                refine mz_go 2 (c' := (15, [some (.int a), some (.int 0), some (.int 6)], [.int 1], (mz_i xs Ln))) rfl ?_
                exact mz_ret rfl
              exact mz_ret rfl
            refine mz_go 3 (c' := (9, [some (.int a), some (.int b), some (.int c), some (.int d)], [.int c, .int b], (mz_i xs Ln))) rfl ?_
            refine mz_do (R := mz_r116) (as := [.int b, .int c]) (rest := []) (r1 := some (.int 0)) (m1 := (mz_i xs Ln)) rfl ⟨?_, rfl⟩ ?_
            · refine mz_go 3 (c' := (5, [some (.int b), some (.int c)], [.int 100, .int (-100), .int b], (mz_i xs Ln))) rfl ?_
              refine mz_do (R := mz_r121) (as := [.int b, .int (-100), .int 100]) (rest := []) (r1 := some (.int 0)) (m1 := (mz_i xs Ln)) rfl ⟨?_, rfl⟩ ?_
              · refine mz_go 3 (c' := (if b < (-100) then 14 else 5, [some (.int b), some (.int (-100)), some (.int 100)], [], (mz_i xs Ln))) rfl ?_
                refine mz_ifT h3 ?_
                refine mz_go 1 (c' := (15, [some (.int b), some (.int (-100)), some (.int 100)], [.int 0], (mz_i xs Ln))) rfl ?_
                exact mz_ret rfl
              refine mz_go 2 (c' := (27, [some (.int b), some (.int c)], [.int 0], (mz_i xs Ln))) rfl ?_
              exact mz_ret rfl
            refine mz_go 2 (c' := (30, [some (.int a), some (.int b), some (.int c), some (.int d)], [.int 0], (mz_i xs Ln))) rfl ?_
            exact mz_ret rfl
          refine mz_go 3 (c' := (13, [some (.ref 0), some (.int a), some (.int b), some (.int c), some (.int d)], [.int 1, .ref 0], (mz_i xs Ln))) rfl ?_
          refine mz_do (R := mz_r109) (as := [.ref 0, .int 1]) (rest := []) (r1 := some (.int (-1000001))) (m1 := mz_up (mz_i xs Ln) 64 1 1) rfl ⟨?_, rfl⟩ ?_
          · refine mz_go 3 (c' := (4, [some (.ref 0), some (.int 1)], [.int 6, .int 1, .int 1], (mz_i xs Ln))) rfl ?_
            refine mz_do (R := mz_r121) (as := [.int 1, .int 1, .int 6]) (rest := []) (r1 := some (.int 1)) (m1 := (mz_i xs Ln)) rfl ⟨?_, rfl⟩ ?_
            · refine mz_go 8 (c' := (15, [some (.int 1), some (.int 1), some (.int 6)], [.int 1], (mz_i xs Ln))) rfl ?_
              exact mz_ret rfl
            refine mz_go 12 (c' := (25, [some (.ref 0), some (.int 1)], [.int (-1000001)], mz_up (mz_i xs Ln) 64 1 1)) rfl ?_
            exact mz_ret rfl
          exact mz_ret rfl
        · refine mz_go 4 (c' := (5, [some (.ref 65), some (.int a), some (.int b), some (.int c), some (.int d)], [.int d, .int c, .int b, .int a], mz_up (mz_i xs Ln) 64 1 1)) rfl ?_
          refine mz_do (R := mz_r135) (as := [.int a, .int b, .int c, .int d]) (rest := []) (r1 := some (.int 0)) (m1 := mz_up (mz_i xs Ln) 64 1 1) rfl ⟨?_, rfl⟩ ?_
          · refine mz_go 3 (c' := (4, [some (.int a), some (.int b), some (.int c), some (.int d)], [.int 6, .int 0, .int a], mz_up (mz_i xs Ln) 64 1 1)) rfl ?_
            refine mz_do (R := mz_r128) (as := [.int a, .int 0, .int 6]) (rest := []) (r1 := some (.int 1)) (m1 := mz_up (mz_i xs Ln) 64 1 1) rfl ⟨?_, rfl⟩ ?_
            · refine mz_go 3 (c' := (if a < 0 then 14 else 5, [some (.int a), some (.int 0), some (.int 6)], [], mz_up (mz_i xs Ln) 64 1 1)) rfl ?_
              refine mz_ifF h1 ?_
              refine mz_go 3 (c' := (if 6 < a then 14 else 10, [some (.int a), some (.int 0), some (.int 6)], [], mz_up (mz_i xs Ln) 64 1 1)) rfl ?_
              refine mz_ifF h2 ?_
              refine mz_go 2 (c' := (15, [some (.int a), some (.int 0), some (.int 6)], [.int 1], mz_up (mz_i xs Ln) 64 1 1)) rfl ?_
              exact mz_ret rfl
            refine mz_go 3 (c' := (12, [some (.int a), some (.int b), some (.int c), some (.int d)], [.int c, .int b], mz_up (mz_i xs Ln) 64 1 1)) rfl ?_
            refine mz_do (R := mz_r131) (as := [.int b, .int c]) (rest := []) (r1 := some (.int 0)) (m1 := mz_up (mz_i xs Ln) 64 1 1) rfl ⟨?_, rfl⟩ ?_
            · refine mz_go 3 (c' := (5, [some (.int b), some (.int c)], [.int 100, .int (-100), .int b], mz_up (mz_i xs Ln) 64 1 1)) rfl ?_
              refine mz_do (R := mz_r128) (as := [.int b, .int (-100), .int 100]) (rest := []) (r1 := some (.int 0)) (m1 := mz_up (mz_i xs Ln) 64 1 1) rfl ⟨?_, rfl⟩ ?_
              · refine mz_go 3 (c' := (if b < (-100) then 14 else 5, [some (.int b), some (.int (-100)), some (.int 100)], [], mz_up (mz_i xs Ln) 64 1 1)) rfl ?_
                refine mz_ifT h3 ?_
                refine mz_go 1 (c' := (15, [some (.int b), some (.int (-100)), some (.int 100)], [.int 0], mz_up (mz_i xs Ln) 64 1 1)) rfl ?_
                exact mz_ret rfl
              refine mz_go 2 (c' := (27, [some (.int b), some (.int c)], [.int 0], mz_up (mz_i xs Ln) 64 1 1)) rfl ?_
              exact mz_ret rfl
            refine mz_go 2 (c' := (33, [some (.int a), some (.int b), some (.int c), some (.int d)], [.int 0], mz_up (mz_i xs Ln) 64 1 1)) rfl ?_
            exact mz_ret rfl
          refine mz_go 3 (c' := (13, [some (.ref 65), some (.int a), some (.int b), some (.int c), some (.int d)], [.int 1, .ref 65], mz_up (mz_i xs Ln) 64 1 1)) rfl ?_
          refine mz_do (R := mz_r127) (as := [.ref 65, .int 1]) (rest := []) (r1 := some (.int (-1000001))) (m1 := mz_up (mz_up (mz_i xs Ln) 64 1 1) 68 1 1) rfl ⟨?_, rfl⟩ ?_
          · refine mz_go 11 (c' := (14, [some (.ref 65), some (.int 1)], [.int (-1000001)], mz_up (mz_up (mz_i xs Ln) 64 1 1) 68 1 1)) rfl ?_
            exact mz_ret rfl
          exact mz_ret rfl
      · by_cases h4 : 100 < b
        · refine ⟨(-1000001), mz_up (mz_i xs Ln) 64 1 1, mz_up (mz_up (mz_i xs Ln) 64 1 1) 68 1 1, ⟨?_, rfl⟩, ⟨?_, rfl⟩⟩
          · refine mz_go 4 (c' := (5, [some (.ref 0), some (.int a), some (.int b), some (.int c), some (.int d)], [.int d, .int c, .int b, .int a], (mz_i xs Ln))) rfl ?_
            refine mz_do (R := mz_r113) (as := [.int a, .int b, .int c, .int d]) (rest := []) (r1 := some (.int 0)) (m1 := (mz_i xs Ln)) rfl ⟨?_, rfl⟩ ?_
            · refine mz_go 1 (c' := (1, [some (.int a), some (.int b), some (.int c), some (.int d)], [.int a], (mz_i xs Ln))) rfl ?_
              refine mz_do (R := mz_r114) (as := [.int a]) (rest := []) (r1 := some (.int 1)) (m1 := (mz_i xs Ln)) rfl ⟨?_, rfl⟩ ?_
              · refine mz_go 3 (c' := (4, [some (.int a)], [.int 6, .int 0, .int a], (mz_i xs Ln))) rfl ?_
                refine mz_do (R := mz_r121) (as := [.int a, .int 0, .int 6]) (rest := []) (r1 := some (.int 1)) (m1 := (mz_i xs Ln)) rfl ⟨?_, rfl⟩ ?_
                · refine mz_go 3 (c' := (if a < 0 then 14 else 5, [some (.int a), some (.int 0), some (.int 6)], [], (mz_i xs Ln))) rfl ?_
                  refine mz_ifF h1 ?_
                  refine mz_go 3 (c' := (if 6 < a then 14 else 10, [some (.int a), some (.int 0), some (.int 6)], [], (mz_i xs Ln))) rfl ?_
                  refine mz_ifF h2 ?_
                  refine mz_go 2 (c' := (15, [some (.int a), some (.int 0), some (.int 6)], [.int 1], (mz_i xs Ln))) rfl ?_
                  exact mz_ret rfl
                exact mz_ret rfl
              refine mz_go 3 (c' := (9, [some (.int a), some (.int b), some (.int c), some (.int d)], [.int c, .int b], (mz_i xs Ln))) rfl ?_
              refine mz_do (R := mz_r116) (as := [.int b, .int c]) (rest := []) (r1 := some (.int 0)) (m1 := (mz_i xs Ln)) rfl ⟨?_, rfl⟩ ?_
              · refine mz_go 3 (c' := (5, [some (.int b), some (.int c)], [.int 100, .int (-100), .int b], (mz_i xs Ln))) rfl ?_
                refine mz_do (R := mz_r121) (as := [.int b, .int (-100), .int 100]) (rest := []) (r1 := some (.int 0)) (m1 := (mz_i xs Ln)) rfl ⟨?_, rfl⟩ ?_
                · refine mz_go 3 (c' := (if b < (-100) then 14 else 5, [some (.int b), some (.int (-100)), some (.int 100)], [], (mz_i xs Ln))) rfl ?_
                  refine mz_ifF h3 ?_
                  refine mz_go 3 (c' := (if 100 < b then 14 else 10, [some (.int b), some (.int (-100)), some (.int 100)], [], (mz_i xs Ln))) rfl ?_
                  refine mz_ifT h4 ?_
                  refine mz_go 1 (c' := (15, [some (.int b), some (.int (-100)), some (.int 100)], [.int 0], (mz_i xs Ln))) rfl ?_
                  exact mz_ret rfl
                refine mz_go 2 (c' := (27, [some (.int b), some (.int c)], [.int 0], (mz_i xs Ln))) rfl ?_
                exact mz_ret rfl
              refine mz_go 2 (c' := (30, [some (.int a), some (.int b), some (.int c), some (.int d)], [.int 0], (mz_i xs Ln))) rfl ?_
              exact mz_ret rfl
            refine mz_go 3 (c' := (13, [some (.ref 0), some (.int a), some (.int b), some (.int c), some (.int d)], [.int 1, .ref 0], (mz_i xs Ln))) rfl ?_
            refine mz_do (R := mz_r109) (as := [.ref 0, .int 1]) (rest := []) (r1 := some (.int (-1000001))) (m1 := mz_up (mz_i xs Ln) 64 1 1) rfl ⟨?_, rfl⟩ ?_
            · refine mz_go 3 (c' := (4, [some (.ref 0), some (.int 1)], [.int 6, .int 1, .int 1], (mz_i xs Ln))) rfl ?_
              refine mz_do (R := mz_r121) (as := [.int 1, .int 1, .int 6]) (rest := []) (r1 := some (.int 1)) (m1 := (mz_i xs Ln)) rfl ⟨?_, rfl⟩ ?_
              · refine mz_go 8 (c' := (15, [some (.int 1), some (.int 1), some (.int 6)], [.int 1], (mz_i xs Ln))) rfl ?_
                exact mz_ret rfl
              refine mz_go 12 (c' := (25, [some (.ref 0), some (.int 1)], [.int (-1000001)], mz_up (mz_i xs Ln) 64 1 1)) rfl ?_
              exact mz_ret rfl
            exact mz_ret rfl
          · refine mz_go 4 (c' := (5, [some (.ref 65), some (.int a), some (.int b), some (.int c), some (.int d)], [.int d, .int c, .int b, .int a], mz_up (mz_i xs Ln) 64 1 1)) rfl ?_
            refine mz_do (R := mz_r135) (as := [.int a, .int b, .int c, .int d]) (rest := []) (r1 := some (.int 0)) (m1 := mz_up (mz_i xs Ln) 64 1 1) rfl ⟨?_, rfl⟩ ?_
            · refine mz_go 3 (c' := (4, [some (.int a), some (.int b), some (.int c), some (.int d)], [.int 6, .int 0, .int a], mz_up (mz_i xs Ln) 64 1 1)) rfl ?_
              refine mz_do (R := mz_r128) (as := [.int a, .int 0, .int 6]) (rest := []) (r1 := some (.int 1)) (m1 := mz_up (mz_i xs Ln) 64 1 1) rfl ⟨?_, rfl⟩ ?_
              · refine mz_go 3 (c' := (if a < 0 then 14 else 5, [some (.int a), some (.int 0), some (.int 6)], [], mz_up (mz_i xs Ln) 64 1 1)) rfl ?_
                refine mz_ifF h1 ?_
                refine mz_go 3 (c' := (if 6 < a then 14 else 10, [some (.int a), some (.int 0), some (.int 6)], [], mz_up (mz_i xs Ln) 64 1 1)) rfl ?_
                refine mz_ifF h2 ?_
                refine mz_go 2 (c' := (15, [some (.int a), some (.int 0), some (.int 6)], [.int 1], mz_up (mz_i xs Ln) 64 1 1)) rfl ?_
                exact mz_ret rfl
              refine mz_go 3 (c' := (12, [some (.int a), some (.int b), some (.int c), some (.int d)], [.int c, .int b], mz_up (mz_i xs Ln) 64 1 1)) rfl ?_
              refine mz_do (R := mz_r131) (as := [.int b, .int c]) (rest := []) (r1 := some (.int 0)) (m1 := mz_up (mz_i xs Ln) 64 1 1) rfl ⟨?_, rfl⟩ ?_
              · refine mz_go 3 (c' := (5, [some (.int b), some (.int c)], [.int 100, .int (-100), .int b], mz_up (mz_i xs Ln) 64 1 1)) rfl ?_
                refine mz_do (R := mz_r128) (as := [.int b, .int (-100), .int 100]) (rest := []) (r1 := some (.int 0)) (m1 := mz_up (mz_i xs Ln) 64 1 1) rfl ⟨?_, rfl⟩ ?_
                · refine mz_go 3 (c' := (if b < (-100) then 14 else 5, [some (.int b), some (.int (-100)), some (.int 100)], [], mz_up (mz_i xs Ln) 64 1 1)) rfl ?_
                  refine mz_ifF h3 ?_
                  refine mz_go 3 (c' := (if 100 < b then 14 else 10, [some (.int b), some (.int (-100)), some (.int 100)], [], mz_up (mz_i xs Ln) 64 1 1)) rfl ?_
                  refine mz_ifT h4 ?_
                  refine mz_go 1 (c' := (15, [some (.int b), some (.int (-100)), some (.int 100)], [.int 0], mz_up (mz_i xs Ln) 64 1 1)) rfl ?_
                  exact mz_ret rfl
                refine mz_go 2 (c' := (27, [some (.int b), some (.int c)], [.int 0], mz_up (mz_i xs Ln) 64 1 1)) rfl ?_
                exact mz_ret rfl
              refine mz_go 2 (c' := (33, [some (.int a), some (.int b), some (.int c), some (.int d)], [.int 0], mz_up (mz_i xs Ln) 64 1 1)) rfl ?_
              exact mz_ret rfl
            refine mz_go 3 (c' := (13, [some (.ref 65), some (.int a), some (.int b), some (.int c), some (.int d)], [.int 1, .ref 65], mz_up (mz_i xs Ln) 64 1 1)) rfl ?_
            refine mz_do (R := mz_r127) (as := [.ref 65, .int 1]) (rest := []) (r1 := some (.int (-1000001))) (m1 := mz_up (mz_up (mz_i xs Ln) 64 1 1) 68 1 1) rfl ⟨?_, rfl⟩ ?_
            · refine mz_go 11 (c' := (14, [some (.ref 65), some (.int 1)], [.int (-1000001)], mz_up (mz_up (mz_i xs Ln) 64 1 1) 68 1 1)) rfl ?_
              exact mz_ret rfl
            exact mz_ret rfl
        · by_cases h5 : c < (-100)
          · refine ⟨(-1000001), mz_up (mz_i xs Ln) 64 1 1, mz_up (mz_up (mz_i xs Ln) 64 1 1) 68 1 1, ⟨?_, rfl⟩, ⟨?_, rfl⟩⟩
            · refine mz_go 4 (c' := (5, [some (.ref 0), some (.int a), some (.int b), some (.int c), some (.int d)], [.int d, .int c, .int b, .int a], (mz_i xs Ln))) rfl ?_
              refine mz_do (R := mz_r113) (as := [.int a, .int b, .int c, .int d]) (rest := []) (r1 := some (.int 0)) (m1 := (mz_i xs Ln)) rfl ⟨?_, rfl⟩ ?_
              · refine mz_go 1 (c' := (1, [some (.int a), some (.int b), some (.int c), some (.int d)], [.int a], (mz_i xs Ln))) rfl ?_
                refine mz_do (R := mz_r114) (as := [.int a]) (rest := []) (r1 := some (.int 1)) (m1 := (mz_i xs Ln)) rfl ⟨?_, rfl⟩ ?_
                · refine mz_go 3 (c' := (4, [some (.int a)], [.int 6, .int 0, .int a], (mz_i xs Ln))) rfl ?_
                  refine mz_do (R := mz_r121) (as := [.int a, .int 0, .int 6]) (rest := []) (r1 := some (.int 1)) (m1 := (mz_i xs Ln)) rfl ⟨?_, rfl⟩ ?_
                  · refine mz_go 3 (c' := (if a < 0 then 14 else 5, [some (.int a), some (.int 0), some (.int 6)], [], (mz_i xs Ln))) rfl ?_
                    refine mz_ifF h1 ?_
                    refine mz_go 3 (c' := (if 6 < a then 14 else 10, [some (.int a), some (.int 0), some (.int 6)], [], (mz_i xs Ln))) rfl ?_
                    refine mz_ifF h2 ?_
                    refine mz_go 2 (c' := (15, [some (.int a), some (.int 0), some (.int 6)], [.int 1], (mz_i xs Ln))) rfl ?_
                    exact mz_ret rfl
                  exact mz_ret rfl
                refine mz_go 3 (c' := (9, [some (.int a), some (.int b), some (.int c), some (.int d)], [.int c, .int b], (mz_i xs Ln))) rfl ?_
                refine mz_do (R := mz_r116) (as := [.int b, .int c]) (rest := []) (r1 := some (.int 0)) (m1 := (mz_i xs Ln)) rfl ⟨?_, rfl⟩ ?_
                · refine mz_go 3 (c' := (5, [some (.int b), some (.int c)], [.int 100, .int (-100), .int b], (mz_i xs Ln))) rfl ?_
                  refine mz_do (R := mz_r121) (as := [.int b, .int (-100), .int 100]) (rest := []) (r1 := some (.int 1)) (m1 := (mz_i xs Ln)) rfl ⟨?_, rfl⟩ ?_
                  · refine mz_go 3 (c' := (if b < (-100) then 14 else 5, [some (.int b), some (.int (-100)), some (.int 100)], [], (mz_i xs Ln))) rfl ?_
                    refine mz_ifF h3 ?_
                    refine mz_go 3 (c' := (if 100 < b then 14 else 10, [some (.int b), some (.int (-100)), some (.int 100)], [], (mz_i xs Ln))) rfl ?_
                    refine mz_ifF h4 ?_
                    refine mz_go 2 (c' := (15, [some (.int b), some (.int (-100)), some (.int 100)], [.int 1], (mz_i xs Ln))) rfl ?_
                    exact mz_ret rfl
                  refine mz_go 4 (c' := (16, [some (.int b), some (.int c)], [.int 100, .int (-100), .int c], (mz_i xs Ln))) rfl ?_
                  refine mz_do (R := mz_r121) (as := [.int c, .int (-100), .int 100]) (rest := []) (r1 := some (.int 0)) (m1 := (mz_i xs Ln)) rfl ⟨?_, rfl⟩ ?_
                  · refine mz_go 3 (c' := (if c < (-100) then 14 else 5, [some (.int c), some (.int (-100)), some (.int 100)], [], (mz_i xs Ln))) rfl ?_
                    refine mz_ifT h5 ?_
                    refine mz_go 1 (c' := (15, [some (.int c), some (.int (-100)), some (.int 100)], [.int 0], (mz_i xs Ln))) rfl ?_
                    exact mz_ret rfl
                  refine mz_go 2 (c' := (27, [some (.int b), some (.int c)], [.int 0], (mz_i xs Ln))) rfl ?_
                  exact mz_ret rfl
                refine mz_go 2 (c' := (30, [some (.int a), some (.int b), some (.int c), some (.int d)], [.int 0], (mz_i xs Ln))) rfl ?_
                exact mz_ret rfl
              refine mz_go 3 (c' := (13, [some (.ref 0), some (.int a), some (.int b), some (.int c), some (.int d)], [.int 1, .ref 0], (mz_i xs Ln))) rfl ?_
              refine mz_do (R := mz_r109) (as := [.ref 0, .int 1]) (rest := []) (r1 := some (.int (-1000001))) (m1 := mz_up (mz_i xs Ln) 64 1 1) rfl ⟨?_, rfl⟩ ?_
              · refine mz_go 3 (c' := (4, [some (.ref 0), some (.int 1)], [.int 6, .int 1, .int 1], (mz_i xs Ln))) rfl ?_
                refine mz_do (R := mz_r121) (as := [.int 1, .int 1, .int 6]) (rest := []) (r1 := some (.int 1)) (m1 := (mz_i xs Ln)) rfl ⟨?_, rfl⟩ ?_
                · refine mz_go 8 (c' := (15, [some (.int 1), some (.int 1), some (.int 6)], [.int 1], (mz_i xs Ln))) rfl ?_
                  exact mz_ret rfl
                refine mz_go 12 (c' := (25, [some (.ref 0), some (.int 1)], [.int (-1000001)], mz_up (mz_i xs Ln) 64 1 1)) rfl ?_
                exact mz_ret rfl
              exact mz_ret rfl
            · refine mz_go 4 (c' := (5, [some (.ref 65), some (.int a), some (.int b), some (.int c), some (.int d)], [.int d, .int c, .int b, .int a], mz_up (mz_i xs Ln) 64 1 1)) rfl ?_
              refine mz_do (R := mz_r135) (as := [.int a, .int b, .int c, .int d]) (rest := []) (r1 := some (.int 0)) (m1 := mz_up (mz_i xs Ln) 64 1 1) rfl ⟨?_, rfl⟩ ?_
              · refine mz_go 3 (c' := (4, [some (.int a), some (.int b), some (.int c), some (.int d)], [.int 6, .int 0, .int a], mz_up (mz_i xs Ln) 64 1 1)) rfl ?_
                refine mz_do (R := mz_r128) (as := [.int a, .int 0, .int 6]) (rest := []) (r1 := some (.int 1)) (m1 := mz_up (mz_i xs Ln) 64 1 1) rfl ⟨?_, rfl⟩ ?_
                · refine mz_go 3 (c' := (if a < 0 then 14 else 5, [some (.int a), some (.int 0), some (.int 6)], [], mz_up (mz_i xs Ln) 64 1 1)) rfl ?_
                  refine mz_ifF h1 ?_
                  refine mz_go 3 (c' := (if 6 < a then 14 else 10, [some (.int a), some (.int 0), some (.int 6)], [], mz_up (mz_i xs Ln) 64 1 1)) rfl ?_
                  refine mz_ifF h2 ?_
                  refine mz_go 2 (c' := (15, [some (.int a), some (.int 0), some (.int 6)], [.int 1], mz_up (mz_i xs Ln) 64 1 1)) rfl ?_
                  exact mz_ret rfl
                refine mz_go 3 (c' := (12, [some (.int a), some (.int b), some (.int c), some (.int d)], [.int c, .int b], mz_up (mz_i xs Ln) 64 1 1)) rfl ?_
                refine mz_do (R := mz_r131) (as := [.int b, .int c]) (rest := []) (r1 := some (.int 0)) (m1 := mz_up (mz_i xs Ln) 64 1 1) rfl ⟨?_, rfl⟩ ?_
                · refine mz_go 3 (c' := (5, [some (.int b), some (.int c)], [.int 100, .int (-100), .int b], mz_up (mz_i xs Ln) 64 1 1)) rfl ?_
                  refine mz_do (R := mz_r128) (as := [.int b, .int (-100), .int 100]) (rest := []) (r1 := some (.int 1)) (m1 := mz_up (mz_i xs Ln) 64 1 1) rfl ⟨?_, rfl⟩ ?_
                  · refine mz_go 3 (c' := (if b < (-100) then 14 else 5, [some (.int b), some (.int (-100)), some (.int 100)], [], mz_up (mz_i xs Ln) 64 1 1)) rfl ?_
                    refine mz_ifF h3 ?_
                    refine mz_go 3 (c' := (if 100 < b then 14 else 10, [some (.int b), some (.int (-100)), some (.int 100)], [], mz_up (mz_i xs Ln) 64 1 1)) rfl ?_
                    refine mz_ifF h4 ?_
                    refine mz_go 2 (c' := (15, [some (.int b), some (.int (-100)), some (.int 100)], [.int 1], mz_up (mz_i xs Ln) 64 1 1)) rfl ?_
                    exact mz_ret rfl
                  refine mz_go 4 (c' := (16, [some (.int b), some (.int c)], [.int 100, .int (-100), .int c], mz_up (mz_i xs Ln) 64 1 1)) rfl ?_
                  refine mz_do (R := mz_r128) (as := [.int c, .int (-100), .int 100]) (rest := []) (r1 := some (.int 0)) (m1 := mz_up (mz_i xs Ln) 64 1 1) rfl ⟨?_, rfl⟩ ?_
                  · refine mz_go 3 (c' := (if c < (-100) then 14 else 5, [some (.int c), some (.int (-100)), some (.int 100)], [], mz_up (mz_i xs Ln) 64 1 1)) rfl ?_
                    refine mz_ifT h5 ?_
                    refine mz_go 1 (c' := (15, [some (.int c), some (.int (-100)), some (.int 100)], [.int 0], mz_up (mz_i xs Ln) 64 1 1)) rfl ?_
                    exact mz_ret rfl
                  refine mz_go 2 (c' := (27, [some (.int b), some (.int c)], [.int 0], mz_up (mz_i xs Ln) 64 1 1)) rfl ?_
                  exact mz_ret rfl
                refine mz_go 2 (c' := (33, [some (.int a), some (.int b), some (.int c), some (.int d)], [.int 0], mz_up (mz_i xs Ln) 64 1 1)) rfl ?_
                exact mz_ret rfl
              refine mz_go 3 (c' := (13, [some (.ref 65), some (.int a), some (.int b), some (.int c), some (.int d)], [.int 1, .ref 65], mz_up (mz_i xs Ln) 64 1 1)) rfl ?_
              refine mz_do (R := mz_r127) (as := [.ref 65, .int 1]) (rest := []) (r1 := some (.int (-1000001))) (m1 := mz_up (mz_up (mz_i xs Ln) 64 1 1) 68 1 1) rfl ⟨?_, rfl⟩ ?_
              · refine mz_go 11 (c' := (14, [some (.ref 65), some (.int 1)], [.int (-1000001)], mz_up (mz_up (mz_i xs Ln) 64 1 1) 68 1 1)) rfl ?_
                exact mz_ret rfl
              exact mz_ret rfl
          · by_cases h6 : 100 < c
            · refine ⟨(-1000001), mz_up (mz_i xs Ln) 64 1 1, mz_up (mz_up (mz_i xs Ln) 64 1 1) 68 1 1, ⟨?_, rfl⟩, ⟨?_, rfl⟩⟩
              · refine mz_go 4 (c' := (5, [some (.ref 0), some (.int a), some (.int b), some (.int c), some (.int d)], [.int d, .int c, .int b, .int a], (mz_i xs Ln))) rfl ?_
                refine mz_do (R := mz_r113) (as := [.int a, .int b, .int c, .int d]) (rest := []) (r1 := some (.int 0)) (m1 := (mz_i xs Ln)) rfl ⟨?_, rfl⟩ ?_
                · refine mz_go 1 (c' := (1, [some (.int a), some (.int b), some (.int c), some (.int d)], [.int a], (mz_i xs Ln))) rfl ?_
                  refine mz_do (R := mz_r114) (as := [.int a]) (rest := []) (r1 := some (.int 1)) (m1 := (mz_i xs Ln)) rfl ⟨?_, rfl⟩ ?_
                  · refine mz_go 3 (c' := (4, [some (.int a)], [.int 6, .int 0, .int a], (mz_i xs Ln))) rfl ?_
                    refine mz_do (R := mz_r121) (as := [.int a, .int 0, .int 6]) (rest := []) (r1 := some (.int 1)) (m1 := (mz_i xs Ln)) rfl ⟨?_, rfl⟩ ?_
                    · refine mz_go 3 (c' := (if a < 0 then 14 else 5, [some (.int a), some (.int 0), some (.int 6)], [], (mz_i xs Ln))) rfl ?_
                      refine mz_ifF h1 ?_
                      refine mz_go 3 (c' := (if 6 < a then 14 else 10, [some (.int a), some (.int 0), some (.int 6)], [], (mz_i xs Ln))) rfl ?_
                      refine mz_ifF h2 ?_
                      refine mz_go 2 (c' := (15, [some (.int a), some (.int 0), some (.int 6)], [.int 1], (mz_i xs Ln))) rfl ?_
                      exact mz_ret rfl
                    exact mz_ret rfl
                  refine mz_go 3 (c' := (9, [some (.int a), some (.int b), some (.int c), some (.int d)], [.int c, .int b], (mz_i xs Ln))) rfl ?_
                  refine mz_do (R := mz_r116) (as := [.int b, .int c]) (rest := []) (r1 := some (.int 0)) (m1 := (mz_i xs Ln)) rfl ⟨?_, rfl⟩ ?_
                  · refine mz_go 3 (c' := (5, [some (.int b), some (.int c)], [.int 100, .int (-100), .int b], (mz_i xs Ln))) rfl ?_
                    refine mz_do (R := mz_r121) (as := [.int b, .int (-100), .int 100]) (rest := []) (r1 := some (.int 1)) (m1 := (mz_i xs Ln)) rfl ⟨?_, rfl⟩ ?_
                    · refine mz_go 3 (c' := (if b < (-100) then 14 else 5, [some (.int b), some (.int (-100)), some (.int 100)], [], (mz_i xs Ln))) rfl ?_
                      refine mz_ifF h3 ?_
                      refine mz_go 3 (c' := (if 100 < b then 14 else 10, [some (.int b), some (.int (-100)), some (.int 100)], [], (mz_i xs Ln))) rfl ?_
                      refine mz_ifF h4 ?_
                      refine mz_go 2 (c' := (15, [some (.int b), some (.int (-100)), some (.int 100)], [.int 1], (mz_i xs Ln))) rfl ?_
                      exact mz_ret rfl
                    refine mz_go 4 (c' := (16, [some (.int b), some (.int c)], [.int 100, .int (-100), .int c], (mz_i xs Ln))) rfl ?_
                    refine mz_do (R := mz_r121) (as := [.int c, .int (-100), .int 100]) (rest := []) (r1 := some (.int 0)) (m1 := (mz_i xs Ln)) rfl ⟨?_, rfl⟩ ?_
                    · refine mz_go 3 (c' := (if c < (-100) then 14 else 5, [some (.int c), some (.int (-100)), some (.int 100)], [], (mz_i xs Ln))) rfl ?_
                      refine mz_ifF h5 ?_
                      refine mz_go 3 (c' := (if 100 < c then 14 else 10, [some (.int c), some (.int (-100)), some (.int 100)], [], (mz_i xs Ln))) rfl ?_
                      refine mz_ifT h6 ?_
                      refine mz_go 1 (c' := (15, [some (.int c), some (.int (-100)), some (.int 100)], [.int 0], (mz_i xs Ln))) rfl ?_
                      exact mz_ret rfl
                    refine mz_go 2 (c' := (27, [some (.int b), some (.int c)], [.int 0], (mz_i xs Ln))) rfl ?_
                    exact mz_ret rfl
                  refine mz_go 2 (c' := (30, [some (.int a), some (.int b), some (.int c), some (.int d)], [.int 0], (mz_i xs Ln))) rfl ?_
                  exact mz_ret rfl
                refine mz_go 3 (c' := (13, [some (.ref 0), some (.int a), some (.int b), some (.int c), some (.int d)], [.int 1, .ref 0], (mz_i xs Ln))) rfl ?_
                refine mz_do (R := mz_r109) (as := [.ref 0, .int 1]) (rest := []) (r1 := some (.int (-1000001))) (m1 := mz_up (mz_i xs Ln) 64 1 1) rfl ⟨?_, rfl⟩ ?_
                · refine mz_go 3 (c' := (4, [some (.ref 0), some (.int 1)], [.int 6, .int 1, .int 1], (mz_i xs Ln))) rfl ?_
                  refine mz_do (R := mz_r121) (as := [.int 1, .int 1, .int 6]) (rest := []) (r1 := some (.int 1)) (m1 := (mz_i xs Ln)) rfl ⟨?_, rfl⟩ ?_
                  · refine mz_go 8 (c' := (15, [some (.int 1), some (.int 1), some (.int 6)], [.int 1], (mz_i xs Ln))) rfl ?_
                    exact mz_ret rfl
                  refine mz_go 12 (c' := (25, [some (.ref 0), some (.int 1)], [.int (-1000001)], mz_up (mz_i xs Ln) 64 1 1)) rfl ?_
                  exact mz_ret rfl
                exact mz_ret rfl
              · refine mz_go 4 (c' := (5, [some (.ref 65), some (.int a), some (.int b), some (.int c), some (.int d)], [.int d, .int c, .int b, .int a], mz_up (mz_i xs Ln) 64 1 1)) rfl ?_
                refine mz_do (R := mz_r135) (as := [.int a, .int b, .int c, .int d]) (rest := []) (r1 := some (.int 0)) (m1 := mz_up (mz_i xs Ln) 64 1 1) rfl ⟨?_, rfl⟩ ?_
                · refine mz_go 3 (c' := (4, [some (.int a), some (.int b), some (.int c), some (.int d)], [.int 6, .int 0, .int a], mz_up (mz_i xs Ln) 64 1 1)) rfl ?_
                  refine mz_do (R := mz_r128) (as := [.int a, .int 0, .int 6]) (rest := []) (r1 := some (.int 1)) (m1 := mz_up (mz_i xs Ln) 64 1 1) rfl ⟨?_, rfl⟩ ?_
                  · refine mz_go 3 (c' := (if a < 0 then 14 else 5, [some (.int a), some (.int 0), some (.int 6)], [], mz_up (mz_i xs Ln) 64 1 1)) rfl ?_
                    refine mz_ifF h1 ?_
                    refine mz_go 3 (c' := (if 6 < a then 14 else 10, [some (.int a), some (.int 0), some (.int 6)], [], mz_up (mz_i xs Ln) 64 1 1)) rfl ?_
                    refine mz_ifF h2 ?_
                    refine mz_go 2 (c' := (15, [some (.int a), some (.int 0), some (.int 6)], [.int 1], mz_up (mz_i xs Ln) 64 1 1)) rfl ?_
                    exact mz_ret rfl
                  refine mz_go 3 (c' := (12, [some (.int a), some (.int b), some (.int c), some (.int d)], [.int c, .int b], mz_up (mz_i xs Ln) 64 1 1)) rfl ?_
                  refine mz_do (R := mz_r131) (as := [.int b, .int c]) (rest := []) (r1 := some (.int 0)) (m1 := mz_up (mz_i xs Ln) 64 1 1) rfl ⟨?_, rfl⟩ ?_
                  · refine mz_go 3 (c' := (5, [some (.int b), some (.int c)], [.int 100, .int (-100), .int b], mz_up (mz_i xs Ln) 64 1 1)) rfl ?_
                    refine mz_do (R := mz_r128) (as := [.int b, .int (-100), .int 100]) (rest := []) (r1 := some (.int 1)) (m1 := mz_up (mz_i xs Ln) 64 1 1) rfl ⟨?_, rfl⟩ ?_
                    · refine mz_go 3 (c' := (if b < (-100) then 14 else 5, [some (.int b), some (.int (-100)), some (.int 100)], [], mz_up (mz_i xs Ln) 64 1 1)) rfl ?_
                      refine mz_ifF h3 ?_
                      refine mz_go 3 (c' := (if 100 < b then 14 else 10, [some (.int b), some (.int (-100)), some (.int 100)], [], mz_up (mz_i xs Ln) 64 1 1)) rfl ?_
                      refine mz_ifF h4 ?_
                      refine mz_go 2 (c' := (15, [some (.int b), some (.int (-100)), some (.int 100)], [.int 1], mz_up (mz_i xs Ln) 64 1 1)) rfl ?_
                      exact mz_ret rfl
                    refine mz_go 4 (c' := (16, [some (.int b), some (.int c)], [.int 100, .int (-100), .int c], mz_up (mz_i xs Ln) 64 1 1)) rfl ?_
                    refine mz_do (R := mz_r128) (as := [.int c, .int (-100), .int 100]) (rest := []) (r1 := some (.int 0)) (m1 := mz_up (mz_i xs Ln) 64 1 1) rfl ⟨?_, rfl⟩ ?_
                    · refine mz_go 3 (c' := (if c < (-100) then 14 else 5, [some (.int c), some (.int (-100)), some (.int 100)], [], mz_up (mz_i xs Ln) 64 1 1)) rfl ?_
                      refine mz_ifF h5 ?_
                      refine mz_go 3 (c' := (if 100 < c then 14 else 10, [some (.int c), some (.int (-100)), some (.int 100)], [], mz_up (mz_i xs Ln) 64 1 1)) rfl ?_
                      refine mz_ifT h6 ?_
                      refine mz_go 1 (c' := (15, [some (.int c), some (.int (-100)), some (.int 100)], [.int 0], mz_up (mz_i xs Ln) 64 1 1)) rfl ?_
                      exact mz_ret rfl
                    refine mz_go 2 (c' := (27, [some (.int b), some (.int c)], [.int 0], mz_up (mz_i xs Ln) 64 1 1)) rfl ?_
                    exact mz_ret rfl
                  refine mz_go 2 (c' := (33, [some (.int a), some (.int b), some (.int c), some (.int d)], [.int 0], mz_up (mz_i xs Ln) 64 1 1)) rfl ?_
                  exact mz_ret rfl
                refine mz_go 3 (c' := (13, [some (.ref 65), some (.int a), some (.int b), some (.int c), some (.int d)], [.int 1, .ref 65], mz_up (mz_i xs Ln) 64 1 1)) rfl ?_
                refine mz_do (R := mz_r127) (as := [.ref 65, .int 1]) (rest := []) (r1 := some (.int (-1000001))) (m1 := mz_up (mz_up (mz_i xs Ln) 64 1 1) 68 1 1) rfl ⟨?_, rfl⟩ ?_
                · refine mz_go 11 (c' := (14, [some (.ref 65), some (.int 1)], [.int (-1000001)], mz_up (mz_up (mz_i xs Ln) 64 1 1) 68 1 1)) rfl ?_
                  exact mz_ret rfl
                exact mz_ret rfl
            · by_cases h7 : d < 0
              · refine ⟨(-1000001), mz_up (mz_i xs Ln) 64 1 1, mz_up (mz_up (mz_i xs Ln) 64 1 1) 68 1 1, ⟨?_, rfl⟩, ⟨?_, rfl⟩⟩
                · refine mz_go 4 (c' := (5, [some (.ref 0), some (.int a), some (.int b), some (.int c), some (.int d)], [.int d, .int c, .int b, .int a], (mz_i xs Ln))) rfl ?_
                  refine mz_do (R := mz_r113) (as := [.int a, .int b, .int c, .int d]) (rest := []) (r1 := some (.int 0)) (m1 := (mz_i xs Ln)) rfl ⟨?_, rfl⟩ ?_
                  · refine mz_go 1 (c' := (1, [some (.int a), some (.int b), some (.int c), some (.int d)], [.int a], (mz_i xs Ln))) rfl ?_
                    refine mz_do (R := mz_r114) (as := [.int a]) (rest := []) (r1 := some (.int 1)) (m1 := (mz_i xs Ln)) rfl ⟨?_, rfl⟩ ?_
                    · refine mz_go 3 (c' := (4, [some (.int a)], [.int 6, .int 0, .int a], (mz_i xs Ln))) rfl ?_
                      refine mz_do (R := mz_r121) (as := [.int a, .int 0, .int 6]) (rest := []) (r1 := some (.int 1)) (m1 := (mz_i xs Ln)) rfl ⟨?_, rfl⟩ ?_
                      · refine mz_go 3 (c' := (if a < 0 then 14 else 5, [some (.int a), some (.int 0), some (.int 6)], [], (mz_i xs Ln))) rfl ?_
                        refine mz_ifF h1 ?_
                        refine mz_go 3 (c' := (if 6 < a then 14 else 10, [some (.int a), some (.int 0), some (.int 6)], [], (mz_i xs Ln))) rfl ?_
                        refine mz_ifF h2 ?_
                        refine mz_go 2 (c' := (15, [some (.int a), some (.int 0), some (.int 6)], [.int 1], (mz_i xs Ln))) rfl ?_
                        exact mz_ret rfl
                      exact mz_ret rfl
                    refine mz_go 3 (c' := (9, [some (.int a), some (.int b), some (.int c), some (.int d)], [.int c, .int b], (mz_i xs Ln))) rfl ?_
                    refine mz_do (R := mz_r116) (as := [.int b, .int c]) (rest := []) (r1 := some (.int 1)) (m1 := (mz_i xs Ln)) rfl ⟨?_, rfl⟩ ?_
                    · refine mz_go 3 (c' := (5, [some (.int b), some (.int c)], [.int 100, .int (-100), .int b], (mz_i xs Ln))) rfl ?_
                      refine mz_do (R := mz_r121) (as := [.int b, .int (-100), .int 100]) (rest := []) (r1 := some (.int 1)) (m1 := (mz_i xs Ln)) rfl ⟨?_, rfl⟩ ?_
                      · refine mz_go 3 (c' := (if b < (-100) then 14 else 5, [some (.int b), some (.int (-100)), some (.int 100)], [], (mz_i xs Ln))) rfl ?_
                        refine mz_ifF h3 ?_
                        refine mz_go 3 (c' := (if 100 < b then 14 else 10, [some (.int b), some (.int (-100)), some (.int 100)], [], (mz_i xs Ln))) rfl ?_
                        refine mz_ifF h4 ?_
                        refine mz_go 2 (c' := (15, [some (.int b), some (.int (-100)), some (.int 100)], [.int 1], (mz_i xs Ln))) rfl ?_
                        exact mz_ret rfl
                      refine mz_go 4 (c' := (16, [some (.int b), some (.int c)], [.int 100, .int (-100), .int c], (mz_i xs Ln))) rfl ?_
                      refine mz_do (R := mz_r121) (as := [.int c, .int (-100), .int 100]) (rest := []) (r1 := some (.int 1)) (m1 := (mz_i xs Ln)) rfl ⟨?_, rfl⟩ ?_
                      · refine mz_go 3 (c' := (if c < (-100) then 14 else 5, [some (.int c), some (.int (-100)), some (.int 100)], [], (mz_i xs Ln))) rfl ?_
                        refine mz_ifF h5 ?_
                        refine mz_go 3 (c' := (if 100 < c then 14 else 10, [some (.int c), some (.int (-100)), some (.int 100)], [], (mz_i xs Ln))) rfl ?_
                        refine mz_ifF h6 ?_
                        refine mz_go 2 (c' := (15, [some (.int c), some (.int (-100)), some (.int 100)], [.int 1], (mz_i xs Ln))) rfl ?_
                        exact mz_ret rfl
                      refine mz_go 3 (c' := (27, [some (.int b), some (.int c)], [.int 1], (mz_i xs Ln))) rfl ?_
                      exact mz_ret rfl
                    refine mz_go 4 (c' := (19, [some (.int a), some (.int b), some (.int c), some (.int d)], [.int 99, .int 0, .int d], (mz_i xs Ln))) rfl ?_
                    refine mz_do (R := mz_r121) (as := [.int d, .int 0, .int 99]) (rest := []) (r1 := some (.int 0)) (m1 := (mz_i xs Ln)) rfl ⟨?_, rfl⟩ ?_
                    · refine mz_go 3 (c' := (if d < 0 then 14 else 5, [some (.int d), some (.int 0), some (.int 99)], [], (mz_i xs Ln))) rfl ?_
                      refine mz_ifT h7 ?_
                      refine mz_go 1 (c' := (15, [some (.int d), some (.int 0), some (.int 99)], [.int 0], (mz_i xs Ln))) rfl ?_
                      exact mz_ret rfl
                    refine mz_go 2 (c' := (30, [some (.int a), some (.int b), some (.int c), some (.int d)], [.int 0], (mz_i xs Ln))) rfl ?_
                    exact mz_ret rfl
                  refine mz_go 3 (c' := (13, [some (.ref 0), some (.int a), some (.int b), some (.int c), some (.int d)], [.int 1, .ref 0], (mz_i xs Ln))) rfl ?_
                  refine mz_do (R := mz_r109) (as := [.ref 0, .int 1]) (rest := []) (r1 := some (.int (-1000001))) (m1 := mz_up (mz_i xs Ln) 64 1 1) rfl ⟨?_, rfl⟩ ?_
                  · refine mz_go 3 (c' := (4, [some (.ref 0), some (.int 1)], [.int 6, .int 1, .int 1], (mz_i xs Ln))) rfl ?_
                    refine mz_do (R := mz_r121) (as := [.int 1, .int 1, .int 6]) (rest := []) (r1 := some (.int 1)) (m1 := (mz_i xs Ln)) rfl ⟨?_, rfl⟩ ?_
                    · refine mz_go 8 (c' := (15, [some (.int 1), some (.int 1), some (.int 6)], [.int 1], (mz_i xs Ln))) rfl ?_
                      exact mz_ret rfl
                    refine mz_go 12 (c' := (25, [some (.ref 0), some (.int 1)], [.int (-1000001)], mz_up (mz_i xs Ln) 64 1 1)) rfl ?_
                    exact mz_ret rfl
                  exact mz_ret rfl
                · refine mz_go 4 (c' := (5, [some (.ref 65), some (.int a), some (.int b), some (.int c), some (.int d)], [.int d, .int c, .int b, .int a], mz_up (mz_i xs Ln) 64 1 1)) rfl ?_
                  refine mz_do (R := mz_r135) (as := [.int a, .int b, .int c, .int d]) (rest := []) (r1 := some (.int 0)) (m1 := mz_up (mz_i xs Ln) 64 1 1) rfl ⟨?_, rfl⟩ ?_
                  · refine mz_go 3 (c' := (4, [some (.int a), some (.int b), some (.int c), some (.int d)], [.int 6, .int 0, .int a], mz_up (mz_i xs Ln) 64 1 1)) rfl ?_
                    refine mz_do (R := mz_r128) (as := [.int a, .int 0, .int 6]) (rest := []) (r1 := some (.int 1)) (m1 := mz_up (mz_i xs Ln) 64 1 1) rfl ⟨?_, rfl⟩ ?_
                    · refine mz_go 3 (c' := (if a < 0 then 14 else 5, [some (.int a), some (.int 0), some (.int 6)], [], mz_up (mz_i xs Ln) 64 1 1)) rfl ?_
                      refine mz_ifF h1 ?_
                      refine mz_go 3 (c' := (if 6 < a then 14 else 10, [some (.int a), some (.int 0), some (.int 6)], [], mz_up (mz_i xs Ln) 64 1 1)) rfl ?_
                      refine mz_ifF h2 ?_
                      refine mz_go 2 (c' := (15, [some (.int a), some (.int 0), some (.int 6)], [.int 1], mz_up (mz_i xs Ln) 64 1 1)) rfl ?_
                      exact mz_ret rfl
                    refine mz_go 3 (c' := (12, [some (.int a), some (.int b), some (.int c), some (.int d)], [.int c, .int b], mz_up (mz_i xs Ln) 64 1 1)) rfl ?_
                    refine mz_do (R := mz_r131) (as := [.int b, .int c]) (rest := []) (r1 := some (.int 1)) (m1 := mz_up (mz_i xs Ln) 64 1 1) rfl ⟨?_, rfl⟩ ?_
                    · refine mz_go 3 (c' := (5, [some (.int b), some (.int c)], [.int 100, .int (-100), .int b], mz_up (mz_i xs Ln) 64 1 1)) rfl ?_
                      refine mz_do (R := mz_r128) (as := [.int b, .int (-100), .int 100]) (rest := []) (r1 := some (.int 1)) (m1 := mz_up (mz_i xs Ln) 64 1 1) rfl ⟨?_, rfl⟩ ?_
                      · refine mz_go 3 (c' := (if b < (-100) then 14 else 5, [some (.int b), some (.int (-100)), some (.int 100)], [], mz_up (mz_i xs Ln) 64 1 1)) rfl ?_
                        refine mz_ifF h3 ?_
                        refine mz_go 3 (c' := (if 100 < b then 14 else 10, [some (.int b), some (.int (-100)), some (.int 100)], [], mz_up (mz_i xs Ln) 64 1 1)) rfl ?_
                        refine mz_ifF h4 ?_
                        refine mz_go 2 (c' := (15, [some (.int b), some (.int (-100)), some (.int 100)], [.int 1], mz_up (mz_i xs Ln) 64 1 1)) rfl ?_
                        exact mz_ret rfl
                      refine mz_go 4 (c' := (16, [some (.int b), some (.int c)], [.int 100, .int (-100), .int c], mz_up (mz_i xs Ln) 64 1 1)) rfl ?_
                      refine mz_do (R := mz_r128) (as := [.int c, .int (-100), .int 100]) (rest := []) (r1 := some (.int 1)) (m1 := mz_up (mz_i xs Ln) 64 1 1) rfl ⟨?_, rfl⟩ ?_
                      · refine mz_go 3 (c' := (if c < (-100) then 14 else 5, [some (.int c), some (.int (-100)), some (.int 100)], [], mz_up (mz_i xs Ln) 64 1 1)) rfl ?_
                        refine mz_ifF h5 ?_
                        refine mz_go 3 (c' := (if 100 < c then 14 else 10, [some (.int c), some (.int (-100)), some (.int 100)], [], mz_up (mz_i xs Ln) 64 1 1)) rfl ?_
                        refine mz_ifF h6 ?_
                        refine mz_go 2 (c' := (15, [some (.int c), some (.int (-100)), some (.int 100)], [.int 1], mz_up (mz_i xs Ln) 64 1 1)) rfl ?_
                        exact mz_ret rfl
                      refine mz_go 3 (c' := (27, [some (.int b), some (.int c)], [.int 1], mz_up (mz_i xs Ln) 64 1 1)) rfl ?_
                      exact mz_ret rfl
                    refine mz_go 4 (c' := (22, [some (.int a), some (.int b), some (.int c), some (.int d)], [.int 99, .int 0, .int d], mz_up (mz_i xs Ln) 64 1 1)) rfl ?_
                    refine mz_do (R := mz_r128) (as := [.int d, .int 0, .int 99]) (rest := []) (r1 := some (.int 0)) (m1 := mz_up (mz_i xs Ln) 64 1 1) rfl ⟨?_, rfl⟩ ?_
                    · refine mz_go 3 (c' := (if d < 0 then 14 else 5, [some (.int d), some (.int 0), some (.int 99)], [], mz_up (mz_i xs Ln) 64 1 1)) rfl ?_
                      refine mz_ifT h7 ?_
                      refine mz_go 1 (c' := (15, [some (.int d), some (.int 0), some (.int 99)], [.int 0], mz_up (mz_i xs Ln) 64 1 1)) rfl ?_
                      exact mz_ret rfl
                    refine mz_go 2 (c' := (33, [some (.int a), some (.int b), some (.int c), some (.int d)], [.int 0], mz_up (mz_i xs Ln) 64 1 1)) rfl ?_
                    exact mz_ret rfl
                  refine mz_go 3 (c' := (13, [some (.ref 65), some (.int a), some (.int b), some (.int c), some (.int d)], [.int 1, .ref 65], mz_up (mz_i xs Ln) 64 1 1)) rfl ?_
                  refine mz_do (R := mz_r127) (as := [.ref 65, .int 1]) (rest := []) (r1 := some (.int (-1000001))) (m1 := mz_up (mz_up (mz_i xs Ln) 64 1 1) 68 1 1) rfl ⟨?_, rfl⟩ ?_
                  · refine mz_go 11 (c' := (14, [some (.ref 65), some (.int 1)], [.int (-1000001)], mz_up (mz_up (mz_i xs Ln) 64 1 1) 68 1 1)) rfl ?_
                    exact mz_ret rfl
                  exact mz_ret rfl
              · by_cases h8 : 99 < d
                · refine ⟨(-1000001), mz_up (mz_i xs Ln) 64 1 1, mz_up (mz_up (mz_i xs Ln) 64 1 1) 68 1 1, ⟨?_, rfl⟩, ⟨?_, rfl⟩⟩
                  · refine mz_go 4 (c' := (5, [some (.ref 0), some (.int a), some (.int b), some (.int c), some (.int d)], [.int d, .int c, .int b, .int a], (mz_i xs Ln))) rfl ?_
                    refine mz_do (R := mz_r113) (as := [.int a, .int b, .int c, .int d]) (rest := []) (r1 := some (.int 0)) (m1 := (mz_i xs Ln)) rfl ⟨?_, rfl⟩ ?_
                    · refine mz_go 1 (c' := (1, [some (.int a), some (.int b), some (.int c), some (.int d)], [.int a], (mz_i xs Ln))) rfl ?_
                      refine mz_do (R := mz_r114) (as := [.int a]) (rest := []) (r1 := some (.int 1)) (m1 := (mz_i xs Ln)) rfl ⟨?_, rfl⟩ ?_
                      · refine mz_go 3 (c' := (4, [some (.int a)], [.int 6, .int 0, .int a], (mz_i xs Ln))) rfl ?_
                        refine mz_do (R := mz_r121) (as := [.int a, .int 0, .int 6]) (rest := []) (r1 := some (.int 1)) (m1 := (mz_i xs Ln)) rfl ⟨?_, rfl⟩ ?_
                        · refine mz_go 3 (c' := (if a < 0 then 14 else 5, [some (.int a), some (.int 0), some (.int 6)], [], (mz_i xs Ln))) rfl ?_
                          refine mz_ifF h1 ?_
                          refine mz_go 3 (c' := (if 6 < a then 14 else 10, [some (.int a), some (.int 0), some (.int 6)], [], (mz_i xs Ln))) rfl ?_
                          refine mz_ifF h2 ?_
                          refine mz_go 2 (c' := (15, [some (.int a), some (.int 0), some (.int 6)], [.int 1], (mz_i xs Ln))) rfl ?_
                          exact mz_ret rfl
                        exact mz_ret rfl
                      refine mz_go 3 (c' := (9, [some (.int a), some (.int b), some (.int c), some (.int d)], [.int c, .int b], (mz_i xs Ln))) rfl ?_
                      refine mz_do (R := mz_r116) (as := [.int b, .int c]) (rest := []) (r1 := some (.int 1)) (m1 := (mz_i xs Ln)) rfl ⟨?_, rfl⟩ ?_
                      · refine mz_go 3 (c' := (5, [some (.int b), some (.int c)], [.int 100, .int (-100), .int b], (mz_i xs Ln))) rfl ?_
                        refine mz_do (R := mz_r121) (as := [.int b, .int (-100), .int 100]) (rest := []) (r1 := some (.int 1)) (m1 := (mz_i xs Ln)) rfl ⟨?_, rfl⟩ ?_
                        · refine mz_go 3 (c' := (if b < (-100) then 14 else 5, [some (.int b), some (.int (-100)), some (.int 100)], [], (mz_i xs Ln))) rfl ?_
                          refine mz_ifF h3 ?_
                          refine mz_go 3 (c' := (if 100 < b then 14 else 10, [some (.int b), some (.int (-100)), some (.int 100)], [], (mz_i xs Ln))) rfl ?_
                          refine mz_ifF h4 ?_
                          refine mz_go 2 (c' := (15, [some (.int b), some (.int (-100)), some (.int 100)], [.int 1], (mz_i xs Ln))) rfl ?_
                          exact mz_ret rfl
                        refine mz_go 4 (c' := (16, [some (.int b), some (.int c)], [.int 100, .int (-100), .int c], (mz_i xs Ln))) rfl ?_
                        refine mz_do (R := mz_r121) (as := [.int c, .int (-100), .int 100]) (rest := []) (r1 := some (.int 1)) (m1 := (mz_i xs Ln)) rfl ⟨?_, rfl⟩ ?_
                        · refine mz_go 3 (c' := (if c < (-100) then 14 else 5, [some (.int c), some (.int (-100)), some (.int 100)], [], (mz_i xs Ln))) rfl ?_
                          refine mz_ifF h5 ?_
                          refine mz_go 3 (c' := (if 100 < c then 14 else 10, [some (.int c), some (.int (-100)), some (.int 100)], [], (mz_i xs Ln))) rfl ?_
                          refine mz_ifF h6 ?_
                          refine mz_go 2 (c' := (15, [some (.int c), some (.int (-100)), some (.int 100)], [.int 1], (mz_i xs Ln))) rfl ?_
                          exact mz_ret rfl
                        refine mz_go 3 (c' := (27, [some (.int b), some (.int c)], [.int 1], (mz_i xs Ln))) rfl ?_
                        exact mz_ret rfl
                      refine mz_go 4 (c' := (19, [some (.int a), some (.int b), some (.int c), some (.int d)], [.int 99, .int 0, .int d], (mz_i xs Ln))) rfl ?_
                      refine mz_do (R := mz_r121) (as := [.int d, .int 0, .int 99]) (rest := []) (r1 := some (.int 0)) (m1 := (mz_i xs Ln)) rfl ⟨?_, rfl⟩ ?_
                      · refine mz_go 3 (c' := (if d < 0 then 14 else 5, [some (.int d), some (.int 0), some (.int 99)], [], (mz_i xs Ln))) rfl ?_
                        refine mz_ifF h7 ?_
                        refine mz_go 3 (c' := (if 99 < d then 14 else 10, [some (.int d), some (.int 0), some (.int 99)], [], (mz_i xs Ln))) rfl ?_
                        refine mz_ifT h8 ?_
                        refine mz_go 1 (c' := (15, [some (.int d), some (.int 0), some (.int 99)], [.int 0], (mz_i xs Ln))) rfl ?_
                        exact mz_ret rfl
                      refine mz_go 2 (c' := (30, [some (.int a), some (.int b), some (.int c), some (.int d)], [.int 0], (mz_i xs Ln))) rfl ?_
                      exact mz_ret rfl
                    refine mz_go 3 (c' := (13, [some (.ref 0), some (.int a), some (.int b), some (.int c), some (.int d)], [.int 1, .ref 0], (mz_i xs Ln))) rfl ?_
                    refine mz_do (R := mz_r109) (as := [.ref 0, .int 1]) (rest := []) (r1 := some (.int (-1000001))) (m1 := mz_up (mz_i xs Ln) 64 1 1) rfl ⟨?_, rfl⟩ ?_
                    · refine mz_go 3 (c' := (4, [some (.ref 0), some (.int 1)], [.int 6, .int 1, .int 1], (mz_i xs Ln))) rfl ?_
                      refine mz_do (R := mz_r121) (as := [.int 1, .int 1, .int 6]) (rest := []) (r1 := some (.int 1)) (m1 := (mz_i xs Ln)) rfl ⟨?_, rfl⟩ ?_
                      · refine mz_go 8 (c' := (15, [some (.int 1), some (.int 1), some (.int 6)], [.int 1], (mz_i xs Ln))) rfl ?_
                        exact mz_ret rfl
                      refine mz_go 12 (c' := (25, [some (.ref 0), some (.int 1)], [.int (-1000001)], mz_up (mz_i xs Ln) 64 1 1)) rfl ?_
                      exact mz_ret rfl
                    exact mz_ret rfl
                  · refine mz_go 4 (c' := (5, [some (.ref 65), some (.int a), some (.int b), some (.int c), some (.int d)], [.int d, .int c, .int b, .int a], mz_up (mz_i xs Ln) 64 1 1)) rfl ?_
                    refine mz_do (R := mz_r135) (as := [.int a, .int b, .int c, .int d]) (rest := []) (r1 := some (.int 0)) (m1 := mz_up (mz_i xs Ln) 64 1 1) rfl ⟨?_, rfl⟩ ?_
                    · refine mz_go 3 (c' := (4, [some (.int a), some (.int b), some (.int c), some (.int d)], [.int 6, .int 0, .int a], mz_up (mz_i xs Ln) 64 1 1)) rfl ?_
                      refine mz_do (R := mz_r128) (as := [.int a, .int 0, .int 6]) (rest := []) (r1 := some (.int 1)) (m1 := mz_up (mz_i xs Ln) 64 1 1) rfl ⟨?_, rfl⟩ ?_
                      · refine mz_go 3 (c' := (if a < 0 then 14 else 5, [some (.int a), some (.int 0), some (.int 6)], [], mz_up (mz_i xs Ln) 64 1 1)) rfl ?_
                        refine mz_ifF h1 ?_
                        refine mz_go 3 (c' := (if 6 < a then 14 else 10, [some (.int a), some (.int 0), some (.int 6)], [], mz_up (mz_i xs Ln) 64 1 1)) rfl ?_
                        refine mz_ifF h2 ?_
                        refine mz_go 2 (c' := (15, [some (.int a), some (.int 0), some (.int 6)], [.int 1], mz_up (mz_i xs Ln) 64 1 1)) rfl ?_
                        exact mz_ret rfl
                      refine mz_go 3 (c' := (12, [some (.int a), some (.int b), some (.int c), some (.int d)], [.int c, .int b], mz_up (mz_i xs Ln) 64 1 1)) rfl ?_
                      refine mz_do (R := mz_r131) (as := [.int b, .int c]) (rest := []) (r1 := some (.int 1)) (m1 := mz_up (mz_i xs Ln) 64 1 1) rfl ⟨?_, rfl⟩ ?_
                      · refine mz_go 3 (c' := (5, [some (.int b), some (.int c)], [.int 100, .int (-100), .int b], mz_up (mz_i xs Ln) 64 1 1)) rfl ?_
                        refine mz_do (R := mz_r128) (as := [.int b, .int (-100), .int 100]) (rest := []) (r1 := some (.int 1)) (m1 := mz_up (mz_i xs Ln) 64 1 1) rfl ⟨?_, rfl⟩ ?_
                        · refine mz_go 3 (c' := (if b < (-100) then 14 else 5, [some (.int b), some (.int (-100)), some (.int 100)], [], mz_up (mz_i xs Ln) 64 1 1)) rfl ?_
                          refine mz_ifF h3 ?_
                          refine mz_go 3 (c' := (if 100 < b then 14 else 10, [some (.int b), some (.int (-100)), some (.int 100)], [], mz_up (mz_i xs Ln) 64 1 1)) rfl ?_
                          refine mz_ifF h4 ?_
                          refine mz_go 2 (c' := (15, [some (.int b), some (.int (-100)), some (.int 100)], [.int 1], mz_up (mz_i xs Ln) 64 1 1)) rfl ?_
                          exact mz_ret rfl
                        refine mz_go 4 (c' := (16, [some (.int b), some (.int c)], [.int 100, .int (-100), .int c], mz_up (mz_i xs Ln) 64 1 1)) rfl ?_
                        refine mz_do (R := mz_r128) (as := [.int c, .int (-100), .int 100]) (rest := []) (r1 := some (.int 1)) (m1 := mz_up (mz_i xs Ln) 64 1 1) rfl ⟨?_, rfl⟩ ?_
                        · refine mz_go 3 (c' := (if c < (-100) then 14 else 5, [some (.int c), some (.int (-100)), some (.int 100)], [], mz_up (mz_i xs Ln) 64 1 1)) rfl ?_
                          refine mz_ifF h5 ?_
                          refine mz_go 3 (c' := (if 100 < c then 14 else 10, [some (.int c), some (.int (-100)), some (.int 100)], [], mz_up (mz_i xs Ln) 64 1 1)) rfl ?_
                          refine mz_ifF h6 ?_
                          refine mz_go 2 (c' := (15, [some (.int c), some (.int (-100)), some (.int 100)], [.int 1], mz_up (mz_i xs Ln) 64 1 1)) rfl ?_
                          exact mz_ret rfl
                        refine mz_go 3 (c' := (27, [some (.int b), some (.int c)], [.int 1], mz_up (mz_i xs Ln) 64 1 1)) rfl ?_
                        exact mz_ret rfl
                      refine mz_go 4 (c' := (22, [some (.int a), some (.int b), some (.int c), some (.int d)], [.int 99, .int 0, .int d], mz_up (mz_i xs Ln) 64 1 1)) rfl ?_
                      refine mz_do (R := mz_r128) (as := [.int d, .int 0, .int 99]) (rest := []) (r1 := some (.int 0)) (m1 := mz_up (mz_i xs Ln) 64 1 1) rfl ⟨?_, rfl⟩ ?_
                      · refine mz_go 3 (c' := (if d < 0 then 14 else 5, [some (.int d), some (.int 0), some (.int 99)], [], mz_up (mz_i xs Ln) 64 1 1)) rfl ?_
                        refine mz_ifF h7 ?_
                        refine mz_go 3 (c' := (if 99 < d then 14 else 10, [some (.int d), some (.int 0), some (.int 99)], [], mz_up (mz_i xs Ln) 64 1 1)) rfl ?_
                        refine mz_ifT h8 ?_
                        refine mz_go 1 (c' := (15, [some (.int d), some (.int 0), some (.int 99)], [.int 0], mz_up (mz_i xs Ln) 64 1 1)) rfl ?_
                        exact mz_ret rfl
                      refine mz_go 2 (c' := (33, [some (.int a), some (.int b), some (.int c), some (.int d)], [.int 0], mz_up (mz_i xs Ln) 64 1 1)) rfl ?_
                      exact mz_ret rfl
                    refine mz_go 3 (c' := (13, [some (.ref 65), some (.int a), some (.int b), some (.int c), some (.int d)], [.int 1, .ref 65], mz_up (mz_i xs Ln) 64 1 1)) rfl ?_
                    refine mz_do (R := mz_r127) (as := [.ref 65, .int 1]) (rest := []) (r1 := some (.int (-1000001))) (m1 := mz_up (mz_up (mz_i xs Ln) 64 1 1) 68 1 1) rfl ⟨?_, rfl⟩ ?_
                    · refine mz_go 11 (c' := (14, [some (.ref 65), some (.int 1)], [.int (-1000001)], mz_up (mz_up (mz_i xs Ln) 64 1 1) 68 1 1)) rfl ?_
                      exact mz_ret rfl
                    exact mz_ret rfl
                · refine ⟨0, mz_up (mz_up (mz_up (mz_up (mz_up (mz_i xs Ln) 3 0 a) 4 0 b) 5 0 c) 6 0 d) 2 4 1, mz_up (mz_up (mz_up (mz_up (mz_up (mz_up (mz_up (mz_up (mz_up (mz_up (mz_i xs Ln) 3 0 a) 4 0 b) 5 0 c) 6 0 d) 2 4 1) 66 30 a) 66 31 b) 66 32 c) 66 33 d) 66 0 1, ⟨?_, rfl⟩, ⟨?_, rfl⟩⟩
                  · refine mz_go 4 (c' := (5, [some (.ref 0), some (.int a), some (.int b), some (.int c), some (.int d)], [.int d, .int c, .int b, .int a], (mz_i xs Ln))) rfl ?_
                    refine mz_do (R := mz_r113) (as := [.int a, .int b, .int c, .int d]) (rest := []) (r1 := some (.int 1)) (m1 := (mz_i xs Ln)) rfl ⟨?_, rfl⟩ ?_
                    · refine mz_go 1 (c' := (1, [some (.int a), some (.int b), some (.int c), some (.int d)], [.int a], (mz_i xs Ln))) rfl ?_
                      refine mz_do (R := mz_r114) (as := [.int a]) (rest := []) (r1 := some (.int 1)) (m1 := (mz_i xs Ln)) rfl ⟨?_, rfl⟩ ?_
                      · refine mz_go 3 (c' := (4, [some (.int a)], [.int 6, .int 0, .int a], (mz_i xs Ln))) rfl ?_
                        refine mz_do (R := mz_r121) (as := [.int a, .int 0, .int 6]) (rest := []) (r1 := some (.int 1)) (m1 := (mz_i xs Ln)) rfl ⟨?_, rfl⟩ ?_
                        · refine mz_go 3 (c' := (if a < 0 then 14 else 5, [some (.int a), some (.int 0), some (.int 6)], [], (mz_i xs Ln))) rfl ?_
                          refine mz_ifF h1 ?_
                          refine mz_go 3 (c' := (if 6 < a then 14 else 10, [some (.int a), some (.int 0), some (.int 6)], [], (mz_i xs Ln))) rfl ?_
                          refine mz_ifF h2 ?_
                          refine mz_go 2 (c' := (15, [some (.int a), some (.int 0), some (.int 6)], [.int 1], (mz_i xs Ln))) rfl ?_
                          exact mz_ret rfl
                        exact mz_ret rfl
                      refine mz_go 3 (c' := (9, [some (.int a), some (.int b), some (.int c), some (.int d)], [.int c, .int b], (mz_i xs Ln))) rfl ?_
                      refine mz_do (R := mz_r116) (as := [.int b, .int c]) (rest := []) (r1 := some (.int 1)) (m1 := (mz_i xs Ln)) rfl ⟨?_, rfl⟩ ?_
                      · refine mz_go 3 (c' := (5, [some (.int b), some (.int c)], [.int 100, .int (-100), .int b], (mz_i xs Ln))) rfl ?_
                        refine mz_do (R := mz_r121) (as := [.int b, .int (-100), .int 100]) (rest := []) (r1 := some (.int 1)) (m1 := (mz_i xs Ln)) rfl ⟨?_, rfl⟩ ?_
                        · refine mz_go 3 (c' := (if b < (-100) then 14 else 5, [some (.int b), some (.int (-100)), some (.int 100)], [], (mz_i xs Ln))) rfl ?_
                          refine mz_ifF h3 ?_
                          refine mz_go 3 (c' := (if 100 < b then 14 else 10, [some (.int b), some (.int (-100)), some (.int 100)], [], (mz_i xs Ln))) rfl ?_
                          refine mz_ifF h4 ?_
                          refine mz_go 2 (c' := (15, [some (.int b), some (.int (-100)), some (.int 100)], [.int 1], (mz_i xs Ln))) rfl ?_
                          exact mz_ret rfl
                        refine mz_go 4 (c' := (16, [some (.int b), some (.int c)], [.int 100, .int (-100), .int c], (mz_i xs Ln))) rfl ?_
                        refine mz_do (R := mz_r121) (as := [.int c, .int (-100), .int 100]) (rest := []) (r1 := some (.int 1)) (m1 := (mz_i xs Ln)) rfl ⟨?_, rfl⟩ ?_
                        · refine mz_go 3 (c' := (if c < (-100) then 14 else 5, [some (.int c), some (.int (-100)), some (.int 100)], [], (mz_i xs Ln))) rfl ?_
                          refine mz_ifF h5 ?_
                          refine mz_go 3 (c' := (if 100 < c then 14 else 10, [some (.int c), some (.int (-100)), some (.int 100)], [], (mz_i xs Ln))) rfl ?_
                          refine mz_ifF h6 ?_
                          refine mz_go 2 (c' := (15, [some (.int c), some (.int (-100)), some (.int 100)], [.int 1], (mz_i xs Ln))) rfl ?_
                          exact mz_ret rfl
                        refine mz_go 3 (c' := (27, [some (.int b), some (.int c)], [.int 1], (mz_i xs Ln))) rfl ?_
                        exact mz_ret rfl
                      refine mz_go 4 (c' := (19, [some (.int a), some (.int b), some (.int c), some (.int d)], [.int 99, .int 0, .int d], (mz_i xs Ln))) rfl ?_
                      refine mz_do (R := mz_r121) (as := [.int d, .int 0, .int 99]) (rest := []) (r1 := some (.int 1)) (m1 := (mz_i xs Ln)) rfl ⟨?_, rfl⟩ ?_
                      · refine mz_go 3 (c' := (if d < 0 then 14 else 5, [some (.int d), some (.int 0), some (.int 99)], [], (mz_i xs Ln))) rfl ?_
                        refine mz_ifF h7 ?_
                        refine mz_go 3 (c' := (if 99 < d then 14 else 10, [some (.int d), some (.int 0), some (.int 99)], [], (mz_i xs Ln))) rfl ?_
                        refine mz_ifF h8 ?_
                        refine mz_go 2 (c' := (15, [some (.int d), some (.int 0), some (.int 99)], [.int 1], (mz_i xs Ln))) rfl ?_
                        exact mz_ret rfl
                      refine mz_go 3 (c' := (30, [some (.int a), some (.int b), some (.int c), some (.int d)], [.int 1], (mz_i xs Ln))) rfl ?_
                      exact mz_ret rfl
                    refine mz_go 4 (c' := (24, [some (.ref 0), some (.int a), some (.int b), some (.int c), some (.int d)], [.ref 2], (mz_i xs Ln))) rfl ?_
                    refine mz_do (R := mz_r22) (as := [.ref 2]) (rest := []) (r1 := some (.int 0)) (m1 := (mz_i xs Ln)) rfl ⟨?_, rfl⟩ ?_
                    · refine mz_go 5 (c' := (14, [some (.ref 2)], [.int 0], (mz_i xs Ln))) rfl ?_
                      exact mz_ret rfl
                    refine mz_go 8 (c' := (48, [some (.ref 0), some (.int a), some (.int b), some (.int c), some (.int d)], [.int d, .int c, .int b, .int a, .ref 2], (mz_i xs Ln))) rfl ?_
                    refine mz_do (R := mz_r23) (as := [.ref 2, .int a, .int b, .int c, .int d]) (rest := []) (r1 := some (.int 0)) (m1 := mz_up (mz_up (mz_up (mz_up (mz_up (mz_i xs Ln) 3 0 a) 4 0 b) 5 0 c) 6 0 d) 2 4 1) rfl ⟨?_, rfl⟩ ?_
                    · refine mz_go 4 (c' := (8, [some (.ref 2), some (.int a), some (.int b), some (.int c), some (.int d), none], [.ref 2], (mz_i xs Ln))) rfl ?_
                      refine mz_do (R := mz_r22) (as := [.ref 2]) (rest := []) (r1 := some (.int 0)) (m1 := (mz_i xs Ln)) rfl ⟨?_, rfl⟩ ?_
                      · refine mz_go 5 (c' := (14, [some (.ref 2)], [.int 0], (mz_i xs Ln))) rfl ?_
                        exact mz_ret rfl
                      refine mz_go 24 (c' := (55, [some (.ref 2), some (.int a), some (.int b), some (.int c), some (.int d), some (.int 0)], [], mz_up (mz_up (mz_up (mz_up (mz_i xs Ln) 3 0 a) 4 0 b) 5 0 c) 6 0 d)) rfl ?_
                      refine mz_go 7 (c' := (67, [some (.ref 2), some (.int a), some (.int b), some (.int c), some (.int d), some (.int 0)], [.int 0], mz_up (mz_up (mz_up (mz_up (mz_up (mz_i xs Ln) 3 0 a) 4 0 b) 5 0 c) 6 0 d) 2 4 1)) rfl ?_
                      exact mz_ret rfl
                    exact mz_ret rfl
                  · refine mz_go 4 (c' := (5, [some (.ref 65), some (.int a), some (.int b), some (.int c), some (.int d)], [.int d, .int c, .int b, .int a], mz_up (mz_up (mz_up (mz_up (mz_up (mz_i xs Ln) 3 0 a) 4 0 b) 5 0 c) 6 0 d) 2 4 1)) rfl ?_
                    refine mz_do (R := mz_r135) (as := [.int a, .int b, .int c, .int d]) (rest := []) (r1 := some (.int 1)) (m1 := mz_up (mz_up (mz_up (mz_up (mz_up (mz_i xs Ln) 3 0 a) 4 0 b) 5 0 c) 6 0 d) 2 4 1) rfl ⟨?_, rfl⟩ ?_
                    · refine mz_go 3 (c' := (4, [some (.int a), some (.int b), some (.int c), some (.int d)], [.int 6, .int 0, .int a], mz_up (mz_up (mz_up (mz_up (mz_up (mz_i xs Ln) 3 0 a) 4 0 b) 5 0 c) 6 0 d) 2 4 1)) rfl ?_
                      refine mz_do (R := mz_r128) (as := [.int a, .int 0, .int 6]) (rest := []) (r1 := some (.int 1)) (m1 := mz_up (mz_up (mz_up (mz_up (mz_up (mz_i xs Ln) 3 0 a) 4 0 b) 5 0 c) 6 0 d) 2 4 1) rfl ⟨?_, rfl⟩ ?_
                      · refine mz_go 3 (c' := (if a < 0 then 14 else 5, [some (.int a), some (.int 0), some (.int 6)], [], mz_up (mz_up (mz_up (mz_up (mz_up (mz_i xs Ln) 3 0 a) 4 0 b) 5 0 c) 6 0 d) 2 4 1)) rfl ?_
                        refine mz_ifF h1 ?_
                        refine mz_go 3 (c' := (if 6 < a then 14 else 10, [some (.int a), some (.int 0), some (.int 6)], [], mz_up (mz_up (mz_up (mz_up (mz_up (mz_i xs Ln) 3 0 a) 4 0 b) 5 0 c) 6 0 d) 2 4 1)) rfl ?_
                        refine mz_ifF h2 ?_
                        refine mz_go 2 (c' := (15, [some (.int a), some (.int 0), some (.int 6)], [.int 1], mz_up (mz_up (mz_up (mz_up (mz_up (mz_i xs Ln) 3 0 a) 4 0 b) 5 0 c) 6 0 d) 2 4 1)) rfl ?_
                        exact mz_ret rfl
                      refine mz_go 3 (c' := (12, [some (.int a), some (.int b), some (.int c), some (.int d)], [.int c, .int b], mz_up (mz_up (mz_up (mz_up (mz_up (mz_i xs Ln) 3 0 a) 4 0 b) 5 0 c) 6 0 d) 2 4 1)) rfl ?_
                      refine mz_do (R := mz_r131) (as := [.int b, .int c]) (rest := []) (r1 := some (.int 1)) (m1 := mz_up (mz_up (mz_up (mz_up (mz_up (mz_i xs Ln) 3 0 a) 4 0 b) 5 0 c) 6 0 d) 2 4 1) rfl ⟨?_, rfl⟩ ?_
                      · refine mz_go 3 (c' := (5, [some (.int b), some (.int c)], [.int 100, .int (-100), .int b], mz_up (mz_up (mz_up (mz_up (mz_up (mz_i xs Ln) 3 0 a) 4 0 b) 5 0 c) 6 0 d) 2 4 1)) rfl ?_
                        refine mz_do (R := mz_r128) (as := [.int b, .int (-100), .int 100]) (rest := []) (r1 := some (.int 1)) (m1 := mz_up (mz_up (mz_up (mz_up (mz_up (mz_i xs Ln) 3 0 a) 4 0 b) 5 0 c) 6 0 d) 2 4 1) rfl ⟨?_, rfl⟩ ?_
                        · refine mz_go 3 (c' := (if b < (-100) then 14 else 5, [some (.int b), some (.int (-100)), some (.int 100)], [], mz_up (mz_up (mz_up (mz_up (mz_up (mz_i xs Ln) 3 0 a) 4 0 b) 5 0 c) 6 0 d) 2 4 1)) rfl ?_
                          refine mz_ifF h3 ?_
                          refine mz_go 3 (c' := (if 100 < b then 14 else 10, [some (.int b), some (.int (-100)), some (.int 100)], [], mz_up (mz_up (mz_up (mz_up (mz_up (mz_i xs Ln) 3 0 a) 4 0 b) 5 0 c) 6 0 d) 2 4 1)) rfl ?_
                          refine mz_ifF h4 ?_
                          refine mz_go 2 (c' := (15, [some (.int b), some (.int (-100)), some (.int 100)], [.int 1], mz_up (mz_up (mz_up (mz_up (mz_up (mz_i xs Ln) 3 0 a) 4 0 b) 5 0 c) 6 0 d) 2 4 1)) rfl ?_
                          exact mz_ret rfl
                        refine mz_go 4 (c' := (16, [some (.int b), some (.int c)], [.int 100, .int (-100), .int c], mz_up (mz_up (mz_up (mz_up (mz_up (mz_i xs Ln) 3 0 a) 4 0 b) 5 0 c) 6 0 d) 2 4 1)) rfl ?_
                        refine mz_do (R := mz_r128) (as := [.int c, .int (-100), .int 100]) (rest := []) (r1 := some (.int 1)) (m1 := mz_up (mz_up (mz_up (mz_up (mz_up (mz_i xs Ln) 3 0 a) 4 0 b) 5 0 c) 6 0 d) 2 4 1) rfl ⟨?_, rfl⟩ ?_
                        · refine mz_go 3 (c' := (if c < (-100) then 14 else 5, [some (.int c), some (.int (-100)), some (.int 100)], [], mz_up (mz_up (mz_up (mz_up (mz_up (mz_i xs Ln) 3 0 a) 4 0 b) 5 0 c) 6 0 d) 2 4 1)) rfl ?_
                          refine mz_ifF h5 ?_
                          refine mz_go 3 (c' := (if 100 < c then 14 else 10, [some (.int c), some (.int (-100)), some (.int 100)], [], mz_up (mz_up (mz_up (mz_up (mz_up (mz_i xs Ln) 3 0 a) 4 0 b) 5 0 c) 6 0 d) 2 4 1)) rfl ?_
                          refine mz_ifF h6 ?_
                          refine mz_go 2 (c' := (15, [some (.int c), some (.int (-100)), some (.int 100)], [.int 1], mz_up (mz_up (mz_up (mz_up (mz_up (mz_i xs Ln) 3 0 a) 4 0 b) 5 0 c) 6 0 d) 2 4 1)) rfl ?_
                          exact mz_ret rfl
                        refine mz_go 3 (c' := (27, [some (.int b), some (.int c)], [.int 1], mz_up (mz_up (mz_up (mz_up (mz_up (mz_i xs Ln) 3 0 a) 4 0 b) 5 0 c) 6 0 d) 2 4 1)) rfl ?_
                        exact mz_ret rfl
                      refine mz_go 4 (c' := (22, [some (.int a), some (.int b), some (.int c), some (.int d)], [.int 99, .int 0, .int d], mz_up (mz_up (mz_up (mz_up (mz_up (mz_i xs Ln) 3 0 a) 4 0 b) 5 0 c) 6 0 d) 2 4 1)) rfl ?_
                      refine mz_do (R := mz_r128) (as := [.int d, .int 0, .int 99]) (rest := []) (r1 := some (.int 1)) (m1 := mz_up (mz_up (mz_up (mz_up (mz_up (mz_i xs Ln) 3 0 a) 4 0 b) 5 0 c) 6 0 d) 2 4 1) rfl ⟨?_, rfl⟩ ?_
                      · refine mz_go 3 (c' := (if d < 0 then 14 else 5, [some (.int d), some (.int 0), some (.int 99)], [], mz_up (mz_up (mz_up (mz_up (mz_up (mz_i xs Ln) 3 0 a) 4 0 b) 5 0 c) 6 0 d) 2 4 1)) rfl ?_
                        refine mz_ifF h7 ?_
                        refine mz_go 3 (c' := (if 99 < d then 14 else 10, [some (.int d), some (.int 0), some (.int 99)], [], mz_up (mz_up (mz_up (mz_up (mz_up (mz_i xs Ln) 3 0 a) 4 0 b) 5 0 c) 6 0 d) 2 4 1)) rfl ?_
                        refine mz_ifF h8 ?_
                        refine mz_go 2 (c' := (15, [some (.int d), some (.int 0), some (.int 99)], [.int 1], mz_up (mz_up (mz_up (mz_up (mz_up (mz_i xs Ln) 3 0 a) 4 0 b) 5 0 c) 6 0 d) 2 4 1)) rfl ?_
                        exact mz_ret rfl
                      refine mz_go 3 (c' := (33, [some (.int a), some (.int b), some (.int c), some (.int d)], [.int 1], mz_up (mz_up (mz_up (mz_up (mz_up (mz_i xs Ln) 3 0 a) 4 0 b) 5 0 c) 6 0 d) 2 4 1)) rfl ?_
                      exact mz_ret rfl
                    refine mz_go 12 (c' := (42, [some (.ref 65), some (.int a), some (.int b), some (.int c), some (.int d)], [.int d, .int c, .int b, .int a, .ref 65], mz_up (mz_up (mz_up (mz_up (mz_up (mz_i xs Ln) 3 0 a) 4 0 b) 5 0 c) 6 0 d) 2 4 1)) rfl ?_
                    refine mz_do (R := mz_r136) (as := [.ref 65, .int a, .int b, .int c, .int d]) (rest := []) (r1 := some (.int 0)) (m1 := mz_up (mz_up (mz_up (mz_up (mz_up (mz_up (mz_up (mz_up (mz_up (mz_up (mz_i xs Ln) 3 0 a) 4 0 b) 5 0 c) 6 0 d) 2 4 1) 66 30 a) 66 31 b) 66 32 c) 66 33 d) 66 0 1) rfl ⟨?_, rfl⟩ ?_
                    · refine mz_go 24 (c' := (34, [some (.ref 65), some (.int a), some (.int b), some (.int c), some (.int d), some (.int 30)], [.ref 65], mz_up (mz_up (mz_up (mz_up (mz_up (mz_up (mz_up (mz_i xs Ln) 3 0 a) 4 0 b) 5 0 c) 6 0 d) 2 4 1) 66 30 a) 66 31 b)) rfl ?_
                      refine mz_go 24 (c' := (69, [some (.ref 65), some (.int a), some (.int b), some (.int c), some (.int d), some (.int 30)], [.int 0, .ref 66], mz_up (mz_up (mz_up (mz_up (mz_up (mz_up (mz_up (mz_up (mz_up (mz_up (mz_i xs Ln) 3 0 a) 4 0 b) 5 0 c) 6 0 d) 2 4 1) 66 30 a) 66 31 b) 66 32 c) 66 33 d) 66 0 1)) rfl ?_
                      refine mz_go 2 (c' := (71, [some (.ref 65), some (.int a), some (.int b), some (.int c), some (.int d), some (.int 30)], [.int 1, .int 1], mz_up (mz_up (mz_up (mz_up (mz_up (mz_up (mz_up (mz_up (mz_up (mz_up (mz_i xs Ln) 3 0 a) 4 0 b) 5 0 c) 6 0 d) 2 4 1) 66 30 a) 66 31 b) 66 32 c) 66 33 d) 66 0 1)) rfl ?_
                      refine mz_go 1 (c' := (72, [some (.ref 65), some (.int a), some (.int b), some (.int c), some (.int d), some (.int 30)], [.int 0], mz_up (mz_up (mz_up (mz_up (mz_up (mz_up (mz_up (mz_up (mz_up (mz_up (mz_i xs Ln) 3 0 a) 4 0 b) 5 0 c) 6 0 d) 2 4 1) 66 30 a) 66 31 b) 66 32 c) 66 33 d) 66 0 1)) rfl ?_
                      exact mz_ret rfl
                    exact mz_ret rfl
set_option maxHeartbeats 4000000 in
set_option maxRecDepth 100000 in
theorem p1_magnetIs (xs : Nat → Int32) (Ln : Nat) (a : Int32) (b : Int32) : ∃ v m1 m2, mz_Me 100 mz_r68 [.ref 0, .int a, .int b] (mz_i xs Ln) (some (.int v)) m1 ∧ mz_Me 100 mz_r138 [.ref 65, .int a, .int b] m1 (some (.int v)) m2 := by
  by_cases h1 : a < 0
  · refine ⟨(-1000001), mz_up (mz_i xs Ln) 64 1 1, mz_up (mz_up (mz_i xs Ln) 64 1 1) 68 1 1, ⟨?_, rfl⟩, ⟨?_, rfl⟩⟩
    · refine mz_go 6 (c' := (10, [some (.ref 0), some (.int a), some (.int b), some (.ref 2), none], [.int a, .ref 2], (mz_i xs Ln))) rfl ?_
      refine mz_do (R := mz_r21) (as := [.ref 2, .int a]) (rest := []) (r1 := some (.int 0)) (m1 := (mz_i xs Ln)) rfl ⟨?_, rfl⟩ ?_
      · refine mz_go 2 (c' := (if a < 0 then 22 else 4, [some (.ref 2), some (.int a)], [], (mz_i xs Ln))) rfl ?_
        refine mz_ifT h1 ?_
        refine mz_go 1 (c' := (23, [some (.ref 2), some (.int a)], [.int 0], (mz_i xs Ln))) rfl ?_
        exact mz_ret rfl
      refine mz_go 3 (c' := (27, [some (.ref 0), some (.int a), some (.int b), some (.ref 2), none], [.int 1, .ref 0], (mz_i xs Ln))) rfl ?_
      refine mz_do (R := mz_r109) (as := [.ref 0, .int 1]) (rest := []) (r1 := some (.int (-1000001))) (m1 := mz_up (mz_i xs Ln) 64 1 1) rfl ⟨?_, rfl⟩ ?_
      · refine mz_go 3 (c' := (4, [some (.ref 0), some (.int 1)], [.int 6, .int 1, .int 1], (mz_i xs Ln))) rfl ?_
        refine mz_do (R := mz_r121) (as := [.int 1, .int 1, .int 6]) (rest := []) (r1 := some (.int 1)) (m1 := (mz_i xs Ln)) rfl ⟨?_, rfl⟩ ?_
        · refine mz_go 8 (c' := (15, [some (.int 1), some (.int 1), some (.int 6)], [.int 1], (mz_i xs Ln))) rfl ?_
          exact mz_ret rfl
        refine mz_go 12 (c' := (25, [some (.ref 0), some (.int 1)], [.int (-1000001)], mz_up (mz_i xs Ln) 64 1 1)) rfl ?_
        exact mz_ret rfl
      exact mz_ret rfl
    · refine mz_go 2 (c' := (2, [some (.ref 65), some (.int a), some (.int b)], [.int a, .ref 65], mz_up (mz_i xs Ln) 64 1 1)) rfl ?_
      refine mz_do (R := mz_r132) (as := [.ref 65, .int a]) (rest := []) (r1 := some (.int 0)) (m1 := mz_up (mz_i xs Ln) 64 1 1) rfl ⟨?_, rfl⟩ ?_
      · refine mz_go 7 (c' := (9, [some (.ref 65), some (.int a)], [.int 1, .int 0, .int 0, .int a], mz_up (mz_i xs Ln) 64 1 1)) rfl ?_
        refine mz_go 1 (c' := (10, [some (.ref 65), some (.int a)], [.int (-1), .int 0, .int a], mz_up (mz_i xs Ln) 64 1 1)) rfl ?_
        refine mz_do (R := mz_r128) (as := [.int a, .int 0, .int (-1)]) (rest := []) (r1 := some (.int 0)) (m1 := mz_up (mz_i xs Ln) 64 1 1) rfl ⟨?_, rfl⟩ ?_
        · refine mz_go 3 (c' := (if a < 0 then 14 else 5, [some (.int a), some (.int 0), some (.int (-1))], [], mz_up (mz_i xs Ln) 64 1 1)) rfl ?_
          refine mz_ifT h1 ?_
          refine mz_go 1 (c' := (15, [some (.int a), some (.int 0), some (.int (-1))], [.int 0], mz_up (mz_i xs Ln) 64 1 1)) rfl ?_
          exact mz_ret rfl
        exact mz_ret rfl
      refine mz_go 3 (c' := (19, [some (.ref 65), some (.int a), some (.int b)], [.int 1, .ref 65], mz_up (mz_i xs Ln) 64 1 1)) rfl ?_
      refine mz_do (R := mz_r127) (as := [.ref 65, .int 1]) (rest := []) (r1 := some (.int (-1000001))) (m1 := mz_up (mz_up (mz_i xs Ln) 64 1 1) 68 1 1) rfl ⟨?_, rfl⟩ ?_
      · refine mz_go 11 (c' := (14, [some (.ref 65), some (.int 1)], [.int (-1000001)], mz_up (mz_up (mz_i xs Ln) 64 1 1) 68 1 1)) rfl ?_
        exact mz_ret rfl
      exact mz_ret rfl
  · refine ⟨(-1000001), mz_up (mz_i xs Ln) 64 1 1, mz_up (mz_up (mz_i xs Ln) 64 1 1) 68 1 1, ⟨?_, rfl⟩, ⟨?_, rfl⟩⟩
    · refine mz_go 6 (c' := (10, [some (.ref 0), some (.int a), some (.int b), some (.ref 2), none], [.int a, .ref 2], (mz_i xs Ln))) rfl ?_
      refine mz_do (R := mz_r21) (as := [.ref 2, .int a]) (rest := []) (r1 := some (.int 0)) (m1 := (mz_i xs Ln)) rfl ⟨?_, rfl⟩ ?_
      · refine mz_go 2 (c' := (if a < 0 then 22 else 4, [some (.ref 2), some (.int a)], [], (mz_i xs Ln))) rfl ?_
        refine mz_ifF h1 ?_
        refine mz_go 4 (c' := (if 0 ≤ a then 22 else 12, [some (.ref 2), some (.int a)], [], (mz_i xs Ln))) rfl ?_
        refine mz_ifT (by have hl : (0 : Int) ≤ (a).toInt := Int32.le_iff_toInt_le.mp (Int32.not_lt.mp h1); exact Int32.le_iff_toInt_le.mpr (show (0 : Int) ≤ (a).toInt by omega)) ?_
        refine mz_go 1 (c' := (23, [some (.ref 2), some (.int a)], [.int 0], (mz_i xs Ln))) rfl ?_
        exact mz_ret rfl
      refine mz_go 3 (c' := (27, [some (.ref 0), some (.int a), some (.int b), some (.ref 2), none], [.int 1, .ref 0], (mz_i xs Ln))) rfl ?_
      refine mz_do (R := mz_r109) (as := [.ref 0, .int 1]) (rest := []) (r1 := some (.int (-1000001))) (m1 := mz_up (mz_i xs Ln) 64 1 1) rfl ⟨?_, rfl⟩ ?_
      · refine mz_go 3 (c' := (4, [some (.ref 0), some (.int 1)], [.int 6, .int 1, .int 1], (mz_i xs Ln))) rfl ?_
        refine mz_do (R := mz_r121) (as := [.int 1, .int 1, .int 6]) (rest := []) (r1 := some (.int 1)) (m1 := (mz_i xs Ln)) rfl ⟨?_, rfl⟩ ?_
        · refine mz_go 8 (c' := (15, [some (.int 1), some (.int 1), some (.int 6)], [.int 1], (mz_i xs Ln))) rfl ?_
          exact mz_ret rfl
        refine mz_go 12 (c' := (25, [some (.ref 0), some (.int 1)], [.int (-1000001)], mz_up (mz_i xs Ln) 64 1 1)) rfl ?_
        exact mz_ret rfl
      exact mz_ret rfl
    · refine mz_go 2 (c' := (2, [some (.ref 65), some (.int a), some (.int b)], [.int a, .ref 65], mz_up (mz_i xs Ln) 64 1 1)) rfl ?_
      refine mz_do (R := mz_r132) (as := [.ref 65, .int a]) (rest := []) (r1 := some (.int 0)) (m1 := mz_up (mz_i xs Ln) 64 1 1) rfl ⟨?_, rfl⟩ ?_
      · refine mz_go 7 (c' := (9, [some (.ref 65), some (.int a)], [.int 1, .int 0, .int 0, .int a], mz_up (mz_i xs Ln) 64 1 1)) rfl ?_
        refine mz_go 1 (c' := (10, [some (.ref 65), some (.int a)], [.int (-1), .int 0, .int a], mz_up (mz_i xs Ln) 64 1 1)) rfl ?_
        refine mz_do (R := mz_r128) (as := [.int a, .int 0, .int (-1)]) (rest := []) (r1 := some (.int 0)) (m1 := mz_up (mz_i xs Ln) 64 1 1) rfl ⟨?_, rfl⟩ ?_
        · refine mz_go 3 (c' := (if a < 0 then 14 else 5, [some (.int a), some (.int 0), some (.int (-1))], [], mz_up (mz_i xs Ln) 64 1 1)) rfl ?_
          refine mz_ifF h1 ?_
          refine mz_go 3 (c' := (if (-1) < a then 14 else 10, [some (.int a), some (.int 0), some (.int (-1))], [], mz_up (mz_i xs Ln) 64 1 1)) rfl ?_
          refine mz_ifT (by have hl : (0 : Int) ≤ (a).toInt := Int32.le_iff_toInt_le.mp (Int32.not_lt.mp h1); exact Int32.lt_iff_toInt_lt.mpr (show (-1 : Int) < (a).toInt by omega)) ?_
          refine mz_go 1 (c' := (15, [some (.int a), some (.int 0), some (.int (-1))], [.int 0], mz_up (mz_i xs Ln) 64 1 1)) rfl ?_
          exact mz_ret rfl
        exact mz_ret rfl
      refine mz_go 3 (c' := (19, [some (.ref 65), some (.int a), some (.int b)], [.int 1, .ref 65], mz_up (mz_i xs Ln) 64 1 1)) rfl ?_
      refine mz_do (R := mz_r127) (as := [.ref 65, .int 1]) (rest := []) (r1 := some (.int (-1000001))) (m1 := mz_up (mz_up (mz_i xs Ln) 64 1 1) 68 1 1) rfl ⟨?_, rfl⟩ ?_
      · refine mz_go 11 (c' := (14, [some (.ref 65), some (.int 1)], [.int (-1000001)], mz_up (mz_up (mz_i xs Ln) 64 1 1) 68 1 1)) rfl ?_
        exact mz_ret rfl
      exact mz_ret rfl
set_option maxHeartbeats 4000000 in
set_option maxRecDepth 100000 in
theorem p1_as (xs : Nat → Int32) (Ln : Nat) (a : Int32) (b : Int32) : ∃ v m1 m2, mz_Me 100 mz_r69 [.ref 0, .int a, .int b] (mz_i xs Ln) (some (.int v)) m1 ∧ mz_Me 100 mz_r139 [.ref 65, .int a, .int b] m1 (some (.int v)) m2 := by
  by_cases h1 : a < 0
  · refine ⟨(-1000001), mz_up (mz_i xs Ln) 64 1 1, mz_up (mz_up (mz_i xs Ln) 64 1 1) 68 1 1, ⟨?_, rfl⟩, ⟨?_, rfl⟩⟩
    · refine mz_go 4 (c' := (8, [some (.ref 0), some (.int a), some (.int b)], [.int a, .ref 2], (mz_i xs Ln))) rfl ?_
      refine mz_do (R := mz_r21) (as := [.ref 2, .int a]) (rest := []) (r1 := some (.int 0)) (m1 := (mz_i xs Ln)) rfl ⟨?_, rfl⟩ ?_
      · refine mz_go 2 (c' := (if a < 0 then 22 else 4, [some (.ref 2), some (.int a)], [], (mz_i xs Ln))) rfl ?_
        refine mz_ifT h1 ?_
        refine mz_go 1 (c' := (23, [some (.ref 2), some (.int a)], [.int 0], (mz_i xs Ln))) rfl ?_
        exact mz_ret rfl
      refine mz_go 3 (c' := (23, [some (.ref 0), some (.int a), some (.int b)], [.int 1, .ref 0], (mz_i xs Ln))) rfl ?_
      refine mz_do (R := mz_r109) (as := [.ref 0, .int 1]) (rest := []) (r1 := some (.int (-1000001))) (m1 := mz_up (mz_i xs Ln) 64 1 1) rfl ⟨?_, rfl⟩ ?_
      · refine mz_go 3 (c' := (4, [some (.ref 0), some (.int 1)], [.int 6, .int 1, .int 1], (mz_i xs Ln))) rfl ?_
        refine mz_do (R := mz_r121) (as := [.int 1, .int 1, .int 6]) (rest := []) (r1 := some (.int 1)) (m1 := (mz_i xs Ln)) rfl ⟨?_, rfl⟩ ?_
        · refine mz_go 8 (c' := (15, [some (.int 1), some (.int 1), some (.int 6)], [.int 1], (mz_i xs Ln))) rfl ?_
          exact mz_ret rfl
        refine mz_go 12 (c' := (25, [some (.ref 0), some (.int 1)], [.int (-1000001)], mz_up (mz_i xs Ln) 64 1 1)) rfl ?_
        exact mz_ret rfl
      exact mz_ret rfl
    · refine mz_go 2 (c' := (2, [some (.ref 65), some (.int a), some (.int b)], [.int a, .ref 65], mz_up (mz_i xs Ln) 64 1 1)) rfl ?_
      refine mz_do (R := mz_r132) (as := [.ref 65, .int a]) (rest := []) (r1 := some (.int 0)) (m1 := mz_up (mz_i xs Ln) 64 1 1) rfl ⟨?_, rfl⟩ ?_
      · refine mz_go 7 (c' := (9, [some (.ref 65), some (.int a)], [.int 1, .int 0, .int 0, .int a], mz_up (mz_i xs Ln) 64 1 1)) rfl ?_
        refine mz_go 1 (c' := (10, [some (.ref 65), some (.int a)], [.int (-1), .int 0, .int a], mz_up (mz_i xs Ln) 64 1 1)) rfl ?_
        refine mz_do (R := mz_r128) (as := [.int a, .int 0, .int (-1)]) (rest := []) (r1 := some (.int 0)) (m1 := mz_up (mz_i xs Ln) 64 1 1) rfl ⟨?_, rfl⟩ ?_
        · refine mz_go 3 (c' := (if a < 0 then 14 else 5, [some (.int a), some (.int 0), some (.int (-1))], [], mz_up (mz_i xs Ln) 64 1 1)) rfl ?_
          refine mz_ifT h1 ?_
          refine mz_go 1 (c' := (15, [some (.int a), some (.int 0), some (.int (-1))], [.int 0], mz_up (mz_i xs Ln) 64 1 1)) rfl ?_
          exact mz_ret rfl
        exact mz_ret rfl
      refine mz_go 3 (c' := (20, [some (.ref 65), some (.int a), some (.int b)], [.int 1, .ref 65], mz_up (mz_i xs Ln) 64 1 1)) rfl ?_
      refine mz_do (R := mz_r127) (as := [.ref 65, .int 1]) (rest := []) (r1 := some (.int (-1000001))) (m1 := mz_up (mz_up (mz_i xs Ln) 64 1 1) 68 1 1) rfl ⟨?_, rfl⟩ ?_
      · refine mz_go 11 (c' := (14, [some (.ref 65), some (.int 1)], [.int (-1000001)], mz_up (mz_up (mz_i xs Ln) 64 1 1) 68 1 1)) rfl ?_
        exact mz_ret rfl
      exact mz_ret rfl
  · refine ⟨(-1000001), mz_up (mz_i xs Ln) 64 1 1, mz_up (mz_up (mz_i xs Ln) 64 1 1) 68 1 1, ⟨?_, rfl⟩, ⟨?_, rfl⟩⟩
    · refine mz_go 4 (c' := (8, [some (.ref 0), some (.int a), some (.int b)], [.int a, .ref 2], (mz_i xs Ln))) rfl ?_
      refine mz_do (R := mz_r21) (as := [.ref 2, .int a]) (rest := []) (r1 := some (.int 0)) (m1 := (mz_i xs Ln)) rfl ⟨?_, rfl⟩ ?_
      · refine mz_go 2 (c' := (if a < 0 then 22 else 4, [some (.ref 2), some (.int a)], [], (mz_i xs Ln))) rfl ?_
        refine mz_ifF h1 ?_
        refine mz_go 4 (c' := (if 0 ≤ a then 22 else 12, [some (.ref 2), some (.int a)], [], (mz_i xs Ln))) rfl ?_
        refine mz_ifT (by have hl : (0 : Int) ≤ (a).toInt := Int32.le_iff_toInt_le.mp (Int32.not_lt.mp h1); exact Int32.le_iff_toInt_le.mpr (show (0 : Int) ≤ (a).toInt by omega)) ?_
        refine mz_go 1 (c' := (23, [some (.ref 2), some (.int a)], [.int 0], (mz_i xs Ln))) rfl ?_
        exact mz_ret rfl
      refine mz_go 3 (c' := (23, [some (.ref 0), some (.int a), some (.int b)], [.int 1, .ref 0], (mz_i xs Ln))) rfl ?_
      refine mz_do (R := mz_r109) (as := [.ref 0, .int 1]) (rest := []) (r1 := some (.int (-1000001))) (m1 := mz_up (mz_i xs Ln) 64 1 1) rfl ⟨?_, rfl⟩ ?_
      · refine mz_go 3 (c' := (4, [some (.ref 0), some (.int 1)], [.int 6, .int 1, .int 1], (mz_i xs Ln))) rfl ?_
        refine mz_do (R := mz_r121) (as := [.int 1, .int 1, .int 6]) (rest := []) (r1 := some (.int 1)) (m1 := (mz_i xs Ln)) rfl ⟨?_, rfl⟩ ?_
        · refine mz_go 8 (c' := (15, [some (.int 1), some (.int 1), some (.int 6)], [.int 1], (mz_i xs Ln))) rfl ?_
          exact mz_ret rfl
        refine mz_go 12 (c' := (25, [some (.ref 0), some (.int 1)], [.int (-1000001)], mz_up (mz_i xs Ln) 64 1 1)) rfl ?_
        exact mz_ret rfl
      exact mz_ret rfl
    · refine mz_go 2 (c' := (2, [some (.ref 65), some (.int a), some (.int b)], [.int a, .ref 65], mz_up (mz_i xs Ln) 64 1 1)) rfl ?_
      refine mz_do (R := mz_r132) (as := [.ref 65, .int a]) (rest := []) (r1 := some (.int 0)) (m1 := mz_up (mz_i xs Ln) 64 1 1) rfl ⟨?_, rfl⟩ ?_
      · refine mz_go 7 (c' := (9, [some (.ref 65), some (.int a)], [.int 1, .int 0, .int 0, .int a], mz_up (mz_i xs Ln) 64 1 1)) rfl ?_
        refine mz_go 1 (c' := (10, [some (.ref 65), some (.int a)], [.int (-1), .int 0, .int a], mz_up (mz_i xs Ln) 64 1 1)) rfl ?_
        refine mz_do (R := mz_r128) (as := [.int a, .int 0, .int (-1)]) (rest := []) (r1 := some (.int 0)) (m1 := mz_up (mz_i xs Ln) 64 1 1) rfl ⟨?_, rfl⟩ ?_
        · refine mz_go 3 (c' := (if a < 0 then 14 else 5, [some (.int a), some (.int 0), some (.int (-1))], [], mz_up (mz_i xs Ln) 64 1 1)) rfl ?_
          refine mz_ifF h1 ?_
          refine mz_go 3 (c' := (if (-1) < a then 14 else 10, [some (.int a), some (.int 0), some (.int (-1))], [], mz_up (mz_i xs Ln) 64 1 1)) rfl ?_
          refine mz_ifT (by have hl : (0 : Int) ≤ (a).toInt := Int32.le_iff_toInt_le.mp (Int32.not_lt.mp h1); exact Int32.lt_iff_toInt_lt.mpr (show (-1 : Int) < (a).toInt by omega)) ?_
          refine mz_go 1 (c' := (15, [some (.int a), some (.int 0), some (.int (-1))], [.int 0], mz_up (mz_i xs Ln) 64 1 1)) rfl ?_
          exact mz_ret rfl
        exact mz_ret rfl
      refine mz_go 3 (c' := (20, [some (.ref 65), some (.int a), some (.int b)], [.int 1, .ref 65], mz_up (mz_i xs Ln) 64 1 1)) rfl ?_
      refine mz_do (R := mz_r127) (as := [.ref 65, .int 1]) (rest := []) (r1 := some (.int (-1000001))) (m1 := mz_up (mz_up (mz_i xs Ln) 64 1 1) 68 1 1) rfl ⟨?_, rfl⟩ ?_
      · refine mz_go 11 (c' := (14, [some (.ref 65), some (.int 1)], [.int (-1000001)], mz_up (mz_up (mz_i xs Ln) 64 1 1) 68 1 1)) rfl ?_
        exact mz_ret rfl
      exact mz_ret rfl
set_option maxHeartbeats 4000000 in
set_option maxRecDepth 100000 in
theorem p1_shift (xs : Nat → Int32) (Ln : Nat) (a : Int32) (b : Int32) (c : Int32) (d : Int32) : ∃ v m1 m2, mz_Me 100 mz_r70 [.ref 0, .int a, .int b, .int c, .int d] (mz_i xs Ln) (some (.int v)) m1 ∧ mz_Me 100 mz_r140 [.ref 65, .int a, .int b, .int c, .int d] m1 (some (.int v)) m2 := by
  by_cases h1 : a < 0
  · refine ⟨(-1000001), mz_up (mz_i xs Ln) 64 1 1, mz_up (mz_up (mz_i xs Ln) 64 1 1) 68 1 1, ⟨?_, rfl⟩, ⟨?_, rfl⟩⟩
    · refine mz_go 6 (c' := (12, [some (.ref 0), some (.int a), some (.int b), some (.int c), some (.int d), some (.ref 2), none], [.int a, .ref 2], (mz_i xs Ln))) rfl ?_
      refine mz_do (R := mz_r21) (as := [.ref 2, .int a]) (rest := []) (r1 := some (.int 0)) (m1 := (mz_i xs Ln)) rfl ⟨?_, rfl⟩ ?_
      · refine mz_go 2 (c' := (if a < 0 then 22 else 4, [some (.ref 2), some (.int a)], [], (mz_i xs Ln))) rfl ?_
        refine mz_ifT h1 ?_
        refine mz_go 1 (c' := (23, [some (.ref 2), some (.int a)], [.int 0], (mz_i xs Ln))) rfl ?_
        exact mz_ret rfl
      refine mz_go 3 (c' := (36, [some (.ref 0), some (.int a), some (.int b), some (.int c), some (.int d), some (.ref 2), none], [.int 1, .ref 0], (mz_i xs Ln))) rfl ?_
      refine mz_do (R := mz_r109) (as := [.ref 0, .int 1]) (rest := []) (r1 := some (.int (-1000001))) (m1 := mz_up (mz_i xs Ln) 64 1 1) rfl ⟨?_, rfl⟩ ?_
      · refine mz_go 3 (c' := (4, [some (.ref 0), some (.int 1)], [.int 6, .int 1, .int 1], (mz_i xs Ln))) rfl ?_
        refine mz_do (R := mz_r121) (as := [.int 1, .int 1, .int 6]) (rest := []) (r1 := some (.int 1)) (m1 := (mz_i xs Ln)) rfl ⟨?_, rfl⟩ ?_
        · refine mz_go 8 (c' := (15, [some (.int 1), some (.int 1), some (.int 6)], [.int 1], (mz_i xs Ln))) rfl ?_
          exact mz_ret rfl
        refine mz_go 12 (c' := (25, [some (.ref 0), some (.int 1)], [.int (-1000001)], mz_up (mz_i xs Ln) 64 1 1)) rfl ?_
        exact mz_ret rfl
      exact mz_ret rfl
    · refine mz_go 2 (c' := (2, [some (.ref 65), some (.int a), some (.int b), some (.int c), some (.int d), none, none], [.int a, .ref 65], mz_up (mz_i xs Ln) 64 1 1)) rfl ?_
      refine mz_do (R := mz_r132) (as := [.ref 65, .int a]) (rest := []) (r1 := some (.int 0)) (m1 := mz_up (mz_i xs Ln) 64 1 1) rfl ⟨?_, rfl⟩ ?_
      · refine mz_go 7 (c' := (9, [some (.ref 65), some (.int a)], [.int 1, .int 0, .int 0, .int a], mz_up (mz_i xs Ln) 64 1 1)) rfl ?_
        refine mz_go 1 (c' := (10, [some (.ref 65), some (.int a)], [.int (-1), .int 0, .int a], mz_up (mz_i xs Ln) 64 1 1)) rfl ?_
        refine mz_do (R := mz_r128) (as := [.int a, .int 0, .int (-1)]) (rest := []) (r1 := some (.int 0)) (m1 := mz_up (mz_i xs Ln) 64 1 1) rfl ⟨?_, rfl⟩ ?_
        · refine mz_go 3 (c' := (if a < 0 then 14 else 5, [some (.int a), some (.int 0), some (.int (-1))], [], mz_up (mz_i xs Ln) 64 1 1)) rfl ?_
          refine mz_ifT h1 ?_
          refine mz_go 1 (c' := (15, [some (.int a), some (.int 0), some (.int (-1))], [.int 0], mz_up (mz_i xs Ln) 64 1 1)) rfl ?_
          exact mz_ret rfl
        exact mz_ret rfl
      refine mz_go 3 (c' := (29, [some (.ref 65), some (.int a), some (.int b), some (.int c), some (.int d), none, none], [.int 1, .ref 65], mz_up (mz_i xs Ln) 64 1 1)) rfl ?_
      refine mz_do (R := mz_r127) (as := [.ref 65, .int 1]) (rest := []) (r1 := some (.int (-1000001))) (m1 := mz_up (mz_up (mz_i xs Ln) 64 1 1) 68 1 1) rfl ⟨?_, rfl⟩ ?_
      · refine mz_go 11 (c' := (14, [some (.ref 65), some (.int 1)], [.int (-1000001)], mz_up (mz_up (mz_i xs Ln) 64 1 1) 68 1 1)) rfl ?_
        exact mz_ret rfl
      exact mz_ret rfl
  · refine ⟨(-1000001), mz_up (mz_i xs Ln) 64 1 1, mz_up (mz_up (mz_i xs Ln) 64 1 1) 68 1 1, ⟨?_, rfl⟩, ⟨?_, rfl⟩⟩
    · refine mz_go 6 (c' := (12, [some (.ref 0), some (.int a), some (.int b), some (.int c), some (.int d), some (.ref 2), none], [.int a, .ref 2], (mz_i xs Ln))) rfl ?_
      refine mz_do (R := mz_r21) (as := [.ref 2, .int a]) (rest := []) (r1 := some (.int 0)) (m1 := (mz_i xs Ln)) rfl ⟨?_, rfl⟩ ?_
      · refine mz_go 2 (c' := (if a < 0 then 22 else 4, [some (.ref 2), some (.int a)], [], (mz_i xs Ln))) rfl ?_
        refine mz_ifF h1 ?_
        refine mz_go 4 (c' := (if 0 ≤ a then 22 else 12, [some (.ref 2), some (.int a)], [], (mz_i xs Ln))) rfl ?_
        refine mz_ifT (by have hl : (0 : Int) ≤ (a).toInt := Int32.le_iff_toInt_le.mp (Int32.not_lt.mp h1); exact Int32.le_iff_toInt_le.mpr (show (0 : Int) ≤ (a).toInt by omega)) ?_
        refine mz_go 1 (c' := (23, [some (.ref 2), some (.int a)], [.int 0], (mz_i xs Ln))) rfl ?_
        exact mz_ret rfl
      refine mz_go 3 (c' := (36, [some (.ref 0), some (.int a), some (.int b), some (.int c), some (.int d), some (.ref 2), none], [.int 1, .ref 0], (mz_i xs Ln))) rfl ?_
      refine mz_do (R := mz_r109) (as := [.ref 0, .int 1]) (rest := []) (r1 := some (.int (-1000001))) (m1 := mz_up (mz_i xs Ln) 64 1 1) rfl ⟨?_, rfl⟩ ?_
      · refine mz_go 3 (c' := (4, [some (.ref 0), some (.int 1)], [.int 6, .int 1, .int 1], (mz_i xs Ln))) rfl ?_
        refine mz_do (R := mz_r121) (as := [.int 1, .int 1, .int 6]) (rest := []) (r1 := some (.int 1)) (m1 := (mz_i xs Ln)) rfl ⟨?_, rfl⟩ ?_
        · refine mz_go 8 (c' := (15, [some (.int 1), some (.int 1), some (.int 6)], [.int 1], (mz_i xs Ln))) rfl ?_
          exact mz_ret rfl
        refine mz_go 12 (c' := (25, [some (.ref 0), some (.int 1)], [.int (-1000001)], mz_up (mz_i xs Ln) 64 1 1)) rfl ?_
        exact mz_ret rfl
      exact mz_ret rfl
    · refine mz_go 2 (c' := (2, [some (.ref 65), some (.int a), some (.int b), some (.int c), some (.int d), none, none], [.int a, .ref 65], mz_up (mz_i xs Ln) 64 1 1)) rfl ?_
      refine mz_do (R := mz_r132) (as := [.ref 65, .int a]) (rest := []) (r1 := some (.int 0)) (m1 := mz_up (mz_i xs Ln) 64 1 1) rfl ⟨?_, rfl⟩ ?_
      · refine mz_go 7 (c' := (9, [some (.ref 65), some (.int a)], [.int 1, .int 0, .int 0, .int a], mz_up (mz_i xs Ln) 64 1 1)) rfl ?_
        refine mz_go 1 (c' := (10, [some (.ref 65), some (.int a)], [.int (-1), .int 0, .int a], mz_up (mz_i xs Ln) 64 1 1)) rfl ?_
        refine mz_do (R := mz_r128) (as := [.int a, .int 0, .int (-1)]) (rest := []) (r1 := some (.int 0)) (m1 := mz_up (mz_i xs Ln) 64 1 1) rfl ⟨?_, rfl⟩ ?_
        · refine mz_go 3 (c' := (if a < 0 then 14 else 5, [some (.int a), some (.int 0), some (.int (-1))], [], mz_up (mz_i xs Ln) 64 1 1)) rfl ?_
          refine mz_ifF h1 ?_
          refine mz_go 3 (c' := (if (-1) < a then 14 else 10, [some (.int a), some (.int 0), some (.int (-1))], [], mz_up (mz_i xs Ln) 64 1 1)) rfl ?_
          refine mz_ifT (by have hl : (0 : Int) ≤ (a).toInt := Int32.le_iff_toInt_le.mp (Int32.not_lt.mp h1); exact Int32.lt_iff_toInt_lt.mpr (show (-1 : Int) < (a).toInt by omega)) ?_
          refine mz_go 1 (c' := (15, [some (.int a), some (.int 0), some (.int (-1))], [.int 0], mz_up (mz_i xs Ln) 64 1 1)) rfl ?_
          exact mz_ret rfl
        exact mz_ret rfl
      refine mz_go 3 (c' := (29, [some (.ref 65), some (.int a), some (.int b), some (.int c), some (.int d), none, none], [.int 1, .ref 65], mz_up (mz_i xs Ln) 64 1 1)) rfl ?_
      refine mz_do (R := mz_r127) (as := [.ref 65, .int 1]) (rest := []) (r1 := some (.int (-1000001))) (m1 := mz_up (mz_up (mz_i xs Ln) 64 1 1) 68 1 1) rfl ⟨?_, rfl⟩ ?_
      · refine mz_go 11 (c' := (14, [some (.ref 65), some (.int 1)], [.int (-1000001)], mz_up (mz_up (mz_i xs Ln) 64 1 1) 68 1 1)) rfl ?_
        exact mz_ret rfl
      exact mz_ret rfl
set_option maxHeartbeats 4000000 in
set_option maxRecDepth 100000 in
theorem p1_takeOff (xs : Nat → Int32) (Ln : Nat)  : ∃ v m1 m2, mz_Me 100 mz_r71 [.ref 0] (mz_i xs Ln) (some (.int v)) m1 ∧ mz_Me 100 mz_r141 [.ref 65] m1 (some (.int v)) m2 := by
  refine ⟨(-1000002), mz_up (mz_i xs Ln) 64 2 1, mz_up (mz_up (mz_i xs Ln) 64 2 1) 68 2 1, ⟨?_, rfl⟩, ⟨?_, rfl⟩⟩
  · refine mz_go 7 (c' := (15, [some (.ref 0)], [.int 2, .ref 0], (mz_i xs Ln))) rfl ?_
    refine mz_do (R := mz_r109) (as := [.ref 0, .int 2]) (rest := []) (r1 := some (.int (-1000002))) (m1 := mz_up (mz_i xs Ln) 64 2 1) rfl ⟨?_, rfl⟩ ?_
    · refine mz_go 3 (c' := (4, [some (.ref 0), some (.int 2)], [.int 6, .int 1, .int 2], (mz_i xs Ln))) rfl ?_
      refine mz_do (R := mz_r121) (as := [.int 2, .int 1, .int 6]) (rest := []) (r1 := some (.int 1)) (m1 := (mz_i xs Ln)) rfl ⟨?_, rfl⟩ ?_
      · refine mz_go 8 (c' := (15, [some (.int 2), some (.int 1), some (.int 6)], [.int 1], (mz_i xs Ln))) rfl ?_
        exact mz_ret rfl
      refine mz_go 12 (c' := (25, [some (.ref 0), some (.int 2)], [.int (-1000002)], mz_up (mz_i xs Ln) 64 2 1)) rfl ?_
      exact mz_ret rfl
    exact mz_ret rfl
  · refine mz_go 7 (c' := (11, [some (.ref 65)], [.int 2, .ref 65], mz_up (mz_i xs Ln) 64 2 1)) rfl ?_
    refine mz_do (R := mz_r127) (as := [.ref 65, .int 2]) (rest := []) (r1 := some (.int (-1000002))) (m1 := mz_up (mz_up (mz_i xs Ln) 64 2 1) 68 2 1) rfl ⟨?_, rfl⟩ ?_
    · refine mz_go 11 (c' := (14, [some (.ref 65), some (.int 2)], [.int (-1000002)], mz_up (mz_up (mz_i xs Ln) 64 2 1) 68 2 1)) rfl ?_
      exact mz_ret rfl
    exact mz_ret rfl
