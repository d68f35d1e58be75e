set_option maxHeartbeats 4000000 in
set_option maxRecDepth 100000 in
theorem p1_rule (xs : Nat → Int32) (Ln : Nat) (a : Int32) (b : Int32) : ∃ v m1 m2, mz_Me 100 mz_r72 [.ref 0, .int a, .int b] (mz_i xs Ln) (some (.int v)) m1 ∧ mz_Me 100 mz_r143 [.ref 65, .int a, .int b] m1 (some (.int v)) m2 := by
  by_cases h1 : a < 0
  · refine ⟨(-1000001), mz_up (mz_i xs Ln) 64 1 1, mz_up (mz_up (mz_i xs Ln) 64 1 1) 68 1 1, ⟨?_, rfl⟩, ⟨?_, rfl⟩⟩
    · refine mz_go 3 (c' := (3, [some (.ref 0), some (.int a), some (.int b), none], [.int 5, .int 0, .int a], (mz_i xs Ln))) rfl ?_
      refine mz_do (R := mz_r121) (as := [.int a, .int 0, .int 5]) (rest := []) (r1 := some (.int 0)) (m1 := (mz_i xs Ln)) rfl ⟨?_, rfl⟩ ?_
      · refine mz_go 3 (c' := (if a < 0 then 14 else 5, [some (.int a), some (.int 0), some (.int 5)], [], (mz_i xs Ln))) rfl ?_
        refine mz_ifT h1 ?_
        refine mz_go 1 (c' := (15, [some (.int a), some (.int 0), some (.int 5)], [.int 0], (mz_i xs Ln))) rfl ?_
        exact mz_ret rfl
      refine mz_go 3 (c' := (28, [some (.ref 0), some (.int a), some (.int b), none], [.int 1, .ref 0], (mz_i xs Ln))) rfl ?_
      refine mz_do (R := mz_r109) (as := [.ref 0, .int 1]) (rest := []) (r1 := some (.int (-1000001))) (m1 := mz_up (mz_i xs Ln) 64 1 1) rfl ⟨?_, rfl⟩ ?_
      · refine mz_go 3 (c' := (4, [some (.ref 0), some (.int 1)], [.int 6, .int 1, .int 1], (mz_i xs Ln))) rfl ?_
        refine mz_do (R := mz_r121) (as := [.int 1, .int 1, .int 6]) (rest := []) (r1 := some (.int 1)) (m1 := (mz_i xs Ln)) rfl ⟨?_, rfl⟩ ?_
        · refine mz_go 8 (c' := (15, [some (.int 1), some (.int 1), some (.int 6)], [.int 1], (mz_i xs Ln))) rfl ?_
          exact mz_ret rfl
        refine mz_go 12 (c' := (25, [some (.ref 0), some (.int 1)], [.int (-1000001)], mz_up (mz_i xs Ln) 64 1 1)) rfl ?_
        exact mz_ret rfl
      exact mz_ret rfl
    · refine mz_go 3 (c' := (3, [some (.ref 65), some (.int a), some (.int b), none], [.int 5, .int 0, .int a], mz_up (mz_i xs Ln) 64 1 1)) rfl ?_
      refine mz_do (R := mz_r128) (as := [.int a, .int 0, .int 5]) (rest := []) (r1 := some (.int 0)) (m1 := mz_up (mz_i xs Ln) 64 1 1) rfl ⟨?_, rfl⟩ ?_
      · refine mz_go 3 (c' := (if a < 0 then 14 else 5, [some (.int a), some (.int 0), some (.int 5)], [], mz_up (mz_i xs Ln) 64 1 1)) rfl ?_
        refine mz_ifT h1 ?_
        refine mz_go 1 (c' := (15, [some (.int a), some (.int 0), some (.int 5)], [.int 0], mz_up (mz_i xs Ln) 64 1 1)) rfl ?_
        exact mz_ret rfl
      refine mz_go 3 (c' := (19, [some (.ref 65), some (.int a), some (.int b), none], [.int 1, .ref 65], mz_up (mz_i xs Ln) 64 1 1)) rfl ?_
      refine mz_do (R := mz_r127) (as := [.ref 65, .int 1]) (rest := []) (r1 := some (.int (-1000001))) (m1 := mz_up (mz_up (mz_i xs Ln) 64 1 1) 68 1 1) rfl ⟨?_, rfl⟩ ?_
      · refine mz_go 11 (c' := (14, [some (.ref 65), some (.int 1)], [.int (-1000001)], mz_up (mz_up (mz_i xs Ln) 64 1 1) 68 1 1)) rfl ?_
        exact mz_ret rfl
      exact mz_ret rfl
  · by_cases h2 : 5 < a
    · refine ⟨(-1000001), mz_up (mz_i xs Ln) 64 1 1, mz_up (mz_up (mz_i xs Ln) 64 1 1) 68 1 1, ⟨?_, rfl⟩, ⟨?_, rfl⟩⟩
      · refine mz_go 3 (c' := (3, [some (.ref 0), some (.int a), some (.int b), none], [.int 5, .int 0, .int a], (mz_i xs Ln))) rfl ?_
        refine mz_do (R := mz_r121) (as := [.int a, .int 0, .int 5]) (rest := []) (r1 := some (.int 0)) (m1 := (mz_i xs Ln)) rfl ⟨?_, rfl⟩ ?_
        · refine mz_go 3 (c' := (if a < 0 then 14 else 5, [some (.int a), some (.int 0), some (.int 5)], [], (mz_i xs Ln))) rfl ?_
          refine mz_ifF h1 ?_
          refine mz_go 3 (c' := (if 5 < a then 14 else 10, [some (.int a), some (.int 0), some (.int 5)], [], (mz_i xs Ln))) rfl ?_
          refine mz_ifT h2 ?_
          refine mz_go 1 (c' := (15, [some (.int a), some (.int 0), some (.int 5)], [.int 0], (mz_i xs Ln))) rfl ?_
          exact mz_ret rfl
        refine mz_go 3 (c' := (28, [some (.ref 0), some (.int a), some (.int b), none], [.int 1, .ref 0], (mz_i xs Ln))) rfl ?_
        refine mz_do (R := mz_r109) (as := [.ref 0, .int 1]) (rest := []) (r1 := some (.int (-1000001))) (m1 := mz_up (mz_i xs Ln) 64 1 1) rfl ⟨?_, rfl⟩ ?_
        · refine mz_go 3 (c' := (4, [some (.ref 0), some (.int 1)], [.int 6, .int 1, .int 1], (mz_i xs Ln))) rfl ?_
          refine mz_do (R := mz_r121) (as := [.int 1, .int 1, .int 6]) (rest := []) (r1 := some (.int 1)) (m1 := (mz_i xs Ln)) rfl ⟨?_, rfl⟩ ?_
          · refine mz_go 8 (c' := (15, [some (.int 1), some (.int 1), some (.int 6)], [.int 1], (mz_i xs Ln))) rfl ?_
            exact mz_ret rfl
          refine mz_go 12 (c' := (25, [some (.ref 0), some (.int 1)], [.int (-1000001)], mz_up (mz_i xs Ln) 64 1 1)) rfl ?_
          exact mz_ret rfl
        exact mz_ret rfl
      · refine mz_go 3 (c' := (3, [some (.ref 65), some (.int a), some (.int b), none], [.int 5, .int 0, .int a], mz_up (mz_i xs Ln) 64 1 1)) rfl ?_
        refine mz_do (R := mz_r128) (as := [.int a, .int 0, .int 5]) (rest := []) (r1 := some (.int 0)) (m1 := mz_up (mz_i xs Ln) 64 1 1) rfl ⟨?_, rfl⟩ ?_
        · refine mz_go 3 (c' := (if a < 0 then 14 else 5, [some (.int a), some (.int 0), some (.int 5)], [], mz_up (mz_i xs Ln) 64 1 1)) rfl ?_
          refine mz_ifF h1 ?_
          refine mz_go 3 (c' := (if 5 < a then 14 else 10, [some (.int a), some (.int 0), some (.int 5)], [], mz_up (mz_i xs Ln) 64 1 1)) rfl ?_
          refine mz_ifT h2 ?_
          refine mz_go 1 (c' := (15, [some (.int a), some (.int 0), some (.int 5)], [.int 0], mz_up (mz_i xs Ln) 64 1 1)) rfl ?_
          exact mz_ret rfl
        refine mz_go 3 (c' := (19, [some (.ref 65), some (.int a), some (.int b), none], [.int 1, .ref 65], mz_up (mz_i xs Ln) 64 1 1)) rfl ?_
        refine mz_do (R := mz_r127) (as := [.ref 65, .int 1]) (rest := []) (r1 := some (.int (-1000001))) (m1 := mz_up (mz_up (mz_i xs Ln) 64 1 1) 68 1 1) rfl ⟨?_, rfl⟩ ?_
        · refine mz_go 11 (c' := (14, [some (.ref 65), some (.int 1)], [.int (-1000001)], mz_up (mz_up (mz_i xs Ln) 64 1 1) 68 1 1)) rfl ?_
          exact mz_ret rfl
        exact mz_ret rfl
    · have hl3 : (0 : Int) ≤ (a).toInt := Int32.le_iff_toInt_le.mp (Int32.not_lt.mp h1)
      have hu3 : (a).toInt ≤ (5 : Int) := Int32.le_iff_toInt_le.mp (Int32.not_lt.mp h2)
      obtain rfl | rfl | rfl | rfl | rfl | rfl : a = 0 ∨ a = 1 ∨ a = 2 ∨ a = 3 ∨ a = 4 ∨ a = 5 := by
          rcases (show a.toInt = 0 ∨ a.toInt = 1 ∨ a.toInt = 2 ∨ a.toInt = 3 ∨ a.toInt = 4 ∨ a.toInt = 5 by omega) with h | h | h | h | h | h
          · exact (Or.inl (Int32.toInt_inj.mp h))
          · exact (Or.inr (Or.inl (Int32.toInt_inj.mp h)))
          · exact (Or.inr (Or.inr (Or.inl (Int32.toInt_inj.mp h))))
          · exact (Or.inr (Or.inr (Or.inr (Or.inl (Int32.toInt_inj.mp h)))))
          · exact (Or.inr (Or.inr (Or.inr (Or.inr (Or.inl (Int32.toInt_inj.mp h))))))
          · exact (Or.inr (Or.inr (Or.inr (Or.inr (Or.inr (Int32.toInt_inj.mp h))))))
      · by_cases h4 : b < 0
        · refine ⟨(-1000001), mz_up (mz_i xs Ln) 64 1 1, mz_up (mz_up (mz_i xs Ln) 64 1 1) 68 1 1, ⟨?_, rfl⟩, ⟨?_, rfl⟩⟩
          · refine mz_go 3 (c' := (3, [some (.ref 0), some (.int 0), some (.int b), none], [.int 5, .int 0, .int 0], (mz_i xs Ln))) rfl ?_
            refine mz_do (R := mz_r121) (as := [.int 0, .int 0, .int 5]) (rest := []) (r1 := some (.int 1)) (m1 := (mz_i xs Ln)) rfl ⟨?_, rfl⟩ ?_
            · refine mz_go 8 (c' := (15, [some (.int 0), some (.int 0), some (.int 5)], [.int 1], (mz_i xs Ln))) rfl ?_
              exact mz_ret rfl
            refine mz_go 8 (c' := (20, [some (.ref 0), some (.int 0), some (.int b), none], [.int 99, .int 0, .int b], (mz_i xs Ln))) rfl ?_
            refine mz_do (R := mz_r121) (as := [.int b, .int 0, .int 99]) (rest := []) (r1 := some (.int 0)) (m1 := (mz_i xs Ln)) rfl ⟨?_, rfl⟩ ?_
            · refine mz_go 3 (c' := (if b < 0 then 14 else 5, [some (.int b), some (.int 0), some (.int 99)], [], (mz_i xs Ln))) rfl ?_
              refine mz_ifT h4 ?_
              refine mz_go 1 (c' := (15, [some (.int b), some (.int 0), some (.int 99)], [.int 0], (mz_i xs Ln))) rfl ?_
              exact mz_ret rfl
            refine mz_go 3 (c' := (28, [some (.ref 0), some (.int 0), some (.int b), none], [.int 1, .ref 0], (mz_i xs Ln))) rfl ?_
            refine mz_do (R := mz_r109) (as := [.ref 0, .int 1]) (rest := []) (r1 := some (.int (-1000001))) (m1 := mz_up (mz_i xs Ln) 64 1 1) rfl ⟨?_, rfl⟩ ?_
            · refine mz_go 3 (c' := (4, [some (.ref 0), some (.int 1)], [.int 6, .int 1, .int 1], (mz_i xs Ln))) rfl ?_
              refine mz_do (R := mz_r121) (as := [.int 1, .int 1, .int 6]) (rest := []) (r1 := some (.int 1)) (m1 := (mz_i xs Ln)) rfl ⟨?_, rfl⟩ ?_
              · refine mz_go 8 (c' := (15, [some (.int 1), some (.int 1), some (.int 6)], [.int 1], (mz_i xs Ln))) rfl ?_
                exact mz_ret rfl
              refine mz_go 12 (c' := (25, [some (.ref 0), some (.int 1)], [.int (-1000001)], mz_up (mz_i xs Ln) 64 1 1)) rfl ?_
              exact mz_ret rfl
            exact mz_ret rfl
          · refine mz_go 3 (c' := (3, [some (.ref 65), some (.int 0), some (.int b), none], [.int 5, .int 0, .int 0], mz_up (mz_i xs Ln) 64 1 1)) rfl ?_
            refine mz_do (R := mz_r128) (as := [.int 0, .int 0, .int 5]) (rest := []) (r1 := some (.int 1)) (m1 := mz_up (mz_i xs Ln) 64 1 1) rfl ⟨?_, rfl⟩ ?_
            · refine mz_go 8 (c' := (15, [some (.int 0), some (.int 0), some (.int 5)], [.int 1], mz_up (mz_i xs Ln) 64 1 1)) rfl ?_
              exact mz_ret rfl
            refine mz_go 3 (c' := (11, [some (.ref 65), some (.int 0), some (.int b), none], [.int b, .int 0], mz_up (mz_i xs Ln) 64 1 1)) rfl ?_
            refine mz_do (R := mz_r142) (as := [.int 0, .int b]) (rest := []) (r1 := some (.int 0)) (m1 := mz_up (mz_i xs Ln) 64 1 1) rfl ⟨?_, rfl⟩ ?_
            · refine mz_go 9 (c' := (33, [some (.int 0), some (.int b)], [.int 99, .int 0, .int b], mz_up (mz_i xs Ln) 64 1 1)) rfl ?_
              refine mz_do (R := mz_r128) (as := [.int b, .int 0, .int 99]) (rest := []) (r1 := some (.int 0)) (m1 := mz_up (mz_i xs Ln) 64 1 1) rfl ⟨?_, rfl⟩ ?_
              · refine mz_go 3 (c' := (if b < 0 then 14 else 5, [some (.int b), some (.int 0), some (.int 99)], [], mz_up (mz_i xs Ln) 64 1 1)) rfl ?_
                refine mz_ifT h4 ?_
                refine mz_go 1 (c' := (15, [some (.int b), some (.int 0), some (.int 99)], [.int 0], mz_up (mz_i xs Ln) 64 1 1)) rfl ?_
                exact mz_ret rfl
              exact mz_ret rfl
            refine mz_go 3 (c' := (19, [some (.ref 65), some (.int 0), some (.int b), none], [.int 1, .ref 65], mz_up (mz_i xs Ln) 64 1 1)) rfl ?_
            refine mz_do (R := mz_r127) (as := [.ref 65, .int 1]) (rest := []) (r1 := some (.int (-1000001))) (m1 := mz_up (mz_up (mz_i xs Ln) 64 1 1) 68 1 1) rfl ⟨?_, rfl⟩ ?_
            · refine mz_go 11 (c' := (14, [some (.ref 65), some (.int 1)], [.int (-1000001)], mz_up (mz_up (mz_i xs Ln) 64 1 1) 68 1 1)) rfl ?_
              exact mz_ret rfl
            exact mz_ret rfl
        · by_cases h5 : 99 < b
          · refine ⟨(-1000001), mz_up (mz_i xs Ln) 64 1 1, mz_up (mz_up (mz_i xs Ln) 64 1 1) 68 1 1, ⟨?_, rfl⟩, ⟨?_, rfl⟩⟩
            · refine mz_go 3 (c' := (3, [some (.ref 0), some (.int 0), some (.int b), none], [.int 5, .int 0, .int 0], (mz_i xs Ln))) rfl ?_
              refine mz_do (R := mz_r121) (as := [.int 0, .int 0, .int 5]) (rest := []) (r1 := some (.int 1)) (m1 := (mz_i xs Ln)) rfl ⟨?_, rfl⟩ ?_
              · refine mz_go 8 (c' := (15, [some (.int 0), some (.int 0), some (.int 5)], [.int 1], (mz_i xs Ln))) rfl ?_
                exact mz_ret rfl
              refine mz_go 8 (c' := (20, [some (.ref 0), some (.int 0), some (.int b), none], [.int 99, .int 0, .int b], (mz_i xs Ln))) rfl ?_
              refine mz_do (R := mz_r121) (as := [.int b, .int 0, .int 99]) (rest := []) (r1 := some (.int 0)) (m1 := (mz_i xs Ln)) rfl ⟨?_, rfl⟩ ?_
              · refine mz_go 3 (c' := (if b < 0 then 14 else 5, [some (.int b), some (.int 0), some (.int 99)], [], (mz_i xs Ln))) rfl ?_
                refine mz_ifF h4 ?_
                refine mz_go 3 (c' := (if 99 < b then 14 else 10, [some (.int b), some (.int 0), some (.int 99)], [], (mz_i xs Ln))) rfl ?_
                refine mz_ifT h5 ?_
                refine mz_go 1 (c' := (15, [some (.int b), some (.int 0), some (.int 99)], [.int 0], (mz_i xs Ln))) rfl ?_
                exact mz_ret rfl
              refine mz_go 3 (c' := (28, [some (.ref 0), some (.int 0), some (.int b), none], [.int 1, .ref 0], (mz_i xs Ln))) rfl ?_
              refine mz_do (R := mz_r109) (as := [.ref 0, .int 1]) (rest := []) (r1 := some (.int (-1000001))) (m1 := mz_up (mz_i xs Ln) 64 1 1) rfl ⟨?_, rfl⟩ ?_
              · refine mz_go 3 (c' := (4, [some (.ref 0), some (.int 1)], [.int 6, .int 1, .int 1], (mz_i xs Ln))) rfl ?_
                refine mz_do (R := mz_r121) (as := [.int 1, .int 1, .int 6]) (rest := []) (r1 := some (.int 1)) (m1 := (mz_i xs Ln)) rfl ⟨?_, rfl⟩ ?_
                · refine mz_go 8 (c' := (15, [some (.int 1), some (.int 1), some (.int 6)], [.int 1], (mz_i xs Ln))) rfl ?_
                  exact mz_ret rfl
                refine mz_go 12 (c' := (25, [some (.ref 0), some (.int 1)], [.int (-1000001)], mz_up (mz_i xs Ln) 64 1 1)) rfl ?_
                exact mz_ret rfl
              exact mz_ret rfl
            · refine mz_go 3 (c' := (3, [some (.ref 65), some (.int 0), some (.int b), none], [.int 5, .int 0, .int 0], mz_up (mz_i xs Ln) 64 1 1)) rfl ?_
              refine mz_do (R := mz_r128) (as := [.int 0, .int 0, .int 5]) (rest := []) (r1 := some (.int 1)) (m1 := mz_up (mz_i xs Ln) 64 1 1) rfl ⟨?_, rfl⟩ ?_
              · refine mz_go 8 (c' := (15, [some (.int 0), some (.int 0), some (.int 5)], [.int 1], mz_up (mz_i xs Ln) 64 1 1)) rfl ?_
                exact mz_ret rfl
              refine mz_go 3 (c' := (11, [some (.ref 65), some (.int 0), some (.int b), none], [.int b, .int 0], mz_up (mz_i xs Ln) 64 1 1)) rfl ?_
              refine mz_do (R := mz_r142) (as := [.int 0, .int b]) (rest := []) (r1 := some (.int 0)) (m1 := mz_up (mz_i xs Ln) 64 1 1) rfl ⟨?_, rfl⟩ ?_
              · refine mz_go 9 (c' := (33, [some (.int 0), some (.int b)], [.int 99, .int 0, .int b], mz_up (mz_i xs Ln) 64 1 1)) rfl ?_
                refine mz_do (R := mz_r128) (as := [.int b, .int 0, .int 99]) (rest := []) (r1 := some (.int 0)) (m1 := mz_up (mz_i xs Ln) 64 1 1) rfl ⟨?_, rfl⟩ ?_
                · refine mz_go 3 (c' := (if b < 0 then 14 else 5, [some (.int b), some (.int 0), some (.int 99)], [], mz_up (mz_i xs Ln) 64 1 1)) rfl ?_
                  refine mz_ifF h4 ?_
                  refine mz_go 3 (c' := (if 99 < b then 14 else 10, [some (.int b), some (.int 0), some (.int 99)], [], mz_up (mz_i xs Ln) 64 1 1)) rfl ?_
                  refine mz_ifT h5 ?_
                  refine mz_go 1 (c' := (15, [some (.int b), some (.int 0), some (.int 99)], [.int 0], mz_up (mz_i xs Ln) 64 1 1)) rfl ?_
                  exact mz_ret rfl
                exact mz_ret rfl
              refine mz_go 3 (c' := (19, [some (.ref 65), some (.int 0), some (.int b), none], [.int 1, .ref 65], mz_up (mz_i xs Ln) 64 1 1)) rfl ?_
              refine mz_do (R := mz_r127) (as := [.ref 65, .int 1]) (rest := []) (r1 := some (.int (-1000001))) (m1 := mz_up (mz_up (mz_i xs Ln) 64 1 1) 68 1 1) rfl ⟨?_, rfl⟩ ?_
              · refine mz_go 11 (c' := (14, [some (.ref 65), some (.int 1)], [.int (-1000001)], mz_up (mz_up (mz_i xs Ln) 64 1 1) 68 1 1)) rfl ?_
                exact mz_ret rfl
              exact mz_ret rfl
          · refine ⟨5, mz_up (mz_i xs Ln) 7 0 b, mz_up (mz_up (mz_i xs Ln) 7 0 b) 66 10 b, ⟨?_, rfl⟩, ⟨?_, rfl⟩⟩
            · refine mz_go 3 (c' := (3, [some (.ref 0), some (.int 0), some (.int b), none], [.int 5, .int 0, .int 0], (mz_i xs Ln))) rfl ?_
              refine mz_do (R := mz_r121) (as := [.int 0, .int 0, .int 5]) (rest := []) (r1 := some (.int 1)) (m1 := (mz_i xs Ln)) rfl ⟨?_, rfl⟩ ?_
              · refine mz_go 8 (c' := (15, [some (.int 0), some (.int 0), some (.int 5)], [.int 1], (mz_i xs Ln))) rfl ?_
                exact mz_ret rfl
              refine mz_go 8 (c' := (20, [some (.ref 0), some (.int 0), some (.int b), none], [.int 99, .int 0, .int b], (mz_i xs Ln))) rfl ?_
              refine mz_do (R := mz_r121) (as := [.int b, .int 0, .int 99]) (rest := []) (r1 := some (.int 1)) (m1 := (mz_i xs Ln)) rfl ⟨?_, rfl⟩ ?_
              · refine mz_go 3 (c' := (if b < 0 then 14 else 5, [some (.int b), some (.int 0), some (.int 99)], [], (mz_i xs Ln))) rfl ?_
                refine mz_ifF h4 ?_
                refine mz_go 3 (c' := (if 99 < b then 14 else 10, [some (.int b), some (.int 0), some (.int 99)], [], (mz_i xs Ln))) rfl ?_
                refine mz_ifF h5 ?_
                refine mz_go 2 (c' := (15, [some (.int b), some (.int 0), some (.int 99)], [.int 1], (mz_i xs Ln))) rfl ?_
                exact mz_ret rfl
              refine mz_go 14 (c' := (53, [some (.ref 0), some (.int 0), some (.int b), some (.int 5)], [.int 5], mz_up (mz_i xs Ln) 7 0 b)) rfl ?_
              exact mz_ret rfl
            · refine mz_go 3 (c' := (3, [some (.ref 65), some (.int 0), some (.int b), none], [.int 5, .int 0, .int 0], mz_up (mz_i xs Ln) 7 0 b)) rfl ?_
              refine mz_do (R := mz_r128) (as := [.int 0, .int 0, .int 5]) (rest := []) (r1 := some (.int 1)) (m1 := mz_up (mz_i xs Ln) 7 0 b) rfl ⟨?_, rfl⟩ ?_
              · refine mz_go 8 (c' := (15, [some (.int 0), some (.int 0), some (.int 5)], [.int 1], mz_up (mz_i xs Ln) 7 0 b)) rfl ?_
                exact mz_ret rfl
              refine mz_go 3 (c' := (11, [some (.ref 65), some (.int 0), some (.int b), none], [.int b, .int 0], mz_up (mz_i xs Ln) 7 0 b)) rfl ?_
              refine mz_do (R := mz_r142) (as := [.int 0, .int b]) (rest := []) (r1 := some (.int 1)) (m1 := mz_up (mz_i xs Ln) 7 0 b) rfl ⟨?_, rfl⟩ ?_
              · refine mz_go 9 (c' := (33, [some (.int 0), some (.int b)], [.int 99, .int 0, .int b], mz_up (mz_i xs Ln) 7 0 b)) rfl ?_
                refine mz_do (R := mz_r128) (as := [.int b, .int 0, .int 99]) (rest := []) (r1 := some (.int 1)) (m1 := mz_up (mz_i xs Ln) 7 0 b) rfl ⟨?_, rfl⟩ ?_
                · refine mz_go 3 (c' := (if b < 0 then 14 else 5, [some (.int b), some (.int 0), some (.int 99)], [], mz_up (mz_i xs Ln) 7 0 b)) rfl ?_
                  refine mz_ifF h4 ?_
                  refine mz_go 3 (c' := (if 99 < b then 14 else 10, [some (.int b), some (.int 0), some (.int 99)], [], mz_up (mz_i xs Ln) 7 0 b)) rfl ?_
                  refine mz_ifF h5 ?_
                  refine mz_go 2 (c' := (15, [some (.int b), some (.int 0), some (.int 99)], [.int 1], mz_up (mz_i xs Ln) 7 0 b)) rfl ?_
                  exact mz_ret rfl
                exact mz_ret rfl
              refine mz_go 16 (c' := (44, [some (.ref 65), some (.int 0), some (.int b), some (.int 5)], [.int 5], mz_up (mz_up (mz_i xs Ln) 7 0 b) 66 10 b)) rfl ?_
              exact mz_ret rfl
      · by_cases h6 : b < 0
        · refine ⟨(-1000001), mz_up (mz_i xs Ln) 64 1 1, mz_up (mz_up (mz_i xs Ln) 64 1 1) 68 1 1, ⟨?_, rfl⟩, ⟨?_, rfl⟩⟩
          · refine mz_go 3 (c' := (3, [some (.ref 0), some (.int 1), some (.int b), none], [.int 5, .int 0, .int 1], (mz_i xs Ln))) rfl ?_
            refine mz_do (R := mz_r121) (as := [.int 1, .int 0, .int 5]) (rest := []) (r1 := some (.int 1)) (m1 := (mz_i xs Ln)) rfl ⟨?_, rfl⟩ ?_
            · refine mz_go 8 (c' := (15, [some (.int 1), some (.int 0), some (.int 5)], [.int 1], (mz_i xs Ln))) rfl ?_
              exact mz_ret rfl
            refine mz_go 8 (c' := (20, [some (.ref 0), some (.int 1), some (.int b), none], [.int 99, .int 0, .int b], (mz_i xs Ln))) rfl ?_
            refine mz_do (R := mz_r121) (as := [.int b, .int 0, .int 99]) (rest := []) (r1 := some (.int 0)) (m1 := (mz_i xs Ln)) rfl ⟨?_, rfl⟩ ?_
            · refine mz_go 3 (c' := (if b < 0 then 14 else 5, [some (.int b), some (.int 0), some (.int 99)], [], (mz_i xs Ln))) rfl ?_
              refine mz_ifT h6 ?_
              refine mz_go 1 (c' := (15, [some (.int b), some (.int 0), some (.int 99)], [.int 0], (mz_i xs Ln))) rfl ?_
              exact mz_ret rfl
            refine mz_go 3 (c' := (28, [some (.ref 0), some (.int 1), some (.int b), none], [.int 1, .ref 0], (mz_i xs Ln))) rfl ?_
            refine mz_do (R := mz_r109) (as := [.ref 0, .int 1]) (rest := []) (r1 := some (.int (-1000001))) (m1 := mz_up (mz_i xs Ln) 64 1 1) rfl ⟨?_, rfl⟩ ?_
            · refine mz_go 3 (c' := (4, [some (.ref 0), some (.int 1)], [.int 6, .int 1, .int 1], (mz_i xs Ln))) rfl ?_
              refine mz_do (R := mz_r121) (as := [.int 1, .int 1, .int 6]) (rest := []) (r1 := some (.int 1)) (m1 := (mz_i xs Ln)) rfl ⟨?_, rfl⟩ ?_
              · refine mz_go 8 (c' := (15, [some (.int 1), some (.int 1), some (.int 6)], [.int 1], (mz_i xs Ln))) rfl ?_
                exact mz_ret rfl
              refine mz_go 12 (c' := (25, [some (.ref 0), some (.int 1)], [.int (-1000001)], mz_up (mz_i xs Ln) 64 1 1)) rfl ?_
              exact mz_ret rfl
            exact mz_ret rfl
          · refine mz_go 3 (c' := (3, [some (.ref 65), some (.int 1), some (.int b), none], [.int 5, .int 0, .int 1], mz_up (mz_i xs Ln) 64 1 1)) rfl ?_
            refine mz_do (R := mz_r128) (as := [.int 1, .int 0, .int 5]) (rest := []) (r1 := some (.int 1)) (m1 := mz_up (mz_i xs Ln) 64 1 1) rfl ⟨?_, rfl⟩ ?_
            · refine mz_go 8 (c' := (15, [some (.int 1), some (.int 0), some (.int 5)], [.int 1], mz_up (mz_i xs Ln) 64 1 1)) rfl ?_
              exact mz_ret rfl
            refine mz_go 3 (c' := (11, [some (.ref 65), some (.int 1), some (.int b), none], [.int b, .int 1], mz_up (mz_i xs Ln) 64 1 1)) rfl ?_
            refine mz_do (R := mz_r142) (as := [.int 1, .int b]) (rest := []) (r1 := some (.int 0)) (m1 := mz_up (mz_i xs Ln) 64 1 1) rfl ⟨?_, rfl⟩ ?_
            · refine mz_go 9 (c' := (33, [some (.int 1), some (.int b)], [.int 99, .int 0, .int b], mz_up (mz_i xs Ln) 64 1 1)) rfl ?_
              refine mz_do (R := mz_r128) (as := [.int b, .int 0, .int 99]) (rest := []) (r1 := some (.int 0)) (m1 := mz_up (mz_i xs Ln) 64 1 1) rfl ⟨?_, rfl⟩ ?_
              · refine mz_go 3 (c' := (if b < 0 then 14 else 5, [some (.int b), some (.int 0), some (.int 99)], [], mz_up (mz_i xs Ln) 64 1 1)) rfl ?_
                refine mz_ifT h6 ?_
                refine mz_go 1 (c' := (15, [some (.int b), some (.int 0), some (.int 99)], [.int 0], mz_up (mz_i xs Ln) 64 1 1)) rfl ?_
                exact mz_ret rfl
              exact mz_ret rfl
            refine mz_go 3 (c' := (19, [some (.ref 65), some (.int 1), some (.int b), none], [.int 1, .ref 65], mz_up (mz_i xs Ln) 64 1 1)) rfl ?_
            refine mz_do (R := mz_r127) (as := [.ref 65, .int 1]) (rest := []) (r1 := some (.int (-1000001))) (m1 := mz_up (mz_up (mz_i xs Ln) 64 1 1) 68 1 1) rfl ⟨?_, rfl⟩ ?_
            · refine mz_go 11 (c' := (14, [some (.ref 65), some (.int 1)], [.int (-1000001)], mz_up (mz_up (mz_i xs Ln) 64 1 1) 68 1 1)) rfl ?_
              exact mz_ret rfl
            exact mz_ret rfl
        · by_cases h7 : 99 < b
          · refine ⟨(-1000001), mz_up (mz_i xs Ln) 64 1 1, mz_up (mz_up (mz_i xs Ln) 64 1 1) 68 1 1, ⟨?_, rfl⟩, ⟨?_, rfl⟩⟩
            · refine mz_go 3 (c' := (3, [some (.ref 0), some (.int 1), some (.int b), none], [.int 5, .int 0, .int 1], (mz_i xs Ln))) rfl ?_
              refine mz_do (R := mz_r121) (as := [.int 1, .int 0, .int 5]) (rest := []) (r1 := some (.int 1)) (m1 := (mz_i xs Ln)) rfl ⟨?_, rfl⟩ ?_
              · refine mz_go 8 (c' := (15, [some (.int 1), some (.int 0), some (.int 5)], [.int 1], (mz_i xs Ln))) rfl ?_
                exact mz_ret rfl
              refine mz_go 8 (c' := (20, [some (.ref 0), some (.int 1), some (.int b), none], [.int 99, .int 0, .int b], (mz_i xs Ln))) rfl ?_
              refine mz_do (R := mz_r121) (as := [.int b, .int 0, .int 99]) (rest := []) (r1 := some (.int 0)) (m1 := (mz_i xs Ln)) rfl ⟨?_, rfl⟩ ?_
              · refine mz_go 3 (c' := (if b < 0 then 14 else 5, [some (.int b), some (.int 0), some (.int 99)], [], (mz_i xs Ln))) rfl ?_
                refine mz_ifF h6 ?_
                refine mz_go 3 (c' := (if 99 < b then 14 else 10, [some (.int b), some (.int 0), some (.int 99)], [], (mz_i xs Ln))) rfl ?_
                refine mz_ifT h7 ?_
                refine mz_go 1 (c' := (15, [some (.int b), some (.int 0), some (.int 99)], [.int 0], (mz_i xs Ln))) rfl ?_
                exact mz_ret rfl
              refine mz_go 3 (c' := (28, [some (.ref 0), some (.int 1), some (.int b), none], [.int 1, .ref 0], (mz_i xs Ln))) rfl ?_
              refine mz_do (R := mz_r109) (as := [.ref 0, .int 1]) (rest := []) (r1 := some (.int (-1000001))) (m1 := mz_up (mz_i xs Ln) 64 1 1) rfl ⟨?_, rfl⟩ ?_
              · refine mz_go 3 (c' := (4, [some (.ref 0), some (.int 1)], [.int 6, .int 1, .int 1], (mz_i xs Ln))) rfl ?_
                refine mz_do (R := mz_r121) (as := [.int 1, .int 1, .int 6]) (rest := []) (r1 := some (.int 1)) (m1 := (mz_i xs Ln)) rfl ⟨?_, rfl⟩ ?_
                · refine mz_go 8 (c' := (15, [some (.int 1), some (.int 1), some (.int 6)], [.int 1], (mz_i xs Ln))) rfl ?_
                  exact mz_ret rfl
                refine mz_go 12 (c' := (25, [some (.ref 0), some (.int 1)], [.int (-1000001)], mz_up (mz_i xs Ln) 64 1 1)) rfl ?_
                exact mz_ret rfl
              exact mz_ret rfl
            · refine mz_go 3 (c' := (3, [some (.ref 65), some (.int 1), some (.int b), none], [.int 5, .int 0, .int 1], mz_up (mz_i xs Ln) 64 1 1)) rfl ?_
              refine mz_do (R := mz_r128) (as := [.int 1, .int 0, .int 5]) (rest := []) (r1 := some (.int 1)) (m1 := mz_up (mz_i xs Ln) 64 1 1) rfl ⟨?_, rfl⟩ ?_
              · refine mz_go 8 (c' := (15, [some (.int 1), some (.int 0), some (.int 5)], [.int 1], mz_up (mz_i xs Ln) 64 1 1)) rfl ?_
                exact mz_ret rfl
              refine mz_go 3 (c' := (11, [some (.ref 65), some (.int 1), some (.int b), none], [.int b, .int 1], mz_up (mz_i xs Ln) 64 1 1)) rfl ?_
              refine mz_do (R := mz_r142) (as := [.int 1, .int b]) (rest := []) (r1 := some (.int 0)) (m1 := mz_up (mz_i xs Ln) 64 1 1) rfl ⟨?_, rfl⟩ ?_
              · refine mz_go 9 (c' := (33, [some (.int 1), some (.int b)], [.int 99, .int 0, .int b], mz_up (mz_i xs Ln) 64 1 1)) rfl ?_
                refine mz_do (R := mz_r128) (as := [.int b, .int 0, .int 99]) (rest := []) (r1 := some (.int 0)) (m1 := mz_up (mz_i xs Ln) 64 1 1) rfl ⟨?_, rfl⟩ ?_
                · refine mz_go 3 (c' := (if b < 0 then 14 else 5, [some (.int b), some (.int 0), some (.int 99)], [], mz_up (mz_i xs Ln) 64 1 1)) rfl ?_
                  refine mz_ifF h6 ?_
                  refine mz_go 3 (c' := (if 99 < b then 14 else 10, [some (.int b), some (.int 0), some (.int 99)], [], mz_up (mz_i xs Ln) 64 1 1)) rfl ?_
                  refine mz_ifT h7 ?_
                  refine mz_go 1 (c' := (15, [some (.int b), some (.int 0), some (.int 99)], [.int 0], mz_up (mz_i xs Ln) 64 1 1)) rfl ?_
                  exact mz_ret rfl
                exact mz_ret rfl
              refine mz_go 3 (c' := (19, [some (.ref 65), some (.int 1), some (.int b), none], [.int 1, .ref 65], mz_up (mz_i xs Ln) 64 1 1)) rfl ?_
              refine mz_do (R := mz_r127) (as := [.ref 65, .int 1]) (rest := []) (r1 := some (.int (-1000001))) (m1 := mz_up (mz_up (mz_i xs Ln) 64 1 1) 68 1 1) rfl ⟨?_, rfl⟩ ?_
              · refine mz_go 11 (c' := (14, [some (.ref 65), some (.int 1)], [.int (-1000001)], mz_up (mz_up (mz_i xs Ln) 64 1 1) 68 1 1)) rfl ?_
                exact mz_ret rfl
              exact mz_ret rfl
          · refine ⟨10, mz_up (mz_i xs Ln) 7 1 b, mz_up (mz_up (mz_i xs Ln) 7 1 b) 66 11 b, ⟨?_, rfl⟩, ⟨?_, rfl⟩⟩
            · refine mz_go 3 (c' := (3, [some (.ref 0), some (.int 1), some (.int b), none], [.int 5, .int 0, .int 1], (mz_i xs Ln))) rfl ?_
              refine mz_do (R := mz_r121) (as := [.int 1, .int 0, .int 5]) (rest := []) (r1 := some (.int 1)) (m1 := (mz_i xs Ln)) rfl ⟨?_, rfl⟩ ?_
              · refine mz_go 8 (c' := (15, [some (.int 1), some (.int 0), some (.int 5)], [.int 1], (mz_i xs Ln))) rfl ?_
                exact mz_ret rfl
              refine mz_go 8 (c' := (20, [some (.ref 0), some (.int 1), some (.int b), none], [.int 99, .int 0, .int b], (mz_i xs Ln))) rfl ?_
              refine mz_do (R := mz_r121) (as := [.int b, .int 0, .int 99]) (rest := []) (r1 := some (.int 1)) (m1 := (mz_i xs Ln)) rfl ⟨?_, rfl⟩ ?_
              · refine mz_go 3 (c' := (if b < 0 then 14 else 5, [some (.int b), some (.int 0), some (.int 99)], [], (mz_i xs Ln))) rfl ?_
                refine mz_ifF h6 ?_
                refine mz_go 3 (c' := (if 99 < b then 14 else 10, [some (.int b), some (.int 0), some (.int 99)], [], (mz_i xs Ln))) rfl ?_
                refine mz_ifF h7 ?_
                refine mz_go 2 (c' := (15, [some (.int b), some (.int 0), some (.int 99)], [.int 1], (mz_i xs Ln))) rfl ?_
                exact mz_ret rfl
              refine mz_go 14 (c' := (53, [some (.ref 0), some (.int 1), some (.int b), some (.int 10)], [.int 10], mz_up (mz_i xs Ln) 7 1 b)) rfl ?_
              exact mz_ret rfl
            · refine mz_go 3 (c' := (3, [some (.ref 65), some (.int 1), some (.int b), none], [.int 5, .int 0, .int 1], mz_up (mz_i xs Ln) 7 1 b)) rfl ?_
              refine mz_do (R := mz_r128) (as := [.int 1, .int 0, .int 5]) (rest := []) (r1 := some (.int 1)) (m1 := mz_up (mz_i xs Ln) 7 1 b) rfl ⟨?_, rfl⟩ ?_
              · refine mz_go 8 (c' := (15, [some (.int 1), some (.int 0), some (.int 5)], [.int 1], mz_up (mz_i xs Ln) 7 1 b)) rfl ?_
                exact mz_ret rfl
              refine mz_go 3 (c' := (11, [some (.ref 65), some (.int 1), some (.int b), none], [.int b, .int 1], mz_up (mz_i xs Ln) 7 1 b)) rfl ?_
              refine mz_do (R := mz_r142) (as := [.int 1, .int b]) (rest := []) (r1 := some (.int 1)) (m1 := mz_up (mz_i xs Ln) 7 1 b) rfl ⟨?_, rfl⟩ ?_
              · refine mz_go 9 (c' := (33, [some (.int 1), some (.int b)], [.int 99, .int 0, .int b], mz_up (mz_i xs Ln) 7 1 b)) rfl ?_
                refine mz_do (R := mz_r128) (as := [.int b, .int 0, .int 99]) (rest := []) (r1 := some (.int 1)) (m1 := mz_up (mz_i xs Ln) 7 1 b) rfl ⟨?_, rfl⟩ ?_
                · refine mz_go 3 (c' := (if b < 0 then 14 else 5, [some (.int b), some (.int 0), some (.int 99)], [], mz_up (mz_i xs Ln) 7 1 b)) rfl ?_
                  refine mz_ifF h6 ?_
                  refine mz_go 3 (c' := (if 99 < b then 14 else 10, [some (.int b), some (.int 0), some (.int 99)], [], mz_up (mz_i xs Ln) 7 1 b)) rfl ?_
                  refine mz_ifF h7 ?_
                  refine mz_go 2 (c' := (15, [some (.int b), some (.int 0), some (.int 99)], [.int 1], mz_up (mz_i xs Ln) 7 1 b)) rfl ?_
                  exact mz_ret rfl
                exact mz_ret rfl
              refine mz_go 16 (c' := (44, [some (.ref 65), some (.int 1), some (.int b), some (.int 10)], [.int 10], mz_up (mz_up (mz_i xs Ln) 7 1 b) 66 11 b)) rfl ?_
              exact mz_ret rfl
      · by_cases h8 : b < 1
        · refine ⟨(-1000001), mz_up (mz_i xs Ln) 64 1 1, mz_up (mz_up (mz_i xs Ln) 64 1 1) 68 1 1, ⟨?_, rfl⟩, ⟨?_, rfl⟩⟩
          · refine mz_go 3 (c' := (3, [some (.ref 0), some (.int 2), some (.int b), none], [.int 5, .int 0, .int 2], (mz_i xs Ln))) rfl ?_
            refine mz_do (R := mz_r121) (as := [.int 2, .int 0, .int 5]) (rest := []) (r1 := some (.int 1)) (m1 := (mz_i xs Ln)) rfl ⟨?_, rfl⟩ ?_
            · refine mz_go 8 (c' := (15, [some (.int 2), some (.int 0), some (.int 5)], [.int 1], (mz_i xs Ln))) rfl ?_
              exact mz_ret rfl
            refine mz_go 8 (c' := (20, [some (.ref 0), some (.int 2), some (.int b), none], [.int 80, .int 1, .int b], (mz_i xs Ln))) rfl ?_
            refine mz_do (R := mz_r121) (as := [.int b, .int 1, .int 80]) (rest := []) (r1 := some (.int 0)) (m1 := (mz_i xs Ln)) rfl ⟨?_, rfl⟩ ?_
            · refine mz_go 3 (c' := (if b < 1 then 14 else 5, [some (.int b), some (.int 1), some (.int 80)], [], (mz_i xs Ln))) rfl ?_
              refine mz_ifT h8 ?_
              refine mz_go 1 (c' := (15, [some (.int b), some (.int 1), some (.int 80)], [.int 0], (mz_i xs Ln))) rfl ?_
              exact mz_ret rfl
            refine mz_go 3 (c' := (28, [some (.ref 0), some (.int 2), some (.int b), none], [.int 1, .ref 0], (mz_i xs Ln))) rfl ?_
            refine mz_do (R := mz_r109) (as := [.ref 0, .int 1]) (rest := []) (r1 := some (.int (-1000001))) (m1 := mz_up (mz_i xs Ln) 64 1 1) rfl ⟨?_, rfl⟩ ?_
            · refine mz_go 3 (c' := (4, [some (.ref 0), some (.int 1)], [.int 6, .int 1, .int 1], (mz_i xs Ln))) rfl ?_
              refine mz_do (R := mz_r121) (as := [.int 1, .int 1, .int 6]) (rest := []) (r1 := some (.int 1)) (m1 := (mz_i xs Ln)) rfl ⟨?_, rfl⟩ ?_
              · refine mz_go 8 (c' := (15, [some (.int 1), some (.int 1), some (.int 6)], [.int 1], (mz_i xs Ln))) rfl ?_
                exact mz_ret rfl
              refine mz_go 12 (c' := (25, [some (.ref 0), some (.int 1)], [.int (-1000001)], mz_up (mz_i xs Ln) 64 1 1)) rfl ?_
              exact mz_ret rfl
            exact mz_ret rfl
          · refine mz_go 3 (c' := (3, [some (.ref 65), some (.int 2), some (.int b), none], [.int 5, .int 0, .int 2], mz_up (mz_i xs Ln) 64 1 1)) rfl ?_
            refine mz_do (R := mz_r128) (as := [.int 2, .int 0, .int 5]) (rest := []) (r1 := some (.int 1)) (m1 := mz_up (mz_i xs Ln) 64 1 1) rfl ⟨?_, rfl⟩ ?_
            · refine mz_go 8 (c' := (15, [some (.int 2), some (.int 0), some (.int 5)], [.int 1], mz_up (mz_i xs Ln) 64 1 1)) rfl ?_
              exact mz_ret rfl
            refine mz_go 3 (c' := (11, [some (.ref 65), some (.int 2), some (.int b), none], [.int b, .int 2], mz_up (mz_i xs Ln) 64 1 1)) rfl ?_
            refine mz_do (R := mz_r142) (as := [.int 2, .int b]) (rest := []) (r1 := some (.int 0)) (m1 := mz_up (mz_i xs Ln) 64 1 1) rfl ⟨?_, rfl⟩ ?_
            · refine mz_go 6 (c' := (9, [some (.int 2), some (.int b)], [.int 80, .int 1, .int b], mz_up (mz_i xs Ln) 64 1 1)) rfl ?_
              refine mz_do (R := mz_r128) (as := [.int b, .int 1, .int 80]) (rest := []) (r1 := some (.int 0)) (m1 := mz_up (mz_i xs Ln) 64 1 1) rfl ⟨?_, rfl⟩ ?_
              · refine mz_go 3 (c' := (if b < 1 then 14 else 5, [some (.int b), some (.int 1), some (.int 80)], [], mz_up (mz_i xs Ln) 64 1 1)) rfl ?_
                refine mz_ifT h8 ?_
                refine mz_go 1 (c' := (15, [some (.int b), some (.int 1), some (.int 80)], [.int 0], mz_up (mz_i xs Ln) 64 1 1)) rfl ?_
                exact mz_ret rfl
              refine mz_go 1 (c' := (36, [some (.int 2), some (.int b)], [.int 0], mz_up (mz_i xs Ln) 64 1 1)) rfl ?_
              exact mz_ret rfl
            refine mz_go 3 (c' := (19, [some (.ref 65), some (.int 2), some (.int b), none], [.int 1, .ref 65], mz_up (mz_i xs Ln) 64 1 1)) rfl ?_
            refine mz_do (R := mz_r127) (as := [.ref 65, .int 1]) (rest := []) (r1 := some (.int (-1000001))) (m1 := mz_up (mz_up (mz_i xs Ln) 64 1 1) 68 1 1) rfl ⟨?_, rfl⟩ ?_
            · refine mz_go 11 (c' := (14, [some (.ref 65), some (.int 1)], [.int (-1000001)], mz_up (mz_up (mz_i xs Ln) 64 1 1) 68 1 1)) rfl ?_
              exact mz_ret rfl
            exact mz_ret rfl
        · by_cases h9 : 80 < b
          · refine ⟨(-1000001), mz_up (mz_i xs Ln) 64 1 1, mz_up (mz_up (mz_i xs Ln) 64 1 1) 68 1 1, ⟨?_, rfl⟩, ⟨?_, rfl⟩⟩
            · refine mz_go 3 (c' := (3, [some (.ref 0), some (.int 2), some (.int b), none], [.int 5, .int 0, .int 2], (mz_i xs Ln))) rfl ?_
              refine mz_do (R := mz_r121) (as := [.int 2, .int 0, .int 5]) (rest := []) (r1 := some (.int 1)) (m1 := (mz_i xs Ln)) rfl ⟨?_, rfl⟩ ?_
              · refine mz_go 8 (c' := (15, [some (.int 2), some (.int 0), some (.int 5)], [.int 1], (mz_i xs Ln))) rfl ?_
                exact mz_ret rfl
              refine mz_go 8 (c' := (20, [some (.ref 0), some (.int 2), some (.int b), none], [.int 80, .int 1, .int b], (mz_i xs Ln))) rfl ?_
              refine mz_do (R := mz_r121) (as := [.int b, .int 1, .int 80]) (rest := []) (r1 := some (.int 0)) (m1 := (mz_i xs Ln)) rfl ⟨?_, rfl⟩ ?_
              · refine mz_go 3 (c' := (if b < 1 then 14 else 5, [some (.int b), some (.int 1), some (.int 80)], [], (mz_i xs Ln))) rfl ?_
                refine mz_ifF h8 ?_
                refine mz_go 3 (c' := (if 80 < b then 14 else 10, [some (.int b), some (.int 1), some (.int 80)], [], (mz_i xs Ln))) rfl ?_
                refine mz_ifT h9 ?_
                refine mz_go 1 (c' := (15, [some (.int b), some (.int 1), some (.int 80)], [.int 0], (mz_i xs Ln))) rfl ?_
                exact mz_ret rfl
              refine mz_go 3 (c' := (28, [some (.ref 0), some (.int 2), some (.int b), none], [.int 1, .ref 0], (mz_i xs Ln))) rfl ?_
              refine mz_do (R := mz_r109) (as := [.ref 0, .int 1]) (rest := []) (r1 := some (.int (-1000001))) (m1 := mz_up (mz_i xs Ln) 64 1 1) rfl ⟨?_, rfl⟩ ?_
              · refine mz_go 3 (c' := (4, [some (.ref 0), some (.int 1)], [.int 6, .int 1, .int 1], (mz_i xs Ln))) rfl ?_
                refine mz_do (R := mz_r121) (as := [.int 1, .int 1, .int 6]) (rest := []) (r1 := some (.int 1)) (m1 := (mz_i xs Ln)) rfl ⟨?_, rfl⟩ ?_
                · refine mz_go 8 (c' := (15, [some (.int 1), some (.int 1), some (.int 6)], [.int 1], (mz_i xs Ln))) rfl ?_
                  exact mz_ret rfl
                refine mz_go 12 (c' := (25, [some (.ref 0), some (.int 1)], [.int (-1000001)], mz_up (mz_i xs Ln) 64 1 1)) rfl ?_
                exact mz_ret rfl
              exact mz_ret rfl
            · refine mz_go 3 (c' := (3, [some (.ref 65), some (.int 2), some (.int b), none], [.int 5, .int 0, .int 2], mz_up (mz_i xs Ln) 64 1 1)) rfl ?_
              refine mz_do (R := mz_r128) (as := [.int 2, .int 0, .int 5]) (rest := []) (r1 := some (.int 1)) (m1 := mz_up (mz_i xs Ln) 64 1 1) rfl ⟨?_, rfl⟩ ?_
              · refine mz_go 8 (c' := (15, [some (.int 2), some (.int 0), some (.int 5)], [.int 1], mz_up (mz_i xs Ln) 64 1 1)) rfl ?_
                exact mz_ret rfl
              refine mz_go 3 (c' := (11, [some (.ref 65), some (.int 2), some (.int b), none], [.int b, .int 2], mz_up (mz_i xs Ln) 64 1 1)) rfl ?_
              refine mz_do (R := mz_r142) (as := [.int 2, .int b]) (rest := []) (r1 := some (.int 0)) (m1 := mz_up (mz_i xs Ln) 64 1 1) rfl ⟨?_, rfl⟩ ?_
              · refine mz_go 6 (c' := (9, [some (.int 2), some (.int b)], [.int 80, .int 1, .int b], mz_up (mz_i xs Ln) 64 1 1)) rfl ?_
                refine mz_do (R := mz_r128) (as := [.int b, .int 1, .int 80]) (rest := []) (r1 := some (.int 0)) (m1 := mz_up (mz_i xs Ln) 64 1 1) rfl ⟨?_, rfl⟩ ?_
                · refine mz_go 3 (c' := (if b < 1 then 14 else 5, [some (.int b), some (.int 1), some (.int 80)], [], mz_up (mz_i xs Ln) 64 1 1)) rfl ?_
                  refine mz_ifF h8 ?_
                  refine mz_go 3 (c' := (if 80 < b then 14 else 10, [some (.int b), some (.int 1), some (.int 80)], [], mz_up (mz_i xs Ln) 64 1 1)) rfl ?_
                  refine mz_ifT h9 ?_
                  refine mz_go 1 (c' := (15, [some (.int b), some (.int 1), some (.int 80)], [.int 0], mz_up (mz_i xs Ln) 64 1 1)) rfl ?_
                  exact mz_ret rfl
                refine mz_go 1 (c' := (36, [some (.int 2), some (.int b)], [.int 0], mz_up (mz_i xs Ln) 64 1 1)) rfl ?_
                exact mz_ret rfl
              refine mz_go 3 (c' := (19, [some (.ref 65), some (.int 2), some (.int b), none], [.int 1, .ref 65], mz_up (mz_i xs Ln) 64 1 1)) rfl ?_
              refine mz_do (R := mz_r127) (as := [.ref 65, .int 1]) (rest := []) (r1 := some (.int (-1000001))) (m1 := mz_up (mz_up (mz_i xs Ln) 64 1 1) 68 1 1) rfl ⟨?_, rfl⟩ ?_
              · refine mz_go 11 (c' := (14, [some (.ref 65), some (.int 1)], [.int (-1000001)], mz_up (mz_up (mz_i xs Ln) 64 1 1) 68 1 1)) rfl ?_
                exact mz_ret rfl
              exact mz_ret rfl
          · refine ⟨60, mz_up (mz_i xs Ln) 7 2 b, mz_up (mz_up (mz_i xs Ln) 7 2 b) 66 12 b, ⟨?_, rfl⟩, ⟨?_, rfl⟩⟩
            · refine mz_go 3 (c' := (3, [some (.ref 0), some (.int 2), some (.int b), none], [.int 5, .int 0, .int 2], (mz_i xs Ln))) rfl ?_
              refine mz_do (R := mz_r121) (as := [.int 2, .int 0, .int 5]) (rest := []) (r1 := some (.int 1)) (m1 := (mz_i xs Ln)) rfl ⟨?_, rfl⟩ ?_
              · refine mz_go 8 (c' := (15, [some (.int 2), some (.int 0), some (.int 5)], [.int 1], (mz_i xs Ln))) rfl ?_
                exact mz_ret rfl
              refine mz_go 8 (c' := (20, [some (.ref 0), some (.int 2), some (.int b), none], [.int 80, .int 1, .int b], (mz_i xs Ln))) rfl ?_
              refine mz_do (R := mz_r121) (as := [.int b, .int 1, .int 80]) (rest := []) (r1 := some (.int 1)) (m1 := (mz_i xs Ln)) rfl ⟨?_, rfl⟩ ?_
              · refine mz_go 3 (c' := (if b < 1 then 14 else 5, [some (.int b), some (.int 1), some (.int 80)], [], (mz_i xs Ln))) rfl ?_
                refine mz_ifF h8 ?_
                refine mz_go 3 (c' := (if 80 < b then 14 else 10, [some (.int b), some (.int 1), some (.int 80)], [], (mz_i xs Ln))) rfl ?_
                refine mz_ifF h9 ?_
                refine mz_go 2 (c' := (15, [some (.int b), some (.int 1), some (.int 80)], [.int 1], (mz_i xs Ln))) rfl ?_
                exact mz_ret rfl
              refine mz_go 14 (c' := (53, [some (.ref 0), some (.int 2), some (.int b), some (.int 60)], [.int 60], mz_up (mz_i xs Ln) 7 2 b)) rfl ?_
              exact mz_ret rfl
            · refine mz_go 3 (c' := (3, [some (.ref 65), some (.int 2), some (.int b), none], [.int 5, .int 0, .int 2], mz_up (mz_i xs Ln) 7 2 b)) rfl ?_
              refine mz_do (R := mz_r128) (as := [.int 2, .int 0, .int 5]) (rest := []) (r1 := some (.int 1)) (m1 := mz_up (mz_i xs Ln) 7 2 b) rfl ⟨?_, rfl⟩ ?_
              · refine mz_go 8 (c' := (15, [some (.int 2), some (.int 0), some (.int 5)], [.int 1], mz_up (mz_i xs Ln) 7 2 b)) rfl ?_
                exact mz_ret rfl
              refine mz_go 3 (c' := (11, [some (.ref 65), some (.int 2), some (.int b), none], [.int b, .int 2], mz_up (mz_i xs Ln) 7 2 b)) rfl ?_
              refine mz_do (R := mz_r142) (as := [.int 2, .int b]) (rest := []) (r1 := some (.int 1)) (m1 := mz_up (mz_i xs Ln) 7 2 b) rfl ⟨?_, rfl⟩ ?_
              · refine mz_go 6 (c' := (9, [some (.int 2), some (.int b)], [.int 80, .int 1, .int b], mz_up (mz_i xs Ln) 7 2 b)) rfl ?_
                refine mz_do (R := mz_r128) (as := [.int b, .int 1, .int 80]) (rest := []) (r1 := some (.int 1)) (m1 := mz_up (mz_i xs Ln) 7 2 b) rfl ⟨?_, rfl⟩ ?_
                · refine mz_go 3 (c' := (if b < 1 then 14 else 5, [some (.int b), some (.int 1), some (.int 80)], [], mz_up (mz_i xs Ln) 7 2 b)) rfl ?_
                  refine mz_ifF h8 ?_
                  refine mz_go 3 (c' := (if 80 < b then 14 else 10, [some (.int b), some (.int 1), some (.int 80)], [], mz_up (mz_i xs Ln) 7 2 b)) rfl ?_
                  refine mz_ifF h9 ?_
                  refine mz_go 2 (c' := (15, [some (.int b), some (.int 1), some (.int 80)], [.int 1], mz_up (mz_i xs Ln) 7 2 b)) rfl ?_
                  exact mz_ret rfl
                refine mz_go 1 (c' := (36, [some (.int 2), some (.int b)], [.int 1], mz_up (mz_i xs Ln) 7 2 b)) rfl ?_
                exact mz_ret rfl
              refine mz_go 16 (c' := (44, [some (.ref 65), some (.int 2), some (.int b), some (.int 60)], [.int 60], mz_up (mz_up (mz_i xs Ln) 7 2 b) 66 12 b)) rfl ?_
              exact mz_ret rfl
      · by_cases h10 : b < 0
        · refine ⟨(-1000001), mz_up (mz_i xs Ln) 64 1 1, mz_up (mz_up (mz_i xs Ln) 64 1 1) 68 1 1, ⟨?_, rfl⟩, ⟨?_, rfl⟩⟩
          · refine mz_go 3 (c' := (3, [some (.ref 0), some (.int 3), some (.int b), none], [.int 5, .int 0, .int 3], (mz_i xs Ln))) rfl ?_
            refine mz_do (R := mz_r121) (as := [.int 3, .int 0, .int 5]) (rest := []) (r1 := some (.int 1)) (m1 := (mz_i xs Ln)) rfl ⟨?_, rfl⟩ ?_
            · refine mz_go 8 (c' := (15, [some (.int 3), some (.int 0), some (.int 5)], [.int 1], (mz_i xs Ln))) rfl ?_
              exact mz_ret rfl
            refine mz_go 8 (c' := (20, [some (.ref 0), some (.int 3), some (.int b), none], [.int 99, .int 0, .int b], (mz_i xs Ln))) rfl ?_
            refine mz_do (R := mz_r121) (as := [.int b, .int 0, .int 99]) (rest := []) (r1 := some (.int 0)) (m1 := (mz_i xs Ln)) rfl ⟨?_, rfl⟩ ?_
            · refine mz_go 3 (c' := (if b < 0 then 14 else 5, [some (.int b), some (.int 0), some (.int 99)], [], (mz_i xs Ln))) rfl ?_
              refine mz_ifT h10 ?_
              refine mz_go 1 (c' := (15, [some (.int b), some (.int 0), some (.int 99)], [.int 0], (mz_i xs Ln))) rfl ?_
              exact mz_ret rfl
            refine mz_go 3 (c' := (28, [some (.ref 0), some (.int 3), some (.int b), none], [.int 1, .ref 0], (mz_i xs Ln))) rfl ?_
            refine mz_do (R := mz_r109) (as := [.ref 0, .int 1]) (rest := []) (r1 := some (.int (-1000001))) (m1 := mz_up (mz_i xs Ln) 64 1 1) rfl ⟨?_, rfl⟩ ?_
            · refine mz_go 3 (c' := (4, [some (.ref 0), some (.int 1)], [.int 6, .int 1, .int 1], (mz_i xs Ln))) rfl ?_
              refine mz_do (R := mz_r121) (as := [.int 1, .int 1, .int 6]) (rest := []) (r1 := some (.int 1)) (m1 := (mz_i xs Ln)) rfl ⟨?_, rfl⟩ ?_
              · refine mz_go 8 (c' := (15, [some (.int 1), some (.int 1), some (.int 6)], [.int 1], (mz_i xs Ln))) rfl ?_
                exact mz_ret rfl
              refine mz_go 12 (c' := (25, [some (.ref 0), some (.int 1)], [.int (-1000001)], mz_up (mz_i xs Ln) 64 1 1)) rfl ?_
              exact mz_ret rfl
            exact mz_ret rfl
          · refine mz_go 3 (c' := (3, [some (.ref 65), some (.int 3), some (.int b), none], [.int 5, .int 0, .int 3], mz_up (mz_i xs Ln) 64 1 1)) rfl ?_
            refine mz_do (R := mz_r128) (as := [.int 3, .int 0, .int 5]) (rest := []) (r1 := some (.int 1)) (m1 := mz_up (mz_i xs Ln) 64 1 1) rfl ⟨?_, rfl⟩ ?_
            · refine mz_go 8 (c' := (15, [some (.int 3), some (.int 0), some (.int 5)], [.int 1], mz_up (mz_i xs Ln) 64 1 1)) rfl ?_
              exact mz_ret rfl
            refine mz_go 3 (c' := (11, [some (.ref 65), some (.int 3), some (.int b), none], [.int b, .int 3], mz_up (mz_i xs Ln) 64 1 1)) rfl ?_
            refine mz_do (R := mz_r142) (as := [.int 3, .int b]) (rest := []) (r1 := some (.int 0)) (m1 := mz_up (mz_i xs Ln) 64 1 1) rfl ⟨?_, rfl⟩ ?_
            · refine mz_go 9 (c' := (33, [some (.int 3), some (.int b)], [.int 99, .int 0, .int b], mz_up (mz_i xs Ln) 64 1 1)) rfl ?_
              refine mz_do (R := mz_r128) (as := [.int b, .int 0, .int 99]) (rest := []) (r1 := some (.int 0)) (m1 := mz_up (mz_i xs Ln) 64 1 1) rfl ⟨?_, rfl⟩ ?_
              · refine mz_go 3 (c' := (if b < 0 then 14 else 5, [some (.int b), some (.int 0), some (.int 99)], [], mz_up (mz_i xs Ln) 64 1 1)) rfl ?_
                refine mz_ifT h10 ?_
                refine mz_go 1 (c' := (15, [some (.int b), some (.int 0), some (.int 99)], [.int 0], mz_up (mz_i xs Ln) 64 1 1)) rfl ?_
                exact mz_ret rfl
              exact mz_ret rfl
            refine mz_go 3 (c' := (19, [some (.ref 65), some (.int 3), some (.int b), none], [.int 1, .ref 65], mz_up (mz_i xs Ln) 64 1 1)) rfl ?_
            refine mz_do (R := mz_r127) (as := [.ref 65, .int 1]) (rest := []) (r1 := some (.int (-1000001))) (m1 := mz_up (mz_up (mz_i xs Ln) 64 1 1) 68 1 1) rfl ⟨?_, rfl⟩ ?_
            · refine mz_go 11 (c' := (14, [some (.ref 65), some (.int 1)], [.int (-1000001)], mz_up (mz_up (mz_i xs Ln) 64 1 1) 68 1 1)) rfl ?_
              exact mz_ret rfl
            exact mz_ret rfl
        · by_cases h11 : 99 < b
          · refine ⟨(-1000001), mz_up (mz_i xs Ln) 64 1 1, mz_up (mz_up (mz_i xs Ln) 64 1 1) 68 1 1, ⟨?_, rfl⟩, ⟨?_, rfl⟩⟩
            · refine mz_go 3 (c' := (3, [some (.ref 0), some (.int 3), some (.int b), none], [.int 5, .int 0, .int 3], (mz_i xs Ln))) rfl ?_
              refine mz_do (R := mz_r121) (as := [.int 3, .int 0, .int 5]) (rest := []) (r1 := some (.int 1)) (m1 := (mz_i xs Ln)) rfl ⟨?_, rfl⟩ ?_
              · refine mz_go 8 (c' := (15, [some (.int 3), some (.int 0), some (.int 5)], [.int 1], (mz_i xs Ln))) rfl ?_
                exact mz_ret rfl
              refine mz_go 8 (c' := (20, [some (.ref 0), some (.int 3), some (.int b), none], [.int 99, .int 0, .int b], (mz_i xs Ln))) rfl ?_
              refine mz_do (R := mz_r121) (as := [.int b, .int 0, .int 99]) (rest := []) (r1 := some (.int 0)) (m1 := (mz_i xs Ln)) rfl ⟨?_, rfl⟩ ?_
              · refine mz_go 3 (c' := (if b < 0 then 14 else 5, [some (.int b), some (.int 0), some (.int 99)], [], (mz_i xs Ln))) rfl ?_
                refine mz_ifF h10 ?_
                refine mz_go 3 (c' := (if 99 < b then 14 else 10, [some (.int b), some (.int 0), some (.int 99)], [], (mz_i xs Ln))) rfl ?_
                refine mz_ifT h11 ?_
                refine mz_go 1 (c' := (15, [some (.int b), some (.int 0), some (.int 99)], [.int 0], (mz_i xs Ln))) rfl ?_
                exact mz_ret rfl
              refine mz_go 3 (c' := (28, [some (.ref 0), some (.int 3), some (.int b), none], [.int 1, .ref 0], (mz_i xs Ln))) rfl ?_
              refine mz_do (R := mz_r109) (as := [.ref 0, .int 1]) (rest := []) (r1 := some (.int (-1000001))) (m1 := mz_up (mz_i xs Ln) 64 1 1) rfl ⟨?_, rfl⟩ ?_
              · refine mz_go 3 (c' := (4, [some (.ref 0), some (.int 1)], [.int 6, .int 1, .int 1], (mz_i xs Ln))) rfl ?_
                refine mz_do (R := mz_r121) (as := [.int 1, .int 1, .int 6]) (rest := []) (r1 := some (.int 1)) (m1 := (mz_i xs Ln)) rfl ⟨?_, rfl⟩ ?_
                · refine mz_go 8 (c' := (15, [some (.int 1), some (.int 1), some (.int 6)], [.int 1], (mz_i xs Ln))) rfl ?_
                  exact mz_ret rfl
                refine mz_go 12 (c' := (25, [some (.ref 0), some (.int 1)], [.int (-1000001)], mz_up (mz_i xs Ln) 64 1 1)) rfl ?_
                exact mz_ret rfl
              exact mz_ret rfl
            · refine mz_go 3 (c' := (3, [some (.ref 65), some (.int 3), some (.int b), none], [.int 5, .int 0, .int 3], mz_up (mz_i xs Ln) 64 1 1)) rfl ?_
              refine mz_do (R := mz_r128) (as := [.int 3, .int 0, .int 5]) (rest := []) (r1 := some (.int 1)) (m1 := mz_up (mz_i xs Ln) 64 1 1) rfl ⟨?_, rfl⟩ ?_
              · refine mz_go 8 (c' := (15, [some (.int 3), some (.int 0), some (.int 5)], [.int 1], mz_up (mz_i xs Ln) 64 1 1)) rfl ?_
                exact mz_ret rfl
              refine mz_go 3 (c' := (11, [some (.ref 65), some (.int 3), some (.int b), none], [.int b, .int 3], mz_up (mz_i xs Ln) 64 1 1)) rfl ?_
              refine mz_do (R := mz_r142) (as := [.int 3, .int b]) (rest := []) (r1 := some (.int 0)) (m1 := mz_up (mz_i xs Ln) 64 1 1) rfl ⟨?_, rfl⟩ ?_
              · refine mz_go 9 (c' := (33, [some (.int 3), some (.int b)], [.int 99, .int 0, .int b], mz_up (mz_i xs Ln) 64 1 1)) rfl ?_
                refine mz_do (R := mz_r128) (as := [.int b, .int 0, .int 99]) (rest := []) (r1 := some (.int 0)) (m1 := mz_up (mz_i xs Ln) 64 1 1) rfl ⟨?_, rfl⟩ ?_
                · refine mz_go 3 (c' := (if b < 0 then 14 else 5, [some (.int b), some (.int 0), some (.int 99)], [], mz_up (mz_i xs Ln) 64 1 1)) rfl ?_
                  refine mz_ifF h10 ?_
                  refine mz_go 3 (c' := (if 99 < b then 14 else 10, [some (.int b), some (.int 0), some (.int 99)], [], mz_up (mz_i xs Ln) 64 1 1)) rfl ?_
                  refine mz_ifT h11 ?_
                  refine mz_go 1 (c' := (15, [some (.int b), some (.int 0), some (.int 99)], [.int 0], mz_up (mz_i xs Ln) 64 1 1)) rfl ?_
                  exact mz_ret rfl
                exact mz_ret rfl
              refine mz_go 3 (c' := (19, [some (.ref 65), some (.int 3), some (.int b), none], [.int 1, .ref 65], mz_up (mz_i xs Ln) 64 1 1)) rfl ?_
              refine mz_do (R := mz_r127) (as := [.ref 65, .int 1]) (rest := []) (r1 := some (.int (-1000001))) (m1 := mz_up (mz_up (mz_i xs Ln) 64 1 1) 68 1 1) rfl ⟨?_, rfl⟩ ?_
              · refine mz_go 11 (c' := (14, [some (.ref 65), some (.int 1)], [.int (-1000001)], mz_up (mz_up (mz_i xs Ln) 64 1 1) 68 1 1)) rfl ?_
                exact mz_ret rfl
              exact mz_ret rfl
          · refine ⟨8, mz_up (mz_i xs Ln) 7 3 b, mz_up (mz_up (mz_i xs Ln) 7 3 b) 66 13 b, ⟨?_, rfl⟩, ⟨?_, rfl⟩⟩
            · refine mz_go 3 (c' := (3, [some (.ref 0), some (.int 3), some (.int b), none], [.int 5, .int 0, .int 3], (mz_i xs Ln))) rfl ?_
              refine mz_do (R := mz_r121) (as := [.int 3, .int 0, .int 5]) (rest := []) (r1 := some (.int 1)) (m1 := (mz_i xs Ln)) rfl ⟨?_, rfl⟩ ?_
              · refine mz_go 8 (c' := (15, [some (.int 3), some (.int 0), some (.int 5)], [.int 1], (mz_i xs Ln))) rfl ?_
                exact mz_ret rfl
              refine mz_go 8 (c' := (20, [some (.ref 0), some (.int 3), some (.int b), none], [.int 99, .int 0, .int b], (mz_i xs Ln))) rfl ?_
              refine mz_do (R := mz_r121) (as := [.int b, .int 0, .int 99]) (rest := []) (r1 := some (.int 1)) (m1 := (mz_i xs Ln)) rfl ⟨?_, rfl⟩ ?_
              · refine mz_go 3 (c' := (if b < 0 then 14 else 5, [some (.int b), some (.int 0), some (.int 99)], [], (mz_i xs Ln))) rfl ?_
                refine mz_ifF h10 ?_
                refine mz_go 3 (c' := (if 99 < b then 14 else 10, [some (.int b), some (.int 0), some (.int 99)], [], (mz_i xs Ln))) rfl ?_
                refine mz_ifF h11 ?_
                refine mz_go 2 (c' := (15, [some (.int b), some (.int 0), some (.int 99)], [.int 1], (mz_i xs Ln))) rfl ?_
                exact mz_ret rfl
              refine mz_go 14 (c' := (53, [some (.ref 0), some (.int 3), some (.int b), some (.int 8)], [.int 8], mz_up (mz_i xs Ln) 7 3 b)) rfl ?_
              exact mz_ret rfl
            · refine mz_go 3 (c' := (3, [some (.ref 65), some (.int 3), some (.int b), none], [.int 5, .int 0, .int 3], mz_up (mz_i xs Ln) 7 3 b)) rfl ?_
              refine mz_do (R := mz_r128) (as := [.int 3, .int 0, .int 5]) (rest := []) (r1 := some (.int 1)) (m1 := mz_up (mz_i xs Ln) 7 3 b) rfl ⟨?_, rfl⟩ ?_
              · refine mz_go 8 (c' := (15, [some (.int 3), some (.int 0), some (.int 5)], [.int 1], mz_up (mz_i xs Ln) 7 3 b)) rfl ?_
                exact mz_ret rfl
              refine mz_go 3 (c' := (11, [some (.ref 65), some (.int 3), some (.int b), none], [.int b, .int 3], mz_up (mz_i xs Ln) 7 3 b)) rfl ?_
              refine mz_do (R := mz_r142) (as := [.int 3, .int b]) (rest := []) (r1 := some (.int 1)) (m1 := mz_up (mz_i xs Ln) 7 3 b) rfl ⟨?_, rfl⟩ ?_
              · refine mz_go 9 (c' := (33, [some (.int 3), some (.int b)], [.int 99, .int 0, .int b], mz_up (mz_i xs Ln) 7 3 b)) rfl ?_
                refine mz_do (R := mz_r128) (as := [.int b, .int 0, .int 99]) (rest := []) (r1 := some (.int 1)) (m1 := mz_up (mz_i xs Ln) 7 3 b) rfl ⟨?_, rfl⟩ ?_
                · refine mz_go 3 (c' := (if b < 0 then 14 else 5, [some (.int b), some (.int 0), some (.int 99)], [], mz_up (mz_i xs Ln) 7 3 b)) rfl ?_
                  refine mz_ifF h10 ?_
                  refine mz_go 3 (c' := (if 99 < b then 14 else 10, [some (.int b), some (.int 0), some (.int 99)], [], mz_up (mz_i xs Ln) 7 3 b)) rfl ?_
                  refine mz_ifF h11 ?_
                  refine mz_go 2 (c' := (15, [some (.int b), some (.int 0), some (.int 99)], [.int 1], mz_up (mz_i xs Ln) 7 3 b)) rfl ?_
                  exact mz_ret rfl
                exact mz_ret rfl
              refine mz_go 16 (c' := (44, [some (.ref 65), some (.int 3), some (.int b), some (.int 8)], [.int 8], mz_up (mz_up (mz_i xs Ln) 7 3 b) 66 13 b)) rfl ?_
              exact mz_ret rfl
      · by_cases h12 : b < 0
        · refine ⟨(-1000001), mz_up (mz_i xs Ln) 64 1 1, mz_up (mz_up (mz_i xs Ln) 64 1 1) 68 1 1, ⟨?_, rfl⟩, ⟨?_, rfl⟩⟩
          · refine mz_go 3 (c' := (3, [some (.ref 0), some (.int 4), some (.int b), none], [.int 5, .int 0, .int 4], (mz_i xs Ln))) rfl ?_
            refine mz_do (R := mz_r121) (as := [.int 4, .int 0, .int 5]) (rest := []) (r1 := some (.int 1)) (m1 := (mz_i xs Ln)) rfl ⟨?_, rfl⟩ ?_
            · refine mz_go 8 (c' := (15, [some (.int 4), some (.int 0), some (.int 5)], [.int 1], (mz_i xs Ln))) rfl ?_
              exact mz_ret rfl
            refine mz_go 8 (c' := (20, [some (.ref 0), some (.int 4), some (.int b), none], [.int 99, .int 0, .int b], (mz_i xs Ln))) rfl ?_
            refine mz_do (R := mz_r121) (as := [.int b, .int 0, .int 99]) (rest := []) (r1 := some (.int 0)) (m1 := (mz_i xs Ln)) rfl ⟨?_, rfl⟩ ?_
            · refine mz_go 3 (c' := (if b < 0 then 14 else 5, [some (.int b), some (.int 0), some (.int 99)], [], (mz_i xs Ln))) rfl ?_
              refine mz_ifT h12 ?_
              refine mz_go 1 (c' := (15, [some (.int b), some (.int 0), some (.int 99)], [.int 0], (mz_i xs Ln))) rfl ?_
              exact mz_ret rfl
            refine mz_go 3 (c' := (28, [some (.ref 0), some (.int 4), some (.int b), none], [.int 1, .ref 0], (mz_i xs Ln))) rfl ?_
            refine mz_do (R := mz_r109) (as := [.ref 0, .int 1]) (rest := []) (r1 := some (.int (-1000001))) (m1 := mz_up (mz_i xs Ln) 64 1 1) rfl ⟨?_, rfl⟩ ?_
            · refine mz_go 3 (c' := (4, [some (.ref 0), some (.int 1)], [.int 6, .int 1, .int 1], (mz_i xs Ln))) rfl ?_
              refine mz_do (R := mz_r121) (as := [.int 1, .int 1, .int 6]) (rest := []) (r1 := some (.int 1)) (m1 := (mz_i xs Ln)) rfl ⟨?_, rfl⟩ ?_
              · refine mz_go 8 (c' := (15, [some (.int 1), some (.int 1), some (.int 6)], [.int 1], (mz_i xs Ln))) rfl ?_
                exact mz_ret rfl
              refine mz_go 12 (c' := (25, [some (.ref 0), some (.int 1)], [.int (-1000001)], mz_up (mz_i xs Ln) 64 1 1)) rfl ?_
              exact mz_ret rfl
            exact mz_ret rfl
          · refine mz_go 3 (c' := (3, [some (.ref 65), some (.int 4), some (.int b), none], [.int 5, .int 0, .int 4], mz_up (mz_i xs Ln) 64 1 1)) rfl ?_
            refine mz_do (R := mz_r128) (as := [.int 4, .int 0, .int 5]) (rest := []) (r1 := some (.int 1)) (m1 := mz_up (mz_i xs Ln) 64 1 1) rfl ⟨?_, rfl⟩ ?_
            · refine mz_go 8 (c' := (15, [some (.int 4), some (.int 0), some (.int 5)], [.int 1], mz_up (mz_i xs Ln) 64 1 1)) rfl ?_
              exact mz_ret rfl
            refine mz_go 3 (c' := (11, [some (.ref 65), some (.int 4), some (.int b), none], [.int b, .int 4], mz_up (mz_i xs Ln) 64 1 1)) rfl ?_
            refine mz_do (R := mz_r142) (as := [.int 4, .int b]) (rest := []) (r1 := some (.int 0)) (m1 := mz_up (mz_i xs Ln) 64 1 1) rfl ⟨?_, rfl⟩ ?_
            · refine mz_go 9 (c' := (33, [some (.int 4), some (.int b)], [.int 99, .int 0, .int b], mz_up (mz_i xs Ln) 64 1 1)) rfl ?_
              refine mz_do (R := mz_r128) (as := [.int b, .int 0, .int 99]) (rest := []) (r1 := some (.int 0)) (m1 := mz_up (mz_i xs Ln) 64 1 1) rfl ⟨?_, rfl⟩ ?_
              · refine mz_go 3 (c' := (if b < 0 then 14 else 5, [some (.int b), some (.int 0), some (.int 99)], [], mz_up (mz_i xs Ln) 64 1 1)) rfl ?_
                refine mz_ifT h12 ?_
                refine mz_go 1 (c' := (15, [some (.int b), some (.int 0), some (.int 99)], [.int 0], mz_up (mz_i xs Ln) 64 1 1)) rfl ?_
                exact mz_ret rfl
              exact mz_ret rfl
            refine mz_go 3 (c' := (19, [some (.ref 65), some (.int 4), some (.int b), none], [.int 1, .ref 65], mz_up (mz_i xs Ln) 64 1 1)) rfl ?_
            refine mz_do (R := mz_r127) (as := [.ref 65, .int 1]) (rest := []) (r1 := some (.int (-1000001))) (m1 := mz_up (mz_up (mz_i xs Ln) 64 1 1) 68 1 1) rfl ⟨?_, rfl⟩ ?_
            · refine mz_go 11 (c' := (14, [some (.ref 65), some (.int 1)], [.int (-1000001)], mz_up (mz_up (mz_i xs Ln) 64 1 1) 68 1 1)) rfl ?_
              exact mz_ret rfl
            exact mz_ret rfl
        · by_cases h13 : 99 < b
          · refine ⟨(-1000001), mz_up (mz_i xs Ln) 64 1 1, mz_up (mz_up (mz_i xs Ln) 64 1 1) 68 1 1, ⟨?_, rfl⟩, ⟨?_, rfl⟩⟩
            · refine mz_go 3 (c' := (3, [some (.ref 0), some (.int 4), some (.int b), none], [.int 5, .int 0, .int 4], (mz_i xs Ln))) rfl ?_
              refine mz_do (R := mz_r121) (as := [.int 4, .int 0, .int 5]) (rest := []) (r1 := some (.int 1)) (m1 := (mz_i xs Ln)) rfl ⟨?_, rfl⟩ ?_
              · refine mz_go 8 (c' := (15, [some (.int 4), some (.int 0), some (.int 5)], [.int 1], (mz_i xs Ln))) rfl ?_
                exact mz_ret rfl
              refine mz_go 8 (c' := (20, [some (.ref 0), some (.int 4), some (.int b), none], [.int 99, .int 0, .int b], (mz_i xs Ln))) rfl ?_
              refine mz_do (R := mz_r121) (as := [.int b, .int 0, .int 99]) (rest := []) (r1 := some (.int 0)) (m1 := (mz_i xs Ln)) rfl ⟨?_, rfl⟩ ?_
              · refine mz_go 3 (c' := (if b < 0 then 14 else 5, [some (.int b), some (.int 0), some (.int 99)], [], (mz_i xs Ln))) rfl ?_
                refine mz_ifF h12 ?_
                refine mz_go 3 (c' := (if 99 < b then 14 else 10, [some (.int b), some (.int 0), some (.int 99)], [], (mz_i xs Ln))) rfl ?_
                refine mz_ifT h13 ?_
                refine mz_go 1 (c' := (15, [some (.int b), some (.int 0), some (.int 99)], [.int 0], (mz_i xs Ln))) rfl ?_
                exact mz_ret rfl
              refine mz_go 3 (c' := (28, [some (.ref 0), some (.int 4), some (.int b), none], [.int 1, .ref 0], (mz_i xs Ln))) rfl ?_
              refine mz_do (R := mz_r109) (as := [.ref 0, .int 1]) (rest := []) (r1 := some (.int (-1000001))) (m1 := mz_up (mz_i xs Ln) 64 1 1) rfl ⟨?_, rfl⟩ ?_
              · refine mz_go 3 (c' := (4, [some (.ref 0), some (.int 1)], [.int 6, .int 1, .int 1], (mz_i xs Ln))) rfl ?_
                refine mz_do (R := mz_r121) (as := [.int 1, .int 1, .int 6]) (rest := []) (r1 := some (.int 1)) (m1 := (mz_i xs Ln)) rfl ⟨?_, rfl⟩ ?_
                · refine mz_go 8 (c' := (15, [some (.int 1), some (.int 1), some (.int 6)], [.int 1], (mz_i xs Ln))) rfl ?_
                  exact mz_ret rfl
                refine mz_go 12 (c' := (25, [some (.ref 0), some (.int 1)], [.int (-1000001)], mz_up (mz_i xs Ln) 64 1 1)) rfl ?_
                exact mz_ret rfl
              exact mz_ret rfl
            · refine mz_go 3 (c' := (3, [some (.ref 65), some (.int 4), some (.int b), none], [.int 5, .int 0, .int 4], mz_up (mz_i xs Ln) 64 1 1)) rfl ?_
              refine mz_do (R := mz_r128) (as := [.int 4, .int 0, .int 5]) (rest := []) (r1 := some (.int 1)) (m1 := mz_up (mz_i xs Ln) 64 1 1) rfl ⟨?_, rfl⟩ ?_
              · refine mz_go 8 (c' := (15, [some (.int 4), some (.int 0), some (.int 5)], [.int 1], mz_up (mz_i xs Ln) 64 1 1)) rfl ?_
                exact mz_ret rfl
              refine mz_go 3 (c' := (11, [some (.ref 65), some (.int 4), some (.int b), none], [.int b, .int 4], mz_up (mz_i xs Ln) 64 1 1)) rfl ?_
              refine mz_do (R := mz_r142) (as := [.int 4, .int b]) (rest := []) (r1 := some (.int 0)) (m1 := mz_up (mz_i xs Ln) 64 1 1) rfl ⟨?_, rfl⟩ ?_
              · refine mz_go 9 (c' := (33, [some (.int 4), some (.int b)], [.int 99, .int 0, .int b], mz_up (mz_i xs Ln) 64 1 1)) rfl ?_
                refine mz_do (R := mz_r128) (as := [.int b, .int 0, .int 99]) (rest := []) (r1 := some (.int 0)) (m1 := mz_up (mz_i xs Ln) 64 1 1) rfl ⟨?_, rfl⟩ ?_
                · refine mz_go 3 (c' := (if b < 0 then 14 else 5, [some (.int b), some (.int 0), some (.int 99)], [], mz_up (mz_i xs Ln) 64 1 1)) rfl ?_
                  refine mz_ifF h12 ?_
                  refine mz_go 3 (c' := (if 99 < b then 14 else 10, [some (.int b), some (.int 0), some (.int 99)], [], mz_up (mz_i xs Ln) 64 1 1)) rfl ?_
                  refine mz_ifT h13 ?_
                  refine mz_go 1 (c' := (15, [some (.int b), some (.int 0), some (.int 99)], [.int 0], mz_up (mz_i xs Ln) 64 1 1)) rfl ?_
                  exact mz_ret rfl
                exact mz_ret rfl
              refine mz_go 3 (c' := (19, [some (.ref 65), some (.int 4), some (.int b), none], [.int 1, .ref 65], mz_up (mz_i xs Ln) 64 1 1)) rfl ?_
              refine mz_do (R := mz_r127) (as := [.ref 65, .int 1]) (rest := []) (r1 := some (.int (-1000001))) (m1 := mz_up (mz_up (mz_i xs Ln) 64 1 1) 68 1 1) rfl ⟨?_, rfl⟩ ?_
              · refine mz_go 11 (c' := (14, [some (.ref 65), some (.int 1)], [.int (-1000001)], mz_up (mz_up (mz_i xs Ln) 64 1 1) 68 1 1)) rfl ?_
                exact mz_ret rfl
              exact mz_ret rfl
          · refine ⟨4, mz_up (mz_i xs Ln) 7 4 b, mz_up (mz_up (mz_i xs Ln) 7 4 b) 66 14 b, ⟨?_, rfl⟩, ⟨?_, rfl⟩⟩
            · refine mz_go 3 (c' := (3, [some (.ref 0), some (.int 4), some (.int b), none], [.int 5, .int 0, .int 4], (mz_i xs Ln))) rfl ?_
              refine mz_do (R := mz_r121) (as := [.int 4, .int 0, .int 5]) (rest := []) (r1 := some (.int 1)) (m1 := (mz_i xs Ln)) rfl ⟨?_, rfl⟩ ?_
              · refine mz_go 8 (c' := (15, [some (.int 4), some (.int 0), some (.int 5)], [.int 1], (mz_i xs Ln))) rfl ?_
                exact mz_ret rfl
              refine mz_go 8 (c' := (20, [some (.ref 0), some (.int 4), some (.int b), none], [.int 99, .int 0, .int b], (mz_i xs Ln))) rfl ?_
              refine mz_do (R := mz_r121) (as := [.int b, .int 0, .int 99]) (rest := []) (r1 := some (.int 1)) (m1 := (mz_i xs Ln)) rfl ⟨?_, rfl⟩ ?_
              · refine mz_go 3 (c' := (if b < 0 then 14 else 5, [some (.int b), some (.int 0), some (.int 99)], [], (mz_i xs Ln))) rfl ?_
                refine mz_ifF h12 ?_
                refine mz_go 3 (c' := (if 99 < b then 14 else 10, [some (.int b), some (.int 0), some (.int 99)], [], (mz_i xs Ln))) rfl ?_
                refine mz_ifF h13 ?_
                refine mz_go 2 (c' := (15, [some (.int b), some (.int 0), some (.int 99)], [.int 1], (mz_i xs Ln))) rfl ?_
                exact mz_ret rfl
              refine mz_go 14 (c' := (53, [some (.ref 0), some (.int 4), some (.int b), some (.int 4)], [.int 4], mz_up (mz_i xs Ln) 7 4 b)) rfl ?_
              exact mz_ret rfl
            · refine mz_go 3 (c' := (3, [some (.ref 65), some (.int 4), some (.int b), none], [.int 5, .int 0, .int 4], mz_up (mz_i xs Ln) 7 4 b)) rfl ?_
              refine mz_do (R := mz_r128) (as := [.int 4, .int 0, .int 5]) (rest := []) (r1 := some (.int 1)) (m1 := mz_up (mz_i xs Ln) 7 4 b) rfl ⟨?_, rfl⟩ ?_
              · refine mz_go 8 (c' := (15, [some (.int 4), some (.int 0), some (.int 5)], [.int 1], mz_up (mz_i xs Ln) 7 4 b)) rfl ?_
                exact mz_ret rfl
              refine mz_go 3 (c' := (11, [some (.ref 65), some (.int 4), some (.int b), none], [.int b, .int 4], mz_up (mz_i xs Ln) 7 4 b)) rfl ?_
              refine mz_do (R := mz_r142) (as := [.int 4, .int b]) (rest := []) (r1 := some (.int 1)) (m1 := mz_up (mz_i xs Ln) 7 4 b) rfl ⟨?_, rfl⟩ ?_
              · refine mz_go 9 (c' := (33, [some (.int 4), some (.int b)], [.int 99, .int 0, .int b], mz_up (mz_i xs Ln) 7 4 b)) rfl ?_
                refine mz_do (R := mz_r128) (as := [.int b, .int 0, .int 99]) (rest := []) (r1 := some (.int 1)) (m1 := mz_up (mz_i xs Ln) 7 4 b) rfl ⟨?_, rfl⟩ ?_
                · refine mz_go 3 (c' := (if b < 0 then 14 else 5, [some (.int b), some (.int 0), some (.int 99)], [], mz_up (mz_i xs Ln) 7 4 b)) rfl ?_
                  refine mz_ifF h12 ?_
                  refine mz_go 3 (c' := (if 99 < b then 14 else 10, [some (.int b), some (.int 0), some (.int 99)], [], mz_up (mz_i xs Ln) 7 4 b)) rfl ?_
                  refine mz_ifF h13 ?_
                  refine mz_go 2 (c' := (15, [some (.int b), some (.int 0), some (.int 99)], [.int 1], mz_up (mz_i xs Ln) 7 4 b)) rfl ?_
                  exact mz_ret rfl
                exact mz_ret rfl
              refine mz_go 16 (c' := (44, [some (.ref 65), some (.int 4), some (.int b), some (.int 4)], [.int 4], mz_up (mz_up (mz_i xs Ln) 7 4 b) 66 14 b)) rfl ?_
              exact mz_ret rfl
      · by_cases h14 : b < 1
        · refine ⟨(-1000001), mz_up (mz_i xs Ln) 64 1 1, mz_up (mz_up (mz_i xs Ln) 64 1 1) 68 1 1, ⟨?_, rfl⟩, ⟨?_, rfl⟩⟩
          · refine mz_go 3 (c' := (3, [some (.ref 0), some (.int 5), some (.int b), none], [.int 5, .int 0, .int 5], (mz_i xs Ln))) rfl ?_
            refine mz_do (R := mz_r121) (as := [.int 5, .int 0, .int 5]) (rest := []) (r1 := some (.int 1)) (m1 := (mz_i xs Ln)) rfl ⟨?_, rfl⟩ ?_
            · refine mz_go 8 (c' := (15, [some (.int 5), some (.int 0), some (.int 5)], [.int 1], (mz_i xs Ln))) rfl ?_
              exact mz_ret rfl
            refine mz_go 8 (c' := (20, [some (.ref 0), some (.int 5), some (.int b), none], [.int 2, .int 1, .int b], (mz_i xs Ln))) rfl ?_
            refine mz_do (R := mz_r121) (as := [.int b, .int 1, .int 2]) (rest := []) (r1 := some (.int 0)) (m1 := (mz_i xs Ln)) rfl ⟨?_, rfl⟩ ?_
            · refine mz_go 3 (c' := (if b < 1 then 14 else 5, [some (.int b), some (.int 1), some (.int 2)], [], (mz_i xs Ln))) rfl ?_
              refine mz_ifT h14 ?_
              refine mz_go 1 (c' := (15, [some (.int b), some (.int 1), some (.int 2)], [.int 0], (mz_i xs Ln))) rfl ?_
              exact mz_ret rfl
            refine mz_go 3 (c' := (28, [some (.ref 0), some (.int 5), some (.int b), none], [.int 1, .ref 0], (mz_i xs Ln))) rfl ?_
            refine mz_do (R := mz_r109) (as := [.ref 0, .int 1]) (rest := []) (r1 := some (.int (-1000001))) (m1 := mz_up (mz_i xs Ln) 64 1 1) rfl ⟨?_, rfl⟩ ?_
            · refine mz_go 3 (c' := (4, [some (.ref 0), some (.int 1)], [.int 6, .int 1, .int 1], (mz_i xs Ln))) rfl ?_
              refine mz_do (R := mz_r121) (as := [.int 1, .int 1, .int 6]) (rest := []) (r1 := some (.int 1)) (m1 := (mz_i xs Ln)) rfl ⟨?_, rfl⟩ ?_
              · refine mz_go 8 (c' := (15, [some (.int 1), some (.int 1), some (.int 6)], [.int 1], (mz_i xs Ln))) rfl ?_
                exact mz_ret rfl
              refine mz_go 12 (c' := (25, [some (.ref 0), some (.int 1)], [.int (-1000001)], mz_up (mz_i xs Ln) 64 1 1)) rfl ?_
              exact mz_ret rfl
            exact mz_ret rfl
          · refine mz_go 3 (c' := (3, [some (.ref 65), some (.int 5), some (.int b), none], [.int 5, .int 0, .int 5], mz_up (mz_i xs Ln) 64 1 1)) rfl ?_
            refine mz_do (R := mz_r128) (as := [.int 5, .int 0, .int 5]) (rest := []) (r1 := some (.int 1)) (m1 := mz_up (mz_i xs Ln) 64 1 1) rfl ⟨?_, rfl⟩ ?_
            · refine mz_go 8 (c' := (15, [some (.int 5), some (.int 0), some (.int 5)], [.int 1], mz_up (mz_i xs Ln) 64 1 1)) rfl ?_
              exact mz_ret rfl
            refine mz_go 3 (c' := (11, [some (.ref 65), some (.int 5), some (.int b), none], [.int b, .int 5], mz_up (mz_i xs Ln) 64 1 1)) rfl ?_
            refine mz_do (R := mz_r142) (as := [.int 5, .int b]) (rest := []) (r1 := some (.int 0)) (m1 := mz_up (mz_i xs Ln) 64 1 1) rfl ⟨?_, rfl⟩ ?_
            · refine mz_go 9 (c' := (23, [some (.int 5), some (.int b)], [.int 2, .int 1, .int b], mz_up (mz_i xs Ln) 64 1 1)) rfl ?_
              refine mz_do (R := mz_r128) (as := [.int b, .int 1, .int 2]) (rest := []) (r1 := some (.int 0)) (m1 := mz_up (mz_i xs Ln) 64 1 1) rfl ⟨?_, rfl⟩ ?_
              · refine mz_go 3 (c' := (if b < 1 then 14 else 5, [some (.int b), some (.int 1), some (.int 2)], [], mz_up (mz_i xs Ln) 64 1 1)) rfl ?_
                refine mz_ifT h14 ?_
                refine mz_go 1 (c' := (15, [some (.int b), some (.int 1), some (.int 2)], [.int 0], mz_up (mz_i xs Ln) 64 1 1)) rfl ?_
                exact mz_ret rfl
              refine mz_go 1 (c' := (36, [some (.int 5), some (.int b)], [.int 0], mz_up (mz_i xs Ln) 64 1 1)) rfl ?_
              exact mz_ret rfl
            refine mz_go 3 (c' := (19, [some (.ref 65), some (.int 5), some (.int b), none], [.int 1, .ref 65], mz_up (mz_i xs Ln) 64 1 1)) rfl ?_
            refine mz_do (R := mz_r127) (as := [.ref 65, .int 1]) (rest := []) (r1 := some (.int (-1000001))) (m1 := mz_up (mz_up (mz_i xs Ln) 64 1 1) 68 1 1) rfl ⟨?_, rfl⟩ ?_
            · refine mz_go 11 (c' := (14, [some (.ref 65), some (.int 1)], [.int (-1000001)], mz_up (mz_up (mz_i xs Ln) 64 1 1) 68 1 1)) rfl ?_
              exact mz_ret rfl
            exact mz_ret rfl
        · by_cases h15 : 2 < b
          · refine ⟨(-1000001), mz_up (mz_i xs Ln) 64 1 1, mz_up (mz_up (mz_i xs Ln) 64 1 1) 68 1 1, ⟨?_, rfl⟩, ⟨?_, rfl⟩⟩
            · refine mz_go 3 (c' := (3, [some (.ref 0), some (.int 5), some (.int b), none], [.int 5, .int 0, .int 5], (mz_i xs Ln))) rfl ?_
              refine mz_do (R := mz_r121) (as := [.int 5, .int 0, .int 5]) (rest := []) (r1 := some (.int 1)) (m1 := (mz_i xs Ln)) rfl ⟨?_, rfl⟩ ?_
              · refine mz_go 8 (c' := (15, [some (.int 5), some (.int 0), some (.int 5)], [.int 1], (mz_i xs Ln))) rfl ?_
                exact mz_ret rfl
              refine mz_go 8 (c' := (20, [some (.ref 0), some (.int 5), some (.int b), none], [.int 2, .int 1, .int b], (mz_i xs Ln))) rfl ?_
              refine mz_do (R := mz_r121) (as := [.int b, .int 1, .int 2]) (rest := []) (r1 := some (.int 0)) (m1 := (mz_i xs Ln)) rfl ⟨?_, rfl⟩ ?_
              · refine mz_go 3 (c' := (if b < 1 then 14 else 5, [some (.int b), some (.int 1), some (.int 2)], [], (mz_i xs Ln))) rfl ?_
                refine mz_ifF h14 ?_
                refine mz_go 3 (c' := (if 2 < b then 14 else 10, [some (.int b), some (.int 1), some (.int 2)], [], (mz_i xs Ln))) rfl ?_
                refine mz_ifT h15 ?_
                refine mz_go 1 (c' := (15, [some (.int b), some (.int 1), some (.int 2)], [.int 0], (mz_i xs Ln))) rfl ?_
                exact mz_ret rfl
              refine mz_go 3 (c' := (28, [some (.ref 0), some (.int 5), some (.int b), none], [.int 1, .ref 0], (mz_i xs Ln))) rfl ?_
              refine mz_do (R := mz_r109) (as := [.ref 0, .int 1]) (rest := []) (r1 := some (.int (-1000001))) (m1 := mz_up (mz_i xs Ln) 64 1 1) rfl ⟨?_, rfl⟩ ?_
              · refine mz_go 3 (c' := (4, [some (.ref 0), some (.int 1)], [.int 6, .int 1, .int 1], (mz_i xs Ln))) rfl ?_
                refine mz_do (R := mz_r121) (as := [.int 1, .int 1, .int 6]) (rest := []) (r1 := some (.int 1)) (m1 := (mz_i xs Ln)) rfl ⟨?_, rfl⟩ ?_
                · refine mz_go 8 (c' := (15, [some (.int 1), some (.int 1), some (.int 6)], [.int 1], (mz_i xs Ln))) rfl ?_
                  exact mz_ret rfl
                refine mz_go 12 (c' := (25, [some (.ref 0), some (.int 1)], [.int (-1000001)], mz_up (mz_i xs Ln) 64 1 1)) rfl ?_
                exact mz_ret rfl
              exact mz_ret rfl
            · refine mz_go 3 (c' := (3, [some (.ref 65), some (.int 5), some (.int b), none], [.int 5, .int 0, .int 5], mz_up (mz_i xs Ln) 64 1 1)) rfl ?_
              refine mz_do (R := mz_r128) (as := [.int 5, .int 0, .int 5]) (rest := []) (r1 := some (.int 1)) (m1 := mz_up (mz_i xs Ln) 64 1 1) rfl ⟨?_, rfl⟩ ?_
              · refine mz_go 8 (c' := (15, [some (.int 5), some (.int 0), some (.int 5)], [.int 1], mz_up (mz_i xs Ln) 64 1 1)) rfl ?_
                exact mz_ret rfl
              refine mz_go 3 (c' := (11, [some (.ref 65), some (.int 5), some (.int b), none], [.int b, .int 5], mz_up (mz_i xs Ln) 64 1 1)) rfl ?_
              refine mz_do (R := mz_r142) (as := [.int 5, .int b]) (rest := []) (r1 := some (.int 0)) (m1 := mz_up (mz_i xs Ln) 64 1 1) rfl ⟨?_, rfl⟩ ?_
              · refine mz_go 9 (c' := (23, [some (.int 5), some (.int b)], [.int 2, .int 1, .int b], mz_up (mz_i xs Ln) 64 1 1)) rfl ?_
                refine mz_do (R := mz_r128) (as := [.int b, .int 1, .int 2]) (rest := []) (r1 := some (.int 0)) (m1 := mz_up (mz_i xs Ln) 64 1 1) rfl ⟨?_, rfl⟩ ?_
                · refine mz_go 3 (c' := (if b < 1 then 14 else 5, [some (.int b), some (.int 1), some (.int 2)], [], mz_up (mz_i xs Ln) 64 1 1)) rfl ?_
                  refine mz_ifF h14 ?_
                  refine mz_go 3 (c' := (if 2 < b then 14 else 10, [some (.int b), some (.int 1), some (.int 2)], [], mz_up (mz_i xs Ln) 64 1 1)) rfl ?_
                  refine mz_ifT h15 ?_
                  refine mz_go 1 (c' := (15, [some (.int b), some (.int 1), some (.int 2)], [.int 0], mz_up (mz_i xs Ln) 64 1 1)) rfl ?_
                  exact mz_ret rfl
                refine mz_go 1 (c' := (36, [some (.int 5), some (.int b)], [.int 0], mz_up (mz_i xs Ln) 64 1 1)) rfl ?_
                exact mz_ret rfl
              refine mz_go 3 (c' := (19, [some (.ref 65), some (.int 5), some (.int b), none], [.int 1, .ref 65], mz_up (mz_i xs Ln) 64 1 1)) rfl ?_
              refine mz_do (R := mz_r127) (as := [.ref 65, .int 1]) (rest := []) (r1 := some (.int (-1000001))) (m1 := mz_up (mz_up (mz_i xs Ln) 64 1 1) 68 1 1) rfl ⟨?_, rfl⟩ ?_
              · refine mz_go 11 (c' := (14, [some (.ref 65), some (.int 1)], [.int (-1000001)], mz_up (mz_up (mz_i xs Ln) 64 1 1) 68 1 1)) rfl ?_
                exact mz_ret rfl
              exact mz_ret rfl
          · refine ⟨1, mz_up (mz_i xs Ln) 7 5 b, mz_up (mz_up (mz_i xs Ln) 7 5 b) 66 15 b, ⟨?_, rfl⟩, ⟨?_, rfl⟩⟩
            · refine mz_go 3 (c' := (3, [some (.ref 0), some (.int 5), some (.int b), none], [.int 5, .int 0, .int 5], (mz_i xs Ln))) rfl ?_
              refine mz_do (R := mz_r121) (as := [.int 5, .int 0, .int 5]) (rest := []) (r1 := some (.int 1)) (m1 := (mz_i xs Ln)) rfl ⟨?_, rfl⟩ ?_
              · refine mz_go 8 (c' := (15, [some (.int 5), some (.int 0), some (.int 5)], [.int 1], (mz_i xs Ln))) rfl ?_
                exact mz_ret rfl
              refine mz_go 8 (c' := (20, [some (.ref 0), some (.int 5), some (.int b), none], [.int 2, .int 1, .int b], (mz_i xs Ln))) rfl ?_
              refine mz_do (R := mz_r121) (as := [.int b, .int 1, .int 2]) (rest := []) (r1 := some (.int 1)) (m1 := (mz_i xs Ln)) rfl ⟨?_, rfl⟩ ?_
              · refine mz_go 3 (c' := (if b < 1 then 14 else 5, [some (.int b), some (.int 1), some (.int 2)], [], (mz_i xs Ln))) rfl ?_
                refine mz_ifF h14 ?_
                refine mz_go 3 (c' := (if 2 < b then 14 else 10, [some (.int b), some (.int 1), some (.int 2)], [], (mz_i xs Ln))) rfl ?_
                refine mz_ifF h15 ?_
                refine mz_go 2 (c' := (15, [some (.int b), some (.int 1), some (.int 2)], [.int 1], (mz_i xs Ln))) rfl ?_
                exact mz_ret rfl
              refine mz_go 14 (c' := (53, [some (.ref 0), some (.int 5), some (.int b), some (.int 1)], [.int 1], mz_up (mz_i xs Ln) 7 5 b)) rfl ?_
              exact mz_ret rfl
            · refine mz_go 3 (c' := (3, [some (.ref 65), some (.int 5), some (.int b), none], [.int 5, .int 0, .int 5], mz_up (mz_i xs Ln) 7 5 b)) rfl ?_
              refine mz_do (R := mz_r128) (as := [.int 5, .int 0, .int 5]) (rest := []) (r1 := some (.int 1)) (m1 := mz_up (mz_i xs Ln) 7 5 b) rfl ⟨?_, rfl⟩ ?_
              · refine mz_go 8 (c' := (15, [some (.int 5), some (.int 0), some (.int 5)], [.int 1], mz_up (mz_i xs Ln) 7 5 b)) rfl ?_
                exact mz_ret rfl
              refine mz_go 3 (c' := (11, [some (.ref 65), some (.int 5), some (.int b), none], [.int b, .int 5], mz_up (mz_i xs Ln) 7 5 b)) rfl ?_
              refine mz_do (R := mz_r142) (as := [.int 5, .int b]) (rest := []) (r1 := some (.int 1)) (m1 := mz_up (mz_i xs Ln) 7 5 b) rfl ⟨?_, rfl⟩ ?_
              · refine mz_go 9 (c' := (23, [some (.int 5), some (.int b)], [.int 2, .int 1, .int b], mz_up (mz_i xs Ln) 7 5 b)) rfl ?_
                refine mz_do (R := mz_r128) (as := [.int b, .int 1, .int 2]) (rest := []) (r1 := some (.int 1)) (m1 := mz_up (mz_i xs Ln) 7 5 b) rfl ⟨?_, rfl⟩ ?_
                · refine mz_go 3 (c' := (if b < 1 then 14 else 5, [some (.int b), some (.int 1), some (.int 2)], [], mz_up (mz_i xs Ln) 7 5 b)) rfl ?_
                  refine mz_ifF h14 ?_
                  refine mz_go 3 (c' := (if 2 < b then 14 else 10, [some (.int b), some (.int 1), some (.int 2)], [], mz_up (mz_i xs Ln) 7 5 b)) rfl ?_
                  refine mz_ifF h15 ?_
                  refine mz_go 2 (c' := (15, [some (.int b), some (.int 1), some (.int 2)], [.int 1], mz_up (mz_i xs Ln) 7 5 b)) rfl ?_
                  exact mz_ret rfl
                refine mz_go 1 (c' := (36, [some (.int 5), some (.int b)], [.int 1], mz_up (mz_i xs Ln) 7 5 b)) rfl ?_
                exact mz_ret rfl
              refine mz_go 16 (c' := (44, [some (.ref 65), some (.int 5), some (.int b), some (.int 1)], [.int 1], mz_up (mz_up (mz_i xs Ln) 7 5 b) 66 15 b)) rfl ?_
              exact mz_ret rfl
set_option maxHeartbeats 4000000 in
set_option maxRecDepth 100000 in
theorem p1_nearest (xs : Nat → Int32) (Ln : Nat) (a : Int32) (b : Int32) (c : Int32) : ∃ v m1 m2, mz_Me 100 mz_r73 [.ref 0, .int a, .int b, .int c] (mz_i xs Ln) (some (.int v)) m1 ∧ mz_Me 100 mz_r157 [.ref 65, .int a, .int b, .int c] m1 (some (.int v)) m2 := by
  by_cases h1 : a < (-100)
  · refine ⟨(-1000001), mz_up (mz_i xs Ln) 64 1 1, mz_up (mz_up (mz_i xs Ln) 64 1 1) 68 1 1, ⟨?_, rfl⟩, ⟨?_, rfl⟩⟩
    · refine mz_go 2 (c' := (2, [some (.ref 0), some (.int a), some (.int b), some (.int c), none], [.int b, .int a], (mz_i xs Ln))) rfl ?_
      refine mz_do (R := mz_r116) (as := [.int a, .int b]) (rest := []) (r1 := some (.int 0)) (m1 := (mz_i xs Ln)) rfl ⟨?_, rfl⟩ ?_
      · refine mz_go 3 (c' := (5, [some (.int a), some (.int b)], [.int 100, .int (-100), .int a], (mz_i xs Ln))) rfl ?_
        refine mz_do (R := mz_r121) (as := [.int a, .int (-100), .int 100]) (rest := []) (r1 := some (.int 0)) (m1 := (mz_i xs Ln)) rfl ⟨?_, rfl⟩ ?_
        · refine mz_go 3 (c' := (if a < (-100) then 14 else 5, [some (.int a), some (.int (-100)), some (.int 100)], [], (mz_i xs Ln))) rfl ?_
          refine mz_ifT h1 ?_
          refine mz_go 1 (c' := (15, [some (.int a), some (.int (-100)), some (.int 100)], [.int 0], (mz_i xs Ln))) rfl ?_
          exact mz_ret rfl
        refine mz_go 2 (c' := (27, [some (.int a), some (.int b)], [.int 0], (mz_i xs Ln))) rfl ?_
        exact mz_ret rfl
      refine mz_go 3 (c' := (19, [some (.ref 0), some (.int a), some (.int b), some (.int c), none], [.int 1, .ref 0], (mz_i xs Ln))) rfl ?_
      refine mz_do (R := mz_r109) (as := [.ref 0, .int 1]) (rest := []) (r1 := some (.int (-1000001))) (m1 := mz_up (mz_i xs Ln) 64 1 1) rfl ⟨?_, rfl⟩ ?_
      · refine mz_go 3 (c' := (4, [some (.ref 0), some (.int 1)], [.int 6, .int 1, .int 1], (mz_i xs Ln))) rfl ?_
        refine mz_do (R := mz_r121) (as := [.int 1, .int 1, .int 6]) (rest := []) (r1 := some (.int 1)) (m1 := (mz_i xs Ln)) rfl ⟨?_, rfl⟩ ?_
        · refine mz_go 8 (c' := (15, [some (.int 1), some (.int 1), some (.int 6)], [.int 1], (mz_i xs Ln))) rfl ?_
          exact mz_ret rfl
        refine mz_go 12 (c' := (25, [some (.ref 0), some (.int 1)], [.int (-1000001)], mz_up (mz_i xs Ln) 64 1 1)) rfl ?_
        exact mz_ret rfl
      exact mz_ret rfl
    · refine mz_go 2 (c' := (2, [some (.ref 65), some (.int a), some (.int b), some (.int c), none], [.int b, .int a], mz_up (mz_i xs Ln) 64 1 1)) rfl ?_
      refine mz_do (R := mz_r131) (as := [.int a, .int b]) (rest := []) (r1 := some (.int 0)) (m1 := mz_up (mz_i xs Ln) 64 1 1) rfl ⟨?_, rfl⟩ ?_
      · refine mz_go 3 (c' := (5, [some (.int a), some (.int b)], [.int 100, .int (-100), .int a], mz_up (mz_i xs Ln) 64 1 1)) rfl ?_
        refine mz_do (R := mz_r128) (as := [.int a, .int (-100), .int 100]) (rest := []) (r1 := some (.int 0)) (m1 := mz_up (mz_i xs Ln) 64 1 1) rfl ⟨?_, rfl⟩ ?_
        · refine mz_go 3 (c' := (if a < (-100) then 14 else 5, [some (.int a), some (.int (-100)), some (.int 100)], [], mz_up (mz_i xs Ln) 64 1 1)) rfl ?_
          refine mz_ifT h1 ?_
          refine mz_go 1 (c' := (15, [some (.int a), some (.int (-100)), some (.int 100)], [.int 0], mz_up (mz_i xs Ln) 64 1 1)) rfl ?_
          exact mz_ret rfl
        refine mz_go 2 (c' := (27, [some (.int a), some (.int b)], [.int 0], mz_up (mz_i xs Ln) 64 1 1)) rfl ?_
        exact mz_ret rfl
      refine mz_go 3 (c' := (19, [some (.ref 65), some (.int a), some (.int b), some (.int c), none], [.int 1, .ref 65], mz_up (mz_i xs Ln) 64 1 1)) rfl ?_
      refine mz_do (R := mz_r127) (as := [.ref 65, .int 1]) (rest := []) (r1 := some (.int (-1000001))) (m1 := mz_up (mz_up (mz_i xs Ln) 64 1 1) 68 1 1) rfl ⟨?_, rfl⟩ ?_
      · refine mz_go 11 (c' := (14, [some (.ref 65), some (.int 1)], [.int (-1000001)], mz_up (mz_up (mz_i xs Ln) 64 1 1) 68 1 1)) rfl ?_
        exact mz_ret rfl
      exact mz_ret rfl
  · by_cases h2 : 100 < a
    · refine ⟨(-1000001), mz_up (mz_i xs Ln) 64 1 1, mz_up (mz_up (mz_i xs Ln) 64 1 1) 68 1 1, ⟨?_, rfl⟩, ⟨?_, rfl⟩⟩
      · refine mz_go 2 (c' := (2, [some (.ref 0), some (.int a), some (.int b), some (.int c), none], [.int b, .int a], (mz_i xs Ln))) rfl ?_
        refine mz_do (R := mz_r116) (as := [.int a, .int b]) (rest := []) (r1 := some (.int 0)) (m1 := (mz_i xs Ln)) rfl ⟨?_, rfl⟩ ?_
        · refine mz_go 3 (c' := (5, [some (.int a), some (.int b)], [.int 100, .int (-100), .int a], (mz_i xs Ln))) rfl ?_
          refine mz_do (R := mz_r121) (as := [.int a, .int (-100), .int 100]) (rest := []) (r1 := some (.int 0)) (m1 := (mz_i xs Ln)) rfl ⟨?_, rfl⟩ ?_
          · refine mz_go 3 (c' := (if a < (-100) then 14 else 5, [some (.int a), some (.int (-100)), some (.int 100)], [], (mz_i xs Ln))) rfl ?_
            refine mz_ifF h1 ?_
            refine mz_go 3 (c' := (if 100 < a then 14 else 10, [some (.int a), some (.int (-100)), some (.int 100)], [], (mz_i xs Ln))) rfl ?_
            refine mz_ifT h2 ?_
            refine mz_go 1 (c' := (15, [some (.int a), some (.int (-100)), some (.int 100)], [.int 0], (mz_i xs Ln))) rfl ?_
            exact mz_ret rfl
          refine mz_go 2 (c' := (27, [some (.int a), some (.int b)], [.int 0], (mz_i xs Ln))) rfl ?_
          exact mz_ret rfl
        refine mz_go 3 (c' := (19, [some (.ref 0), some (.int a), some (.int b), some (.int c), none], [.int 1, .ref 0], (mz_i xs Ln))) rfl ?_
        refine mz_do (R := mz_r109) (as := [.ref 0, .int 1]) (rest := []) (r1 := some (.int (-1000001))) (m1 := mz_up (mz_i xs Ln) 64 1 1) rfl ⟨?_, rfl⟩ ?_
        · refine mz_go 3 (c' := (4, [some (.ref 0), some (.int 1)], [.int 6, .int 1, .int 1], (mz_i xs Ln))) rfl ?_
          refine mz_do (R := mz_r121) (as := [.int 1, .int 1, .int 6]) (rest := []) (r1 := some (.int 1)) (m1 := (mz_i xs Ln)) rfl ⟨?_, rfl⟩ ?_
          · refine mz_go 8 (c' := (15, [some (.int 1), some (.int 1), some (.int 6)], [.int 1], (mz_i xs Ln))) rfl ?_
            exact mz_ret rfl
          refine mz_go 12 (c' := (25, [some (.ref 0), some (.int 1)], [.int (-1000001)], mz_up (mz_i xs Ln) 64 1 1)) rfl ?_
          exact mz_ret rfl
        exact mz_ret rfl
      · refine mz_go 2 (c' := (2, [some (.ref 65), some (.int a), some (.int b), some (.int c), none], [.int b, .int a], mz_up (mz_i xs Ln) 64 1 1)) rfl ?_
        refine mz_do (R := mz_r131) (as := [.int a, .int b]) (rest := []) (r1 := some (.int 0)) (m1 := mz_up (mz_i xs Ln) 64 1 1) rfl ⟨?_, rfl⟩ ?_
        · refine mz_go 3 (c' := (5, [some (.int a), some (.int b)], [.int 100, .int (-100), .int a], mz_up (mz_i xs Ln) 64 1 1)) rfl ?_
          refine mz_do (R := mz_r128) (as := [.int a, .int (-100), .int 100]) (rest := []) (r1 := some (.int 0)) (m1 := mz_up (mz_i xs Ln) 64 1 1) rfl ⟨?_, rfl⟩ ?_
          · refine mz_go 3 (c' := (if a < (-100) then 14 else 5, [some (.int a), some (.int (-100)), some (.int 100)], [], mz_up (mz_i xs Ln) 64 1 1)) rfl ?_
            refine mz_ifF h1 ?_
            refine mz_go 3 (c' := (if 100 < a then 14 else 10, [some (.int a), some (.int (-100)), some (.int 100)], [], mz_up (mz_i xs Ln) 64 1 1)) rfl ?_
            refine mz_ifT h2 ?_
            refine mz_go 1 (c' := (15, [some (.int a), some (.int (-100)), some (.int 100)], [.int 0], mz_up (mz_i xs Ln) 64 1 1)) rfl ?_
            exact mz_ret rfl
          refine mz_go 2 (c' := (27, [some (.int a), some (.int b)], [.int 0], mz_up (mz_i xs Ln) 64 1 1)) rfl ?_
          exact mz_ret rfl
        refine mz_go 3 (c' := (19, [some (.ref 65), some (.int a), some (.int b), some (.int c), none], [.int 1, .ref 65], mz_up (mz_i xs Ln) 64 1 1)) rfl ?_
        refine mz_do (R := mz_r127) (as := [.ref 65, .int 1]) (rest := []) (r1 := some (.int (-1000001))) (m1 := mz_up (mz_up (mz_i xs Ln) 64 1 1) 68 1 1) rfl ⟨?_, rfl⟩ ?_
        · refine mz_go 11 (c' := (14, [some (.ref 65), some (.int 1)], [.int (-1000001)], mz_up (mz_up (mz_i xs Ln) 64 1 1) 68 1 1)) rfl ?_
          exact mz_ret rfl
        exact mz_ret rfl
    · by_cases h3 : b < (-100)
      · refine ⟨(-1000001), mz_up (mz_i xs Ln) 64 1 1, mz_up (mz_up (mz_i xs Ln) 64 1 1) 68 1 1, ⟨?_, rfl⟩, ⟨?_, rfl⟩⟩
        · refine mz_go 2 (c' := (2, [some (.ref 0), some (.int a), some (.int b), some (.int c), none], [.int b, .int a], (mz_i xs Ln))) rfl ?_
          refine mz_do (R := mz_r116) (as := [.int a, .int b]) (rest := []) (r1 := some (.int 0)) (m1 := (mz_i xs Ln)) rfl ⟨?_, rfl⟩ ?_
          · refine mz_go 3 (c' := (5, [some (.int a), some (.int b)], [.int 100, .int (-100), .int a], (mz_i xs Ln))) rfl ?_
            refine mz_do (R := mz_r121) (as := [.int a, .int (-100), .int 100]) (rest := []) (r1 := some (.int 1)) (m1 := (mz_i xs Ln)) rfl ⟨?_, rfl⟩ ?_
            · refine mz_go 3 (c' := (if a < (-100) then 14 else 5, [some (.int a), some (.int (-100)), some (.int 100)], [], (mz_i xs Ln))) rfl ?_
              refine mz_ifF h1 ?_
              refine mz_go 3 (c' := (if 100 < a then 14 else 10, [some (.int a), some (.int (-100)), some (.int 100)], [], (mz_i xs Ln))) rfl ?_
              refine mz_ifF h2 ?_
              refine mz_go 2 (c' := (15, [some (.int a), some (.int (-100)), some (.int 100)], [.int 1], (mz_i xs Ln))) rfl ?_
              exact mz_ret rfl
            refine mz_go 4 (c' := (16, [some (.int a), some (.int b)], [.int 100, .int (-100), .int b], (mz_i xs Ln))) rfl ?_
            refine mz_do (R := mz_r121) (as := [.int b, .int (-100), .int 100]) (rest := []) (r1 := some (.int 0)) (m1 := (mz_i xs Ln)) rfl ⟨?_, rfl⟩ ?_
            · refine mz_go 3 (c' := (if b < (-100) then 14 else 5, [some (.int b), some (.int (-100)), some (.int 100)], [], (mz_i xs Ln))) rfl ?_
              refine mz_ifT h3 ?_
              refine mz_go 1 (c' := (15, [some (.int b), some (.int (-100)), some (.int 100)], [.int 0], (mz_i xs Ln))) rfl ?_
              exact mz_ret rfl
            refine mz_go 2 (c' := (27, [some (.int a), some (.int b)], [.int 0], (mz_i xs Ln))) rfl ?_
            exact mz_ret rfl
          refine mz_go 3 (c' := (19, [some (.ref 0), some (.int a), some (.int b), some (.int c), none], [.int 1, .ref 0], (mz_i xs Ln))) rfl ?_
          refine mz_do (R := mz_r109) (as := [.ref 0, .int 1]) (rest := []) (r1 := some (.int (-1000001))) (m1 := mz_up (mz_i xs Ln) 64 1 1) rfl ⟨?_, rfl⟩ ?_
          · refine mz_go 3 (c' := (4, [some (.ref 0), some (.int 1)], [.int 6, .int 1, .int 1], (mz_i xs Ln))) rfl ?_
            refine mz_do (R := mz_r121) (as := [.int 1, .int 1, .int 6]) (rest := []) (r1 := some (.int 1)) (m1 := (mz_i xs Ln)) rfl ⟨?_, rfl⟩ ?_
            · refine mz_go 8 (c' := (15, [some (.int 1), some (.int 1), some (.int 6)], [.int 1], (mz_i xs Ln))) rfl ?_
              exact mz_ret rfl
            refine mz_go 12 (c' := (25, [some (.ref 0), some (.int 1)], [.int (-1000001)], mz_up (mz_i xs Ln) 64 1 1)) rfl ?_
            exact mz_ret rfl
          exact mz_ret rfl
        · refine mz_go 2 (c' := (2, [some (.ref 65), some (.int a), some (.int b), some (.int c), none], [.int b, .int a], mz_up (mz_i xs Ln) 64 1 1)) rfl ?_
          refine mz_do (R := mz_r131) (as := [.int a, .int b]) (rest := []) (r1 := some (.int 0)) (m1 := mz_up (mz_i xs Ln) 64 1 1) rfl ⟨?_, rfl⟩ ?_
          · refine mz_go 3 (c' := (5, [some (.int a), some (.int b)], [.int 100, .int (-100), .int a], mz_up (mz_i xs Ln) 64 1 1)) rfl ?_
            refine mz_do (R := mz_r128) (as := [.int a, .int (-100), .int 100]) (rest := []) (r1 := some (.int 1)) (m1 := mz_up (mz_i xs Ln) 64 1 1) rfl ⟨?_, rfl⟩ ?_
            · refine mz_go 3 (c' := (if a < (-100) then 14 else 5, [some (.int a), some (.int (-100)), some (.int 100)], [], mz_up (mz_i xs Ln) 64 1 1)) rfl ?_
              refine mz_ifF h1 ?_
              refine mz_go 3 (c' := (if 100 < a then 14 else 10, [some (.int a), some (.int (-100)), some (.int 100)], [], mz_up (mz_i xs Ln) 64 1 1)) rfl ?_
              refine mz_ifF h2 ?_
              refine mz_go 2 (c' := (15, [some (.int a), some (.int (-100)), some (.int 100)], [.int 1], mz_up (mz_i xs Ln) 64 1 1)) rfl ?_
              exact mz_ret rfl
            refine mz_go 4 (c' := (16, [some (.int a), some (.int b)], [.int 100, .int (-100), .int b], mz_up (mz_i xs Ln) 64 1 1)) rfl ?_
            refine mz_do (R := mz_r128) (as := [.int b, .int (-100), .int 100]) (rest := []) (r1 := some (.int 0)) (m1 := mz_up (mz_i xs Ln) 64 1 1) rfl ⟨?_, rfl⟩ ?_
            · refine mz_go 3 (c' := (if b < (-100) then 14 else 5, [some (.int b), some (.int (-100)), some (.int 100)], [], mz_up (mz_i xs Ln) 64 1 1)) rfl ?_
              refine mz_ifT h3 ?_
              refine mz_go 1 (c' := (15, [some (.int b), some (.int (-100)), some (.int 100)], [.int 0], mz_up (mz_i xs Ln) 64 1 1)) rfl ?_
              exact mz_ret rfl
            refine mz_go 2 (c' := (27, [some (.int a), some (.int b)], [.int 0], mz_up (mz_i xs Ln) 64 1 1)) rfl ?_
            exact mz_ret rfl
          refine mz_go 3 (c' := (19, [some (.ref 65), some (.int a), some (.int b), some (.int c), none], [.int 1, .ref 65], mz_up (mz_i xs Ln) 64 1 1)) rfl ?_
          refine mz_do (R := mz_r127) (as := [.ref 65, .int 1]) (rest := []) (r1 := some (.int (-1000001))) (m1 := mz_up (mz_up (mz_i xs Ln) 64 1 1) 68 1 1) rfl ⟨?_, rfl⟩ ?_
          · refine mz_go 11 (c' := (14, [some (.ref 65), some (.int 1)], [.int (-1000001)], mz_up (mz_up (mz_i xs Ln) 64 1 1) 68 1 1)) rfl ?_
            exact mz_ret rfl
          exact mz_ret rfl
      · by_cases h4 : 100 < b
        · refine ⟨(-1000001), mz_up (mz_i xs Ln) 64 1 1, mz_up (mz_up (mz_i xs Ln) 64 1 1) 68 1 1, ⟨?_, rfl⟩, ⟨?_, rfl⟩⟩
          · refine mz_go 2 (c' := (2, [some (.ref 0), some (.int a), some (.int b), some (.int c), none], [.int b, .int a], (mz_i xs Ln))) rfl ?_
            refine mz_do (R := mz_r116) (as := [.int a, .int b]) (rest := []) (r1 := some (.int 0)) (m1 := (mz_i xs Ln)) rfl ⟨?_, rfl⟩ ?_
            · refine mz_go 3 (c' := (5, [some (.int a), some (.int b)], [.int 100, .int (-100), .int a], (mz_i xs Ln))) rfl ?_
              refine mz_do (R := mz_r121) (as := [.int a, .int (-100), .int 100]) (rest := []) (r1 := some (.int 1)) (m1 := (mz_i xs Ln)) rfl ⟨?_, rfl⟩ ?_
              · refine mz_go 3 (c' := (if a < (-100) then 14 else 5, [some (.int a), some (.int (-100)), some (.int 100)], [], (mz_i xs Ln))) rfl ?_
                refine mz_ifF h1 ?_
                refine mz_go 3 (c' := (if 100 < a then 14 else 10, [some (.int a), some (.int (-100)), some (.int 100)], [], (mz_i xs Ln))) rfl ?_
                refine mz_ifF h2 ?_
                refine mz_go 2 (c' := (15, [some (.int a), some (.int (-100)), some (.int 100)], [.int 1], (mz_i xs Ln))) rfl ?_
                exact mz_ret rfl
              refine mz_go 4 (c' := (16, [some (.int a), some (.int b)], [.int 100, .int (-100), .int b], (mz_i xs Ln))) rfl ?_
              refine mz_do (R := mz_r121) (as := [.int b, .int (-100), .int 100]) (rest := []) (r1 := some (.int 0)) (m1 := (mz_i xs Ln)) rfl ⟨?_, rfl⟩ ?_
              · refine mz_go 3 (c' := (if b < (-100) then 14 else 5, [some (.int b), some (.int (-100)), some (.int 100)], [], (mz_i xs Ln))) rfl ?_
                refine mz_ifF h3 ?_
                refine mz_go 3 (c' := (if 100 < b then 14 else 10, [some (.int b), some (.int (-100)), some (.int 100)], [], (mz_i xs Ln))) rfl ?_
                refine mz_ifT h4 ?_
                refine mz_go 1 (c' := (15, [some (.int b), some (.int (-100)), some (.int 100)], [.int 0], (mz_i xs Ln))) rfl ?_
                exact mz_ret rfl
              refine mz_go 2 (c' := (27, [some (.int a), some (.int b)], [.int 0], (mz_i xs Ln))) rfl ?_
              exact mz_ret rfl
            refine mz_go 3 (c' := (19, [some (.ref 0), some (.int a), some (.int b), some (.int c), none], [.int 1, .ref 0], (mz_i xs Ln))) rfl ?_
            refine mz_do (R := mz_r109) (as := [.ref 0, .int 1]) (rest := []) (r1 := some (.int (-1000001))) (m1 := mz_up (mz_i xs Ln) 64 1 1) rfl ⟨?_, rfl⟩ ?_
            · refine mz_go 3 (c' := (4, [some (.ref 0), some (.int 1)], [.int 6, .int 1, .int 1], (mz_i xs Ln))) rfl ?_
              refine mz_do (R := mz_r121) (as := [.int 1, .int 1, .int 6]) (rest := []) (r1 := some (.int 1)) (m1 := (mz_i xs Ln)) rfl ⟨?_, rfl⟩ ?_
              · refine mz_go 8 (c' := (15, [some (.int 1), some (.int 1), some (.int 6)], [.int 1], (mz_i xs Ln))) rfl ?_
                exact mz_ret rfl
              refine mz_go 12 (c' := (25, [some (.ref 0), some (.int 1)], [.int (-1000001)], mz_up (mz_i xs Ln) 64 1 1)) rfl ?_
              exact mz_ret rfl
            exact mz_ret rfl
          · refine mz_go 2 (c' := (2, [some (.ref 65), some (.int a), some (.int b), some (.int c), none], [.int b, .int a], mz_up (mz_i xs Ln) 64 1 1)) rfl ?_
            refine mz_do (R := mz_r131) (as := [.int a, .int b]) (rest := []) (r1 := some (.int 0)) (m1 := mz_up (mz_i xs Ln) 64 1 1) rfl ⟨?_, rfl⟩ ?_
            · refine mz_go 3 (c' := (5, [some (.int a), some (.int b)], [.int 100, .int (-100), .int a], mz_up (mz_i xs Ln) 64 1 1)) rfl ?_
              refine mz_do (R := mz_r128) (as := [.int a, .int (-100), .int 100]) (rest := []) (r1 := some (.int 1)) (m1 := mz_up (mz_i xs Ln) 64 1 1) rfl ⟨?_, rfl⟩ ?_
              · refine mz_go 3 (c' := (if a < (-100) then 14 else 5, [some (.int a), some (.int (-100)), some (.int 100)], [], mz_up (mz_i xs Ln) 64 1 1)) rfl ?_
                refine mz_ifF h1 ?_
                refine mz_go 3 (c' := (if 100 < a then 14 else 10, [some (.int a), some (.int (-100)), some (.int 100)], [], mz_up (mz_i xs Ln) 64 1 1)) rfl ?_
                refine mz_ifF h2 ?_
                refine mz_go 2 (c' := (15, [some (.int a), some (.int (-100)), some (.int 100)], [.int 1], mz_up (mz_i xs Ln) 64 1 1)) rfl ?_
                exact mz_ret rfl
              refine mz_go 4 (c' := (16, [some (.int a), some (.int b)], [.int 100, .int (-100), .int b], mz_up (mz_i xs Ln) 64 1 1)) rfl ?_
              refine mz_do (R := mz_r128) (as := [.int b, .int (-100), .int 100]) (rest := []) (r1 := some (.int 0)) (m1 := mz_up (mz_i xs Ln) 64 1 1) rfl ⟨?_, rfl⟩ ?_
              · refine mz_go 3 (c' := (if b < (-100) then 14 else 5, [some (.int b), some (.int (-100)), some (.int 100)], [], mz_up (mz_i xs Ln) 64 1 1)) rfl ?_
                refine mz_ifF h3 ?_
                refine mz_go 3 (c' := (if 100 < b then 14 else 10, [some (.int b), some (.int (-100)), some (.int 100)], [], mz_up (mz_i xs Ln) 64 1 1)) rfl ?_
                refine mz_ifT h4 ?_
                refine mz_go 1 (c' := (15, [some (.int b), some (.int (-100)), some (.int 100)], [.int 0], mz_up (mz_i xs Ln) 64 1 1)) rfl ?_
                exact mz_ret rfl
              refine mz_go 2 (c' := (27, [some (.int a), some (.int b)], [.int 0], mz_up (mz_i xs Ln) 64 1 1)) rfl ?_
              exact mz_ret rfl
            refine mz_go 3 (c' := (19, [some (.ref 65), some (.int a), some (.int b), some (.int c), none], [.int 1, .ref 65], mz_up (mz_i xs Ln) 64 1 1)) rfl ?_
            refine mz_do (R := mz_r127) (as := [.ref 65, .int 1]) (rest := []) (r1 := some (.int (-1000001))) (m1 := mz_up (mz_up (mz_i xs Ln) 64 1 1) 68 1 1) rfl ⟨?_, rfl⟩ ?_
            · refine mz_go 11 (c' := (14, [some (.ref 65), some (.int 1)], [.int (-1000001)], mz_up (mz_up (mz_i xs Ln) 64 1 1) 68 1 1)) rfl ?_
              exact mz_ret rfl
            exact mz_ret rfl
        · by_cases h5 : c < 0
          · refine ⟨(-1000001), mz_up (mz_i xs Ln) 64 1 1, mz_up (mz_up (mz_i xs Ln) 64 1 1) 68 1 1, ⟨?_, rfl⟩, ⟨?_, rfl⟩⟩
            · refine mz_go 2 (c' := (2, [some (.ref 0), some (.int a), some (.int b), some (.int c), none], [.int b, .int a], (mz_i xs Ln))) rfl ?_
              refine mz_do (R := mz_r116) (as := [.int a, .int b]) (rest := []) (r1 := some (.int 1)) (m1 := (mz_i xs Ln)) rfl ⟨?_, rfl⟩ ?_
              · refine mz_go 3 (c' := (5, [some (.int a), some (.int b)], [.int 100, .int (-100), .int a], (mz_i xs Ln))) rfl ?_
                refine mz_do (R := mz_r121) (as := [.int a, .int (-100), .int 100]) (rest := []) (r1 := some (.int 1)) (m1 := (mz_i xs Ln)) rfl ⟨?_, rfl⟩ ?_
                · refine mz_go 3 (c' := (if a < (-100) then 14 else 5, [some (.int a), some (.int (-100)), some (.int 100)], [], (mz_i xs Ln))) rfl ?_
                  refine mz_ifF h1 ?_
                  refine mz_go 3 (c' := (if 100 < a then 14 else 10, [some (.int a), some (.int (-100)), some (.int 100)], [], (mz_i xs Ln))) rfl ?_
                  refine mz_ifF h2 ?_
                  refine mz_go 2 (c' := (15, [some (.int a), some (.int (-100)), some (.int 100)], [.int 1], (mz_i xs Ln))) rfl ?_
                  exact mz_ret rfl
                refine mz_go 4 (c' := (16, [some (.int a), some (.int b)], [.int 100, .int (-100), .int b], (mz_i xs Ln))) rfl ?_
                refine mz_do (R := mz_r121) (as := [.int b, .int (-100), .int 100]) (rest := []) (r1 := some (.int 1)) (m1 := (mz_i xs Ln)) rfl ⟨?_, rfl⟩ ?_
                · refine mz_go 3 (c' := (if b < (-100) then 14 else 5, [some (.int b), some (.int (-100)), some (.int 100)], [], (mz_i xs Ln))) rfl ?_
                  refine mz_ifF h3 ?_
                  refine mz_go 3 (c' := (if 100 < b then 14 else 10, [some (.int b), some (.int (-100)), some (.int 100)], [], (mz_i xs Ln))) rfl ?_
                  refine mz_ifF h4 ?_
                  refine mz_go 2 (c' := (15, [some (.int b), some (.int (-100)), some (.int 100)], [.int 1], (mz_i xs Ln))) rfl ?_
                  exact mz_ret rfl
                refine mz_go 3 (c' := (27, [some (.int a), some (.int b)], [.int 1], (mz_i xs Ln))) rfl ?_
                exact mz_ret rfl
              refine mz_go 4 (c' := (11, [some (.ref 0), some (.int a), some (.int b), some (.int c), none], [.int 1, .int 0, .int c], (mz_i xs Ln))) rfl ?_
              refine mz_do (R := mz_r121) (as := [.int c, .int 0, .int 1]) (rest := []) (r1 := some (.int 0)) (m1 := (mz_i xs Ln)) rfl ⟨?_, rfl⟩ ?_
              · refine mz_go 3 (c' := (if c < 0 then 14 else 5, [some (.int c), some (.int 0), some (.int 1)], [], (mz_i xs Ln))) rfl ?_
                refine mz_ifT h5 ?_
                refine mz_go 1 (c' := (15, [some (.int c), some (.int 0), some (.int 1)], [.int 0], (mz_i xs Ln))) rfl ?_
                exact mz_ret rfl
              refine mz_go 3 (c' := (19, [some (.ref 0), some (.int a), some (.int b), some (.int c), none], [.int 1, .ref 0], (mz_i xs Ln))) rfl ?_
              refine mz_do (R := mz_r109) (as := [.ref 0, .int 1]) (rest := []) (r1 := some (.int (-1000001))) (m1 := mz_up (mz_i xs Ln) 64 1 1) rfl ⟨?_, rfl⟩ ?_
              · refine mz_go 3 (c' := (4, [some (.ref 0), some (.int 1)], [.int 6, .int 1, .int 1], (mz_i xs Ln))) rfl ?_
                refine mz_do (R := mz_r121) (as := [.int 1, .int 1, .int 6]) (rest := []) (r1 := some (.int 1)) (m1 := (mz_i xs Ln)) rfl ⟨?_, rfl⟩ ?_
                · refine mz_go 8 (c' := (15, [some (.int 1), some (.int 1), some (.int 6)], [.int 1], (mz_i xs Ln))) rfl ?_
                  exact mz_ret rfl
                refine mz_go 12 (c' := (25, [some (.ref 0), some (.int 1)], [.int (-1000001)], mz_up (mz_i xs Ln) 64 1 1)) rfl ?_
                exact mz_ret rfl
              exact mz_ret rfl
            · refine mz_go 2 (c' := (2, [some (.ref 65), some (.int a), some (.int b), some (.int c), none], [.int b, .int a], mz_up (mz_i xs Ln) 64 1 1)) rfl ?_
              refine mz_do (R := mz_r131) (as := [.int a, .int b]) (rest := []) (r1 := some (.int 1)) (m1 := mz_up (mz_i xs Ln) 64 1 1) rfl ⟨?_, rfl⟩ ?_
              · refine mz_go 3 (c' := (5, [some (.int a), some (.int b)], [.int 100, .int (-100), .int a], mz_up (mz_i xs Ln) 64 1 1)) rfl ?_
                refine mz_do (R := mz_r128) (as := [.int a, .int (-100), .int 100]) (rest := []) (r1 := some (.int 1)) (m1 := mz_up (mz_i xs Ln) 64 1 1) rfl ⟨?_, rfl⟩ ?_
                · refine mz_go 3 (c' := (if a < (-100) then 14 else 5, [some (.int a), some (.int (-100)), some (.int 100)], [], mz_up (mz_i xs Ln) 64 1 1)) rfl ?_
                  refine mz_ifF h1 ?_
                  refine mz_go 3 (c' := (if 100 < a then 14 else 10, [some (.int a), some (.int (-100)), some (.int 100)], [], mz_up (mz_i xs Ln) 64 1 1)) rfl ?_
                  refine mz_ifF h2 ?_
                  refine mz_go 2 (c' := (15, [some (.int a), some (.int (-100)), some (.int 100)], [.int 1], mz_up (mz_i xs Ln) 64 1 1)) rfl ?_
                  exact mz_ret rfl
                refine mz_go 4 (c' := (16, [some (.int a), some (.int b)], [.int 100, .int (-100), .int b], mz_up (mz_i xs Ln) 64 1 1)) rfl ?_
                refine mz_do (R := mz_r128) (as := [.int b, .int (-100), .int 100]) (rest := []) (r1 := some (.int 1)) (m1 := mz_up (mz_i xs Ln) 64 1 1) rfl ⟨?_, rfl⟩ ?_
                · refine mz_go 3 (c' := (if b < (-100) then 14 else 5, [some (.int b), some (.int (-100)), some (.int 100)], [], mz_up (mz_i xs Ln) 64 1 1)) rfl ?_
                  refine mz_ifF h3 ?_
                  refine mz_go 3 (c' := (if 100 < b then 14 else 10, [some (.int b), some (.int (-100)), some (.int 100)], [], mz_up (mz_i xs Ln) 64 1 1)) rfl ?_
                  refine mz_ifF h4 ?_
                  refine mz_go 2 (c' := (15, [some (.int b), some (.int (-100)), some (.int 100)], [.int 1], mz_up (mz_i xs Ln) 64 1 1)) rfl ?_
                  exact mz_ret rfl
                refine mz_go 3 (c' := (27, [some (.int a), some (.int b)], [.int 1], mz_up (mz_i xs Ln) 64 1 1)) rfl ?_
                exact mz_ret rfl
              refine mz_go 4 (c' := (11, [some (.ref 65), some (.int a), some (.int b), some (.int c), none], [.int 1, .int 0, .int c], mz_up (mz_i xs Ln) 64 1 1)) rfl ?_
              refine mz_do (R := mz_r128) (as := [.int c, .int 0, .int 1]) (rest := []) (r1 := some (.int 0)) (m1 := mz_up (mz_i xs Ln) 64 1 1) rfl ⟨?_, rfl⟩ ?_
              · refine mz_go 3 (c' := (if c < 0 then 14 else 5, [some (.int c), some (.int 0), some (.int 1)], [], mz_up (mz_i xs Ln) 64 1 1)) rfl ?_
                refine mz_ifT h5 ?_
                refine mz_go 1 (c' := (15, [some (.int c), some (.int 0), some (.int 1)], [.int 0], mz_up (mz_i xs Ln) 64 1 1)) rfl ?_
                exact mz_ret rfl
              refine mz_go 3 (c' := (19, [some (.ref 65), some (.int a), some (.int b), some (.int c), none], [.int 1, .ref 65], mz_up (mz_i xs Ln) 64 1 1)) rfl ?_
              refine mz_do (R := mz_r127) (as := [.ref 65, .int 1]) (rest := []) (r1 := some (.int (-1000001))) (m1 := mz_up (mz_up (mz_i xs Ln) 64 1 1) 68 1 1) rfl ⟨?_, rfl⟩ ?_
              · refine mz_go 11 (c' := (14, [some (.ref 65), some (.int 1)], [.int (-1000001)], mz_up (mz_up (mz_i xs Ln) 64 1 1) 68 1 1)) rfl ?_
                exact mz_ret rfl
              exact mz_ret rfl
          · by_cases h6 : 1 < c
            · refine ⟨(-1000001), mz_up (mz_i xs Ln) 64 1 1, mz_up (mz_up (mz_i xs Ln) 64 1 1) 68 1 1, ⟨?_, rfl⟩, ⟨?_, rfl⟩⟩
              · refine mz_go 2 (c' := (2, [some (.ref 0), some (.int a), some (.int b), some (.int c), none], [.int b, .int a], (mz_i xs Ln))) rfl ?_
                refine mz_do (R := mz_r116) (as := [.int a, .int b]) (rest := []) (r1 := some (.int 1)) (m1 := (mz_i xs Ln)) rfl ⟨?_, rfl⟩ ?_
                · refine mz_go 3 (c' := (5, [some (.int a), some (.int b)], [.int 100, .int (-100), .int a], (mz_i xs Ln))) rfl ?_
                  refine mz_do (R := mz_r121) (as := [.int a, .int (-100), .int 100]) (rest := []) (r1 := some (.int 1)) (m1 := (mz_i xs Ln)) rfl ⟨?_, rfl⟩ ?_
                  · refine mz_go 3 (c' := (if a < (-100) then 14 else 5, [some (.int a), some (.int (-100)), some (.int 100)], [], (mz_i xs Ln))) rfl ?_
                    refine mz_ifF h1 ?_
                    refine mz_go 3 (c' := (if 100 < a then 14 else 10, [some (.int a), some (.int (-100)), some (.int 100)], [], (mz_i xs Ln))) rfl ?_
                    refine mz_ifF h2 ?_
                    refine mz_go 2 (c' := (15, [some (.int a), some (.int (-100)), some (.int 100)], [.int 1], (mz_i xs Ln))) rfl ?_
                    exact mz_ret rfl
                  refine mz_go 4 (c' := (16, [some (.int a), some (.int b)], [.int 100, .int (-100), .int b], (mz_i xs Ln))) rfl ?_
                  refine mz_do (R := mz_r121) (as := [.int b, .int (-100), .int 100]) (rest := []) (r1 := some (.int 1)) (m1 := (mz_i xs Ln)) rfl ⟨?_, rfl⟩ ?_
                  · refine mz_go 3 (c' := (if b < (-100) then 14 else 5, [some (.int b), some (.int (-100)), some (.int 100)], [], (mz_i xs Ln))) rfl ?_
                    refine mz_ifF h3 ?_
                    refine mz_go 3 (c' := (if 100 < b then 14 else 10, [some (.int b), some (.int (-100)), some (.int 100)], [], (mz_i xs Ln))) rfl ?_
                    refine mz_ifF h4 ?_
                    refine mz_go 2 (c' := (15, [some (.int b), some (.int (-100)), some (.int 100)], [.int 1], (mz_i xs Ln))) rfl ?_
                    exact mz_ret rfl
                  refine mz_go 3 (c' := (27, [some (.int a), some (.int b)], [.int 1], (mz_i xs Ln))) rfl ?_
                  exact mz_ret rfl
                refine mz_go 4 (c' := (11, [some (.ref 0), some (.int a), some (.int b), some (.int c), none], [.int 1, .int 0, .int c], (mz_i xs Ln))) rfl ?_
                refine mz_do (R := mz_r121) (as := [.int c, .int 0, .int 1]) (rest := []) (r1 := some (.int 0)) (m1 := (mz_i xs Ln)) rfl ⟨?_, rfl⟩ ?_
                · refine mz_go 3 (c' := (if c < 0 then 14 else 5, [some (.int c), some (.int 0), some (.int 1)], [], (mz_i xs Ln))) rfl ?_
                  refine mz_ifF h5 ?_
                  refine mz_go 3 (c' := (if 1 < c then 14 else 10, [some (.int c), some (.int 0), some (.int 1)], [], (mz_i xs Ln))) rfl ?_
                  refine mz_ifT h6 ?_
                  refine mz_go 1 (c' := (15, [some (.int c), some (.int 0), some (.int 1)], [.int 0], (mz_i xs Ln))) rfl ?_
                  exact mz_ret rfl
                refine mz_go 3 (c' := (19, [some (.ref 0), some (.int a), some (.int b), some (.int c), none], [.int 1, .ref 0], (mz_i xs Ln))) rfl ?_
                refine mz_do (R := mz_r109) (as := [.ref 0, .int 1]) (rest := []) (r1 := some (.int (-1000001))) (m1 := mz_up (mz_i xs Ln) 64 1 1) rfl ⟨?_, rfl⟩ ?_
                · refine mz_go 3 (c' := (4, [some (.ref 0), some (.int 1)], [.int 6, .int 1, .int 1], (mz_i xs Ln))) rfl ?_
                  refine mz_do (R := mz_r121) (as := [.int 1, .int 1, .int 6]) (rest := []) (r1 := some (.int 1)) (m1 := (mz_i xs Ln)) rfl ⟨?_, rfl⟩ ?_
                  · refine mz_go 8 (c' := (15, [some (.int 1), some (.int 1), some (.int 6)], [.int 1], (mz_i xs Ln))) rfl ?_
                    exact mz_ret rfl
                  refine mz_go 12 (c' := (25, [some (.ref 0), some (.int 1)], [.int (-1000001)], mz_up (mz_i xs Ln) 64 1 1)) rfl ?_
                  exact mz_ret rfl
                exact mz_ret rfl
              · refine mz_go 2 (c' := (2, [some (.ref 65), some (.int a), some (.int b), some (.int c), none], [.int b, .int a], mz_up (mz_i xs Ln) 64 1 1)) rfl ?_
                refine mz_do (R := mz_r131) (as := [.int a, .int b]) (rest := []) (r1 := some (.int 1)) (m1 := mz_up (mz_i xs Ln) 64 1 1) rfl ⟨?_, rfl⟩ ?_
                · refine mz_go 3 (c' := (5, [some (.int a), some (.int b)], [.int 100, .int (-100), .int a], mz_up (mz_i xs Ln) 64 1 1)) rfl ?_
                  refine mz_do (R := mz_r128) (as := [.int a, .int (-100), .int 100]) (rest := []) (r1 := some (.int 1)) (m1 := mz_up (mz_i xs Ln) 64 1 1) rfl ⟨?_, rfl⟩ ?_
                  · refine mz_go 3 (c' := (if a < (-100) then 14 else 5, [some (.int a), some (.int (-100)), some (.int 100)], [], mz_up (mz_i xs Ln) 64 1 1)) rfl ?_
                    refine mz_ifF h1 ?_
                    refine mz_go 3 (c' := (if 100 < a then 14 else 10, [some (.int a), some (.int (-100)), some (.int 100)], [], mz_up (mz_i xs Ln) 64 1 1)) rfl ?_
                    refine mz_ifF h2 ?_
                    refine mz_go 2 (c' := (15, [some (.int a), some (.int (-100)), some (.int 100)], [.int 1], mz_up (mz_i xs Ln) 64 1 1)) rfl ?_
                    exact mz_ret rfl
                  refine mz_go 4 (c' := (16, [some (.int a), some (.int b)], [.int 100, .int (-100), .int b], mz_up (mz_i xs Ln) 64 1 1)) rfl ?_
                  refine mz_do (R := mz_r128) (as := [.int b, .int (-100), .int 100]) (rest := []) (r1 := some (.int 1)) (m1 := mz_up (mz_i xs Ln) 64 1 1) rfl ⟨?_, rfl⟩ ?_
                  · refine mz_go 3 (c' := (if b < (-100) then 14 else 5, [some (.int b), some (.int (-100)), some (.int 100)], [], mz_up (mz_i xs Ln) 64 1 1)) rfl ?_
                    refine mz_ifF h3 ?_
                    refine mz_go 3 (c' := (if 100 < b then 14 else 10, [some (.int b), some (.int (-100)), some (.int 100)], [], mz_up (mz_i xs Ln) 64 1 1)) rfl ?_
                    refine mz_ifF h4 ?_
                    refine mz_go 2 (c' := (15, [some (.int b), some (.int (-100)), some (.int 100)], [.int 1], mz_up (mz_i xs Ln) 64 1 1)) rfl ?_
                    exact mz_ret rfl
                  refine mz_go 3 (c' := (27, [some (.int a), some (.int b)], [.int 1], mz_up (mz_i xs Ln) 64 1 1)) rfl ?_
                  exact mz_ret rfl
                refine mz_go 4 (c' := (11, [some (.ref 65), some (.int a), some (.int b), some (.int c), none], [.int 1, .int 0, .int c], mz_up (mz_i xs Ln) 64 1 1)) rfl ?_
                refine mz_do (R := mz_r128) (as := [.int c, .int 0, .int 1]) (rest := []) (r1 := some (.int 0)) (m1 := mz_up (mz_i xs Ln) 64 1 1) rfl ⟨?_, rfl⟩ ?_
                · refine mz_go 3 (c' := (if c < 0 then 14 else 5, [some (.int c), some (.int 0), some (.int 1)], [], mz_up (mz_i xs Ln) 64 1 1)) rfl ?_
                  refine mz_ifF h5 ?_
                  refine mz_go 3 (c' := (if 1 < c then 14 else 10, [some (.int c), some (.int 0), some (.int 1)], [], mz_up (mz_i xs Ln) 64 1 1)) rfl ?_
                  refine mz_ifT h6 ?_
                  refine mz_go 1 (c' := (15, [some (.int c), some (.int 0), some (.int 1)], [.int 0], mz_up (mz_i xs Ln) 64 1 1)) rfl ?_
                  exact mz_ret rfl
                refine mz_go 3 (c' := (19, [some (.ref 65), some (.int a), some (.int b), some (.int c), none], [.int 1, .ref 65], mz_up (mz_i xs Ln) 64 1 1)) rfl ?_
                refine mz_do (R := mz_r127) (as := [.ref 65, .int 1]) (rest := []) (r1 := some (.int (-1000001))) (m1 := mz_up (mz_up (mz_i xs Ln) 64 1 1) 68 1 1) rfl ⟨?_, rfl⟩ ?_
                · refine mz_go 11 (c' := (14, [some (.ref 65), some (.int 1)], [.int (-1000001)], mz_up (mz_up (mz_i xs Ln) 64 1 1) 68 1 1)) rfl ?_
                  exact mz_ret rfl
                exact mz_ret rfl
            · refine ⟨(-1000002), mz_up (mz_i xs Ln) 64 2 1, mz_up (mz_up (mz_up (mz_up (mz_up (mz_up (mz_up (mz_i xs Ln) 64 2 1) 65 4 (16 * a)) 65 5 (16 * b)) 65 6 0) 65 7 0) 65 8 0) 68 2 1, ⟨?_, rfl⟩, ⟨?_, rfl⟩⟩
              · refine mz_go 2 (c' := (2, [some (.ref 0), some (.int a), some (.int b), some (.int c), none], [.int b, .int a], (mz_i xs Ln))) rfl ?_
                refine mz_do (R := mz_r116) (as := [.int a, .int b]) (rest := []) (r1 := some (.int 1)) (m1 := (mz_i xs Ln)) rfl ⟨?_, rfl⟩ ?_
                · refine mz_go 3 (c' := (5, [some (.int a), some (.int b)], [.int 100, .int (-100), .int a], (mz_i xs Ln))) rfl ?_
                  refine mz_do (R := mz_r121) (as := [.int a, .int (-100), .int 100]) (rest := []) (r1 := some (.int 1)) (m1 := (mz_i xs Ln)) rfl ⟨?_, rfl⟩ ?_
                  · refine mz_go 3 (c' := (if a < (-100) then 14 else 5, [some (.int a), some (.int (-100)), some (.int 100)], [], (mz_i xs Ln))) rfl ?_
                    refine mz_ifF h1 ?_
                    refine mz_go 3 (c' := (if 100 < a then 14 else 10, [some (.int a), some (.int (-100)), some (.int 100)], [], (mz_i xs Ln))) rfl ?_
                    refine mz_ifF h2 ?_
                    refine mz_go 2 (c' := (15, [some (.int a), some (.int (-100)), some (.int 100)], [.int 1], (mz_i xs Ln))) rfl ?_
                    exact mz_ret rfl
                  refine mz_go 4 (c' := (16, [some (.int a), some (.int b)], [.int 100, .int (-100), .int b], (mz_i xs Ln))) rfl ?_
                  refine mz_do (R := mz_r121) (as := [.int b, .int (-100), .int 100]) (rest := []) (r1 := some (.int 1)) (m1 := (mz_i xs Ln)) rfl ⟨?_, rfl⟩ ?_
                  · refine mz_go 3 (c' := (if b < (-100) then 14 else 5, [some (.int b), some (.int (-100)), some (.int 100)], [], (mz_i xs Ln))) rfl ?_
                    refine mz_ifF h3 ?_
                    refine mz_go 3 (c' := (if 100 < b then 14 else 10, [some (.int b), some (.int (-100)), some (.int 100)], [], (mz_i xs Ln))) rfl ?_
                    refine mz_ifF h4 ?_
                    refine mz_go 2 (c' := (15, [some (.int b), some (.int (-100)), some (.int 100)], [.int 1], (mz_i xs Ln))) rfl ?_
                    exact mz_ret rfl
                  refine mz_go 3 (c' := (27, [some (.int a), some (.int b)], [.int 1], (mz_i xs Ln))) rfl ?_
                  exact mz_ret rfl
                refine mz_go 4 (c' := (11, [some (.ref 0), some (.int a), some (.int b), some (.int c), none], [.int 1, .int 0, .int c], (mz_i xs Ln))) rfl ?_
                refine mz_do (R := mz_r121) (as := [.int c, .int 0, .int 1]) (rest := []) (r1 := some (.int 1)) (m1 := (mz_i xs Ln)) rfl ⟨?_, rfl⟩ ?_
                · refine mz_go 3 (c' := (if c < 0 then 14 else 5, [some (.int c), some (.int 0), some (.int 1)], [], (mz_i xs Ln))) rfl ?_
                  refine mz_ifF h5 ?_
                  refine mz_go 3 (c' := (if 1 < c then 14 else 10, [some (.int c), some (.int 0), some (.int 1)], [], (mz_i xs Ln))) rfl ?_
                  refine mz_ifF h6 ?_
                  refine mz_go 2 (c' := (15, [some (.int c), some (.int 0), some (.int 1)], [.int 1], (mz_i xs Ln))) rfl ?_
                  exact mz_ret rfl
                refine mz_go 11 (c' := (39, [some (.ref 0), some (.int a), some (.int b), some (.int c), none], [.int 0, .int (b * 16), .int (a * 16), .ref 2], (mz_i xs Ln))) rfl ?_
                refine mz_do (R := mz_r25) (as := [.ref 2, .int (a * 16), .int (b * 16), .int 0]) (rest := []) (r1 := some (.int (-1))) (m1 := (mz_i xs Ln)) rfl ⟨?_, rfl⟩ ?_
                · refine mz_go 11 (c' := (69, [some (.ref 2), some (.int (a * 16)), some (.int (b * 16)), some (.int 0), some (.int (-1)), some (.int 0), some (.int 0), none], [.int (-1)], (mz_i xs Ln))) rfl ?_
                  exact mz_ret rfl
                refine mz_go 5 (c' := (51, [some (.ref 0), some (.int a), some (.int b), some (.int c), some (.int (-1))], [.int 2, .ref 0], (mz_i xs Ln))) rfl ?_
                refine mz_do (R := mz_r109) (as := [.ref 0, .int 2]) (rest := []) (r1 := some (.int (-1000002))) (m1 := mz_up (mz_i xs Ln) 64 2 1) rfl ⟨?_, rfl⟩ ?_
                · refine mz_go 3 (c' := (4, [some (.ref 0), some (.int 2)], [.int 6, .int 1, .int 2], (mz_i xs Ln))) rfl ?_
                  refine mz_do (R := mz_r121) (as := [.int 2, .int 1, .int 6]) (rest := []) (r1 := some (.int 1)) (m1 := (mz_i xs Ln)) rfl ⟨?_, rfl⟩ ?_
                  · refine mz_go 8 (c' := (15, [some (.int 2), some (.int 1), some (.int 6)], [.int 1], (mz_i xs Ln))) rfl ?_
                    exact mz_ret rfl
                  refine mz_go 12 (c' := (25, [some (.ref 0), some (.int 2)], [.int (-1000002)], mz_up (mz_i xs Ln) 64 2 1)) rfl ?_
                  exact mz_ret rfl
                exact mz_ret rfl
              · refine mz_go 2 (c' := (2, [some (.ref 65), some (.int a), some (.int b), some (.int c), none], [.int b, .int a], mz_up (mz_i xs Ln) 64 2 1)) rfl ?_
                refine mz_do (R := mz_r131) (as := [.int a, .int b]) (rest := []) (r1 := some (.int 1)) (m1 := mz_up (mz_i xs Ln) 64 2 1) rfl ⟨?_, rfl⟩ ?_
                · refine mz_go 3 (c' := (5, [some (.int a), some (.int b)], [.int 100, .int (-100), .int a], mz_up (mz_i xs Ln) 64 2 1)) rfl ?_
                  refine mz_do (R := mz_r128) (as := [.int a, .int (-100), .int 100]) (rest := []) (r1 := some (.int 1)) (m1 := mz_up (mz_i xs Ln) 64 2 1) rfl ⟨?_, rfl⟩ ?_
                  · refine mz_go 3 (c' := (if a < (-100) then 14 else 5, [some (.int a), some (.int (-100)), some (.int 100)], [], mz_up (mz_i xs Ln) 64 2 1)) rfl ?_
                    refine mz_ifF h1 ?_
                    refine mz_go 3 (c' := (if 100 < a then 14 else 10, [some (.int a), some (.int (-100)), some (.int 100)], [], mz_up (mz_i xs Ln) 64 2 1)) rfl ?_
                    refine mz_ifF h2 ?_
                    refine mz_go 2 (c' := (15, [some (.int a), some (.int (-100)), some (.int 100)], [.int 1], mz_up (mz_i xs Ln) 64 2 1)) rfl ?_
                    exact mz_ret rfl
                  refine mz_go 4 (c' := (16, [some (.int a), some (.int b)], [.int 100, .int (-100), .int b], mz_up (mz_i xs Ln) 64 2 1)) rfl ?_
                  refine mz_do (R := mz_r128) (as := [.int b, .int (-100), .int 100]) (rest := []) (r1 := some (.int 1)) (m1 := mz_up (mz_i xs Ln) 64 2 1) rfl ⟨?_, rfl⟩ ?_
                  · refine mz_go 3 (c' := (if b < (-100) then 14 else 5, [some (.int b), some (.int (-100)), some (.int 100)], [], mz_up (mz_i xs Ln) 64 2 1)) rfl ?_
                    refine mz_ifF h3 ?_
                    refine mz_go 3 (c' := (if 100 < b then 14 else 10, [some (.int b), some (.int (-100)), some (.int 100)], [], mz_up (mz_i xs Ln) 64 2 1)) rfl ?_
                    refine mz_ifF h4 ?_
                    refine mz_go 2 (c' := (15, [some (.int b), some (.int (-100)), some (.int 100)], [.int 1], mz_up (mz_i xs Ln) 64 2 1)) rfl ?_
                    exact mz_ret rfl
                  refine mz_go 3 (c' := (27, [some (.int a), some (.int b)], [.int 1], mz_up (mz_i xs Ln) 64 2 1)) rfl ?_
                  exact mz_ret rfl
                refine mz_go 4 (c' := (11, [some (.ref 65), some (.int a), some (.int b), some (.int c), none], [.int 1, .int 0, .int c], mz_up (mz_i xs Ln) 64 2 1)) rfl ?_
                refine mz_do (R := mz_r128) (as := [.int c, .int 0, .int 1]) (rest := []) (r1 := some (.int 1)) (m1 := mz_up (mz_i xs Ln) 64 2 1) rfl ⟨?_, rfl⟩ ?_
                · refine mz_go 3 (c' := (if c < 0 then 14 else 5, [some (.int c), some (.int 0), some (.int 1)], [], mz_up (mz_i xs Ln) 64 2 1)) rfl ?_
                  refine mz_ifF h5 ?_
                  refine mz_go 3 (c' := (if 1 < c then 14 else 10, [some (.int c), some (.int 0), some (.int 1)], [], mz_up (mz_i xs Ln) 64 2 1)) rfl ?_
                  refine mz_ifF h6 ?_
                  refine mz_go 2 (c' := (15, [some (.int c), some (.int 0), some (.int 1)], [.int 1], mz_up (mz_i xs Ln) 64 2 1)) rfl ?_
                  exact mz_ret rfl
                refine mz_go 6 (c' := (28, [some (.ref 65), some (.int a), some (.int b), some (.int c), none], [.int 0, .int 0, .int b, .int a, .ref 65], mz_up (mz_i xs Ln) 64 2 1)) rfl ?_
                refine mz_do (R := mz_r144) (as := [.ref 65, .int a, .int b, .int 0, .int 0]) (rest := []) (r1 := none) (m1 := mz_up (mz_up (mz_up (mz_up (mz_up (mz_up (mz_i xs Ln) 64 2 1) 65 4 (16 * a)) 65 5 (16 * b)) 65 6 0) 65 7 0) 65 8 0) rfl ⟨?_, rfl⟩ ?_
                · refine mz_go 19 (c' := (32, [some (.ref 65), some (.int a), some (.int b), some (.int 0), some (.int 0)], [], mz_up (mz_up (mz_up (mz_up (mz_up (mz_up (mz_i xs Ln) 64 2 1) 65 4 (16 * a)) 65 5 (16 * b)) 65 6 0) 65 7 0) 65 8 0)) rfl ?_
                  exact mz_ret rfl
                refine mz_go 2 (c' := (33, [some (.ref 65), some (.int a), some (.int b), some (.int c), none], [.int 1, .ref 65], mz_up (mz_up (mz_up (mz_up (mz_up (mz_up (mz_i xs Ln) 64 2 1) 65 4 (16 * a)) 65 5 (16 * b)) 65 6 0) 65 7 0) 65 8 0)) rfl ?_
                refine mz_do (R := mz_r148) (as := [.ref 65, .int 1]) (rest := []) (r1 := some (.int (-1))) (m1 := mz_up (mz_up (mz_up (mz_up (mz_up (mz_up (mz_i xs Ln) 64 2 1) 65 4 (16 * a)) 65 5 (16 * b)) 65 6 0) 65 7 0) 65 8 0) rfl ⟨?_, rfl⟩ ?_
                · refine mz_go 11 (c' := (73, [some (.ref 65), some (.int 1), some (.int (-1)), some (.int 0), none], [.int (-1)], mz_up (mz_up (mz_up (mz_up (mz_up (mz_up (mz_i xs Ln) 64 2 1) 65 4 (16 * a)) 65 5 (16 * b)) 65 6 0) 65 7 0) 65 8 0)) rfl ?_
                  exact mz_ret rfl
                refine mz_go 5 (c' := (45, [some (.ref 65), some (.int a), some (.int b), some (.int c), some (.int (-1))], [.int 2, .ref 65], mz_up (mz_up (mz_up (mz_up (mz_up (mz_up (mz_i xs Ln) 64 2 1) 65 4 (16 * a)) 65 5 (16 * b)) 65 6 0) 65 7 0) 65 8 0)) rfl ?_
                refine mz_do (R := mz_r127) (as := [.ref 65, .int 2]) (rest := []) (r1 := some (.int (-1000002))) (m1 := mz_up (mz_up (mz_up (mz_up (mz_up (mz_up (mz_up (mz_i xs Ln) 64 2 1) 65 4 (16 * a)) 65 5 (16 * b)) 65 6 0) 65 7 0) 65 8 0) 68 2 1) rfl ⟨?_, rfl⟩ ?_
                · refine mz_go 11 (c' := (14, [some (.ref 65), some (.int 2)], [.int (-1000002)], mz_up (mz_up (mz_up (mz_up (mz_up (mz_up (mz_up (mz_i xs Ln) 64 2 1) 65 4 (16 * a)) 65 5 (16 * b)) 65 6 0) 65 7 0) 65 8 0) 68 2 1)) rfl ?_
                  exact mz_ret rfl
                refine mz_go 1 (c' := (66, [some (.ref 65), some (.int a), some (.int b), some (.int c), some (.int (-1))], [.int (-1000002)], mz_up (mz_up (mz_up (mz_up (mz_up (mz_up (mz_up (mz_i xs Ln) 64 2 1) 65 4 (16 * a)) 65 5 (16 * b)) 65 6 0) 65 7 0) 65 8 0) 68 2 1)) rfl ?_
                exact mz_ret rfl
