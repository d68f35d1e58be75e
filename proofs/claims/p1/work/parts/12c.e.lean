set_option maxHeartbeats 4000000 in
set_option maxRecDepth 100000 in
theorem p1_feed (xs : Nat → Int32) (Ln : Nat) (a : Int64) (b : Int32) : ∃ v m1 m2, mz_Me 100 mz_r74 [.ref 0, .long a, .int b] (mz_i xs Ln) (some (.int v)) m1 ∧ mz_Me 100 mz_r158 [.ref 65, .long a, .int b] m1 (some (.int v)) m2 := by
  by_cases h1 : b < 1
  · refine ⟨(-1000001), mz_up (mz_i xs Ln) 64 1 1, mz_up (mz_up (mz_i xs Ln) 64 1 1) 68 1 1, ⟨?_, rfl⟩, ⟨?_, rfl⟩⟩
    · refine mz_go 3 (c' := (4, [some (.ref 0), some (.long a), none, some (.int b), none, none], [.int 8, .int 1, .int b], (mz_i xs Ln))) rfl ?_
      refine mz_do (R := mz_r121) (as := [.int b, .int 1, .int 8]) (rest := []) (r1 := some (.int 0)) (m1 := (mz_i xs Ln)) rfl ⟨?_, rfl⟩ ?_
      · refine mz_go 3 (c' := (if b < 1 then 14 else 5, [some (.int b), some (.int 1), some (.int 8)], [], (mz_i xs Ln))) rfl ?_
        refine mz_ifT h1 ?_
        refine mz_go 1 (c' := (15, [some (.int b), some (.int 1), some (.int 8)], [.int 0], (mz_i xs Ln))) rfl ?_
        exact mz_ret rfl
      refine mz_go 3 (c' := (12, [some (.ref 0), some (.long a), none, some (.int b), none, none], [.int 1, .ref 0], (mz_i xs Ln))) rfl ?_
      refine mz_do (R := mz_r109) (as := [.ref 0, .int 1]) (rest := []) (r1 := some (.int (-1000001))) (m1 := mz_up (mz_i xs Ln) 64 1 1) rfl ⟨?_, rfl⟩ ?_
      · refine mz_go 3 (c' := (4, [some (.ref 0), some (.int 1)], [.int 6, .int 1, .int 1], (mz_i xs Ln))) rfl ?_
        refine mz_do (R := mz_r121) (as := [.int 1, .int 1, .int 6]) (rest := []) (r1 := some (.int 1)) (m1 := (mz_i xs Ln)) rfl ⟨?_, rfl⟩ ?_
        · refine mz_go 8 (c' := (15, [some (.int 1), some (.int 1), some (.int 6)], [.int 1], (mz_i xs Ln))) rfl ?_
          exact mz_ret rfl
        refine mz_go 12 (c' := (25, [some (.ref 0), some (.int 1)], [.int (-1000001)], mz_up (mz_i xs Ln) 64 1 1)) rfl ?_
        exact mz_ret rfl
      exact mz_ret rfl
    · refine mz_go 3 (c' := (4, [some (.ref 65), some (.long a), none, some (.int b), none], [.int 8, .int 1, .int b], mz_up (mz_i xs Ln) 64 1 1)) rfl ?_
      refine mz_do (R := mz_r128) (as := [.int b, .int 1, .int 8]) (rest := []) (r1 := some (.int 0)) (m1 := mz_up (mz_i xs Ln) 64 1 1) rfl ⟨?_, rfl⟩ ?_
      · refine mz_go 3 (c' := (if b < 1 then 14 else 5, [some (.int b), some (.int 1), some (.int 8)], [], mz_up (mz_i xs Ln) 64 1 1)) rfl ?_
        refine mz_ifT h1 ?_
        refine mz_go 1 (c' := (15, [some (.int b), some (.int 1), some (.int 8)], [.int 0], mz_up (mz_i xs Ln) 64 1 1)) rfl ?_
        exact mz_ret rfl
      refine mz_go 3 (c' := (12, [some (.ref 65), some (.long a), none, some (.int b), none], [.int 1, .ref 65], mz_up (mz_i xs Ln) 64 1 1)) rfl ?_
      refine mz_do (R := mz_r127) (as := [.ref 65, .int 1]) (rest := []) (r1 := some (.int (-1000001))) (m1 := mz_up (mz_up (mz_i xs Ln) 64 1 1) 68 1 1) rfl ⟨?_, rfl⟩ ?_
      · refine mz_go 11 (c' := (14, [some (.ref 65), some (.int 1)], [.int (-1000001)], mz_up (mz_up (mz_i xs Ln) 64 1 1) 68 1 1)) rfl ?_
        exact mz_ret rfl
      exact mz_ret rfl
  · by_cases h2 : 8 < b
    · refine ⟨(-1000001), mz_up (mz_i xs Ln) 64 1 1, mz_up (mz_up (mz_i xs Ln) 64 1 1) 68 1 1, ⟨?_, rfl⟩, ⟨?_, rfl⟩⟩
      · refine mz_go 3 (c' := (4, [some (.ref 0), some (.long a), none, some (.int b), none, none], [.int 8, .int 1, .int b], (mz_i xs Ln))) rfl ?_
        refine mz_do (R := mz_r121) (as := [.int b, .int 1, .int 8]) (rest := []) (r1 := some (.int 0)) (m1 := (mz_i xs Ln)) rfl ⟨?_, rfl⟩ ?_
        · refine mz_go 3 (c' := (if b < 1 then 14 else 5, [some (.int b), some (.int 1), some (.int 8)], [], (mz_i xs Ln))) rfl ?_
          refine mz_ifF h1 ?_
          refine mz_go 3 (c' := (if 8 < b then 14 else 10, [some (.int b), some (.int 1), some (.int 8)], [], (mz_i xs Ln))) rfl ?_
          refine mz_ifT h2 ?_
          refine mz_go 1 (c' := (15, [some (.int b), some (.int 1), some (.int 8)], [.int 0], (mz_i xs Ln))) rfl ?_
          exact mz_ret rfl
        refine mz_go 3 (c' := (12, [some (.ref 0), some (.long a), none, some (.int b), none, none], [.int 1, .ref 0], (mz_i xs Ln))) rfl ?_
        refine mz_do (R := mz_r109) (as := [.ref 0, .int 1]) (rest := []) (r1 := some (.int (-1000001))) (m1 := mz_up (mz_i xs Ln) 64 1 1) rfl ⟨?_, rfl⟩ ?_
        · refine mz_go 3 (c' := (4, [some (.ref 0), some (.int 1)], [.int 6, .int 1, .int 1], (mz_i xs Ln))) rfl ?_
          refine mz_do (R := mz_r121) (as := [.int 1, .int 1, .int 6]) (rest := []) (r1 := some (.int 1)) (m1 := (mz_i xs Ln)) rfl ⟨?_, rfl⟩ ?_
          · refine mz_go 8 (c' := (15, [some (.int 1), some (.int 1), some (.int 6)], [.int 1], (mz_i xs Ln))) rfl ?_
            exact mz_ret rfl
          refine mz_go 12 (c' := (25, [some (.ref 0), some (.int 1)], [.int (-1000001)], mz_up (mz_i xs Ln) 64 1 1)) rfl ?_
          exact mz_ret rfl
        exact mz_ret rfl
      · refine mz_go 3 (c' := (4, [some (.ref 65), some (.long a), none, some (.int b), none], [.int 8, .int 1, .int b], mz_up (mz_i xs Ln) 64 1 1)) rfl ?_
        refine mz_do (R := mz_r128) (as := [.int b, .int 1, .int 8]) (rest := []) (r1 := some (.int 0)) (m1 := mz_up (mz_i xs Ln) 64 1 1) rfl ⟨?_, rfl⟩ ?_
        · refine mz_go 3 (c' := (if b < 1 then 14 else 5, [some (.int b), some (.int 1), some (.int 8)], [], mz_up (mz_i xs Ln) 64 1 1)) rfl ?_
          refine mz_ifF h1 ?_
          refine mz_go 3 (c' := (if 8 < b then 14 else 10, [some (.int b), some (.int 1), some (.int 8)], [], mz_up (mz_i xs Ln) 64 1 1)) rfl ?_
          refine mz_ifT h2 ?_
          refine mz_go 1 (c' := (15, [some (.int b), some (.int 1), some (.int 8)], [.int 0], mz_up (mz_i xs Ln) 64 1 1)) rfl ?_
          exact mz_ret rfl
        refine mz_go 3 (c' := (12, [some (.ref 65), some (.long a), none, some (.int b), none], [.int 1, .ref 65], mz_up (mz_i xs Ln) 64 1 1)) rfl ?_
        refine mz_do (R := mz_r127) (as := [.ref 65, .int 1]) (rest := []) (r1 := some (.int (-1000001))) (m1 := mz_up (mz_up (mz_i xs Ln) 64 1 1) 68 1 1) rfl ⟨?_, rfl⟩ ?_
        · refine mz_go 11 (c' := (14, [some (.ref 65), some (.int 1)], [.int (-1000001)], mz_up (mz_up (mz_i xs Ln) 64 1 1) 68 1 1)) rfl ?_
          exact mz_ret rfl
        exact mz_ret rfl
    · by_cases h3 : (0 + b) ≤ 60
      · by_cases h4 : b ≤ 1
        · refine ⟨1, mz_up (mz_up (mz_i xs Ln) 9 0 ((((a.toUInt64 >>> ((0 : Int32).toInt64.toUInt64 &&& Int64.toUInt64 63)).toInt64).toInt32) &&& 255)) 8 1 1, mz_up (mz_up (mz_up (mz_up (mz_i xs Ln) 9 0 ((((a.toUInt64 >>> ((0 : Int32).toInt64.toUInt64 &&& Int64.toUInt64 63)).toInt64).toInt32) &&& 255)) 8 1 1) 66 550 (((a >>> ((0 : Int32).toInt64 &&& 63)) &&& (Int64.ofNat 255)).toInt32)) 66 1 1, ⟨?_, rfl⟩, ⟨?_, rfl⟩⟩
          · refine mz_go 3 (c' := (4, [some (.ref 0), some (.long a), none, some (.int b), none, none], [.int 8, .int 1, .int b], (mz_i xs Ln))) rfl ?_
            refine mz_do (R := mz_r121) (as := [.int b, .int 1, .int 8]) (rest := []) (r1 := some (.int 1)) (m1 := (mz_i xs Ln)) rfl ⟨?_, rfl⟩ ?_
            · refine mz_go 3 (c' := (if b < 1 then 14 else 5, [some (.int b), some (.int 1), some (.int 8)], [], (mz_i xs Ln))) rfl ?_
              refine mz_ifF h1 ?_
              refine mz_go 3 (c' := (if 8 < b then 14 else 10, [some (.int b), some (.int 1), some (.int 8)], [], (mz_i xs Ln))) rfl ?_
              refine mz_ifF h2 ?_
              refine mz_go 2 (c' := (15, [some (.int b), some (.int 1), some (.int 8)], [.int 1], (mz_i xs Ln))) rfl ?_
              exact mz_ret rfl
            refine mz_go 11 (c' := (if (0 + b) ≤ 60 then 43 else 37, [some (.ref 0), some (.long a), none, some (.int b), some (.ref 8), none], [], (mz_i xs Ln))) rfl ?_
            refine mz_ifT h3 ?_
            refine mz_go 5 (c' := (if b ≤ 0 then 92 else 52, [some (.ref 0), some (.long a), none, some (.int b), some (.ref 8), some (.int 0)], [], (mz_i xs Ln))) rfl ?_
            refine mz_ifF (by have hl : (1 : Int) ≤ (b).toInt := Int32.le_iff_toInt_le.mp (Int32.not_lt.mp h1); have hu : (b).toInt ≤ (1 : Int) := Int32.le_iff_toInt_le.mp h4; exact Int32.not_le.mpr (Int32.lt_iff_toInt_lt.mpr (show (0 : Int) < (b).toInt by omega))) ?_
            refine mz_go 24 (c' := (if b ≤ 1 then 92 else 52, [some (.ref 0), some (.long a), none, some (.int b), some (.ref 8), some (.int 1)], [], mz_up (mz_up (mz_i xs Ln) 9 0 ((((a.toUInt64 >>> ((0 : Int32).toInt64.toUInt64 &&& Int64.toUInt64 63)).toInt64).toInt32) &&& 255)) 8 1 1)) rfl ?_
            refine mz_ifT h4 ?_
            refine mz_go 2 (c' := (97, [some (.ref 0), some (.long a), none, some (.int b), some (.ref 8), some (.int 1)], [.int 1], mz_up (mz_up (mz_i xs Ln) 9 0 ((((a.toUInt64 >>> ((0 : Int32).toInt64.toUInt64 &&& Int64.toUInt64 63)).toInt64).toInt32) &&& 255)) 8 1 1)) rfl ?_
            exact mz_ret rfl
          · refine mz_go 3 (c' := (4, [some (.ref 65), some (.long a), none, some (.int b), none], [.int 8, .int 1, .int b], mz_up (mz_up (mz_i xs Ln) 9 0 ((((a.toUInt64 >>> ((0 : Int32).toInt64.toUInt64 &&& Int64.toUInt64 63)).toInt64).toInt32) &&& 255)) 8 1 1)) rfl ?_
            refine mz_do (R := mz_r128) (as := [.int b, .int 1, .int 8]) (rest := []) (r1 := some (.int 1)) (m1 := mz_up (mz_up (mz_i xs Ln) 9 0 ((((a.toUInt64 >>> ((0 : Int32).toInt64.toUInt64 &&& Int64.toUInt64 63)).toInt64).toInt32) &&& 255)) 8 1 1) rfl ⟨?_, rfl⟩ ?_
            · refine mz_go 3 (c' := (if b < 1 then 14 else 5, [some (.int b), some (.int 1), some (.int 8)], [], mz_up (mz_up (mz_i xs Ln) 9 0 ((((a.toUInt64 >>> ((0 : Int32).toInt64.toUInt64 &&& Int64.toUInt64 63)).toInt64).toInt32) &&& 255)) 8 1 1)) rfl ?_
              refine mz_ifF h1 ?_
              refine mz_go 3 (c' := (if 8 < b then 14 else 10, [some (.int b), some (.int 1), some (.int 8)], [], mz_up (mz_up (mz_i xs Ln) 9 0 ((((a.toUInt64 >>> ((0 : Int32).toInt64.toUInt64 &&& Int64.toUInt64 63)).toInt64).toInt32) &&& 255)) 8 1 1)) rfl ?_
              refine mz_ifF h2 ?_
              refine mz_go 2 (c' := (15, [some (.int b), some (.int 1), some (.int 8)], [.int 1], mz_up (mz_up (mz_i xs Ln) 9 0 ((((a.toUInt64 >>> ((0 : Int32).toInt64.toUInt64 &&& Int64.toUInt64 63)).toInt64).toInt32) &&& 255)) 8 1 1)) rfl ?_
              exact mz_ret rfl
            refine mz_go 9 (c' := (if (0 + b) ≤ 60 then 35 else 29, [some (.ref 65), some (.long a), none, some (.int b), none], [], mz_up (mz_up (mz_i xs Ln) 9 0 ((((a.toUInt64 >>> ((0 : Int32).toInt64.toUInt64 &&& Int64.toUInt64 63)).toInt64).toInt32) &&& 255)) 8 1 1)) rfl ?_
            refine mz_ifT h3 ?_
            refine mz_go 5 (c' := (if b ≤ 0 then 87 else 44, [some (.ref 65), some (.long a), none, some (.int b), some (.int 0)], [], mz_up (mz_up (mz_i xs Ln) 9 0 ((((a.toUInt64 >>> ((0 : Int32).toInt64.toUInt64 &&& Int64.toUInt64 63)).toInt64).toInt32) &&& 255)) 8 1 1)) rfl ?_
            refine mz_ifF (by have hl : (1 : Int) ≤ (b).toInt := Int32.le_iff_toInt_le.mp (Int32.not_lt.mp h1); have hu : (b).toInt ≤ (1 : Int) := Int32.le_iff_toInt_le.mp h4; exact Int32.not_le.mpr (Int32.lt_iff_toInt_lt.mpr (show (0 : Int) < (b).toInt by omega))) ?_
            refine mz_go 24 (c' := (80, [some (.ref 65), some (.long a), none, some (.int b), some (.int 0)], [.int 1, .int 1, .ref 66], mz_up (mz_up (mz_up (mz_i xs Ln) 9 0 ((((a.toUInt64 >>> ((0 : Int32).toInt64.toUInt64 &&& Int64.toUInt64 63)).toInt64).toInt32) &&& 255)) 8 1 1) 66 550 (((a >>> ((0 : Int32).toInt64 &&& 63)) &&& (Int64.ofNat 255)).toInt32))) rfl ?_
            refine mz_go 6 (c' := (if b ≤ 1 then 87 else 44, [some (.ref 65), some (.long a), none, some (.int b), some (.int 1)], [], mz_up (mz_up (mz_up (mz_up (mz_i xs Ln) 9 0 ((((a.toUInt64 >>> ((0 : Int32).toInt64.toUInt64 &&& Int64.toUInt64 63)).toInt64).toInt32) &&& 255)) 8 1 1) 66 550 (((a >>> ((0 : Int32).toInt64 &&& 63)) &&& (Int64.ofNat 255)).toInt32)) 66 1 1)) rfl ?_
            refine mz_ifT h4 ?_
            refine mz_go 4 (c' := (93, [some (.ref 65), some (.long a), none, some (.int b), some (.int 1)], [.int 1], mz_up (mz_up (mz_up (mz_up (mz_i xs Ln) 9 0 ((((a.toUInt64 >>> ((0 : Int32).toInt64.toUInt64 &&& Int64.toUInt64 63)).toInt64).toInt32) &&& 255)) 8 1 1) 66 550 (((a >>> ((0 : Int32).toInt64 &&& 63)) &&& (Int64.ofNat 255)).toInt32)) 66 1 1)) rfl ?_
            exact mz_ret rfl
        · by_cases h5 : b ≤ 2
          · refine ⟨2, mz_up (mz_up (mz_up (mz_up (mz_i xs Ln) 9 0 ((((a.toUInt64 >>> ((0 : Int32).toInt64.toUInt64 &&& Int64.toUInt64 63)).toInt64).toInt32) &&& 255)) 8 1 1) 9 1 ((((a.toUInt64 >>> ((8 : Int32).toInt64.toUInt64 &&& Int64.toUInt64 63)).toInt64).toInt32) &&& 255)) 8 1 2, mz_up (mz_up (mz_up (mz_up (mz_up (mz_up (mz_up (mz_up (mz_i xs Ln) 9 0 ((((a.toUInt64 >>> ((0 : Int32).toInt64.toUInt64 &&& Int64.toUInt64 63)).toInt64).toInt32) &&& 255)) 8 1 1) 9 1 ((((a.toUInt64 >>> ((8 : Int32).toInt64.toUInt64 &&& Int64.toUInt64 63)).toInt64).toInt32) &&& 255)) 8 1 2) 66 550 (((a >>> ((0 : Int32).toInt64 &&& 63)) &&& (Int64.ofNat 255)).toInt32)) 66 1 1) 66 551 (((a >>> ((8 : Int32).toInt64 &&& 63)) &&& (Int64.ofNat 255)).toInt32)) 66 1 2, ⟨?_, rfl⟩, ⟨?_, rfl⟩⟩
            · refine mz_go 3 (c' := (4, [some (.ref 0), some (.long a), none, some (.int b), none, none], [.int 8, .int 1, .int b], (mz_i xs Ln))) rfl ?_
              refine mz_do (R := mz_r121) (as := [.int b, .int 1, .int 8]) (rest := []) (r1 := some (.int 1)) (m1 := (mz_i xs Ln)) rfl ⟨?_, rfl⟩ ?_
              · refine mz_go 3 (c' := (if b < 1 then 14 else 5, [some (.int b), some (.int 1), some (.int 8)], [], (mz_i xs Ln))) rfl ?_
                refine mz_ifF h1 ?_
                refine mz_go 3 (c' := (if 8 < b then 14 else 10, [some (.int b), some (.int 1), some (.int 8)], [], (mz_i xs Ln))) rfl ?_
                refine mz_ifF h2 ?_
                refine mz_go 2 (c' := (15, [some (.int b), some (.int 1), some (.int 8)], [.int 1], (mz_i xs Ln))) rfl ?_
                exact mz_ret rfl
              refine mz_go 11 (c' := (if (0 + b) ≤ 60 then 43 else 37, [some (.ref 0), some (.long a), none, some (.int b), some (.ref 8), none], [], (mz_i xs Ln))) rfl ?_
              refine mz_ifT h3 ?_
              refine mz_go 5 (c' := (if b ≤ 0 then 92 else 52, [some (.ref 0), some (.long a), none, some (.int b), some (.ref 8), some (.int 0)], [], (mz_i xs Ln))) rfl ?_
              refine mz_ifF (by have hl : (1 : Int) < (b).toInt := Int32.lt_iff_toInt_lt.mp (Int32.not_le.mp h4); have hu : (b).toInt ≤ (2 : Int) := Int32.le_iff_toInt_le.mp h5; exact Int32.not_le.mpr (Int32.lt_iff_toInt_lt.mpr (show (0 : Int) < (b).toInt by omega))) ?_
              refine mz_go 24 (c' := (if b ≤ 1 then 92 else 52, [some (.ref 0), some (.long a), none, some (.int b), some (.ref 8), some (.int 1)], [], mz_up (mz_up (mz_i xs Ln) 9 0 ((((a.toUInt64 >>> ((0 : Int32).toInt64.toUInt64 &&& Int64.toUInt64 63)).toInt64).toInt32) &&& 255)) 8 1 1)) rfl ?_
              refine mz_ifF h4 ?_
              refine mz_go 24 (c' := (if b ≤ 2 then 92 else 52, [some (.ref 0), some (.long a), none, some (.int b), some (.ref 8), some (.int 2)], [], mz_up (mz_up (mz_up (mz_up (mz_i xs Ln) 9 0 ((((a.toUInt64 >>> ((0 : Int32).toInt64.toUInt64 &&& Int64.toUInt64 63)).toInt64).toInt32) &&& 255)) 8 1 1) 9 1 ((((a.toUInt64 >>> ((8 : Int32).toInt64.toUInt64 &&& Int64.toUInt64 63)).toInt64).toInt32) &&& 255)) 8 1 2)) rfl ?_
              refine mz_ifT h5 ?_
              refine mz_go 2 (c' := (97, [some (.ref 0), some (.long a), none, some (.int b), some (.ref 8), some (.int 2)], [.int 2], mz_up (mz_up (mz_up (mz_up (mz_i xs Ln) 9 0 ((((a.toUInt64 >>> ((0 : Int32).toInt64.toUInt64 &&& Int64.toUInt64 63)).toInt64).toInt32) &&& 255)) 8 1 1) 9 1 ((((a.toUInt64 >>> ((8 : Int32).toInt64.toUInt64 &&& Int64.toUInt64 63)).toInt64).toInt32) &&& 255)) 8 1 2)) rfl ?_
              exact mz_ret rfl
            · refine mz_go 3 (c' := (4, [some (.ref 65), some (.long a), none, some (.int b), none], [.int 8, .int 1, .int b], mz_up (mz_up (mz_up (mz_up (mz_i xs Ln) 9 0 ((((a.toUInt64 >>> ((0 : Int32).toInt64.toUInt64 &&& Int64.toUInt64 63)).toInt64).toInt32) &&& 255)) 8 1 1) 9 1 ((((a.toUInt64 >>> ((8 : Int32).toInt64.toUInt64 &&& Int64.toUInt64 63)).toInt64).toInt32) &&& 255)) 8 1 2)) rfl ?_
              refine mz_do (R := mz_r128) (as := [.int b, .int 1, .int 8]) (rest := []) (r1 := some (.int 1)) (m1 := mz_up (mz_up (mz_up (mz_up (mz_i xs Ln) 9 0 ((((a.toUInt64 >>> ((0 : Int32).toInt64.toUInt64 &&& Int64.toUInt64 63)).toInt64).toInt32) &&& 255)) 8 1 1) 9 1 ((((a.toUInt64 >>> ((8 : Int32).toInt64.toUInt64 &&& Int64.toUInt64 63)).toInt64).toInt32) &&& 255)) 8 1 2) rfl ⟨?_, rfl⟩ ?_
              · refine mz_go 3 (c' := (if b < 1 then 14 else 5, [some (.int b), some (.int 1), some (.int 8)], [], mz_up (mz_up (mz_up (mz_up (mz_i xs Ln) 9 0 ((((a.toUInt64 >>> ((0 : Int32).toInt64.toUInt64 &&& Int64.toUInt64 63)).toInt64).toInt32) &&& 255)) 8 1 1) 9 1 ((((a.toUInt64 >>> ((8 : Int32).toInt64.toUInt64 &&& Int64.toUInt64 63)).toInt64).toInt32) &&& 255)) 8 1 2)) rfl ?_
                refine mz_ifF h1 ?_
                refine mz_go 3 (c' := (if 8 < b then 14 else 10, [some (.int b), some (.int 1), some (.int 8)], [], mz_up (mz_up (mz_up (mz_up (mz_i xs Ln) 9 0 ((((a.toUInt64 >>> ((0 : Int32).toInt64.toUInt64 &&& Int64.toUInt64 63)).toInt64).toInt32) &&& 255)) 8 1 1) 9 1 ((((a.toUInt64 >>> ((8 : Int32).toInt64.toUInt64 &&& Int64.toUInt64 63)).toInt64).toInt32) &&& 255)) 8 1 2)) rfl ?_
                refine mz_ifF h2 ?_
                refine mz_go 2 (c' := (15, [some (.int b), some (.int 1), some (.int 8)], [.int 1], mz_up (mz_up (mz_up (mz_up (mz_i xs Ln) 9 0 ((((a.toUInt64 >>> ((0 : Int32).toInt64.toUInt64 &&& Int64.toUInt64 63)).toInt64).toInt32) &&& 255)) 8 1 1) 9 1 ((((a.toUInt64 >>> ((8 : Int32).toInt64.toUInt64 &&& Int64.toUInt64 63)).toInt64).toInt32) &&& 255)) 8 1 2)) rfl ?_
                exact mz_ret rfl
              refine mz_go 9 (c' := (if (0 + b) ≤ 60 then 35 else 29, [some (.ref 65), some (.long a), none, some (.int b), none], [], mz_up (mz_up (mz_up (mz_up (mz_i xs Ln) 9 0 ((((a.toUInt64 >>> ((0 : Int32).toInt64.toUInt64 &&& Int64.toUInt64 63)).toInt64).toInt32) &&& 255)) 8 1 1) 9 1 ((((a.toUInt64 >>> ((8 : Int32).toInt64.toUInt64 &&& Int64.toUInt64 63)).toInt64).toInt32) &&& 255)) 8 1 2)) rfl ?_
              refine mz_ifT h3 ?_
              refine mz_go 5 (c' := (if b ≤ 0 then 87 else 44, [some (.ref 65), some (.long a), none, some (.int b), some (.int 0)], [], mz_up (mz_up (mz_up (mz_up (mz_i xs Ln) 9 0 ((((a.toUInt64 >>> ((0 : Int32).toInt64.toUInt64 &&& Int64.toUInt64 63)).toInt64).toInt32) &&& 255)) 8 1 1) 9 1 ((((a.toUInt64 >>> ((8 : Int32).toInt64.toUInt64 &&& Int64.toUInt64 63)).toInt64).toInt32) &&& 255)) 8 1 2)) rfl ?_
              refine mz_ifF (by have hl : (1 : Int) < (b).toInt := Int32.lt_iff_toInt_lt.mp (Int32.not_le.mp h4); have hu : (b).toInt ≤ (2 : Int) := Int32.le_iff_toInt_le.mp h5; exact Int32.not_le.mpr (Int32.lt_iff_toInt_lt.mpr (show (0 : Int) < (b).toInt by omega))) ?_
              refine mz_go 24 (c' := (80, [some (.ref 65), some (.long a), none, some (.int b), some (.int 0)], [.int 1, .int 1, .ref 66], mz_up (mz_up (mz_up (mz_up (mz_up (mz_i xs Ln) 9 0 ((((a.toUInt64 >>> ((0 : Int32).toInt64.toUInt64 &&& Int64.toUInt64 63)).toInt64).toInt32) &&& 255)) 8 1 1) 9 1 ((((a.toUInt64 >>> ((8 : Int32).toInt64.toUInt64 &&& Int64.toUInt64 63)).toInt64).toInt32) &&& 255)) 8 1 2) 66 550 (((a >>> ((0 : Int32).toInt64 &&& 63)) &&& (Int64.ofNat 255)).toInt32))) rfl ?_
              refine mz_go 6 (c' := (if b ≤ 1 then 87 else 44, [some (.ref 65), some (.long a), none, some (.int b), some (.int 1)], [], mz_up (mz_up (mz_up (mz_up (mz_up (mz_up (mz_i xs Ln) 9 0 ((((a.toUInt64 >>> ((0 : Int32).toInt64.toUInt64 &&& Int64.toUInt64 63)).toInt64).toInt32) &&& 255)) 8 1 1) 9 1 ((((a.toUInt64 >>> ((8 : Int32).toInt64.toUInt64 &&& Int64.toUInt64 63)).toInt64).toInt32) &&& 255)) 8 1 2) 66 550 (((a >>> ((0 : Int32).toInt64 &&& 63)) &&& (Int64.ofNat 255)).toInt32)) 66 1 1)) rfl ?_
              refine mz_ifF h4 ?_
              refine mz_go 24 (c' := (80, [some (.ref 65), some (.long a), none, some (.int b), some (.int 1)], [.int 2, .int 1, .ref 66], mz_up (mz_up (mz_up (mz_up (mz_up (mz_up (mz_up (mz_i xs Ln) 9 0 ((((a.toUInt64 >>> ((0 : Int32).toInt64.toUInt64 &&& Int64.toUInt64 63)).toInt64).toInt32) &&& 255)) 8 1 1) 9 1 ((((a.toUInt64 >>> ((8 : Int32).toInt64.toUInt64 &&& Int64.toUInt64 63)).toInt64).toInt32) &&& 255)) 8 1 2) 66 550 (((a >>> ((0 : Int32).toInt64 &&& 63)) &&& (Int64.ofNat 255)).toInt32)) 66 1 1) 66 551 (((a >>> ((8 : Int32).toInt64 &&& 63)) &&& (Int64.ofNat 255)).toInt32))) rfl ?_
              refine mz_go 6 (c' := (if b ≤ 2 then 87 else 44, [some (.ref 65), some (.long a), none, some (.int b), some (.int 2)], [], mz_up (mz_up (mz_up (mz_up (mz_up (mz_up (mz_up (mz_up (mz_i xs Ln) 9 0 ((((a.toUInt64 >>> ((0 : Int32).toInt64.toUInt64 &&& Int64.toUInt64 63)).toInt64).toInt32) &&& 255)) 8 1 1) 9 1 ((((a.toUInt64 >>> ((8 : Int32).toInt64.toUInt64 &&& Int64.toUInt64 63)).toInt64).toInt32) &&& 255)) 8 1 2) 66 550 (((a >>> ((0 : Int32).toInt64 &&& 63)) &&& (Int64.ofNat 255)).toInt32)) 66 1 1) 66 551 (((a >>> ((8 : Int32).toInt64 &&& 63)) &&& (Int64.ofNat 255)).toInt32)) 66 1 2)) rfl ?_
              refine mz_ifT h5 ?_
              refine mz_go 4 (c' := (93, [some (.ref 65), some (.long a), none, some (.int b), some (.int 2)], [.int 2], mz_up (mz_up (mz_up (mz_up (mz_up (mz_up (mz_up (mz_up (mz_i xs Ln) 9 0 ((((a.toUInt64 >>> ((0 : Int32).toInt64.toUInt64 &&& Int64.toUInt64 63)).toInt64).toInt32) &&& 255)) 8 1 1) 9 1 ((((a.toUInt64 >>> ((8 : Int32).toInt64.toUInt64 &&& Int64.toUInt64 63)).toInt64).toInt32) &&& 255)) 8 1 2) 66 550 (((a >>> ((0 : Int32).toInt64 &&& 63)) &&& (Int64.ofNat 255)).toInt32)) 66 1 1) 66 551 (((a >>> ((8 : Int32).toInt64 &&& 63)) &&& (Int64.ofNat 255)).toInt32)) 66 1 2)) rfl ?_
              exact mz_ret rfl
          · by_cases h6 : b ≤ 3
            · refine ⟨3, mz_up (mz_up (mz_up (mz_up (mz_up (mz_up (mz_i xs Ln) 9 0 ((((a.toUInt64 >>> ((0 : Int32).toInt64.toUInt64 &&& Int64.toUInt64 63)).toInt64).toInt32) &&& 255)) 8 1 1) 9 1 ((((a.toUInt64 >>> ((8 : Int32).toInt64.toUInt64 &&& Int64.toUInt64 63)).toInt64).toInt32) &&& 255)) 8 1 2) 9 2 ((((a.toUInt64 >>> ((16 : Int32).toInt64.toUInt64 &&& Int64.toUInt64 63)).toInt64).toInt32) &&& 255)) 8 1 3, mz_up (mz_up (mz_up (mz_up (mz_up (mz_up (mz_up (mz_up (mz_up (mz_up (mz_up (mz_up (mz_i xs Ln) 9 0 ((((a.toUInt64 >>> ((0 : Int32).toInt64.toUInt64 &&& Int64.toUInt64 63)).toInt64).toInt32) &&& 255)) 8 1 1) 9 1 ((((a.toUInt64 >>> ((8 : Int32).toInt64.toUInt64 &&& Int64.toUInt64 63)).toInt64).toInt32) &&& 255)) 8 1 2) 9 2 ((((a.toUInt64 >>> ((16 : Int32).toInt64.toUInt64 &&& Int64.toUInt64 63)).toInt64).toInt32) &&& 255)) 8 1 3) 66 550 (((a >>> ((0 : Int32).toInt64 &&& 63)) &&& (Int64.ofNat 255)).toInt32)) 66 1 1) 66 551 (((a >>> ((8 : Int32).toInt64 &&& 63)) &&& (Int64.ofNat 255)).toInt32)) 66 1 2) 66 552 (((a >>> ((16 : Int32).toInt64 &&& 63)) &&& (Int64.ofNat 255)).toInt32)) 66 1 3, ⟨?_, rfl⟩, ⟨?_, rfl⟩⟩
              · refine mz_go 3 (c' := (4, [some (.ref 0), some (.long a), none, some (.int b), none, none], [.int 8, .int 1, .int b], (mz_i xs Ln))) rfl ?_
                refine mz_do (R := mz_r121) (as := [.int b, .int 1, .int 8]) (rest := []) (r1 := some (.int 1)) (m1 := (mz_i xs Ln)) rfl ⟨?_, rfl⟩ ?_
                · refine mz_go 3 (c' := (if b < 1 then 14 else 5, [some (.int b), some (.int 1), some (.int 8)], [], (mz_i xs Ln))) rfl ?_
                  refine mz_ifF h1 ?_
                  refine mz_go 3 (c' := (if 8 < b then 14 else 10, [some (.int b), some (.int 1), some (.int 8)], [], (mz_i xs Ln))) rfl ?_
                  refine mz_ifF h2 ?_
                  refine mz_go 2 (c' := (15, [some (.int b), some (.int 1), some (.int 8)], [.int 1], (mz_i xs Ln))) rfl ?_
                  exact mz_ret rfl
                refine mz_go 11 (c' := (if (0 + b) ≤ 60 then 43 else 37, [some (.ref 0), some (.long a), none, some (.int b), some (.ref 8), none], [], (mz_i xs Ln))) rfl ?_
                refine mz_ifT h3 ?_
                refine mz_go 5 (c' := (if b ≤ 0 then 92 else 52, [some (.ref 0), some (.long a), none, some (.int b), some (.ref 8), some (.int 0)], [], (mz_i xs Ln))) rfl ?_
                refine mz_ifF (by have hl : (2 : Int) < (b).toInt := Int32.lt_iff_toInt_lt.mp (Int32.not_le.mp h5); have hu : (b).toInt ≤ (3 : Int) := Int32.le_iff_toInt_le.mp h6; exact Int32.not_le.mpr (Int32.lt_iff_toInt_lt.mpr (show (0 : Int) < (b).toInt by omega))) ?_
                refine mz_go 24 (c' := (if b ≤ 1 then 92 else 52, [some (.ref 0), some (.long a), none, some (.int b), some (.ref 8), some (.int 1)], [], mz_up (mz_up (mz_i xs Ln) 9 0 ((((a.toUInt64 >>> ((0 : Int32).toInt64.toUInt64 &&& Int64.toUInt64 63)).toInt64).toInt32) &&& 255)) 8 1 1)) rfl ?_
                refine mz_ifF h4 ?_
                refine mz_go 24 (c' := (if b ≤ 2 then 92 else 52, [some (.ref 0), some (.long a), none, some (.int b), some (.ref 8), some (.int 2)], [], mz_up (mz_up (mz_up (mz_up (mz_i xs Ln) 9 0 ((((a.toUInt64 >>> ((0 : Int32).toInt64.toUInt64 &&& Int64.toUInt64 63)).toInt64).toInt32) &&& 255)) 8 1 1) 9 1 ((((a.toUInt64 >>> ((8 : Int32).toInt64.toUInt64 &&& Int64.toUInt64 63)).toInt64).toInt32) &&& 255)) 8 1 2)) rfl ?_
                refine mz_ifF h5 ?_
                refine mz_go 24 (c' := (if b ≤ 3 then 92 else 52, [some (.ref 0), some (.long a), none, some (.int b), some (.ref 8), some (.int 3)], [], mz_up (mz_up (mz_up (mz_up (mz_up (mz_up (mz_i xs Ln) 9 0 ((((a.toUInt64 >>> ((0 : Int32).toInt64.toUInt64 &&& Int64.toUInt64 63)).toInt64).toInt32) &&& 255)) 8 1 1) 9 1 ((((a.toUInt64 >>> ((8 : Int32).toInt64.toUInt64 &&& Int64.toUInt64 63)).toInt64).toInt32) &&& 255)) 8 1 2) 9 2 ((((a.toUInt64 >>> ((16 : Int32).toInt64.toUInt64 &&& Int64.toUInt64 63)).toInt64).toInt32) &&& 255)) 8 1 3)) rfl ?_
                refine mz_ifT h6 ?_
                refine mz_go 2 (c' := (97, [some (.ref 0), some (.long a), none, some (.int b), some (.ref 8), some (.int 3)], [.int 3], mz_up (mz_up (mz_up (mz_up (mz_up (mz_up (mz_i xs Ln) 9 0 ((((a.toUInt64 >>> ((0 : Int32).toInt64.toUInt64 &&& Int64.toUInt64 63)).toInt64).toInt32) &&& 255)) 8 1 1) 9 1 ((((a.toUInt64 >>> ((8 : Int32).toInt64.toUInt64 &&& Int64.toUInt64 63)).toInt64).toInt32) &&& 255)) 8 1 2) 9 2 ((((a.toUInt64 >>> ((16 : Int32).toInt64.toUInt64 &&& Int64.toUInt64 63)).toInt64).toInt32) &&& 255)) 8 1 3)) rfl ?_
                exact mz_ret rfl
              · refine mz_go 3 (c' := (4, [some (.ref 65), some (.long a), none, some (.int b), none], [.int 8, .int 1, .int b], mz_up (mz_up (mz_up (mz_up (mz_up (mz_up (mz_i xs Ln) 9 0 ((((a.toUInt64 >>> ((0 : Int32).toInt64.toUInt64 &&& Int64.toUInt64 63)).toInt64).toInt32) &&& 255)) 8 1 1) 9 1 ((((a.toUInt64 >>> ((8 : Int32).toInt64.toUInt64 &&& Int64.toUInt64 63)).toInt64).toInt32) &&& 255)) 8 1 2) 9 2 ((((a.toUInt64 >>> ((16 : Int32).toInt64.toUInt64 &&& Int64.toUInt64 63)).toInt64).toInt32) &&& 255)) 8 1 3)) rfl ?_
                refine mz_do (R := mz_r128) (as := [.int b, .int 1, .int 8]) (rest := []) (r1 := some (.int 1)) (m1 := mz_up (mz_up (mz_up (mz_up (mz_up (mz_up (mz_i xs Ln) 9 0 ((((a.toUInt64 >>> ((0 : Int32).toInt64.toUInt64 &&& Int64.toUInt64 63)).toInt64).toInt32) &&& 255)) 8 1 1) 9 1 ((((a.toUInt64 >>> ((8 : Int32).toInt64.toUInt64 &&& Int64.toUInt64 63)).toInt64).toInt32) &&& 255)) 8 1 2) 9 2 ((((a.toUInt64 >>> ((16 : Int32).toInt64.toUInt64 &&& Int64.toUInt64 63)).toInt64).toInt32) &&& 255)) 8 1 3) rfl ⟨?_, rfl⟩ ?_
                · refine mz_go 3 (c' := (if b < 1 then 14 else 5, [some (.int b), some (.int 1), some (.int 8)], [], mz_up (mz_up (mz_up (mz_up (mz_up (mz_up (mz_i xs Ln) 9 0 ((((a.toUInt64 >>> ((0 : Int32).toInt64.toUInt64 &&& Int64.toUInt64 63)).toInt64).toInt32) &&& 255)) 8 1 1) 9 1 ((((a.toUInt64 >>> ((8 : Int32).toInt64.toUInt64 &&& Int64.toUInt64 63)).toInt64).toInt32) &&& 255)) 8 1 2) 9 2 ((((a.toUInt64 >>> ((16 : Int32).toInt64.toUInt64 &&& Int64.toUInt64 63)).toInt64).toInt32) &&& 255)) 8 1 3)) rfl ?_
                  refine mz_ifF h1 ?_
                  refine mz_go 3 (c' := (if 8 < b then 14 else 10, [some (.int b), some (.int 1), some (.int 8)], [], mz_up (mz_up (mz_up (mz_up (mz_up (mz_up (mz_i xs Ln) 9 0 ((((a.toUInt64 >>> ((0 : Int32).toInt64.toUInt64 &&& Int64.toUInt64 63)).toInt64).toInt32) &&& 255)) 8 1 1) 9 1 ((((a.toUInt64 >>> ((8 : Int32).toInt64.toUInt64 &&& Int64.toUInt64 63)).toInt64).toInt32) &&& 255)) 8 1 2) 9 2 ((((a.toUInt64 >>> ((16 : Int32).toInt64.toUInt64 &&& Int64.toUInt64 63)).toInt64).toInt32) &&& 255)) 8 1 3)) rfl ?_
                  refine mz_ifF h2 ?_
                  refine mz_go 2 (c' := (15, [some (.int b), some (.int 1), some (.int 8)], [.int 1], mz_up (mz_up (mz_up (mz_up (mz_up (mz_up (mz_i xs Ln) 9 0 ((((a.toUInt64 >>> ((0 : Int32).toInt64.toUInt64 &&& Int64.toUInt64 63)).toInt64).toInt32) &&& 255)) 8 1 1) 9 1 ((((a.toUInt64 >>> ((8 : Int32).toInt64.toUInt64 &&& Int64.toUInt64 63)).toInt64).toInt32) &&& 255)) 8 1 2) 9 2 ((((a.toUInt64 >>> ((16 : Int32).toInt64.toUInt64 &&& Int64.toUInt64 63)).toInt64).toInt32) &&& 255)) 8 1 3)) rfl ?_
                  exact mz_ret rfl
                refine mz_go 9 (c' := (if (0 + b) ≤ 60 then 35 else 29, [some (.ref 65), some (.long a), none, some (.int b), none], [], mz_up (mz_up (mz_up (mz_up (mz_up (mz_up (mz_i xs Ln) 9 0 ((((a.toUInt64 >>> ((0 : Int32).toInt64.toUInt64 &&& Int64.toUInt64 63)).toInt64).toInt32) &&& 255)) 8 1 1) 9 1 ((((a.toUInt64 >>> ((8 : Int32).toInt64.toUInt64 &&& Int64.toUInt64 63)).toInt64).toInt32) &&& 255)) 8 1 2) 9 2 ((((a.toUInt64 >>> ((16 : Int32).toInt64.toUInt64 &&& Int64.toUInt64 63)).toInt64).toInt32) &&& 255)) 8 1 3)) rfl ?_
                refine mz_ifT h3 ?_
                refine mz_go 5 (c' := (if b ≤ 0 then 87 else 44, [some (.ref 65), some (.long a), none, some (.int b), some (.int 0)], [], mz_up (mz_up (mz_up (mz_up (mz_up (mz_up (mz_i xs Ln) 9 0 ((((a.toUInt64 >>> ((0 : Int32).toInt64.toUInt64 &&& Int64.toUInt64 63)).toInt64).toInt32) &&& 255)) 8 1 1) 9 1 ((((a.toUInt64 >>> ((8 : Int32).toInt64.toUInt64 &&& Int64.toUInt64 63)).toInt64).toInt32) &&& 255)) 8 1 2) 9 2 ((((a.toUInt64 >>> ((16 : Int32).toInt64.toUInt64 &&& Int64.toUInt64 63)).toInt64).toInt32) &&& 255)) 8 1 3)) rfl ?_
                refine mz_ifF (by have hl : (2 : Int) < (b).toInt := Int32.lt_iff_toInt_lt.mp (Int32.not_le.mp h5); have hu : (b).toInt ≤ (3 : Int) := Int32.le_iff_toInt_le.mp h6; exact Int32.not_le.mpr (Int32.lt_iff_toInt_lt.mpr (show (0 : Int) < (b).toInt by omega))) ?_
                refine mz_go 24 (c' := (80, [some (.ref 65), some (.long a), none, some (.int b), some (.int 0)], [.int 1, .int 1, .ref 66], mz_up (mz_up (mz_up (mz_up (mz_up (mz_up (mz_up (mz_i xs Ln) 9 0 ((((a.toUInt64 >>> ((0 : Int32).toInt64.toUInt64 &&& Int64.toUInt64 63)).toInt64).toInt32) &&& 255)) 8 1 1) 9 1 ((((a.toUInt64 >>> ((8 : Int32).toInt64.toUInt64 &&& Int64.toUInt64 63)).toInt64).toInt32) &&& 255)) 8 1 2) 9 2 ((((a.toUInt64 >>> ((16 : Int32).toInt64.toUInt64 &&& Int64.toUInt64 63)).toInt64).toInt32) &&& 255)) 8 1 3) 66 550 (((a >>> ((0 : Int32).toInt64 &&& 63)) &&& (Int64.ofNat 255)).toInt32))) rfl ?_
                refine mz_go 6 (c' := (if b ≤ 1 then 87 else 44, [some (.ref 65), some (.long a), none, some (.int b), some (.int 1)], [], mz_up (mz_up (mz_up (mz_up (mz_up (mz_up (mz_up (mz_up (mz_i xs Ln) 9 0 ((((a.toUInt64 >>> ((0 : Int32).toInt64.toUInt64 &&& Int64.toUInt64 63)).toInt64).toInt32) &&& 255)) 8 1 1) 9 1 ((((a.toUInt64 >>> ((8 : Int32).toInt64.toUInt64 &&& Int64.toUInt64 63)).toInt64).toInt32) &&& 255)) 8 1 2) 9 2 ((((a.toUInt64 >>> ((16 : Int32).toInt64.toUInt64 &&& Int64.toUInt64 63)).toInt64).toInt32) &&& 255)) 8 1 3) 66 550 (((a >>> ((0 : Int32).toInt64 &&& 63)) &&& (Int64.ofNat 255)).toInt32)) 66 1 1)) rfl ?_
                refine mz_ifF h4 ?_
                refine mz_go 24 (c' := (80, [some (.ref 65), some (.long a), none, some (.int b), some (.int 1)], [.int 2, .int 1, .ref 66], mz_up (mz_up (mz_up (mz_up (mz_up (mz_up (mz_up (mz_up (mz_up (mz_i xs Ln) 9 0 ((((a.toUInt64 >>> ((0 : Int32).toInt64.toUInt64 &&& Int64.toUInt64 63)).toInt64).toInt32) &&& 255)) 8 1 1) 9 1 ((((a.toUInt64 >>> ((8 : Int32).toInt64.toUInt64 &&& Int64.toUInt64 63)).toInt64).toInt32) &&& 255)) 8 1 2) 9 2 ((((a.toUInt64 >>> ((16 : Int32).toInt64.toUInt64 &&& Int64.toUInt64 63)).toInt64).toInt32) &&& 255)) 8 1 3) 66 550 (((a >>> ((0 : Int32).toInt64 &&& 63)) &&& (Int64.ofNat 255)).toInt32)) 66 1 1) 66 551 (((a >>> ((8 : Int32).toInt64 &&& 63)) &&& (Int64.ofNat 255)).toInt32))) rfl ?_
                refine mz_go 6 (c' := (if b ≤ 2 then 87 else 44, [some (.ref 65), some (.long a), none, some (.int b), some (.int 2)], [], mz_up (mz_up (mz_up (mz_up (mz_up (mz_up (mz_up (mz_up (mz_up (mz_up (mz_i xs Ln) 9 0 ((((a.toUInt64 >>> ((0 : Int32).toInt64.toUInt64 &&& Int64.toUInt64 63)).toInt64).toInt32) &&& 255)) 8 1 1) 9 1 ((((a.toUInt64 >>> ((8 : Int32).toInt64.toUInt64 &&& Int64.toUInt64 63)).toInt64).toInt32) &&& 255)) 8 1 2) 9 2 ((((a.toUInt64 >>> ((16 : Int32).toInt64.toUInt64 &&& Int64.toUInt64 63)).toInt64).toInt32) &&& 255)) 8 1 3) 66 550 (((a >>> ((0 : Int32).toInt64 &&& 63)) &&& (Int64.ofNat 255)).toInt32)) 66 1 1) 66 551 (((a >>> ((8 : Int32).toInt64 &&& 63)) &&& (Int64.ofNat 255)).toInt32)) 66 1 2)) rfl ?_
                refine mz_ifF h5 ?_
                refine mz_go 24 (c' := (80, [some (.ref 65), some (.long a), none, some (.int b), some (.int 2)], [.int 3, .int 1, .ref 66], mz_up (mz_up (mz_up (mz_up (mz_up (mz_up (mz_up (mz_up (mz_up (mz_up (mz_up (mz_i xs Ln) 9 0 ((((a.toUInt64 >>> ((0 : Int32).toInt64.toUInt64 &&& Int64.toUInt64 63)).toInt64).toInt32) &&& 255)) 8 1 1) 9 1 ((((a.toUInt64 >>> ((8 : Int32).toInt64.toUInt64 &&& Int64.toUInt64 63)).toInt64).toInt32) &&& 255)) 8 1 2) 9 2 ((((a.toUInt64 >>> ((16 : Int32).toInt64.toUInt64 &&& Int64.toUInt64 63)).toInt64).toInt32) &&& 255)) 8 1 3) 66 550 (((a >>> ((0 : Int32).toInt64 &&& 63)) &&& (Int64.ofNat 255)).toInt32)) 66 1 1) 66 551 (((a >>> ((8 : Int32).toInt64 &&& 63)) &&& (Int64.ofNat 255)).toInt32)) 66 1 2) 66 552 (((a >>> ((16 : Int32).toInt64 &&& 63)) &&& (Int64.ofNat 255)).toInt32))) rfl ?_
                refine mz_go 6 (c' := (if b ≤ 3 then 87 else 44, [some (.ref 65), some (.long a), none, some (.int b), some (.int 3)], [], mz_up (mz_up (mz_up (mz_up (mz_up (mz_up (mz_up (mz_up (mz_up (mz_up (mz_up (mz_up (mz_i xs Ln) 9 0 ((((a.toUInt64 >>> ((0 : Int32).toInt64.toUInt64 &&& Int64.toUInt64 63)).toInt64).toInt32) &&& 255)) 8 1 1) 9 1 ((((a.toUInt64 >>> ((8 : Int32).toInt64.toUInt64 &&& Int64.toUInt64 63)).toInt64).toInt32) &&& 255)) 8 1 2) 9 2 ((((a.toUInt64 >>> ((16 : Int32).toInt64.toUInt64 &&& Int64.toUInt64 63)).toInt64).toInt32) &&& 255)) 8 1 3) 66 550 (((a >>> ((0 : Int32).toInt64 &&& 63)) &&& (Int64.ofNat 255)).toInt32)) 66 1 1) 66 551 (((a >>> ((8 : Int32).toInt64 &&& 63)) &&& (Int64.ofNat 255)).toInt32)) 66 1 2) 66 552 (((a >>> ((16 : Int32).toInt64 &&& 63)) &&& (Int64.ofNat 255)).toInt32)) 66 1 3)) rfl ?_
                refine mz_ifT h6 ?_
                refine mz_go 4 (c' := (93, [some (.ref 65), some (.long a), none, some (.int b), some (.int 3)], [.int 3], mz_up (mz_up (mz_up (mz_up (mz_up (mz_up (mz_up (mz_up (mz_up (mz_up (mz_up (mz_up (mz_i xs Ln) 9 0 ((((a.toUInt64 >>> ((0 : Int32).toInt64.toUInt64 &&& Int64.toUInt64 63)).toInt64).toInt32) &&& 255)) 8 1 1) 9 1 ((((a.toUInt64 >>> ((8 : Int32).toInt64.toUInt64 &&& Int64.toUInt64 63)).toInt64).toInt32) &&& 255)) 8 1 2) 9 2 ((((a.toUInt64 >>> ((16 : Int32).toInt64.toUInt64 &&& Int64.toUInt64 63)).toInt64).toInt32) &&& 255)) 8 1 3) 66 550 (((a >>> ((0 : Int32).toInt64 &&& 63)) &&& (Int64.ofNat 255)).toInt32)) 66 1 1) 66 551 (((a >>> ((8 : Int32).toInt64 &&& 63)) &&& (Int64.ofNat 255)).toInt32)) 66 1 2) 66 552 (((a >>> ((16 : Int32).toInt64 &&& 63)) &&& (Int64.ofNat 255)).toInt32)) 66 1 3)) rfl ?_
                exact mz_ret rfl
            · by_cases h7 : b ≤ 4
              · refine ⟨4, mz_up (mz_up (mz_up (mz_up (mz_up (mz_up (mz_up (mz_up (mz_i xs Ln) 9 0 ((((a.toUInt64 >>> ((0 : Int32).toInt64.toUInt64 &&& Int64.toUInt64 63)).toInt64).toInt32) &&& 255)) 8 1 1) 9 1 ((((a.toUInt64 >>> ((8 : Int32).toInt64.toUInt64 &&& Int64.toUInt64 63)).toInt64).toInt32) &&& 255)) 8 1 2) 9 2 ((((a.toUInt64 >>> ((16 : Int32).toInt64.toUInt64 &&& Int64.toUInt64 63)).toInt64).toInt32) &&& 255)) 8 1 3) 9 3 ((((a.toUInt64 >>> ((24 : Int32).toInt64.toUInt64 &&& Int64.toUInt64 63)).toInt64).toInt32) &&& 255)) 8 1 4, mz_up (mz_up (mz_up (mz_up (mz_up (mz_up (mz_up (mz_up (mz_up (mz_up (mz_up (mz_up (mz_up (mz_up (mz_up (mz_up (mz_i xs Ln) 9 0 ((((a.toUInt64 >>> ((0 : Int32).toInt64.toUInt64 &&& Int64.toUInt64 63)).toInt64).toInt32) &&& 255)) 8 1 1) 9 1 ((((a.toUInt64 >>> ((8 : Int32).toInt64.toUInt64 &&& Int64.toUInt64 63)).toInt64).toInt32) &&& 255)) 8 1 2) 9 2 ((((a.toUInt64 >>> ((16 : Int32).toInt64.toUInt64 &&& Int64.toUInt64 63)).toInt64).toInt32) &&& 255)) 8 1 3) 9 3 ((((a.toUInt64 >>> ((24 : Int32).toInt64.toUInt64 &&& Int64.toUInt64 63)).toInt64).toInt32) &&& 255)) 8 1 4) 66 550 (((a >>> ((0 : Int32).toInt64 &&& 63)) &&& (Int64.ofNat 255)).toInt32)) 66 1 1) 66 551 (((a >>> ((8 : Int32).toInt64 &&& 63)) &&& (Int64.ofNat 255)).toInt32)) 66 1 2) 66 552 (((a >>> ((16 : Int32).toInt64 &&& 63)) &&& (Int64.ofNat 255)).toInt32)) 66 1 3) 66 553 (((a >>> ((24 : Int32).toInt64 &&& 63)) &&& (Int64.ofNat 255)).toInt32)) 66 1 4, ⟨?_, rfl⟩, ⟨?_, rfl⟩⟩
                · refine mz_go 3 (c' := (4, [some (.ref 0), some (.long a), none, some (.int b), none, none], [.int 8, .int 1, .int b], (mz_i xs Ln))) rfl ?_
                  refine mz_do (R := mz_r121) (as := [.int b, .int 1, .int 8]) (rest := []) (r1 := some (.int 1)) (m1 := (mz_i xs Ln)) rfl ⟨?_, rfl⟩ ?_
                  · refine mz_go 3 (c' := (if b < 1 then 14 else 5, [some (.int b), some (.int 1), some (.int 8)], [], (mz_i xs Ln))) rfl ?_
                    refine mz_ifF h1 ?_
                    refine mz_go 3 (c' := (if 8 < b then 14 else 10, [some (.int b), some (.int 1), some (.int 8)], [], (mz_i xs Ln))) rfl ?_
                    refine mz_ifF h2 ?_
                    refine mz_go 2 (c' := (15, [some (.int b), some (.int 1), some (.int 8)], [.int 1], (mz_i xs Ln))) rfl ?_
                    exact mz_ret rfl
                  refine mz_go 11 (c' := (if (0 + b) ≤ 60 then 43 else 37, [some (.ref 0), some (.long a), none, some (.int b), some (.ref 8), none], [], (mz_i xs Ln))) rfl ?_
                  refine mz_ifT h3 ?_
                  refine mz_go 5 (c' := (if b ≤ 0 then 92 else 52, [some (.ref 0), some (.long a), none, some (.int b), some (.ref 8), some (.int 0)], [], (mz_i xs Ln))) rfl ?_
                  refine mz_ifF (by have hl : (3 : Int) < (b).toInt := Int32.lt_iff_toInt_lt.mp (Int32.not_le.mp h6); have hu : (b).toInt ≤ (4 : Int) := Int32.le_iff_toInt_le.mp h7; exact Int32.not_le.mpr (Int32.lt_iff_toInt_lt.mpr (show (0 : Int) < (b).toInt by omega))) ?_
                  refine mz_go 24 (c' := (if b ≤ 1 then 92 else 52, [some (.ref 0), some (.long a), none, some (.int b), some (.ref 8), some (.int 1)], [], mz_up (mz_up (mz_i xs Ln) 9 0 ((((a.toUInt64 >>> ((0 : Int32).toInt64.toUInt64 &&& Int64.toUInt64 63)).toInt64).toInt32) &&& 255)) 8 1 1)) rfl ?_
                  refine mz_ifF h4 ?_
                  refine mz_go 24 (c' := (if b ≤ 2 then 92 else 52, [some (.ref 0), some (.long a), none, some (.int b), some (.ref 8), some (.int 2)], [], mz_up (mz_up (mz_up (mz_up (mz_i xs Ln) 9 0 ((((a.toUInt64 >>> ((0 : Int32).toInt64.toUInt64 &&& Int64.toUInt64 63)).toInt64).toInt32) &&& 255)) 8 1 1) 9 1 ((((a.toUInt64 >>> ((8 : Int32).toInt64.toUInt64 &&& Int64.toUInt64 63)).toInt64).toInt32) &&& 255)) 8 1 2)) rfl ?_
                  refine mz_ifF h5 ?_
                  refine mz_go 24 (c' := (if b ≤ 3 then 92 else 52, [some (.ref 0), some (.long a), none, some (.int b), some (.ref 8), some (.int 3)], [], mz_up (mz_up (mz_up (mz_up (mz_up (mz_up (mz_i xs Ln) 9 0 ((((a.toUInt64 >>> ((0 : Int32).toInt64.toUInt64 &&& Int64.toUInt64 63)).toInt64).toInt32) &&& 255)) 8 1 1) 9 1 ((((a.toUInt64 >>> ((8 : Int32).toInt64.toUInt64 &&& Int64.toUInt64 63)).toInt64).toInt32) &&& 255)) 8 1 2) 9 2 ((((a.toUInt64 >>> ((16 : Int32).toInt64.toUInt64 &&& Int64.toUInt64 63)).toInt64).toInt32) &&& 255)) 8 1 3)) rfl ?_
                  refine mz_ifF h6 ?_
                  refine mz_go 24 (c' := (if b ≤ 4 then 92 else 52, [some (.ref 0), some (.long a), none, some (.int b), some (.ref 8), some (.int 4)], [], mz_up (mz_up (mz_up (mz_up (mz_up (mz_up (mz_up (mz_up (mz_i xs Ln) 9 0 ((((a.toUInt64 >>> ((0 : Int32).toInt64.toUInt64 &&& Int64.toUInt64 63)).toInt64).toInt32) &&& 255)) 8 1 1) 9 1 ((((a.toUInt64 >>> ((8 : Int32).toInt64.toUInt64 &&& Int64.toUInt64 63)).toInt64).toInt32) &&& 255)) 8 1 2) 9 2 ((((a.toUInt64 >>> ((16 : Int32).toInt64.toUInt64 &&& Int64.toUInt64 63)).toInt64).toInt32) &&& 255)) 8 1 3) 9 3 ((((a.toUInt64 >>> ((24 : Int32).toInt64.toUInt64 &&& Int64.toUInt64 63)).toInt64).toInt32) &&& 255)) 8 1 4)) rfl ?_
                  refine mz_ifT h7 ?_
                  refine mz_go 2 (c' := (97, [some (.ref 0), some (.long a), none, some (.int b), some (.ref 8), some (.int 4)], [.int 4], mz_up (mz_up (mz_up (mz_up (mz_up (mz_up (mz_up (mz_up (mz_i xs Ln) 9 0 ((((a.toUInt64 >>> ((0 : Int32).toInt64.toUInt64 &&& Int64.toUInt64 63)).toInt64).toInt32) &&& 255)) 8 1 1) 9 1 ((((a.toUInt64 >>> ((8 : Int32).toInt64.toUInt64 &&& Int64.toUInt64 63)).toInt64).toInt32) &&& 255)) 8 1 2) 9 2 ((((a.toUInt64 >>> ((16 : Int32).toInt64.toUInt64 &&& Int64.toUInt64 63)).toInt64).toInt32) &&& 255)) 8 1 3) 9 3 ((((a.toUInt64 >>> ((24 : Int32).toInt64.toUInt64 &&& Int64.toUInt64 63)).toInt64).toInt32) &&& 255)) 8 1 4)) rfl ?_
                  exact mz_ret rfl
                · refine mz_go 3 (c' := (4, [some (.ref 65), some (.long a), none, some (.int b), none], [.int 8, .int 1, .int b], mz_up (mz_up (mz_up (mz_up (mz_up (mz_up (mz_up (mz_up (mz_i xs Ln) 9 0 ((((a.toUInt64 >>> ((0 : Int32).toInt64.toUInt64 &&& Int64.toUInt64 63)).toInt64).toInt32) &&& 255)) 8 1 1) 9 1 ((((a.toUInt64 >>> ((8 : Int32).toInt64.toUInt64 &&& Int64.toUInt64 63)).toInt64).toInt32) &&& 255)) 8 1 2) 9 2 ((((a.toUInt64 >>> ((16 : Int32).toInt64.toUInt64 &&& Int64.toUInt64 63)).toInt64).toInt32) &&& 255)) 8 1 3) 9 3 ((((a.toUInt64 >>> ((24 : Int32).toInt64.toUInt64 &&& Int64.toUInt64 63)).toInt64).toInt32) &&& 255)) 8 1 4)) rfl ?_
                  refine mz_do (R := mz_r128) (as := [.int b, .int 1, .int 8]) (rest := []) (r1 := some (.int 1)) (m1 := mz_up (mz_up (mz_up (mz_up (mz_up (mz_up (mz_up (mz_up (mz_i xs Ln) 9 0 ((((a.toUInt64 >>> ((0 : Int32).toInt64.toUInt64 &&& Int64.toUInt64 63)).toInt64).toInt32) &&& 255)) 8 1 1) 9 1 ((((a.toUInt64 >>> ((8 : Int32).toInt64.toUInt64 &&& Int64.toUInt64 63)).toInt64).toInt32) &&& 255)) 8 1 2) 9 2 ((((a.toUInt64 >>> ((16 : Int32).toInt64.toUInt64 &&& Int64.toUInt64 63)).toInt64).toInt32) &&& 255)) 8 1 3) 9 3 ((((a.toUInt64 >>> ((24 : Int32).toInt64.toUInt64 &&& Int64.toUInt64 63)).toInt64).toInt32) &&& 255)) 8 1 4) rfl ⟨?_, rfl⟩ ?_
                  · refine mz_go 3 (c' := (if b < 1 then 14 else 5, [some (.int b), some (.int 1), some (.int 8)], [], mz_up (mz_up (mz_up (mz_up (mz_up (mz_up (mz_up (mz_up (mz_i xs Ln) 9 0 ((((a.toUInt64 >>> ((0 : Int32).toInt64.toUInt64 &&& Int64.toUInt64 63)).toInt64).toInt32) &&& 255)) 8 1 1) 9 1 ((((a.toUInt64 >>> ((8 : Int32).toInt64.toUInt64 &&& Int64.toUInt64 63)).toInt64).toInt32) &&& 255)) 8 1 2) 9 2 ((((a.toUInt64 >>> ((16 : Int32).toInt64.toUInt64 &&& Int64.toUInt64 63)).toInt64).toInt32) &&& 255)) 8 1 3) 9 3 ((((a.toUInt64 >>> ((24 : Int32).toInt64.toUInt64 &&& Int64.toUInt64 63)).toInt64).toInt32) &&& 255)) 8 1 4)) rfl ?_
                    refine mz_ifF h1 ?_
                    refine mz_go 3 (c' := (if 8 < b then 14 else 10, [some (.int b), some (.int 1), some (.int 8)], [], mz_up (mz_up (mz_up (mz_up (mz_up (mz_up (mz_up (mz_up (mz_i xs Ln) 9 0 ((((a.toUInt64 >>> ((0 : Int32).toInt64.toUInt64 &&& Int64.toUInt64 63)).toInt64).toInt32) &&& 255)) 8 1 1) 9 1 ((((a.toUInt64 >>> ((8 : Int32).toInt64.toUInt64 &&& Int64.toUInt64 63)).toInt64).toInt32) &&& 255)) 8 1 2) 9 2 ((((a.toUInt64 >>> ((16 : Int32).toInt64.toUInt64 &&& Int64.toUInt64 63)).toInt64).toInt32) &&& 255)) 8 1 3) 9 3 ((((a.toUInt64 >>> ((24 : Int32).toInt64.toUInt64 &&& Int64.toUInt64 63)).toInt64).toInt32) &&& 255)) 8 1 4)) rfl ?_
                    refine mz_ifF h2 ?_
                    refine mz_go 2 (c' := (15, [some (.int b), some (.int 1), some (.int 8)], [.int 1], mz_up (mz_up (mz_up (mz_up (mz_up (mz_up (mz_up (mz_up (mz_i xs Ln) 9 0 ((((a.toUInt64 >>> ((0 : Int32).toInt64.toUInt64 &&& Int64.toUInt64 63)).toInt64).toInt32) &&& 255)) 8 1 1) 9 1 ((((a.toUInt64 >>> ((8 : Int32).toInt64.toUInt64 &&& Int64.toUInt64 63)).toInt64).toInt32) &&& 255)) 8 1 2) 9 2 ((((a.toUInt64 >>> ((16 : Int32).toInt64.toUInt64 &&& Int64.toUInt64 63)).toInt64).toInt32) &&& 255)) 8 1 3) 9 3 ((((a.toUInt64 >>> ((24 : Int32).toInt64.toUInt64 &&& Int64.toUInt64 63)).toInt64).toInt32) &&& 255)) 8 1 4)) rfl ?_
                    exact mz_ret rfl
                  refine mz_go 9 (c' := (if (0 + b) ≤ 60 then 35 else 29, [some (.ref 65), some (.long a), none, some (.int b), none], [], mz_up (mz_up (mz_up (mz_up (mz_up (mz_up (mz_up (mz_up (mz_i xs Ln) 9 0 ((((a.toUInt64 >>> ((0 : Int32).toInt64.toUInt64 &&& Int64.toUInt64 63)).toInt64).toInt32) &&& 255)) 8 1 1) 9 1 ((((a.toUInt64 >>> ((8 : Int32).toInt64.toUInt64 &&& Int64.toUInt64 63)).toInt64).toInt32) &&& 255)) 8 1 2) 9 2 ((((a.toUInt64 >>> ((16 : Int32).toInt64.toUInt64 &&& Int64.toUInt64 63)).toInt64).toInt32) &&& 255)) 8 1 3) 9 3 ((((a.toUInt64 >>> ((24 : Int32).toInt64.toUInt64 &&& Int64.toUInt64 63)).toInt64).toInt32) &&& 255)) 8 1 4)) rfl ?_
                  refine mz_ifT h3 ?_
                  refine mz_go 5 (c' := (if b ≤ 0 then 87 else 44, [some (.ref 65), some (.long a), none, some (.int b), some (.int 0)], [], mz_up (mz_up (mz_up (mz_up (mz_up (mz_up (mz_up (mz_up (mz_i xs Ln) 9 0 ((((a.toUInt64 >>> ((0 : Int32).toInt64.toUInt64 &&& Int64.toUInt64 63)).toInt64).toInt32) &&& 255)) 8 1 1) 9 1 ((((a.toUInt64 >>> ((8 : Int32).toInt64.toUInt64 &&& Int64.toUInt64 63)).toInt64).toInt32) &&& 255)) 8 1 2) 9 2 ((((a.toUInt64 >>> ((16 : Int32).toInt64.toUInt64 &&& Int64.toUInt64 63)).toInt64).toInt32) &&& 255)) 8 1 3) 9 3 ((((a.toUInt64 >>> ((24 : Int32).toInt64.toUInt64 &&& Int64.toUInt64 63)).toInt64).toInt32) &&& 255)) 8 1 4)) rfl ?_
                  refine mz_ifF (by have hl : (3 : Int) < (b).toInt := Int32.lt_iff_toInt_lt.mp (Int32.not_le.mp h6); have hu : (b).toInt ≤ (4 : Int) := Int32.le_iff_toInt_le.mp h7; exact Int32.not_le.mpr (Int32.lt_iff_toInt_lt.mpr (show (0 : Int) < (b).toInt by omega))) ?_
                  refine mz_go 24 (c' := (80, [some (.ref 65), some (.long a), none, some (.int b), some (.int 0)], [.int 1, .int 1, .ref 66], mz_up (mz_up (mz_up (mz_up (mz_up (mz_up (mz_up (mz_up (mz_up (mz_i xs Ln) 9 0 ((((a.toUInt64 >>> ((0 : Int32).toInt64.toUInt64 &&& Int64.toUInt64 63)).toInt64).toInt32) &&& 255)) 8 1 1) 9 1 ((((a.toUInt64 >>> ((8 : Int32).toInt64.toUInt64 &&& Int64.toUInt64 63)).toInt64).toInt32) &&& 255)) 8 1 2) 9 2 ((((a.toUInt64 >>> ((16 : Int32).toInt64.toUInt64 &&& Int64.toUInt64 63)).toInt64).toInt32) &&& 255)) 8 1 3) 9 3 ((((a.toUInt64 >>> ((24 : Int32).toInt64.toUInt64 &&& Int64.toUInt64 63)).toInt64).toInt32) &&& 255)) 8 1 4) 66 550 (((a >>> ((0 : Int32).toInt64 &&& 63)) &&& (Int64.ofNat 255)).toInt32))) rfl ?_
                  refine mz_go 6 (c' := (if b ≤ 1 then 87 else 44, [some (.ref 65), some (.long a), none, some (.int b), some (.int 1)], [], mz_up (mz_up (mz_up (mz_up (mz_up (mz_up (mz_up (mz_up (mz_up (mz_up (mz_i xs Ln) 9 0 ((((a.toUInt64 >>> ((0 : Int32).toInt64.toUInt64 &&& Int64.toUInt64 63)).toInt64).toInt32) &&& 255)) 8 1 1) 9 1 ((((a.toUInt64 >>> ((8 : Int32).toInt64.toUInt64 &&& Int64.toUInt64 63)).toInt64).toInt32) &&& 255)) 8 1 2) 9 2 ((((a.toUInt64 >>> ((16 : Int32).toInt64.toUInt64 &&& Int64.toUInt64 63)).toInt64).toInt32) &&& 255)) 8 1 3) 9 3 ((((a.toUInt64 >>> ((24 : Int32).toInt64.toUInt64 &&& Int64.toUInt64 63)).toInt64).toInt32) &&& 255)) 8 1 4) 66 550 (((a >>> ((0 : Int32).toInt64 &&& 63)) &&& (Int64.ofNat 255)).toInt32)) 66 1 1)) rfl ?_
                  refine mz_ifF h4 ?_
                  refine mz_go 24 (c' := (80, [some (.ref 65), some (.long a), none, some (.int b), some (.int 1)], [.int 2, .int 1, .ref 66], mz_up (mz_up (mz_up (mz_up (mz_up (mz_up (mz_up (mz_up (mz_up (mz_up (mz_up (mz_i xs Ln) 9 0 ((((a.toUInt64 >>> ((0 : Int32).toInt64.toUInt64 &&& Int64.toUInt64 63)).toInt64).toInt32) &&& 255)) 8 1 1) 9 1 ((((a.toUInt64 >>> ((8 : Int32).toInt64.toUInt64 &&& Int64.toUInt64 63)).toInt64).toInt32) &&& 255)) 8 1 2) 9 2 ((((a.toUInt64 >>> ((16 : Int32).toInt64.toUInt64 &&& Int64.toUInt64 63)).toInt64).toInt32) &&& 255)) 8 1 3) 9 3 ((((a.toUInt64 >>> ((24 : Int32).toInt64.toUInt64 &&& Int64.toUInt64 63)).toInt64).toInt32) &&& 255)) 8 1 4) 66 550 (((a >>> ((0 : Int32).toInt64 &&& 63)) &&& (Int64.ofNat 255)).toInt32)) 66 1 1) 66 551 (((a >>> ((8 : Int32).toInt64 &&& 63)) &&& (Int64.ofNat 255)).toInt32))) rfl ?_
                  refine mz_go 6 (c' := (if b ≤ 2 then 87 else 44, [some (.ref 65), some (.long a), none, some (.int b), some (.int 2)], [], mz_up (mz_up (mz_up (mz_up (mz_up (mz_up (mz_up (mz_up (mz_up (mz_up (mz_up (mz_up (mz_i xs Ln) 9 0 ((((a.toUInt64 >>> ((0 : Int32).toInt64.toUInt64 &&& Int64.toUInt64 63)).toInt64).toInt32) &&& 255)) 8 1 1) 9 1 ((((a.toUInt64 >>> ((8 : Int32).toInt64.toUInt64 &&& Int64.toUInt64 63)).toInt64).toInt32) &&& 255)) 8 1 2) 9 2 ((((a.toUInt64 >>> ((16 : Int32).toInt64.toUInt64 &&& Int64.toUInt64 63)).toInt64).toInt32) &&& 255)) 8 1 3) 9 3 ((((a.toUInt64 >>> ((24 : Int32).toInt64.toUInt64 &&& Int64.toUInt64 63)).toInt64).toInt32) &&& 255)) 8 1 4) 66 550 (((a >>> ((0 : Int32).toInt64 &&& 63)) &&& (Int64.ofNat 255)).toInt32)) 66 1 1) 66 551 (((a >>> ((8 : Int32).toInt64 &&& 63)) &&& (Int64.ofNat 255)).toInt32)) 66 1 2)) rfl ?_
                  refine mz_ifF h5 ?_
                  refine mz_go 24 (c' := (80, [some (.ref 65), some (.long a), none, some (.int b), some (.int 2)], [.int 3, .int 1, .ref 66], mz_up (mz_up (mz_up (mz_up (mz_up (mz_up (mz_up (mz_up (mz_up (mz_up (mz_up (mz_up (mz_up (mz_i xs Ln) 9 0 ((((a.toUInt64 >>> ((0 : Int32).toInt64.toUInt64 &&& Int64.toUInt64 63)).toInt64).toInt32) &&& 255)) 8 1 1) 9 1 ((((a.toUInt64 >>> ((8 : Int32).toInt64.toUInt64 &&& Int64.toUInt64 63)).toInt64).toInt32) &&& 255)) 8 1 2) 9 2 ((((a.toUInt64 >>> ((16 : Int32).toInt64.toUInt64 &&& Int64.toUInt64 63)).toInt64).toInt32) &&& 255)) 8 1 3) 9 3 ((((a.toUInt64 >>> ((24 : Int32).toInt64.toUInt64 &&& Int64.toUInt64 63)).toInt64).toInt32) &&& 255)) 8 1 4) 66 550 (((a >>> ((0 : Int32).toInt64 &&& 63)) &&& (Int64.ofNat 255)).toInt32)) 66 1 1) 66 551 (((a >>> ((8 : Int32).toInt64 &&& 63)) &&& (Int64.ofNat 255)).toInt32)) 66 1 2) 66 552 (((a >>> ((16 : Int32).toInt64 &&& 63)) &&& (Int64.ofNat 255)).toInt32))) rfl ?_
                  refine mz_go 6 (c' := (if b ≤ 3 then 87 else 44, [some (.ref 65), some (.long a), none, some (.int b), some (.int 3)], [], mz_up (mz_up (mz_up (mz_up (mz_up (mz_up (mz_up (mz_up (mz_up (mz_up (mz_up (mz_up (mz_up (mz_up (mz_i xs Ln) 9 0 ((((a.toUInt64 >>> ((0 : Int32).toInt64.toUInt64 &&& Int64.toUInt64 63)).toInt64).toInt32) &&& 255)) 8 1 1) 9 1 ((((a.toUInt64 >>> ((8 : Int32).toInt64.toUInt64 &&& Int64.toUInt64 63)).toInt64).toInt32) &&& 255)) 8 1 2) 9 2 ((((a.toUInt64 >>> ((16 : Int32).toInt64.toUInt64 &&& Int64.toUInt64 63)).toInt64).toInt32) &&& 255)) 8 1 3) 9 3 ((((a.toUInt64 >>> ((24 : Int32).toInt64.toUInt64 &&& Int64.toUInt64 63)).toInt64).toInt32) &&& 255)) 8 1 4) 66 550 (((a >>> ((0 : Int32).toInt64 &&& 63)) &&& (Int64.ofNat 255)).toInt32)) 66 1 1) 66 551 (((a >>> ((8 : Int32).toInt64 &&& 63)) &&& (Int64.ofNat 255)).toInt32)) 66 1 2) 66 552 (((a >>> ((16 : Int32).toInt64 &&& 63)) &&& (Int64.ofNat 255)).toInt32)) 66 1 3)) rfl ?_
                  refine mz_ifF h6 ?_
                  refine mz_go 24 (c' := (80, [some (.ref 65), some (.long a), none, some (.int b), some (.int 3)], [.int 4, .int 1, .ref 66], mz_up (mz_up (mz_up (mz_up (mz_up (mz_up (mz_up (mz_up (mz_up (mz_up (mz_up (mz_up (mz_up (mz_up (mz_up (mz_i xs Ln) 9 0 ((((a.toUInt64 >>> ((0 : Int32).toInt64.toUInt64 &&& Int64.toUInt64 63)).toInt64).toInt32) &&& 255)) 8 1 1) 9 1 ((((a.toUInt64 >>> ((8 : Int32).toInt64.toUInt64 &&& Int64.toUInt64 63)).toInt64).toInt32) &&& 255)) 8 1 2) 9 2 ((((a.toUInt64 >>> ((16 : Int32).toInt64.toUInt64 &&& Int64.toUInt64 63)).toInt64).toInt32) &&& 255)) 8 1 3) 9 3 ((((a.toUInt64 >>> ((24 : Int32).toInt64.toUInt64 &&& Int64.toUInt64 63)).toInt64).toInt32) &&& 255)) 8 1 4) 66 550 (((a >>> ((0 : Int32).toInt64 &&& 63)) &&& (Int64.ofNat 255)).toInt32)) 66 1 1) 66 551 (((a >>> ((8 : Int32).toInt64 &&& 63)) &&& (Int64.ofNat 255)).toInt32)) 66 1 2) 66 552 (((a >>> ((16 : Int32).toInt64 &&& 63)) &&& (Int64.ofNat 255)).toInt32)) 66 1 3) 66 553 (((a >>> ((24 : Int32).toInt64 &&& 63)) &&& (Int64.ofNat 255)).toInt32))) rfl ?_
                  refine mz_go 6 (c' := (if b ≤ 4 then 87 else 44, [some (.ref 65), some (.long a), none, some (.int b), some (.int 4)], [], mz_up (mz_up (mz_up (mz_up (mz_up (mz_up (mz_up (mz_up (mz_up (mz_up (mz_up (mz_up (mz_up (mz_up (mz_up (mz_up (mz_i xs Ln) 9 0 ((((a.toUInt64 >>> ((0 : Int32).toInt64.toUInt64 &&& Int64.toUInt64 63)).toInt64).toInt32) &&& 255)) 8 1 1) 9 1 ((((a.toUInt64 >>> ((8 : Int32).toInt64.toUInt64 &&& Int64.toUInt64 63)).toInt64).toInt32) &&& 255)) 8 1 2) 9 2 ((((a.toUInt64 >>> ((16 : Int32).toInt64.toUInt64 &&& Int64.toUInt64 63)).toInt64).toInt32) &&& 255)) 8 1 3) 9 3 ((((a.toUInt64 >>> ((24 : Int32).toInt64.toUInt64 &&& Int64.toUInt64 63)).toInt64).toInt32) &&& 255)) 8 1 4) 66 550 (((a >>> ((0 : Int32).toInt64 &&& 63)) &&& (Int64.ofNat 255)).toInt32)) 66 1 1) 66 551 (((a >>> ((8 : Int32).toInt64 &&& 63)) &&& (Int64.ofNat 255)).toInt32)) 66 1 2) 66 552 (((a >>> ((16 : Int32).toInt64 &&& 63)) &&& (Int64.ofNat 255)).toInt32)) 66 1 3) 66 553 (((a >>> ((24 : Int32).toInt64 &&& 63)) &&& (Int64.ofNat 255)).toInt32)) 66 1 4)) rfl ?_
                  refine mz_ifT h7 ?_
                  refine mz_go 4 (c' := (93, [some (.ref 65), some (.long a), none, some (.int b), some (.int 4)], [.int 4], mz_up (mz_up (mz_up (mz_up (mz_up (mz_up (mz_up (mz_up (mz_up (mz_up (mz_up (mz_up (mz_up (mz_up (mz_up (mz_up (mz_i xs Ln) 9 0 ((((a.toUInt64 >>> ((0 : Int32).toInt64.toUInt64 &&& Int64.toUInt64 63)).toInt64).toInt32) &&& 255)) 8 1 1) 9 1 ((((a.toUInt64 >>> ((8 : Int32).toInt64.toUInt64 &&& Int64.toUInt64 63)).toInt64).toInt32) &&& 255)) 8 1 2) 9 2 ((((a.toUInt64 >>> ((16 : Int32).toInt64.toUInt64 &&& Int64.toUInt64 63)).toInt64).toInt32) &&& 255)) 8 1 3) 9 3 ((((a.toUInt64 >>> ((24 : Int32).toInt64.toUInt64 &&& Int64.toUInt64 63)).toInt64).toInt32) &&& 255)) 8 1 4) 66 550 (((a >>> ((0 : Int32).toInt64 &&& 63)) &&& (Int64.ofNat 255)).toInt32)) 66 1 1) 66 551 (((a >>> ((8 : Int32).toInt64 &&& 63)) &&& (Int64.ofNat 255)).toInt32)) 66 1 2) 66 552 (((a >>> ((16 : Int32).toInt64 &&& 63)) &&& (Int64.ofNat 255)).toInt32)) 66 1 3) 66 553 (((a >>> ((24 : Int32).toInt64 &&& 63)) &&& (Int64.ofNat 255)).toInt32)) 66 1 4)) rfl ?_
                  exact mz_ret rfl
              · by_cases h8 : b ≤ 5
                · refine ⟨5, mz_up (mz_up (mz_up (mz_up (mz_up (mz_up (mz_up (mz_up (mz_up (mz_up (mz_i xs Ln) 9 0 ((((a.toUInt64 >>> ((0 : Int32).toInt64.toUInt64 &&& Int64.toUInt64 63)).toInt64).toInt32) &&& 255)) 8 1 1) 9 1 ((((a.toUInt64 >>> ((8 : Int32).toInt64.toUInt64 &&& Int64.toUInt64 63)).toInt64).toInt32) &&& 255)) 8 1 2) 9 2 ((((a.toUInt64 >>> ((16 : Int32).toInt64.toUInt64 &&& Int64.toUInt64 63)).toInt64).toInt32) &&& 255)) 8 1 3) 9 3 ((((a.toUInt64 >>> ((24 : Int32).toInt64.toUInt64 &&& Int64.toUInt64 63)).toInt64).toInt32) &&& 255)) 8 1 4) 9 4 ((((a.toUInt64 >>> ((32 : Int32).toInt64.toUInt64 &&& Int64.toUInt64 63)).toInt64).toInt32) &&& 255)) 8 1 5, mz_up (mz_up (mz_up (mz_up (mz_up (mz_up (mz_up (mz_up (mz_up (mz_up (mz_up (mz_up (mz_up (mz_up (mz_up (mz_up (mz_up (mz_up (mz_up (mz_up (mz_i xs Ln) 9 0 ((((a.toUInt64 >>> ((0 : Int32).toInt64.toUInt64 &&& Int64.toUInt64 63)).toInt64).toInt32) &&& 255)) 8 1 1) 9 1 ((((a.toUInt64 >>> ((8 : Int32).toInt64.toUInt64 &&& Int64.toUInt64 63)).toInt64).toInt32) &&& 255)) 8 1 2) 9 2 ((((a.toUInt64 >>> ((16 : Int32).toInt64.toUInt64 &&& Int64.toUInt64 63)).toInt64).toInt32) &&& 255)) 8 1 3) 9 3 ((((a.toUInt64 >>> ((24 : Int32).toInt64.toUInt64 &&& Int64.toUInt64 63)).toInt64).toInt32) &&& 255)) 8 1 4) 9 4 ((((a.toUInt64 >>> ((32 : Int32).toInt64.toUInt64 &&& Int64.toUInt64 63)).toInt64).toInt32) &&& 255)) 8 1 5) 66 550 (((a >>> ((0 : Int32).toInt64 &&& 63)) &&& (Int64.ofNat 255)).toInt32)) 66 1 1) 66 551 (((a >>> ((8 : Int32).toInt64 &&& 63)) &&& (Int64.ofNat 255)).toInt32)) 66 1 2) 66 552 (((a >>> ((16 : Int32).toInt64 &&& 63)) &&& (Int64.ofNat 255)).toInt32)) 66 1 3) 66 553 (((a >>> ((24 : Int32).toInt64 &&& 63)) &&& (Int64.ofNat 255)).toInt32)) 66 1 4) 66 554 (((a >>> ((32 : Int32).toInt64 &&& 63)) &&& (Int64.ofNat 255)).toInt32)) 66 1 5, ⟨?_, rfl⟩, ⟨?_, rfl⟩⟩
                  · refine mz_go 3 (c' := (4, [some (.ref 0), some (.long a), none, some (.int b), none, none], [.int 8, .int 1, .int b], (mz_i xs Ln))) rfl ?_
                    refine mz_do (R := mz_r121) (as := [.int b, .int 1, .int 8]) (rest := []) (r1 := some (.int 1)) (m1 := (mz_i xs Ln)) rfl ⟨?_, rfl⟩ ?_
                    · refine mz_go 3 (c' := (if b < 1 then 14 else 5, [some (.int b), some (.int 1), some (.int 8)], [], (mz_i xs Ln))) rfl ?_
                      refine mz_ifF h1 ?_
                      refine mz_go 3 (c' := (if 8 < b then 14 else 10, [some (.int b), some (.int 1), some (.int 8)], [], (mz_i xs Ln))) rfl ?_
                      refine mz_ifF h2 ?_
                      refine mz_go 2 (c' := (15, [some (.int b), some (.int 1), some (.int 8)], [.int 1], (mz_i xs Ln))) rfl ?_
                      exact mz_ret rfl
                    refine mz_go 11 (c' := (if (0 + b) ≤ 60 then 43 else 37, [some (.ref 0), some (.long a), none, some (.int b), some (.ref 8), none], [], (mz_i xs Ln))) rfl ?_
                    refine mz_ifT h3 ?_
                    refine mz_go 5 (c' := (if b ≤ 0 then 92 else 52, [some (.ref 0), some (.long a), none, some (.int b), some (.ref 8), some (.int 0)], [], (mz_i xs Ln))) rfl ?_
                    refine mz_ifF (by have hl : (4 : Int) < (b).toInt := Int32.lt_iff_toInt_lt.mp (Int32.not_le.mp h7); have hu : (b).toInt ≤ (5 : Int) := Int32.le_iff_toInt_le.mp h8; exact Int32.not_le.mpr (Int32.lt_iff_toInt_lt.mpr (show (0 : Int) < (b).toInt by omega))) ?_
                    refine mz_go 24 (c' := (if b ≤ 1 then 92 else 52, [some (.ref 0), some (.long a), none, some (.int b), some (.ref 8), some (.int 1)], [], mz_up (mz_up (mz_i xs Ln) 9 0 ((((a.toUInt64 >>> ((0 : Int32).toInt64.toUInt64 &&& Int64.toUInt64 63)).toInt64).toInt32) &&& 255)) 8 1 1)) rfl ?_
                    refine mz_ifF h4 ?_
                    refine mz_go 24 (c' := (if b ≤ 2 then 92 else 52, [some (.ref 0), some (.long a), none, some (.int b), some (.ref 8), some (.int 2)], [], mz_up (mz_up (mz_up (mz_up (mz_i xs Ln) 9 0 ((((a.toUInt64 >>> ((0 : Int32).toInt64.toUInt64 &&& Int64.toUInt64 63)).toInt64).toInt32) &&& 255)) 8 1 1) 9 1 ((((a.toUInt64 >>> ((8 : Int32).toInt64.toUInt64 &&& Int64.toUInt64 63)).toInt64).toInt32) &&& 255)) 8 1 2)) rfl ?_
                    refine mz_ifF h5 ?_
                    refine mz_go 24 (c' := (if b ≤ 3 then 92 else 52, [some (.ref 0), some (.long a), none, some (.int b), some (.ref 8), some (.int 3)], [], mz_up (mz_up (mz_up (mz_up (mz_up (mz_up (mz_i xs Ln) 9 0 ((((a.toUInt64 >>> ((0 : Int32).toInt64.toUInt64 &&& Int64.toUInt64 63)).toInt64).toInt32) &&& 255)) 8 1 1) 9 1 ((((a.toUInt64 >>> ((8 : Int32).toInt64.toUInt64 &&& Int64.toUInt64 63)).toInt64).toInt32) &&& 255)) 8 1 2) 9 2 ((((a.toUInt64 >>> ((16 : Int32).toInt64.toUInt64 &&& Int64.toUInt64 63)).toInt64).toInt32) &&& 255)) 8 1 3)) rfl ?_
                    refine mz_ifF h6 ?_
                    refine mz_go 24 (c' := (if b ≤ 4 then 92 else 52, [some (.ref 0), some (.long a), none, some (.int b), some (.ref 8), some (.int 4)], [], mz_up (mz_up (mz_up (mz_up (mz_up (mz_up (mz_up (mz_up (mz_i xs Ln) 9 0 ((((a.toUInt64 >>> ((0 : Int32).toInt64.toUInt64 &&& Int64.toUInt64 63)).toInt64).toInt32) &&& 255)) 8 1 1) 9 1 ((((a.toUInt64 >>> ((8 : Int32).toInt64.toUInt64 &&& Int64.toUInt64 63)).toInt64).toInt32) &&& 255)) 8 1 2) 9 2 ((((a.toUInt64 >>> ((16 : Int32).toInt64.toUInt64 &&& Int64.toUInt64 63)).toInt64).toInt32) &&& 255)) 8 1 3) 9 3 ((((a.toUInt64 >>> ((24 : Int32).toInt64.toUInt64 &&& Int64.toUInt64 63)).toInt64).toInt32) &&& 255)) 8 1 4)) rfl ?_
                    refine mz_ifF h7 ?_
                    refine mz_go 24 (c' := (if b ≤ 5 then 92 else 52, [some (.ref 0), some (.long a), none, some (.int b), some (.ref 8), some (.int 5)], [], mz_up (mz_up (mz_up (mz_up (mz_up (mz_up (mz_up (mz_up (mz_up (mz_up (mz_i xs Ln) 9 0 ((((a.toUInt64 >>> ((0 : Int32).toInt64.toUInt64 &&& Int64.toUInt64 63)).toInt64).toInt32) &&& 255)) 8 1 1) 9 1 ((((a.toUInt64 >>> ((8 : Int32).toInt64.toUInt64 &&& Int64.toUInt64 63)).toInt64).toInt32) &&& 255)) 8 1 2) 9 2 ((((a.toUInt64 >>> ((16 : Int32).toInt64.toUInt64 &&& Int64.toUInt64 63)).toInt64).toInt32) &&& 255)) 8 1 3) 9 3 ((((a.toUInt64 >>> ((24 : Int32).toInt64.toUInt64 &&& Int64.toUInt64 63)).toInt64).toInt32) &&& 255)) 8 1 4) 9 4 ((((a.toUInt64 >>> ((32 : Int32).toInt64.toUInt64 &&& Int64.toUInt64 63)).toInt64).toInt32) &&& 255)) 8 1 5)) rfl ?_
                    refine mz_ifT h8 ?_
                    refine mz_go 2 (c' := (97, [some (.ref 0), some (.long a), none, some (.int b), some (.ref 8), some (.int 5)], [.int 5], mz_up (mz_up (mz_up (mz_up (mz_up (mz_up (mz_up (mz_up (mz_up (mz_up (mz_i xs Ln) 9 0 ((((a.toUInt64 >>> ((0 : Int32).toInt64.toUInt64 &&& Int64.toUInt64 63)).toInt64).toInt32) &&& 255)) 8 1 1) 9 1 ((((a.toUInt64 >>> ((8 : Int32).toInt64.toUInt64 &&& Int64.toUInt64 63)).toInt64).toInt32) &&& 255)) 8 1 2) 9 2 ((((a.toUInt64 >>> ((16 : Int32).toInt64.toUInt64 &&& Int64.toUInt64 63)).toInt64).toInt32) &&& 255)) 8 1 3) 9 3 ((((a.toUInt64 >>> ((24 : Int32).toInt64.toUInt64 &&& Int64.toUInt64 63)).toInt64).toInt32) &&& 255)) 8 1 4) 9 4 ((((a.toUInt64 >>> ((32 : Int32).toInt64.toUInt64 &&& Int64.toUInt64 63)).toInt64).toInt32) &&& 255)) 8 1 5)) rfl ?_
                    exact mz_ret rfl
                  · refine mz_go 3 (c' := (4, [some (.ref 65), some (.long a), none, some (.int b), none], [.int 8, .int 1, .int b], mz_up (mz_up (mz_up (mz_up (mz_up (mz_up (mz_up (mz_up (mz_up (mz_up (mz_i xs Ln) 9 0 ((((a.toUInt64 >>> ((0 : Int32).toInt64.toUInt64 &&& Int64.toUInt64 63)).toInt64).toInt32) &&& 255)) 8 1 1) 9 1 ((((a.toUInt64 >>> ((8 : Int32).toInt64.toUInt64 &&& Int64.toUInt64 63)).toInt64).toInt32) &&& 255)) 8 1 2) 9 2 ((((a.toUInt64 >>> ((16 : Int32).toInt64.toUInt64 &&& Int64.toUInt64 63)).toInt64).toInt32) &&& 255)) 8 1 3) 9 3 ((((a.toUInt64 >>> ((24 : Int32).toInt64.toUInt64 &&& Int64.toUInt64 63)).toInt64).toInt32) &&& 255)) 8 1 4) 9 4 ((((a.toUInt64 >>> ((32 : Int32).toInt64.toUInt64 &&& Int64.toUInt64 63)).toInt64).toInt32) &&& 255)) 8 1 5)) rfl ?_
                    refine mz_do (R := mz_r128) (as := [.int b, .int 1, .int 8]) (rest := []) (r1 := some (.int 1)) (m1 := mz_up (mz_up (mz_up (mz_up (mz_up (mz_up (mz_up (mz_up (mz_up (mz_up (mz_i xs Ln) 9 0 ((((a.toUInt64 >>> ((0 : Int32).toInt64.toUInt64 &&& Int64.toUInt64 63)).toInt64).toInt32) &&& 255)) 8 1 1) 9 1 ((((a.toUInt64 >>> ((8 : Int32).toInt64.toUInt64 &&& Int64.toUInt64 63)).toInt64).toInt32) &&& 255)) 8 1 2) 9 2 ((((a.toUInt64 >>> ((16 : Int32).toInt64.toUInt64 &&& Int64.toUInt64 63)).toInt64).toInt32) &&& 255)) 8 1 3) 9 3 ((((a.toUInt64 >>> ((24 : Int32).toInt64.toUInt64 &&& Int64.toUInt64 63)).toInt64).toInt32) &&& 255)) 8 1 4) 9 4 ((((a.toUInt64 >>> ((32 : Int32).toInt64.toUInt64 &&& Int64.toUInt64 63)).toInt64).toInt32) &&& 255)) 8 1 5) rfl ⟨?_, rfl⟩ ?_
                    · refine mz_go 3 (c' := (if b < 1 then 14 else 5, [some (.int b), some (.int 1), some (.int 8)], [], mz_up (mz_up (mz_up (mz_up (mz_up (mz_up (mz_up (mz_up (mz_up (mz_up (mz_i xs Ln) 9 0 ((((a.toUInt64 >>> ((0 : Int32).toInt64.toUInt64 &&& Int64.toUInt64 63)).toInt64).toInt32) &&& 255)) 8 1 1) 9 1 ((((a.toUInt64 >>> ((8 : Int32).toInt64.toUInt64 &&& Int64.toUInt64 63)).toInt64).toInt32) &&& 255)) 8 1 2) 9 2 ((((a.toUInt64 >>> ((16 : Int32).toInt64.toUInt64 &&& Int64.toUInt64 63)).toInt64).toInt32) &&& 255)) 8 1 3) 9 3 ((((a.toUInt64 >>> ((24 : Int32).toInt64.toUInt64 &&& Int64.toUInt64 63)).toInt64).toInt32) &&& 255)) 8 1 4) 9 4 ((((a.toUInt64 >>> ((32 : Int32).toInt64.toUInt64 &&& Int64.toUInt64 63)).toInt64).toInt32) &&& 255)) 8 1 5)) rfl ?_
                      refine mz_ifF h1 ?_
                      refine mz_go 3 (c' := (if 8 < b then 14 else 10, [some (.int b), some (.int 1), some (.int 8)], [], mz_up (mz_up (mz_up (mz_up (mz_up (mz_up (mz_up (mz_up (mz_up (mz_up (mz_i xs Ln) 9 0 ((((a.toUInt64 >>> ((0 : Int32).toInt64.toUInt64 &&& Int64.toUInt64 63)).toInt64).toInt32) &&& 255)) 8 1 1) 9 1 ((((a.toUInt64 >>> ((8 : Int32).toInt64.toUInt64 &&& Int64.toUInt64 63)).toInt64).toInt32) &&& 255)) 8 1 2) 9 2 ((((a.toUInt64 >>> ((16 : Int32).toInt64.toUInt64 &&& Int64.toUInt64 63)).toInt64).toInt32) &&& 255)) 8 1 3) 9 3 ((((a.toUInt64 >>> ((24 : Int32).toInt64.toUInt64 &&& Int64.toUInt64 63)).toInt64).toInt32) &&& 255)) 8 1 4) 9 4 ((((a.toUInt64 >>> ((32 : Int32).toInt64.toUInt64 &&& Int64.toUInt64 63)).toInt64).toInt32) &&& 255)) 8 1 5)) rfl ?_
                      refine mz_ifF h2 ?_
                      refine mz_go 2 (c' := (15, [some (.int b), some (.int 1), some (.int 8)], [.int 1], mz_up (mz_up (mz_up (mz_up (mz_up (mz_up (mz_up (mz_up (mz_up (mz_up (mz_i xs Ln) 9 0 ((((a.toUInt64 >>> ((0 : Int32).toInt64.toUInt64 &&& Int64.toUInt64 63)).toInt64).toInt32) &&& 255)) 8 1 1) 9 1 ((((a.toUInt64 >>> ((8 : Int32).toInt64.toUInt64 &&& Int64.toUInt64 63)).toInt64).toInt32) &&& 255)) 8 1 2) 9 2 ((((a.toUInt64 >>> ((16 : Int32).toInt64.toUInt64 &&& Int64.toUInt64 63)).toInt64).toInt32) &&& 255)) 8 1 3) 9 3 ((((a.toUInt64 >>> ((24 : Int32).toInt64.toUInt64 &&& Int64.toUInt64 63)).toInt64).toInt32) &&& 255)) 8 1 4) 9 4 ((((a.toUInt64 >>> ((32 : Int32).toInt64.toUInt64 &&& Int64.toUInt64 63)).toInt64).toInt32) &&& 255)) 8 1 5)) rfl ?_
                      exact mz_ret rfl
                    refine mz_go 9 (c' := (if (0 + b) ≤ 60 then 35 else 29, [some (.ref 65), some (.long a), none, some (.int b), none], [], mz_up (mz_up (mz_up (mz_up (mz_up (mz_up (mz_up (mz_up (mz_up (mz_up (mz_i xs Ln) 9 0 ((((a.toUInt64 >>> ((0 : Int32).toInt64.toUInt64 &&& Int64.toUInt64 63)).toInt64).toInt32) &&& 255)) 8 1 1) 9 1 ((((a.toUInt64 >>> ((8 : Int32).toInt64.toUInt64 &&& Int64.toUInt64 63)).toInt64).toInt32) &&& 255)) 8 1 2) 9 2 ((((a.toUInt64 >>> ((16 : Int32).toInt64.toUInt64 &&& Int64.toUInt64 63)).toInt64).toInt32) &&& 255)) 8 1 3) 9 3 ((((a.toUInt64 >>> ((24 : Int32).toInt64.toUInt64 &&& Int64.toUInt64 63)).toInt64).toInt32) &&& 255)) 8 1 4) 9 4 ((((a.toUInt64 >>> ((32 : Int32).toInt64.toUInt64 &&& Int64.toUInt64 63)).toInt64).toInt32) &&& 255)) 8 1 5)) rfl ?_
                    refine mz_ifT h3 ?_
                    refine mz_go 5 (c' := (if b ≤ 0 then 87 else 44, [some (.ref 65), some (.long a), none, some (.int b), some (.int 0)], [], mz_up (mz_up (mz_up (mz_up (mz_up (mz_up (mz_up (mz_up (mz_up (mz_up (mz_i xs Ln) 9 0 ((((a.toUInt64 >>> ((0 : Int32).toInt64.toUInt64 &&& Int64.toUInt64 63)).toInt64).toInt32) &&& 255)) 8 1 1) 9 1 ((((a.toUInt64 >>> ((8 : Int32).toInt64.toUInt64 &&& Int64.toUInt64 63)).toInt64).toInt32) &&& 255)) 8 1 2) 9 2 ((((a.toUInt64 >>> ((16 : Int32).toInt64.toUInt64 &&& Int64.toUInt64 63)).toInt64).toInt32) &&& 255)) 8 1 3) 9 3 ((((a.toUInt64 >>> ((24 : Int32).toInt64.toUInt64 &&& Int64.toUInt64 63)).toInt64).toInt32) &&& 255)) 8 1 4) 9 4 ((((a.toUInt64 >>> ((32 : Int32).toInt64.toUInt64 &&& Int64.toUInt64 63)).toInt64).toInt32) &&& 255)) 8 1 5)) rfl ?_
                    refine mz_ifF (by have hl : (4 : Int) < (b).toInt := Int32.lt_iff_toInt_lt.mp (Int32.not_le.mp h7); have hu : (b).toInt ≤ (5 : Int) := Int32.le_iff_toInt_le.mp h8; exact Int32.not_le.mpr (Int32.lt_iff_toInt_lt.mpr (show (0 : Int) < (b).toInt by omega))) ?_
                    refine mz_go 24 (c' := (80, [some (.ref 65), some (.long a), none, some (.int b), some (.int 0)], [.int 1, .int 1, .ref 66], mz_up (mz_up (mz_up (mz_up (mz_up (mz_up (mz_up (mz_up (mz_up (mz_up (mz_up (mz_i xs Ln) 9 0 ((((a.toUInt64 >>> ((0 : Int32).toInt64.toUInt64 &&& Int64.toUInt64 63)).toInt64).toInt32) &&& 255)) 8 1 1) 9 1 ((((a.toUInt64 >>> ((8 : Int32).toInt64.toUInt64 &&& Int64.toUInt64 63)).toInt64).toInt32) &&& 255)) 8 1 2) 9 2 ((((a.toUInt64 >>> ((16 : Int32).toInt64.toUInt64 &&& Int64.toUInt64 63)).toInt64).toInt32) &&& 255)) 8 1 3) 9 3 ((((a.toUInt64 >>> ((24 : Int32).toInt64.toUInt64 &&& Int64.toUInt64 63)).toInt64).toInt32) &&& 255)) 8 1 4) 9 4 ((((a.toUInt64 >>> ((32 : Int32).toInt64.toUInt64 &&& Int64.toUInt64 63)).toInt64).toInt32) &&& 255)) 8 1 5) 66 550 (((a >>> ((0 : Int32).toInt64 &&& 63)) &&& (Int64.ofNat 255)).toInt32))) rfl ?_
                    refine mz_go 6 (c' := (if b ≤ 1 then 87 else 44, [some (.ref 65), some (.long a), none, some (.int b), some (.int 1)], [], mz_up (mz_up (mz_up (mz_up (mz_up (mz_up (mz_up (mz_up (mz_up (mz_up (mz_up (mz_up (mz_i xs Ln) 9 0 ((((a.toUInt64 >>> ((0 : Int32).toInt64.toUInt64 &&& Int64.toUInt64 63)).toInt64).toInt32) &&& 255)) 8 1 1) 9 1 ((((a.toUInt64 >>> ((8 : Int32).toInt64.toUInt64 &&& Int64.toUInt64 63)).toInt64).toInt32) &&& 255)) 8 1 2) 9 2 ((((a.toUInt64 >>> ((16 : Int32).toInt64.toUInt64 &&& Int64.toUInt64 63)).toInt64).toInt32) &&& 255)) 8 1 3) 9 3 ((((a.toUInt64 >>> ((24 : Int32).toInt64.toUInt64 &&& Int64.toUInt64 63)).toInt64).toInt32) &&& 255)) 8 1 4) 9 4 ((((a.toUInt64 >>> ((32 : Int32).toInt64.toUInt64 &&& Int64.toUInt64 63)).toInt64).toInt32) &&& 255)) 8 1 5) 66 550 (((a >>> ((0 : Int32).toInt64 &&& 63)) &&& (Int64.ofNat 255)).toInt32)) 66 1 1)) rfl ?_
                    refine mz_ifF h4 ?_
                    refine mz_go 24 (c' := (80, [some (.ref 65), some (.long a), none, some (.int b), some (.int 1)], [.int 2, .int 1, .ref 66], mz_up (mz_up (mz_up (mz_up (mz_up (mz_up (mz_up (mz_up (mz_up (mz_up (mz_up (mz_up (mz_up (mz_i xs Ln) 9 0 ((((a.toUInt64 >>> ((0 : Int32).toInt64.toUInt64 &&& Int64.toUInt64 63)).toInt64).toInt32) &&& 255)) 8 1 1) 9 1 ((((a.toUInt64 >>> ((8 : Int32).toInt64.toUInt64 &&& Int64.toUInt64 63)).toInt64).toInt32) &&& 255)) 8 1 2) 9 2 ((((a.toUInt64 >>> ((16 : Int32).toInt64.toUInt64 &&& Int64.toUInt64 63)).toInt64).toInt32) &&& 255)) 8 1 3) 9 3 ((((a.toUInt64 >>> ((24 : Int32).toInt64.toUInt64 &&& Int64.toUInt64 63)).toInt64).toInt32) &&& 255)) 8 1 4) 9 4 ((((a.toUInt64 >>> ((32 : Int32).toInt64.toUInt64 &&& Int64.toUInt64 63)).toInt64).toInt32) &&& 255)) 8 1 5) 66 550 (((a >>> ((0 : Int32).toInt64 &&& 63)) &&& (Int64.ofNat 255)).toInt32)) 66 1 1) 66 551 (((a >>> ((8 : Int32).toInt64 &&& 63)) &&& (Int64.ofNat 255)).toInt32))) rfl ?_
                    refine mz_go 6 (c' := (if b ≤ 2 then 87 else 44, [some (.ref 65), some (.long a), none, some (.int b), some (.int 2)], [], mz_up (mz_up (mz_up (mz_up (mz_up (mz_up (mz_up (mz_up (mz_up (mz_up (mz_up (mz_up (mz_up (mz_up (mz_i xs Ln) 9 0 ((((a.toUInt64 >>> ((0 : Int32).toInt64.toUInt64 &&& Int64.toUInt64 63)).toInt64).toInt32) &&& 255)) 8 1 1) 9 1 ((((a.toUInt64 >>> ((8 : Int32).toInt64.toUInt64 &&& Int64.toUInt64 63)).toInt64).toInt32) &&& 255)) 8 1 2) 9 2 ((((a.toUInt64 >>> ((16 : Int32).toInt64.toUInt64 &&& Int64.toUInt64 63)).toInt64).toInt32) &&& 255)) 8 1 3) 9 3 ((((a.toUInt64 >>> ((24 : Int32).toInt64.toUInt64 &&& Int64.toUInt64 63)).toInt64).toInt32) &&& 255)) 8 1 4) 9 4 ((((a.toUInt64 >>> ((32 : Int32).toInt64.toUInt64 &&& Int64.toUInt64 63)).toInt64).toInt32) &&& 255)) 8 1 5) 66 550 (((a >>> ((0 : Int32).toInt64 &&& 63)) &&& (Int64.ofNat 255)).toInt32)) 66 1 1) 66 551 (((a >>> ((8 : Int32).toInt64 &&& 63)) &&& (Int64.ofNat 255)).toInt32)) 66 1 2)) rfl ?_
                    refine mz_ifF h5 ?_
                    refine mz_go 24 (c' := (80, [some (.ref 65), some (.long a), none, some (.int b), some (.int 2)], [.int 3, .int 1, .ref 66], mz_up (mz_up (mz_up (mz_up (mz_up (mz_up (mz_up (mz_up (mz_up (mz_up (mz_up (mz_up (mz_up (mz_up (mz_up (mz_i xs Ln) 9 0 ((((a.toUInt64 >>> ((0 : Int32).toInt64.toUInt64 &&& Int64.toUInt64 63)).toInt64).toInt32) &&& 255)) 8 1 1) 9 1 ((((a.toUInt64 >>> ((8 : Int32).toInt64.toUInt64 &&& Int64.toUInt64 63)).toInt64).toInt32) &&& 255)) 8 1 2) 9 2 ((((a.toUInt64 >>> ((16 : Int32).toInt64.toUInt64 &&& Int64.toUInt64 63)).toInt64).toInt32) &&& 255)) 8 1 3) 9 3 ((((a.toUInt64 >>> ((24 : Int32).toInt64.toUInt64 &&& Int64.toUInt64 63)).toInt64).toInt32) &&& 255)) 8 1 4) 9 4 ((((a.toUInt64 >>> ((32 : Int32).toInt64.toUInt64 &&& Int64.toUInt64 63)).toInt64).toInt32) &&& 255)) 8 1 5) 66 550 (((a >>> ((0 : Int32).toInt64 &&& 63)) &&& (Int64.ofNat 255)).toInt32)) 66 1 1) 66 551 (((a >>> ((8 : Int32).toInt64 &&& 63)) &&& (Int64.ofNat 255)).toInt32)) 66 1 2) 66 552 (((a >>> ((16 : Int32).toInt64 &&& 63)) &&& (Int64.ofNat 255)).toInt32))) rfl ?_
                    refine mz_go 6 (c' := (if b ≤ 3 then 87 else 44, [some (.ref 65), some (.long a), none, some (.int b), some (.int 3)], [], mz_up (mz_up (mz_up (mz_up (mz_up (mz_up (mz_up (mz_up (mz_up (mz_up (mz_up (mz_up (mz_up (mz_up (mz_up (mz_up (mz_i xs Ln) 9 0 ((((a.toUInt64 >>> ((0 : Int32).toInt64.toUInt64 &&& Int64.toUInt64 63)).toInt64).toInt32) &&& 255)) 8 1 1) 9 1 ((((a.toUInt64 >>> ((8 : Int32).toInt64.toUInt64 &&& Int64.toUInt64 63)).toInt64).toInt32) &&& 255)) 8 1 2) 9 2 ((((a.toUInt64 >>> ((16 : Int32).toInt64.toUInt64 &&& Int64.toUInt64 63)).toInt64).toInt32) &&& 255)) 8 1 3) 9 3 ((((a.toUInt64 >>> ((24 : Int32).toInt64.toUInt64 &&& Int64.toUInt64 63)).toInt64).toInt32) &&& 255)) 8 1 4) 9 4 ((((a.toUInt64 >>> ((32 : Int32).toInt64.toUInt64 &&& Int64.toUInt64 63)).toInt64).toInt32) &&& 255)) 8 1 5) 66 550 (((a >>> ((0 : Int32).toInt64 &&& 63)) &&& (Int64.ofNat 255)).toInt32)) 66 1 1) 66 551 (((a >>> ((8 : Int32).toInt64 &&& 63)) &&& (Int64.ofNat 255)).toInt32)) 66 1 2) 66 552 (((a >>> ((16 : Int32).toInt64 &&& 63)) &&& (Int64.ofNat 255)).toInt32)) 66 1 3)) rfl ?_
                    refine mz_ifF h6 ?_
                    refine mz_go 24 (c' := (80, [some (.ref 65), some (.long a), none, some (.int b), some (.int 3)], [.int 4, .int 1, .ref 66], mz_up (mz_up (mz_up (mz_up (mz_up (mz_up (mz_up (mz_up (mz_up (mz_up (mz_up (mz_up (mz_up (mz_up (mz_up (mz_up (mz_up (mz_i xs Ln) 9 0 ((((a.toUInt64 >>> ((0 : Int32).toInt64.toUInt64 &&& Int64.toUInt64 63)).toInt64).toInt32) &&& 255)) 8 1 1) 9 1 ((((a.toUInt64 >>> ((8 : Int32).toInt64.toUInt64 &&& Int64.toUInt64 63)).toInt64).toInt32) &&& 255)) 8 1 2) 9 2 ((((a.toUInt64 >>> ((16 : Int32).toInt64.toUInt64 &&& Int64.toUInt64 63)).toInt64).toInt32) &&& 255)) 8 1 3) 9 3 ((((a.toUInt64 >>> ((24 : Int32).toInt64.toUInt64 &&& Int64.toUInt64 63)).toInt64).toInt32) &&& 255)) 8 1 4) 9 4 ((((a.toUInt64 >>> ((32 : Int32).toInt64.toUInt64 &&& Int64.toUInt64 63)).toInt64).toInt32) &&& 255)) 8 1 5) 66 550 (((a >>> ((0 : Int32).toInt64 &&& 63)) &&& (Int64.ofNat 255)).toInt32)) 66 1 1) 66 551 (((a >>> ((8 : Int32).toInt64 &&& 63)) &&& (Int64.ofNat 255)).toInt32)) 66 1 2) 66 552 (((a >>> ((16 : Int32).toInt64 &&& 63)) &&& (Int64.ofNat 255)).toInt32)) 66 1 3) 66 553 (((a >>> ((24 : Int32).toInt64 &&& 63)) &&& (Int64.ofNat 255)).toInt32))) rfl ?_
                    refine mz_go 6 (c' := (if b ≤ 4 then 87 else 44, [some (.ref 65), some (.long a), none, some (.int b), some (.int 4)], [], mz_up (mz_up (mz_up (mz_up (mz_up (mz_up (mz_up (mz_up (mz_up (mz_up (mz_up (mz_up (mz_up (mz_up (mz_up (mz_up (mz_up (mz_up (mz_i xs Ln) 9 0 ((((a.toUInt64 >>> ((0 : Int32).toInt64.toUInt64 &&& Int64.toUInt64 63)).toInt64).toInt32) &&& 255)) 8 1 1) 9 1 ((((a.toUInt64 >>> ((8 : Int32).toInt64.toUInt64 &&& Int64.toUInt64 63)).toInt64).toInt32) &&& 255)) 8 1 2) 9 2 ((((a.toUInt64 >>> ((16 : Int32).toInt64.toUInt64 &&& Int64.toUInt64 63)).toInt64).toInt32) &&& 255)) 8 1 3) 9 3 ((((a.toUInt64 >>> ((24 : Int32).toInt64.toUInt64 &&& Int64.toUInt64 63)).toInt64).toInt32) &&& 255)) 8 1 4) 9 4 ((((a.toUInt64 >>> ((32 : Int32).toInt64.toUInt64 &&& Int64.toUInt64 63)).toInt64).toInt32) &&& 255)) 8 1 5) 66 550 (((a >>> ((0 : Int32).toInt64 &&& 63)) &&& (Int64.ofNat 255)).toInt32)) 66 1 1) 66 551 (((a >>> ((8 : Int32).toInt64 &&& 63)) &&& (Int64.ofNat 255)).toInt32)) 66 1 2) 66 552 (((a >>> ((16 : Int32).toInt64 &&& 63)) &&& (Int64.ofNat 255)).toInt32)) 66 1 3) 66 553 (((a >>> ((24 : Int32).toInt64 &&& 63)) &&& (Int64.ofNat 255)).toInt32)) 66 1 4)) rfl ?_
                    refine mz_ifF h7 ?_
                    refine mz_go 24 (c' := (80, [some (.ref 65), some (.long a), none, some (.int b), some (.int 4)], [.int 5, .int 1, .ref 66], mz_up (mz_up (mz_up (mz_up (mz_up (mz_up (mz_up (mz_up (mz_up (mz_up (mz_up (mz_up (mz_up (mz_up (mz_up (mz_up (mz_up (mz_up (mz_up (mz_i xs Ln) 9 0 ((((a.toUInt64 >>> ((0 : Int32).toInt64.toUInt64 &&& Int64.toUInt64 63)).toInt64).toInt32) &&& 255)) 8 1 1) 9 1 ((((a.toUInt64 >>> ((8 : Int32).toInt64.toUInt64 &&& Int64.toUInt64 63)).toInt64).toInt32) &&& 255)) 8 1 2) 9 2 ((((a.toUInt64 >>> ((16 : Int32).toInt64.toUInt64 &&& Int64.toUInt64 63)).toInt64).toInt32) &&& 255)) 8 1 3) 9 3 ((((a.toUInt64 >>> ((24 : Int32).toInt64.toUInt64 &&& Int64.toUInt64 63)).toInt64).toInt32) &&& 255)) 8 1 4) 9 4 ((((a.toUInt64 >>> ((32 : Int32).toInt64.toUInt64 &&& Int64.toUInt64 63)).toInt64).toInt32) &&& 255)) 8 1 5) 66 550 (((a >>> ((0 : Int32).toInt64 &&& 63)) &&& (Int64.ofNat 255)).toInt32)) 66 1 1) 66 551 (((a >>> ((8 : Int32).toInt64 &&& 63)) &&& (Int64.ofNat 255)).toInt32)) 66 1 2) 66 552 (((a >>> ((16 : Int32).toInt64 &&& 63)) &&& (Int64.ofNat 255)).toInt32)) 66 1 3) 66 553 (((a >>> ((24 : Int32).toInt64 &&& 63)) &&& (Int64.ofNat 255)).toInt32)) 66 1 4) 66 554 (((a >>> ((32 : Int32).toInt64 &&& 63)) &&& (Int64.ofNat 255)).toInt32))) rfl ?_
                    refine mz_go 6 (c' := (if b ≤ 5 then 87 else 44, [some (.ref 65), some (.long a), none, some (.int b), some (.int 5)], [], mz_up (mz_up (mz_up (mz_up (mz_up (mz_up (mz_up (mz_up (mz_up (mz_up (mz_up (mz_up (mz_up (mz_up (mz_up (mz_up (mz_up (mz_up (mz_up (mz_up (mz_i xs Ln) 9 0 ((((a.toUInt64 >>> ((0 : Int32).toInt64.toUInt64 &&& Int64.toUInt64 63)).toInt64).toInt32) &&& 255)) 8 1 1) 9 1 ((((a.toUInt64 >>> ((8 : Int32).toInt64.toUInt64 &&& Int64.toUInt64 63)).toInt64).toInt32) &&& 255)) 8 1 2) 9 2 ((((a.toUInt64 >>> ((16 : Int32).toInt64.toUInt64 &&& Int64.toUInt64 63)).toInt64).toInt32) &&& 255)) 8 1 3) 9 3 ((((a.toUInt64 >>> ((24 : Int32).toInt64.toUInt64 &&& Int64.toUInt64 63)).toInt64).toInt32) &&& 255)) 8 1 4) 9 4 ((((a.toUInt64 >>> ((32 : Int32).toInt64.toUInt64 &&& Int64.toUInt64 63)).toInt64).toInt32) &&& 255)) 8 1 5) 66 550 (((a >>> ((0 : Int32).toInt64 &&& 63)) &&& (Int64.ofNat 255)).toInt32)) 66 1 1) 66 551 (((a >>> ((8 : Int32).toInt64 &&& 63)) &&& (Int64.ofNat 255)).toInt32)) 66 1 2) 66 552 (((a >>> ((16 : Int32).toInt64 &&& 63)) &&& (Int64.ofNat 255)).toInt32)) 66 1 3) 66 553 (((a >>> ((24 : Int32).toInt64 &&& 63)) &&& (Int64.ofNat 255)).toInt32)) 66 1 4) 66 554 (((a >>> ((32 : Int32).toInt64 &&& 63)) &&& (Int64.ofNat 255)).toInt32)) 66 1 5)) rfl ?_
                    refine mz_ifT h8 ?_
                    refine mz_go 4 (c' := (93, [some (.ref 65), some (.long a), none, some (.int b), some (.int 5)], [.int 5], mz_up (mz_up (mz_up (mz_up (mz_up (mz_up (mz_up (mz_up (mz_up (mz_up (mz_up (mz_up (mz_up (mz_up (mz_up (mz_up (mz_up (mz_up (mz_up (mz_up (mz_i xs Ln) 9 0 ((((a.toUInt64 >>> ((0 : Int32).toInt64.toUInt64 &&& Int64.toUInt64 63)).toInt64).toInt32) &&& 255)) 8 1 1) 9 1 ((((a.toUInt64 >>> ((8 : Int32).toInt64.toUInt64 &&& Int64.toUInt64 63)).toInt64).toInt32) &&& 255)) 8 1 2) 9 2 ((((a.toUInt64 >>> ((16 : Int32).toInt64.toUInt64 &&& Int64.toUInt64 63)).toInt64).toInt32) &&& 255)) 8 1 3) 9 3 ((((a.toUInt64 >>> ((24 : Int32).toInt64.toUInt64 &&& Int64.toUInt64 63)).toInt64).toInt32) &&& 255)) 8 1 4) 9 4 ((((a.toUInt64 >>> ((32 : Int32).toInt64.toUInt64 &&& Int64.toUInt64 63)).toInt64).toInt32) &&& 255)) 8 1 5) 66 550 (((a >>> ((0 : Int32).toInt64 &&& 63)) &&& (Int64.ofNat 255)).toInt32)) 66 1 1) 66 551 (((a >>> ((8 : Int32).toInt64 &&& 63)) &&& (Int64.ofNat 255)).toInt32)) 66 1 2) 66 552 (((a >>> ((16 : Int32).toInt64 &&& 63)) &&& (Int64.ofNat 255)).toInt32)) 66 1 3) 66 553 (((a >>> ((24 : Int32).toInt64 &&& 63)) &&& (Int64.ofNat 255)).toInt32)) 66 1 4) 66 554 (((a >>> ((32 : Int32).toInt64 &&& 63)) &&& (Int64.ofNat 255)).toInt32)) 66 1 5)) rfl ?_
                    exact mz_ret rfl
                · by_cases h9 : b ≤ 6
                  · refine ⟨6, mz_up (mz_up (mz_up (mz_up (mz_up (mz_up (mz_up (mz_up (mz_up (mz_up (mz_up (mz_up (mz_i xs Ln) 9 0 ((((a.toUInt64 >>> ((0 : Int32).toInt64.toUInt64 &&& Int64.toUInt64 63)).toInt64).toInt32) &&& 255)) 8 1 1) 9 1 ((((a.toUInt64 >>> ((8 : Int32).toInt64.toUInt64 &&& Int64.toUInt64 63)).toInt64).toInt32) &&& 255)) 8 1 2) 9 2 ((((a.toUInt64 >>> ((16 : Int32).toInt64.toUInt64 &&& Int64.toUInt64 63)).toInt64).toInt32) &&& 255)) 8 1 3) 9 3 ((((a.toUInt64 >>> ((24 : Int32).toInt64.toUInt64 &&& Int64.toUInt64 63)).toInt64).toInt32) &&& 255)) 8 1 4) 9 4 ((((a.toUInt64 >>> ((32 : Int32).toInt64.toUInt64 &&& Int64.toUInt64 63)).toInt64).toInt32) &&& 255)) 8 1 5) 9 5 ((((a.toUInt64 >>> ((40 : Int32).toInt64.toUInt64 &&& Int64.toUInt64 63)).toInt64).toInt32) &&& 255)) 8 1 6, mz_up (mz_up (mz_up (mz_up (mz_up (mz_up (mz_up (mz_up (mz_up (mz_up (mz_up (mz_up (mz_up (mz_up (mz_up (mz_up (mz_up (mz_up (mz_up (mz_up (mz_up (mz_up (mz_up (mz_up (mz_i xs Ln) 9 0 ((((a.toUInt64 >>> ((0 : Int32).toInt64.toUInt64 &&& Int64.toUInt64 63)).toInt64).toInt32) &&& 255)) 8 1 1) 9 1 ((((a.toUInt64 >>> ((8 : Int32).toInt64.toUInt64 &&& Int64.toUInt64 63)).toInt64).toInt32) &&& 255)) 8 1 2) 9 2 ((((a.toUInt64 >>> ((16 : Int32).toInt64.toUInt64 &&& Int64.toUInt64 63)).toInt64).toInt32) &&& 255)) 8 1 3) 9 3 ((((a.toUInt64 >>> ((24 : Int32).toInt64.toUInt64 &&& Int64.toUInt64 63)).toInt64).toInt32) &&& 255)) 8 1 4) 9 4 ((((a.toUInt64 >>> ((32 : Int32).toInt64.toUInt64 &&& Int64.toUInt64 63)).toInt64).toInt32) &&& 255)) 8 1 5) 9 5 ((((a.toUInt64 >>> ((40 : Int32).toInt64.toUInt64 &&& Int64.toUInt64 63)).toInt64).toInt32) &&& 255)) 8 1 6) 66 550 (((a >>> ((0 : Int32).toInt64 &&& 63)) &&& (Int64.ofNat 255)).toInt32)) 66 1 1) 66 551 (((a >>> ((8 : Int32).toInt64 &&& 63)) &&& (Int64.ofNat 255)).toInt32)) 66 1 2) 66 552 (((a >>> ((16 : Int32).toInt64 &&& 63)) &&& (Int64.ofNat 255)).toInt32)) 66 1 3) 66 553 (((a >>> ((24 : Int32).toInt64 &&& 63)) &&& (Int64.ofNat 255)).toInt32)) 66 1 4) 66 554 (((a >>> ((32 : Int32).toInt64 &&& 63)) &&& (Int64.ofNat 255)).toInt32)) 66 1 5) 66 555 (((a >>> ((40 : Int32).toInt64 &&& 63)) &&& (Int64.ofNat 255)).toInt32)) 66 1 6, ⟨?_, rfl⟩, ⟨?_, rfl⟩⟩
                    · refine mz_go 3 (c' := (4, [some (.ref 0), some (.long a), none, some (.int b), none, none], [.int 8, .int 1, .int b], (mz_i xs Ln))) rfl ?_
                      refine mz_do (R := mz_r121) (as := [.int b, .int 1, .int 8]) (rest := []) (r1 := some (.int 1)) (m1 := (mz_i xs Ln)) rfl ⟨?_, rfl⟩ ?_
                      · refine mz_go 3 (c' := (if b < 1 then 14 else 5, [some (.int b), some (.int 1), some (.int 8)], [], (mz_i xs Ln))) rfl ?_
                        refine mz_ifF h1 ?_
                        refine mz_go 3 (c' := (if 8 < b then 14 else 10, [some (.int b), some (.int 1), some (.int 8)], [], (mz_i xs Ln))) rfl ?_
                        refine mz_ifF h2 ?_
                        refine mz_go 2 (c' := (15, [some (.int b), some (.int 1), some (.int 8)], [.int 1], (mz_i xs Ln))) rfl ?_
                        exact mz_ret rfl
                      refine mz_go 11 (c' := (if (0 + b) ≤ 60 then 43 else 37, [some (.ref 0), some (.long a), none, some (.int b), some (.ref 8), none], [], (mz_i xs Ln))) rfl ?_
                      refine mz_ifT h3 ?_
                      refine mz_go 5 (c' := (if b ≤ 0 then 92 else 52, [some (.ref 0), some (.long a), none, some (.int b), some (.ref 8), some (.int 0)], [], (mz_i xs Ln))) rfl ?_
                      refine mz_ifF (by have hl : (5 : Int) < (b).toInt := Int32.lt_iff_toInt_lt.mp (Int32.not_le.mp h8); have hu : (b).toInt ≤ (6 : Int) := Int32.le_iff_toInt_le.mp h9; exact Int32.not_le.mpr (Int32.lt_iff_toInt_lt.mpr (show (0 : Int) < (b).toInt by omega))) ?_
                      refine mz_go 24 (c' := (if b ≤ 1 then 92 else 52, [some (.ref 0), some (.long a), none, some (.int b), some (.ref 8), some (.int 1)], [], mz_up (mz_up (mz_i xs Ln) 9 0 ((((a.toUInt64 >>> ((0 : Int32).toInt64.toUInt64 &&& Int64.toUInt64 63)).toInt64).toInt32) &&& 255)) 8 1 1)) rfl ?_
                      refine mz_ifF h4 ?_
                      refine mz_go 24 (c' := (if b ≤ 2 then 92 else 52, [some (.ref 0), some (.long a), none, some (.int b), some (.ref 8), some (.int 2)], [], mz_up (mz_up (mz_up (mz_up (mz_i xs Ln) 9 0 ((((a.toUInt64 >>> ((0 : Int32).toInt64.toUInt64 &&& Int64.toUInt64 63)).toInt64).toInt32) &&& 255)) 8 1 1) 9 1 ((((a.toUInt64 >>> ((8 : Int32).toInt64.toUInt64 &&& Int64.toUInt64 63)).toInt64).toInt32) &&& 255)) 8 1 2)) rfl ?_
                      refine mz_ifF h5 ?_
                      refine mz_go 24 (c' := (if b ≤ 3 then 92 else 52, [some (.ref 0), some (.long a), none, some (.int b), some (.ref 8), some (.int 3)], [], mz_up (mz_up (mz_up (mz_up (mz_up (mz_up (mz_i xs Ln) 9 0 ((((a.toUInt64 >>> ((0 : Int32).toInt64.toUInt64 &&& Int64.toUInt64 63)).toInt64).toInt32) &&& 255)) 8 1 1) 9 1 ((((a.toUInt64 >>> ((8 : Int32).toInt64.toUInt64 &&& Int64.toUInt64 63)).toInt64).toInt32) &&& 255)) 8 1 2) 9 2 ((((a.toUInt64 >>> ((16 : Int32).toInt64.toUInt64 &&& Int64.toUInt64 63)).toInt64).toInt32) &&& 255)) 8 1 3)) rfl ?_
                      refine mz_ifF h6 ?_
                      refine mz_go 24 (c' := (if b ≤ 4 then 92 else 52, [some (.ref 0), some (.long a), none, some (.int b), some (.ref 8), some (.int 4)], [], mz_up (mz_up (mz_up (mz_up (mz_up (mz_up (mz_up (mz_up (mz_i xs Ln) 9 0 ((((a.toUInt64 >>> ((0 : Int32).toInt64.toUInt64 &&& Int64.toUInt64 63)).toInt64).toInt32) &&& 255)) 8 1 1) 9 1 ((((a.toUInt64 >>> ((8 : Int32).toInt64.toUInt64 &&& Int64.toUInt64 63)).toInt64).toInt32) &&& 255)) 8 1 2) 9 2 ((((a.toUInt64 >>> ((16 : Int32).toInt64.toUInt64 &&& Int64.toUInt64 63)).toInt64).toInt32) &&& 255)) 8 1 3) 9 3 ((((a.toUInt64 >>> ((24 : Int32).toInt64.toUInt64 &&& Int64.toUInt64 63)).toInt64).toInt32) &&& 255)) 8 1 4)) rfl ?_
                      refine mz_ifF h7 ?_
                      refine mz_go 24 (c' := (if b ≤ 5 then 92 else 52, [some (.ref 0), some (.long a), none, some (.int b), some (.ref 8), some (.int 5)], [], mz_up (mz_up (mz_up (mz_up (mz_up (mz_up (mz_up (mz_up (mz_up (mz_up (mz_i xs Ln) 9 0 ((((a.toUInt64 >>> ((0 : Int32).toInt64.toUInt64 &&& Int64.toUInt64 63)).toInt64).toInt32) &&& 255)) 8 1 1) 9 1 ((((a.toUInt64 >>> ((8 : Int32).toInt64.toUInt64 &&& Int64.toUInt64 63)).toInt64).toInt32) &&& 255)) 8 1 2) 9 2 ((((a.toUInt64 >>> ((16 : Int32).toInt64.toUInt64 &&& Int64.toUInt64 63)).toInt64).toInt32) &&& 255)) 8 1 3) 9 3 ((((a.toUInt64 >>> ((24 : Int32).toInt64.toUInt64 &&& Int64.toUInt64 63)).toInt64).toInt32) &&& 255)) 8 1 4) 9 4 ((((a.toUInt64 >>> ((32 : Int32).toInt64.toUInt64 &&& Int64.toUInt64 63)).toInt64).toInt32) &&& 255)) 8 1 5)) rfl ?_
                      refine mz_ifF h8 ?_
                      refine mz_go 24 (c' := (if b ≤ 6 then 92 else 52, [some (.ref 0), some (.long a), none, some (.int b), some (.ref 8), some (.int 6)], [], mz_up (mz_up (mz_up (mz_up (mz_up (mz_up (mz_up (mz_up (mz_up (mz_up (mz_up (mz_up (mz_i xs Ln) 9 0 ((((a.toUInt64 >>> ((0 : Int32).toInt64.toUInt64 &&& Int64.toUInt64 63)).toInt64).toInt32) &&& 255)) 8 1 1) 9 1 ((((a.toUInt64 >>> ((8 : Int32).toInt64.toUInt64 &&& Int64.toUInt64 63)).toInt64).toInt32) &&& 255)) 8 1 2) 9 2 ((((a.toUInt64 >>> ((16 : Int32).toInt64.toUInt64 &&& Int64.toUInt64 63)).toInt64).toInt32) &&& 255)) 8 1 3) 9 3 ((((a.toUInt64 >>> ((24 : Int32).toInt64.toUInt64 &&& Int64.toUInt64 63)).toInt64).toInt32) &&& 255)) 8 1 4) 9 4 ((((a.toUInt64 >>> ((32 : Int32).toInt64.toUInt64 &&& Int64.toUInt64 63)).toInt64).toInt32) &&& 255)) 8 1 5) 9 5 ((((a.toUInt64 >>> ((40 : Int32).toInt64.toUInt64 &&& Int64.toUInt64 63)).toInt64).toInt32) &&& 255)) 8 1 6)) rfl ?_
                      refine mz_ifT h9 ?_
                      refine mz_go 2 (c' := (97, [some (.ref 0), some (.long a), none, some (.int b), some (.ref 8), some (.int 6)], [.int 6], mz_up (mz_up (mz_up (mz_up (mz_up (mz_up (mz_up (mz_up (mz_up (mz_up (mz_up (mz_up (mz_i xs Ln) 9 0 ((((a.toUInt64 >>> ((0 : Int32).toInt64.toUInt64 &&& Int64.toUInt64 63)).toInt64).toInt32) &&& 255)) 8 1 1) 9 1 ((((a.toUInt64 >>> ((8 : Int32).toInt64.toUInt64 &&& Int64.toUInt64 63)).toInt64).toInt32) &&& 255)) 8 1 2) 9 2 ((((a.toUInt64 >>> ((16 : Int32).toInt64.toUInt64 &&& Int64.toUInt64 63)).toInt64).toInt32) &&& 255)) 8 1 3) 9 3 ((((a.toUInt64 >>> ((24 : Int32).toInt64.toUInt64 &&& Int64.toUInt64 63)).toInt64).toInt32) &&& 255)) 8 1 4) 9 4 ((((a.toUInt64 >>> ((32 : Int32).toInt64.toUInt64 &&& Int64.toUInt64 63)).toInt64).toInt32) &&& 255)) 8 1 5) 9 5 ((((a.toUInt64 >>> ((40 : Int32).toInt64.toUInt64 &&& Int64.toUInt64 63)).toInt64).toInt32) &&& 255)) 8 1 6)) rfl ?_
                      exact mz_ret rfl
                    · refine mz_go 3 (c' := (4, [some (.ref 65), some (.long a), none, some (.int b), none], [.int 8, .int 1, .int b], mz_up (mz_up (mz_up (mz_up (mz_up (mz_up (mz_up (mz_up (mz_up (mz_up (mz_up (mz_up (mz_i xs Ln) 9 0 ((((a.toUInt64 >>> ((0 : Int32).toInt64.toUInt64 &&& Int64.toUInt64 63)).toInt64).toInt32) &&& 255)) 8 1 1) 9 1 ((((a.toUInt64 >>> ((8 : Int32).toInt64.toUInt64 &&& Int64.toUInt64 63)).toInt64).toInt32) &&& 255)) 8 1 2) 9 2 ((((a.toUInt64 >>> ((16 : Int32).toInt64.toUInt64 &&& Int64.toUInt64 63)).toInt64).toInt32) &&& 255)) 8 1 3) 9 3 ((((a.toUInt64 >>> ((24 : Int32).toInt64.toUInt64 &&& Int64.toUInt64 63)).toInt64).toInt32) &&& 255)) 8 1 4) 9 4 ((((a.toUInt64 >>> ((32 : Int32).toInt64.toUInt64 &&& Int64.toUInt64 63)).toInt64).toInt32) &&& 255)) 8 1 5) 9 5 ((((a.toUInt64 >>> ((40 : Int32).toInt64.toUInt64 &&& Int64.toUInt64 63)).toInt64).toInt32) &&& 255)) 8 1 6)) rfl ?_
                      refine mz_do (R := mz_r128) (as := [.int b, .int 1, .int 8]) (rest := []) (r1 := some (.int 1)) (m1 := mz_up (mz_up (mz_up (mz_up (mz_up (mz_up (mz_up (mz_up (mz_up (mz_up (mz_up (mz_up (mz_i xs Ln) 9 0 ((((a.toUInt64 >>> ((0 : Int32).toInt64.toUInt64 &&& Int64.toUInt64 63)).toInt64).toInt32) &&& 255)) 8 1 1) 9 1 ((((a.toUInt64 >>> ((8 : Int32).toInt64.toUInt64 &&& Int64.toUInt64 63)).toInt64).toInt32) &&& 255)) 8 1 2) 9 2 ((((a.toUInt64 >>> ((16 : Int32).toInt64.toUInt64 &&& Int64.toUInt64 63)).toInt64).toInt32) &&& 255)) 8 1 3) 9 3 ((((a.toUInt64 >>> ((24 : Int32).toInt64.toUInt64 &&& Int64.toUInt64 63)).toInt64).toInt32) &&& 255)) 8 1 4) 9 4 ((((a.toUInt64 >>> ((32 : Int32).toInt64.toUInt64 &&& Int64.toUInt64 63)).toInt64).toInt32) &&& 255)) 8 1 5) 9 5 ((((a.toUInt64 >>> ((40 : Int32).toInt64.toUInt64 &&& Int64.toUInt64 63)).toInt64).toInt32) &&& 255)) 8 1 6) rfl ⟨?_, rfl⟩ ?_
                      · refine mz_go 3 (c' := (if b < 1 then 14 else 5, [some (.int b), some (.int 1), some (.int 8)], [], mz_up (mz_up (mz_up (mz_up (mz_up (mz_up (mz_up (mz_up (mz_up (mz_up (mz_up (mz_up (mz_i xs Ln) 9 0 ((((a.toUInt64 >>> ((0 : Int32).toInt64.toUInt64 &&& Int64.toUInt64 63)).toInt64).toInt32) &&& 255)) 8 1 1) 9 1 ((((a.toUInt64 >>> ((8 : Int32).toInt64.toUInt64 &&& Int64.toUInt64 63)).toInt64).toInt32) &&& 255)) 8 1 2) 9 2 ((((a.toUInt64 >>> ((16 : Int32).toInt64.toUInt64 &&& Int64.toUInt64 63)).toInt64).toInt32) &&& 255)) 8 1 3) 9 3 ((((a.toUInt64 >>> ((24 : Int32).toInt64.toUInt64 &&& Int64.toUInt64 63)).toInt64).toInt32) &&& 255)) 8 1 4) 9 4 ((((a.toUInt64 >>> ((32 : Int32).toInt64.toUInt64 &&& Int64.toUInt64 63)).toInt64).toInt32) &&& 255)) 8 1 5) 9 5 ((((a.toUInt64 >>> ((40 : Int32).toInt64.toUInt64 &&& Int64.toUInt64 63)).toInt64).toInt32) &&& 255)) 8 1 6)) rfl ?_
                        refine mz_ifF h1 ?_
                        refine mz_go 3 (c' := (if 8 < b then 14 else 10, [some (.int b), some (.int 1), some (.int 8)], [], mz_up (mz_up (mz_up (mz_up (mz_up (mz_up (mz_up (mz_up (mz_up (mz_up (mz_up (mz_up (mz_i xs Ln) 9 0 ((((a.toUInt64 >>> ((0 : Int32).toInt64.toUInt64 &&& Int64.toUInt64 63)).toInt64).toInt32) &&& 255)) 8 1 1) 9 1 ((((a.toUInt64 >>> ((8 : Int32).toInt64.toUInt64 &&& Int64.toUInt64 63)).toInt64).toInt32) &&& 255)) 8 1 2) 9 2 ((((a.toUInt64 >>> ((16 : Int32).toInt64.toUInt64 &&& Int64.toUInt64 63)).toInt64).toInt32) &&& 255)) 8 1 3) 9 3 ((((a.toUInt64 >>> ((24 : Int32).toInt64.toUInt64 &&& Int64.toUInt64 63)).toInt64).toInt32) &&& 255)) 8 1 4) 9 4 ((((a.toUInt64 >>> ((32 : Int32).toInt64.toUInt64 &&& Int64.toUInt64 63)).toInt64).toInt32) &&& 255)) 8 1 5) 9 5 ((((a.toUInt64 >>> ((40 : Int32).toInt64.toUInt64 &&& Int64.toUInt64 63)).toInt64).toInt32) &&& 255)) 8 1 6)) rfl ?_
                        refine mz_ifF h2 ?_
                        refine mz_go 2 (c' := (15, [some (.int b), some (.int 1), some (.int 8)], [.int 1], mz_up (mz_up (mz_up (mz_up (mz_up (mz_up (mz_up (mz_up (mz_up (mz_up (mz_up (mz_up (mz_i xs Ln) 9 0 ((((a.toUInt64 >>> ((0 : Int32).toInt64.toUInt64 &&& Int64.toUInt64 63)).toInt64).toInt32) &&& 255)) 8 1 1) 9 1 ((((a.toUInt64 >>> ((8 : Int32).toInt64.toUInt64 &&& Int64.toUInt64 63)).toInt64).toInt32) &&& 255)) 8 1 2) 9 2 ((((a.toUInt64 >>> ((16 : Int32).toInt64.toUInt64 &&& Int64.toUInt64 63)).toInt64).toInt32) &&& 255)) 8 1 3) 9 3 ((((a.toUInt64 >>> ((24 : Int32).toInt64.toUInt64 &&& Int64.toUInt64 63)).toInt64).toInt32) &&& 255)) 8 1 4) 9 4 ((((a.toUInt64 >>> ((32 : Int32).toInt64.toUInt64 &&& Int64.toUInt64 63)).toInt64).toInt32) &&& 255)) 8 1 5) 9 5 ((((a.toUInt64 >>> ((40 : Int32).toInt64.toUInt64 &&& Int64.toUInt64 63)).toInt64).toInt32) &&& 255)) 8 1 6)) rfl ?_
                        exact mz_ret rfl
                      refine mz_go 9 (c' := (if (0 + b) ≤ 60 then 35 else 29, [some (.ref 65), some (.long a), none, some (.int b), none], [], mz_up (mz_up (mz_up (mz_up (mz_up (mz_up (mz_up (mz_up (mz_up (mz_up (mz_up (mz_up (mz_i xs Ln) 9 0 ((((a.toUInt64 >>> ((0 : Int32).toInt64.toUInt64 &&& Int64.toUInt64 63)).toInt64).toInt32) &&& 255)) 8 1 1) 9 1 ((((a.toUInt64 >>> ((8 : Int32).toInt64.toUInt64 &&& Int64.toUInt64 63)).toInt64).toInt32) &&& 255)) 8 1 2) 9 2 ((((a.toUInt64 >>> ((16 : Int32).toInt64.toUInt64 &&& Int64.toUInt64 63)).toInt64).toInt32) &&& 255)) 8 1 3) 9 3 ((((a.toUInt64 >>> ((24 : Int32).toInt64.toUInt64 &&& Int64.toUInt64 63)).toInt64).toInt32) &&& 255)) 8 1 4) 9 4 ((((a.toUInt64 >>> ((32 : Int32).toInt64.toUInt64 &&& Int64.toUInt64 63)).toInt64).toInt32) &&& 255)) 8 1 5) 9 5 ((((a.toUInt64 >>> ((40 : Int32).toInt64.toUInt64 &&& Int64.toUInt64 63)).toInt64).toInt32) &&& 255)) 8 1 6)) rfl ?_
                      refine mz_ifT h3 ?_
                      refine mz_go 5 (c' := (if b ≤ 0 then 87 else 44, [some (.ref 65), some (.long a), none, some (.int b), some (.int 0)], [], mz_up (mz_up (mz_up (mz_up (mz_up (mz_up (mz_up (mz_up (mz_up (mz_up (mz_up (mz_up (mz_i xs Ln) 9 0 ((((a.toUInt64 >>> ((0 : Int32).toInt64.toUInt64 &&& Int64.toUInt64 63)).toInt64).toInt32) &&& 255)) 8 1 1) 9 1 ((((a.toUInt64 >>> ((8 : Int32).toInt64.toUInt64 &&& Int64.toUInt64 63)).toInt64).toInt32) &&& 255)) 8 1 2) 9 2 ((((a.toUInt64 >>> ((16 : Int32).toInt64.toUInt64 &&& Int64.toUInt64 63)).toInt64).toInt32) &&& 255)) 8 1 3) 9 3 ((((a.toUInt64 >>> ((24 : Int32).toInt64.toUInt64 &&& Int64.toUInt64 63)).toInt64).toInt32) &&& 255)) 8 1 4) 9 4 ((((a.toUInt64 >>> ((32 : Int32).toInt64.toUInt64 &&& Int64.toUInt64 63)).toInt64).toInt32) &&& 255)) 8 1 5) 9 5 ((((a.toUInt64 >>> ((40 : Int32).toInt64.toUInt64 &&& Int64.toUInt64 63)).toInt64).toInt32) &&& 255)) 8 1 6)) rfl ?_
                      refine mz_ifF (by have hl : (5 : Int) < (b).toInt := Int32.lt_iff_toInt_lt.mp (Int32.not_le.mp h8); have hu : (b).toInt ≤ (6 : Int) := Int32.le_iff_toInt_le.mp h9; exact Int32.not_le.mpr (Int32.lt_iff_toInt_lt.mpr (show (0 : Int) < (b).toInt by omega))) ?_
                      refine mz_go 24 (c' := (80, [some (.ref 65), some (.long a), none, some (.int b), some (.int 0)], [.int 1, .int 1, .ref 66], mz_up (mz_up (mz_up (mz_up (mz_up (mz_up (mz_up (mz_up (mz_up (mz_up (mz_up (mz_up (mz_up (mz_i xs Ln) 9 0 ((((a.toUInt64 >>> ((0 : Int32).toInt64.toUInt64 &&& Int64.toUInt64 63)).toInt64).toInt32) &&& 255)) 8 1 1) 9 1 ((((a.toUInt64 >>> ((8 : Int32).toInt64.toUInt64 &&& Int64.toUInt64 63)).toInt64).toInt32) &&& 255)) 8 1 2) 9 2 ((((a.toUInt64 >>> ((16 : Int32).toInt64.toUInt64 &&& Int64.toUInt64 63)).toInt64).toInt32) &&& 255)) 8 1 3) 9 3 ((((a.toUInt64 >>> ((24 : Int32).toInt64.toUInt64 &&& Int64.toUInt64 63)).toInt64).toInt32) &&& 255)) 8 1 4) 9 4 ((((a.toUInt64 >>> ((32 : Int32).toInt64.toUInt64 &&& Int64.toUInt64 63)).toInt64).toInt32) &&& 255)) 8 1 5) 9 5 ((((a.toUInt64 >>> ((40 : Int32).toInt64.toUInt64 &&& Int64.toUInt64 63)).toInt64).toInt32) &&& 255)) 8 1 6) 66 550 (((a >>> ((0 : Int32).toInt64 &&& 63)) &&& (Int64.ofNat 255)).toInt32))) rfl ?_
                      refine mz_go 6 (c' := (if b ≤ 1 then 87 else 44, [some (.ref 65), some (.long a), none, some (.int b), some (.int 1)], [], mz_up (mz_up (mz_up (mz_up (mz_up (mz_up (mz_up (mz_up (mz_up (mz_up (mz_up (mz_up (mz_up (mz_up (mz_i xs Ln) 9 0 ((((a.toUInt64 >>> ((0 : Int32).toInt64.toUInt64 &&& Int64.toUInt64 63)).toInt64).toInt32) &&& 255)) 8 1 1) 9 1 ((((a.toUInt64 >>> ((8 : Int32).toInt64.toUInt64 &&& Int64.toUInt64 63)).toInt64).toInt32) &&& 255)) 8 1 2) 9 2 ((((a.toUInt64 >>> ((16 : Int32).toInt64.toUInt64 &&& Int64.toUInt64 63)).toInt64).toInt32) &&& 255)) 8 1 3) 9 3 ((((a.toUInt64 >>> ((24 : Int32).toInt64.toUInt64 &&& Int64.toUInt64 63)).toInt64).toInt32) &&& 255)) 8 1 4) 9 4 ((((a.toUInt64 >>> ((32 : Int32).toInt64.toUInt64 &&& Int64.toUInt64 63)).toInt64).toInt32) &&& 255)) 8 1 5) 9 5 ((((a.toUInt64 >>> ((40 : Int32).toInt64.toUInt64 &&& Int64.toUInt64 63)).toInt64).toInt32) &&& 255)) 8 1 6) 66 550 (((a >>> ((0 : Int32).toInt64 &&& 63)) &&& (Int64.ofNat 255)).toInt32)) 66 1 1)) rfl ?_
                      refine mz_ifF h4 ?_
                      refine mz_go 24 (c' := (80, [some (.ref 65), some (.long a), none, some (.int b), some (.int 1)], [.int 2, .int 1, .ref 66], mz_up (mz_up (mz_up (mz_up (mz_up (mz_up (mz_up (mz_up (mz_up (mz_up (mz_up (mz_up (mz_up (mz_up (mz_up (mz_i xs Ln) 9 0 ((((a.toUInt64 >>> ((0 : Int32).toInt64.toUInt64 &&& Int64.toUInt64 63)).toInt64).toInt32) &&& 255)) 8 1 1) 9 1 ((((a.toUInt64 >>> ((8 : Int32).toInt64.toUInt64 &&& Int64.toUInt64 63)).toInt64).toInt32) &&& 255)) 8 1 2) 9 2 ((((a.toUInt64 >>> ((16 : Int32).toInt64.toUInt64 &&& Int64.toUInt64 63)).toInt64).toInt32) &&& 255)) 8 1 3) 9 3 ((((a.toUInt64 >>> ((24 : Int32).toInt64.toUInt64 &&& Int64.toUInt64 63)).toInt64).toInt32) &&& 255)) 8 1 4) 9 4 ((((a.toUInt64 >>> ((32 : Int32).toInt64.toUInt64 &&& Int64.toUInt64 63)).toInt64).toInt32) &&& 255)) 8 1 5) 9 5 ((((a.toUInt64 >>> ((40 : Int32).toInt64.toUInt64 &&& Int64.toUInt64 63)).toInt64).toInt32) &&& 255)) 8 1 6) 66 550 (((a >>> ((0 : Int32).toInt64 &&& 63)) &&& (Int64.ofNat 255)).toInt32)) 66 1 1) 66 551 (((a >>> ((8 : Int32).toInt64 &&& 63)) &&& (Int64.ofNat 255)).toInt32))) rfl ?_
                      refine mz_go 6 (c' := (if b ≤ 2 then 87 else 44, [some (.ref 65), some (.long a), none, some (.int b), some (.int 2)], [], mz_up (mz_up (mz_up (mz_up (mz_up (mz_up (mz_up (mz_up (mz_up (mz_up (mz_up (mz_up (mz_up (mz_up (mz_up (mz_up (mz_i xs Ln) 9 0 ((((a.toUInt64 >>> ((0 : Int32).toInt64.toUInt64 &&& Int64.toUInt64 63)).toInt64).toInt32) &&& 255)) 8 1 1) 9 1 ((((a.toUInt64 >>> ((8 : Int32).toInt64.toUInt64 &&& Int64.toUInt64 63)).toInt64).toInt32) &&& 255)) 8 1 2) 9 2 ((((a.toUInt64 >>> ((16 : Int32).toInt64.toUInt64 &&& Int64.toUInt64 63)).toInt64).toInt32) &&& 255)) 8 1 3) 9 3 ((((a.toUInt64 >>> ((24 : Int32).toInt64.toUInt64 &&& Int64.toUInt64 63)).toInt64).toInt32) &&& 255)) 8 1 4) 9 4 ((((a.toUInt64 >>> ((32 : Int32).toInt64.toUInt64 &&& Int64.toUInt64 63)).toInt64).toInt32) &&& 255)) 8 1 5) 9 5 ((((a.toUInt64 >>> ((40 : Int32).toInt64.toUInt64 &&& Int64.toUInt64 63)).toInt64).toInt32) &&& 255)) 8 1 6) 66 550 (((a >>> ((0 : Int32).toInt64 &&& 63)) &&& (Int64.ofNat 255)).toInt32)) 66 1 1) 66 551 (((a >>> ((8 : Int32).toInt64 &&& 63)) &&& (Int64.ofNat 255)).toInt32)) 66 1 2)) rfl ?_
                      refine mz_ifF h5 ?_
                      refine mz_go 24 (c' := (80, [some (.ref 65), some (.long a), none, some (.int b), some (.int 2)], [.int 3, .int 1, .ref 66], mz_up (mz_up (mz_up (mz_up (mz_up (mz_up (mz_up (mz_up (mz_up (mz_up (mz_up (mz_up (mz_up (mz_up (mz_up (mz_up (mz_up (mz_i xs Ln) 9 0 ((((a.toUInt64 >>> ((0 : Int32).toInt64.toUInt64 &&& Int64.toUInt64 63)).toInt64).toInt32) &&& 255)) 8 1 1) 9 1 ((((a.toUInt64 >>> ((8 : Int32).toInt64.toUInt64 &&& Int64.toUInt64 63)).toInt64).toInt32) &&& 255)) 8 1 2) 9 2 ((((a.toUInt64 >>> ((16 : Int32).toInt64.toUInt64 &&& Int64.toUInt64 63)).toInt64).toInt32) &&& 255)) 8 1 3) 9 3 ((((a.toUInt64 >>> ((24 : Int32).toInt64.toUInt64 &&& Int64.toUInt64 63)).toInt64).toInt32) &&& 255)) 8 1 4) 9 4 ((((a.toUInt64 >>> ((32 : Int32).toInt64.toUInt64 &&& Int64.toUInt64 63)).toInt64).toInt32) &&& 255)) 8 1 5) 9 5 ((((a.toUInt64 >>> ((40 : Int32).toInt64.toUInt64 &&& Int64.toUInt64 63)).toInt64).toInt32) &&& 255)) 8 1 6) 66 550 (((a >>> ((0 : Int32).toInt64 &&& 63)) &&& (Int64.ofNat 255)).toInt32)) 66 1 1) 66 551 (((a >>> ((8 : Int32).toInt64 &&& 63)) &&& (Int64.ofNat 255)).toInt32)) 66 1 2) 66 552 (((a >>> ((16 : Int32).toInt64 &&& 63)) &&& (Int64.ofNat 255)).toInt32))) rfl ?_
                      refine mz_go 6 (c' := (if b ≤ 3 then 87 else 44, [some (.ref 65), some (.long a), none, some (.int b), some (.int 3)], [], mz_up (mz_up (mz_up (mz_up (mz_up (mz_up (mz_up (mz_up (mz_up (mz_up (mz_up (mz_up (mz_up (mz_up (mz_up (mz_up (mz_up (mz_up (mz_i xs Ln) 9 0 ((((a.toUInt64 >>> ((0 : Int32).toInt64.toUInt64 &&& Int64.toUInt64 63)).toInt64).toInt32) &&& 255)) 8 1 1) 9 1 ((((a.toUInt64 >>> ((8 : Int32).toInt64.toUInt64 &&& Int64.toUInt64 63)).toInt64).toInt32) &&& 255)) 8 1 2) 9 2 ((((a.toUInt64 >>> ((16 : Int32).toInt64.toUInt64 &&& Int64.toUInt64 63)).toInt64).toInt32) &&& 255)) 8 1 3) 9 3 ((((a.toUInt64 >>> ((24 : Int32).toInt64.toUInt64 &&& Int64.toUInt64 63)).toInt64).toInt32) &&& 255)) 8 1 4) 9 4 ((((a.toUInt64 >>> ((32 : Int32).toInt64.toUInt64 &&& Int64.toUInt64 63)).toInt64).toInt32) &&& 255)) 8 1 5) 9 5 ((((a.toUInt64 >>> ((40 : Int32).toInt64.toUInt64 &&& Int64.toUInt64 63)).toInt64).toInt32) &&& 255)) 8 1 6) 66 550 (((a >>> ((0 : Int32).toInt64 &&& 63)) &&& (Int64.ofNat 255)).toInt32)) 66 1 1) 66 551 (((a >>> ((8 : Int32).toInt64 &&& 63)) &&& (Int64.ofNat 255)).toInt32)) 66 1 2) 66 552 (((a >>> ((16 : Int32).toInt64 &&& 63)) &&& (Int64.ofNat 255)).toInt32)) 66 1 3)) rfl ?_
                      refine mz_ifF h6 ?_
                      refine mz_go 24 (c' := (80, [some (.ref 65), some (.long a), none, some (.int b), some (.int 3)], [.int 4, .int 1, .ref 66], mz_up (mz_up (mz_up (mz_up (mz_up (mz_up (mz_up (mz_up (mz_up (mz_up (mz_up (mz_up (mz_up (mz_up (mz_up (mz_up (mz_up (mz_up (mz_up (mz_i xs Ln) 9 0 ((((a.toUInt64 >>> ((0 : Int32).toInt64.toUInt64 &&& Int64.toUInt64 63)).toInt64).toInt32) &&& 255)) 8 1 1) 9 1 ((((a.toUInt64 >>> ((8 : Int32).toInt64.toUInt64 &&& Int64.toUInt64 63)).toInt64).toInt32) &&& 255)) 8 1 2) 9 2 ((((a.toUInt64 >>> ((16 : Int32).toInt64.toUInt64 &&& Int64.toUInt64 63)).toInt64).toInt32) &&& 255)) 8 1 3) 9 3 ((((a.toUInt64 >>> ((24 : Int32).toInt64.toUInt64 &&& Int64.toUInt64 63)).toInt64).toInt32) &&& 255)) 8 1 4) 9 4 ((((a.toUInt64 >>> ((32 : Int32).toInt64.toUInt64 &&& Int64.toUInt64 63)).toInt64).toInt32) &&& 255)) 8 1 5) 9 5 ((((a.toUInt64 >>> ((40 : Int32).toInt64.toUInt64 &&& Int64.toUInt64 63)).toInt64).toInt32) &&& 255)) 8 1 6) 66 550 (((a >>> ((0 : Int32).toInt64 &&& 63)) &&& (Int64.ofNat 255)).toInt32)) 66 1 1) 66 551 (((a >>> ((8 : Int32).toInt64 &&& 63)) &&& (Int64.ofNat 255)).toInt32)) 66 1 2) 66 552 (((a >>> ((16 : Int32).toInt64 &&& 63)) &&& (Int64.ofNat 255)).toInt32)) 66 1 3) 66 553 (((a >>> ((24 : Int32).toInt64 &&& 63)) &&& (Int64.ofNat 255)).toInt32))) rfl ?_
                      refine mz_go 6 (c' := (if b ≤ 4 then 87 else 44, [some (.ref 65), some (.long a), none, some (.int b), some (.int 4)], [], mz_up (mz_up (mz_up (mz_up (mz_up (mz_up (mz_up (mz_up (mz_up (mz_up (mz_up (mz_up (mz_up (mz_up (mz_up (mz_up (mz_up (mz_up (mz_up (mz_up (mz_i xs Ln) 9 0 ((((a.toUInt64 >>> ((0 : Int32).toInt64.toUInt64 &&& Int64.toUInt64 63)).toInt64).toInt32) &&& 255)) 8 1 1) 9 1 ((((a.toUInt64 >>> ((8 : Int32).toInt64.toUInt64 &&& Int64.toUInt64 63)).toInt64).toInt32) &&& 255)) 8 1 2) 9 2 ((((a.toUInt64 >>> ((16 : Int32).toInt64.toUInt64 &&& Int64.toUInt64 63)).toInt64).toInt32) &&& 255)) 8 1 3) 9 3 ((((a.toUInt64 >>> ((24 : Int32).toInt64.toUInt64 &&& Int64.toUInt64 63)).toInt64).toInt32) &&& 255)) 8 1 4) 9 4 ((((a.toUInt64 >>> ((32 : Int32).toInt64.toUInt64 &&& Int64.toUInt64 63)).toInt64).toInt32) &&& 255)) 8 1 5) 9 5 ((((a.toUInt64 >>> ((40 : Int32).toInt64.toUInt64 &&& Int64.toUInt64 63)).toInt64).toInt32) &&& 255)) 8 1 6) 66 550 (((a >>> ((0 : Int32).toInt64 &&& 63)) &&& (Int64.ofNat 255)).toInt32)) 66 1 1) 66 551 (((a >>> ((8 : Int32).toInt64 &&& 63)) &&& (Int64.ofNat 255)).toInt32)) 66 1 2) 66 552 (((a >>> ((16 : Int32).toInt64 &&& 63)) &&& (Int64.ofNat 255)).toInt32)) 66 1 3) 66 553 (((a >>> ((24 : Int32).toInt64 &&& 63)) &&& (Int64.ofNat 255)).toInt32)) 66 1 4)) rfl ?_
                      refine mz_ifF h7 ?_
                      refine mz_go 24 (c' := (80, [some (.ref 65), some (.long a), none, some (.int b), some (.int 4)], [.int 5, .int 1, .ref 66], mz_up (mz_up (mz_up (mz_up (mz_up (mz_up (mz_up (mz_up (mz_up (mz_up (mz_up (mz_up (mz_up (mz_up (mz_up (mz_up (mz_up (mz_up (mz_up (mz_up (mz_up (mz_i xs Ln) 9 0 ((((a.toUInt64 >>> ((0 : Int32).toInt64.toUInt64 &&& Int64.toUInt64 63)).toInt64).toInt32) &&& 255)) 8 1 1) 9 1 ((((a.toUInt64 >>> ((8 : Int32).toInt64.toUInt64 &&& Int64.toUInt64 63)).toInt64).toInt32) &&& 255)) 8 1 2) 9 2 ((((a.toUInt64 >>> ((16 : Int32).toInt64.toUInt64 &&& Int64.toUInt64 63)).toInt64).toInt32) &&& 255)) 8 1 3) 9 3 ((((a.toUInt64 >>> ((24 : Int32).toInt64.toUInt64 &&& Int64.toUInt64 63)).toInt64).toInt32) &&& 255)) 8 1 4) 9 4 ((((a.toUInt64 >>> ((32 : Int32).toInt64.toUInt64 &&& Int64.toUInt64 63)).toInt64).toInt32) &&& 255)) 8 1 5) 9 5 ((((a.toUInt64 >>> ((40 : Int32).toInt64.toUInt64 &&& Int64.toUInt64 63)).toInt64).toInt32) &&& 255)) 8 1 6) 66 550 (((a >>> ((0 : Int32).toInt64 &&& 63)) &&& (Int64.ofNat 255)).toInt32)) 66 1 1) 66 551 (((a >>> ((8 : Int32).toInt64 &&& 63)) &&& (Int64.ofNat 255)).toInt32)) 66 1 2) 66 552 (((a >>> ((16 : Int32).toInt64 &&& 63)) &&& (Int64.ofNat 255)).toInt32)) 66 1 3) 66 553 (((a >>> ((24 : Int32).toInt64 &&& 63)) &&& (Int64.ofNat 255)).toInt32)) 66 1 4) 66 554 (((a >>> ((32 : Int32).toInt64 &&& 63)) &&& (Int64.ofNat 255)).toInt32))) rfl ?_
                      refine mz_go 6 (c' := (if b ≤ 5 then 87 else 44, [some (.ref 65), some (.long a), none, some (.int b), some (.int 5)], [], mz_up (mz_up (mz_up (mz_up (mz_up (mz_up (mz_up (mz_up (mz_up (mz_up (mz_up (mz_up (mz_up (mz_up (mz_up (mz_up (mz_up (mz_up (mz_up (mz_up (mz_up (mz_up (mz_i xs Ln) 9 0 ((((a.toUInt64 >>> ((0 : Int32).toInt64.toUInt64 &&& Int64.toUInt64 63)).toInt64).toInt32) &&& 255)) 8 1 1) 9 1 ((((a.toUInt64 >>> ((8 : Int32).toInt64.toUInt64 &&& Int64.toUInt64 63)).toInt64).toInt32) &&& 255)) 8 1 2) 9 2 ((((a.toUInt64 >>> ((16 : Int32).toInt64.toUInt64 &&& Int64.toUInt64 63)).toInt64).toInt32) &&& 255)) 8 1 3) 9 3 ((((a.toUInt64 >>> ((24 : Int32).toInt64.toUInt64 &&& Int64.toUInt64 63)).toInt64).toInt32) &&& 255)) 8 1 4) 9 4 ((((a.toUInt64 >>> ((32 : Int32).toInt64.toUInt64 &&& Int64.toUInt64 63)).toInt64).toInt32) &&& 255)) 8 1 5) 9 5 ((((a.toUInt64 >>> ((40 : Int32).toInt64.toUInt64 &&& Int64.toUInt64 63)).toInt64).toInt32) &&& 255)) 8 1 6) 66 550 (((a >>> ((0 : Int32).toInt64 &&& 63)) &&& (Int64.ofNat 255)).toInt32)) 66 1 1) 66 551 (((a >>> ((8 : Int32).toInt64 &&& 63)) &&& (Int64.ofNat 255)).toInt32)) 66 1 2) 66 552 (((a >>> ((16 : Int32).toInt64 &&& 63)) &&& (Int64.ofNat 255)).toInt32)) 66 1 3) 66 553 (((a >>> ((24 : Int32).toInt64 &&& 63)) &&& (Int64.ofNat 255)).toInt32)) 66 1 4) 66 554 (((a >>> ((32 : Int32).toInt64 &&& 63)) &&& (Int64.ofNat 255)).toInt32)) 66 1 5)) rfl ?_
                      refine mz_ifF h8 ?_
                      refine mz_go 24 (c' := (80, [some (.ref 65), some (.long a), none, some (.int b), some (.int 5)], [.int 6, .int 1, .ref 66], mz_up (mz_up (mz_up (mz_up (mz_up (mz_up (mz_up (mz_up (mz_up (mz_up (mz_up (mz_up (mz_up (mz_up (mz_up (mz_up (mz_up (mz_up (mz_up (mz_up (mz_up (mz_up (mz_up (mz_i xs Ln) 9 0 ((((a.toUInt64 >>> ((0 : Int32).toInt64.toUInt64 &&& Int64.toUInt64 63)).toInt64).toInt32) &&& 255)) 8 1 1) 9 1 ((((a.toUInt64 >>> ((8 : Int32).toInt64.toUInt64 &&& Int64.toUInt64 63)).toInt64).toInt32) &&& 255)) 8 1 2) 9 2 ((((a.toUInt64 >>> ((16 : Int32).toInt64.toUInt64 &&& Int64.toUInt64 63)).toInt64).toInt32) &&& 255)) 8 1 3) 9 3 ((((a.toUInt64 >>> ((24 : Int32).toInt64.toUInt64 &&& Int64.toUInt64 63)).toInt64).toInt32) &&& 255)) 8 1 4) 9 4 ((((a.toUInt64 >>> ((32 : Int32).toInt64.toUInt64 &&& Int64.toUInt64 63)).toInt64).toInt32) &&& 255)) 8 1 5) 9 5 ((((a.toUInt64 >>> ((40 : Int32).toInt64.toUInt64 &&& Int64.toUInt64 63)).toInt64).toInt32) &&& 255)) 8 1 6) 66 550 (((a >>> ((0 : Int32).toInt64 &&& 63)) &&& (Int64.ofNat 255)).toInt32)) 66 1 1) 66 551 (((a >>> ((8 : Int32).toInt64 &&& 63)) &&& (Int64.ofNat 255)).toInt32)) 66 1 2) 66 552 (((a >>> ((16 : Int32).toInt64 &&& 63)) &&& (Int64.ofNat 255)).toInt32)) 66 1 3) 66 553 (((a >>> ((24 : Int32).toInt64 &&& 63)) &&& (Int64.ofNat 255)).toInt32)) 66 1 4) 66 554 (((a >>> ((32 : Int32).toInt64 &&& 63)) &&& (Int64.ofNat 255)).toInt32)) 66 1 5) 66 555 (((a >>> ((40 : Int32).toInt64 &&& 63)) &&& (Int64.ofNat 255)).toInt32))) rfl ?_
                      refine mz_go 6 (c' := (if b ≤ 6 then 87 else 44, [some (.ref 65), some (.long a), none, some (.int b), some (.int 6)], [], mz_up (mz_up (mz_up (mz_up (mz_up (mz_up (mz_up (mz_up (mz_up (mz_up (mz_up (mz_up (mz_up (mz_up (mz_up (mz_up (mz_up (mz_up (mz_up (mz_up (mz_up (mz_up (mz_up (mz_up (mz_i xs Ln) 9 0 ((((a.toUInt64 >>> ((0 : Int32).toInt64.toUInt64 &&& Int64.toUInt64 63)).toInt64).toInt32) &&& 255)) 8 1 1) 9 1 ((((a.toUInt64 >>> ((8 : Int32).toInt64.toUInt64 &&& Int64.toUInt64 63)).toInt64).toInt32) &&& 255)) 8 1 2) 9 2 ((((a.toUInt64 >>> ((16 : Int32).toInt64.toUInt64 &&& Int64.toUInt64 63)).toInt64).toInt32) &&& 255)) 8 1 3) 9 3 ((((a.toUInt64 >>> ((24 : Int32).toInt64.toUInt64 &&& Int64.toUInt64 63)).toInt64).toInt32) &&& 255)) 8 1 4) 9 4 ((((a.toUInt64 >>> ((32 : Int32).toInt64.toUInt64 &&& Int64.toUInt64 63)).toInt64).toInt32) &&& 255)) 8 1 5) 9 5 ((((a.toUInt64 >>> ((40 : Int32).toInt64.toUInt64 &&& Int64.toUInt64 63)).toInt64).toInt32) &&& 255)) 8 1 6) 66 550 (((a >>> ((0 : Int32).toInt64 &&& 63)) &&& (Int64.ofNat 255)).toInt32)) 66 1 1) 66 551 (((a >>> ((8 : Int32).toInt64 &&& 63)) &&& (Int64.ofNat 255)).toInt32)) 66 1 2) 66 552 (((a >>> ((16 : Int32).toInt64 &&& 63)) &&& (Int64.ofNat 255)).toInt32)) 66 1 3) 66 553 (((a >>> ((24 : Int32).toInt64 &&& 63)) &&& (Int64.ofNat 255)).toInt32)) 66 1 4) 66 554 (((a >>> ((32 : Int32).toInt64 &&& 63)) &&& (Int64.ofNat 255)).toInt32)) 66 1 5) 66 555 (((a >>> ((40 : Int32).toInt64 &&& 63)) &&& (Int64.ofNat 255)).toInt32)) 66 1 6)) rfl ?_
                      refine mz_ifT h9 ?_
                      refine mz_go 4 (c' := (93, [some (.ref 65), some (.long a), none, some (.int b), some (.int 6)], [.int 6], mz_up (mz_up (mz_up (mz_up (mz_up (mz_up (mz_up (mz_up (mz_up (mz_up (mz_up (mz_up (mz_up (mz_up (mz_up (mz_up (mz_up (mz_up (mz_up (mz_up (mz_up (mz_up (mz_up (mz_up (mz_i xs Ln) 9 0 ((((a.toUInt64 >>> ((0 : Int32).toInt64.toUInt64 &&& Int64.toUInt64 63)).toInt64).toInt32) &&& 255)) 8 1 1) 9 1 ((((a.toUInt64 >>> ((8 : Int32).toInt64.toUInt64 &&& Int64.toUInt64 63)).toInt64).toInt32) &&& 255)) 8 1 2) 9 2 ((((a.toUInt64 >>> ((16 : Int32).toInt64.toUInt64 &&& Int64.toUInt64 63)).toInt64).toInt32) &&& 255)) 8 1 3) 9 3 ((((a.toUInt64 >>> ((24 : Int32).toInt64.toUInt64 &&& Int64.toUInt64 63)).toInt64).toInt32) &&& 255)) 8 1 4) 9 4 ((((a.toUInt64 >>> ((32 : Int32).toInt64.toUInt64 &&& Int64.toUInt64 63)).toInt64).toInt32) &&& 255)) 8 1 5) 9 5 ((((a.toUInt64 >>> ((40 : Int32).toInt64.toUInt64 &&& Int64.toUInt64 63)).toInt64).toInt32) &&& 255)) 8 1 6) 66 550 (((a >>> ((0 : Int32).toInt64 &&& 63)) &&& (Int64.ofNat 255)).toInt32)) 66 1 1) 66 551 (((a >>> ((8 : Int32).toInt64 &&& 63)) &&& (Int64.ofNat 255)).toInt32)) 66 1 2) 66 552 (((a >>> ((16 : Int32).toInt64 &&& 63)) &&& (Int64.ofNat 255)).toInt32)) 66 1 3) 66 553 (((a >>> ((24 : Int32).toInt64 &&& 63)) &&& (Int64.ofNat 255)).toInt32)) 66 1 4) 66 554 (((a >>> ((32 : Int32).toInt64 &&& 63)) &&& (Int64.ofNat 255)).toInt32)) 66 1 5) 66 555 (((a >>> ((40 : Int32).toInt64 &&& 63)) &&& (Int64.ofNat 255)).toInt32)) 66 1 6)) rfl ?_
                      exact mz_ret rfl
                  · by_cases h10 : b ≤ 7
                    · refine ⟨7, mz_up (mz_up (mz_up (mz_up (mz_up (mz_up (mz_up (mz_up (mz_up (mz_up (mz_up (mz_up (mz_up (mz_up (mz_i xs Ln) 9 0 ((((a.toUInt64 >>> ((0 : Int32).toInt64.toUInt64 &&& Int64.toUInt64 63)).toInt64).toInt32) &&& 255)) 8 1 1) 9 1 ((((a.toUInt64 >>> ((8 : Int32).toInt64.toUInt64 &&& Int64.toUInt64 63)).toInt64).toInt32) &&& 255)) 8 1 2) 9 2 ((((a.toUInt64 >>> ((16 : Int32).toInt64.toUInt64 &&& Int64.toUInt64 63)).toInt64).toInt32) &&& 255)) 8 1 3) 9 3 ((((a.toUInt64 >>> ((24 : Int32).toInt64.toUInt64 &&& Int64.toUInt64 63)).toInt64).toInt32) &&& 255)) 8 1 4) 9 4 ((((a.toUInt64 >>> ((32 : Int32).toInt64.toUInt64 &&& Int64.toUInt64 63)).toInt64).toInt32) &&& 255)) 8 1 5) 9 5 ((((a.toUInt64 >>> ((40 : Int32).toInt64.toUInt64 &&& Int64.toUInt64 63)).toInt64).toInt32) &&& 255)) 8 1 6) 9 6 ((((a.toUInt64 >>> ((48 : Int32).toInt64.toUInt64 &&& Int64.toUInt64 63)).toInt64).toInt32) &&& 255)) 8 1 7, mz_up (mz_up (mz_up (mz_up (mz_up (mz_up (mz_up (mz_up (mz_up (mz_up (mz_up (mz_up (mz_up (mz_up (mz_up (mz_up (mz_up (mz_up (mz_up (mz_up (mz_up (mz_up (mz_up (mz_up (mz_up (mz_up (mz_up (mz_up (mz_i xs Ln) 9 0 ((((a.toUInt64 >>> ((0 : Int32).toInt64.toUInt64 &&& Int64.toUInt64 63)).toInt64).toInt32) &&& 255)) 8 1 1) 9 1 ((((a.toUInt64 >>> ((8 : Int32).toInt64.toUInt64 &&& Int64.toUInt64 63)).toInt64).toInt32) &&& 255)) 8 1 2) 9 2 ((((a.toUInt64 >>> ((16 : Int32).toInt64.toUInt64 &&& Int64.toUInt64 63)).toInt64).toInt32) &&& 255)) 8 1 3) 9 3 ((((a.toUInt64 >>> ((24 : Int32).toInt64.toUInt64 &&& Int64.toUInt64 63)).toInt64).toInt32) &&& 255)) 8 1 4) 9 4 ((((a.toUInt64 >>> ((32 : Int32).toInt64.toUInt64 &&& Int64.toUInt64 63)).toInt64).toInt32) &&& 255)) 8 1 5) 9 5 ((((a.toUInt64 >>> ((40 : Int32).toInt64.toUInt64 &&& Int64.toUInt64 63)).toInt64).toInt32) &&& 255)) 8 1 6) 9 6 ((((a.toUInt64 >>> ((48 : Int32).toInt64.toUInt64 &&& Int64.toUInt64 63)).toInt64).toInt32) &&& 255)) 8 1 7) 66 550 (((a >>> ((0 : Int32).toInt64 &&& 63)) &&& (Int64.ofNat 255)).toInt32)) 66 1 1) 66 551 (((a >>> ((8 : Int32).toInt64 &&& 63)) &&& (Int64.ofNat 255)).toInt32)) 66 1 2) 66 552 (((a >>> ((16 : Int32).toInt64 &&& 63)) &&& (Int64.ofNat 255)).toInt32)) 66 1 3) 66 553 (((a >>> ((24 : Int32).toInt64 &&& 63)) &&& (Int64.ofNat 255)).toInt32)) 66 1 4) 66 554 (((a >>> ((32 : Int32).toInt64 &&& 63)) &&& (Int64.ofNat 255)).toInt32)) 66 1 5) 66 555 (((a >>> ((40 : Int32).toInt64 &&& 63)) &&& (Int64.ofNat 255)).toInt32)) 66 1 6) 66 556 (((a >>> ((48 : Int32).toInt64 &&& 63)) &&& (Int64.ofNat 255)).toInt32)) 66 1 7, ⟨?_, rfl⟩, ⟨?_, rfl⟩⟩
                      · refine mz_go 3 (c' := (4, [some (.ref 0), some (.long a), none, some (.int b), none, none], [.int 8, .int 1, .int b], (mz_i xs Ln))) rfl ?_
                        refine mz_do (R := mz_r121) (as := [.int b, .int 1, .int 8]) (rest := []) (r1 := some (.int 1)) (m1 := (mz_i xs Ln)) rfl ⟨?_, rfl⟩ ?_
                        · refine mz_go 3 (c' := (if b < 1 then 14 else 5, [some (.int b), some (.int 1), some (.int 8)], [], (mz_i xs Ln))) rfl ?_
                          refine mz_ifF h1 ?_
                          refine mz_go 3 (c' := (if 8 < b then 14 else 10, [some (.int b), some (.int 1), some (.int 8)], [], (mz_i xs Ln))) rfl ?_
                          refine mz_ifF h2 ?_
                          refine mz_go 2 (c' := (15, [some (.int b), some (.int 1), some (.int 8)], [.int 1], (mz_i xs Ln))) rfl ?_
                          exact mz_ret rfl
                        refine mz_go 11 (c' := (if (0 + b) ≤ 60 then 43 else 37, [some (.ref 0), some (.long a), none, some (.int b), some (.ref 8), none], [], (mz_i xs Ln))) rfl ?_
                        refine mz_ifT h3 ?_
                        refine mz_go 5 (c' := (if b ≤ 0 then 92 else 52, [some (.ref 0), some (.long a), none, some (.int b), some (.ref 8), some (.int 0)], [], (mz_i xs Ln))) rfl ?_
                        refine mz_ifF (by have hl : (6 : Int) < (b).toInt := Int32.lt_iff_toInt_lt.mp (Int32.not_le.mp h9); have hu : (b).toInt ≤ (7 : Int) := Int32.le_iff_toInt_le.mp h10; exact Int32.not_le.mpr (Int32.lt_iff_toInt_lt.mpr (show (0 : Int) < (b).toInt by omega))) ?_
                        refine mz_go 24 (c' := (if b ≤ 1 then 92 else 52, [some (.ref 0), some (.long a), none, some (.int b), some (.ref 8), some (.int 1)], [], mz_up (mz_up (mz_i xs Ln) 9 0 ((((a.toUInt64 >>> ((0 : Int32).toInt64.toUInt64 &&& Int64.toUInt64 63)).toInt64).toInt32) &&& 255)) 8 1 1)) rfl ?_
                        refine mz_ifF h4 ?_
                        refine mz_go 24 (c' := (if b ≤ 2 then 92 else 52, [some (.ref 0), some (.long a), none, some (.int b), some (.ref 8), some (.int 2)], [], mz_up (mz_up (mz_up (mz_up (mz_i xs Ln) 9 0 ((((a.toUInt64 >>> ((0 : Int32).toInt64.toUInt64 &&& Int64.toUInt64 63)).toInt64).toInt32) &&& 255)) 8 1 1) 9 1 ((((a.toUInt64 >>> ((8 : Int32).toInt64.toUInt64 &&& Int64.toUInt64 63)).toInt64).toInt32) &&& 255)) 8 1 2)) rfl ?_
                        refine mz_ifF h5 ?_
                        refine mz_go 24 (c' := (if b ≤ 3 then 92 else 52, [some (.ref 0), some (.long a), none, some (.int b), some (.ref 8), some (.int 3)], [], mz_up (mz_up (mz_up (mz_up (mz_up (mz_up (mz_i xs Ln) 9 0 ((((a.toUInt64 >>> ((0 : Int32).toInt64.toUInt64 &&& Int64.toUInt64 63)).toInt64).toInt32) &&& 255)) 8 1 1) 9 1 ((((a.toUInt64 >>> ((8 : Int32).toInt64.toUInt64 &&& Int64.toUInt64 63)).toInt64).toInt32) &&& 255)) 8 1 2) 9 2 ((((a.toUInt64 >>> ((16 : Int32).toInt64.toUInt64 &&& Int64.toUInt64 63)).toInt64).toInt32) &&& 255)) 8 1 3)) rfl ?_
                        refine mz_ifF h6 ?_
                        refine mz_go 24 (c' := (if b ≤ 4 then 92 else 52, [some (.ref 0), some (.long a), none, some (.int b), some (.ref 8), some (.int 4)], [], mz_up (mz_up (mz_up (mz_up (mz_up (mz_up (mz_up (mz_up (mz_i xs Ln) 9 0 ((((a.toUInt64 >>> ((0 : Int32).toInt64.toUInt64 &&& Int64.toUInt64 63)).toInt64).toInt32) &&& 255)) 8 1 1) 9 1 ((((a.toUInt64 >>> ((8 : Int32).toInt64.toUInt64 &&& Int64.toUInt64 63)).toInt64).toInt32) &&& 255)) 8 1 2) 9 2 ((((a.toUInt64 >>> ((16 : Int32).toInt64.toUInt64 &&& Int64.toUInt64 63)).toInt64).toInt32) &&& 255)) 8 1 3) 9 3 ((((a.toUInt64 >>> ((24 : Int32).toInt64.toUInt64 &&& Int64.toUInt64 63)).toInt64).toInt32) &&& 255)) 8 1 4)) rfl ?_
                        refine mz_ifF h7 ?_
                        refine mz_go 24 (c' := (if b ≤ 5 then 92 else 52, [some (.ref 0), some (.long a), none, some (.int b), some (.ref 8), some (.int 5)], [], mz_up (mz_up (mz_up (mz_up (mz_up (mz_up (mz_up (mz_up (mz_up (mz_up (mz_i xs Ln) 9 0 ((((a.toUInt64 >>> ((0 : Int32).toInt64.toUInt64 &&& Int64.toUInt64 63)).toInt64).toInt32) &&& 255)) 8 1 1) 9 1 ((((a.toUInt64 >>> ((8 : Int32).toInt64.toUInt64 &&& Int64.toUInt64 63)).toInt64).toInt32) &&& 255)) 8 1 2) 9 2 ((((a.toUInt64 >>> ((16 : Int32).toInt64.toUInt64 &&& Int64.toUInt64 63)).toInt64).toInt32) &&& 255)) 8 1 3) 9 3 ((((a.toUInt64 >>> ((24 : Int32).toInt64.toUInt64 &&& Int64.toUInt64 63)).toInt64).toInt32) &&& 255)) 8 1 4) 9 4 ((((a.toUInt64 >>> ((32 : Int32).toInt64.toUInt64 &&& Int64.toUInt64 63)).toInt64).toInt32) &&& 255)) 8 1 5)) rfl ?_
                        refine mz_ifF h8 ?_
                        refine mz_go 24 (c' := (if b ≤ 6 then 92 else 52, [some (.ref 0), some (.long a), none, some (.int b), some (.ref 8), some (.int 6)], [], mz_up (mz_up (mz_up (mz_up (mz_up (mz_up (mz_up (mz_up (mz_up (mz_up (mz_up (mz_up (mz_i xs Ln) 9 0 ((((a.toUInt64 >>> ((0 : Int32).toInt64.toUInt64 &&& Int64.toUInt64 63)).toInt64).toInt32) &&& 255)) 8 1 1) 9 1 ((((a.toUInt64 >>> ((8 : Int32).toInt64.toUInt64 &&& Int64.toUInt64 63)).toInt64).toInt32) &&& 255)) 8 1 2) 9 2 ((((a.toUInt64 >>> ((16 : Int32).toInt64.toUInt64 &&& Int64.toUInt64 63)).toInt64).toInt32) &&& 255)) 8 1 3) 9 3 ((((a.toUInt64 >>> ((24 : Int32).toInt64.toUInt64 &&& Int64.toUInt64 63)).toInt64).toInt32) &&& 255)) 8 1 4) 9 4 ((((a.toUInt64 >>> ((32 : Int32).toInt64.toUInt64 &&& Int64.toUInt64 63)).toInt64).toInt32) &&& 255)) 8 1 5) 9 5 ((((a.toUInt64 >>> ((40 : Int32).toInt64.toUInt64 &&& Int64.toUInt64 63)).toInt64).toInt32) &&& 255)) 8 1 6)) rfl ?_
                        refine mz_ifF h9 ?_
                        refine mz_go 24 (c' := (if b ≤ 7 then 92 else 52, [some (.ref 0), some (.long a), none, some (.int b), some (.ref 8), some (.int 7)], [], mz_up (mz_up (mz_up (mz_up (mz_up (mz_up (mz_up (mz_up (mz_up (mz_up (mz_up (mz_up (mz_up (mz_up (mz_i xs Ln) 9 0 ((((a.toUInt64 >>> ((0 : Int32).toInt64.toUInt64 &&& Int64.toUInt64 63)).toInt64).toInt32) &&& 255)) 8 1 1) 9 1 ((((a.toUInt64 >>> ((8 : Int32).toInt64.toUInt64 &&& Int64.toUInt64 63)).toInt64).toInt32) &&& 255)) 8 1 2) 9 2 ((((a.toUInt64 >>> ((16 : Int32).toInt64.toUInt64 &&& Int64.toUInt64 63)).toInt64).toInt32) &&& 255)) 8 1 3) 9 3 ((((a.toUInt64 >>> ((24 : Int32).toInt64.toUInt64 &&& Int64.toUInt64 63)).toInt64).toInt32) &&& 255)) 8 1 4) 9 4 ((((a.toUInt64 >>> ((32 : Int32).toInt64.toUInt64 &&& Int64.toUInt64 63)).toInt64).toInt32) &&& 255)) 8 1 5) 9 5 ((((a.toUInt64 >>> ((40 : Int32).toInt64.toUInt64 &&& Int64.toUInt64 63)).toInt64).toInt32) &&& 255)) 8 1 6) 9 6 ((((a.toUInt64 >>> ((48 : Int32).toInt64.toUInt64 &&& Int64.toUInt64 63)).toInt64).toInt32) &&& 255)) 8 1 7)) rfl ?_
                        refine mz_ifT h10 ?_
                        refine mz_go 2 (c' := (97, [some (.ref 0), some (.long a), none, some (.int b), some (.ref 8), some (.int 7)], [.int 7], mz_up (mz_up (mz_up (mz_up (mz_up (mz_up (mz_up (mz_up (mz_up (mz_up (mz_up (mz_up (mz_up (mz_up (mz_i xs Ln) 9 0 ((((a.toUInt64 >>> ((0 : Int32).toInt64.toUInt64 &&& Int64.toUInt64 63)).toInt64).toInt32) &&& 255)) 8 1 1) 9 1 ((((a.toUInt64 >>> ((8 : Int32).toInt64.toUInt64 &&& Int64.toUInt64 63)).toInt64).toInt32) &&& 255)) 8 1 2) 9 2 ((((a.toUInt64 >>> ((16 : Int32).toInt64.toUInt64 &&& Int64.toUInt64 63)).toInt64).toInt32) &&& 255)) 8 1 3) 9 3 ((((a.toUInt64 >>> ((24 : Int32).toInt64.toUInt64 &&& Int64.toUInt64 63)).toInt64).toInt32) &&& 255)) 8 1 4) 9 4 ((((a.toUInt64 >>> ((32 : Int32).toInt64.toUInt64 &&& Int64.toUInt64 63)).toInt64).toInt32) &&& 255)) 8 1 5) 9 5 ((((a.toUInt64 >>> ((40 : Int32).toInt64.toUInt64 &&& Int64.toUInt64 63)).toInt64).toInt32) &&& 255)) 8 1 6) 9 6 ((((a.toUInt64 >>> ((48 : Int32).toInt64.toUInt64 &&& Int64.toUInt64 63)).toInt64).toInt32) &&& 255)) 8 1 7)) rfl ?_
                        exact mz_ret rfl
                      · refine mz_go 3 (c' := (4, [some (.ref 65), some (.long a), none, some (.int b), none], [.int 8, .int 1, .int b], mz_up (mz_up (mz_up (mz_up (mz_up (mz_up (mz_up (mz_up (mz_up (mz_up (mz_up (mz_up (mz_up (mz_up (mz_i xs Ln) 9 0 ((((a.toUInt64 >>> ((0 : Int32).toInt64.toUInt64 &&& Int64.toUInt64 63)).toInt64).toInt32) &&& 255)) 8 1 1) 9 1 ((((a.toUInt64 >>> ((8 : Int32).toInt64.toUInt64 &&& Int64.toUInt64 63)).toInt64).toInt32) &&& 255)) 8 1 2) 9 2 ((((a.toUInt64 >>> ((16 : Int32).toInt64.toUInt64 &&& Int64.toUInt64 63)).toInt64).toInt32) &&& 255)) 8 1 3) 9 3 ((((a.toUInt64 >>> ((24 : Int32).toInt64.toUInt64 &&& Int64.toUInt64 63)).toInt64).toInt32) &&& 255)) 8 1 4) 9 4 ((((a.toUInt64 >>> ((32 : Int32).toInt64.toUInt64 &&& Int64.toUInt64 63)).toInt64).toInt32) &&& 255)) 8 1 5) 9 5 ((((a.toUInt64 >>> ((40 : Int32).toInt64.toUInt64 &&& Int64.toUInt64 63)).toInt64).toInt32) &&& 255)) 8 1 6) 9 6 ((((a.toUInt64 >>> ((48 : Int32).toInt64.toUInt64 &&& Int64.toUInt64 63)).toInt64).toInt32) &&& 255)) 8 1 7)) rfl ?_
                        refine mz_do (R := mz_r128) (as := [.int b, .int 1, .int 8]) (rest := []) (r1 := some (.int 1)) (m1 := mz_up (mz_up (mz_up (mz_up (mz_up (mz_up (mz_up (mz_up (mz_up (mz_up (mz_up (mz_up (mz_up (mz_up (mz_i xs Ln) 9 0 ((((a.toUInt64 >>> ((0 : Int32).toInt64.toUInt64 &&& Int64.toUInt64 63)).toInt64).toInt32) &&& 255)) 8 1 1) 9 1 ((((a.toUInt64 >>> ((8 : Int32).toInt64.toUInt64 &&& Int64.toUInt64 63)).toInt64).toInt32) &&& 255)) 8 1 2) 9 2 ((((a.toUInt64 >>> ((16 : Int32).toInt64.toUInt64 &&& Int64.toUInt64 63)).toInt64).toInt32) &&& 255)) 8 1 3) 9 3 ((((a.toUInt64 >>> ((24 : Int32).toInt64.toUInt64 &&& Int64.toUInt64 63)).toInt64).toInt32) &&& 255)) 8 1 4) 9 4 ((((a.toUInt64 >>> ((32 : Int32).toInt64.toUInt64 &&& Int64.toUInt64 63)).toInt64).toInt32) &&& 255)) 8 1 5) 9 5 ((((a.toUInt64 >>> ((40 : Int32).toInt64.toUInt64 &&& Int64.toUInt64 63)).toInt64).toInt32) &&& 255)) 8 1 6) 9 6 ((((a.toUInt64 >>> ((48 : Int32).toInt64.toUInt64 &&& Int64.toUInt64 63)).toInt64).toInt32) &&& 255)) 8 1 7) rfl ⟨?_, rfl⟩ ?_
                        · refine mz_go 3 (c' := (if b < 1 then 14 else 5, [some (.int b), some (.int 1), some (.int 8)], [], mz_up (mz_up (mz_up (mz_up (mz_up (mz_up (mz_up (mz_up (mz_up (mz_up (mz_up (mz_up (mz_up (mz_up (mz_i xs Ln) 9 0 ((((a.toUInt64 >>> ((0 : Int32).toInt64.toUInt64 &&& Int64.toUInt64 63)).toInt64).toInt32) &&& 255)) 8 1 1) 9 1 ((((a.toUInt64 >>> ((8 : Int32).toInt64.toUInt64 &&& Int64.toUInt64 63)).toInt64).toInt32) &&& 255)) 8 1 2) 9 2 ((((a.toUInt64 >>> ((16 : Int32).toInt64.toUInt64 &&& Int64.toUInt64 63)).toInt64).toInt32) &&& 255)) 8 1 3) 9 3 ((((a.toUInt64 >>> ((24 : Int32).toInt64.toUInt64 &&& Int64.toUInt64 63)).toInt64).toInt32) &&& 255)) 8 1 4) 9 4 ((((a.toUInt64 >>> ((32 : Int32).toInt64.toUInt64 &&& Int64.toUInt64 63)).toInt64).toInt32) &&& 255)) 8 1 5) 9 5 ((((a.toUInt64 >>> ((40 : Int32).toInt64.toUInt64 &&& Int64.toUInt64 63)).toInt64).toInt32) &&& 255)) 8 1 6) 9 6 ((((a.toUInt64 >>> ((48 : Int32).toInt64.toUInt64 &&& Int64.toUInt64 63)).toInt64).toInt32) &&& 255)) 8 1 7)) rfl ?_
                          refine mz_ifF h1 ?_
                          refine mz_go 3 (c' := (if 8 < b then 14 else 10, [some (.int b), some (.int 1), some (.int 8)], [], mz_up (mz_up (mz_up (mz_up (mz_up (mz_up (mz_up (mz_up (mz_up (mz_up (mz_up (mz_up (mz_up (mz_up (mz_i xs Ln) 9 0 ((((a.toUInt64 >>> ((0 : Int32).toInt64.toUInt64 &&& Int64.toUInt64 63)).toInt64).toInt32) &&& 255)) 8 1 1) 9 1 ((((a.toUInt64 >>> ((8 : Int32).toInt64.toUInt64 &&& Int64.toUInt64 63)).toInt64).toInt32) &&& 255)) 8 1 2) 9 2 ((((a.toUInt64 >>> ((16 : Int32).toInt64.toUInt64 &&& Int64.toUInt64 63)).toInt64).toInt32) &&& 255)) 8 1 3) 9 3 ((((a.toUInt64 >>> ((24 : Int32).toInt64.toUInt64 &&& Int64.toUInt64 63)).toInt64).toInt32) &&& 255)) 8 1 4) 9 4 ((((a.toUInt64 >>> ((32 : Int32).toInt64.toUInt64 &&& Int64.toUInt64 63)).toInt64).toInt32) &&& 255)) 8 1 5) 9 5 ((((a.toUInt64 >>> ((40 : Int32).toInt64.toUInt64 &&& Int64.toUInt64 63)).toInt64).toInt32) &&& 255)) 8 1 6) 9 6 ((((a.toUInt64 >>> ((48 : Int32).toInt64.toUInt64 &&& Int64.toUInt64 63)).toInt64).toInt32) &&& 255)) 8 1 7)) rfl ?_
                          refine mz_ifF h2 ?_
                          refine mz_go 2 (c' := (15, [some (.int b), some (.int 1), some (.int 8)], [.int 1], mz_up (mz_up (mz_up (mz_up (mz_up (mz_up (mz_up (mz_up (mz_up (mz_up (mz_up (mz_up (mz_up (mz_up (mz_i xs Ln) 9 0 ((((a.toUInt64 >>> ((0 : Int32).toInt64.toUInt64 &&& Int64.toUInt64 63)).toInt64).toInt32) &&& 255)) 8 1 1) 9 1 ((((a.toUInt64 >>> ((8 : Int32).toInt64.toUInt64 &&& Int64.toUInt64 63)).toInt64).toInt32) &&& 255)) 8 1 2) 9 2 ((((a.toUInt64 >>> ((16 : Int32).toInt64.toUInt64 &&& Int64.toUInt64 63)).toInt64).toInt32) &&& 255)) 8 1 3) 9 3 ((((a.toUInt64 >>> ((24 : Int32).toInt64.toUInt64 &&& Int64.toUInt64 63)).toInt64).toInt32) &&& 255)) 8 1 4) 9 4 ((((a.toUInt64 >>> ((32 : Int32).toInt64.toUInt64 &&& Int64.toUInt64 63)).toInt64).toInt32) &&& 255)) 8 1 5) 9 5 ((((a.toUInt64 >>> ((40 : Int32).toInt64.toUInt64 &&& Int64.toUInt64 63)).toInt64).toInt32) &&& 255)) 8 1 6) 9 6 ((((a.toUInt64 >>> ((48 : Int32).toInt64.toUInt64 &&& Int64.toUInt64 63)).toInt64).toInt32) &&& 255)) 8 1 7)) rfl ?_
                          exact mz_ret rfl
                        refine mz_go 9 (c' := (if (0 + b) ≤ 60 then 35 else 29, [some (.ref 65), some (.long a), none, some (.int b), none], [], mz_up (mz_up (mz_up (mz_up (mz_up (mz_up (mz_up (mz_up (mz_up (mz_up (mz_up (mz_up (mz_up (mz_up (mz_i xs Ln) 9 0 ((((a.toUInt64 >>> ((0 : Int32).toInt64.toUInt64 &&& Int64.toUInt64 63)).toInt64).toInt32) &&& 255)) 8 1 1) 9 1 ((((a.toUInt64 >>> ((8 : Int32).toInt64.toUInt64 &&& Int64.toUInt64 63)).toInt64).toInt32) &&& 255)) 8 1 2) 9 2 ((((a.toUInt64 >>> ((16 : Int32).toInt64.toUInt64 &&& Int64.toUInt64 63)).toInt64).toInt32) &&& 255)) 8 1 3) 9 3 ((((a.toUInt64 >>> ((24 : Int32).toInt64.toUInt64 &&& Int64.toUInt64 63)).toInt64).toInt32) &&& 255)) 8 1 4) 9 4 ((((a.toUInt64 >>> ((32 : Int32).toInt64.toUInt64 &&& Int64.toUInt64 63)).toInt64).toInt32) &&& 255)) 8 1 5) 9 5 ((((a.toUInt64 >>> ((40 : Int32).toInt64.toUInt64 &&& Int64.toUInt64 63)).toInt64).toInt32) &&& 255)) 8 1 6) 9 6 ((((a.toUInt64 >>> ((48 : Int32).toInt64.toUInt64 &&& Int64.toUInt64 63)).toInt64).toInt32) &&& 255)) 8 1 7)) rfl ?_
                        refine mz_ifT h3 ?_
                        refine mz_go 5 (c' := (if b ≤ 0 then 87 else 44, [some (.ref 65), some (.long a), none, some (.int b), some (.int 0)], [], mz_up (mz_up (mz_up (mz_up (mz_up (mz_up (mz_up (mz_up (mz_up (mz_up (mz_up (mz_up (mz_up (mz_up (mz_i xs Ln) 9 0 ((((a.toUInt64 >>> ((0 : Int32).toInt64.toUInt64 &&& Int64.toUInt64 63)).toInt64).toInt32) &&& 255)) 8 1 1) 9 1 ((((a.toUInt64 >>> ((8 : Int32).toInt64.toUInt64 &&& Int64.toUInt64 63)).toInt64).toInt32) &&& 255)) 8 1 2) 9 2 ((((a.toUInt64 >>> ((16 : Int32).toInt64.toUInt64 &&& Int64.toUInt64 63)).toInt64).toInt32) &&& 255)) 8 1 3) 9 3 ((((a.toUInt64 >>> ((24 : Int32).toInt64.toUInt64 &&& Int64.toUInt64 63)).toInt64).toInt32) &&& 255)) 8 1 4) 9 4 ((((a.toUInt64 >>> ((32 : Int32).toInt64.toUInt64 &&& Int64.toUInt64 63)).toInt64).toInt32) &&& 255)) 8 1 5) 9 5 ((((a.toUInt64 >>> ((40 : Int32).toInt64.toUInt64 &&& Int64.toUInt64 63)).toInt64).toInt32) &&& 255)) 8 1 6) 9 6 ((((a.toUInt64 >>> ((48 : Int32).toInt64.toUInt64 &&& Int64.toUInt64 63)).toInt64).toInt32) &&& 255)) 8 1 7)) rfl ?_
                        refine mz_ifF (by have hl : (6 : Int) < (b).toInt := Int32.lt_iff_toInt_lt.mp (Int32.not_le.mp h9); have hu : (b).toInt ≤ (7 : Int) := Int32.le_iff_toInt_le.mp h10; exact Int32.not_le.mpr (Int32.lt_iff_toInt_lt.mpr (show (0 : Int) < (b).toInt by omega))) ?_
                        refine mz_go 24 (c' := (80, [some (.ref 65), some (.long a), none, some (.int b), some (.int 0)], [.int 1, .int 1, .ref 66], mz_up (mz_up (mz_up (mz_up (mz_up (mz_up (mz_up (mz_up (mz_up (mz_up (mz_up (mz_up (mz_up (mz_up (mz_up (mz_i xs Ln) 9 0 ((((a.toUInt64 >>> ((0 : Int32).toInt64.toUInt64 &&& Int64.toUInt64 63)).toInt64).toInt32) &&& 255)) 8 1 1) 9 1 ((((a.toUInt64 >>> ((8 : Int32).toInt64.toUInt64 &&& Int64.toUInt64 63)).toInt64).toInt32) &&& 255)) 8 1 2) 9 2 ((((a.toUInt64 >>> ((16 : Int32).toInt64.toUInt64 &&& Int64.toUInt64 63)).toInt64).toInt32) &&& 255)) 8 1 3) 9 3 ((((a.toUInt64 >>> ((24 : Int32).toInt64.toUInt64 &&& Int64.toUInt64 63)).toInt64).toInt32) &&& 255)) 8 1 4) 9 4 ((((a.toUInt64 >>> ((32 : Int32).toInt64.toUInt64 &&& Int64.toUInt64 63)).toInt64).toInt32) &&& 255)) 8 1 5) 9 5 ((((a.toUInt64 >>> ((40 : Int32).toInt64.toUInt64 &&& Int64.toUInt64 63)).toInt64).toInt32) &&& 255)) 8 1 6) 9 6 ((((a.toUInt64 >>> ((48 : Int32).toInt64.toUInt64 &&& Int64.toUInt64 63)).toInt64).toInt32) &&& 255)) 8 1 7) 66 550 (((a >>> ((0 : Int32).toInt64 &&& 63)) &&& (Int64.ofNat 255)).toInt32))) rfl ?_
                        refine mz_go 6 (c' := (if b ≤ 1 then 87 else 44, [some (.ref 65), some (.long a), none, some (.int b), some (.int 1)], [], mz_up (mz_up (mz_up (mz_up (mz_up (mz_up (mz_up (mz_up (mz_up (mz_up (mz_up (mz_up (mz_up (mz_up (mz_up (mz_up (mz_i xs Ln) 9 0 ((((a.toUInt64 >>> ((0 : Int32).toInt64.toUInt64 &&& Int64.toUInt64 63)).toInt64).toInt32) &&& 255)) 8 1 1) 9 1 ((((a.toUInt64 >>> ((8 : Int32).toInt64.toUInt64 &&& Int64.toUInt64 63)).toInt64).toInt32) &&& 255)) 8 1 2) 9 2 ((((a.toUInt64 >>> ((16 : Int32).toInt64.toUInt64 &&& Int64.toUInt64 63)).toInt64).toInt32) &&& 255)) 8 1 3) 9 3 ((((a.toUInt64 >>> ((24 : Int32).toInt64.toUInt64 &&& Int64.toUInt64 63)).toInt64).toInt32) &&& 255)) 8 1 4) 9 4 ((((a.toUInt64 >>> ((32 : Int32).toInt64.toUInt64 &&& Int64.toUInt64 63)).toInt64).toInt32) &&& 255)) 8 1 5) 9 5 ((((a.toUInt64 >>> ((40 : Int32).toInt64.toUInt64 &&& Int64.toUInt64 63)).toInt64).toInt32) &&& 255)) 8 1 6) 9 6 ((((a.toUInt64 >>> ((48 : Int32).toInt64.toUInt64 &&& Int64.toUInt64 63)).toInt64).toInt32) &&& 255)) 8 1 7) 66 550 (((a >>> ((0 : Int32).toInt64 &&& 63)) &&& (Int64.ofNat 255)).toInt32)) 66 1 1)) rfl ?_
                        refine mz_ifF h4 ?_
                        refine mz_go 24 (c' := (80, [some (.ref 65), some (.long a), none, some (.int b), some (.int 1)], [.int 2, .int 1, .ref 66], mz_up (mz_up (mz_up (mz_up (mz_up (mz_up (mz_up (mz_up (mz_up (mz_up (mz_up (mz_up (mz_up (mz_up (mz_up (mz_up (mz_up (mz_i xs Ln) 9 0 ((((a.toUInt64 >>> ((0 : Int32).toInt64.toUInt64 &&& Int64.toUInt64 63)).toInt64).toInt32) &&& 255)) 8 1 1) 9 1 ((((a.toUInt64 >>> ((8 : Int32).toInt64.toUInt64 &&& Int64.toUInt64 63)).toInt64).toInt32) &&& 255)) 8 1 2) 9 2 ((((a.toUInt64 >>> ((16 : Int32).toInt64.toUInt64 &&& Int64.toUInt64 63)).toInt64).toInt32) &&& 255)) 8 1 3) 9 3 ((((a.toUInt64 >>> ((24 : Int32).toInt64.toUInt64 &&& Int64.toUInt64 63)).toInt64).toInt32) &&& 255)) 8 1 4) 9 4 ((((a.toUInt64 >>> ((32 : Int32).toInt64.toUInt64 &&& Int64.toUInt64 63)).toInt64).toInt32) &&& 255)) 8 1 5) 9 5 ((((a.toUInt64 >>> ((40 : Int32).toInt64.toUInt64 &&& Int64.toUInt64 63)).toInt64).toInt32) &&& 255)) 8 1 6) 9 6 ((((a.toUInt64 >>> ((48 : Int32).toInt64.toUInt64 &&& Int64.toUInt64 63)).toInt64).toInt32) &&& 255)) 8 1 7) 66 550 (((a >>> ((0 : Int32).toInt64 &&& 63)) &&& (Int64.ofNat 255)).toInt32)) 66 1 1) 66 551 (((a >>> ((8 : Int32).toInt64 &&& 63)) &&& (Int64.ofNat 255)).toInt32))) rfl ?_
                        refine mz_go 6 (c' := (if b ≤ 2 then 87 else 44, [some (.ref 65), some (.long a), none, some (.int b), some (.int 2)], [], mz_up (mz_up (mz_up (mz_up (mz_up (mz_up (mz_up (mz_up (mz_up (mz_up (mz_up (mz_up (mz_up (mz_up (mz_up (mz_up (mz_up (mz_up (mz_i xs Ln) 9 0 ((((a.toUInt64 >>> ((0 : Int32).toInt64.toUInt64 &&& Int64.toUInt64 63)).toInt64).toInt32) &&& 255)) 8 1 1) 9 1 ((((a.toUInt64 >>> ((8 : Int32).toInt64.toUInt64 &&& Int64.toUInt64 63)).toInt64).toInt32) &&& 255)) 8 1 2) 9 2 ((((a.toUInt64 >>> ((16 : Int32).toInt64.toUInt64 &&& Int64.toUInt64 63)).toInt64).toInt32) &&& 255)) 8 1 3) 9 3 ((((a.toUInt64 >>> ((24 : Int32).toInt64.toUInt64 &&& Int64.toUInt64 63)).toInt64).toInt32) &&& 255)) 8 1 4) 9 4 ((((a.toUInt64 >>> ((32 : Int32).toInt64.toUInt64 &&& Int64.toUInt64 63)).toInt64).toInt32) &&& 255)) 8 1 5) 9 5 ((((a.toUInt64 >>> ((40 : Int32).toInt64.toUInt64 &&& Int64.toUInt64 63)).toInt64).toInt32) &&& 255)) 8 1 6) 9 6 ((((a.toUInt64 >>> ((48 : Int32).toInt64.toUInt64 &&& Int64.toUInt64 63)).toInt64).toInt32) &&& 255)) 8 1 7) 66 550 (((a >>> ((0 : Int32).toInt64 &&& 63)) &&& (Int64.ofNat 255)).toInt32)) 66 1 1) 66 551 (((a >>> ((8 : Int32).toInt64 &&& 63)) &&& (Int64.ofNat 255)).toInt32)) 66 1 2)) rfl ?_
                        refine mz_ifF h5 ?_
                        refine mz_go 24 (c' := (80, [some (.ref 65), some (.long a), none, some (.int b), some (.int 2)], [.int 3, .int 1, .ref 66], mz_up (mz_up (mz_up (mz_up (mz_up (mz_up (mz_up (mz_up (mz_up (mz_up (mz_up (mz_up (mz_up (mz_up (mz_up (mz_up (mz_up (mz_up (mz_up (mz_i xs Ln) 9 0 ((((a.toUInt64 >>> ((0 : Int32).toInt64.toUInt64 &&& Int64.toUInt64 63)).toInt64).toInt32) &&& 255)) 8 1 1) 9 1 ((((a.toUInt64 >>> ((8 : Int32).toInt64.toUInt64 &&& Int64.toUInt64 63)).toInt64).toInt32) &&& 255)) 8 1 2) 9 2 ((((a.toUInt64 >>> ((16 : Int32).toInt64.toUInt64 &&& Int64.toUInt64 63)).toInt64).toInt32) &&& 255)) 8 1 3) 9 3 ((((a.toUInt64 >>> ((24 : Int32).toInt64.toUInt64 &&& Int64.toUInt64 63)).toInt64).toInt32) &&& 255)) 8 1 4) 9 4 ((((a.toUInt64 >>> ((32 : Int32).toInt64.toUInt64 &&& Int64.toUInt64 63)).toInt64).toInt32) &&& 255)) 8 1 5) 9 5 ((((a.toUInt64 >>> ((40 : Int32).toInt64.toUInt64 &&& Int64.toUInt64 63)).toInt64).toInt32) &&& 255)) 8 1 6) 9 6 ((((a.toUInt64 >>> ((48 : Int32).toInt64.toUInt64 &&& Int64.toUInt64 63)).toInt64).toInt32) &&& 255)) 8 1 7) 66 550 (((a >>> ((0 : Int32).toInt64 &&& 63)) &&& (Int64.ofNat 255)).toInt32)) 66 1 1) 66 551 (((a >>> ((8 : Int32).toInt64 &&& 63)) &&& (Int64.ofNat 255)).toInt32)) 66 1 2) 66 552 (((a >>> ((16 : Int32).toInt64 &&& 63)) &&& (Int64.ofNat 255)).toInt32))) rfl ?_
                        refine mz_go 6 (c' := (if b ≤ 3 then 87 else 44, [some (.ref 65), some (.long a), none, some (.int b), some (.int 3)], [], mz_up (mz_up (mz_up (mz_up (mz_up (mz_up (mz_up (mz_up (mz_up (mz_up (mz_up (mz_up (mz_up (mz_up (mz_up (mz_up (mz_up (mz_up (mz_up (mz_up (mz_i xs Ln) 9 0 ((((a.toUInt64 >>> ((0 : Int32).toInt64.toUInt64 &&& Int64.toUInt64 63)).toInt64).toInt32) &&& 255)) 8 1 1) 9 1 ((((a.toUInt64 >>> ((8 : Int32).toInt64.toUInt64 &&& Int64.toUInt64 63)).toInt64).toInt32) &&& 255)) 8 1 2) 9 2 ((((a.toUInt64 >>> ((16 : Int32).toInt64.toUInt64 &&& Int64.toUInt64 63)).toInt64).toInt32) &&& 255)) 8 1 3) 9 3 ((((a.toUInt64 >>> ((24 : Int32).toInt64.toUInt64 &&& Int64.toUInt64 63)).toInt64).toInt32) &&& 255)) 8 1 4) 9 4 ((((a.toUInt64 >>> ((32 : Int32).toInt64.toUInt64 &&& Int64.toUInt64 63)).toInt64).toInt32) &&& 255)) 8 1 5) 9 5 ((((a.toUInt64 >>> ((40 : Int32).toInt64.toUInt64 &&& Int64.toUInt64 63)).toInt64).toInt32) &&& 255)) 8 1 6) 9 6 ((((a.toUInt64 >>> ((48 : Int32).toInt64.toUInt64 &&& Int64.toUInt64 63)).toInt64).toInt32) &&& 255)) 8 1 7) 66 550 (((a >>> ((0 : Int32).toInt64 &&& 63)) &&& (Int64.ofNat 255)).toInt32)) 66 1 1) 66 551 (((a >>> ((8 : Int32).toInt64 &&& 63)) &&& (Int64.ofNat 255)).toInt32)) 66 1 2) 66 552 (((a >>> ((16 : Int32).toInt64 &&& 63)) &&& (Int64.ofNat 255)).toInt32)) 66 1 3)) rfl ?_
                        refine mz_ifF h6 ?_
                        refine mz_go 24 (c' := (80, [some (.ref 65), some (.long a), none, some (.int b), some (.int 3)], [.int 4, .int 1, .ref 66], mz_up (mz_up (mz_up (mz_up (mz_up (mz_up (mz_up (mz_up (mz_up (mz_up (mz_up (mz_up (mz_up (mz_up (mz_up (mz_up (mz_up (mz_up (mz_up (mz_up (mz_up (mz_i xs Ln) 9 0 ((((a.toUInt64 >>> ((0 : Int32).toInt64.toUInt64 &&& Int64.toUInt64 63)).toInt64).toInt32) &&& 255)) 8 1 1) 9 1 ((((a.toUInt64 >>> ((8 : Int32).toInt64.toUInt64 &&& Int64.toUInt64 63)).toInt64).toInt32) &&& 255)) 8 1 2) 9 2 ((((a.toUInt64 >>> ((16 : Int32).toInt64.toUInt64 &&& Int64.toUInt64 63)).toInt64).toInt32) &&& 255)) 8 1 3) 9 3 ((((a.toUInt64 >>> ((24 : Int32).toInt64.toUInt64 &&& Int64.toUInt64 63)).toInt64).toInt32) &&& 255)) 8 1 4) 9 4 ((((a.toUInt64 >>> ((32 : Int32).toInt64.toUInt64 &&& Int64.toUInt64 63)).toInt64).toInt32) &&& 255)) 8 1 5) 9 5 ((((a.toUInt64 >>> ((40 : Int32).toInt64.toUInt64 &&& Int64.toUInt64 63)).toInt64).toInt32) &&& 255)) 8 1 6) 9 6 ((((a.toUInt64 >>> ((48 : Int32).toInt64.toUInt64 &&& Int64.toUInt64 63)).toInt64).toInt32) &&& 255)) 8 1 7) 66 550 (((a >>> ((0 : Int32).toInt64 &&& 63)) &&& (Int64.ofNat 255)).toInt32)) 66 1 1) 66 551 (((a >>> ((8 : Int32).toInt64 &&& 63)) &&& (Int64.ofNat 255)).toInt32)) 66 1 2) 66 552 (((a >>> ((16 : Int32).toInt64 &&& 63)) &&& (Int64.ofNat 255)).toInt32)) 66 1 3) 66 553 (((a >>> ((24 : Int32).toInt64 &&& 63)) &&& (Int64.ofNat 255)).toInt32))) rfl ?_
                        refine mz_go 6 (c' := (if b ≤ 4 then 87 else 44, [some (.ref 65), some (.long a), none, some (.int b), some (.int 4)], [], mz_up (mz_up (mz_up (mz_up (mz_up (mz_up (mz_up (mz_up (mz_up (mz_up (mz_up (mz_up (mz_up (mz_up (mz_up (mz_up (mz_up (mz_up (mz_up (mz_up (mz_up (mz_up (mz_i xs Ln) 9 0 ((((a.toUInt64 >>> ((0 : Int32).toInt64.toUInt64 &&& Int64.toUInt64 63)).toInt64).toInt32) &&& 255)) 8 1 1) 9 1 ((((a.toUInt64 >>> ((8 : Int32).toInt64.toUInt64 &&& Int64.toUInt64 63)).toInt64).toInt32) &&& 255)) 8 1 2) 9 2 ((((a.toUInt64 >>> ((16 : Int32).toInt64.toUInt64 &&& Int64.toUInt64 63)).toInt64).toInt32) &&& 255)) 8 1 3) 9 3 ((((a.toUInt64 >>> ((24 : Int32).toInt64.toUInt64 &&& Int64.toUInt64 63)).toInt64).toInt32) &&& 255)) 8 1 4) 9 4 ((((a.toUInt64 >>> ((32 : Int32).toInt64.toUInt64 &&& Int64.toUInt64 63)).toInt64).toInt32) &&& 255)) 8 1 5) 9 5 ((((a.toUInt64 >>> ((40 : Int32).toInt64.toUInt64 &&& Int64.toUInt64 63)).toInt64).toInt32) &&& 255)) 8 1 6) 9 6 ((((a.toUInt64 >>> ((48 : Int32).toInt64.toUInt64 &&& Int64.toUInt64 63)).toInt64).toInt32) &&& 255)) 8 1 7) 66 550 (((a >>> ((0 : Int32).toInt64 &&& 63)) &&& (Int64.ofNat 255)).toInt32)) 66 1 1) 66 551 (((a >>> ((8 : Int32).toInt64 &&& 63)) &&& (Int64.ofNat 255)).toInt32)) 66 1 2) 66 552 (((a >>> ((16 : Int32).toInt64 &&& 63)) &&& (Int64.ofNat 255)).toInt32)) 66 1 3) 66 553 (((a >>> ((24 : Int32).toInt64 &&& 63)) &&& (Int64.ofNat 255)).toInt32)) 66 1 4)) rfl ?_
                        refine mz_ifF h7 ?_
                        refine mz_go 24 (c' := (80, [some (.ref 65), some (.long a), none, some (.int b), some (.int 4)], [.int 5, .int 1, .ref 66], mz_up (mz_up (mz_up (mz_up (mz_up (mz_up (mz_up (mz_up (mz_up (mz_up (mz_up (mz_up (mz_up (mz_up (mz_up (mz_up (mz_up (mz_up (mz_up (mz_up (mz_up (mz_up (mz_up (mz_i xs Ln) 9 0 ((((a.toUInt64 >>> ((0 : Int32).toInt64.toUInt64 &&& Int64.toUInt64 63)).toInt64).toInt32) &&& 255)) 8 1 1) 9 1 ((((a.toUInt64 >>> ((8 : Int32).toInt64.toUInt64 &&& Int64.toUInt64 63)).toInt64).toInt32) &&& 255)) 8 1 2) 9 2 ((((a.toUInt64 >>> ((16 : Int32).toInt64.toUInt64 &&& Int64.toUInt64 63)).toInt64).toInt32) &&& 255)) 8 1 3) 9 3 ((((a.toUInt64 >>> ((24 : Int32).toInt64.toUInt64 &&& Int64.toUInt64 63)).toInt64).toInt32) &&& 255)) 8 1 4) 9 4 ((((a.toUInt64 >>> ((32 : Int32).toInt64.toUInt64 &&& Int64.toUInt64 63)).toInt64).toInt32) &&& 255)) 8 1 5) 9 5 ((((a.toUInt64 >>> ((40 : Int32).toInt64.toUInt64 &&& Int64.toUInt64 63)).toInt64).toInt32) &&& 255)) 8 1 6) 9 6 ((((a.toUInt64 >>> ((48 : Int32).toInt64.toUInt64 &&& Int64.toUInt64 63)).toInt64).toInt32) &&& 255)) 8 1 7) 66 550 (((a >>> ((0 : Int32).toInt64 &&& 63)) &&& (Int64.ofNat 255)).toInt32)) 66 1 1) 66 551 (((a >>> ((8 : Int32).toInt64 &&& 63)) &&& (Int64.ofNat 255)).toInt32)) 66 1 2) 66 552 (((a >>> ((16 : Int32).toInt64 &&& 63)) &&& (Int64.ofNat 255)).toInt32)) 66 1 3) 66 553 (((a >>> ((24 : Int32).toInt64 &&& 63)) &&& (Int64.ofNat 255)).toInt32)) 66 1 4) 66 554 (((a >>> ((32 : Int32).toInt64 &&& 63)) &&& (Int64.ofNat 255)).toInt32))) rfl ?_
                        refine mz_go 6 (c' := (if b ≤ 5 then 87 else 44, [some (.ref 65), some (.long a), none, some (.int b), some (.int 5)], [], mz_up (mz_up (mz_up (mz_up (mz_up (mz_up (mz_up (mz_up (mz_up (mz_up (mz_up (mz_up (mz_up (mz_up (mz_up (mz_up (mz_up (mz_up (mz_up (mz_up (mz_up (mz_up (mz_up (mz_up (mz_i xs Ln) 9 0 ((((a.toUInt64 >>> ((0 : Int32).toInt64.toUInt64 &&& Int64.toUInt64 63)).toInt64).toInt32) &&& 255)) 8 1 1) 9 1 ((((a.toUInt64 >>> ((8 : Int32).toInt64.toUInt64 &&& Int64.toUInt64 63)).toInt64).toInt32) &&& 255)) 8 1 2) 9 2 ((((a.toUInt64 >>> ((16 : Int32).toInt64.toUInt64 &&& Int64.toUInt64 63)).toInt64).toInt32) &&& 255)) 8 1 3) 9 3 ((((a.toUInt64 >>> ((24 : Int32).toInt64.toUInt64 &&& Int64.toUInt64 63)).toInt64).toInt32) &&& 255)) 8 1 4) 9 4 ((((a.toUInt64 >>> ((32 : Int32).toInt64.toUInt64 &&& Int64.toUInt64 63)).toInt64).toInt32) &&& 255)) 8 1 5) 9 5 ((((a.toUInt64 >>> ((40 : Int32).toInt64.toUInt64 &&& Int64.toUInt64 63)).toInt64).toInt32) &&& 255)) 8 1 6) 9 6 ((((a.toUInt64 >>> ((48 : Int32).toInt64.toUInt64 &&& Int64.toUInt64 63)).toInt64).toInt32) &&& 255)) 8 1 7) 66 550 (((a >>> ((0 : Int32).toInt64 &&& 63)) &&& (Int64.ofNat 255)).toInt32)) 66 1 1) 66 551 (((a >>> ((8 : Int32).toInt64 &&& 63)) &&& (Int64.ofNat 255)).toInt32)) 66 1 2) 66 552 (((a >>> ((16 : Int32).toInt64 &&& 63)) &&& (Int64.ofNat 255)).toInt32)) 66 1 3) 66 553 (((a >>> ((24 : Int32).toInt64 &&& 63)) &&& (Int64.ofNat 255)).toInt32)) 66 1 4) 66 554 (((a >>> ((32 : Int32).toInt64 &&& 63)) &&& (Int64.ofNat 255)).toInt32)) 66 1 5)) rfl ?_
                        refine mz_ifF h8 ?_
                        refine mz_go 24 (c' := (80, [some (.ref 65), some (.long a), none, some (.int b), some (.int 5)], [.int 6, .int 1, .ref 66], mz_up (mz_up (mz_up (mz_up (mz_up (mz_up (mz_up (mz_up (mz_up (mz_up (mz_up (mz_up (mz_up (mz_up (mz_up (mz_up (mz_up (mz_up (mz_up (mz_up (mz_up (mz_up (mz_up (mz_up (mz_up (mz_i xs Ln) 9 0 ((((a.toUInt64 >>> ((0 : Int32).toInt64.toUInt64 &&& Int64.toUInt64 63)).toInt64).toInt32) &&& 255)) 8 1 1) 9 1 ((((a.toUInt64 >>> ((8 : Int32).toInt64.toUInt64 &&& Int64.toUInt64 63)).toInt64).toInt32) &&& 255)) 8 1 2) 9 2 ((((a.toUInt64 >>> ((16 : Int32).toInt64.toUInt64 &&& Int64.toUInt64 63)).toInt64).toInt32) &&& 255)) 8 1 3) 9 3 ((((a.toUInt64 >>> ((24 : Int32).toInt64.toUInt64 &&& Int64.toUInt64 63)).toInt64).toInt32) &&& 255)) 8 1 4) 9 4 ((((a.toUInt64 >>> ((32 : Int32).toInt64.toUInt64 &&& Int64.toUInt64 63)).toInt64).toInt32) &&& 255)) 8 1 5) 9 5 ((((a.toUInt64 >>> ((40 : Int32).toInt64.toUInt64 &&& Int64.toUInt64 63)).toInt64).toInt32) &&& 255)) 8 1 6) 9 6 ((((a.toUInt64 >>> ((48 : Int32).toInt64.toUInt64 &&& Int64.toUInt64 63)).toInt64).toInt32) &&& 255)) 8 1 7) 66 550 (((a >>> ((0 : Int32).toInt64 &&& 63)) &&& (Int64.ofNat 255)).toInt32)) 66 1 1) 66 551 (((a >>> ((8 : Int32).toInt64 &&& 63)) &&& (Int64.ofNat 255)).toInt32)) 66 1 2) 66 552 (((a >>> ((16 : Int32).toInt64 &&& 63)) &&& (Int64.ofNat 255)).toInt32)) 66 1 3) 66 553 (((a >>> ((24 : Int32).toInt64 &&& 63)) &&& (Int64.ofNat 255)).toInt32)) 66 1 4) 66 554 (((a >>> ((32 : Int32).toInt64 &&& 63)) &&& (Int64.ofNat 255)).toInt32)) 66 1 5) 66 555 (((a >>> ((40 : Int32).toInt64 &&& 63)) &&& (Int64.ofNat 255)).toInt32))) rfl ?_
                        refine mz_go 6 (c' := (if b ≤ 6 then 87 else 44, [some (.ref 65), some (.long a), none, some (.int b), some (.int 6)], [], mz_up (mz_up (mz_up (mz_up (mz_up (mz_up (mz_up (mz_up (mz_up (mz_up (mz_up (mz_up (mz_up (mz_up (mz_up (mz_up (mz_up (mz_up (mz_up (mz_up (mz_up (mz_up (mz_up (mz_up (mz_up (mz_up (mz_i xs Ln) 9 0 ((((a.toUInt64 >>> ((0 : Int32).toInt64.toUInt64 &&& Int64.toUInt64 63)).toInt64).toInt32) &&& 255)) 8 1 1) 9 1 ((((a.toUInt64 >>> ((8 : Int32).toInt64.toUInt64 &&& Int64.toUInt64 63)).toInt64).toInt32) &&& 255)) 8 1 2) 9 2 ((((a.toUInt64 >>> ((16 : Int32).toInt64.toUInt64 &&& Int64.toUInt64 63)).toInt64).toInt32) &&& 255)) 8 1 3) 9 3 ((((a.toUInt64 >>> ((24 : Int32).toInt64.toUInt64 &&& Int64.toUInt64 63)).toInt64).toInt32) &&& 255)) 8 1 4) 9 4 ((((a.toUInt64 >>> ((32 : Int32).toInt64.toUInt64 &&& Int64.toUInt64 63)).toInt64).toInt32) &&& 255)) 8 1 5) 9 5 ((((a.toUInt64 >>> ((40 : Int32).toInt64.toUInt64 &&& Int64.toUInt64 63)).toInt64).toInt32) &&& 255)) 8 1 6) 9 6 ((((a.toUInt64 >>> ((48 : Int32).toInt64.toUInt64 &&& Int64.toUInt64 63)).toInt64).toInt32) &&& 255)) 8 1 7) 66 550 (((a >>> ((0 : Int32).toInt64 &&& 63)) &&& (Int64.ofNat 255)).toInt32)) 66 1 1) 66 551 (((a >>> ((8 : Int32).toInt64 &&& 63)) &&& (Int64.ofNat 255)).toInt32)) 66 1 2) 66 552 (((a >>> ((16 : Int32).toInt64 &&& 63)) &&& (Int64.ofNat 255)).toInt32)) 66 1 3) 66 553 (((a >>> ((24 : Int32).toInt64 &&& 63)) &&& (Int64.ofNat 255)).toInt32)) 66 1 4) 66 554 (((a >>> ((32 : Int32).toInt64 &&& 63)) &&& (Int64.ofNat 255)).toInt32)) 66 1 5) 66 555 (((a >>> ((40 : Int32).toInt64 &&& 63)) &&& (Int64.ofNat 255)).toInt32)) 66 1 6)) rfl ?_
                        refine mz_ifF h9 ?_
                        refine mz_go 24 (c' := (80, [some (.ref 65), some (.long a), none, some (.int b), some (.int 6)], [.int 7, .int 1, .ref 66], mz_up (mz_up (mz_up (mz_up (mz_up (mz_up (mz_up (mz_up (mz_up (mz_up (mz_up (mz_up (mz_up (mz_up (mz_up (mz_up (mz_up (mz_up (mz_up (mz_up (mz_up (mz_up (mz_up (mz_up (mz_up (mz_up (mz_up (mz_i xs Ln) 9 0 ((((a.toUInt64 >>> ((0 : Int32).toInt64.toUInt64 &&& Int64.toUInt64 63)).toInt64).toInt32) &&& 255)) 8 1 1) 9 1 ((((a.toUInt64 >>> ((8 : Int32).toInt64.toUInt64 &&& Int64.toUInt64 63)).toInt64).toInt32) &&& 255)) 8 1 2) 9 2 ((((a.toUInt64 >>> ((16 : Int32).toInt64.toUInt64 &&& Int64.toUInt64 63)).toInt64).toInt32) &&& 255)) 8 1 3) 9 3 ((((a.toUInt64 >>> ((24 : Int32).toInt64.toUInt64 &&& Int64.toUInt64 63)).toInt64).toInt32) &&& 255)) 8 1 4) 9 4 ((((a.toUInt64 >>> ((32 : Int32).toInt64.toUInt64 &&& Int64.toUInt64 63)).toInt64).toInt32) &&& 255)) 8 1 5) 9 5 ((((a.toUInt64 >>> ((40 : Int32).toInt64.toUInt64 &&& Int64.toUInt64 63)).toInt64).toInt32) &&& 255)) 8 1 6) 9 6 ((((a.toUInt64 >>> ((48 : Int32).toInt64.toUInt64 &&& Int64.toUInt64 63)).toInt64).toInt32) &&& 255)) 8 1 7) 66 550 (((a >>> ((0 : Int32).toInt64 &&& 63)) &&& (Int64.ofNat 255)).toInt32)) 66 1 1) 66 551 (((a >>> ((8 : Int32).toInt64 &&& 63)) &&& (Int64.ofNat 255)).toInt32)) 66 1 2) 66 552 (((a >>> ((16 : Int32).toInt64 &&& 63)) &&& (Int64.ofNat 255)).toInt32)) 66 1 3) 66 553 (((a >>> ((24 : Int32).toInt64 &&& 63)) &&& (Int64.ofNat 255)).toInt32)) 66 1 4) 66 554 (((a >>> ((32 : Int32).toInt64 &&& 63)) &&& (Int64.ofNat 255)).toInt32)) 66 1 5) 66 555 (((a >>> ((40 : Int32).toInt64 &&& 63)) &&& (Int64.ofNat 255)).toInt32)) 66 1 6) 66 556 (((a >>> ((48 : Int32).toInt64 &&& 63)) &&& (Int64.ofNat 255)).toInt32))) rfl ?_
                        refine mz_go 6 (c' := (if b ≤ 7 then 87 else 44, [some (.ref 65), some (.long a), none, some (.int b), some (.int 7)], [], mz_up (mz_up (mz_up (mz_up (mz_up (mz_up (mz_up (mz_up (mz_up (mz_up (mz_up (mz_up (mz_up (mz_up (mz_up (mz_up (mz_up (mz_up (mz_up (mz_up (mz_up (mz_up (mz_up (mz_up (mz_up (mz_up (mz_up (mz_up (mz_i xs Ln) 9 0 ((((a.toUInt64 >>> ((0 : Int32).toInt64.toUInt64 &&& Int64.toUInt64 63)).toInt64).toInt32) &&& 255)) 8 1 1) 9 1 ((((a.toUInt64 >>> ((8 : Int32).toInt64.toUInt64 &&& Int64.toUInt64 63)).toInt64).toInt32) &&& 255)) 8 1 2) 9 2 ((((a.toUInt64 >>> ((16 : Int32).toInt64.toUInt64 &&& Int64.toUInt64 63)).toInt64).toInt32) &&& 255)) 8 1 3) 9 3 ((((a.toUInt64 >>> ((24 : Int32).toInt64.toUInt64 &&& Int64.toUInt64 63)).toInt64).toInt32) &&& 255)) 8 1 4) 9 4 ((((a.toUInt64 >>> ((32 : Int32).toInt64.toUInt64 &&& Int64.toUInt64 63)).toInt64).toInt32) &&& 255)) 8 1 5) 9 5 ((((a.toUInt64 >>> ((40 : Int32).toInt64.toUInt64 &&& Int64.toUInt64 63)).toInt64).toInt32) &&& 255)) 8 1 6) 9 6 ((((a.toUInt64 >>> ((48 : Int32).toInt64.toUInt64 &&& Int64.toUInt64 63)).toInt64).toInt32) &&& 255)) 8 1 7) 66 550 (((a >>> ((0 : Int32).toInt64 &&& 63)) &&& (Int64.ofNat 255)).toInt32)) 66 1 1) 66 551 (((a >>> ((8 : Int32).toInt64 &&& 63)) &&& (Int64.ofNat 255)).toInt32)) 66 1 2) 66 552 (((a >>> ((16 : Int32).toInt64 &&& 63)) &&& (Int64.ofNat 255)).toInt32)) 66 1 3) 66 553 (((a >>> ((24 : Int32).toInt64 &&& 63)) &&& (Int64.ofNat 255)).toInt32)) 66 1 4) 66 554 (((a >>> ((32 : Int32).toInt64 &&& 63)) &&& (Int64.ofNat 255)).toInt32)) 66 1 5) 66 555 (((a >>> ((40 : Int32).toInt64 &&& 63)) &&& (Int64.ofNat 255)).toInt32)) 66 1 6) 66 556 (((a >>> ((48 : Int32).toInt64 &&& 63)) &&& (Int64.ofNat 255)).toInt32)) 66 1 7)) rfl ?_
                        refine mz_ifT h10 ?_
                        refine mz_go 4 (c' := (93, [some (.ref 65), some (.long a), none, some (.int b), some (.int 7)], [.int 7], mz_up (mz_up (mz_up (mz_up (mz_up (mz_up (mz_up (mz_up (mz_up (mz_up (mz_up (mz_up (mz_up (mz_up (mz_up (mz_up (mz_up (mz_up (mz_up (mz_up (mz_up (mz_up (mz_up (mz_up (mz_up (mz_up (mz_up (mz_up (mz_i xs Ln) 9 0 ((((a.toUInt64 >>> ((0 : Int32).toInt64.toUInt64 &&& Int64.toUInt64 63)).toInt64).toInt32) &&& 255)) 8 1 1) 9 1 ((((a.toUInt64 >>> ((8 : Int32).toInt64.toUInt64 &&& Int64.toUInt64 63)).toInt64).toInt32) &&& 255)) 8 1 2) 9 2 ((((a.toUInt64 >>> ((16 : Int32).toInt64.toUInt64 &&& Int64.toUInt64 63)).toInt64).toInt32) &&& 255)) 8 1 3) 9 3 ((((a.toUInt64 >>> ((24 : Int32).toInt64.toUInt64 &&& Int64.toUInt64 63)).toInt64).toInt32) &&& 255)) 8 1 4) 9 4 ((((a.toUInt64 >>> ((32 : Int32).toInt64.toUInt64 &&& Int64.toUInt64 63)).toInt64).toInt32) &&& 255)) 8 1 5) 9 5 ((((a.toUInt64 >>> ((40 : Int32).toInt64.toUInt64 &&& Int64.toUInt64 63)).toInt64).toInt32) &&& 255)) 8 1 6) 9 6 ((((a.toUInt64 >>> ((48 : Int32).toInt64.toUInt64 &&& Int64.toUInt64 63)).toInt64).toInt32) &&& 255)) 8 1 7) 66 550 (((a >>> ((0 : Int32).toInt64 &&& 63)) &&& (Int64.ofNat 255)).toInt32)) 66 1 1) 66 551 (((a >>> ((8 : Int32).toInt64 &&& 63)) &&& (Int64.ofNat 255)).toInt32)) 66 1 2) 66 552 (((a >>> ((16 : Int32).toInt64 &&& 63)) &&& (Int64.ofNat 255)).toInt32)) 66 1 3) 66 553 (((a >>> ((24 : Int32).toInt64 &&& 63)) &&& (Int64.ofNat 255)).toInt32)) 66 1 4) 66 554 (((a >>> ((32 : Int32).toInt64 &&& 63)) &&& (Int64.ofNat 255)).toInt32)) 66 1 5) 66 555 (((a >>> ((40 : Int32).toInt64 &&& 63)) &&& (Int64.ofNat 255)).toInt32)) 66 1 6) 66 556 (((a >>> ((48 : Int32).toInt64 &&& 63)) &&& (Int64.ofNat 255)).toInt32)) 66 1 7)) rfl ?_
                        exact mz_ret rfl
                    · refine ⟨8, mz_up (mz_up (mz_up (mz_up (mz_up (mz_up (mz_up (mz_up (mz_up (mz_up (mz_up (mz_up (mz_up (mz_up (mz_up (mz_up (mz_i xs Ln) 9 0 ((((a.toUInt64 >>> ((0 : Int32).toInt64.toUInt64 &&& Int64.toUInt64 63)).toInt64).toInt32) &&& 255)) 8 1 1) 9 1 ((((a.toUInt64 >>> ((8 : Int32).toInt64.toUInt64 &&& Int64.toUInt64 63)).toInt64).toInt32) &&& 255)) 8 1 2) 9 2 ((((a.toUInt64 >>> ((16 : Int32).toInt64.toUInt64 &&& Int64.toUInt64 63)).toInt64).toInt32) &&& 255)) 8 1 3) 9 3 ((((a.toUInt64 >>> ((24 : Int32).toInt64.toUInt64 &&& Int64.toUInt64 63)).toInt64).toInt32) &&& 255)) 8 1 4) 9 4 ((((a.toUInt64 >>> ((32 : Int32).toInt64.toUInt64 &&& Int64.toUInt64 63)).toInt64).toInt32) &&& 255)) 8 1 5) 9 5 ((((a.toUInt64 >>> ((40 : Int32).toInt64.toUInt64 &&& Int64.toUInt64 63)).toInt64).toInt32) &&& 255)) 8 1 6) 9 6 ((((a.toUInt64 >>> ((48 : Int32).toInt64.toUInt64 &&& Int64.toUInt64 63)).toInt64).toInt32) &&& 255)) 8 1 7) 9 7 ((((a.toUInt64 >>> ((56 : Int32).toInt64.toUInt64 &&& Int64.toUInt64 63)).toInt64).toInt32) &&& 255)) 8 1 8, mz_up (mz_up (mz_up (mz_up (mz_up (mz_up (mz_up (mz_up (mz_up (mz_up (mz_up (mz_up (mz_up (mz_up (mz_up (mz_up (mz_up (mz_up (mz_up (mz_up (mz_up (mz_up (mz_up (mz_up (mz_up (mz_up (mz_up (mz_up (mz_up (mz_up (mz_up (mz_up (mz_i xs Ln) 9 0 ((((a.toUInt64 >>> ((0 : Int32).toInt64.toUInt64 &&& Int64.toUInt64 63)).toInt64).toInt32) &&& 255)) 8 1 1) 9 1 ((((a.toUInt64 >>> ((8 : Int32).toInt64.toUInt64 &&& Int64.toUInt64 63)).toInt64).toInt32) &&& 255)) 8 1 2) 9 2 ((((a.toUInt64 >>> ((16 : Int32).toInt64.toUInt64 &&& Int64.toUInt64 63)).toInt64).toInt32) &&& 255)) 8 1 3) 9 3 ((((a.toUInt64 >>> ((24 : Int32).toInt64.toUInt64 &&& Int64.toUInt64 63)).toInt64).toInt32) &&& 255)) 8 1 4) 9 4 ((((a.toUInt64 >>> ((32 : Int32).toInt64.toUInt64 &&& Int64.toUInt64 63)).toInt64).toInt32) &&& 255)) 8 1 5) 9 5 ((((a.toUInt64 >>> ((40 : Int32).toInt64.toUInt64 &&& Int64.toUInt64 63)).toInt64).toInt32) &&& 255)) 8 1 6) 9 6 ((((a.toUInt64 >>> ((48 : Int32).toInt64.toUInt64 &&& Int64.toUInt64 63)).toInt64).toInt32) &&& 255)) 8 1 7) 9 7 ((((a.toUInt64 >>> ((56 : Int32).toInt64.toUInt64 &&& Int64.toUInt64 63)).toInt64).toInt32) &&& 255)) 8 1 8) 66 550 (((a >>> ((0 : Int32).toInt64 &&& 63)) &&& (Int64.ofNat 255)).toInt32)) 66 1 1) 66 551 (((a >>> ((8 : Int32).toInt64 &&& 63)) &&& (Int64.ofNat 255)).toInt32)) 66 1 2) 66 552 (((a >>> ((16 : Int32).toInt64 &&& 63)) &&& (Int64.ofNat 255)).toInt32)) 66 1 3) 66 553 (((a >>> ((24 : Int32).toInt64 &&& 63)) &&& (Int64.ofNat 255)).toInt32)) 66 1 4) 66 554 (((a >>> ((32 : Int32).toInt64 &&& 63)) &&& (Int64.ofNat 255)).toInt32)) 66 1 5) 66 555 (((a >>> ((40 : Int32).toInt64 &&& 63)) &&& (Int64.ofNat 255)).toInt32)) 66 1 6) 66 556 (((a >>> ((48 : Int32).toInt64 &&& 63)) &&& (Int64.ofNat 255)).toInt32)) 66 1 7) 66 557 (((a >>> ((56 : Int32).toInt64 &&& 63)) &&& (Int64.ofNat 255)).toInt32)) 66 1 8, ⟨?_, rfl⟩, ⟨?_, rfl⟩⟩
                      · refine mz_go 3 (c' := (4, [some (.ref 0), some (.long a), none, some (.int b), none, none], [.int 8, .int 1, .int b], (mz_i xs Ln))) rfl ?_
                        refine mz_do (R := mz_r121) (as := [.int b, .int 1, .int 8]) (rest := []) (r1 := some (.int 1)) (m1 := (mz_i xs Ln)) rfl ⟨?_, rfl⟩ ?_
                        · refine mz_go 3 (c' := (if b < 1 then 14 else 5, [some (.int b), some (.int 1), some (.int 8)], [], (mz_i xs Ln))) rfl ?_
                          refine mz_ifF h1 ?_
                          refine mz_go 3 (c' := (if 8 < b then 14 else 10, [some (.int b), some (.int 1), some (.int 8)], [], (mz_i xs Ln))) rfl ?_
                          refine mz_ifF h2 ?_
                          refine mz_go 2 (c' := (15, [some (.int b), some (.int 1), some (.int 8)], [.int 1], (mz_i xs Ln))) rfl ?_
                          exact mz_ret rfl
                        refine mz_go 11 (c' := (if (0 + b) ≤ 60 then 43 else 37, [some (.ref 0), some (.long a), none, some (.int b), some (.ref 8), none], [], (mz_i xs Ln))) rfl ?_
                        refine mz_ifT h3 ?_
                        refine mz_go 5 (c' := (if b ≤ 0 then 92 else 52, [some (.ref 0), some (.long a), none, some (.int b), some (.ref 8), some (.int 0)], [], (mz_i xs Ln))) rfl ?_
                        refine mz_ifF (by have hl : (7 : Int) < (b).toInt := Int32.lt_iff_toInt_lt.mp (Int32.not_le.mp h10); have hu : (b).toInt ≤ (8 : Int) := Int32.le_iff_toInt_le.mp (Int32.not_lt.mp h2); exact Int32.not_le.mpr (Int32.lt_iff_toInt_lt.mpr (show (0 : Int) < (b).toInt by omega))) ?_
                        refine mz_go 24 (c' := (if b ≤ 1 then 92 else 52, [some (.ref 0), some (.long a), none, some (.int b), some (.ref 8), some (.int 1)], [], mz_up (mz_up (mz_i xs Ln) 9 0 ((((a.toUInt64 >>> ((0 : Int32).toInt64.toUInt64 &&& Int64.toUInt64 63)).toInt64).toInt32) &&& 255)) 8 1 1)) rfl ?_
                        refine mz_ifF h4 ?_
                        refine mz_go 24 (c' := (if b ≤ 2 then 92 else 52, [some (.ref 0), some (.long a), none, some (.int b), some (.ref 8), some (.int 2)], [], mz_up (mz_up (mz_up (mz_up (mz_i xs Ln) 9 0 ((((a.toUInt64 >>> ((0 : Int32).toInt64.toUInt64 &&& Int64.toUInt64 63)).toInt64).toInt32) &&& 255)) 8 1 1) 9 1 ((((a.toUInt64 >>> ((8 : Int32).toInt64.toUInt64 &&& Int64.toUInt64 63)).toInt64).toInt32) &&& 255)) 8 1 2)) rfl ?_
                        refine mz_ifF h5 ?_
                        refine mz_go 24 (c' := (if b ≤ 3 then 92 else 52, [some (.ref 0), some (.long a), none, some (.int b), some (.ref 8), some (.int 3)], [], mz_up (mz_up (mz_up (mz_up (mz_up (mz_up (mz_i xs Ln) 9 0 ((((a.toUInt64 >>> ((0 : Int32).toInt64.toUInt64 &&& Int64.toUInt64 63)).toInt64).toInt32) &&& 255)) 8 1 1) 9 1 ((((a.toUInt64 >>> ((8 : Int32).toInt64.toUInt64 &&& Int64.toUInt64 63)).toInt64).toInt32) &&& 255)) 8 1 2) 9 2 ((((a.toUInt64 >>> ((16 : Int32).toInt64.toUInt64 &&& Int64.toUInt64 63)).toInt64).toInt32) &&& 255)) 8 1 3)) rfl ?_
                        refine mz_ifF h6 ?_
                        refine mz_go 24 (c' := (if b ≤ 4 then 92 else 52, [some (.ref 0), some (.long a), none, some (.int b), some (.ref 8), some (.int 4)], [], mz_up (mz_up (mz_up (mz_up (mz_up (mz_up (mz_up (mz_up (mz_i xs Ln) 9 0 ((((a.toUInt64 >>> ((0 : Int32).toInt64.toUInt64 &&& Int64.toUInt64 63)).toInt64).toInt32) &&& 255)) 8 1 1) 9 1 ((((a.toUInt64 >>> ((8 : Int32).toInt64.toUInt64 &&& Int64.toUInt64 63)).toInt64).toInt32) &&& 255)) 8 1 2) 9 2 ((((a.toUInt64 >>> ((16 : Int32).toInt64.toUInt64 &&& Int64.toUInt64 63)).toInt64).toInt32) &&& 255)) 8 1 3) 9 3 ((((a.toUInt64 >>> ((24 : Int32).toInt64.toUInt64 &&& Int64.toUInt64 63)).toInt64).toInt32) &&& 255)) 8 1 4)) rfl ?_
                        refine mz_ifF h7 ?_
                        refine mz_go 24 (c' := (if b ≤ 5 then 92 else 52, [some (.ref 0), some (.long a), none, some (.int b), some (.ref 8), some (.int 5)], [], mz_up (mz_up (mz_up (mz_up (mz_up (mz_up (mz_up (mz_up (mz_up (mz_up (mz_i xs Ln) 9 0 ((((a.toUInt64 >>> ((0 : Int32).toInt64.toUInt64 &&& Int64.toUInt64 63)).toInt64).toInt32) &&& 255)) 8 1 1) 9 1 ((((a.toUInt64 >>> ((8 : Int32).toInt64.toUInt64 &&& Int64.toUInt64 63)).toInt64).toInt32) &&& 255)) 8 1 2) 9 2 ((((a.toUInt64 >>> ((16 : Int32).toInt64.toUInt64 &&& Int64.toUInt64 63)).toInt64).toInt32) &&& 255)) 8 1 3) 9 3 ((((a.toUInt64 >>> ((24 : Int32).toInt64.toUInt64 &&& Int64.toUInt64 63)).toInt64).toInt32) &&& 255)) 8 1 4) 9 4 ((((a.toUInt64 >>> ((32 : Int32).toInt64.toUInt64 &&& Int64.toUInt64 63)).toInt64).toInt32) &&& 255)) 8 1 5)) rfl ?_
                        refine mz_ifF h8 ?_
                        refine mz_go 24 (c' := (if b ≤ 6 then 92 else 52, [some (.ref 0), some (.long a), none, some (.int b), some (.ref 8), some (.int 6)], [], mz_up (mz_up (mz_up (mz_up (mz_up (mz_up (mz_up (mz_up (mz_up (mz_up (mz_up (mz_up (mz_i xs Ln) 9 0 ((((a.toUInt64 >>> ((0 : Int32).toInt64.toUInt64 &&& Int64.toUInt64 63)).toInt64).toInt32) &&& 255)) 8 1 1) 9 1 ((((a.toUInt64 >>> ((8 : Int32).toInt64.toUInt64 &&& Int64.toUInt64 63)).toInt64).toInt32) &&& 255)) 8 1 2) 9 2 ((((a.toUInt64 >>> ((16 : Int32).toInt64.toUInt64 &&& Int64.toUInt64 63)).toInt64).toInt32) &&& 255)) 8 1 3) 9 3 ((((a.toUInt64 >>> ((24 : Int32).toInt64.toUInt64 &&& Int64.toUInt64 63)).toInt64).toInt32) &&& 255)) 8 1 4) 9 4 ((((a.toUInt64 >>> ((32 : Int32).toInt64.toUInt64 &&& Int64.toUInt64 63)).toInt64).toInt32) &&& 255)) 8 1 5) 9 5 ((((a.toUInt64 >>> ((40 : Int32).toInt64.toUInt64 &&& Int64.toUInt64 63)).toInt64).toInt32) &&& 255)) 8 1 6)) rfl ?_
                        refine mz_ifF h9 ?_
                        refine mz_go 24 (c' := (if b ≤ 7 then 92 else 52, [some (.ref 0), some (.long a), none, some (.int b), some (.ref 8), some (.int 7)], [], mz_up (mz_up (mz_up (mz_up (mz_up (mz_up (mz_up (mz_up (mz_up (mz_up (mz_up (mz_up (mz_up (mz_up (mz_i xs Ln) 9 0 ((((a.toUInt64 >>> ((0 : Int32).toInt64.toUInt64 &&& Int64.toUInt64 63)).toInt64).toInt32) &&& 255)) 8 1 1) 9 1 ((((a.toUInt64 >>> ((8 : Int32).toInt64.toUInt64 &&& Int64.toUInt64 63)).toInt64).toInt32) &&& 255)) 8 1 2) 9 2 ((((a.toUInt64 >>> ((16 : Int32).toInt64.toUInt64 &&& Int64.toUInt64 63)).toInt64).toInt32) &&& 255)) 8 1 3) 9 3 ((((a.toUInt64 >>> ((24 : Int32).toInt64.toUInt64 &&& Int64.toUInt64 63)).toInt64).toInt32) &&& 255)) 8 1 4) 9 4 ((((a.toUInt64 >>> ((32 : Int32).toInt64.toUInt64 &&& Int64.toUInt64 63)).toInt64).toInt32) &&& 255)) 8 1 5) 9 5 ((((a.toUInt64 >>> ((40 : Int32).toInt64.toUInt64 &&& Int64.toUInt64 63)).toInt64).toInt32) &&& 255)) 8 1 6) 9 6 ((((a.toUInt64 >>> ((48 : Int32).toInt64.toUInt64 &&& Int64.toUInt64 63)).toInt64).toInt32) &&& 255)) 8 1 7)) rfl ?_
                        refine mz_ifF h10 ?_
                        refine mz_go 24 (c' := (if b ≤ 8 then 92 else 52, [some (.ref 0), some (.long a), none, some (.int b), some (.ref 8), some (.int 8)], [], mz_up (mz_up (mz_up (mz_up (mz_up (mz_up (mz_up (mz_up (mz_up (mz_up (mz_up (mz_up (mz_up (mz_up (mz_up (mz_up (mz_i xs Ln) 9 0 ((((a.toUInt64 >>> ((0 : Int32).toInt64.toUInt64 &&& Int64.toUInt64 63)).toInt64).toInt32) &&& 255)) 8 1 1) 9 1 ((((a.toUInt64 >>> ((8 : Int32).toInt64.toUInt64 &&& Int64.toUInt64 63)).toInt64).toInt32) &&& 255)) 8 1 2) 9 2 ((((a.toUInt64 >>> ((16 : Int32).toInt64.toUInt64 &&& Int64.toUInt64 63)).toInt64).toInt32) &&& 255)) 8 1 3) 9 3 ((((a.toUInt64 >>> ((24 : Int32).toInt64.toUInt64 &&& Int64.toUInt64 63)).toInt64).toInt32) &&& 255)) 8 1 4) 9 4 ((((a.toUInt64 >>> ((32 : Int32).toInt64.toUInt64 &&& Int64.toUInt64 63)).toInt64).toInt32) &&& 255)) 8 1 5) 9 5 ((((a.toUInt64 >>> ((40 : Int32).toInt64.toUInt64 &&& Int64.toUInt64 63)).toInt64).toInt32) &&& 255)) 8 1 6) 9 6 ((((a.toUInt64 >>> ((48 : Int32).toInt64.toUInt64 &&& Int64.toUInt64 63)).toInt64).toInt32) &&& 255)) 8 1 7) 9 7 ((((a.toUInt64 >>> ((56 : Int32).toInt64.toUInt64 &&& Int64.toUInt64 63)).toInt64).toInt32) &&& 255)) 8 1 8)) rfl ?_
                        refine mz_ifT (by have hl : (7 : Int) < (b).toInt := Int32.lt_iff_toInt_lt.mp (Int32.not_le.mp h10); have hu : (b).toInt ≤ (8 : Int) := Int32.le_iff_toInt_le.mp (Int32.not_lt.mp h2); exact Int32.le_iff_toInt_le.mpr (show (b).toInt ≤ (8 : Int) by omega)) ?_
                        refine mz_go 2 (c' := (97, [some (.ref 0), some (.long a), none, some (.int b), some (.ref 8), some (.int 8)], [.int 8], mz_up (mz_up (mz_up (mz_up (mz_up (mz_up (mz_up (mz_up (mz_up (mz_up (mz_up (mz_up (mz_up (mz_up (mz_up (mz_up (mz_i xs Ln) 9 0 ((((a.toUInt64 >>> ((0 : Int32).toInt64.toUInt64 &&& Int64.toUInt64 63)).toInt64).toInt32) &&& 255)) 8 1 1) 9 1 ((((a.toUInt64 >>> ((8 : Int32).toInt64.toUInt64 &&& Int64.toUInt64 63)).toInt64).toInt32) &&& 255)) 8 1 2) 9 2 ((((a.toUInt64 >>> ((16 : Int32).toInt64.toUInt64 &&& Int64.toUInt64 63)).toInt64).toInt32) &&& 255)) 8 1 3) 9 3 ((((a.toUInt64 >>> ((24 : Int32).toInt64.toUInt64 &&& Int64.toUInt64 63)).toInt64).toInt32) &&& 255)) 8 1 4) 9 4 ((((a.toUInt64 >>> ((32 : Int32).toInt64.toUInt64 &&& Int64.toUInt64 63)).toInt64).toInt32) &&& 255)) 8 1 5) 9 5 ((((a.toUInt64 >>> ((40 : Int32).toInt64.toUInt64 &&& Int64.toUInt64 63)).toInt64).toInt32) &&& 255)) 8 1 6) 9 6 ((((a.toUInt64 >>> ((48 : Int32).toInt64.toUInt64 &&& Int64.toUInt64 63)).toInt64).toInt32) &&& 255)) 8 1 7) 9 7 ((((a.toUInt64 >>> ((56 : Int32).toInt64.toUInt64 &&& Int64.toUInt64 63)).toInt64).toInt32) &&& 255)) 8 1 8)) rfl ?_
                        exact mz_ret rfl
                      · refine mz_go 3 (c' := (4, [some (.ref 65), some (.long a), none, some (.int b), none], [.int 8, .int 1, .int b], mz_up (mz_up (mz_up (mz_up (mz_up (mz_up (mz_up (mz_up (mz_up (mz_up (mz_up (mz_up (mz_up (mz_up (mz_up (mz_up (mz_i xs Ln) 9 0 ((((a.toUInt64 >>> ((0 : Int32).toInt64.toUInt64 &&& Int64.toUInt64 63)).toInt64).toInt32) &&& 255)) 8 1 1) 9 1 ((((a.toUInt64 >>> ((8 : Int32).toInt64.toUInt64 &&& Int64.toUInt64 63)).toInt64).toInt32) &&& 255)) 8 1 2) 9 2 ((((a.toUInt64 >>> ((16 : Int32).toInt64.toUInt64 &&& Int64.toUInt64 63)).toInt64).toInt32) &&& 255)) 8 1 3) 9 3 ((((a.toUInt64 >>> ((24 : Int32).toInt64.toUInt64 &&& Int64.toUInt64 63)).toInt64).toInt32) &&& 255)) 8 1 4) 9 4 ((((a.toUInt64 >>> ((32 : Int32).toInt64.toUInt64 &&& Int64.toUInt64 63)).toInt64).toInt32) &&& 255)) 8 1 5) 9 5 ((((a.toUInt64 >>> ((40 : Int32).toInt64.toUInt64 &&& Int64.toUInt64 63)).toInt64).toInt32) &&& 255)) 8 1 6) 9 6 ((((a.toUInt64 >>> ((48 : Int32).toInt64.toUInt64 &&& Int64.toUInt64 63)).toInt64).toInt32) &&& 255)) 8 1 7) 9 7 ((((a.toUInt64 >>> ((56 : Int32).toInt64.toUInt64 &&& Int64.toUInt64 63)).toInt64).toInt32) &&& 255)) 8 1 8)) rfl ?_
                        refine mz_do (R := mz_r128) (as := [.int b, .int 1, .int 8]) (rest := []) (r1 := some (.int 1)) (m1 := mz_up (mz_up (mz_up (mz_up (mz_up (mz_up (mz_up (mz_up (mz_up (mz_up (mz_up (mz_up (mz_up (mz_up (mz_up (mz_up (mz_i xs Ln) 9 0 ((((a.toUInt64 >>> ((0 : Int32).toInt64.toUInt64 &&& Int64.toUInt64 63)).toInt64).toInt32) &&& 255)) 8 1 1) 9 1 ((((a.toUInt64 >>> ((8 : Int32).toInt64.toUInt64 &&& Int64.toUInt64 63)).toInt64).toInt32) &&& 255)) 8 1 2) 9 2 ((((a.toUInt64 >>> ((16 : Int32).toInt64.toUInt64 &&& Int64.toUInt64 63)).toInt64).toInt32) &&& 255)) 8 1 3) 9 3 ((((a.toUInt64 >>> ((24 : Int32).toInt64.toUInt64 &&& Int64.toUInt64 63)).toInt64).toInt32) &&& 255)) 8 1 4) 9 4 ((((a.toUInt64 >>> ((32 : Int32).toInt64.toUInt64 &&& Int64.toUInt64 63)).toInt64).toInt32) &&& 255)) 8 1 5) 9 5 ((((a.toUInt64 >>> ((40 : Int32).toInt64.toUInt64 &&& Int64.toUInt64 63)).toInt64).toInt32) &&& 255)) 8 1 6) 9 6 ((((a.toUInt64 >>> ((48 : Int32).toInt64.toUInt64 &&& Int64.toUInt64 63)).toInt64).toInt32) &&& 255)) 8 1 7) 9 7 ((((a.toUInt64 >>> ((56 : Int32).toInt64.toUInt64 &&& Int64.toUInt64 63)).toInt64).toInt32) &&& 255)) 8 1 8) rfl ⟨?_, rfl⟩ ?_
                        · refine mz_go 3 (c' := (if b < 1 then 14 else 5, [some (.int b), some (.int 1), some (.int 8)], [], mz_up (mz_up (mz_up (mz_up (mz_up (mz_up (mz_up (mz_up (mz_up (mz_up (mz_up (mz_up (mz_up (mz_up (mz_up (mz_up (mz_i xs Ln) 9 0 ((((a.toUInt64 >>> ((0 : Int32).toInt64.toUInt64 &&& Int64.toUInt64 63)).toInt64).toInt32) &&& 255)) 8 1 1) 9 1 ((((a.toUInt64 >>> ((8 : Int32).toInt64.toUInt64 &&& Int64.toUInt64 63)).toInt64).toInt32) &&& 255)) 8 1 2) 9 2 ((((a.toUInt64 >>> ((16 : Int32).toInt64.toUInt64 &&& Int64.toUInt64 63)).toInt64).toInt32) &&& 255)) 8 1 3) 9 3 ((((a.toUInt64 >>> ((24 : Int32).toInt64.toUInt64 &&& Int64.toUInt64 63)).toInt64).toInt32) &&& 255)) 8 1 4) 9 4 ((((a.toUInt64 >>> ((32 : Int32).toInt64.toUInt64 &&& Int64.toUInt64 63)).toInt64).toInt32) &&& 255)) 8 1 5) 9 5 ((((a.toUInt64 >>> ((40 : Int32).toInt64.toUInt64 &&& Int64.toUInt64 63)).toInt64).toInt32) &&& 255)) 8 1 6) 9 6 ((((a.toUInt64 >>> ((48 : Int32).toInt64.toUInt64 &&& Int64.toUInt64 63)).toInt64).toInt32) &&& 255)) 8 1 7) 9 7 ((((a.toUInt64 >>> ((56 : Int32).toInt64.toUInt64 &&& Int64.toUInt64 63)).toInt64).toInt32) &&& 255)) 8 1 8)) rfl ?_
                          refine mz_ifF h1 ?_
                          refine mz_go 3 (c' := (if 8 < b then 14 else 10, [some (.int b), some (.int 1), some (.int 8)], [], mz_up (mz_up (mz_up (mz_up (mz_up (mz_up (mz_up (mz_up (mz_up (mz_up (mz_up (mz_up (mz_up (mz_up (mz_up (mz_up (mz_i xs Ln) 9 0 ((((a.toUInt64 >>> ((0 : Int32).toInt64.toUInt64 &&& Int64.toUInt64 63)).toInt64).toInt32) &&& 255)) 8 1 1) 9 1 ((((a.toUInt64 >>> ((8 : Int32).toInt64.toUInt64 &&& Int64.toUInt64 63)).toInt64).toInt32) &&& 255)) 8 1 2) 9 2 ((((a.toUInt64 >>> ((16 : Int32).toInt64.toUInt64 &&& Int64.toUInt64 63)).toInt64).toInt32) &&& 255)) 8 1 3) 9 3 ((((a.toUInt64 >>> ((24 : Int32).toInt64.toUInt64 &&& Int64.toUInt64 63)).toInt64).toInt32) &&& 255)) 8 1 4) 9 4 ((((a.toUInt64 >>> ((32 : Int32).toInt64.toUInt64 &&& Int64.toUInt64 63)).toInt64).toInt32) &&& 255)) 8 1 5) 9 5 ((((a.toUInt64 >>> ((40 : Int32).toInt64.toUInt64 &&& Int64.toUInt64 63)).toInt64).toInt32) &&& 255)) 8 1 6) 9 6 ((((a.toUInt64 >>> ((48 : Int32).toInt64.toUInt64 &&& Int64.toUInt64 63)).toInt64).toInt32) &&& 255)) 8 1 7) 9 7 ((((a.toUInt64 >>> ((56 : Int32).toInt64.toUInt64 &&& Int64.toUInt64 63)).toInt64).toInt32) &&& 255)) 8 1 8)) rfl ?_
                          refine mz_ifF h2 ?_
                          refine mz_go 2 (c' := (15, [some (.int b), some (.int 1), some (.int 8)], [.int 1], mz_up (mz_up (mz_up (mz_up (mz_up (mz_up (mz_up (mz_up (mz_up (mz_up (mz_up (mz_up (mz_up (mz_up (mz_up (mz_up (mz_i xs Ln) 9 0 ((((a.toUInt64 >>> ((0 : Int32).toInt64.toUInt64 &&& Int64.toUInt64 63)).toInt64).toInt32) &&& 255)) 8 1 1) 9 1 ((((a.toUInt64 >>> ((8 : Int32).toInt64.toUInt64 &&& Int64.toUInt64 63)).toInt64).toInt32) &&& 255)) 8 1 2) 9 2 ((((a.toUInt64 >>> ((16 : Int32).toInt64.toUInt64 &&& Int64.toUInt64 63)).toInt64).toInt32) &&& 255)) 8 1 3) 9 3 ((((a.toUInt64 >>> ((24 : Int32).toInt64.toUInt64 &&& Int64.toUInt64 63)).toInt64).toInt32) &&& 255)) 8 1 4) 9 4 ((((a.toUInt64 >>> ((32 : Int32).toInt64.toUInt64 &&& Int64.toUInt64 63)).toInt64).toInt32) &&& 255)) 8 1 5) 9 5 ((((a.toUInt64 >>> ((40 : Int32).toInt64.toUInt64 &&& Int64.toUInt64 63)).toInt64).toInt32) &&& 255)) 8 1 6) 9 6 ((((a.toUInt64 >>> ((48 : Int32).toInt64.toUInt64 &&& Int64.toUInt64 63)).toInt64).toInt32) &&& 255)) 8 1 7) 9 7 ((((a.toUInt64 >>> ((56 : Int32).toInt64.toUInt64 &&& Int64.toUInt64 63)).toInt64).toInt32) &&& 255)) 8 1 8)) rfl ?_
                          exact mz_ret rfl
                        refine mz_go 9 (c' := (if (0 + b) ≤ 60 then 35 else 29, [some (.ref 65), some (.long a), none, some (.int b), none], [], mz_up (mz_up (mz_up (mz_up (mz_up (mz_up (mz_up (mz_up (mz_up (mz_up (mz_up (mz_up (mz_up (mz_up (mz_up (mz_up (mz_i xs Ln) 9 0 ((((a.toUInt64 >>> ((0 : Int32).toInt64.toUInt64 &&& Int64.toUInt64 63)).toInt64).toInt32) &&& 255)) 8 1 1) 9 1 ((((a.toUInt64 >>> ((8 : Int32).toInt64.toUInt64 &&& Int64.toUInt64 63)).toInt64).toInt32) &&& 255)) 8 1 2) 9 2 ((((a.toUInt64 >>> ((16 : Int32).toInt64.toUInt64 &&& Int64.toUInt64 63)).toInt64).toInt32) &&& 255)) 8 1 3) 9 3 ((((a.toUInt64 >>> ((24 : Int32).toInt64.toUInt64 &&& Int64.toUInt64 63)).toInt64).toInt32) &&& 255)) 8 1 4) 9 4 ((((a.toUInt64 >>> ((32 : Int32).toInt64.toUInt64 &&& Int64.toUInt64 63)).toInt64).toInt32) &&& 255)) 8 1 5) 9 5 ((((a.toUInt64 >>> ((40 : Int32).toInt64.toUInt64 &&& Int64.toUInt64 63)).toInt64).toInt32) &&& 255)) 8 1 6) 9 6 ((((a.toUInt64 >>> ((48 : Int32).toInt64.toUInt64 &&& Int64.toUInt64 63)).toInt64).toInt32) &&& 255)) 8 1 7) 9 7 ((((a.toUInt64 >>> ((56 : Int32).toInt64.toUInt64 &&& Int64.toUInt64 63)).toInt64).toInt32) &&& 255)) 8 1 8)) rfl ?_
                        refine mz_ifT h3 ?_
                        refine mz_go 5 (c' := (if b ≤ 0 then 87 else 44, [some (.ref 65), some (.long a), none, some (.int b), some (.int 0)], [], mz_up (mz_up (mz_up (mz_up (mz_up (mz_up (mz_up (mz_up (mz_up (mz_up (mz_up (mz_up (mz_up (mz_up (mz_up (mz_up (mz_i xs Ln) 9 0 ((((a.toUInt64 >>> ((0 : Int32).toInt64.toUInt64 &&& Int64.toUInt64 63)).toInt64).toInt32) &&& 255)) 8 1 1) 9 1 ((((a.toUInt64 >>> ((8 : Int32).toInt64.toUInt64 &&& Int64.toUInt64 63)).toInt64).toInt32) &&& 255)) 8 1 2) 9 2 ((((a.toUInt64 >>> ((16 : Int32).toInt64.toUInt64 &&& Int64.toUInt64 63)).toInt64).toInt32) &&& 255)) 8 1 3) 9 3 ((((a.toUInt64 >>> ((24 : Int32).toInt64.toUInt64 &&& Int64.toUInt64 63)).toInt64).toInt32) &&& 255)) 8 1 4) 9 4 ((((a.toUInt64 >>> ((32 : Int32).toInt64.toUInt64 &&& Int64.toUInt64 63)).toInt64).toInt32) &&& 255)) 8 1 5) 9 5 ((((a.toUInt64 >>> ((40 : Int32).toInt64.toUInt64 &&& Int64.toUInt64 63)).toInt64).toInt32) &&& 255)) 8 1 6) 9 6 ((((a.toUInt64 >>> ((48 : Int32).toInt64.toUInt64 &&& Int64.toUInt64 63)).toInt64).toInt32) &&& 255)) 8 1 7) 9 7 ((((a.toUInt64 >>> ((56 : Int32).toInt64.toUInt64 &&& Int64.toUInt64 63)).toInt64).toInt32) &&& 255)) 8 1 8)) rfl ?_
                        refine mz_ifF (by have hl : (7 : Int) < (b).toInt := Int32.lt_iff_toInt_lt.mp (Int32.not_le.mp h10); have hu : (b).toInt ≤ (8 : Int) := Int32.le_iff_toInt_le.mp (Int32.not_lt.mp h2); exact Int32.not_le.mpr (Int32.lt_iff_toInt_lt.mpr (show (0 : Int) < (b).toInt by omega))) ?_
                        refine mz_go 24 (c' := (80, [some (.ref 65), some (.long a), none, some (.int b), some (.int 0)], [.int 1, .int 1, .ref 66], mz_up (mz_up (mz_up (mz_up (mz_up (mz_up (mz_up (mz_up (mz_up (mz_up (mz_up (mz_up (mz_up (mz_up (mz_up (mz_up (mz_up (mz_i xs Ln) 9 0 ((((a.toUInt64 >>> ((0 : Int32).toInt64.toUInt64 &&& Int64.toUInt64 63)).toInt64).toInt32) &&& 255)) 8 1 1) 9 1 ((((a.toUInt64 >>> ((8 : Int32).toInt64.toUInt64 &&& Int64.toUInt64 63)).toInt64).toInt32) &&& 255)) 8 1 2) 9 2 ((((a.toUInt64 >>> ((16 : Int32).toInt64.toUInt64 &&& Int64.toUInt64 63)).toInt64).toInt32) &&& 255)) 8 1 3) 9 3 ((((a.toUInt64 >>> ((24 : Int32).toInt64.toUInt64 &&& Int64.toUInt64 63)).toInt64).toInt32) &&& 255)) 8 1 4) 9 4 ((((a.toUInt64 >>> ((32 : Int32).toInt64.toUInt64 &&& Int64.toUInt64 63)).toInt64).toInt32) &&& 255)) 8 1 5) 9 5 ((((a.toUInt64 >>> ((40 : Int32).toInt64.toUInt64 &&& Int64.toUInt64 63)).toInt64).toInt32) &&& 255)) 8 1 6) 9 6 ((((a.toUInt64 >>> ((48 : Int32).toInt64.toUInt64 &&& Int64.toUInt64 63)).toInt64).toInt32) &&& 255)) 8 1 7) 9 7 ((((a.toUInt64 >>> ((56 : Int32).toInt64.toUInt64 &&& Int64.toUInt64 63)).toInt64).toInt32) &&& 255)) 8 1 8) 66 550 (((a >>> ((0 : Int32).toInt64 &&& 63)) &&& (Int64.ofNat 255)).toInt32))) rfl ?_
                        refine mz_go 6 (c' := (if b ≤ 1 then 87 else 44, [some (.ref 65), some (.long a), none, some (.int b), some (.int 1)], [], mz_up (mz_up (mz_up (mz_up (mz_up (mz_up (mz_up (mz_up (mz_up (mz_up (mz_up (mz_up (mz_up (mz_up (mz_up (mz_up (mz_up (mz_up (mz_i xs Ln) 9 0 ((((a.toUInt64 >>> ((0 : Int32).toInt64.toUInt64 &&& Int64.toUInt64 63)).toInt64).toInt32) &&& 255)) 8 1 1) 9 1 ((((a.toUInt64 >>> ((8 : Int32).toInt64.toUInt64 &&& Int64.toUInt64 63)).toInt64).toInt32) &&& 255)) 8 1 2) 9 2 ((((a.toUInt64 >>> ((16 : Int32).toInt64.toUInt64 &&& Int64.toUInt64 63)).toInt64).toInt32) &&& 255)) 8 1 3) 9 3 ((((a.toUInt64 >>> ((24 : Int32).toInt64.toUInt64 &&& Int64.toUInt64 63)).toInt64).toInt32) &&& 255)) 8 1 4) 9 4 ((((a.toUInt64 >>> ((32 : Int32).toInt64.toUInt64 &&& Int64.toUInt64 63)).toInt64).toInt32) &&& 255)) 8 1 5) 9 5 ((((a.toUInt64 >>> ((40 : Int32).toInt64.toUInt64 &&& Int64.toUInt64 63)).toInt64).toInt32) &&& 255)) 8 1 6) 9 6 ((((a.toUInt64 >>> ((48 : Int32).toInt64.toUInt64 &&& Int64.toUInt64 63)).toInt64).toInt32) &&& 255)) 8 1 7) 9 7 ((((a.toUInt64 >>> ((56 : Int32).toInt64.toUInt64 &&& Int64.toUInt64 63)).toInt64).toInt32) &&& 255)) 8 1 8) 66 550 (((a >>> ((0 : Int32).toInt64 &&& 63)) &&& (Int64.ofNat 255)).toInt32)) 66 1 1)) rfl ?_
                        refine mz_ifF h4 ?_
                        refine mz_go 24 (c' := (80, [some (.ref 65), some (.long a), none, some (.int b), some (.int 1)], [.int 2, .int 1, .ref 66], mz_up (mz_up (mz_up (mz_up (mz_up (mz_up (mz_up (mz_up (mz_up (mz_up (mz_up (mz_up (mz_up (mz_up (mz_up (mz_up (mz_up (mz_up (mz_up (mz_i xs Ln) 9 0 ((((a.toUInt64 >>> ((0 : Int32).toInt64.toUInt64 &&& Int64.toUInt64 63)).toInt64).toInt32) &&& 255)) 8 1 1) 9 1 ((((a.toUInt64 >>> ((8 : Int32).toInt64.toUInt64 &&& Int64.toUInt64 63)).toInt64).toInt32) &&& 255)) 8 1 2) 9 2 ((((a.toUInt64 >>> ((16 : Int32).toInt64.toUInt64 &&& Int64.toUInt64 63)).toInt64).toInt32) &&& 255)) 8 1 3) 9 3 ((((a.toUInt64 >>> ((24 : Int32).toInt64.toUInt64 &&& Int64.toUInt64 63)).toInt64).toInt32) &&& 255)) 8 1 4) 9 4 ((((a.toUInt64 >>> ((32 : Int32).toInt64.toUInt64 &&& Int64.toUInt64 63)).toInt64).toInt32) &&& 255)) 8 1 5) 9 5 ((((a.toUInt64 >>> ((40 : Int32).toInt64.toUInt64 &&& Int64.toUInt64 63)).toInt64).toInt32) &&& 255)) 8 1 6) 9 6 ((((a.toUInt64 >>> ((48 : Int32).toInt64.toUInt64 &&& Int64.toUInt64 63)).toInt64).toInt32) &&& 255)) 8 1 7) 9 7 ((((a.toUInt64 >>> ((56 : Int32).toInt64.toUInt64 &&& Int64.toUInt64 63)).toInt64).toInt32) &&& 255)) 8 1 8) 66 550 (((a >>> ((0 : Int32).toInt64 &&& 63)) &&& (Int64.ofNat 255)).toInt32)) 66 1 1) 66 551 (((a >>> ((8 : Int32).toInt64 &&& 63)) &&& (Int64.ofNat 255)).toInt32))) rfl ?_
                        refine mz_go 6 (c' := (if b ≤ 2 then 87 else 44, [some (.ref 65), some (.long a), none, some (.int b), some (.int 2)], [], mz_up (mz_up (mz_up (mz_up (mz_up (mz_up (mz_up (mz_up (mz_up (mz_up (mz_up (mz_up (mz_up (mz_up (mz_up (mz_up (mz_up (mz_up (mz_up (mz_up (mz_i xs Ln) 9 0 ((((a.toUInt64 >>> ((0 : Int32).toInt64.toUInt64 &&& Int64.toUInt64 63)).toInt64).toInt32) &&& 255)) 8 1 1) 9 1 ((((a.toUInt64 >>> ((8 : Int32).toInt64.toUInt64 &&& Int64.toUInt64 63)).toInt64).toInt32) &&& 255)) 8 1 2) 9 2 ((((a.toUInt64 >>> ((16 : Int32).toInt64.toUInt64 &&& Int64.toUInt64 63)).toInt64).toInt32) &&& 255)) 8 1 3) 9 3 ((((a.toUInt64 >>> ((24 : Int32).toInt64.toUInt64 &&& Int64.toUInt64 63)).toInt64).toInt32) &&& 255)) 8 1 4) 9 4 ((((a.toUInt64 >>> ((32 : Int32).toInt64.toUInt64 &&& Int64.toUInt64 63)).toInt64).toInt32) &&& 255)) 8 1 5) 9 5 ((((a.toUInt64 >>> ((40 : Int32).toInt64.toUInt64 &&& Int64.toUInt64 63)).toInt64).toInt32) &&& 255)) 8 1 6) 9 6 ((((a.toUInt64 >>> ((48 : Int32).toInt64.toUInt64 &&& Int64.toUInt64 63)).toInt64).toInt32) &&& 255)) 8 1 7) 9 7 ((((a.toUInt64 >>> ((56 : Int32).toInt64.toUInt64 &&& Int64.toUInt64 63)).toInt64).toInt32) &&& 255)) 8 1 8) 66 550 (((a >>> ((0 : Int32).toInt64 &&& 63)) &&& (Int64.ofNat 255)).toInt32)) 66 1 1) 66 551 (((a >>> ((8 : Int32).toInt64 &&& 63)) &&& (Int64.ofNat 255)).toInt32)) 66 1 2)) rfl ?_
                        refine mz_ifF h5 ?_
                        refine mz_go 24 (c' := (80, [some (.ref 65), some (.long a), none, some (.int b), some (.int 2)], [.int 3, .int 1, .ref 66], mz_up (mz_up (mz_up (mz_up (mz_up (mz_up (mz_up (mz_up (mz_up (mz_up (mz_up (mz_up (mz_up (mz_up (mz_up (mz_up (mz_up (mz_up (mz_up (mz_up (mz_up (mz_i xs Ln) 9 0 ((((a.toUInt64 >>> ((0 : Int32).toInt64.toUInt64 &&& Int64.toUInt64 63)).toInt64).toInt32) &&& 255)) 8 1 1) 9 1 ((((a.toUInt64 >>> ((8 : Int32).toInt64.toUInt64 &&& Int64.toUInt64 63)).toInt64).toInt32) &&& 255)) 8 1 2) 9 2 ((((a.toUInt64 >>> ((16 : Int32).toInt64.toUInt64 &&& Int64.toUInt64 63)).toInt64).toInt32) &&& 255)) 8 1 3) 9 3 ((((a.toUInt64 >>> ((24 : Int32).toInt64.toUInt64 &&& Int64.toUInt64 63)).toInt64).toInt32) &&& 255)) 8 1 4) 9 4 ((((a.toUInt64 >>> ((32 : Int32).toInt64.toUInt64 &&& Int64.toUInt64 63)).toInt64).toInt32) &&& 255)) 8 1 5) 9 5 ((((a.toUInt64 >>> ((40 : Int32).toInt64.toUInt64 &&& Int64.toUInt64 63)).toInt64).toInt32) &&& 255)) 8 1 6) 9 6 ((((a.toUInt64 >>> ((48 : Int32).toInt64.toUInt64 &&& Int64.toUInt64 63)).toInt64).toInt32) &&& 255)) 8 1 7) 9 7 ((((a.toUInt64 >>> ((56 : Int32).toInt64.toUInt64 &&& Int64.toUInt64 63)).toInt64).toInt32) &&& 255)) 8 1 8) 66 550 (((a >>> ((0 : Int32).toInt64 &&& 63)) &&& (Int64.ofNat 255)).toInt32)) 66 1 1) 66 551 (((a >>> ((8 : Int32).toInt64 &&& 63)) &&& (Int64.ofNat 255)).toInt32)) 66 1 2) 66 552 (((a >>> ((16 : Int32).toInt64 &&& 63)) &&& (Int64.ofNat 255)).toInt32))) rfl ?_
                        refine mz_go 6 (c' := (if b ≤ 3 then 87 else 44, [some (.ref 65), some (.long a), none, some (.int b), some (.int 3)], [], mz_up (mz_up (mz_up (mz_up (mz_up (mz_up (mz_up (mz_up (mz_up (mz_up (mz_up (mz_up (mz_up (mz_up (mz_up (mz_up (mz_up (mz_up (mz_up (mz_up (mz_up (mz_up (mz_i xs Ln) 9 0 ((((a.toUInt64 >>> ((0 : Int32).toInt64.toUInt64 &&& Int64.toUInt64 63)).toInt64).toInt32) &&& 255)) 8 1 1) 9 1 ((((a.toUInt64 >>> ((8 : Int32).toInt64.toUInt64 &&& Int64.toUInt64 63)).toInt64).toInt32) &&& 255)) 8 1 2) 9 2 ((((a.toUInt64 >>> ((16 : Int32).toInt64.toUInt64 &&& Int64.toUInt64 63)).toInt64).toInt32) &&& 255)) 8 1 3) 9 3 ((((a.toUInt64 >>> ((24 : Int32).toInt64.toUInt64 &&& Int64.toUInt64 63)).toInt64).toInt32) &&& 255)) 8 1 4) 9 4 ((((a.toUInt64 >>> ((32 : Int32).toInt64.toUInt64 &&& Int64.toUInt64 63)).toInt64).toInt32) &&& 255)) 8 1 5) 9 5 ((((a.toUInt64 >>> ((40 : Int32).toInt64.toUInt64 &&& Int64.toUInt64 63)).toInt64).toInt32) &&& 255)) 8 1 6) 9 6 ((((a.toUInt64 >>> ((48 : Int32).toInt64.toUInt64 &&& Int64.toUInt64 63)).toInt64).toInt32) &&& 255)) 8 1 7) 9 7 ((((a.toUInt64 >>> ((56 : Int32).toInt64.toUInt64 &&& Int64.toUInt64 63)).toInt64).toInt32) &&& 255)) 8 1 8) 66 550 (((a >>> ((0 : Int32).toInt64 &&& 63)) &&& (Int64.ofNat 255)).toInt32)) 66 1 1) 66 551 (((a >>> ((8 : Int32).toInt64 &&& 63)) &&& (Int64.ofNat 255)).toInt32)) 66 1 2) 66 552 (((a >>> ((16 : Int32).toInt64 &&& 63)) &&& (Int64.ofNat 255)).toInt32)) 66 1 3)) rfl ?_
                        refine mz_ifF h6 ?_
                        refine mz_go 24 (c' := (80, [some (.ref 65), some (.long a), none, some (.int b), some (.int 3)], [.int 4, .int 1, .ref 66], mz_up (mz_up (mz_up (mz_up (mz_up (mz_up (mz_up (mz_up (mz_up (mz_up (mz_up (mz_up (mz_up (mz_up (mz_up (mz_up (mz_up (mz_up (mz_up (mz_up (mz_up (mz_up (mz_up (mz_i xs Ln) 9 0 ((((a.toUInt64 >>> ((0 : Int32).toInt64.toUInt64 &&& Int64.toUInt64 63)).toInt64).toInt32) &&& 255)) 8 1 1) 9 1 ((((a.toUInt64 >>> ((8 : Int32).toInt64.toUInt64 &&& Int64.toUInt64 63)).toInt64).toInt32) &&& 255)) 8 1 2) 9 2 ((((a.toUInt64 >>> ((16 : Int32).toInt64.toUInt64 &&& Int64.toUInt64 63)).toInt64).toInt32) &&& 255)) 8 1 3) 9 3 ((((a.toUInt64 >>> ((24 : Int32).toInt64.toUInt64 &&& Int64.toUInt64 63)).toInt64).toInt32) &&& 255)) 8 1 4) 9 4 ((((a.toUInt64 >>> ((32 : Int32).toInt64.toUInt64 &&& Int64.toUInt64 63)).toInt64).toInt32) &&& 255)) 8 1 5) 9 5 ((((a.toUInt64 >>> ((40 : Int32).toInt64.toUInt64 &&& Int64.toUInt64 63)).toInt64).toInt32) &&& 255)) 8 1 6) 9 6 ((((a.toUInt64 >>> ((48 : Int32).toInt64.toUInt64 &&& Int64.toUInt64 63)).toInt64).toInt32) &&& 255)) 8 1 7) 9 7 ((((a.toUInt64 >>> ((56 : Int32).toInt64.toUInt64 &&& Int64.toUInt64 63)).toInt64).toInt32) &&& 255)) 8 1 8) 66 550 (((a >>> ((0 : Int32).toInt64 &&& 63)) &&& (Int64.ofNat 255)).toInt32)) 66 1 1) 66 551 (((a >>> ((8 : Int32).toInt64 &&& 63)) &&& (Int64.ofNat 255)).toInt32)) 66 1 2) 66 552 (((a >>> ((16 : Int32).toInt64 &&& 63)) &&& (Int64.ofNat 255)).toInt32)) 66 1 3) 66 553 (((a >>> ((24 : Int32).toInt64 &&& 63)) &&& (Int64.ofNat 255)).toInt32))) rfl ?_
                        refine mz_go 6 (c' := (if b ≤ 4 then 87 else 44, [some (.ref 65), some (.long a), none, some (.int b), some (.int 4)], [], mz_up (mz_up (mz_up (mz_up (mz_up (mz_up (mz_up (mz_up (mz_up (mz_up (mz_up (mz_up (mz_up (mz_up (mz_up (mz_up (mz_up (mz_up (mz_up (mz_up (mz_up (mz_up (mz_up (mz_up (mz_i xs Ln) 9 0 ((((a.toUInt64 >>> ((0 : Int32).toInt64.toUInt64 &&& Int64.toUInt64 63)).toInt64).toInt32) &&& 255)) 8 1 1) 9 1 ((((a.toUInt64 >>> ((8 : Int32).toInt64.toUInt64 &&& Int64.toUInt64 63)).toInt64).toInt32) &&& 255)) 8 1 2) 9 2 ((((a.toUInt64 >>> ((16 : Int32).toInt64.toUInt64 &&& Int64.toUInt64 63)).toInt64).toInt32) &&& 255)) 8 1 3) 9 3 ((((a.toUInt64 >>> ((24 : Int32).toInt64.toUInt64 &&& Int64.toUInt64 63)).toInt64).toInt32) &&& 255)) 8 1 4) 9 4 ((((a.toUInt64 >>> ((32 : Int32).toInt64.toUInt64 &&& Int64.toUInt64 63)).toInt64).toInt32) &&& 255)) 8 1 5) 9 5 ((((a.toUInt64 >>> ((40 : Int32).toInt64.toUInt64 &&& Int64.toUInt64 63)).toInt64).toInt32) &&& 255)) 8 1 6) 9 6 ((((a.toUInt64 >>> ((48 : Int32).toInt64.toUInt64 &&& Int64.toUInt64 63)).toInt64).toInt32) &&& 255)) 8 1 7) 9 7 ((((a.toUInt64 >>> ((56 : Int32).toInt64.toUInt64 &&& Int64.toUInt64 63)).toInt64).toInt32) &&& 255)) 8 1 8) 66 550 (((a >>> ((0 : Int32).toInt64 &&& 63)) &&& (Int64.ofNat 255)).toInt32)) 66 1 1) 66 551 (((a >>> ((8 : Int32).toInt64 &&& 63)) &&& (Int64.ofNat 255)).toInt32)) 66 1 2) 66 552 (((a >>> ((16 : Int32).toInt64 &&& 63)) &&& (Int64.ofNat 255)).toInt32)) 66 1 3) 66 553 (((a >>> ((24 : Int32).toInt64 &&& 63)) &&& (Int64.ofNat 255)).toInt32)) 66 1 4)) rfl ?_
                        refine mz_ifF h7 ?_
                        refine mz_go 24 (c' := (80, [some (.ref 65), some (.long a), none, some (.int b), some (.int 4)], [.int 5, .int 1, .ref 66], mz_up (mz_up (mz_up (mz_up (mz_up (mz_up (mz_up (mz_up (mz_up (mz_up (mz_up (mz_up (mz_up (mz_up (mz_up (mz_up (mz_up (mz_up (mz_up (mz_up (mz_up (mz_up (mz_up (mz_up (mz_up (mz_i xs Ln) 9 0 ((((a.toUInt64 >>> ((0 : Int32).toInt64.toUInt64 &&& Int64.toUInt64 63)).toInt64).toInt32) &&& 255)) 8 1 1) 9 1 ((((a.toUInt64 >>> ((8 : Int32).toInt64.toUInt64 &&& Int64.toUInt64 63)).toInt64).toInt32) &&& 255)) 8 1 2) 9 2 ((((a.toUInt64 >>> ((16 : Int32).toInt64.toUInt64 &&& Int64.toUInt64 63)).toInt64).toInt32) &&& 255)) 8 1 3) 9 3 ((((a.toUInt64 >>> ((24 : Int32).toInt64.toUInt64 &&& Int64.toUInt64 63)).toInt64).toInt32) &&& 255)) 8 1 4) 9 4 ((((a.toUInt64 >>> ((32 : Int32).toInt64.toUInt64 &&& Int64.toUInt64 63)).toInt64).toInt32) &&& 255)) 8 1 5) 9 5 ((((a.toUInt64 >>> ((40 : Int32).toInt64.toUInt64 &&& Int64.toUInt64 63)).toInt64).toInt32) &&& 255)) 8 1 6) 9 6 ((((a.toUInt64 >>> ((48 : Int32).toInt64.toUInt64 &&& Int64.toUInt64 63)).toInt64).toInt32) &&& 255)) 8 1 7) 9 7 ((((a.toUInt64 >>> ((56 : Int32).toInt64.toUInt64 &&& Int64.toUInt64 63)).toInt64).toInt32) &&& 255)) 8 1 8) 66 550 (((a >>> ((0 : Int32).toInt64 &&& 63)) &&& (Int64.ofNat 255)).toInt32)) 66 1 1) 66 551 (((a >>> ((8 : Int32).toInt64 &&& 63)) &&& (Int64.ofNat 255)).toInt32)) 66 1 2) 66 552 (((a >>> ((16 : Int32).toInt64 &&& 63)) &&& (Int64.ofNat 255)).toInt32)) 66 1 3) 66 553 (((a >>> ((24 : Int32).toInt64 &&& 63)) &&& (Int64.ofNat 255)).toInt32)) 66 1 4) 66 554 (((a >>> ((32 : Int32).toInt64 &&& 63)) &&& (Int64.ofNat 255)).toInt32))) rfl ?_
                        refine mz_go 6 (c' := (if b ≤ 5 then 87 else 44, [some (.ref 65), some (.long a), none, some (.int b), some (.int 5)], [], mz_up (mz_up (mz_up (mz_up (mz_up (mz_up (mz_up (mz_up (mz_up (mz_up (mz_up (mz_up (mz_up (mz_up (mz_up (mz_up (mz_up (mz_up (mz_up (mz_up (mz_up (mz_up (mz_up (mz_up (mz_up (mz_up (mz_i xs Ln) 9 0 ((((a.toUInt64 >>> ((0 : Int32).toInt64.toUInt64 &&& Int64.toUInt64 63)).toInt64).toInt32) &&& 255)) 8 1 1) 9 1 ((((a.toUInt64 >>> ((8 : Int32).toInt64.toUInt64 &&& Int64.toUInt64 63)).toInt64).toInt32) &&& 255)) 8 1 2) 9 2 ((((a.toUInt64 >>> ((16 : Int32).toInt64.toUInt64 &&& Int64.toUInt64 63)).toInt64).toInt32) &&& 255)) 8 1 3) 9 3 ((((a.toUInt64 >>> ((24 : Int32).toInt64.toUInt64 &&& Int64.toUInt64 63)).toInt64).toInt32) &&& 255)) 8 1 4) 9 4 ((((a.toUInt64 >>> ((32 : Int32).toInt64.toUInt64 &&& Int64.toUInt64 63)).toInt64).toInt32) &&& 255)) 8 1 5) 9 5 ((((a.toUInt64 >>> ((40 : Int32).toInt64.toUInt64 &&& Int64.toUInt64 63)).toInt64).toInt32) &&& 255)) 8 1 6) 9 6 ((((a.toUInt64 >>> ((48 : Int32).toInt64.toUInt64 &&& Int64.toUInt64 63)).toInt64).toInt32) &&& 255)) 8 1 7) 9 7 ((((a.toUInt64 >>> ((56 : Int32).toInt64.toUInt64 &&& Int64.toUInt64 63)).toInt64).toInt32) &&& 255)) 8 1 8) 66 550 (((a >>> ((0 : Int32).toInt64 &&& 63)) &&& (Int64.ofNat 255)).toInt32)) 66 1 1) 66 551 (((a >>> ((8 : Int32).toInt64 &&& 63)) &&& (Int64.ofNat 255)).toInt32)) 66 1 2) 66 552 (((a >>> ((16 : Int32).toInt64 &&& 63)) &&& (Int64.ofNat 255)).toInt32)) 66 1 3) 66 553 (((a >>> ((24 : Int32).toInt64 &&& 63)) &&& (Int64.ofNat 255)).toInt32)) 66 1 4) 66 554 (((a >>> ((32 : Int32).toInt64 &&& 63)) &&& (Int64.ofNat 255)).toInt32)) 66 1 5)) rfl ?_
                        refine mz_ifF h8 ?_
                        refine mz_go 24 (c' := (80, [some (.ref 65), some (.long a), none, some (.int b), some (.int 5)], [.int 6, .int 1, .ref 66], mz_up (mz_up (mz_up (mz_up (mz_up (mz_up (mz_up (mz_up (mz_up (mz_up (mz_up (mz_up (mz_up (mz_up (mz_up (mz_up (mz_up (mz_up (mz_up (mz_up (mz_up (mz_up (mz_up (mz_up (mz_up (mz_up (mz_up (mz_i xs Ln) 9 0 ((((a.toUInt64 >>> ((0 : Int32).toInt64.toUInt64 &&& Int64.toUInt64 63)).toInt64).toInt32) &&& 255)) 8 1 1) 9 1 ((((a.toUInt64 >>> ((8 : Int32).toInt64.toUInt64 &&& Int64.toUInt64 63)).toInt64).toInt32) &&& 255)) 8 1 2) 9 2 ((((a.toUInt64 >>> ((16 : Int32).toInt64.toUInt64 &&& Int64.toUInt64 63)).toInt64).toInt32) &&& 255)) 8 1 3) 9 3 ((((a.toUInt64 >>> ((24 : Int32).toInt64.toUInt64 &&& Int64.toUInt64 63)).toInt64).toInt32) &&& 255)) 8 1 4) 9 4 ((((a.toUInt64 >>> ((32 : Int32).toInt64.toUInt64 &&& Int64.toUInt64 63)).toInt64).toInt32) &&& 255)) 8 1 5) 9 5 ((((a.toUInt64 >>> ((40 : Int32).toInt64.toUInt64 &&& Int64.toUInt64 63)).toInt64).toInt32) &&& 255)) 8 1 6) 9 6 ((((a.toUInt64 >>> ((48 : Int32).toInt64.toUInt64 &&& Int64.toUInt64 63)).toInt64).toInt32) &&& 255)) 8 1 7) 9 7 ((((a.toUInt64 >>> ((56 : Int32).toInt64.toUInt64 &&& Int64.toUInt64 63)).toInt64).toInt32) &&& 255)) 8 1 8) 66 550 (((a >>> ((0 : Int32).toInt64 &&& 63)) &&& (Int64.ofNat 255)).toInt32)) 66 1 1) 66 551 (((a >>> ((8 : Int32).toInt64 &&& 63)) &&& (Int64.ofNat 255)).toInt32)) 66 1 2) 66 552 (((a >>> ((16 : Int32).toInt64 &&& 63)) &&& (Int64.ofNat 255)).toInt32)) 66 1 3) 66 553 (((a >>> ((24 : Int32).toInt64 &&& 63)) &&& (Int64.ofNat 255)).toInt32)) 66 1 4) 66 554 (((a >>> ((32 : Int32).toInt64 &&& 63)) &&& (Int64.ofNat 255)).toInt32)) 66 1 5) 66 555 (((a >>> ((40 : Int32).toInt64 &&& 63)) &&& (Int64.ofNat 255)).toInt32))) rfl ?_
                        refine mz_go 6 (c' := (if b ≤ 6 then 87 else 44, [some (.ref 65), some (.long a), none, some (.int b), some (.int 6)], [], mz_up (mz_up (mz_up (mz_up (mz_up (mz_up (mz_up (mz_up (mz_up (mz_up (mz_up (mz_up (mz_up (mz_up (mz_up (mz_up (mz_up (mz_up (mz_up (mz_up (mz_up (mz_up (mz_up (mz_up (mz_up (mz_up (mz_up (mz_up (mz_i xs Ln) 9 0 ((((a.toUInt64 >>> ((0 : Int32).toInt64.toUInt64 &&& Int64.toUInt64 63)).toInt64).toInt32) &&& 255)) 8 1 1) 9 1 ((((a.toUInt64 >>> ((8 : Int32).toInt64.toUInt64 &&& Int64.toUInt64 63)).toInt64).toInt32) &&& 255)) 8 1 2) 9 2 ((((a.toUInt64 >>> ((16 : Int32).toInt64.toUInt64 &&& Int64.toUInt64 63)).toInt64).toInt32) &&& 255)) 8 1 3) 9 3 ((((a.toUInt64 >>> ((24 : Int32).toInt64.toUInt64 &&& Int64.toUInt64 63)).toInt64).toInt32) &&& 255)) 8 1 4) 9 4 ((((a.toUInt64 >>> ((32 : Int32).toInt64.toUInt64 &&& Int64.toUInt64 63)).toInt64).toInt32) &&& 255)) 8 1 5) 9 5 ((((a.toUInt64 >>> ((40 : Int32).toInt64.toUInt64 &&& Int64.toUInt64 63)).toInt64).toInt32) &&& 255)) 8 1 6) 9 6 ((((a.toUInt64 >>> ((48 : Int32).toInt64.toUInt64 &&& Int64.toUInt64 63)).toInt64).toInt32) &&& 255)) 8 1 7) 9 7 ((((a.toUInt64 >>> ((56 : Int32).toInt64.toUInt64 &&& Int64.toUInt64 63)).toInt64).toInt32) &&& 255)) 8 1 8) 66 550 (((a >>> ((0 : Int32).toInt64 &&& 63)) &&& (Int64.ofNat 255)).toInt32)) 66 1 1) 66 551 (((a >>> ((8 : Int32).toInt64 &&& 63)) &&& (Int64.ofNat 255)).toInt32)) 66 1 2) 66 552 (((a >>> ((16 : Int32).toInt64 &&& 63)) &&& (Int64.ofNat 255)).toInt32)) 66 1 3) 66 553 (((a >>> ((24 : Int32).toInt64 &&& 63)) &&& (Int64.ofNat 255)).toInt32)) 66 1 4) 66 554 (((a >>> ((32 : Int32).toInt64 &&& 63)) &&& (Int64.ofNat 255)).toInt32)) 66 1 5) 66 555 (((a >>> ((40 : Int32).toInt64 &&& 63)) &&& (Int64.ofNat 255)).toInt32)) 66 1 6)) rfl ?_
                        refine mz_ifF h9 ?_
                        refine mz_go 24 (c' := (80, [some (.ref 65), some (.long a), none, some (.int b), some (.int 6)], [.int 7, .int 1, .ref 66], mz_up (mz_up (mz_up (mz_up (mz_up (mz_up (mz_up (mz_up (mz_up (mz_up (mz_up (mz_up (mz_up (mz_up (mz_up (mz_up (mz_up (mz_up (mz_up (mz_up (mz_up (mz_up (mz_up (mz_up (mz_up (mz_up (mz_up (mz_up (mz_up (mz_i xs Ln) 9 0 ((((a.toUInt64 >>> ((0 : Int32).toInt64.toUInt64 &&& Int64.toUInt64 63)).toInt64).toInt32) &&& 255)) 8 1 1) 9 1 ((((a.toUInt64 >>> ((8 : Int32).toInt64.toUInt64 &&& Int64.toUInt64 63)).toInt64).toInt32) &&& 255)) 8 1 2) 9 2 ((((a.toUInt64 >>> ((16 : Int32).toInt64.toUInt64 &&& Int64.toUInt64 63)).toInt64).toInt32) &&& 255)) 8 1 3) 9 3 ((((a.toUInt64 >>> ((24 : Int32).toInt64.toUInt64 &&& Int64.toUInt64 63)).toInt64).toInt32) &&& 255)) 8 1 4) 9 4 ((((a.toUInt64 >>> ((32 : Int32).toInt64.toUInt64 &&& Int64.toUInt64 63)).toInt64).toInt32) &&& 255)) 8 1 5) 9 5 ((((a.toUInt64 >>> ((40 : Int32).toInt64.toUInt64 &&& Int64.toUInt64 63)).toInt64).toInt32) &&& 255)) 8 1 6) 9 6 ((((a.toUInt64 >>> ((48 : Int32).toInt64.toUInt64 &&& Int64.toUInt64 63)).toInt64).toInt32) &&& 255)) 8 1 7) 9 7 ((((a.toUInt64 >>> ((56 : Int32).toInt64.toUInt64 &&& Int64.toUInt64 63)).toInt64).toInt32) &&& 255)) 8 1 8) 66 550 (((a >>> ((0 : Int32).toInt64 &&& 63)) &&& (Int64.ofNat 255)).toInt32)) 66 1 1) 66 551 (((a >>> ((8 : Int32).toInt64 &&& 63)) &&& (Int64.ofNat 255)).toInt32)) 66 1 2) 66 552 (((a >>> ((16 : Int32).toInt64 &&& 63)) &&& (Int64.ofNat 255)).toInt32)) 66 1 3) 66 553 (((a >>> ((24 : Int32).toInt64 &&& 63)) &&& (Int64.ofNat 255)).toInt32)) 66 1 4) 66 554 (((a >>> ((32 : Int32).toInt64 &&& 63)) &&& (Int64.ofNat 255)).toInt32)) 66 1 5) 66 555 (((a >>> ((40 : Int32).toInt64 &&& 63)) &&& (Int64.ofNat 255)).toInt32)) 66 1 6) 66 556 (((a >>> ((48 : Int32).toInt64 &&& 63)) &&& (Int64.ofNat 255)).toInt32))) rfl ?_
                        refine mz_go 6 (c' := (if b ≤ 7 then 87 else 44, [some (.ref 65), some (.long a), none, some (.int b), some (.int 7)], [], mz_up (mz_up (mz_up (mz_up (mz_up (mz_up (mz_up (mz_up (mz_up (mz_up (mz_up (mz_up (mz_up (mz_up (mz_up (mz_up (mz_up (mz_up (mz_up (mz_up (mz_up (mz_up (mz_up (mz_up (mz_up (mz_up (mz_up (mz_up (mz_up (mz_up (mz_i xs Ln) 9 0 ((((a.toUInt64 >>> ((0 : Int32).toInt64.toUInt64 &&& Int64.toUInt64 63)).toInt64).toInt32) &&& 255)) 8 1 1) 9 1 ((((a.toUInt64 >>> ((8 : Int32).toInt64.toUInt64 &&& Int64.toUInt64 63)).toInt64).toInt32) &&& 255)) 8 1 2) 9 2 ((((a.toUInt64 >>> ((16 : Int32).toInt64.toUInt64 &&& Int64.toUInt64 63)).toInt64).toInt32) &&& 255)) 8 1 3) 9 3 ((((a.toUInt64 >>> ((24 : Int32).toInt64.toUInt64 &&& Int64.toUInt64 63)).toInt64).toInt32) &&& 255)) 8 1 4) 9 4 ((((a.toUInt64 >>> ((32 : Int32).toInt64.toUInt64 &&& Int64.toUInt64 63)).toInt64).toInt32) &&& 255)) 8 1 5) 9 5 ((((a.toUInt64 >>> ((40 : Int32).toInt64.toUInt64 &&& Int64.toUInt64 63)).toInt64).toInt32) &&& 255)) 8 1 6) 9 6 ((((a.toUInt64 >>> ((48 : Int32).toInt64.toUInt64 &&& Int64.toUInt64 63)).toInt64).toInt32) &&& 255)) 8 1 7) 9 7 ((((a.toUInt64 >>> ((56 : Int32).toInt64.toUInt64 &&& Int64.toUInt64 63)).toInt64).toInt32) &&& 255)) 8 1 8) 66 550 (((a >>> ((0 : Int32).toInt64 &&& 63)) &&& (Int64.ofNat 255)).toInt32)) 66 1 1) 66 551 (((a >>> ((8 : Int32).toInt64 &&& 63)) &&& (Int64.ofNat 255)).toInt32)) 66 1 2) 66 552 (((a >>> ((16 : Int32).toInt64 &&& 63)) &&& (Int64.ofNat 255)).toInt32)) 66 1 3) 66 553 (((a >>> ((24 : Int32).toInt64 &&& 63)) &&& (Int64.ofNat 255)).toInt32)) 66 1 4) 66 554 (((a >>> ((32 : Int32).toInt64 &&& 63)) &&& (Int64.ofNat 255)).toInt32)) 66 1 5) 66 555 (((a >>> ((40 : Int32).toInt64 &&& 63)) &&& (Int64.ofNat 255)).toInt32)) 66 1 6) 66 556 (((a >>> ((48 : Int32).toInt64 &&& 63)) &&& (Int64.ofNat 255)).toInt32)) 66 1 7)) rfl ?_
                        refine mz_ifF h10 ?_
                        refine mz_go 24 (c' := (80, [some (.ref 65), some (.long a), none, some (.int b), some (.int 7)], [.int 8, .int 1, .ref 66], mz_up (mz_up (mz_up (mz_up (mz_up (mz_up (mz_up (mz_up (mz_up (mz_up (mz_up (mz_up (mz_up (mz_up (mz_up (mz_up (mz_up (mz_up (mz_up (mz_up (mz_up (mz_up (mz_up (mz_up (mz_up (mz_up (mz_up (mz_up (mz_up (mz_up (mz_up (mz_i xs Ln) 9 0 ((((a.toUInt64 >>> ((0 : Int32).toInt64.toUInt64 &&& Int64.toUInt64 63)).toInt64).toInt32) &&& 255)) 8 1 1) 9 1 ((((a.toUInt64 >>> ((8 : Int32).toInt64.toUInt64 &&& Int64.toUInt64 63)).toInt64).toInt32) &&& 255)) 8 1 2) 9 2 ((((a.toUInt64 >>> ((16 : Int32).toInt64.toUInt64 &&& Int64.toUInt64 63)).toInt64).toInt32) &&& 255)) 8 1 3) 9 3 ((((a.toUInt64 >>> ((24 : Int32).toInt64.toUInt64 &&& Int64.toUInt64 63)).toInt64).toInt32) &&& 255)) 8 1 4) 9 4 ((((a.toUInt64 >>> ((32 : Int32).toInt64.toUInt64 &&& Int64.toUInt64 63)).toInt64).toInt32) &&& 255)) 8 1 5) 9 5 ((((a.toUInt64 >>> ((40 : Int32).toInt64.toUInt64 &&& Int64.toUInt64 63)).toInt64).toInt32) &&& 255)) 8 1 6) 9 6 ((((a.toUInt64 >>> ((48 : Int32).toInt64.toUInt64 &&& Int64.toUInt64 63)).toInt64).toInt32) &&& 255)) 8 1 7) 9 7 ((((a.toUInt64 >>> ((56 : Int32).toInt64.toUInt64 &&& Int64.toUInt64 63)).toInt64).toInt32) &&& 255)) 8 1 8) 66 550 (((a >>> ((0 : Int32).toInt64 &&& 63)) &&& (Int64.ofNat 255)).toInt32)) 66 1 1) 66 551 (((a >>> ((8 : Int32).toInt64 &&& 63)) &&& (Int64.ofNat 255)).toInt32)) 66 1 2) 66 552 (((a >>> ((16 : Int32).toInt64 &&& 63)) &&& (Int64.ofNat 255)).toInt32)) 66 1 3) 66 553 (((a >>> ((24 : Int32).toInt64 &&& 63)) &&& (Int64.ofNat 255)).toInt32)) 66 1 4) 66 554 (((a >>> ((32 : Int32).toInt64 &&& 63)) &&& (Int64.ofNat 255)).toInt32)) 66 1 5) 66 555 (((a >>> ((40 : Int32).toInt64 &&& 63)) &&& (Int64.ofNat 255)).toInt32)) 66 1 6) 66 556 (((a >>> ((48 : Int32).toInt64 &&& 63)) &&& (Int64.ofNat 255)).toInt32)) 66 1 7) 66 557 (((a >>> ((56 : Int32).toInt64 &&& 63)) &&& (Int64.ofNat 255)).toInt32))) rfl ?_
                        refine mz_go 6 (c' := (if b ≤ 8 then 87 else 44, [some (.ref 65), some (.long a), none, some (.int b), some (.int 8)], [], mz_up (mz_up (mz_up (mz_up (mz_up (mz_up (mz_up (mz_up (mz_up (mz_up (mz_up (mz_up (mz_up (mz_up (mz_up (mz_up (mz_up (mz_up (mz_up (mz_up (mz_up (mz_up (mz_up (mz_up (mz_up (mz_up (mz_up (mz_up (mz_up (mz_up (mz_up (mz_up (mz_i xs Ln) 9 0 ((((a.toUInt64 >>> ((0 : Int32).toInt64.toUInt64 &&& Int64.toUInt64 63)).toInt64).toInt32) &&& 255)) 8 1 1) 9 1 ((((a.toUInt64 >>> ((8 : Int32).toInt64.toUInt64 &&& Int64.toUInt64 63)).toInt64).toInt32) &&& 255)) 8 1 2) 9 2 ((((a.toUInt64 >>> ((16 : Int32).toInt64.toUInt64 &&& Int64.toUInt64 63)).toInt64).toInt32) &&& 255)) 8 1 3) 9 3 ((((a.toUInt64 >>> ((24 : Int32).toInt64.toUInt64 &&& Int64.toUInt64 63)).toInt64).toInt32) &&& 255)) 8 1 4) 9 4 ((((a.toUInt64 >>> ((32 : Int32).toInt64.toUInt64 &&& Int64.toUInt64 63)).toInt64).toInt32) &&& 255)) 8 1 5) 9 5 ((((a.toUInt64 >>> ((40 : Int32).toInt64.toUInt64 &&& Int64.toUInt64 63)).toInt64).toInt32) &&& 255)) 8 1 6) 9 6 ((((a.toUInt64 >>> ((48 : Int32).toInt64.toUInt64 &&& Int64.toUInt64 63)).toInt64).toInt32) &&& 255)) 8 1 7) 9 7 ((((a.toUInt64 >>> ((56 : Int32).toInt64.toUInt64 &&& Int64.toUInt64 63)).toInt64).toInt32) &&& 255)) 8 1 8) 66 550 (((a >>> ((0 : Int32).toInt64 &&& 63)) &&& (Int64.ofNat 255)).toInt32)) 66 1 1) 66 551 (((a >>> ((8 : Int32).toInt64 &&& 63)) &&& (Int64.ofNat 255)).toInt32)) 66 1 2) 66 552 (((a >>> ((16 : Int32).toInt64 &&& 63)) &&& (Int64.ofNat 255)).toInt32)) 66 1 3) 66 553 (((a >>> ((24 : Int32).toInt64 &&& 63)) &&& (Int64.ofNat 255)).toInt32)) 66 1 4) 66 554 (((a >>> ((32 : Int32).toInt64 &&& 63)) &&& (Int64.ofNat 255)).toInt32)) 66 1 5) 66 555 (((a >>> ((40 : Int32).toInt64 &&& 63)) &&& (Int64.ofNat 255)).toInt32)) 66 1 6) 66 556 (((a >>> ((48 : Int32).toInt64 &&& 63)) &&& (Int64.ofNat 255)).toInt32)) 66 1 7) 66 557 (((a >>> ((56 : Int32).toInt64 &&& 63)) &&& (Int64.ofNat 255)).toInt32)) 66 1 8)) rfl ?_
                        refine mz_ifT (by have hl : (7 : Int) < (b).toInt := Int32.lt_iff_toInt_lt.mp (Int32.not_le.mp h10); have hu : (b).toInt ≤ (8 : Int) := Int32.le_iff_toInt_le.mp (Int32.not_lt.mp h2); exact Int32.le_iff_toInt_le.mpr (show (b).toInt ≤ (8 : Int) by omega)) ?_
                        refine mz_go 4 (c' := (93, [some (.ref 65), some (.long a), none, some (.int b), some (.int 8)], [.int 8], mz_up (mz_up (mz_up (mz_up (mz_up (mz_up (mz_up (mz_up (mz_up (mz_up (mz_up (mz_up (mz_up (mz_up (mz_up (mz_up (mz_up (mz_up (mz_up (mz_up (mz_up (mz_up (mz_up (mz_up (mz_up (mz_up (mz_up (mz_up (mz_up (mz_up (mz_up (mz_up (mz_i xs Ln) 9 0 ((((a.toUInt64 >>> ((0 : Int32).toInt64.toUInt64 &&& Int64.toUInt64 63)).toInt64).toInt32) &&& 255)) 8 1 1) 9 1 ((((a.toUInt64 >>> ((8 : Int32).toInt64.toUInt64 &&& Int64.toUInt64 63)).toInt64).toInt32) &&& 255)) 8 1 2) 9 2 ((((a.toUInt64 >>> ((16 : Int32).toInt64.toUInt64 &&& Int64.toUInt64 63)).toInt64).toInt32) &&& 255)) 8 1 3) 9 3 ((((a.toUInt64 >>> ((24 : Int32).toInt64.toUInt64 &&& Int64.toUInt64 63)).toInt64).toInt32) &&& 255)) 8 1 4) 9 4 ((((a.toUInt64 >>> ((32 : Int32).toInt64.toUInt64 &&& Int64.toUInt64 63)).toInt64).toInt32) &&& 255)) 8 1 5) 9 5 ((((a.toUInt64 >>> ((40 : Int32).toInt64.toUInt64 &&& Int64.toUInt64 63)).toInt64).toInt32) &&& 255)) 8 1 6) 9 6 ((((a.toUInt64 >>> ((48 : Int32).toInt64.toUInt64 &&& Int64.toUInt64 63)).toInt64).toInt32) &&& 255)) 8 1 7) 9 7 ((((a.toUInt64 >>> ((56 : Int32).toInt64.toUInt64 &&& Int64.toUInt64 63)).toInt64).toInt32) &&& 255)) 8 1 8) 66 550 (((a >>> ((0 : Int32).toInt64 &&& 63)) &&& (Int64.ofNat 255)).toInt32)) 66 1 1) 66 551 (((a >>> ((8 : Int32).toInt64 &&& 63)) &&& (Int64.ofNat 255)).toInt32)) 66 1 2) 66 552 (((a >>> ((16 : Int32).toInt64 &&& 63)) &&& (Int64.ofNat 255)).toInt32)) 66 1 3) 66 553 (((a >>> ((24 : Int32).toInt64 &&& 63)) &&& (Int64.ofNat 255)).toInt32)) 66 1 4) 66 554 (((a >>> ((32 : Int32).toInt64 &&& 63)) &&& (Int64.ofNat 255)).toInt32)) 66 1 5) 66 555 (((a >>> ((40 : Int32).toInt64 &&& 63)) &&& (Int64.ofNat 255)).toInt32)) 66 1 6) 66 556 (((a >>> ((48 : Int32).toInt64 &&& 63)) &&& (Int64.ofNat 255)).toInt32)) 66 1 7) 66 557 (((a >>> ((56 : Int32).toInt64 &&& 63)) &&& (Int64.ofNat 255)).toInt32)) 66 1 8)) rfl ?_
                        exact mz_ret rfl
      · refine ⟨(-1000004), mz_up (mz_i xs Ln) 64 4 1, mz_up (mz_up (mz_i xs Ln) 64 4 1) 68 4 1, ⟨?_, rfl⟩, ⟨?_, rfl⟩⟩
        · refine mz_go 3 (c' := (4, [some (.ref 0), some (.long a), none, some (.int b), none, none], [.int 8, .int 1, .int b], (mz_i xs Ln))) rfl ?_
          refine mz_do (R := mz_r121) (as := [.int b, .int 1, .int 8]) (rest := []) (r1 := some (.int 1)) (m1 := (mz_i xs Ln)) rfl ⟨?_, rfl⟩ ?_
          · refine mz_go 3 (c' := (if b < 1 then 14 else 5, [some (.int b), some (.int 1), some (.int 8)], [], (mz_i xs Ln))) rfl ?_
            refine mz_ifF h1 ?_
            refine mz_go 3 (c' := (if 8 < b then 14 else 10, [some (.int b), some (.int 1), some (.int 8)], [], (mz_i xs Ln))) rfl ?_
            refine mz_ifF h2 ?_
            refine mz_go 2 (c' := (15, [some (.int b), some (.int 1), some (.int 8)], [.int 1], (mz_i xs Ln))) rfl ?_
            exact mz_ret rfl
          refine mz_go 11 (c' := (if (0 + b) ≤ 60 then 43 else 37, [some (.ref 0), some (.long a), none, some (.int b), some (.ref 8), none], [], (mz_i xs Ln))) rfl ?_
          refine mz_ifF h3 ?_
          refine mz_go 2 (c' := (39, [some (.ref 0), some (.long a), none, some (.int b), some (.ref 8), none], [.int 4, .ref 0], (mz_i xs Ln))) rfl ?_
          refine mz_do (R := mz_r109) (as := [.ref 0, .int 4]) (rest := []) (r1 := some (.int (-1000004))) (m1 := mz_up (mz_i xs Ln) 64 4 1) rfl ⟨?_, rfl⟩ ?_
          · refine mz_go 3 (c' := (4, [some (.ref 0), some (.int 4)], [.int 6, .int 1, .int 4], (mz_i xs Ln))) rfl ?_
            refine mz_do (R := mz_r121) (as := [.int 4, .int 1, .int 6]) (rest := []) (r1 := some (.int 1)) (m1 := (mz_i xs Ln)) rfl ⟨?_, rfl⟩ ?_
            · refine mz_go 8 (c' := (15, [some (.int 4), some (.int 1), some (.int 6)], [.int 1], (mz_i xs Ln))) rfl ?_
              exact mz_ret rfl
            refine mz_go 12 (c' := (25, [some (.ref 0), some (.int 4)], [.int (-1000004)], mz_up (mz_i xs Ln) 64 4 1)) rfl ?_
            exact mz_ret rfl
          exact mz_ret rfl
        · refine mz_go 3 (c' := (4, [some (.ref 65), some (.long a), none, some (.int b), none], [.int 8, .int 1, .int b], mz_up (mz_i xs Ln) 64 4 1)) rfl ?_
          refine mz_do (R := mz_r128) (as := [.int b, .int 1, .int 8]) (rest := []) (r1 := some (.int 1)) (m1 := mz_up (mz_i xs Ln) 64 4 1) rfl ⟨?_, rfl⟩ ?_
          · refine mz_go 3 (c' := (if b < 1 then 14 else 5, [some (.int b), some (.int 1), some (.int 8)], [], mz_up (mz_i xs Ln) 64 4 1)) rfl ?_
            refine mz_ifF h1 ?_
            refine mz_go 3 (c' := (if 8 < b then 14 else 10, [some (.int b), some (.int 1), some (.int 8)], [], mz_up (mz_i xs Ln) 64 4 1)) rfl ?_
            refine mz_ifF h2 ?_
            refine mz_go 2 (c' := (15, [some (.int b), some (.int 1), some (.int 8)], [.int 1], mz_up (mz_i xs Ln) 64 4 1)) rfl ?_
            exact mz_ret rfl
          refine mz_go 9 (c' := (if (0 + b) ≤ 60 then 35 else 29, [some (.ref 65), some (.long a), none, some (.int b), none], [], mz_up (mz_i xs Ln) 64 4 1)) rfl ?_
          refine mz_ifF h3 ?_
          refine mz_go 2 (c' := (31, [some (.ref 65), some (.long a), none, some (.int b), none], [.int 4, .ref 65], mz_up (mz_i xs Ln) 64 4 1)) rfl ?_
          refine mz_do (R := mz_r127) (as := [.ref 65, .int 4]) (rest := []) (r1 := some (.int (-1000004))) (m1 := mz_up (mz_up (mz_i xs Ln) 64 4 1) 68 4 1) rfl ⟨?_, rfl⟩ ?_
          · refine mz_go 11 (c' := (14, [some (.ref 65), some (.int 4)], [.int (-1000004)], mz_up (mz_up (mz_i xs Ln) 64 4 1) 68 4 1)) rfl ?_
            exact mz_ret rfl
          exact mz_ret rfl
set_option maxHeartbeats 4000000 in
set_option maxRecDepth 100000 in
theorem p1_tick (xs : Nat → Int32) (Ln : Nat) (a : Int32) : ∃ v m1 m2, mz_Me 100 mz_r79 [.ref 0, .int a] (mz_i xs Ln) (some (.int v)) m1 ∧ mz_Me 100 mz_r177 [.ref 65, .int a] m1 (some (.int v)) m2 := by
  by_cases h1 : a < 1
  · refine ⟨(-1000001), mz_up (mz_i xs Ln) 64 1 1, mz_up (mz_up (mz_i xs Ln) 64 1 1) 68 1 1, ⟨?_, rfl⟩, ⟨?_, rfl⟩⟩
    · refine mz_go 3 (c' := (5, [some (.ref 0), some (.int a), none], [.int 200, .int 1, .int a], (mz_i xs Ln))) rfl ?_
      refine mz_do (R := mz_r121) (as := [.int a, .int 1, .int 200]) (rest := []) (r1 := some (.int 0)) (m1 := (mz_i xs Ln)) rfl ⟨?_, rfl⟩ ?_
      · refine mz_go 3 (c' := (if a < 1 then 14 else 5, [some (.int a), some (.int 1), some (.int 200)], [], (mz_i xs Ln))) rfl ?_
        refine mz_ifT h1 ?_
        refine mz_go 1 (c' := (15, [some (.int a), some (.int 1), some (.int 200)], [.int 0], (mz_i xs Ln))) rfl ?_
        exact mz_ret rfl
      refine mz_go 3 (c' := (13, [some (.ref 0), some (.int a), none], [.int 1, .ref 0], (mz_i xs Ln))) rfl ?_
      refine mz_do (R := mz_r109) (as := [.ref 0, .int 1]) (rest := []) (r1 := some (.int (-1000001))) (m1 := mz_up (mz_i xs Ln) 64 1 1) rfl ⟨?_, rfl⟩ ?_
      · refine mz_go 3 (c' := (4, [some (.ref 0), some (.int 1)], [.int 6, .int 1, .int 1], (mz_i xs Ln))) rfl ?_
        refine mz_do (R := mz_r121) (as := [.int 1, .int 1, .int 6]) (rest := []) (r1 := some (.int 1)) (m1 := (mz_i xs Ln)) rfl ⟨?_, rfl⟩ ?_
        · refine mz_go 8 (c' := (15, [some (.int 1), some (.int 1), some (.int 6)], [.int 1], (mz_i xs Ln))) rfl ?_
          exact mz_ret rfl
        refine mz_go 12 (c' := (25, [some (.ref 0), some (.int 1)], [.int (-1000001)], mz_up (mz_i xs Ln) 64 1 1)) rfl ?_
        exact mz_ret rfl
      exact mz_ret rfl
    · refine mz_go 3 (c' := (5, [some (.ref 65), some (.int a), none], [.int 200, .int 1, .int a], mz_up (mz_i xs Ln) 64 1 1)) rfl ?_
      refine mz_do (R := mz_r128) (as := [.int a, .int 1, .int 200]) (rest := []) (r1 := some (.int 0)) (m1 := mz_up (mz_i xs Ln) 64 1 1) rfl ⟨?_, rfl⟩ ?_
      · refine mz_go 3 (c' := (if a < 1 then 14 else 5, [some (.int a), some (.int 1), some (.int 200)], [], mz_up (mz_i xs Ln) 64 1 1)) rfl ?_
        refine mz_ifT h1 ?_
        refine mz_go 1 (c' := (15, [some (.int a), some (.int 1), some (.int 200)], [.int 0], mz_up (mz_i xs Ln) 64 1 1)) rfl ?_
        exact mz_ret rfl
      refine mz_go 3 (c' := (13, [some (.ref 65), some (.int a), none], [.int 1, .ref 65], mz_up (mz_i xs Ln) 64 1 1)) rfl ?_
      refine mz_do (R := mz_r127) (as := [.ref 65, .int 1]) (rest := []) (r1 := some (.int (-1000001))) (m1 := mz_up (mz_up (mz_i xs Ln) 64 1 1) 68 1 1) rfl ⟨?_, rfl⟩ ?_
      · refine mz_go 11 (c' := (14, [some (.ref 65), some (.int 1)], [.int (-1000001)], mz_up (mz_up (mz_i xs Ln) 64 1 1) 68 1 1)) rfl ?_
        exact mz_ret rfl
      exact mz_ret rfl
  · by_cases h2 : 200 < a
    · refine ⟨(-1000001), mz_up (mz_i xs Ln) 64 1 1, mz_up (mz_up (mz_i xs Ln) 64 1 1) 68 1 1, ⟨?_, rfl⟩, ⟨?_, rfl⟩⟩
      · refine mz_go 3 (c' := (5, [some (.ref 0), some (.int a), none], [.int 200, .int 1, .int a], (mz_i xs Ln))) rfl ?_
        refine mz_do (R := mz_r121) (as := [.int a, .int 1, .int 200]) (rest := []) (r1 := some (.int 0)) (m1 := (mz_i xs Ln)) rfl ⟨?_, rfl⟩ ?_
        · refine mz_go 3 (c' := (if a < 1 then 14 else 5, [some (.int a), some (.int 1), some (.int 200)], [], (mz_i xs Ln))) rfl ?_
          refine mz_ifF h1 ?_
          refine mz_go 3 (c' := (if 200 < a then 14 else 10, [some (.int a), some (.int 1), some (.int 200)], [], (mz_i xs Ln))) rfl ?_
          refine mz_ifT h2 ?_
          refine mz_go 1 (c' := (15, [some (.int a), some (.int 1), some (.int 200)], [.int 0], (mz_i xs Ln))) rfl ?_
          exact mz_ret rfl
        refine mz_go 3 (c' := (13, [some (.ref 0), some (.int a), none], [.int 1, .ref 0], (mz_i xs Ln))) rfl ?_
        refine mz_do (R := mz_r109) (as := [.ref 0, .int 1]) (rest := []) (r1 := some (.int (-1000001))) (m1 := mz_up (mz_i xs Ln) 64 1 1) rfl ⟨?_, rfl⟩ ?_
        · refine mz_go 3 (c' := (4, [some (.ref 0), some (.int 1)], [.int 6, .int 1, .int 1], (mz_i xs Ln))) rfl ?_
          refine mz_do (R := mz_r121) (as := [.int 1, .int 1, .int 6]) (rest := []) (r1 := some (.int 1)) (m1 := (mz_i xs Ln)) rfl ⟨?_, rfl⟩ ?_
          · refine mz_go 8 (c' := (15, [some (.int 1), some (.int 1), some (.int 6)], [.int 1], (mz_i xs Ln))) rfl ?_
            exact mz_ret rfl
          refine mz_go 12 (c' := (25, [some (.ref 0), some (.int 1)], [.int (-1000001)], mz_up (mz_i xs Ln) 64 1 1)) rfl ?_
          exact mz_ret rfl
        exact mz_ret rfl
      · refine mz_go 3 (c' := (5, [some (.ref 65), some (.int a), none], [.int 200, .int 1, .int a], mz_up (mz_i xs Ln) 64 1 1)) rfl ?_
        refine mz_do (R := mz_r128) (as := [.int a, .int 1, .int 200]) (rest := []) (r1 := some (.int 0)) (m1 := mz_up (mz_i xs Ln) 64 1 1) rfl ⟨?_, rfl⟩ ?_
        · refine mz_go 3 (c' := (if a < 1 then 14 else 5, [some (.int a), some (.int 1), some (.int 200)], [], mz_up (mz_i xs Ln) 64 1 1)) rfl ?_
          refine mz_ifF h1 ?_
          refine mz_go 3 (c' := (if 200 < a then 14 else 10, [some (.int a), some (.int 1), some (.int 200)], [], mz_up (mz_i xs Ln) 64 1 1)) rfl ?_
          refine mz_ifT h2 ?_
          refine mz_go 1 (c' := (15, [some (.int a), some (.int 1), some (.int 200)], [.int 0], mz_up (mz_i xs Ln) 64 1 1)) rfl ?_
          exact mz_ret rfl
        refine mz_go 3 (c' := (13, [some (.ref 65), some (.int a), none], [.int 1, .ref 65], mz_up (mz_i xs Ln) 64 1 1)) rfl ?_
        refine mz_do (R := mz_r127) (as := [.ref 65, .int 1]) (rest := []) (r1 := some (.int (-1000001))) (m1 := mz_up (mz_up (mz_i xs Ln) 64 1 1) 68 1 1) rfl ⟨?_, rfl⟩ ?_
        · refine mz_go 11 (c' := (14, [some (.ref 65), some (.int 1)], [.int (-1000001)], mz_up (mz_up (mz_i xs Ln) 64 1 1) 68 1 1)) rfl ?_
          exact mz_ret rfl
        exact mz_ret rfl
    · by_cases h3 : (0 + a) ≤ 9999
      · obtain ⟨mm1, me1, ms1⟩ := cz_ticked a h1 ((mz_i xs Ln)) rfl rfl
        have mw1 : Zf mm1 := zf_row (show Zf ((mz_i xs Ln)) from rfl) rfl me1
        rw [← zf_eq mw1] at ms1
        obtain ⟨mm2, ms2⟩ := rz_ticked a h1 (mz_up (mz_up (mz_up (mz_up (mz_up (mz_z mm1) 65 4 ((mz_z mm1) 66 20)) 65 5 ((mz_z mm1) 66 21)) 65 6 ((mz_z mm1) 66 22)) 65 7 ((mz_z mm1) 66 23)) 65 8 0) rfl rfl
        refine ⟨a, (mz_z mm1), mm2, ⟨?_, rfl⟩, ⟨?_, rfl⟩⟩
        · refine mz_go 3 (c' := (5, [some (.ref 0), some (.int a), none], [.int 200, .int 1, .int a], (mz_i xs Ln))) rfl ?_
          refine mz_do (R := mz_r121) (as := [.int a, .int 1, .int 200]) (rest := []) (r1 := some (.int 1)) (m1 := (mz_i xs Ln)) rfl ⟨?_, rfl⟩ ?_
          · refine mz_go 3 (c' := (if a < 1 then 14 else 5, [some (.int a), some (.int 1), some (.int 200)], [], (mz_i xs Ln))) rfl ?_
            refine mz_ifF h1 ?_
            refine mz_go 3 (c' := (if 200 < a then 14 else 10, [some (.int a), some (.int 1), some (.int 200)], [], (mz_i xs Ln))) rfl ?_
            refine mz_ifF h2 ?_
            refine mz_go 2 (c' := (15, [some (.int a), some (.int 1), some (.int 200)], [.int 1], (mz_i xs Ln))) rfl ?_
            exact mz_ret rfl
          refine mz_go 9 (c' := (if (0 + a) ≤ 9999 then 41 else 35, [some (.ref 0), some (.int a), none], [], (mz_i xs Ln))) rfl ?_
          refine mz_ifT h3 ?_
          refine mz_go 2 (c' := (43, [some (.ref 0), some (.int a), some (.int 0)], [], (mz_i xs Ln))) rfl ?_
          exact (mz_Ex.deep ms1 (by decide))
        · refine mz_go 3 (c' := (5, [some (.ref 65), some (.int a), none], [.int 200, .int 1, .int a], (mz_z mm1))) rfl ?_
          refine mz_do (R := mz_r128) (as := [.int a, .int 1, .int 200]) (rest := []) (r1 := some (.int 1)) (m1 := (mz_z mm1)) rfl ⟨?_, rfl⟩ ?_
          · refine mz_go 3 (c' := (if a < 1 then 14 else 5, [some (.int a), some (.int 1), some (.int 200)], [], (mz_z mm1))) rfl ?_
            refine mz_ifF h1 ?_
            refine mz_go 3 (c' := (if 200 < a then 14 else 10, [some (.int a), some (.int 1), some (.int 200)], [], (mz_z mm1))) rfl ?_
            refine mz_ifF h2 ?_
            refine mz_go 2 (c' := (15, [some (.int a), some (.int 1), some (.int 200)], [.int 1], (mz_z mm1))) rfl ?_
            exact mz_ret rfl
          refine mz_go 9 (c' := (if (0 + a) ≤ 9999 then 38 else 32, [some (.ref 65), some (.int a), none], [], (mz_z mm1))) rfl ?_
          refine mz_ifT h3 ?_
          refine mz_go 1 (c' := (39, [some (.ref 65), some (.int a), none], [.ref 65], (mz_z mm1))) rfl ?_
          refine mz_do (R := mz_r145) (as := [.ref 65]) (rest := []) (r1 := none) (m1 := mz_up (mz_up (mz_up (mz_up (mz_up (mz_z mm1) 65 4 ((mz_z mm1) 66 20)) 65 5 ((mz_z mm1) 66 21)) 65 6 ((mz_z mm1) 66 22)) 65 7 ((mz_z mm1) 66 23)) 65 8 0) rfl ⟨?_, rfl⟩ ?_
          · refine mz_go 24 (c' := (44, [some (.ref 65)], [], mz_up (mz_up (mz_up (mz_up (mz_z mm1) 65 4 ((mz_z mm1) 66 20)) 65 5 ((mz_z mm1) 66 21)) 65 6 ((mz_z mm1) 66 22)) 65 7 ((mz_z mm1) 66 23))) rfl ?_
            refine mz_go 6 (c' := (55, [some (.ref 65)], [], mz_up (mz_up (mz_up (mz_up (mz_up (mz_z mm1) 65 4 ((mz_z mm1) 66 20)) 65 5 ((mz_z mm1) 66 21)) 65 6 ((mz_z mm1) 66 22)) 65 7 ((mz_z mm1) 66 23)) 65 8 0)) rfl ?_
            exact mz_ret rfl
          refine mz_go 2 (c' := (44, [some (.ref 65), some (.int a), some (.int 0)], [], mz_up (mz_up (mz_up (mz_up (mz_up (mz_z mm1) 65 4 ((mz_z mm1) 66 20)) 65 5 ((mz_z mm1) 66 21)) 65 6 ((mz_z mm1) 66 22)) 65 7 ((mz_z mm1) 66 23)) 65 8 0)) rfl ?_
          exact (mz_Ex.deep ms2 (by decide))
      · refine ⟨(-1000003), mz_up (mz_i xs Ln) 64 3 1, mz_up (mz_up (mz_i xs Ln) 64 3 1) 68 3 1, ⟨?_, rfl⟩, ⟨?_, rfl⟩⟩
        · refine mz_go 3 (c' := (5, [some (.ref 0), some (.int a), none], [.int 200, .int 1, .int a], (mz_i xs Ln))) rfl ?_
          refine mz_do (R := mz_r121) (as := [.int a, .int 1, .int 200]) (rest := []) (r1 := some (.int 1)) (m1 := (mz_i xs Ln)) rfl ⟨?_, rfl⟩ ?_
          · refine mz_go 3 (c' := (if a < 1 then 14 else 5, [some (.int a), some (.int 1), some (.int 200)], [], (mz_i xs Ln))) rfl ?_
            refine mz_ifF h1 ?_
            refine mz_go 3 (c' := (if 200 < a then 14 else 10, [some (.int a), some (.int 1), some (.int 200)], [], (mz_i xs Ln))) rfl ?_
            refine mz_ifF h2 ?_
            refine mz_go 2 (c' := (15, [some (.int a), some (.int 1), some (.int 200)], [.int 1], (mz_i xs Ln))) rfl ?_
            exact mz_ret rfl
          refine mz_go 9 (c' := (if (0 + a) ≤ 9999 then 41 else 35, [some (.ref 0), some (.int a), none], [], (mz_i xs Ln))) rfl ?_
          refine mz_ifF h3 ?_
          refine mz_go 2 (c' := (37, [some (.ref 0), some (.int a), none], [.int 3, .ref 0], (mz_i xs Ln))) rfl ?_
          refine mz_do (R := mz_r109) (as := [.ref 0, .int 3]) (rest := []) (r1 := some (.int (-1000003))) (m1 := mz_up (mz_i xs Ln) 64 3 1) rfl ⟨?_, rfl⟩ ?_
          · refine mz_go 3 (c' := (4, [some (.ref 0), some (.int 3)], [.int 6, .int 1, .int 3], (mz_i xs Ln))) rfl ?_
            refine mz_do (R := mz_r121) (as := [.int 3, .int 1, .int 6]) (rest := []) (r1 := some (.int 1)) (m1 := (mz_i xs Ln)) rfl ⟨?_, rfl⟩ ?_
            · refine mz_go 8 (c' := (15, [some (.int 3), some (.int 1), some (.int 6)], [.int 1], (mz_i xs Ln))) rfl ?_
              exact mz_ret rfl
            refine mz_go 12 (c' := (25, [some (.ref 0), some (.int 3)], [.int (-1000003)], mz_up (mz_i xs Ln) 64 3 1)) rfl ?_
            exact mz_ret rfl
          exact mz_ret rfl
        · refine mz_go 3 (c' := (5, [some (.ref 65), some (.int a), none], [.int 200, .int 1, .int a], mz_up (mz_i xs Ln) 64 3 1)) rfl ?_
          refine mz_do (R := mz_r128) (as := [.int a, .int 1, .int 200]) (rest := []) (r1 := some (.int 1)) (m1 := mz_up (mz_i xs Ln) 64 3 1) rfl ⟨?_, rfl⟩ ?_
          · refine mz_go 3 (c' := (if a < 1 then 14 else 5, [some (.int a), some (.int 1), some (.int 200)], [], mz_up (mz_i xs Ln) 64 3 1)) rfl ?_
            refine mz_ifF h1 ?_
            refine mz_go 3 (c' := (if 200 < a then 14 else 10, [some (.int a), some (.int 1), some (.int 200)], [], mz_up (mz_i xs Ln) 64 3 1)) rfl ?_
            refine mz_ifF h2 ?_
            refine mz_go 2 (c' := (15, [some (.int a), some (.int 1), some (.int 200)], [.int 1], mz_up (mz_i xs Ln) 64 3 1)) rfl ?_
            exact mz_ret rfl
          refine mz_go 9 (c' := (if (0 + a) ≤ 9999 then 38 else 32, [some (.ref 65), some (.int a), none], [], mz_up (mz_i xs Ln) 64 3 1)) rfl ?_
          refine mz_ifF h3 ?_
          refine mz_go 2 (c' := (34, [some (.ref 65), some (.int a), none], [.int 3, .ref 65], mz_up (mz_i xs Ln) 64 3 1)) rfl ?_
          refine mz_do (R := mz_r127) (as := [.ref 65, .int 3]) (rest := []) (r1 := some (.int (-1000003))) (m1 := mz_up (mz_up (mz_i xs Ln) 64 3 1) 68 3 1) rfl ⟨?_, rfl⟩ ?_
          · refine mz_go 11 (c' := (14, [some (.ref 65), some (.int 3)], [.int (-1000003)], mz_up (mz_up (mz_i xs Ln) 64 3 1) 68 3 1)) rfl ?_
            exact mz_ret rfl
          exact mz_ret rfl
set_option maxHeartbeats 4000000 in
set_option maxRecDepth 100000 in
theorem p1_ends (xs : Nat → Int32) (Ln : Nat) (a : Int32) (b : Int32) (c : Int32) (d : Int32) : ∃ v m1 m2, mz_Me 100 mz_r81 [.ref 0, .int a, .int b, .int c, .int d] (mz_i xs Ln) (some (.int v)) m1 ∧ mz_Me 100 mz_r179 [.ref 65, .int a, .int b, .int c, .int d] m1 (some (.int v)) m2 := by
  by_cases h1 : a < (-100)
  · refine ⟨(-1000001), mz_up (mz_i xs Ln) 64 1 1, mz_up (mz_up (mz_i xs Ln) 64 1 1) 68 1 1, ⟨?_, rfl⟩, ⟨?_, rfl⟩⟩
    · refine mz_go 2 (c' := (2, [some (.ref 0), some (.int a), some (.int b), some (.int c), some (.int d)], [.int b, .int a], (mz_i xs Ln))) rfl ?_
      refine mz_do (R := mz_r116) (as := [.int a, .int b]) (rest := []) (r1 := some (.int 0)) (m1 := (mz_i xs Ln)) rfl ⟨?_, rfl⟩ ?_
      · refine mz_go 3 (c' := (5, [some (.int a), some (.int b)], [.int 100, .int (-100), .int a], (mz_i xs Ln))) rfl ?_
        refine mz_do (R := mz_r121) (as := [.int a, .int (-100), .int 100]) (rest := []) (r1 := some (.int 0)) (m1 := (mz_i xs Ln)) rfl ⟨?_, rfl⟩ ?_
        · refine mz_go 3 (c' := (if a < (-100) then 14 else 5, [some (.int a), some (.int (-100)), some (.int 100)], [], (mz_i xs Ln))) rfl ?_
          refine mz_ifT h1 ?_
          refine mz_go 1 (c' := (15, [some (.int a), some (.int (-100)), some (.int 100)], [.int 0], (mz_i xs Ln))) rfl ?_
          exact mz_ret rfl
        refine mz_go 2 (c' := (27, [some (.int a), some (.int b)], [.int 0], (mz_i xs Ln))) rfl ?_
        exact mz_ret rfl
      refine mz_go 3 (c' := (25, [some (.ref 0), some (.int a), some (.int b), some (.int c), some (.int d)], [.int 1, .ref 0], (mz_i xs Ln))) rfl ?_
      refine mz_do (R := mz_r109) (as := [.ref 0, .int 1]) (rest := []) (r1 := some (.int (-1000001))) (m1 := mz_up (mz_i xs Ln) 64 1 1) rfl ⟨?_, rfl⟩ ?_
      · refine mz_go 3 (c' := (4, [some (.ref 0), some (.int 1)], [.int 6, .int 1, .int 1], (mz_i xs Ln))) rfl ?_
        refine mz_do (R := mz_r121) (as := [.int 1, .int 1, .int 6]) (rest := []) (r1 := some (.int 1)) (m1 := (mz_i xs Ln)) rfl ⟨?_, rfl⟩ ?_
        · refine mz_go 8 (c' := (15, [some (.int 1), some (.int 1), some (.int 6)], [.int 1], (mz_i xs Ln))) rfl ?_
          exact mz_ret rfl
        refine mz_go 12 (c' := (25, [some (.ref 0), some (.int 1)], [.int (-1000001)], mz_up (mz_i xs Ln) 64 1 1)) rfl ?_
        exact mz_ret rfl
      exact mz_ret rfl
    · refine mz_go 2 (c' := (2, [some (.ref 65), some (.int a), some (.int b), some (.int c), some (.int d)], [.int b, .int a], mz_up (mz_i xs Ln) 64 1 1)) rfl ?_
      refine mz_do (R := mz_r131) (as := [.int a, .int b]) (rest := []) (r1 := some (.int 0)) (m1 := mz_up (mz_i xs Ln) 64 1 1) rfl ⟨?_, rfl⟩ ?_
      · refine mz_go 3 (c' := (5, [some (.int a), some (.int b)], [.int 100, .int (-100), .int a], mz_up (mz_i xs Ln) 64 1 1)) rfl ?_
        refine mz_do (R := mz_r128) (as := [.int a, .int (-100), .int 100]) (rest := []) (r1 := some (.int 0)) (m1 := mz_up (mz_i xs Ln) 64 1 1) rfl ⟨?_, rfl⟩ ?_
        · refine mz_go 3 (c' := (if a < (-100) then 14 else 5, [some (.int a), some (.int (-100)), some (.int 100)], [], mz_up (mz_i xs Ln) 64 1 1)) rfl ?_
          refine mz_ifT h1 ?_
          refine mz_go 1 (c' := (15, [some (.int a), some (.int (-100)), some (.int 100)], [.int 0], mz_up (mz_i xs Ln) 64 1 1)) rfl ?_
          exact mz_ret rfl
        refine mz_go 2 (c' := (27, [some (.int a), some (.int b)], [.int 0], mz_up (mz_i xs Ln) 64 1 1)) rfl ?_
        exact mz_ret rfl
      refine mz_go 3 (c' := (19, [some (.ref 65), some (.int a), some (.int b), some (.int c), some (.int d)], [.int 1, .ref 65], mz_up (mz_i xs Ln) 64 1 1)) rfl ?_
      refine mz_do (R := mz_r127) (as := [.ref 65, .int 1]) (rest := []) (r1 := some (.int (-1000001))) (m1 := mz_up (mz_up (mz_i xs Ln) 64 1 1) 68 1 1) rfl ⟨?_, rfl⟩ ?_
      · refine mz_go 11 (c' := (14, [some (.ref 65), some (.int 1)], [.int (-1000001)], mz_up (mz_up (mz_i xs Ln) 64 1 1) 68 1 1)) rfl ?_
        exact mz_ret rfl
      exact mz_ret rfl
  · by_cases h2 : 100 < a
    · refine ⟨(-1000001), mz_up (mz_i xs Ln) 64 1 1, mz_up (mz_up (mz_i xs Ln) 64 1 1) 68 1 1, ⟨?_, rfl⟩, ⟨?_, rfl⟩⟩
      · refine mz_go 2 (c' := (2, [some (.ref 0), some (.int a), some (.int b), some (.int c), some (.int d)], [.int b, .int a], (mz_i xs Ln))) rfl ?_
        refine mz_do (R := mz_r116) (as := [.int a, .int b]) (rest := []) (r1 := some (.int 0)) (m1 := (mz_i xs Ln)) rfl ⟨?_, rfl⟩ ?_
        · refine mz_go 3 (c' := (5, [some (.int a), some (.int b)], [.int 100, .int (-100), .int a], (mz_i xs Ln))) rfl ?_
          refine mz_do (R := mz_r121) (as := [.int a, .int (-100), .int 100]) (rest := []) (r1 := some (.int 0)) (m1 := (mz_i xs Ln)) rfl ⟨?_, rfl⟩ ?_
          · refine mz_go 3 (c' := (if a < (-100) then 14 else 5, [some (.int a), some (.int (-100)), some (.int 100)], [], (mz_i xs Ln))) rfl ?_
            refine mz_ifF h1 ?_
            refine mz_go 3 (c' := (if 100 < a then 14 else 10, [some (.int a), some (.int (-100)), some (.int 100)], [], (mz_i xs Ln))) rfl ?_
            refine mz_ifT h2 ?_
            refine mz_go 1 (c' := (15, [some (.int a), some (.int (-100)), some (.int 100)], [.int 0], (mz_i xs Ln))) rfl ?_
            exact mz_ret rfl
          refine mz_go 2 (c' := (27, [some (.int a), some (.int b)], [.int 0], (mz_i xs Ln))) rfl ?_
          exact mz_ret rfl
        refine mz_go 3 (c' := (25, [some (.ref 0), some (.int a), some (.int b), some (.int c), some (.int d)], [.int 1, .ref 0], (mz_i xs Ln))) rfl ?_
        refine mz_do (R := mz_r109) (as := [.ref 0, .int 1]) (rest := []) (r1 := some (.int (-1000001))) (m1 := mz_up (mz_i xs Ln) 64 1 1) rfl ⟨?_, rfl⟩ ?_
        · refine mz_go 3 (c' := (4, [some (.ref 0), some (.int 1)], [.int 6, .int 1, .int 1], (mz_i xs Ln))) rfl ?_
          refine mz_do (R := mz_r121) (as := [.int 1, .int 1, .int 6]) (rest := []) (r1 := some (.int 1)) (m1 := (mz_i xs Ln)) rfl ⟨?_, rfl⟩ ?_
          · refine mz_go 8 (c' := (15, [some (.int 1), some (.int 1), some (.int 6)], [.int 1], (mz_i xs Ln))) rfl ?_
            exact mz_ret rfl
          refine mz_go 12 (c' := (25, [some (.ref 0), some (.int 1)], [.int (-1000001)], mz_up (mz_i xs Ln) 64 1 1)) rfl ?_
          exact mz_ret rfl
        exact mz_ret rfl
      · refine mz_go 2 (c' := (2, [some (.ref 65), some (.int a), some (.int b), some (.int c), some (.int d)], [.int b, .int a], mz_up (mz_i xs Ln) 64 1 1)) rfl ?_
        refine mz_do (R := mz_r131) (as := [.int a, .int b]) (rest := []) (r1 := some (.int 0)) (m1 := mz_up (mz_i xs Ln) 64 1 1) rfl ⟨?_, rfl⟩ ?_
        · refine mz_go 3 (c' := (5, [some (.int a), some (.int b)], [.int 100, .int (-100), .int a], mz_up (mz_i xs Ln) 64 1 1)) rfl ?_
          refine mz_do (R := mz_r128) (as := [.int a, .int (-100), .int 100]) (rest := []) (r1 := some (.int 0)) (m1 := mz_up (mz_i xs Ln) 64 1 1) rfl ⟨?_, rfl⟩ ?_
          · refine mz_go 3 (c' := (if a < (-100) then 14 else 5, [some (.int a), some (.int (-100)), some (.int 100)], [], mz_up (mz_i xs Ln) 64 1 1)) rfl ?_
            refine mz_ifF h1 ?_
            refine mz_go 3 (c' := (if 100 < a then 14 else 10, [some (.int a), some (.int (-100)), some (.int 100)], [], mz_up (mz_i xs Ln) 64 1 1)) rfl ?_
            refine mz_ifT h2 ?_
            refine mz_go 1 (c' := (15, [some (.int a), some (.int (-100)), some (.int 100)], [.int 0], mz_up (mz_i xs Ln) 64 1 1)) rfl ?_
            exact mz_ret rfl
          refine mz_go 2 (c' := (27, [some (.int a), some (.int b)], [.int 0], mz_up (mz_i xs Ln) 64 1 1)) rfl ?_
          exact mz_ret rfl
        refine mz_go 3 (c' := (19, [some (.ref 65), some (.int a), some (.int b), some (.int c), some (.int d)], [.int 1, .ref 65], mz_up (mz_i xs Ln) 64 1 1)) rfl ?_
        refine mz_do (R := mz_r127) (as := [.ref 65, .int 1]) (rest := []) (r1 := some (.int (-1000001))) (m1 := mz_up (mz_up (mz_i xs Ln) 64 1 1) 68 1 1) rfl ⟨?_, rfl⟩ ?_
        · refine mz_go 11 (c' := (14, [some (.ref 65), some (.int 1)], [.int (-1000001)], mz_up (mz_up (mz_i xs Ln) 64 1 1) 68 1 1)) rfl ?_
          exact mz_ret rfl
        exact mz_ret rfl
    · by_cases h3 : b < (-100)
      · refine ⟨(-1000001), mz_up (mz_i xs Ln) 64 1 1, mz_up (mz_up (mz_i xs Ln) 64 1 1) 68 1 1, ⟨?_, rfl⟩, ⟨?_, rfl⟩⟩
        · refine mz_go 2 (c' := (2, [some (.ref 0), some (.int a), some (.int b), some (.int c), some (.int d)], [.int b, .int a], (mz_i xs Ln))) rfl ?_
          refine mz_do (R := mz_r116) (as := [.int a, .int b]) (rest := []) (r1 := some (.int 0)) (m1 := (mz_i xs Ln)) rfl ⟨?_, rfl⟩ ?_
          · refine mz_go 3 (c' := (5, [some (.int a), some (.int b)], [.int 100, .int (-100), .int a], (mz_i xs Ln))) rfl ?_
            refine mz_do (R := mz_r121) (as := [.int a, .int (-100), .int 100]) (rest := []) (r1 := some (.int 1)) (m1 := (mz_i xs Ln)) rfl ⟨?_, rfl⟩ ?_
            · refine mz_go 3 (c' := (if a < (-100) then 14 else 5, [some (.int a), some (.int (-100)), some (.int 100)], [], (mz_i xs Ln))) rfl ?_
              refine mz_ifF h1 ?_
              refine mz_go 3 (c' := (if 100 < a then 14 else 10, [some (.int a), some (.int (-100)), some (.int 100)], [], (mz_i xs Ln))) rfl ?_
              refine mz_ifF h2 ?_
              refine mz_go 2 (c' := (15, [some (.int a), some (.int (-100)), some (.int 100)], [.int 1], (mz_i xs Ln))) rfl ?_
              exact mz_ret rfl
            refine mz_go 4 (c' := (16, [some (.int a), some (.int b)], [.int 100, .int (-100), .int b], (mz_i xs Ln))) rfl ?_
            refine mz_do (R := mz_r121) (as := [.int b, .int (-100), .int 100]) (rest := []) (r1 := some (.int 0)) (m1 := (mz_i xs Ln)) rfl ⟨?_, rfl⟩ ?_
            · refine mz_go 3 (c' := (if b < (-100) then 14 else 5, [some (.int b), some (.int (-100)), some (.int 100)], [], (mz_i xs Ln))) rfl ?_
              refine mz_ifT h3 ?_
              refine mz_go 1 (c' := (15, [some (.int b), some (.int (-100)), some (.int 100)], [.int 0], (mz_i xs Ln))) rfl ?_
              exact mz_ret rfl
            refine mz_go 2 (c' := (27, [some (.int a), some (.int b)], [.int 0], (mz_i xs Ln))) rfl ?_
            exact mz_ret rfl
          refine mz_go 3 (c' := (25, [some (.ref 0), some (.int a), some (.int b), some (.int c), some (.int d)], [.int 1, .ref 0], (mz_i xs Ln))) rfl ?_
          refine mz_do (R := mz_r109) (as := [.ref 0, .int 1]) (rest := []) (r1 := some (.int (-1000001))) (m1 := mz_up (mz_i xs Ln) 64 1 1) rfl ⟨?_, rfl⟩ ?_
          · refine mz_go 3 (c' := (4, [some (.ref 0), some (.int 1)], [.int 6, .int 1, .int 1], (mz_i xs Ln))) rfl ?_
            refine mz_do (R := mz_r121) (as := [.int 1, .int 1, .int 6]) (rest := []) (r1 := some (.int 1)) (m1 := (mz_i xs Ln)) rfl ⟨?_, rfl⟩ ?_
            · refine mz_go 8 (c' := (15, [some (.int 1), some (.int 1), some (.int 6)], [.int 1], (mz_i xs Ln))) rfl ?_
              exact mz_ret rfl
            refine mz_go 12 (c' := (25, [some (.ref 0), some (.int 1)], [.int (-1000001)], mz_up (mz_i xs Ln) 64 1 1)) rfl ?_
            exact mz_ret rfl
          exact mz_ret rfl
        · refine mz_go 2 (c' := (2, [some (.ref 65), some (.int a), some (.int b), some (.int c), some (.int d)], [.int b, .int a], mz_up (mz_i xs Ln) 64 1 1)) rfl ?_
          refine mz_do (R := mz_r131) (as := [.int a, .int b]) (rest := []) (r1 := some (.int 0)) (m1 := mz_up (mz_i xs Ln) 64 1 1) rfl ⟨?_, rfl⟩ ?_
          · refine mz_go 3 (c' := (5, [some (.int a), some (.int b)], [.int 100, .int (-100), .int a], mz_up (mz_i xs Ln) 64 1 1)) rfl ?_
            refine mz_do (R := mz_r128) (as := [.int a, .int (-100), .int 100]) (rest := []) (r1 := some (.int 1)) (m1 := mz_up (mz_i xs Ln) 64 1 1) rfl ⟨?_, rfl⟩ ?_
            · refine mz_go 3 (c' := (if a < (-100) then 14 else 5, [some (.int a), some (.int (-100)), some (.int 100)], [], mz_up (mz_i xs Ln) 64 1 1)) rfl ?_
              refine mz_ifF h1 ?_
              refine mz_go 3 (c' := (if 100 < a then 14 else 10, [some (.int a), some (.int (-100)), some (.int 100)], [], mz_up (mz_i xs Ln) 64 1 1)) rfl ?_
              refine mz_ifF h2 ?_
              refine mz_go 2 (c' := (15, [some (.int a), some (.int (-100)), some (.int 100)], [.int 1], mz_up (mz_i xs Ln) 64 1 1)) rfl ?_
              exact mz_ret rfl
            refine mz_go 4 (c' := (16, [some (.int a), some (.int b)], [.int 100, .int (-100), .int b], mz_up (mz_i xs Ln) 64 1 1)) rfl ?_
            refine mz_do (R := mz_r128) (as := [.int b, .int (-100), .int 100]) (rest := []) (r1 := some (.int 0)) (m1 := mz_up (mz_i xs Ln) 64 1 1) rfl ⟨?_, rfl⟩ ?_
            · refine mz_go 3 (c' := (if b < (-100) then 14 else 5, [some (.int b), some (.int (-100)), some (.int 100)], [], mz_up (mz_i xs Ln) 64 1 1)) rfl ?_
              refine mz_ifT h3 ?_
              refine mz_go 1 (c' := (15, [some (.int b), some (.int (-100)), some (.int 100)], [.int 0], mz_up (mz_i xs Ln) 64 1 1)) rfl ?_
              exact mz_ret rfl
            refine mz_go 2 (c' := (27, [some (.int a), some (.int b)], [.int 0], mz_up (mz_i xs Ln) 64 1 1)) rfl ?_
            exact mz_ret rfl
          refine mz_go 3 (c' := (19, [some (.ref 65), some (.int a), some (.int b), some (.int c), some (.int d)], [.int 1, .ref 65], mz_up (mz_i xs Ln) 64 1 1)) rfl ?_
          refine mz_do (R := mz_r127) (as := [.ref 65, .int 1]) (rest := []) (r1 := some (.int (-1000001))) (m1 := mz_up (mz_up (mz_i xs Ln) 64 1 1) 68 1 1) rfl ⟨?_, rfl⟩ ?_
          · refine mz_go 11 (c' := (14, [some (.ref 65), some (.int 1)], [.int (-1000001)], mz_up (mz_up (mz_i xs Ln) 64 1 1) 68 1 1)) rfl ?_
            exact mz_ret rfl
          exact mz_ret rfl
      · by_cases h4 : 100 < b
        · refine ⟨(-1000001), mz_up (mz_i xs Ln) 64 1 1, mz_up (mz_up (mz_i xs Ln) 64 1 1) 68 1 1, ⟨?_, rfl⟩, ⟨?_, rfl⟩⟩
          · refine mz_go 2 (c' := (2, [some (.ref 0), some (.int a), some (.int b), some (.int c), some (.int d)], [.int b, .int a], (mz_i xs Ln))) rfl ?_
            refine mz_do (R := mz_r116) (as := [.int a, .int b]) (rest := []) (r1 := some (.int 0)) (m1 := (mz_i xs Ln)) rfl ⟨?_, rfl⟩ ?_
            · refine mz_go 3 (c' := (5, [some (.int a), some (.int b)], [.int 100, .int (-100), .int a], (mz_i xs Ln))) rfl ?_
              refine mz_do (R := mz_r121) (as := [.int a, .int (-100), .int 100]) (rest := []) (r1 := some (.int 1)) (m1 := (mz_i xs Ln)) rfl ⟨?_, rfl⟩ ?_
              · refine mz_go 3 (c' := (if a < (-100) then 14 else 5, [some (.int a), some (.int (-100)), some (.int 100)], [], (mz_i xs Ln))) rfl ?_
                refine mz_ifF h1 ?_
                refine mz_go 3 (c' := (if 100 < a then 14 else 10, [some (.int a), some (.int (-100)), some (.int 100)], [], (mz_i xs Ln))) rfl ?_
                refine mz_ifF h2 ?_
                refine mz_go 2 (c' := (15, [some (.int a), some (.int (-100)), some (.int 100)], [.int 1], (mz_i xs Ln))) rfl ?_
                exact mz_ret rfl
              refine mz_go 4 (c' := (16, [some (.int a), some (.int b)], [.int 100, .int (-100), .int b], (mz_i xs Ln))) rfl ?_
              refine mz_do (R := mz_r121) (as := [.int b, .int (-100), .int 100]) (rest := []) (r1 := some (.int 0)) (m1 := (mz_i xs Ln)) rfl ⟨?_, rfl⟩ ?_
              · refine mz_go 3 (c' := (if b < (-100) then 14 else 5, [some (.int b), some (.int (-100)), some (.int 100)], [], (mz_i xs Ln))) rfl ?_
                refine mz_ifF h3 ?_
                refine mz_go 3 (c' := (if 100 < b then 14 else 10, [some (.int b), some (.int (-100)), some (.int 100)], [], (mz_i xs Ln))) rfl ?_
                refine mz_ifT h4 ?_
                refine mz_go 1 (c' := (15, [some (.int b), some (.int (-100)), some (.int 100)], [.int 0], (mz_i xs Ln))) rfl ?_
                exact mz_ret rfl
              refine mz_go 2 (c' := (27, [some (.int a), some (.int b)], [.int 0], (mz_i xs Ln))) rfl ?_
              exact mz_ret rfl
            refine mz_go 3 (c' := (25, [some (.ref 0), some (.int a), some (.int b), some (.int c), some (.int d)], [.int 1, .ref 0], (mz_i xs Ln))) rfl ?_
            refine mz_do (R := mz_r109) (as := [.ref 0, .int 1]) (rest := []) (r1 := some (.int (-1000001))) (m1 := mz_up (mz_i xs Ln) 64 1 1) rfl ⟨?_, rfl⟩ ?_
            · refine mz_go 3 (c' := (4, [some (.ref 0), some (.int 1)], [.int 6, .int 1, .int 1], (mz_i xs Ln))) rfl ?_
              refine mz_do (R := mz_r121) (as := [.int 1, .int 1, .int 6]) (rest := []) (r1 := some (.int 1)) (m1 := (mz_i xs Ln)) rfl ⟨?_, rfl⟩ ?_
              · refine mz_go 8 (c' := (15, [some (.int 1), some (.int 1), some (.int 6)], [.int 1], (mz_i xs Ln))) rfl ?_
                exact mz_ret rfl
              refine mz_go 12 (c' := (25, [some (.ref 0), some (.int 1)], [.int (-1000001)], mz_up (mz_i xs Ln) 64 1 1)) rfl ?_
              exact mz_ret rfl
            exact mz_ret rfl
          · refine mz_go 2 (c' := (2, [some (.ref 65), some (.int a), some (.int b), some (.int c), some (.int d)], [.int b, .int a], mz_up (mz_i xs Ln) 64 1 1)) rfl ?_
            refine mz_do (R := mz_r131) (as := [.int a, .int b]) (rest := []) (r1 := some (.int 0)) (m1 := mz_up (mz_i xs Ln) 64 1 1) rfl ⟨?_, rfl⟩ ?_
            · refine mz_go 3 (c' := (5, [some (.int a), some (.int b)], [.int 100, .int (-100), .int a], mz_up (mz_i xs Ln) 64 1 1)) rfl ?_
              refine mz_do (R := mz_r128) (as := [.int a, .int (-100), .int 100]) (rest := []) (r1 := some (.int 1)) (m1 := mz_up (mz_i xs Ln) 64 1 1) rfl ⟨?_, rfl⟩ ?_
              · refine mz_go 3 (c' := (if a < (-100) then 14 else 5, [some (.int a), some (.int (-100)), some (.int 100)], [], mz_up (mz_i xs Ln) 64 1 1)) rfl ?_
                refine mz_ifF h1 ?_
                refine mz_go 3 (c' := (if 100 < a then 14 else 10, [some (.int a), some (.int (-100)), some (.int 100)], [], mz_up (mz_i xs Ln) 64 1 1)) rfl ?_
                refine mz_ifF h2 ?_
                refine mz_go 2 (c' := (15, [some (.int a), some (.int (-100)), some (.int 100)], [.int 1], mz_up (mz_i xs Ln) 64 1 1)) rfl ?_
                exact mz_ret rfl
              refine mz_go 4 (c' := (16, [some (.int a), some (.int b)], [.int 100, .int (-100), .int b], mz_up (mz_i xs Ln) 64 1 1)) rfl ?_
              refine mz_do (R := mz_r128) (as := [.int b, .int (-100), .int 100]) (rest := []) (r1 := some (.int 0)) (m1 := mz_up (mz_i xs Ln) 64 1 1) rfl ⟨?_, rfl⟩ ?_
              · refine mz_go 3 (c' := (if b < (-100) then 14 else 5, [some (.int b), some (.int (-100)), some (.int 100)], [], mz_up (mz_i xs Ln) 64 1 1)) rfl ?_
                refine mz_ifF h3 ?_
                refine mz_go 3 (c' := (if 100 < b then 14 else 10, [some (.int b), some (.int (-100)), some (.int 100)], [], mz_up (mz_i xs Ln) 64 1 1)) rfl ?_
                refine mz_ifT h4 ?_
                refine mz_go 1 (c' := (15, [some (.int b), some (.int (-100)), some (.int 100)], [.int 0], mz_up (mz_i xs Ln) 64 1 1)) rfl ?_
                exact mz_ret rfl
              refine mz_go 2 (c' := (27, [some (.int a), some (.int b)], [.int 0], mz_up (mz_i xs Ln) 64 1 1)) rfl ?_
              exact mz_ret rfl
            refine mz_go 3 (c' := (19, [some (.ref 65), some (.int a), some (.int b), some (.int c), some (.int d)], [.int 1, .ref 65], mz_up (mz_i xs Ln) 64 1 1)) rfl ?_
            refine mz_do (R := mz_r127) (as := [.ref 65, .int 1]) (rest := []) (r1 := some (.int (-1000001))) (m1 := mz_up (mz_up (mz_i xs Ln) 64 1 1) 68 1 1) rfl ⟨?_, rfl⟩ ?_
            · refine mz_go 11 (c' := (14, [some (.ref 65), some (.int 1)], [.int (-1000001)], mz_up (mz_up (mz_i xs Ln) 64 1 1) 68 1 1)) rfl ?_
              exact mz_ret rfl
            exact mz_ret rfl
        · by_cases h5 : c < (-9999)
          · refine ⟨(-1000001), mz_up (mz_i xs Ln) 64 1 1, mz_up (mz_up (mz_i xs Ln) 64 1 1) 68 1 1, ⟨?_, rfl⟩, ⟨?_, rfl⟩⟩
            · refine mz_go 2 (c' := (2, [some (.ref 0), some (.int a), some (.int b), some (.int c), some (.int d)], [.int b, .int a], (mz_i xs Ln))) rfl ?_
              refine mz_do (R := mz_r116) (as := [.int a, .int b]) (rest := []) (r1 := some (.int 1)) (m1 := (mz_i xs Ln)) rfl ⟨?_, rfl⟩ ?_
              · refine mz_go 3 (c' := (5, [some (.int a), some (.int b)], [.int 100, .int (-100), .int a], (mz_i xs Ln))) rfl ?_
                refine mz_do (R := mz_r121) (as := [.int a, .int (-100), .int 100]) (rest := []) (r1 := some (.int 1)) (m1 := (mz_i xs Ln)) rfl ⟨?_, rfl⟩ ?_
                · refine mz_go 3 (c' := (if a < (-100) then 14 else 5, [some (.int a), some (.int (-100)), some (.int 100)], [], (mz_i xs Ln))) rfl ?_
                  refine mz_ifF h1 ?_
                  refine mz_go 3 (c' := (if 100 < a then 14 else 10, [some (.int a), some (.int (-100)), some (.int 100)], [], (mz_i xs Ln))) rfl ?_
                  refine mz_ifF h2 ?_
                  refine mz_go 2 (c' := (15, [some (.int a), some (.int (-100)), some (.int 100)], [.int 1], (mz_i xs Ln))) rfl ?_
                  exact mz_ret rfl
                refine mz_go 4 (c' := (16, [some (.int a), some (.int b)], [.int 100, .int (-100), .int b], (mz_i xs Ln))) rfl ?_
                refine mz_do (R := mz_r121) (as := [.int b, .int (-100), .int 100]) (rest := []) (r1 := some (.int 1)) (m1 := (mz_i xs Ln)) rfl ⟨?_, rfl⟩ ?_
                · refine mz_go 3 (c' := (if b < (-100) then 14 else 5, [some (.int b), some (.int (-100)), some (.int 100)], [], (mz_i xs Ln))) rfl ?_
                  refine mz_ifF h3 ?_
                  refine mz_go 3 (c' := (if 100 < b then 14 else 10, [some (.int b), some (.int (-100)), some (.int 100)], [], (mz_i xs Ln))) rfl ?_
                  refine mz_ifF h4 ?_
                  refine mz_go 2 (c' := (15, [some (.int b), some (.int (-100)), some (.int 100)], [.int 1], (mz_i xs Ln))) rfl ?_
                  exact mz_ret rfl
                refine mz_go 3 (c' := (27, [some (.int a), some (.int b)], [.int 1], (mz_i xs Ln))) rfl ?_
                exact mz_ret rfl
              refine mz_go 2 (c' := (9, [some (.ref 0), some (.int a), some (.int b), some (.int c), some (.int d)], [.int c], (mz_i xs Ln))) rfl ?_
              refine mz_do (R := mz_r117) (as := [.int c]) (rest := []) (r1 := some (.int 0)) (m1 := (mz_i xs Ln)) rfl ⟨?_, rfl⟩ ?_
              · refine mz_go 3 (c' := (7, [some (.int c)], [.int 9999, .int (-9999), .int c], (mz_i xs Ln))) rfl ?_
                refine mz_do (R := mz_r121) (as := [.int c, .int (-9999), .int 9999]) (rest := []) (r1 := some (.int 0)) (m1 := (mz_i xs Ln)) rfl ⟨?_, rfl⟩ ?_
                · refine mz_go 3 (c' := (if c < (-9999) then 14 else 5, [some (.int c), some (.int (-9999)), some (.int 9999)], [], (mz_i xs Ln))) rfl ?_
                  refine mz_ifT h5 ?_
                  refine mz_go 1 (c' := (15, [some (.int c), some (.int (-9999)), some (.int 9999)], [.int 0], (mz_i xs Ln))) rfl ?_
                  exact mz_ret rfl
                exact mz_ret rfl
              refine mz_go 3 (c' := (25, [some (.ref 0), some (.int a), some (.int b), some (.int c), some (.int d)], [.int 1, .ref 0], (mz_i xs Ln))) rfl ?_
              refine mz_do (R := mz_r109) (as := [.ref 0, .int 1]) (rest := []) (r1 := some (.int (-1000001))) (m1 := mz_up (mz_i xs Ln) 64 1 1) rfl ⟨?_, rfl⟩ ?_
              · refine mz_go 3 (c' := (4, [some (.ref 0), some (.int 1)], [.int 6, .int 1, .int 1], (mz_i xs Ln))) rfl ?_
                refine mz_do (R := mz_r121) (as := [.int 1, .int 1, .int 6]) (rest := []) (r1 := some (.int 1)) (m1 := (mz_i xs Ln)) rfl ⟨?_, rfl⟩ ?_
                · refine mz_go 8 (c' := (15, [some (.int 1), some (.int 1), some (.int 6)], [.int 1], (mz_i xs Ln))) rfl ?_
                  exact mz_ret rfl
                refine mz_go 12 (c' := (25, [some (.ref 0), some (.int 1)], [.int (-1000001)], mz_up (mz_i xs Ln) 64 1 1)) rfl ?_
                exact mz_ret rfl
              exact mz_ret rfl
            · refine mz_go 2 (c' := (2, [some (.ref 65), some (.int a), some (.int b), some (.int c), some (.int d)], [.int b, .int a], mz_up (mz_i xs Ln) 64 1 1)) rfl ?_
              refine mz_do (R := mz_r131) (as := [.int a, .int b]) (rest := []) (r1 := some (.int 1)) (m1 := mz_up (mz_i xs Ln) 64 1 1) rfl ⟨?_, rfl⟩ ?_
              · refine mz_go 3 (c' := (5, [some (.int a), some (.int b)], [.int 100, .int (-100), .int a], mz_up (mz_i xs Ln) 64 1 1)) rfl ?_
                refine mz_do (R := mz_r128) (as := [.int a, .int (-100), .int 100]) (rest := []) (r1 := some (.int 1)) (m1 := mz_up (mz_i xs Ln) 64 1 1) rfl ⟨?_, rfl⟩ ?_
                · refine mz_go 3 (c' := (if a < (-100) then 14 else 5, [some (.int a), some (.int (-100)), some (.int 100)], [], mz_up (mz_i xs Ln) 64 1 1)) rfl ?_
                  refine mz_ifF h1 ?_
                  refine mz_go 3 (c' := (if 100 < a then 14 else 10, [some (.int a), some (.int (-100)), some (.int 100)], [], mz_up (mz_i xs Ln) 64 1 1)) rfl ?_
                  refine mz_ifF h2 ?_
                  refine mz_go 2 (c' := (15, [some (.int a), some (.int (-100)), some (.int 100)], [.int 1], mz_up (mz_i xs Ln) 64 1 1)) rfl ?_
                  exact mz_ret rfl
                refine mz_go 4 (c' := (16, [some (.int a), some (.int b)], [.int 100, .int (-100), .int b], mz_up (mz_i xs Ln) 64 1 1)) rfl ?_
                refine mz_do (R := mz_r128) (as := [.int b, .int (-100), .int 100]) (rest := []) (r1 := some (.int 1)) (m1 := mz_up (mz_i xs Ln) 64 1 1) rfl ⟨?_, rfl⟩ ?_
                · refine mz_go 3 (c' := (if b < (-100) then 14 else 5, [some (.int b), some (.int (-100)), some (.int 100)], [], mz_up (mz_i xs Ln) 64 1 1)) rfl ?_
                  refine mz_ifF h3 ?_
                  refine mz_go 3 (c' := (if 100 < b then 14 else 10, [some (.int b), some (.int (-100)), some (.int 100)], [], mz_up (mz_i xs Ln) 64 1 1)) rfl ?_
                  refine mz_ifF h4 ?_
                  refine mz_go 2 (c' := (15, [some (.int b), some (.int (-100)), some (.int 100)], [.int 1], mz_up (mz_i xs Ln) 64 1 1)) rfl ?_
                  exact mz_ret rfl
                refine mz_go 3 (c' := (27, [some (.int a), some (.int b)], [.int 1], mz_up (mz_i xs Ln) 64 1 1)) rfl ?_
                exact mz_ret rfl
              refine mz_go 3 (c' := (11, [some (.ref 65), some (.int a), some (.int b), some (.int c), some (.int d)], [.int d, .int c], mz_up (mz_i xs Ln) 64 1 1)) rfl ?_
              refine mz_do (R := mz_r175) (as := [.int c, .int d]) (rest := []) (r1 := some (.int 0)) (m1 := mz_up (mz_i xs Ln) 64 1 1) rfl ⟨?_, rfl⟩ ?_
              · refine mz_go 3 (c' := (7, [some (.int c), some (.int d)], [.int 9999, .int (-9999), .int c], mz_up (mz_i xs Ln) 64 1 1)) rfl ?_
                refine mz_do (R := mz_r128) (as := [.int c, .int (-9999), .int 9999]) (rest := []) (r1 := some (.int 0)) (m1 := mz_up (mz_i xs Ln) 64 1 1) rfl ⟨?_, rfl⟩ ?_
                · refine mz_go 3 (c' := (if c < (-9999) then 14 else 5, [some (.int c), some (.int (-9999)), some (.int 9999)], [], mz_up (mz_i xs Ln) 64 1 1)) rfl ?_
                  refine mz_ifT h5 ?_
                  refine mz_go 1 (c' := (15, [some (.int c), some (.int (-9999)), some (.int 9999)], [.int 0], mz_up (mz_i xs Ln) 64 1 1)) rfl ?_
                  exact mz_ret rfl
                refine mz_go 2 (c' := (31, [some (.int c), some (.int d)], [.int 0], mz_up (mz_i xs Ln) 64 1 1)) rfl ?_
                exact mz_ret rfl
              refine mz_go 3 (c' := (19, [some (.ref 65), some (.int a), some (.int b), some (.int c), some (.int d)], [.int 1, .ref 65], mz_up (mz_i xs Ln) 64 1 1)) rfl ?_
              refine mz_do (R := mz_r127) (as := [.ref 65, .int 1]) (rest := []) (r1 := some (.int (-1000001))) (m1 := mz_up (mz_up (mz_i xs Ln) 64 1 1) 68 1 1) rfl ⟨?_, rfl⟩ ?_
              · refine mz_go 11 (c' := (14, [some (.ref 65), some (.int 1)], [.int (-1000001)], mz_up (mz_up (mz_i xs Ln) 64 1 1) 68 1 1)) rfl ?_
                exact mz_ret rfl
              exact mz_ret rfl
          · by_cases h6 : 9999 < c
            · refine ⟨(-1000001), mz_up (mz_i xs Ln) 64 1 1, mz_up (mz_up (mz_i xs Ln) 64 1 1) 68 1 1, ⟨?_, rfl⟩, ⟨?_, rfl⟩⟩
              · refine mz_go 2 (c' := (2, [some (.ref 0), some (.int a), some (.int b), some (.int c), some (.int d)], [.int b, .int a], (mz_i xs Ln))) rfl ?_
                refine mz_do (R := mz_r116) (as := [.int a, .int b]) (rest := []) (r1 := some (.int 1)) (m1 := (mz_i xs Ln)) rfl ⟨?_, rfl⟩ ?_
                · refine mz_go 3 (c' := (5, [some (.int a), some (.int b)], [.int 100, .int (-100), .int a], (mz_i xs Ln))) rfl ?_
                  refine mz_do (R := mz_r121) (as := [.int a, .int (-100), .int 100]) (rest := []) (r1 := some (.int 1)) (m1 := (mz_i xs Ln)) rfl ⟨?_, rfl⟩ ?_
                  · refine mz_go 3 (c' := (if a < (-100) then 14 else 5, [some (.int a), some (.int (-100)), some (.int 100)], [], (mz_i xs Ln))) rfl ?_
                    refine mz_ifF h1 ?_
                    refine mz_go 3 (c' := (if 100 < a then 14 else 10, [some (.int a), some (.int (-100)), some (.int 100)], [], (mz_i xs Ln))) rfl ?_
                    refine mz_ifF h2 ?_
                    refine mz_go 2 (c' := (15, [some (.int a), some (.int (-100)), some (.int 100)], [.int 1], (mz_i xs Ln))) rfl ?_
                    exact mz_ret rfl
                  refine mz_go 4 (c' := (16, [some (.int a), some (.int b)], [.int 100, .int (-100), .int b], (mz_i xs Ln))) rfl ?_
                  refine mz_do (R := mz_r121) (as := [.int b, .int (-100), .int 100]) (rest := []) (r1 := some (.int 1)) (m1 := (mz_i xs Ln)) rfl ⟨?_, rfl⟩ ?_
                  · refine mz_go 3 (c' := (if b < (-100) then 14 else 5, [some (.int b), some (.int (-100)), some (.int 100)], [], (mz_i xs Ln))) rfl ?_
                    refine mz_ifF h3 ?_
                    refine mz_go 3 (c' := (if 100 < b then 14 else 10, [some (.int b), some (.int (-100)), some (.int 100)], [], (mz_i xs Ln))) rfl ?_
                    refine mz_ifF h4 ?_
                    refine mz_go 2 (c' := (15, [some (.int b), some (.int (-100)), some (.int 100)], [.int 1], (mz_i xs Ln))) rfl ?_
                    exact mz_ret rfl
                  refine mz_go 3 (c' := (27, [some (.int a), some (.int b)], [.int 1], (mz_i xs Ln))) rfl ?_
                  exact mz_ret rfl
                refine mz_go 2 (c' := (9, [some (.ref 0), some (.int a), some (.int b), some (.int c), some (.int d)], [.int c], (mz_i xs Ln))) rfl ?_
                refine mz_do (R := mz_r117) (as := [.int c]) (rest := []) (r1 := some (.int 0)) (m1 := (mz_i xs Ln)) rfl ⟨?_, rfl⟩ ?_
                · refine mz_go 3 (c' := (7, [some (.int c)], [.int 9999, .int (-9999), .int c], (mz_i xs Ln))) rfl ?_
                  refine mz_do (R := mz_r121) (as := [.int c, .int (-9999), .int 9999]) (rest := []) (r1 := some (.int 0)) (m1 := (mz_i xs Ln)) rfl ⟨?_, rfl⟩ ?_
                  · refine mz_go 3 (c' := (if c < (-9999) then 14 else 5, [some (.int c), some (.int (-9999)), some (.int 9999)], [], (mz_i xs Ln))) rfl ?_
                    refine mz_ifF h5 ?_
                    refine mz_go 3 (c' := (if 9999 < c then 14 else 10, [some (.int c), some (.int (-9999)), some (.int 9999)], [], (mz_i xs Ln))) rfl ?_
                    refine mz_ifT h6 ?_
                    refine mz_go 1 (c' := (15, [some (.int c), some (.int (-9999)), some (.int 9999)], [.int 0], (mz_i xs Ln))) rfl ?_
                    exact mz_ret rfl
                  exact mz_ret rfl
                refine mz_go 3 (c' := (25, [some (.ref 0), some (.int a), some (.int b), some (.int c), some (.int d)], [.int 1, .ref 0], (mz_i xs Ln))) rfl ?_
                refine mz_do (R := mz_r109) (as := [.ref 0, .int 1]) (rest := []) (r1 := some (.int (-1000001))) (m1 := mz_up (mz_i xs Ln) 64 1 1) rfl ⟨?_, rfl⟩ ?_
                · refine mz_go 3 (c' := (4, [some (.ref 0), some (.int 1)], [.int 6, .int 1, .int 1], (mz_i xs Ln))) rfl ?_
                  refine mz_do (R := mz_r121) (as := [.int 1, .int 1, .int 6]) (rest := []) (r1 := some (.int 1)) (m1 := (mz_i xs Ln)) rfl ⟨?_, rfl⟩ ?_
                  · refine mz_go 8 (c' := (15, [some (.int 1), some (.int 1), some (.int 6)], [.int 1], (mz_i xs Ln))) rfl ?_
                    exact mz_ret rfl
                  refine mz_go 12 (c' := (25, [some (.ref 0), some (.int 1)], [.int (-1000001)], mz_up (mz_i xs Ln) 64 1 1)) rfl ?_
                  exact mz_ret rfl
                exact mz_ret rfl
              · refine mz_go 2 (c' := (2, [some (.ref 65), some (.int a), some (.int b), some (.int c), some (.int d)], [.int b, .int a], mz_up (mz_i xs Ln) 64 1 1)) rfl ?_
                refine mz_do (R := mz_r131) (as := [.int a, .int b]) (rest := []) (r1 := some (.int 1)) (m1 := mz_up (mz_i xs Ln) 64 1 1) rfl ⟨?_, rfl⟩ ?_
                · refine mz_go 3 (c' := (5, [some (.int a), some (.int b)], [.int 100, .int (-100), .int a], mz_up (mz_i xs Ln) 64 1 1)) rfl ?_
                  refine mz_do (R := mz_r128) (as := [.int a, .int (-100), .int 100]) (rest := []) (r1 := some (.int 1)) (m1 := mz_up (mz_i xs Ln) 64 1 1) rfl ⟨?_, rfl⟩ ?_
                  · refine mz_go 3 (c' := (if a < (-100) then 14 else 5, [some (.int a), some (.int (-100)), some (.int 100)], [], mz_up (mz_i xs Ln) 64 1 1)) rfl ?_
                    refine mz_ifF h1 ?_
                    refine mz_go 3 (c' := (if 100 < a then 14 else 10, [some (.int a), some (.int (-100)), some (.int 100)], [], mz_up (mz_i xs Ln) 64 1 1)) rfl ?_
                    refine mz_ifF h2 ?_
                    refine mz_go 2 (c' := (15, [some (.int a), some (.int (-100)), some (.int 100)], [.int 1], mz_up (mz_i xs Ln) 64 1 1)) rfl ?_
                    exact mz_ret rfl
                  refine mz_go 4 (c' := (16, [some (.int a), some (.int b)], [.int 100, .int (-100), .int b], mz_up (mz_i xs Ln) 64 1 1)) rfl ?_
                  refine mz_do (R := mz_r128) (as := [.int b, .int (-100), .int 100]) (rest := []) (r1 := some (.int 1)) (m1 := mz_up (mz_i xs Ln) 64 1 1) rfl ⟨?_, rfl⟩ ?_
                  · refine mz_go 3 (c' := (if b < (-100) then 14 else 5, [some (.int b), some (.int (-100)), some (.int 100)], [], mz_up (mz_i xs Ln) 64 1 1)) rfl ?_
                    refine mz_ifF h3 ?_
                    refine mz_go 3 (c' := (if 100 < b then 14 else 10, [some (.int b), some (.int (-100)), some (.int 100)], [], mz_up (mz_i xs Ln) 64 1 1)) rfl ?_
                    refine mz_ifF h4 ?_
                    refine mz_go 2 (c' := (15, [some (.int b), some (.int (-100)), some (.int 100)], [.int 1], mz_up (mz_i xs Ln) 64 1 1)) rfl ?_
                    exact mz_ret rfl
                  refine mz_go 3 (c' := (27, [some (.int a), some (.int b)], [.int 1], mz_up (mz_i xs Ln) 64 1 1)) rfl ?_
                  exact mz_ret rfl
                refine mz_go 3 (c' := (11, [some (.ref 65), some (.int a), some (.int b), some (.int c), some (.int d)], [.int d, .int c], mz_up (mz_i xs Ln) 64 1 1)) rfl ?_
                refine mz_do (R := mz_r175) (as := [.int c, .int d]) (rest := []) (r1 := some (.int 0)) (m1 := mz_up (mz_i xs Ln) 64 1 1) rfl ⟨?_, rfl⟩ ?_
                · refine mz_go 3 (c' := (7, [some (.int c), some (.int d)], [.int 9999, .int (-9999), .int c], mz_up (mz_i xs Ln) 64 1 1)) rfl ?_
                  refine mz_do (R := mz_r128) (as := [.int c, .int (-9999), .int 9999]) (rest := []) (r1 := some (.int 0)) (m1 := mz_up (mz_i xs Ln) 64 1 1) rfl ⟨?_, rfl⟩ ?_
                  · refine mz_go 3 (c' := (if c < (-9999) then 14 else 5, [some (.int c), some (.int (-9999)), some (.int 9999)], [], mz_up (mz_i xs Ln) 64 1 1)) rfl ?_
                    refine mz_ifF h5 ?_
                    refine mz_go 3 (c' := (if 9999 < c then 14 else 10, [some (.int c), some (.int (-9999)), some (.int 9999)], [], mz_up (mz_i xs Ln) 64 1 1)) rfl ?_
                    refine mz_ifT h6 ?_
                    refine mz_go 1 (c' := (15, [some (.int c), some (.int (-9999)), some (.int 9999)], [.int 0], mz_up (mz_i xs Ln) 64 1 1)) rfl ?_
                    exact mz_ret rfl
                  refine mz_go 2 (c' := (31, [some (.int c), some (.int d)], [.int 0], mz_up (mz_i xs Ln) 64 1 1)) rfl ?_
                  exact mz_ret rfl
                refine mz_go 3 (c' := (19, [some (.ref 65), some (.int a), some (.int b), some (.int c), some (.int d)], [.int 1, .ref 65], mz_up (mz_i xs Ln) 64 1 1)) rfl ?_
                refine mz_do (R := mz_r127) (as := [.ref 65, .int 1]) (rest := []) (r1 := some (.int (-1000001))) (m1 := mz_up (mz_up (mz_i xs Ln) 64 1 1) 68 1 1) rfl ⟨?_, rfl⟩ ?_
                · refine mz_go 11 (c' := (14, [some (.ref 65), some (.int 1)], [.int (-1000001)], mz_up (mz_up (mz_i xs Ln) 64 1 1) 68 1 1)) rfl ?_
                  exact mz_ret rfl
                exact mz_ret rfl
            · by_cases h7 : d < (-9999)
              · refine ⟨(-1000001), mz_up (mz_i xs Ln) 64 1 1, mz_up (mz_up (mz_i xs Ln) 64 1 1) 68 1 1, ⟨?_, rfl⟩, ⟨?_, rfl⟩⟩
                · refine mz_go 2 (c' := (2, [some (.ref 0), some (.int a), some (.int b), some (.int c), some (.int d)], [.int b, .int a], (mz_i xs Ln))) rfl ?_
                  refine mz_do (R := mz_r116) (as := [.int a, .int b]) (rest := []) (r1 := some (.int 1)) (m1 := (mz_i xs Ln)) rfl ⟨?_, rfl⟩ ?_
                  · refine mz_go 3 (c' := (5, [some (.int a), some (.int b)], [.int 100, .int (-100), .int a], (mz_i xs Ln))) rfl ?_
                    refine mz_do (R := mz_r121) (as := [.int a, .int (-100), .int 100]) (rest := []) (r1 := some (.int 1)) (m1 := (mz_i xs Ln)) rfl ⟨?_, rfl⟩ ?_
                    · refine mz_go 3 (c' := (if a < (-100) then 14 else 5, [some (.int a), some (.int (-100)), some (.int 100)], [], (mz_i xs Ln))) rfl ?_
                      refine mz_ifF h1 ?_
                      refine mz_go 3 (c' := (if 100 < a then 14 else 10, [some (.int a), some (.int (-100)), some (.int 100)], [], (mz_i xs Ln))) rfl ?_
                      refine mz_ifF h2 ?_
                      refine mz_go 2 (c' := (15, [some (.int a), some (.int (-100)), some (.int 100)], [.int 1], (mz_i xs Ln))) rfl ?_
                      exact mz_ret rfl
                    refine mz_go 4 (c' := (16, [some (.int a), some (.int b)], [.int 100, .int (-100), .int b], (mz_i xs Ln))) rfl ?_
                    refine mz_do (R := mz_r121) (as := [.int b, .int (-100), .int 100]) (rest := []) (r1 := some (.int 1)) (m1 := (mz_i xs Ln)) rfl ⟨?_, rfl⟩ ?_
                    · refine mz_go 3 (c' := (if b < (-100) then 14 else 5, [some (.int b), some (.int (-100)), some (.int 100)], [], (mz_i xs Ln))) rfl ?_
                      refine mz_ifF h3 ?_
                      refine mz_go 3 (c' := (if 100 < b then 14 else 10, [some (.int b), some (.int (-100)), some (.int 100)], [], (mz_i xs Ln))) rfl ?_
                      refine mz_ifF h4 ?_
                      refine mz_go 2 (c' := (15, [some (.int b), some (.int (-100)), some (.int 100)], [.int 1], (mz_i xs Ln))) rfl ?_
                      exact mz_ret rfl
                    refine mz_go 3 (c' := (27, [some (.int a), some (.int b)], [.int 1], (mz_i xs Ln))) rfl ?_
                    exact mz_ret rfl
                  refine mz_go 2 (c' := (9, [some (.ref 0), some (.int a), some (.int b), some (.int c), some (.int d)], [.int c], (mz_i xs Ln))) rfl ?_
                  refine mz_do (R := mz_r117) (as := [.int c]) (rest := []) (r1 := some (.int 1)) (m1 := (mz_i xs Ln)) rfl ⟨?_, rfl⟩ ?_
                  · refine mz_go 3 (c' := (7, [some (.int c)], [.int 9999, .int (-9999), .int c], (mz_i xs Ln))) rfl ?_
                    refine mz_do (R := mz_r121) (as := [.int c, .int (-9999), .int 9999]) (rest := []) (r1 := some (.int 1)) (m1 := (mz_i xs Ln)) rfl ⟨?_, rfl⟩ ?_
                    · refine mz_go 3 (c' := (if c < (-9999) then 14 else 5, [some (.int c), some (.int (-9999)), some (.int 9999)], [], (mz_i xs Ln))) rfl ?_
                      refine mz_ifF h5 ?_
                      refine mz_go 3 (c' := (if 9999 < c then 14 else 10, [some (.int c), some (.int (-9999)), some (.int 9999)], [], (mz_i xs Ln))) rfl ?_
                      refine mz_ifF h6 ?_
                      refine mz_go 2 (c' := (15, [some (.int c), some (.int (-9999)), some (.int 9999)], [.int 1], (mz_i xs Ln))) rfl ?_
                      exact mz_ret rfl
                    exact mz_ret rfl
                  refine mz_go 2 (c' := (17, [some (.ref 0), some (.int a), some (.int b), some (.int c), some (.int d)], [.int d], (mz_i xs Ln))) rfl ?_
                  refine mz_do (R := mz_r117) (as := [.int d]) (rest := []) (r1 := some (.int 0)) (m1 := (mz_i xs Ln)) rfl ⟨?_, rfl⟩ ?_
                  · refine mz_go 3 (c' := (7, [some (.int d)], [.int 9999, .int (-9999), .int d], (mz_i xs Ln))) rfl ?_
                    refine mz_do (R := mz_r121) (as := [.int d, .int (-9999), .int 9999]) (rest := []) (r1 := some (.int 0)) (m1 := (mz_i xs Ln)) rfl ⟨?_, rfl⟩ ?_
                    · refine mz_go 3 (c' := (if d < (-9999) then 14 else 5, [some (.int d), some (.int (-9999)), some (.int 9999)], [], (mz_i xs Ln))) rfl ?_
                      refine mz_ifT h7 ?_
                      refine mz_go 1 (c' := (15, [some (.int d), some (.int (-9999)), some (.int 9999)], [.int 0], (mz_i xs Ln))) rfl ?_
                      exact mz_ret rfl
                    exact mz_ret rfl
                  refine mz_go 3 (c' := (25, [some (.ref 0), some (.int a), some (.int b), some (.int c), some (.int d)], [.int 1, .ref 0], (mz_i xs Ln))) rfl ?_
                  refine mz_do (R := mz_r109) (as := [.ref 0, .int 1]) (rest := []) (r1 := some (.int (-1000001))) (m1 := mz_up (mz_i xs Ln) 64 1 1) rfl ⟨?_, rfl⟩ ?_
                  · refine mz_go 3 (c' := (4, [some (.ref 0), some (.int 1)], [.int 6, .int 1, .int 1], (mz_i xs Ln))) rfl ?_
                    refine mz_do (R := mz_r121) (as := [.int 1, .int 1, .int 6]) (rest := []) (r1 := some (.int 1)) (m1 := (mz_i xs Ln)) rfl ⟨?_, rfl⟩ ?_
                    · refine mz_go 8 (c' := (15, [some (.int 1), some (.int 1), some (.int 6)], [.int 1], (mz_i xs Ln))) rfl ?_
                      exact mz_ret rfl
                    refine mz_go 12 (c' := (25, [some (.ref 0), some (.int 1)], [.int (-1000001)], mz_up (mz_i xs Ln) 64 1 1)) rfl ?_
                    exact mz_ret rfl
                  exact mz_ret rfl
                · refine mz_go 2 (c' := (2, [some (.ref 65), some (.int a), some (.int b), some (.int c), some (.int d)], [.int b, .int a], mz_up (mz_i xs Ln) 64 1 1)) rfl ?_
                  refine mz_do (R := mz_r131) (as := [.int a, .int b]) (rest := []) (r1 := some (.int 1)) (m1 := mz_up (mz_i xs Ln) 64 1 1) rfl ⟨?_, rfl⟩ ?_
                  · refine mz_go 3 (c' := (5, [some (.int a), some (.int b)], [.int 100, .int (-100), .int a], mz_up (mz_i xs Ln) 64 1 1)) rfl ?_
                    refine mz_do (R := mz_r128) (as := [.int a, .int (-100), .int 100]) (rest := []) (r1 := some (.int 1)) (m1 := mz_up (mz_i xs Ln) 64 1 1) rfl ⟨?_, rfl⟩ ?_
                    · refine mz_go 3 (c' := (if a < (-100) then 14 else 5, [some (.int a), some (.int (-100)), some (.int 100)], [], mz_up (mz_i xs Ln) 64 1 1)) rfl ?_
                      refine mz_ifF h1 ?_
                      refine mz_go 3 (c' := (if 100 < a then 14 else 10, [some (.int a), some (.int (-100)), some (.int 100)], [], mz_up (mz_i xs Ln) 64 1 1)) rfl ?_
                      refine mz_ifF h2 ?_
                      refine mz_go 2 (c' := (15, [some (.int a), some (.int (-100)), some (.int 100)], [.int 1], mz_up (mz_i xs Ln) 64 1 1)) rfl ?_
                      exact mz_ret rfl
                    refine mz_go 4 (c' := (16, [some (.int a), some (.int b)], [.int 100, .int (-100), .int b], mz_up (mz_i xs Ln) 64 1 1)) rfl ?_
                    refine mz_do (R := mz_r128) (as := [.int b, .int (-100), .int 100]) (rest := []) (r1 := some (.int 1)) (m1 := mz_up (mz_i xs Ln) 64 1 1) rfl ⟨?_, rfl⟩ ?_
                    · refine mz_go 3 (c' := (if b < (-100) then 14 else 5, [some (.int b), some (.int (-100)), some (.int 100)], [], mz_up (mz_i xs Ln) 64 1 1)) rfl ?_
                      refine mz_ifF h3 ?_
                      refine mz_go 3 (c' := (if 100 < b then 14 else 10, [some (.int b), some (.int (-100)), some (.int 100)], [], mz_up (mz_i xs Ln) 64 1 1)) rfl ?_
                      refine mz_ifF h4 ?_
                      refine mz_go 2 (c' := (15, [some (.int b), some (.int (-100)), some (.int 100)], [.int 1], mz_up (mz_i xs Ln) 64 1 1)) rfl ?_
                      exact mz_ret rfl
                    refine mz_go 3 (c' := (27, [some (.int a), some (.int b)], [.int 1], mz_up (mz_i xs Ln) 64 1 1)) rfl ?_
                    exact mz_ret rfl
                  refine mz_go 3 (c' := (11, [some (.ref 65), some (.int a), some (.int b), some (.int c), some (.int d)], [.int d, .int c], mz_up (mz_i xs Ln) 64 1 1)) rfl ?_
                  refine mz_do (R := mz_r175) (as := [.int c, .int d]) (rest := []) (r1 := some (.int 0)) (m1 := mz_up (mz_i xs Ln) 64 1 1) rfl ⟨?_, rfl⟩ ?_
                  · refine mz_go 3 (c' := (7, [some (.int c), some (.int d)], [.int 9999, .int (-9999), .int c], mz_up (mz_i xs Ln) 64 1 1)) rfl ?_
                    refine mz_do (R := mz_r128) (as := [.int c, .int (-9999), .int 9999]) (rest := []) (r1 := some (.int 1)) (m1 := mz_up (mz_i xs Ln) 64 1 1) rfl ⟨?_, rfl⟩ ?_
                    · refine mz_go 3 (c' := (if c < (-9999) then 14 else 5, [some (.int c), some (.int (-9999)), some (.int 9999)], [], mz_up (mz_i xs Ln) 64 1 1)) rfl ?_
                      refine mz_ifF h5 ?_
                      refine mz_go 3 (c' := (if 9999 < c then 14 else 10, [some (.int c), some (.int (-9999)), some (.int 9999)], [], mz_up (mz_i xs Ln) 64 1 1)) rfl ?_
                      refine mz_ifF h6 ?_
                      refine mz_go 2 (c' := (15, [some (.int c), some (.int (-9999)), some (.int 9999)], [.int 1], mz_up (mz_i xs Ln) 64 1 1)) rfl ?_
                      exact mz_ret rfl
                    refine mz_go 4 (c' := (20, [some (.int c), some (.int d)], [.int 9999, .int (-9999), .int d], mz_up (mz_i xs Ln) 64 1 1)) rfl ?_
                    refine mz_do (R := mz_r128) (as := [.int d, .int (-9999), .int 9999]) (rest := []) (r1 := some (.int 0)) (m1 := mz_up (mz_i xs Ln) 64 1 1) rfl ⟨?_, rfl⟩ ?_
                    · refine mz_go 3 (c' := (if d < (-9999) then 14 else 5, [some (.int d), some (.int (-9999)), some (.int 9999)], [], mz_up (mz_i xs Ln) 64 1 1)) rfl ?_
                      refine mz_ifT h7 ?_
                      refine mz_go 1 (c' := (15, [some (.int d), some (.int (-9999)), some (.int 9999)], [.int 0], mz_up (mz_i xs Ln) 64 1 1)) rfl ?_
                      exact mz_ret rfl
                    refine mz_go 2 (c' := (31, [some (.int c), some (.int d)], [.int 0], mz_up (mz_i xs Ln) 64 1 1)) rfl ?_
                    exact mz_ret rfl
                  refine mz_go 3 (c' := (19, [some (.ref 65), some (.int a), some (.int b), some (.int c), some (.int d)], [.int 1, .ref 65], mz_up (mz_i xs Ln) 64 1 1)) rfl ?_
                  refine mz_do (R := mz_r127) (as := [.ref 65, .int 1]) (rest := []) (r1 := some (.int (-1000001))) (m1 := mz_up (mz_up (mz_i xs Ln) 64 1 1) 68 1 1) rfl ⟨?_, rfl⟩ ?_
                  · refine mz_go 11 (c' := (14, [some (.ref 65), some (.int 1)], [.int (-1000001)], mz_up (mz_up (mz_i xs Ln) 64 1 1) 68 1 1)) rfl ?_
                    exact mz_ret rfl
                  exact mz_ret rfl
              · by_cases h8 : 9999 < d
                · refine ⟨(-1000001), mz_up (mz_i xs Ln) 64 1 1, mz_up (mz_up (mz_i xs Ln) 64 1 1) 68 1 1, ⟨?_, rfl⟩, ⟨?_, rfl⟩⟩
                  · refine mz_go 2 (c' := (2, [some (.ref 0), some (.int a), some (.int b), some (.int c), some (.int d)], [.int b, .int a], (mz_i xs Ln))) rfl ?_
                    refine mz_do (R := mz_r116) (as := [.int a, .int b]) (rest := []) (r1 := some (.int 1)) (m1 := (mz_i xs Ln)) rfl ⟨?_, rfl⟩ ?_
                    · refine mz_go 3 (c' := (5, [some (.int a), some (.int b)], [.int 100, .int (-100), .int a], (mz_i xs Ln))) rfl ?_
                      refine mz_do (R := mz_r121) (as := [.int a, .int (-100), .int 100]) (rest := []) (r1 := some (.int 1)) (m1 := (mz_i xs Ln)) rfl ⟨?_, rfl⟩ ?_
                      · refine mz_go 3 (c' := (if a < (-100) then 14 else 5, [some (.int a), some (.int (-100)), some (.int 100)], [], (mz_i xs Ln))) rfl ?_
                        refine mz_ifF h1 ?_
                        refine mz_go 3 (c' := (if 100 < a then 14 else 10, [some (.int a), some (.int (-100)), some (.int 100)], [], (mz_i xs Ln))) rfl ?_
                        refine mz_ifF h2 ?_
                        refine mz_go 2 (c' := (15, [some (.int a), some (.int (-100)), some (.int 100)], [.int 1], (mz_i xs Ln))) rfl ?_
                        exact mz_ret rfl
                      refine mz_go 4 (c' := (16, [some (.int a), some (.int b)], [.int 100, .int (-100), .int b], (mz_i xs Ln))) rfl ?_
                      refine mz_do (R := mz_r121) (as := [.int b, .int (-100), .int 100]) (rest := []) (r1 := some (.int 1)) (m1 := (mz_i xs Ln)) rfl ⟨?_, rfl⟩ ?_
                      · refine mz_go 3 (c' := (if b < (-100) then 14 else 5, [some (.int b), some (.int (-100)), some (.int 100)], [], (mz_i xs Ln))) rfl ?_
                        refine mz_ifF h3 ?_
                        refine mz_go 3 (c' := (if 100 < b then 14 else 10, [some (.int b), some (.int (-100)), some (.int 100)], [], (mz_i xs Ln))) rfl ?_
                        refine mz_ifF h4 ?_
                        refine mz_go 2 (c' := (15, [some (.int b), some (.int (-100)), some (.int 100)], [.int 1], (mz_i xs Ln))) rfl ?_
                        exact mz_ret rfl
                      refine mz_go 3 (c' := (27, [some (.int a), some (.int b)], [.int 1], (mz_i xs Ln))) rfl ?_
                      exact mz_ret rfl
                    refine mz_go 2 (c' := (9, [some (.ref 0), some (.int a), some (.int b), some (.int c), some (.int d)], [.int c], (mz_i xs Ln))) rfl ?_
                    refine mz_do (R := mz_r117) (as := [.int c]) (rest := []) (r1 := some (.int 1)) (m1 := (mz_i xs Ln)) rfl ⟨?_, rfl⟩ ?_
                    · refine mz_go 3 (c' := (7, [some (.int c)], [.int 9999, .int (-9999), .int c], (mz_i xs Ln))) rfl ?_
                      refine mz_do (R := mz_r121) (as := [.int c, .int (-9999), .int 9999]) (rest := []) (r1 := some (.int 1)) (m1 := (mz_i xs Ln)) rfl ⟨?_, rfl⟩ ?_
                      · refine mz_go 3 (c' := (if c < (-9999) then 14 else 5, [some (.int c), some (.int (-9999)), some (.int 9999)], [], (mz_i xs Ln))) rfl ?_
                        refine mz_ifF h5 ?_
                        refine mz_go 3 (c' := (if 9999 < c then 14 else 10, [some (.int c), some (.int (-9999)), some (.int 9999)], [], (mz_i xs Ln))) rfl ?_
                        refine mz_ifF h6 ?_
                        refine mz_go 2 (c' := (15, [some (.int c), some (.int (-9999)), some (.int 9999)], [.int 1], (mz_i xs Ln))) rfl ?_
                        exact mz_ret rfl
                      exact mz_ret rfl
                    refine mz_go 2 (c' := (17, [some (.ref 0), some (.int a), some (.int b), some (.int c), some (.int d)], [.int d], (mz_i xs Ln))) rfl ?_
                    refine mz_do (R := mz_r117) (as := [.int d]) (rest := []) (r1 := some (.int 0)) (m1 := (mz_i xs Ln)) rfl ⟨?_, rfl⟩ ?_
                    · refine mz_go 3 (c' := (7, [some (.int d)], [.int 9999, .int (-9999), .int d], (mz_i xs Ln))) rfl ?_
                      refine mz_do (R := mz_r121) (as := [.int d, .int (-9999), .int 9999]) (rest := []) (r1 := some (.int 0)) (m1 := (mz_i xs Ln)) rfl ⟨?_, rfl⟩ ?_
                      · refine mz_go 3 (c' := (if d < (-9999) then 14 else 5, [some (.int d), some (.int (-9999)), some (.int 9999)], [], (mz_i xs Ln))) rfl ?_
                        refine mz_ifF h7 ?_
                        refine mz_go 3 (c' := (if 9999 < d then 14 else 10, [some (.int d), some (.int (-9999)), some (.int 9999)], [], (mz_i xs Ln))) rfl ?_
                        refine mz_ifT h8 ?_
                        refine mz_go 1 (c' := (15, [some (.int d), some (.int (-9999)), some (.int 9999)], [.int 0], (mz_i xs Ln))) rfl ?_
                        exact mz_ret rfl
                      exact mz_ret rfl
                    refine mz_go 3 (c' := (25, [some (.ref 0), some (.int a), some (.int b), some (.int c), some (.int d)], [.int 1, .ref 0], (mz_i xs Ln))) rfl ?_
                    refine mz_do (R := mz_r109) (as := [.ref 0, .int 1]) (rest := []) (r1 := some (.int (-1000001))) (m1 := mz_up (mz_i xs Ln) 64 1 1) rfl ⟨?_, rfl⟩ ?_
                    · refine mz_go 3 (c' := (4, [some (.ref 0), some (.int 1)], [.int 6, .int 1, .int 1], (mz_i xs Ln))) rfl ?_
                      refine mz_do (R := mz_r121) (as := [.int 1, .int 1, .int 6]) (rest := []) (r1 := some (.int 1)) (m1 := (mz_i xs Ln)) rfl ⟨?_, rfl⟩ ?_
                      · refine mz_go 8 (c' := (15, [some (.int 1), some (.int 1), some (.int 6)], [.int 1], (mz_i xs Ln))) rfl ?_
                        exact mz_ret rfl
                      refine mz_go 12 (c' := (25, [some (.ref 0), some (.int 1)], [.int (-1000001)], mz_up (mz_i xs Ln) 64 1 1)) rfl ?_
                      exact mz_ret rfl
                    exact mz_ret rfl
                  · refine mz_go 2 (c' := (2, [some (.ref 65), some (.int a), some (.int b), some (.int c), some (.int d)], [.int b, .int a], mz_up (mz_i xs Ln) 64 1 1)) rfl ?_
                    refine mz_do (R := mz_r131) (as := [.int a, .int b]) (rest := []) (r1 := some (.int 1)) (m1 := mz_up (mz_i xs Ln) 64 1 1) rfl ⟨?_, rfl⟩ ?_
                    · refine mz_go 3 (c' := (5, [some (.int a), some (.int b)], [.int 100, .int (-100), .int a], mz_up (mz_i xs Ln) 64 1 1)) rfl ?_
                      refine mz_do (R := mz_r128) (as := [.int a, .int (-100), .int 100]) (rest := []) (r1 := some (.int 1)) (m1 := mz_up (mz_i xs Ln) 64 1 1) rfl ⟨?_, rfl⟩ ?_
                      · refine mz_go 3 (c' := (if a < (-100) then 14 else 5, [some (.int a), some (.int (-100)), some (.int 100)], [], mz_up (mz_i xs Ln) 64 1 1)) rfl ?_
                        refine mz_ifF h1 ?_
                        refine mz_go 3 (c' := (if 100 < a then 14 else 10, [some (.int a), some (.int (-100)), some (.int 100)], [], mz_up (mz_i xs Ln) 64 1 1)) rfl ?_
                        refine mz_ifF h2 ?_
                        refine mz_go 2 (c' := (15, [some (.int a), some (.int (-100)), some (.int 100)], [.int 1], mz_up (mz_i xs Ln) 64 1 1)) rfl ?_
                        exact mz_ret rfl
                      refine mz_go 4 (c' := (16, [some (.int a), some (.int b)], [.int 100, .int (-100), .int b], mz_up (mz_i xs Ln) 64 1 1)) rfl ?_
                      refine mz_do (R := mz_r128) (as := [.int b, .int (-100), .int 100]) (rest := []) (r1 := some (.int 1)) (m1 := mz_up (mz_i xs Ln) 64 1 1) rfl ⟨?_, rfl⟩ ?_
                      · refine mz_go 3 (c' := (if b < (-100) then 14 else 5, [some (.int b), some (.int (-100)), some (.int 100)], [], mz_up (mz_i xs Ln) 64 1 1)) rfl ?_
                        refine mz_ifF h3 ?_
                        refine mz_go 3 (c' := (if 100 < b then 14 else 10, [some (.int b), some (.int (-100)), some (.int 100)], [], mz_up (mz_i xs Ln) 64 1 1)) rfl ?_
                        refine mz_ifF h4 ?_
                        refine mz_go 2 (c' := (15, [some (.int b), some (.int (-100)), some (.int 100)], [.int 1], mz_up (mz_i xs Ln) 64 1 1)) rfl ?_
                        exact mz_ret rfl
                      refine mz_go 3 (c' := (27, [some (.int a), some (.int b)], [.int 1], mz_up (mz_i xs Ln) 64 1 1)) rfl ?_
                      exact mz_ret rfl
                    refine mz_go 3 (c' := (11, [some (.ref 65), some (.int a), some (.int b), some (.int c), some (.int d)], [.int d, .int c], mz_up (mz_i xs Ln) 64 1 1)) rfl ?_
                    refine mz_do (R := mz_r175) (as := [.int c, .int d]) (rest := []) (r1 := some (.int 0)) (m1 := mz_up (mz_i xs Ln) 64 1 1) rfl ⟨?_, rfl⟩ ?_
                    · refine mz_go 3 (c' := (7, [some (.int c), some (.int d)], [.int 9999, .int (-9999), .int c], mz_up (mz_i xs Ln) 64 1 1)) rfl ?_
                      refine mz_do (R := mz_r128) (as := [.int c, .int (-9999), .int 9999]) (rest := []) (r1 := some (.int 1)) (m1 := mz_up (mz_i xs Ln) 64 1 1) rfl ⟨?_, rfl⟩ ?_
                      · refine mz_go 3 (c' := (if c < (-9999) then 14 else 5, [some (.int c), some (.int (-9999)), some (.int 9999)], [], mz_up (mz_i xs Ln) 64 1 1)) rfl ?_
                        refine mz_ifF h5 ?_
                        refine mz_go 3 (c' := (if 9999 < c then 14 else 10, [some (.int c), some (.int (-9999)), some (.int 9999)], [], mz_up (mz_i xs Ln) 64 1 1)) rfl ?_
                        refine mz_ifF h6 ?_
                        refine mz_go 2 (c' := (15, [some (.int c), some (.int (-9999)), some (.int 9999)], [.int 1], mz_up (mz_i xs Ln) 64 1 1)) rfl ?_
                        exact mz_ret rfl
                      refine mz_go 4 (c' := (20, [some (.int c), some (.int d)], [.int 9999, .int (-9999), .int d], mz_up (mz_i xs Ln) 64 1 1)) rfl ?_
                      refine mz_do (R := mz_r128) (as := [.int d, .int (-9999), .int 9999]) (rest := []) (r1 := some (.int 0)) (m1 := mz_up (mz_i xs Ln) 64 1 1) rfl ⟨?_, rfl⟩ ?_
                      · refine mz_go 3 (c' := (if d < (-9999) then 14 else 5, [some (.int d), some (.int (-9999)), some (.int 9999)], [], mz_up (mz_i xs Ln) 64 1 1)) rfl ?_
                        refine mz_ifF h7 ?_
                        refine mz_go 3 (c' := (if 9999 < d then 14 else 10, [some (.int d), some (.int (-9999)), some (.int 9999)], [], mz_up (mz_i xs Ln) 64 1 1)) rfl ?_
                        refine mz_ifT h8 ?_
                        refine mz_go 1 (c' := (15, [some (.int d), some (.int (-9999)), some (.int 9999)], [.int 0], mz_up (mz_i xs Ln) 64 1 1)) rfl ?_
                        exact mz_ret rfl
                      refine mz_go 2 (c' := (31, [some (.int c), some (.int d)], [.int 0], mz_up (mz_i xs Ln) 64 1 1)) rfl ?_
                      exact mz_ret rfl
                    refine mz_go 3 (c' := (19, [some (.ref 65), some (.int a), some (.int b), some (.int c), some (.int d)], [.int 1, .ref 65], mz_up (mz_i xs Ln) 64 1 1)) rfl ?_
                    refine mz_do (R := mz_r127) (as := [.ref 65, .int 1]) (rest := []) (r1 := some (.int (-1000001))) (m1 := mz_up (mz_up (mz_i xs Ln) 64 1 1) 68 1 1) rfl ⟨?_, rfl⟩ ?_
                    · refine mz_go 11 (c' := (14, [some (.ref 65), some (.int 1)], [.int (-1000001)], mz_up (mz_up (mz_i xs Ln) 64 1 1) 68 1 1)) rfl ?_
                      exact mz_ret rfl
                    exact mz_ret rfl
                · obtain ⟨mm1, me1, mg1, ms1⟩ := cz_end_1 ((mz_i xs Ln)) rfl a b c d
                  have mw1 : Zf mm1 := zf_row (show Zf ((mz_i xs Ln)) from rfl) rfl me1
                  have ms1 : mz_Me 60 mz_r36 [.ref 49, .int a, .int b, .int c, .int d, .int 1] ((mz_i xs Ln)) (some (.int 9)) (mz_up (mz_z mm1) 50 4 60) := by rw [zf_eq mw1, mz_up_id mg1]; exact ms1
                  obtain ⟨mm2, me2, mg2, ms2⟩ := rz_runs_1 (mz_up (mz_up (mz_up (mz_up (mz_up (mz_up (mz_z mm1) 50 4 60) 65 4 (16 * a)) 65 5 (16 * b)) 65 6 c) 65 7 d) 65 8 0) rfl rfl
                  have mw2 : Zf mm2 := zf_row (show Zf (mz_up (mz_up (mz_up (mz_up (mz_up (mz_up (mz_z mm1) 50 4 60) 65 4 (16 * a)) 65 5 (16 * b)) 65 6 c) 65 7 d) 65 8 0) from rfl) rfl me2
                  have ms2 : mz_Me 60 mz_r154 [.ref 65, .int 1] (mz_up (mz_up (mz_up (mz_up (mz_up (mz_up (mz_z mm1) 50 4 60) 65 4 (16 * a)) 65 5 (16 * b)) 65 6 c) 65 7 d) 65 8 0) (some (.int 9)) (mz_up (mz_z mm2) 65 8 60) := by rw [zf_eq mw2, mz_up_id mg2]; exact ms2
                  refine ⟨9, mz_up (mz_z mm1) 50 4 60, mz_up (mz_z mm2) 65 8 60, ⟨?_, rfl⟩, ⟨?_, rfl⟩⟩
                  · refine mz_go 2 (c' := (2, [some (.ref 0), some (.int a), some (.int b), some (.int c), some (.int d)], [.int b, .int a], (mz_i xs Ln))) rfl ?_
                    refine mz_do (R := mz_r116) (as := [.int a, .int b]) (rest := []) (r1 := some (.int 1)) (m1 := (mz_i xs Ln)) rfl ⟨?_, rfl⟩ ?_
                    · refine mz_go 3 (c' := (5, [some (.int a), some (.int b)], [.int 100, .int (-100), .int a], (mz_i xs Ln))) rfl ?_
                      refine mz_do (R := mz_r121) (as := [.int a, .int (-100), .int 100]) (rest := []) (r1 := some (.int 1)) (m1 := (mz_i xs Ln)) rfl ⟨?_, rfl⟩ ?_
                      · refine mz_go 3 (c' := (if a < (-100) then 14 else 5, [some (.int a), some (.int (-100)), some (.int 100)], [], (mz_i xs Ln))) rfl ?_
                        refine mz_ifF h1 ?_
                        refine mz_go 3 (c' := (if 100 < a then 14 else 10, [some (.int a), some (.int (-100)), some (.int 100)], [], (mz_i xs Ln))) rfl ?_
                        refine mz_ifF h2 ?_
                        refine mz_go 2 (c' := (15, [some (.int a), some (.int (-100)), some (.int 100)], [.int 1], (mz_i xs Ln))) rfl ?_
                        exact mz_ret rfl
                      refine mz_go 4 (c' := (16, [some (.int a), some (.int b)], [.int 100, .int (-100), .int b], (mz_i xs Ln))) rfl ?_
                      refine mz_do (R := mz_r121) (as := [.int b, .int (-100), .int 100]) (rest := []) (r1 := some (.int 1)) (m1 := (mz_i xs Ln)) rfl ⟨?_, rfl⟩ ?_
                      · refine mz_go 3 (c' := (if b < (-100) then 14 else 5, [some (.int b), some (.int (-100)), some (.int 100)], [], (mz_i xs Ln))) rfl ?_
                        refine mz_ifF h3 ?_
                        refine mz_go 3 (c' := (if 100 < b then 14 else 10, [some (.int b), some (.int (-100)), some (.int 100)], [], (mz_i xs Ln))) rfl ?_
                        refine mz_ifF h4 ?_
                        refine mz_go 2 (c' := (15, [some (.int b), some (.int (-100)), some (.int 100)], [.int 1], (mz_i xs Ln))) rfl ?_
                        exact mz_ret rfl
                      refine mz_go 3 (c' := (27, [some (.int a), some (.int b)], [.int 1], (mz_i xs Ln))) rfl ?_
                      exact mz_ret rfl
                    refine mz_go 2 (c' := (9, [some (.ref 0), some (.int a), some (.int b), some (.int c), some (.int d)], [.int c], (mz_i xs Ln))) rfl ?_
                    refine mz_do (R := mz_r117) (as := [.int c]) (rest := []) (r1 := some (.int 1)) (m1 := (mz_i xs Ln)) rfl ⟨?_, rfl⟩ ?_
                    · refine mz_go 3 (c' := (7, [some (.int c)], [.int 9999, .int (-9999), .int c], (mz_i xs Ln))) rfl ?_
                      refine mz_do (R := mz_r121) (as := [.int c, .int (-9999), .int 9999]) (rest := []) (r1 := some (.int 1)) (m1 := (mz_i xs Ln)) rfl ⟨?_, rfl⟩ ?_
                      · refine mz_go 3 (c' := (if c < (-9999) then 14 else 5, [some (.int c), some (.int (-9999)), some (.int 9999)], [], (mz_i xs Ln))) rfl ?_
                        refine mz_ifF h5 ?_
                        refine mz_go 3 (c' := (if 9999 < c then 14 else 10, [some (.int c), some (.int (-9999)), some (.int 9999)], [], (mz_i xs Ln))) rfl ?_
                        refine mz_ifF h6 ?_
                        refine mz_go 2 (c' := (15, [some (.int c), some (.int (-9999)), some (.int 9999)], [.int 1], (mz_i xs Ln))) rfl ?_
                        exact mz_ret rfl
                      exact mz_ret rfl
                    refine mz_go 2 (c' := (17, [some (.ref 0), some (.int a), some (.int b), some (.int c), some (.int d)], [.int d], (mz_i xs Ln))) rfl ?_
                    refine mz_do (R := mz_r117) (as := [.int d]) (rest := []) (r1 := some (.int 1)) (m1 := (mz_i xs Ln)) rfl ⟨?_, rfl⟩ ?_
                    · refine mz_go 3 (c' := (7, [some (.int d)], [.int 9999, .int (-9999), .int d], (mz_i xs Ln))) rfl ?_
                      refine mz_do (R := mz_r121) (as := [.int d, .int (-9999), .int 9999]) (rest := []) (r1 := some (.int 1)) (m1 := (mz_i xs Ln)) rfl ⟨?_, rfl⟩ ?_
                      · refine mz_go 3 (c' := (if d < (-9999) then 14 else 5, [some (.int d), some (.int (-9999)), some (.int 9999)], [], (mz_i xs Ln))) rfl ?_
                        refine mz_ifF h7 ?_
                        refine mz_go 3 (c' := (if 9999 < d then 14 else 10, [some (.int d), some (.int (-9999)), some (.int 9999)], [], (mz_i xs Ln))) rfl ?_
                        refine mz_ifF h8 ?_
                        refine mz_go 2 (c' := (15, [some (.int d), some (.int (-9999)), some (.int 9999)], [.int 1], (mz_i xs Ln))) rfl ?_
                        exact mz_ret rfl
                      exact mz_ret rfl
                    refine mz_go 12 (c' := (47, [some (.ref 0), some (.int a), some (.int b), some (.int c), some (.int d)], [.int 1, .int d, .int c, .int b, .int a, .ref 49], (mz_i xs Ln))) rfl ?_
                    refine mz_do (R := mz_r36) (as := [.ref 49, .int a, .int b, .int c, .int d, .int 1]) (rest := []) (r1 := some (.int 9)) (m1 := mz_up (mz_z mm1) 50 4 60) rfl (mz_Me.deep ms1 (by decide)) ?_
                    exact mz_ret rfl
                  · refine mz_go 2 (c' := (2, [some (.ref 65), some (.int a), some (.int b), some (.int c), some (.int d)], [.int b, .int a], mz_up (mz_z mm1) 50 4 60)) rfl ?_
                    refine mz_do (R := mz_r131) (as := [.int a, .int b]) (rest := []) (r1 := some (.int 1)) (m1 := mz_up (mz_z mm1) 50 4 60) rfl ⟨?_, rfl⟩ ?_
                    · refine mz_go 3 (c' := (5, [some (.int a), some (.int b)], [.int 100, .int (-100), .int a], mz_up (mz_z mm1) 50 4 60)) rfl ?_
                      refine mz_do (R := mz_r128) (as := [.int a, .int (-100), .int 100]) (rest := []) (r1 := some (.int 1)) (m1 := mz_up (mz_z mm1) 50 4 60) rfl ⟨?_, rfl⟩ ?_
                      · refine mz_go 3 (c' := (if a < (-100) then 14 else 5, [some (.int a), some (.int (-100)), some (.int 100)], [], mz_up (mz_z mm1) 50 4 60)) rfl ?_
                        refine mz_ifF h1 ?_
                        refine mz_go 3 (c' := (if 100 < a then 14 else 10, [some (.int a), some (.int (-100)), some (.int 100)], [], mz_up (mz_z mm1) 50 4 60)) rfl ?_
                        refine mz_ifF h2 ?_
                        refine mz_go 2 (c' := (15, [some (.int a), some (.int (-100)), some (.int 100)], [.int 1], mz_up (mz_z mm1) 50 4 60)) rfl ?_
                        exact mz_ret rfl
                      refine mz_go 4 (c' := (16, [some (.int a), some (.int b)], [.int 100, .int (-100), .int b], mz_up (mz_z mm1) 50 4 60)) rfl ?_
                      refine mz_do (R := mz_r128) (as := [.int b, .int (-100), .int 100]) (rest := []) (r1 := some (.int 1)) (m1 := mz_up (mz_z mm1) 50 4 60) rfl ⟨?_, rfl⟩ ?_
                      · refine mz_go 3 (c' := (if b < (-100) then 14 else 5, [some (.int b), some (.int (-100)), some (.int 100)], [], mz_up (mz_z mm1) 50 4 60)) rfl ?_
                        refine mz_ifF h3 ?_
                        refine mz_go 3 (c' := (if 100 < b then 14 else 10, [some (.int b), some (.int (-100)), some (.int 100)], [], mz_up (mz_z mm1) 50 4 60)) rfl ?_
                        refine mz_ifF h4 ?_
                        refine mz_go 2 (c' := (15, [some (.int b), some (.int (-100)), some (.int 100)], [.int 1], mz_up (mz_z mm1) 50 4 60)) rfl ?_
                        exact mz_ret rfl
                      refine mz_go 3 (c' := (27, [some (.int a), some (.int b)], [.int 1], mz_up (mz_z mm1) 50 4 60)) rfl ?_
                      exact mz_ret rfl
                    refine mz_go 3 (c' := (11, [some (.ref 65), some (.int a), some (.int b), some (.int c), some (.int d)], [.int d, .int c], mz_up (mz_z mm1) 50 4 60)) rfl ?_
                    refine mz_do (R := mz_r175) (as := [.int c, .int d]) (rest := []) (r1 := some (.int 1)) (m1 := mz_up (mz_z mm1) 50 4 60) rfl ⟨?_, rfl⟩ ?_
                    · refine mz_go 3 (c' := (7, [some (.int c), some (.int d)], [.int 9999, .int (-9999), .int c], mz_up (mz_z mm1) 50 4 60)) rfl ?_
                      refine mz_do (R := mz_r128) (as := [.int c, .int (-9999), .int 9999]) (rest := []) (r1 := some (.int 1)) (m1 := mz_up (mz_z mm1) 50 4 60) rfl ⟨?_, rfl⟩ ?_
                      · refine mz_go 3 (c' := (if c < (-9999) then 14 else 5, [some (.int c), some (.int (-9999)), some (.int 9999)], [], mz_up (mz_z mm1) 50 4 60)) rfl ?_
                        refine mz_ifF h5 ?_
                        refine mz_go 3 (c' := (if 9999 < c then 14 else 10, [some (.int c), some (.int (-9999)), some (.int 9999)], [], mz_up (mz_z mm1) 50 4 60)) rfl ?_
                        refine mz_ifF h6 ?_
                        refine mz_go 2 (c' := (15, [some (.int c), some (.int (-9999)), some (.int 9999)], [.int 1], mz_up (mz_z mm1) 50 4 60)) rfl ?_
                        exact mz_ret rfl
                      refine mz_go 4 (c' := (20, [some (.int c), some (.int d)], [.int 9999, .int (-9999), .int d], mz_up (mz_z mm1) 50 4 60)) rfl ?_
                      refine mz_do (R := mz_r128) (as := [.int d, .int (-9999), .int 9999]) (rest := []) (r1 := some (.int 1)) (m1 := mz_up (mz_z mm1) 50 4 60) rfl ⟨?_, rfl⟩ ?_
                      · refine mz_go 3 (c' := (if d < (-9999) then 14 else 5, [some (.int d), some (.int (-9999)), some (.int 9999)], [], mz_up (mz_z mm1) 50 4 60)) rfl ?_
                        refine mz_ifF h7 ?_
                        refine mz_go 3 (c' := (if 9999 < d then 14 else 10, [some (.int d), some (.int (-9999)), some (.int 9999)], [], mz_up (mz_z mm1) 50 4 60)) rfl ?_
                        refine mz_ifF h8 ?_
                        refine mz_go 2 (c' := (15, [some (.int d), some (.int (-9999)), some (.int 9999)], [.int 1], mz_up (mz_z mm1) 50 4 60)) rfl ?_
                        exact mz_ret rfl
                      refine mz_go 3 (c' := (31, [some (.int c), some (.int d)], [.int 1], mz_up (mz_z mm1) 50 4 60)) rfl ?_
                      exact mz_ret rfl
                    refine mz_go 6 (c' := (29, [some (.ref 65), some (.int a), some (.int b), some (.int c), some (.int d)], [.int d, .int c, .int b, .int a, .ref 65], mz_up (mz_z mm1) 50 4 60)) rfl ?_
                    refine mz_do (R := mz_r144) (as := [.ref 65, .int a, .int b, .int c, .int d]) (rest := []) (r1 := none) (m1 := mz_up (mz_up (mz_up (mz_up (mz_up (mz_up (mz_z mm1) 50 4 60) 65 4 (16 * a)) 65 5 (16 * b)) 65 6 c) 65 7 d) 65 8 0) rfl ⟨?_, rfl⟩ ?_
                    · refine mz_go 19 (c' := (32, [some (.ref 65), some (.int a), some (.int b), some (.int c), some (.int d)], [], mz_up (mz_up (mz_up (mz_up (mz_up (mz_up (mz_z mm1) 50 4 60) 65 4 (16 * a)) 65 5 (16 * b)) 65 6 c) 65 7 d) 65 8 0)) rfl ?_
                      exact mz_ret rfl
                    refine mz_go 2 (c' := (34, [some (.ref 65), some (.int a), some (.int b), some (.int c), some (.int d)], [.ref 65, .ref 65], mz_up (mz_up (mz_up (mz_up (mz_up (mz_up (mz_z mm1) 50 4 60) 65 4 (16 * a)) 65 5 (16 * b)) 65 6 c) 65 7 d) 65 8 0)) rfl ?_
                    refine mz_do (R := mz_r156) (as := [.ref 65]) (rest := [.ref 65]) (r1 := some (.int 1)) (m1 := mz_up (mz_up (mz_up (mz_up (mz_up (mz_up (mz_z mm1) 50 4 60) 65 4 (16 * a)) 65 5 (16 * b)) 65 6 c) 65 7 d) 65 8 0) rfl ⟨?_, rfl⟩ ?_
                    · refine mz_go 4 (c' := (7, [some (.ref 65)], [.int 1], mz_up (mz_up (mz_up (mz_up (mz_up (mz_up (mz_z mm1) 50 4 60) 65 4 (16 * a)) 65 5 (16 * b)) 65 6 c) 65 7 d) 65 8 0)) rfl ?_
                      exact mz_ret rfl
                    refine mz_do (R := mz_r154) (as := [.ref 65, .int 1]) (rest := []) (r1 := some (.int 9)) (m1 := mz_up (mz_z mm2) 65 8 60) rfl (mz_Me.deep ms2 (by decide)) ?_
                    exact mz_ret rfl
set_option maxHeartbeats 4000000 in
set_option maxRecDepth 100000 in
theorem p1_length (xs : Nat → Int32) (Ln : Nat) (a : Int32) (b : Int32) : ∃ v m1 m2, mz_Me 100 mz_r82 [.ref 0, .int a, .int b] (mz_i xs Ln) (some (.int v)) m1 ∧ mz_Me 100 mz_r180 [.ref 65, .int a, .int b] m1 (some (.int v)) m2 := by
  by_cases h1 : a < (-100)
  · refine ⟨(-1000001), mz_up (mz_i xs Ln) 64 1 1, mz_up (mz_up (mz_i xs Ln) 64 1 1) 68 1 1, ⟨?_, rfl⟩, ⟨?_, rfl⟩⟩
    · refine mz_go 2 (c' := (2, [some (.ref 0), some (.int a), some (.int b)], [.int b, .int a], (mz_i xs Ln))) rfl ?_
      refine mz_do (R := mz_r116) (as := [.int a, .int b]) (rest := []) (r1 := some (.int 0)) (m1 := (mz_i xs Ln)) rfl ⟨?_, rfl⟩ ?_
      · refine mz_go 3 (c' := (5, [some (.int a), some (.int b)], [.int 100, .int (-100), .int a], (mz_i xs Ln))) rfl ?_
        refine mz_do (R := mz_r121) (as := [.int a, .int (-100), .int 100]) (rest := []) (r1 := some (.int 0)) (m1 := (mz_i xs Ln)) rfl ⟨?_, rfl⟩ ?_
        · refine mz_go 3 (c' := (if a < (-100) then 14 else 5, [some (.int a), some (.int (-100)), some (.int 100)], [], (mz_i xs Ln))) rfl ?_
          refine mz_ifT h1 ?_
          refine mz_go 1 (c' := (15, [some (.int a), some (.int (-100)), some (.int 100)], [.int 0], (mz_i xs Ln))) rfl ?_
          exact mz_ret rfl
        refine mz_go 2 (c' := (27, [some (.int a), some (.int b)], [.int 0], (mz_i xs Ln))) rfl ?_
        exact mz_ret rfl
      refine mz_go 3 (c' := (10, [some (.ref 0), some (.int a), some (.int b)], [.int 1, .ref 0], (mz_i xs Ln))) rfl ?_
      refine mz_do (R := mz_r109) (as := [.ref 0, .int 1]) (rest := []) (r1 := some (.int (-1000001))) (m1 := mz_up (mz_i xs Ln) 64 1 1) rfl ⟨?_, rfl⟩ ?_
      · refine mz_go 3 (c' := (4, [some (.ref 0), some (.int 1)], [.int 6, .int 1, .int 1], (mz_i xs Ln))) rfl ?_
        refine mz_do (R := mz_r121) (as := [.int 1, .int 1, .int 6]) (rest := []) (r1 := some (.int 1)) (m1 := (mz_i xs Ln)) rfl ⟨?_, rfl⟩ ?_
        · refine mz_go 8 (c' := (15, [some (.int 1), some (.int 1), some (.int 6)], [.int 1], (mz_i xs Ln))) rfl ?_
          exact mz_ret rfl
        refine mz_go 12 (c' := (25, [some (.ref 0), some (.int 1)], [.int (-1000001)], mz_up (mz_i xs Ln) 64 1 1)) rfl ?_
        exact mz_ret rfl
      exact mz_ret rfl
    · refine mz_go 2 (c' := (2, [some (.ref 65), some (.int a), some (.int b), none], [.int b, .int a], mz_up (mz_i xs Ln) 64 1 1)) rfl ?_
      refine mz_do (R := mz_r131) (as := [.int a, .int b]) (rest := []) (r1 := some (.int 0)) (m1 := mz_up (mz_i xs Ln) 64 1 1) rfl ⟨?_, rfl⟩ ?_
      · refine mz_go 3 (c' := (5, [some (.int a), some (.int b)], [.int 100, .int (-100), .int a], mz_up (mz_i xs Ln) 64 1 1)) rfl ?_
        refine mz_do (R := mz_r128) (as := [.int a, .int (-100), .int 100]) (rest := []) (r1 := some (.int 0)) (m1 := mz_up (mz_i xs Ln) 64 1 1) rfl ⟨?_, rfl⟩ ?_
        · refine mz_go 3 (c' := (if a < (-100) then 14 else 5, [some (.int a), some (.int (-100)), some (.int 100)], [], mz_up (mz_i xs Ln) 64 1 1)) rfl ?_
          refine mz_ifT h1 ?_
          refine mz_go 1 (c' := (15, [some (.int a), some (.int (-100)), some (.int 100)], [.int 0], mz_up (mz_i xs Ln) 64 1 1)) rfl ?_
          exact mz_ret rfl
        refine mz_go 2 (c' := (27, [some (.int a), some (.int b)], [.int 0], mz_up (mz_i xs Ln) 64 1 1)) rfl ?_
        exact mz_ret rfl
      refine mz_go 3 (c' := (10, [some (.ref 65), some (.int a), some (.int b), none], [.int 1, .ref 65], mz_up (mz_i xs Ln) 64 1 1)) rfl ?_
      refine mz_do (R := mz_r127) (as := [.ref 65, .int 1]) (rest := []) (r1 := some (.int (-1000001))) (m1 := mz_up (mz_up (mz_i xs Ln) 64 1 1) 68 1 1) rfl ⟨?_, rfl⟩ ?_
      · refine mz_go 11 (c' := (14, [some (.ref 65), some (.int 1)], [.int (-1000001)], mz_up (mz_up (mz_i xs Ln) 64 1 1) 68 1 1)) rfl ?_
        exact mz_ret rfl
      exact mz_ret rfl
  · by_cases h2 : 100 < a
    · refine ⟨(-1000001), mz_up (mz_i xs Ln) 64 1 1, mz_up (mz_up (mz_i xs Ln) 64 1 1) 68 1 1, ⟨?_, rfl⟩, ⟨?_, rfl⟩⟩
      · refine mz_go 2 (c' := (2, [some (.ref 0), some (.int a), some (.int b)], [.int b, .int a], (mz_i xs Ln))) rfl ?_
        refine mz_do (R := mz_r116) (as := [.int a, .int b]) (rest := []) (r1 := some (.int 0)) (m1 := (mz_i xs Ln)) rfl ⟨?_, rfl⟩ ?_
        · refine mz_go 3 (c' := (5, [some (.int a), some (.int b)], [.int 100, .int (-100), .int a], (mz_i xs Ln))) rfl ?_
          refine mz_do (R := mz_r121) (as := [.int a, .int (-100), .int 100]) (rest := []) (r1 := some (.int 0)) (m1 := (mz_i xs Ln)) rfl ⟨?_, rfl⟩ ?_
          · refine mz_go 3 (c' := (if a < (-100) then 14 else 5, [some (.int a), some (.int (-100)), some (.int 100)], [], (mz_i xs Ln))) rfl ?_
            refine mz_ifF h1 ?_
            refine mz_go 3 (c' := (if 100 < a then 14 else 10, [some (.int a), some (.int (-100)), some (.int 100)], [], (mz_i xs Ln))) rfl ?_
            refine mz_ifT h2 ?_
            refine mz_go 1 (c' := (15, [some (.int a), some (.int (-100)), some (.int 100)], [.int 0], (mz_i xs Ln))) rfl ?_
            exact mz_ret rfl
          refine mz_go 2 (c' := (27, [some (.int a), some (.int b)], [.int 0], (mz_i xs Ln))) rfl ?_
          exact mz_ret rfl
        refine mz_go 3 (c' := (10, [some (.ref 0), some (.int a), some (.int b)], [.int 1, .ref 0], (mz_i xs Ln))) rfl ?_
        refine mz_do (R := mz_r109) (as := [.ref 0, .int 1]) (rest := []) (r1 := some (.int (-1000001))) (m1 := mz_up (mz_i xs Ln) 64 1 1) rfl ⟨?_, rfl⟩ ?_
        · refine mz_go 3 (c' := (4, [some (.ref 0), some (.int 1)], [.int 6, .int 1, .int 1], (mz_i xs Ln))) rfl ?_
          refine mz_do (R := mz_r121) (as := [.int 1, .int 1, .int 6]) (rest := []) (r1 := some (.int 1)) (m1 := (mz_i xs Ln)) rfl ⟨?_, rfl⟩ ?_
          · refine mz_go 8 (c' := (15, [some (.int 1), some (.int 1), some (.int 6)], [.int 1], (mz_i xs Ln))) rfl ?_
            exact mz_ret rfl
          refine mz_go 12 (c' := (25, [some (.ref 0), some (.int 1)], [.int (-1000001)], mz_up (mz_i xs Ln) 64 1 1)) rfl ?_
          exact mz_ret rfl
        exact mz_ret rfl
      · refine mz_go 2 (c' := (2, [some (.ref 65), some (.int a), some (.int b), none], [.int b, .int a], mz_up (mz_i xs Ln) 64 1 1)) rfl ?_
        refine mz_do (R := mz_r131) (as := [.int a, .int b]) (rest := []) (r1 := some (.int 0)) (m1 := mz_up (mz_i xs Ln) 64 1 1) rfl ⟨?_, rfl⟩ ?_
        · refine mz_go 3 (c' := (5, [some (.int a), some (.int b)], [.int 100, .int (-100), .int a], mz_up (mz_i xs Ln) 64 1 1)) rfl ?_
          refine mz_do (R := mz_r128) (as := [.int a, .int (-100), .int 100]) (rest := []) (r1 := some (.int 0)) (m1 := mz_up (mz_i xs Ln) 64 1 1) rfl ⟨?_, rfl⟩ ?_
          · refine mz_go 3 (c' := (if a < (-100) then 14 else 5, [some (.int a), some (.int (-100)), some (.int 100)], [], mz_up (mz_i xs Ln) 64 1 1)) rfl ?_
            refine mz_ifF h1 ?_
            refine mz_go 3 (c' := (if 100 < a then 14 else 10, [some (.int a), some (.int (-100)), some (.int 100)], [], mz_up (mz_i xs Ln) 64 1 1)) rfl ?_
            refine mz_ifT h2 ?_
            refine mz_go 1 (c' := (15, [some (.int a), some (.int (-100)), some (.int 100)], [.int 0], mz_up (mz_i xs Ln) 64 1 1)) rfl ?_
            exact mz_ret rfl
          refine mz_go 2 (c' := (27, [some (.int a), some (.int b)], [.int 0], mz_up (mz_i xs Ln) 64 1 1)) rfl ?_
          exact mz_ret rfl
        refine mz_go 3 (c' := (10, [some (.ref 65), some (.int a), some (.int b), none], [.int 1, .ref 65], mz_up (mz_i xs Ln) 64 1 1)) rfl ?_
        refine mz_do (R := mz_r127) (as := [.ref 65, .int 1]) (rest := []) (r1 := some (.int (-1000001))) (m1 := mz_up (mz_up (mz_i xs Ln) 64 1 1) 68 1 1) rfl ⟨?_, rfl⟩ ?_
        · refine mz_go 11 (c' := (14, [some (.ref 65), some (.int 1)], [.int (-1000001)], mz_up (mz_up (mz_i xs Ln) 64 1 1) 68 1 1)) rfl ?_
          exact mz_ret rfl
        exact mz_ret rfl
    · by_cases h3 : b < (-100)
      · refine ⟨(-1000001), mz_up (mz_i xs Ln) 64 1 1, mz_up (mz_up (mz_i xs Ln) 64 1 1) 68 1 1, ⟨?_, rfl⟩, ⟨?_, rfl⟩⟩
        · refine mz_go 2 (c' := (2, [some (.ref 0), some (.int a), some (.int b)], [.int b, .int a], (mz_i xs Ln))) rfl ?_
          refine mz_do (R := mz_r116) (as := [.int a, .int b]) (rest := []) (r1 := some (.int 0)) (m1 := (mz_i xs Ln)) rfl ⟨?_, rfl⟩ ?_
          · refine mz_go 3 (c' := (5, [some (.int a), some (.int b)], [.int 100, .int (-100), .int a], (mz_i xs Ln))) rfl ?_
            refine mz_do (R := mz_r121) (as := [.int a, .int (-100), .int 100]) (rest := []) (r1 := some (.int 1)) (m1 := (mz_i xs Ln)) rfl ⟨?_, rfl⟩ ?_
            · refine mz_go 3 (c' := (if a < (-100) then 14 else 5, [some (.int a), some (.int (-100)), some (.int 100)], [], (mz_i xs Ln))) rfl ?_
              refine mz_ifF h1 ?_
              refine mz_go 3 (c' := (if 100 < a then 14 else 10, [some (.int a), some (.int (-100)), some (.int 100)], [], (mz_i xs Ln))) rfl ?_
              refine mz_ifF h2 ?_
              refine mz_go 2 (c' := (15, [some (.int a), some (.int (-100)), some (.int 100)], [.int 1], (mz_i xs Ln))) rfl ?_
              exact mz_ret rfl
            refine mz_go 4 (c' := (16, [some (.int a), some (.int b)], [.int 100, .int (-100), .int b], (mz_i xs Ln))) rfl ?_
            refine mz_do (R := mz_r121) (as := [.int b, .int (-100), .int 100]) (rest := []) (r1 := some (.int 0)) (m1 := (mz_i xs Ln)) rfl ⟨?_, rfl⟩ ?_
            · refine mz_go 3 (c' := (if b < (-100) then 14 else 5, [some (.int b), some (.int (-100)), some (.int 100)], [], (mz_i xs Ln))) rfl ?_
              refine mz_ifT h3 ?_
              refine mz_go 1 (c' := (15, [some (.int b), some (.int (-100)), some (.int 100)], [.int 0], (mz_i xs Ln))) rfl ?_
              exact mz_ret rfl
            refine mz_go 2 (c' := (27, [some (.int a), some (.int b)], [.int 0], (mz_i xs Ln))) rfl ?_
            exact mz_ret rfl
          refine mz_go 3 (c' := (10, [some (.ref 0), some (.int a), some (.int b)], [.int 1, .ref 0], (mz_i xs Ln))) rfl ?_
          refine mz_do (R := mz_r109) (as := [.ref 0, .int 1]) (rest := []) (r1 := some (.int (-1000001))) (m1 := mz_up (mz_i xs Ln) 64 1 1) rfl ⟨?_, rfl⟩ ?_
          · refine mz_go 3 (c' := (4, [some (.ref 0), some (.int 1)], [.int 6, .int 1, .int 1], (mz_i xs Ln))) rfl ?_
            refine mz_do (R := mz_r121) (as := [.int 1, .int 1, .int 6]) (rest := []) (r1 := some (.int 1)) (m1 := (mz_i xs Ln)) rfl ⟨?_, rfl⟩ ?_
            · refine mz_go 8 (c' := (15, [some (.int 1), some (.int 1), some (.int 6)], [.int 1], (mz_i xs Ln))) rfl ?_
              exact mz_ret rfl
            refine mz_go 12 (c' := (25, [some (.ref 0), some (.int 1)], [.int (-1000001)], mz_up (mz_i xs Ln) 64 1 1)) rfl ?_
            exact mz_ret rfl
          exact mz_ret rfl
        · refine mz_go 2 (c' := (2, [some (.ref 65), some (.int a), some (.int b), none], [.int b, .int a], mz_up (mz_i xs Ln) 64 1 1)) rfl ?_
          refine mz_do (R := mz_r131) (as := [.int a, .int b]) (rest := []) (r1 := some (.int 0)) (m1 := mz_up (mz_i xs Ln) 64 1 1) rfl ⟨?_, rfl⟩ ?_
          · refine mz_go 3 (c' := (5, [some (.int a), some (.int b)], [.int 100, .int (-100), .int a], mz_up (mz_i xs Ln) 64 1 1)) rfl ?_
            refine mz_do (R := mz_r128) (as := [.int a, .int (-100), .int 100]) (rest := []) (r1 := some (.int 1)) (m1 := mz_up (mz_i xs Ln) 64 1 1) rfl ⟨?_, rfl⟩ ?_
            · refine mz_go 3 (c' := (if a < (-100) then 14 else 5, [some (.int a), some (.int (-100)), some (.int 100)], [], mz_up (mz_i xs Ln) 64 1 1)) rfl ?_
              refine mz_ifF h1 ?_
              refine mz_go 3 (c' := (if 100 < a then 14 else 10, [some (.int a), some (.int (-100)), some (.int 100)], [], mz_up (mz_i xs Ln) 64 1 1)) rfl ?_
              refine mz_ifF h2 ?_
              refine mz_go 2 (c' := (15, [some (.int a), some (.int (-100)), some (.int 100)], [.int 1], mz_up (mz_i xs Ln) 64 1 1)) rfl ?_
              exact mz_ret rfl
            refine mz_go 4 (c' := (16, [some (.int a), some (.int b)], [.int 100, .int (-100), .int b], mz_up (mz_i xs Ln) 64 1 1)) rfl ?_
            refine mz_do (R := mz_r128) (as := [.int b, .int (-100), .int 100]) (rest := []) (r1 := some (.int 0)) (m1 := mz_up (mz_i xs Ln) 64 1 1) rfl ⟨?_, rfl⟩ ?_
            · refine mz_go 3 (c' := (if b < (-100) then 14 else 5, [some (.int b), some (.int (-100)), some (.int 100)], [], mz_up (mz_i xs Ln) 64 1 1)) rfl ?_
              refine mz_ifT h3 ?_
              refine mz_go 1 (c' := (15, [some (.int b), some (.int (-100)), some (.int 100)], [.int 0], mz_up (mz_i xs Ln) 64 1 1)) rfl ?_
              exact mz_ret rfl
            refine mz_go 2 (c' := (27, [some (.int a), some (.int b)], [.int 0], mz_up (mz_i xs Ln) 64 1 1)) rfl ?_
            exact mz_ret rfl
          refine mz_go 3 (c' := (10, [some (.ref 65), some (.int a), some (.int b), none], [.int 1, .ref 65], mz_up (mz_i xs Ln) 64 1 1)) rfl ?_
          refine mz_do (R := mz_r127) (as := [.ref 65, .int 1]) (rest := []) (r1 := some (.int (-1000001))) (m1 := mz_up (mz_up (mz_i xs Ln) 64 1 1) 68 1 1) rfl ⟨?_, rfl⟩ ?_
          · refine mz_go 11 (c' := (14, [some (.ref 65), some (.int 1)], [.int (-1000001)], mz_up (mz_up (mz_i xs Ln) 64 1 1) 68 1 1)) rfl ?_
            exact mz_ret rfl
          exact mz_ret rfl
      · by_cases h4 : 100 < b
        · refine ⟨(-1000001), mz_up (mz_i xs Ln) 64 1 1, mz_up (mz_up (mz_i xs Ln) 64 1 1) 68 1 1, ⟨?_, rfl⟩, ⟨?_, rfl⟩⟩
          · refine mz_go 2 (c' := (2, [some (.ref 0), some (.int a), some (.int b)], [.int b, .int a], (mz_i xs Ln))) rfl ?_
            refine mz_do (R := mz_r116) (as := [.int a, .int b]) (rest := []) (r1 := some (.int 0)) (m1 := (mz_i xs Ln)) rfl ⟨?_, rfl⟩ ?_
            · refine mz_go 3 (c' := (5, [some (.int a), some (.int b)], [.int 100, .int (-100), .int a], (mz_i xs Ln))) rfl ?_
              refine mz_do (R := mz_r121) (as := [.int a, .int (-100), .int 100]) (rest := []) (r1 := some (.int 1)) (m1 := (mz_i xs Ln)) rfl ⟨?_, rfl⟩ ?_
              · refine mz_go 3 (c' := (if a < (-100) then 14 else 5, [some (.int a), some (.int (-100)), some (.int 100)], [], (mz_i xs Ln))) rfl ?_
                refine mz_ifF h1 ?_
                refine mz_go 3 (c' := (if 100 < a then 14 else 10, [some (.int a), some (.int (-100)), some (.int 100)], [], (mz_i xs Ln))) rfl ?_
                refine mz_ifF h2 ?_
                refine mz_go 2 (c' := (15, [some (.int a), some (.int (-100)), some (.int 100)], [.int 1], (mz_i xs Ln))) rfl ?_
                exact mz_ret rfl
              refine mz_go 4 (c' := (16, [some (.int a), some (.int b)], [.int 100, .int (-100), .int b], (mz_i xs Ln))) rfl ?_
              refine mz_do (R := mz_r121) (as := [.int b, .int (-100), .int 100]) (rest := []) (r1 := some (.int 0)) (m1 := (mz_i xs Ln)) rfl ⟨?_, rfl⟩ ?_
              · refine mz_go 3 (c' := (if b < (-100) then 14 else 5, [some (.int b), some (.int (-100)), some (.int 100)], [], (mz_i xs Ln))) rfl ?_
                refine mz_ifF h3 ?_
                refine mz_go 3 (c' := (if 100 < b then 14 else 10, [some (.int b), some (.int (-100)), some (.int 100)], [], (mz_i xs Ln))) rfl ?_
                refine mz_ifT h4 ?_
                refine mz_go 1 (c' := (15, [some (.int b), some (.int (-100)), some (.int 100)], [.int 0], (mz_i xs Ln))) rfl ?_
                exact mz_ret rfl
              refine mz_go 2 (c' := (27, [some (.int a), some (.int b)], [.int 0], (mz_i xs Ln))) rfl ?_
              exact mz_ret rfl
            refine mz_go 3 (c' := (10, [some (.ref 0), some (.int a), some (.int b)], [.int 1, .ref 0], (mz_i xs Ln))) rfl ?_
            refine mz_do (R := mz_r109) (as := [.ref 0, .int 1]) (rest := []) (r1 := some (.int (-1000001))) (m1 := mz_up (mz_i xs Ln) 64 1 1) rfl ⟨?_, rfl⟩ ?_
            · refine mz_go 3 (c' := (4, [some (.ref 0), some (.int 1)], [.int 6, .int 1, .int 1], (mz_i xs Ln))) rfl ?_
              refine mz_do (R := mz_r121) (as := [.int 1, .int 1, .int 6]) (rest := []) (r1 := some (.int 1)) (m1 := (mz_i xs Ln)) rfl ⟨?_, rfl⟩ ?_
              · refine mz_go 8 (c' := (15, [some (.int 1), some (.int 1), some (.int 6)], [.int 1], (mz_i xs Ln))) rfl ?_
                exact mz_ret rfl
              refine mz_go 12 (c' := (25, [some (.ref 0), some (.int 1)], [.int (-1000001)], mz_up (mz_i xs Ln) 64 1 1)) rfl ?_
              exact mz_ret rfl
            exact mz_ret rfl
          · refine mz_go 2 (c' := (2, [some (.ref 65), some (.int a), some (.int b), none], [.int b, .int a], mz_up (mz_i xs Ln) 64 1 1)) rfl ?_
            refine mz_do (R := mz_r131) (as := [.int a, .int b]) (rest := []) (r1 := some (.int 0)) (m1 := mz_up (mz_i xs Ln) 64 1 1) rfl ⟨?_, rfl⟩ ?_
            · refine mz_go 3 (c' := (5, [some (.int a), some (.int b)], [.int 100, .int (-100), .int a], mz_up (mz_i xs Ln) 64 1 1)) rfl ?_
              refine mz_do (R := mz_r128) (as := [.int a, .int (-100), .int 100]) (rest := []) (r1 := some (.int 1)) (m1 := mz_up (mz_i xs Ln) 64 1 1) rfl ⟨?_, rfl⟩ ?_
              · refine mz_go 3 (c' := (if a < (-100) then 14 else 5, [some (.int a), some (.int (-100)), some (.int 100)], [], mz_up (mz_i xs Ln) 64 1 1)) rfl ?_
                refine mz_ifF h1 ?_
                refine mz_go 3 (c' := (if 100 < a then 14 else 10, [some (.int a), some (.int (-100)), some (.int 100)], [], mz_up (mz_i xs Ln) 64 1 1)) rfl ?_
                refine mz_ifF h2 ?_
                refine mz_go 2 (c' := (15, [some (.int a), some (.int (-100)), some (.int 100)], [.int 1], mz_up (mz_i xs Ln) 64 1 1)) rfl ?_
                exact mz_ret rfl
              refine mz_go 4 (c' := (16, [some (.int a), some (.int b)], [.int 100, .int (-100), .int b], mz_up (mz_i xs Ln) 64 1 1)) rfl ?_
              refine mz_do (R := mz_r128) (as := [.int b, .int (-100), .int 100]) (rest := []) (r1 := some (.int 0)) (m1 := mz_up (mz_i xs Ln) 64 1 1) rfl ⟨?_, rfl⟩ ?_
              · refine mz_go 3 (c' := (if b < (-100) then 14 else 5, [some (.int b), some (.int (-100)), some (.int 100)], [], mz_up (mz_i xs Ln) 64 1 1)) rfl ?_
                refine mz_ifF h3 ?_
                refine mz_go 3 (c' := (if 100 < b then 14 else 10, [some (.int b), some (.int (-100)), some (.int 100)], [], mz_up (mz_i xs Ln) 64 1 1)) rfl ?_
                refine mz_ifT h4 ?_
                refine mz_go 1 (c' := (15, [some (.int b), some (.int (-100)), some (.int 100)], [.int 0], mz_up (mz_i xs Ln) 64 1 1)) rfl ?_
                exact mz_ret rfl
              refine mz_go 2 (c' := (27, [some (.int a), some (.int b)], [.int 0], mz_up (mz_i xs Ln) 64 1 1)) rfl ?_
              exact mz_ret rfl
            refine mz_go 3 (c' := (10, [some (.ref 65), some (.int a), some (.int b), none], [.int 1, .ref 65], mz_up (mz_i xs Ln) 64 1 1)) rfl ?_
            refine mz_do (R := mz_r127) (as := [.ref 65, .int 1]) (rest := []) (r1 := some (.int (-1000001))) (m1 := mz_up (mz_up (mz_i xs Ln) 64 1 1) 68 1 1) rfl ⟨?_, rfl⟩ ?_
            · refine mz_go 11 (c' := (14, [some (.ref 65), some (.int 1)], [.int (-1000001)], mz_up (mz_up (mz_i xs Ln) 64 1 1) 68 1 1)) rfl ?_
              exact mz_ret rfl
            exact mz_ret rfl
        · obtain ⟨mm1, me1, mg1, ms1⟩ := cz_end_1 ((mz_i xs Ln)) rfl a b 0 0
          have mw1 : Zf mm1 := zf_row (show Zf ((mz_i xs Ln)) from rfl) rfl me1
          have ms1 : mz_Me 60 mz_r36 [.ref 49, .int a, .int b, .int 0, .int 0, .int 1] ((mz_i xs Ln)) (some (.int 9)) (mz_up (mz_z mm1) 50 4 60) := by rw [zf_eq mw1, mz_up_id mg1]; exact ms1
          obtain ⟨mm2, me2, mg2, ms2⟩ := rz_runs_1 (mz_up (mz_up (mz_up (mz_up (mz_up (mz_up (mz_z mm1) 50 4 60) 65 4 (16 * a)) 65 5 (16 * b)) 65 6 0) 65 7 0) 65 8 0) rfl rfl
          have mw2 : Zf mm2 := zf_row (show Zf (mz_up (mz_up (mz_up (mz_up (mz_up (mz_up (mz_z mm1) 50 4 60) 65 4 (16 * a)) 65 5 (16 * b)) 65 6 0) 65 7 0) 65 8 0) from rfl) rfl me2
          have ms2 : mz_Me 60 mz_r154 [.ref 65, .int 1] (mz_up (mz_up (mz_up (mz_up (mz_up (mz_up (mz_z mm1) 50 4 60) 65 4 (16 * a)) 65 5 (16 * b)) 65 6 0) 65 7 0) 65 8 0) (some (.int 9)) (mz_up (mz_z mm2) 65 8 60) := by rw [zf_eq mw2, mz_up_id mg2]; exact ms2
          refine ⟨60, mz_up (mz_z mm1) 50 4 60, mz_up (mz_z mm2) 65 8 60, ⟨?_, rfl⟩, ⟨?_, rfl⟩⟩
          · refine mz_go 2 (c' := (2, [some (.ref 0), some (.int a), some (.int b)], [.int b, .int a], (mz_i xs Ln))) rfl ?_
            refine mz_do (R := mz_r116) (as := [.int a, .int b]) (rest := []) (r1 := some (.int 1)) (m1 := (mz_i xs Ln)) rfl ⟨?_, rfl⟩ ?_
            · refine mz_go 3 (c' := (5, [some (.int a), some (.int b)], [.int 100, .int (-100), .int a], (mz_i xs Ln))) rfl ?_
              refine mz_do (R := mz_r121) (as := [.int a, .int (-100), .int 100]) (rest := []) (r1 := some (.int 1)) (m1 := (mz_i xs Ln)) rfl ⟨?_, rfl⟩ ?_
              · refine mz_go 3 (c' := (if a < (-100) then 14 else 5, [some (.int a), some (.int (-100)), some (.int 100)], [], (mz_i xs Ln))) rfl ?_
                refine mz_ifF h1 ?_
                refine mz_go 3 (c' := (if 100 < a then 14 else 10, [some (.int a), some (.int (-100)), some (.int 100)], [], (mz_i xs Ln))) rfl ?_
                refine mz_ifF h2 ?_
                refine mz_go 2 (c' := (15, [some (.int a), some (.int (-100)), some (.int 100)], [.int 1], (mz_i xs Ln))) rfl ?_
                exact mz_ret rfl
              refine mz_go 4 (c' := (16, [some (.int a), some (.int b)], [.int 100, .int (-100), .int b], (mz_i xs Ln))) rfl ?_
              refine mz_do (R := mz_r121) (as := [.int b, .int (-100), .int 100]) (rest := []) (r1 := some (.int 1)) (m1 := (mz_i xs Ln)) rfl ⟨?_, rfl⟩ ?_
              · refine mz_go 3 (c' := (if b < (-100) then 14 else 5, [some (.int b), some (.int (-100)), some (.int 100)], [], (mz_i xs Ln))) rfl ?_
                refine mz_ifF h3 ?_
                refine mz_go 3 (c' := (if 100 < b then 14 else 10, [some (.int b), some (.int (-100)), some (.int 100)], [], (mz_i xs Ln))) rfl ?_
                refine mz_ifF h4 ?_
                refine mz_go 2 (c' := (15, [some (.int b), some (.int (-100)), some (.int 100)], [.int 1], (mz_i xs Ln))) rfl ?_
                exact mz_ret rfl
              refine mz_go 3 (c' := (27, [some (.int a), some (.int b)], [.int 1], (mz_i xs Ln))) rfl ?_
              exact mz_ret rfl
            refine mz_go 12 (c' := (31, [some (.ref 0), some (.int a), some (.int b)], [.int 1, .int 0, .int 0, .int b, .int a, .ref 49], (mz_i xs Ln))) rfl ?_
            refine mz_do (R := mz_r36) (as := [.ref 49, .int a, .int b, .int 0, .int 0, .int 1]) (rest := []) (r1 := some (.int 9)) (m1 := mz_up (mz_z mm1) 50 4 60) rfl (mz_Me.deep ms1 (by decide)) ?_
            refine mz_go 5 (c' := (45, [some (.ref 0), some (.int a), some (.int b)], [.int 60], mz_up (mz_z mm1) 50 4 60)) rfl ?_
            exact mz_ret rfl
          · refine mz_go 2 (c' := (2, [some (.ref 65), some (.int a), some (.int b), none], [.int b, .int a], mz_up (mz_z mm1) 50 4 60)) rfl ?_
            refine mz_do (R := mz_r131) (as := [.int a, .int b]) (rest := []) (r1 := some (.int 1)) (m1 := mz_up (mz_z mm1) 50 4 60) rfl ⟨?_, rfl⟩ ?_
            · refine mz_go 3 (c' := (5, [some (.int a), some (.int b)], [.int 100, .int (-100), .int a], mz_up (mz_z mm1) 50 4 60)) rfl ?_
              refine mz_do (R := mz_r128) (as := [.int a, .int (-100), .int 100]) (rest := []) (r1 := some (.int 1)) (m1 := mz_up (mz_z mm1) 50 4 60) rfl ⟨?_, rfl⟩ ?_
              · refine mz_go 3 (c' := (if a < (-100) then 14 else 5, [some (.int a), some (.int (-100)), some (.int 100)], [], mz_up (mz_z mm1) 50 4 60)) rfl ?_
                refine mz_ifF h1 ?_
                refine mz_go 3 (c' := (if 100 < a then 14 else 10, [some (.int a), some (.int (-100)), some (.int 100)], [], mz_up (mz_z mm1) 50 4 60)) rfl ?_
                refine mz_ifF h2 ?_
                refine mz_go 2 (c' := (15, [some (.int a), some (.int (-100)), some (.int 100)], [.int 1], mz_up (mz_z mm1) 50 4 60)) rfl ?_
                exact mz_ret rfl
              refine mz_go 4 (c' := (16, [some (.int a), some (.int b)], [.int 100, .int (-100), .int b], mz_up (mz_z mm1) 50 4 60)) rfl ?_
              refine mz_do (R := mz_r128) (as := [.int b, .int (-100), .int 100]) (rest := []) (r1 := some (.int 1)) (m1 := mz_up (mz_z mm1) 50 4 60) rfl ⟨?_, rfl⟩ ?_
              · refine mz_go 3 (c' := (if b < (-100) then 14 else 5, [some (.int b), some (.int (-100)), some (.int 100)], [], mz_up (mz_z mm1) 50 4 60)) rfl ?_
                refine mz_ifF h3 ?_
                refine mz_go 3 (c' := (if 100 < b then 14 else 10, [some (.int b), some (.int (-100)), some (.int 100)], [], mz_up (mz_z mm1) 50 4 60)) rfl ?_
                refine mz_ifF h4 ?_
                refine mz_go 2 (c' := (15, [some (.int b), some (.int (-100)), some (.int 100)], [.int 1], mz_up (mz_z mm1) 50 4 60)) rfl ?_
                exact mz_ret rfl
              refine mz_go 3 (c' := (27, [some (.int a), some (.int b)], [.int 1], mz_up (mz_z mm1) 50 4 60)) rfl ?_
              exact mz_ret rfl
            refine mz_go 5 (c' := (18, [some (.ref 65), some (.int a), some (.int b), none], [.ref 65, .int b, .int a, .ref 65], mz_up (mz_z mm1) 50 4 60)) rfl ?_
            refine mz_do (R := mz_r156) (as := [.ref 65]) (rest := [.int b, .int a, .ref 65]) (r1 := some (.int 1)) (m1 := mz_up (mz_z mm1) 50 4 60) rfl ⟨?_, rfl⟩ ?_
            · refine mz_go 4 (c' := (7, [some (.ref 65)], [.int 1], mz_up (mz_z mm1) 50 4 60)) rfl ?_
              exact mz_ret rfl
            refine mz_do (R := mz_r155) (as := [.ref 65, .int a, .int b, .int 1]) (rest := []) (r1 := some (.int 9)) (m1 := mz_up (mz_z mm2) 65 8 60) rfl ⟨?_, rfl⟩ ?_
            · refine mz_go 5 (c' := (5, [some (.ref 65), some (.int a), some (.int b), some (.int 1)], [.int 0, .int 0, .int b, .int a, .ref 65], mz_up (mz_z mm1) 50 4 60)) rfl ?_
              refine mz_do (R := mz_r144) (as := [.ref 65, .int a, .int b, .int 0, .int 0]) (rest := []) (r1 := none) (m1 := mz_up (mz_up (mz_up (mz_up (mz_up (mz_up (mz_z mm1) 50 4 60) 65 4 (16 * a)) 65 5 (16 * b)) 65 6 0) 65 7 0) 65 8 0) rfl ⟨?_, rfl⟩ ?_
              · refine mz_go 19 (c' := (32, [some (.ref 65), some (.int a), some (.int b), some (.int 0), some (.int 0)], [], mz_up (mz_up (mz_up (mz_up (mz_up (mz_up (mz_z mm1) 50 4 60) 65 4 (16 * a)) 65 5 (16 * b)) 65 6 0) 65 7 0) 65 8 0)) rfl ?_
                exact mz_ret rfl
              refine mz_go 2 (c' := (10, [some (.ref 65), some (.int a), some (.int b), some (.int 1)], [.int 1, .ref 65], mz_up (mz_up (mz_up (mz_up (mz_up (mz_up (mz_z mm1) 50 4 60) 65 4 (16 * a)) 65 5 (16 * b)) 65 6 0) 65 7 0) 65 8 0)) rfl ?_
              refine mz_do (R := mz_r154) (as := [.ref 65, .int 1]) (rest := []) (r1 := some (.int 9)) (m1 := mz_up (mz_z mm2) 65 8 60) rfl (mz_Me.deep ms2 (by decide)) ?_
              exact mz_ret rfl
            refine mz_go 3 (c' := (29, [some (.ref 65), some (.int a), some (.int b), some (.int 9)], [.int 60], mz_up (mz_z mm2) 65 8 60)) rfl ?_
            exact mz_ret rfl
set_option maxHeartbeats 4000000 in
set_option maxRecDepth 100000 in
theorem p1_doubt (xs : Nat → Int32) (Ln : Nat) (a : Int32) (b : Int32) : ∃ v m1 m2, mz_Me 100 mz_r83 [.ref 0, .int a, .int b] (mz_i xs Ln) (some (.int v)) m1 ∧ mz_Me 100 mz_r181 [.ref 65, .int a, .int b] m1 (some (.int v)) m2 := by
  by_cases h1 : a < (-100)
  · refine ⟨(-1000001), mz_up (mz_i xs Ln) 64 1 1, mz_up (mz_up (mz_i xs Ln) 64 1 1) 68 1 1, ⟨?_, rfl⟩, ⟨?_, rfl⟩⟩
    · refine mz_go 2 (c' := (2, [some (.ref 0), some (.int a), some (.int b), none, none], [.int b, .int a], (mz_i xs Ln))) rfl ?_
      refine mz_do (R := mz_r116) (as := [.int a, .int b]) (rest := []) (r1 := some (.int 0)) (m1 := (mz_i xs Ln)) rfl ⟨?_, rfl⟩ ?_
      · refine mz_go 3 (c' := (5, [some (.int a), some (.int b)], [.int 100, .int (-100), .int a], (mz_i xs Ln))) rfl ?_
        refine mz_do (R := mz_r121) (as := [.int a, .int (-100), .int 100]) (rest := []) (r1 := some (.int 0)) (m1 := (mz_i xs Ln)) rfl ⟨?_, rfl⟩ ?_
        · refine mz_go 3 (c' := (if a < (-100) then 14 else 5, [some (.int a), some (.int (-100)), some (.int 100)], [], (mz_i xs Ln))) rfl ?_
          refine mz_ifT h1 ?_
          refine mz_go 1 (c' := (15, [some (.int a), some (.int (-100)), some (.int 100)], [.int 0], (mz_i xs Ln))) rfl ?_
          exact mz_ret rfl
        refine mz_go 2 (c' := (27, [some (.int a), some (.int b)], [.int 0], (mz_i xs Ln))) rfl ?_
        exact mz_ret rfl
      refine mz_go 3 (c' := (10, [some (.ref 0), some (.int a), some (.int b), none, none], [.int 1, .ref 0], (mz_i xs Ln))) rfl ?_
      refine mz_do (R := mz_r109) (as := [.ref 0, .int 1]) (rest := []) (r1 := some (.int (-1000001))) (m1 := mz_up (mz_i xs Ln) 64 1 1) rfl ⟨?_, rfl⟩ ?_
      · refine mz_go 3 (c' := (4, [some (.ref 0), some (.int 1)], [.int 6, .int 1, .int 1], (mz_i xs Ln))) rfl ?_
        refine mz_do (R := mz_r121) (as := [.int 1, .int 1, .int 6]) (rest := []) (r1 := some (.int 1)) (m1 := (mz_i xs Ln)) rfl ⟨?_, rfl⟩ ?_
        · refine mz_go 8 (c' := (15, [some (.int 1), some (.int 1), some (.int 6)], [.int 1], (mz_i xs Ln))) rfl ?_
          exact mz_ret rfl
        refine mz_go 12 (c' := (25, [some (.ref 0), some (.int 1)], [.int (-1000001)], mz_up (mz_i xs Ln) 64 1 1)) rfl ?_
        exact mz_ret rfl
      exact mz_ret rfl
    · refine mz_go 2 (c' := (2, [some (.ref 65), some (.int a), some (.int b)], [.int b, .int a], mz_up (mz_i xs Ln) 64 1 1)) rfl ?_
      refine mz_do (R := mz_r131) (as := [.int a, .int b]) (rest := []) (r1 := some (.int 0)) (m1 := mz_up (mz_i xs Ln) 64 1 1) rfl ⟨?_, rfl⟩ ?_
      · refine mz_go 3 (c' := (5, [some (.int a), some (.int b)], [.int 100, .int (-100), .int a], mz_up (mz_i xs Ln) 64 1 1)) rfl ?_
        refine mz_do (R := mz_r128) (as := [.int a, .int (-100), .int 100]) (rest := []) (r1 := some (.int 0)) (m1 := mz_up (mz_i xs Ln) 64 1 1) rfl ⟨?_, rfl⟩ ?_
        · refine mz_go 3 (c' := (if a < (-100) then 14 else 5, [some (.int a), some (.int (-100)), some (.int 100)], [], mz_up (mz_i xs Ln) 64 1 1)) rfl ?_
          refine mz_ifT h1 ?_
          refine mz_go 1 (c' := (15, [some (.int a), some (.int (-100)), some (.int 100)], [.int 0], mz_up (mz_i xs Ln) 64 1 1)) rfl ?_
          exact mz_ret rfl
        refine mz_go 2 (c' := (27, [some (.int a), some (.int b)], [.int 0], mz_up (mz_i xs Ln) 64 1 1)) rfl ?_
        exact mz_ret rfl
      refine mz_go 3 (c' := (10, [some (.ref 65), some (.int a), some (.int b)], [.int 1, .ref 65], mz_up (mz_i xs Ln) 64 1 1)) rfl ?_
      refine mz_do (R := mz_r127) (as := [.ref 65, .int 1]) (rest := []) (r1 := some (.int (-1000001))) (m1 := mz_up (mz_up (mz_i xs Ln) 64 1 1) 68 1 1) rfl ⟨?_, rfl⟩ ?_
      · refine mz_go 11 (c' := (14, [some (.ref 65), some (.int 1)], [.int (-1000001)], mz_up (mz_up (mz_i xs Ln) 64 1 1) 68 1 1)) rfl ?_
        exact mz_ret rfl
      exact mz_ret rfl
  · by_cases h2 : 100 < a
    · refine ⟨(-1000001), mz_up (mz_i xs Ln) 64 1 1, mz_up (mz_up (mz_i xs Ln) 64 1 1) 68 1 1, ⟨?_, rfl⟩, ⟨?_, rfl⟩⟩
      · refine mz_go 2 (c' := (2, [some (.ref 0), some (.int a), some (.int b), none, none], [.int b, .int a], (mz_i xs Ln))) rfl ?_
        refine mz_do (R := mz_r116) (as := [.int a, .int b]) (rest := []) (r1 := some (.int 0)) (m1 := (mz_i xs Ln)) rfl ⟨?_, rfl⟩ ?_
        · refine mz_go 3 (c' := (5, [some (.int a), some (.int b)], [.int 100, .int (-100), .int a], (mz_i xs Ln))) rfl ?_
          refine mz_do (R := mz_r121) (as := [.int a, .int (-100), .int 100]) (rest := []) (r1 := some (.int 0)) (m1 := (mz_i xs Ln)) rfl ⟨?_, rfl⟩ ?_
          · refine mz_go 3 (c' := (if a < (-100) then 14 else 5, [some (.int a), some (.int (-100)), some (.int 100)], [], (mz_i xs Ln))) rfl ?_
            refine mz_ifF h1 ?_
            refine mz_go 3 (c' := (if 100 < a then 14 else 10, [some (.int a), some (.int (-100)), some (.int 100)], [], (mz_i xs Ln))) rfl ?_
            refine mz_ifT h2 ?_
            refine mz_go 1 (c' := (15, [some (.int a), some (.int (-100)), some (.int 100)], [.int 0], (mz_i xs Ln))) rfl ?_
            exact mz_ret rfl
          refine mz_go 2 (c' := (27, [some (.int a), some (.int b)], [.int 0], (mz_i xs Ln))) rfl ?_
          exact mz_ret rfl
        refine mz_go 3 (c' := (10, [some (.ref 0), some (.int a), some (.int b), none, none], [.int 1, .ref 0], (mz_i xs Ln))) rfl ?_
        refine mz_do (R := mz_r109) (as := [.ref 0, .int 1]) (rest := []) (r1 := some (.int (-1000001))) (m1 := mz_up (mz_i xs Ln) 64 1 1) rfl ⟨?_, rfl⟩ ?_
        · refine mz_go 3 (c' := (4, [some (.ref 0), some (.int 1)], [.int 6, .int 1, .int 1], (mz_i xs Ln))) rfl ?_
          refine mz_do (R := mz_r121) (as := [.int 1, .int 1, .int 6]) (rest := []) (r1 := some (.int 1)) (m1 := (mz_i xs Ln)) rfl ⟨?_, rfl⟩ ?_
          · refine mz_go 8 (c' := (15, [some (.int 1), some (.int 1), some (.int 6)], [.int 1], (mz_i xs Ln))) rfl ?_
            exact mz_ret rfl
          refine mz_go 12 (c' := (25, [some (.ref 0), some (.int 1)], [.int (-1000001)], mz_up (mz_i xs Ln) 64 1 1)) rfl ?_
          exact mz_ret rfl
        exact mz_ret rfl
      · refine mz_go 2 (c' := (2, [some (.ref 65), some (.int a), some (.int b)], [.int b, .int a], mz_up (mz_i xs Ln) 64 1 1)) rfl ?_
        refine mz_do (R := mz_r131) (as := [.int a, .int b]) (rest := []) (r1 := some (.int 0)) (m1 := mz_up (mz_i xs Ln) 64 1 1) rfl ⟨?_, rfl⟩ ?_
        · refine mz_go 3 (c' := (5, [some (.int a), some (.int b)], [.int 100, .int (-100), .int a], mz_up (mz_i xs Ln) 64 1 1)) rfl ?_
          refine mz_do (R := mz_r128) (as := [.int a, .int (-100), .int 100]) (rest := []) (r1 := some (.int 0)) (m1 := mz_up (mz_i xs Ln) 64 1 1) rfl ⟨?_, rfl⟩ ?_
          · refine mz_go 3 (c' := (if a < (-100) then 14 else 5, [some (.int a), some (.int (-100)), some (.int 100)], [], mz_up (mz_i xs Ln) 64 1 1)) rfl ?_
            refine mz_ifF h1 ?_
            refine mz_go 3 (c' := (if 100 < a then 14 else 10, [some (.int a), some (.int (-100)), some (.int 100)], [], mz_up (mz_i xs Ln) 64 1 1)) rfl ?_
            refine mz_ifT h2 ?_
            refine mz_go 1 (c' := (15, [some (.int a), some (.int (-100)), some (.int 100)], [.int 0], mz_up (mz_i xs Ln) 64 1 1)) rfl ?_
            exact mz_ret rfl
          refine mz_go 2 (c' := (27, [some (.int a), some (.int b)], [.int 0], mz_up (mz_i xs Ln) 64 1 1)) rfl ?_
          exact mz_ret rfl
        refine mz_go 3 (c' := (10, [some (.ref 65), some (.int a), some (.int b)], [.int 1, .ref 65], mz_up (mz_i xs Ln) 64 1 1)) rfl ?_
        refine mz_do (R := mz_r127) (as := [.ref 65, .int 1]) (rest := []) (r1 := some (.int (-1000001))) (m1 := mz_up (mz_up (mz_i xs Ln) 64 1 1) 68 1 1) rfl ⟨?_, rfl⟩ ?_
        · refine mz_go 11 (c' := (14, [some (.ref 65), some (.int 1)], [.int (-1000001)], mz_up (mz_up (mz_i xs Ln) 64 1 1) 68 1 1)) rfl ?_
          exact mz_ret rfl
        exact mz_ret rfl
    · by_cases h3 : b < (-100)
      · refine ⟨(-1000001), mz_up (mz_i xs Ln) 64 1 1, mz_up (mz_up (mz_i xs Ln) 64 1 1) 68 1 1, ⟨?_, rfl⟩, ⟨?_, rfl⟩⟩
        · refine mz_go 2 (c' := (2, [some (.ref 0), some (.int a), some (.int b), none, none], [.int b, .int a], (mz_i xs Ln))) rfl ?_
          refine mz_do (R := mz_r116) (as := [.int a, .int b]) (rest := []) (r1 := some (.int 0)) (m1 := (mz_i xs Ln)) rfl ⟨?_, rfl⟩ ?_
          · refine mz_go 3 (c' := (5, [some (.int a), some (.int b)], [.int 100, .int (-100), .int a], (mz_i xs Ln))) rfl ?_
            refine mz_do (R := mz_r121) (as := [.int a, .int (-100), .int 100]) (rest := []) (r1 := some (.int 1)) (m1 := (mz_i xs Ln)) rfl ⟨?_, rfl⟩ ?_
            · refine mz_go 3 (c' := (if a < (-100) then 14 else 5, [some (.int a), some (.int (-100)), some (.int 100)], [], (mz_i xs Ln))) rfl ?_
              refine mz_ifF h1 ?_
              refine mz_go 3 (c' := (if 100 < a then 14 else 10, [some (.int a), some (.int (-100)), some (.int 100)], [], (mz_i xs Ln))) rfl ?_
              refine mz_ifF h2 ?_
              refine mz_go 2 (c' := (15, [some (.int a), some (.int (-100)), some (.int 100)], [.int 1], (mz_i xs Ln))) rfl ?_
              exact mz_ret rfl
            refine mz_go 4 (c' := (16, [some (.int a), some (.int b)], [.int 100, .int (-100), .int b], (mz_i xs Ln))) rfl ?_
            refine mz_do (R := mz_r121) (as := [.int b, .int (-100), .int 100]) (rest := []) (r1 := some (.int 0)) (m1 := (mz_i xs Ln)) rfl ⟨?_, rfl⟩ ?_
            · refine mz_go 3 (c' := (if b < (-100) then 14 else 5, [some (.int b), some (.int (-100)), some (.int 100)], [], (mz_i xs Ln))) rfl ?_
              refine mz_ifT h3 ?_
              refine mz_go 1 (c' := (15, [some (.int b), some (.int (-100)), some (.int 100)], [.int 0], (mz_i xs Ln))) rfl ?_
              exact mz_ret rfl
            refine mz_go 2 (c' := (27, [some (.int a), some (.int b)], [.int 0], (mz_i xs Ln))) rfl ?_
            exact mz_ret rfl
          refine mz_go 3 (c' := (10, [some (.ref 0), some (.int a), some (.int b), none, none], [.int 1, .ref 0], (mz_i xs Ln))) rfl ?_
          refine mz_do (R := mz_r109) (as := [.ref 0, .int 1]) (rest := []) (r1 := some (.int (-1000001))) (m1 := mz_up (mz_i xs Ln) 64 1 1) rfl ⟨?_, rfl⟩ ?_
          · refine mz_go 3 (c' := (4, [some (.ref 0), some (.int 1)], [.int 6, .int 1, .int 1], (mz_i xs Ln))) rfl ?_
            refine mz_do (R := mz_r121) (as := [.int 1, .int 1, .int 6]) (rest := []) (r1 := some (.int 1)) (m1 := (mz_i xs Ln)) rfl ⟨?_, rfl⟩ ?_
            · refine mz_go 8 (c' := (15, [some (.int 1), some (.int 1), some (.int 6)], [.int 1], (mz_i xs Ln))) rfl ?_
              exact mz_ret rfl
            refine mz_go 12 (c' := (25, [some (.ref 0), some (.int 1)], [.int (-1000001)], mz_up (mz_i xs Ln) 64 1 1)) rfl ?_
            exact mz_ret rfl
          exact mz_ret rfl
        · refine mz_go 2 (c' := (2, [some (.ref 65), some (.int a), some (.int b)], [.int b, .int a], mz_up (mz_i xs Ln) 64 1 1)) rfl ?_
          refine mz_do (R := mz_r131) (as := [.int a, .int b]) (rest := []) (r1 := some (.int 0)) (m1 := mz_up (mz_i xs Ln) 64 1 1) rfl ⟨?_, rfl⟩ ?_
          · refine mz_go 3 (c' := (5, [some (.int a), some (.int b)], [.int 100, .int (-100), .int a], mz_up (mz_i xs Ln) 64 1 1)) rfl ?_
            refine mz_do (R := mz_r128) (as := [.int a, .int (-100), .int 100]) (rest := []) (r1 := some (.int 1)) (m1 := mz_up (mz_i xs Ln) 64 1 1) rfl ⟨?_, rfl⟩ ?_
            · refine mz_go 3 (c' := (if a < (-100) then 14 else 5, [some (.int a), some (.int (-100)), some (.int 100)], [], mz_up (mz_i xs Ln) 64 1 1)) rfl ?_
              refine mz_ifF h1 ?_
              refine mz_go 3 (c' := (if 100 < a then 14 else 10, [some (.int a), some (.int (-100)), some (.int 100)], [], mz_up (mz_i xs Ln) 64 1 1)) rfl ?_
              refine mz_ifF h2 ?_
              refine mz_go 2 (c' := (15, [some (.int a), some (.int (-100)), some (.int 100)], [.int 1], mz_up (mz_i xs Ln) 64 1 1)) rfl ?_
              exact mz_ret rfl
            refine mz_go 4 (c' := (16, [some (.int a), some (.int b)], [.int 100, .int (-100), .int b], mz_up (mz_i xs Ln) 64 1 1)) rfl ?_
            refine mz_do (R := mz_r128) (as := [.int b, .int (-100), .int 100]) (rest := []) (r1 := some (.int 0)) (m1 := mz_up (mz_i xs Ln) 64 1 1) rfl ⟨?_, rfl⟩ ?_
            · refine mz_go 3 (c' := (if b < (-100) then 14 else 5, [some (.int b), some (.int (-100)), some (.int 100)], [], mz_up (mz_i xs Ln) 64 1 1)) rfl ?_
              refine mz_ifT h3 ?_
              refine mz_go 1 (c' := (15, [some (.int b), some (.int (-100)), some (.int 100)], [.int 0], mz_up (mz_i xs Ln) 64 1 1)) rfl ?_
              exact mz_ret rfl
            refine mz_go 2 (c' := (27, [some (.int a), some (.int b)], [.int 0], mz_up (mz_i xs Ln) 64 1 1)) rfl ?_
            exact mz_ret rfl
          refine mz_go 3 (c' := (10, [some (.ref 65), some (.int a), some (.int b)], [.int 1, .ref 65], mz_up (mz_i xs Ln) 64 1 1)) rfl ?_
          refine mz_do (R := mz_r127) (as := [.ref 65, .int 1]) (rest := []) (r1 := some (.int (-1000001))) (m1 := mz_up (mz_up (mz_i xs Ln) 64 1 1) 68 1 1) rfl ⟨?_, rfl⟩ ?_
          · refine mz_go 11 (c' := (14, [some (.ref 65), some (.int 1)], [.int (-1000001)], mz_up (mz_up (mz_i xs Ln) 64 1 1) 68 1 1)) rfl ?_
            exact mz_ret rfl
          exact mz_ret rfl
      · by_cases h4 : 100 < b
        · refine ⟨(-1000001), mz_up (mz_i xs Ln) 64 1 1, mz_up (mz_up (mz_i xs Ln) 64 1 1) 68 1 1, ⟨?_, rfl⟩, ⟨?_, rfl⟩⟩
          · refine mz_go 2 (c' := (2, [some (.ref 0), some (.int a), some (.int b), none, none], [.int b, .int a], (mz_i xs Ln))) rfl ?_
            refine mz_do (R := mz_r116) (as := [.int a, .int b]) (rest := []) (r1 := some (.int 0)) (m1 := (mz_i xs Ln)) rfl ⟨?_, rfl⟩ ?_
            · refine mz_go 3 (c' := (5, [some (.int a), some (.int b)], [.int 100, .int (-100), .int a], (mz_i xs Ln))) rfl ?_
              refine mz_do (R := mz_r121) (as := [.int a, .int (-100), .int 100]) (rest := []) (r1 := some (.int 1)) (m1 := (mz_i xs Ln)) rfl ⟨?_, rfl⟩ ?_
              · refine mz_go 3 (c' := (if a < (-100) then 14 else 5, [some (.int a), some (.int (-100)), some (.int 100)], [], (mz_i xs Ln))) rfl ?_
                refine mz_ifF h1 ?_
                refine mz_go 3 (c' := (if 100 < a then 14 else 10, [some (.int a), some (.int (-100)), some (.int 100)], [], (mz_i xs Ln))) rfl ?_
                refine mz_ifF h2 ?_
                refine mz_go 2 (c' := (15, [some (.int a), some (.int (-100)), some (.int 100)], [.int 1], (mz_i xs Ln))) rfl ?_
                exact mz_ret rfl
              refine mz_go 4 (c' := (16, [some (.int a), some (.int b)], [.int 100, .int (-100), .int b], (mz_i xs Ln))) rfl ?_
              refine mz_do (R := mz_r121) (as := [.int b, .int (-100), .int 100]) (rest := []) (r1 := some (.int 0)) (m1 := (mz_i xs Ln)) rfl ⟨?_, rfl⟩ ?_
              · refine mz_go 3 (c' := (if b < (-100) then 14 else 5, [some (.int b), some (.int (-100)), some (.int 100)], [], (mz_i xs Ln))) rfl ?_
                refine mz_ifF h3 ?_
                refine mz_go 3 (c' := (if 100 < b then 14 else 10, [some (.int b), some (.int (-100)), some (.int 100)], [], (mz_i xs Ln))) rfl ?_
                refine mz_ifT h4 ?_
                refine mz_go 1 (c' := (15, [some (.int b), some (.int (-100)), some (.int 100)], [.int 0], (mz_i xs Ln))) rfl ?_
                exact mz_ret rfl
              refine mz_go 2 (c' := (27, [some (.int a), some (.int b)], [.int 0], (mz_i xs Ln))) rfl ?_
              exact mz_ret rfl
            refine mz_go 3 (c' := (10, [some (.ref 0), some (.int a), some (.int b), none, none], [.int 1, .ref 0], (mz_i xs Ln))) rfl ?_
            refine mz_do (R := mz_r109) (as := [.ref 0, .int 1]) (rest := []) (r1 := some (.int (-1000001))) (m1 := mz_up (mz_i xs Ln) 64 1 1) rfl ⟨?_, rfl⟩ ?_
            · refine mz_go 3 (c' := (4, [some (.ref 0), some (.int 1)], [.int 6, .int 1, .int 1], (mz_i xs Ln))) rfl ?_
              refine mz_do (R := mz_r121) (as := [.int 1, .int 1, .int 6]) (rest := []) (r1 := some (.int 1)) (m1 := (mz_i xs Ln)) rfl ⟨?_, rfl⟩ ?_
              · refine mz_go 8 (c' := (15, [some (.int 1), some (.int 1), some (.int 6)], [.int 1], (mz_i xs Ln))) rfl ?_
                exact mz_ret rfl
              refine mz_go 12 (c' := (25, [some (.ref 0), some (.int 1)], [.int (-1000001)], mz_up (mz_i xs Ln) 64 1 1)) rfl ?_
              exact mz_ret rfl
            exact mz_ret rfl
          · refine mz_go 2 (c' := (2, [some (.ref 65), some (.int a), some (.int b)], [.int b, .int a], mz_up (mz_i xs Ln) 64 1 1)) rfl ?_
            refine mz_do (R := mz_r131) (as := [.int a, .int b]) (rest := []) (r1 := some (.int 0)) (m1 := mz_up (mz_i xs Ln) 64 1 1) rfl ⟨?_, rfl⟩ ?_
            · refine mz_go 3 (c' := (5, [some (.int a), some (.int b)], [.int 100, .int (-100), .int a], mz_up (mz_i xs Ln) 64 1 1)) rfl ?_
              refine mz_do (R := mz_r128) (as := [.int a, .int (-100), .int 100]) (rest := []) (r1 := some (.int 1)) (m1 := mz_up (mz_i xs Ln) 64 1 1) rfl ⟨?_, rfl⟩ ?_
              · refine mz_go 3 (c' := (if a < (-100) then 14 else 5, [some (.int a), some (.int (-100)), some (.int 100)], [], mz_up (mz_i xs Ln) 64 1 1)) rfl ?_
                refine mz_ifF h1 ?_
                refine mz_go 3 (c' := (if 100 < a then 14 else 10, [some (.int a), some (.int (-100)), some (.int 100)], [], mz_up (mz_i xs Ln) 64 1 1)) rfl ?_
                refine mz_ifF h2 ?_
                refine mz_go 2 (c' := (15, [some (.int a), some (.int (-100)), some (.int 100)], [.int 1], mz_up (mz_i xs Ln) 64 1 1)) rfl ?_
                exact mz_ret rfl
              refine mz_go 4 (c' := (16, [some (.int a), some (.int b)], [.int 100, .int (-100), .int b], mz_up (mz_i xs Ln) 64 1 1)) rfl ?_
              refine mz_do (R := mz_r128) (as := [.int b, .int (-100), .int 100]) (rest := []) (r1 := some (.int 0)) (m1 := mz_up (mz_i xs Ln) 64 1 1) rfl ⟨?_, rfl⟩ ?_
              · refine mz_go 3 (c' := (if b < (-100) then 14 else 5, [some (.int b), some (.int (-100)), some (.int 100)], [], mz_up (mz_i xs Ln) 64 1 1)) rfl ?_
                refine mz_ifF h3 ?_
                refine mz_go 3 (c' := (if 100 < b then 14 else 10, [some (.int b), some (.int (-100)), some (.int 100)], [], mz_up (mz_i xs Ln) 64 1 1)) rfl ?_
                refine mz_ifT h4 ?_
                refine mz_go 1 (c' := (15, [some (.int b), some (.int (-100)), some (.int 100)], [.int 0], mz_up (mz_i xs Ln) 64 1 1)) rfl ?_
                exact mz_ret rfl
              refine mz_go 2 (c' := (27, [some (.int a), some (.int b)], [.int 0], mz_up (mz_i xs Ln) 64 1 1)) rfl ?_
              exact mz_ret rfl
            refine mz_go 3 (c' := (10, [some (.ref 65), some (.int a), some (.int b)], [.int 1, .ref 65], mz_up (mz_i xs Ln) 64 1 1)) rfl ?_
            refine mz_do (R := mz_r127) (as := [.ref 65, .int 1]) (rest := []) (r1 := some (.int (-1000001))) (m1 := mz_up (mz_up (mz_i xs Ln) 64 1 1) 68 1 1) rfl ⟨?_, rfl⟩ ?_
            · refine mz_go 11 (c' := (14, [some (.ref 65), some (.int 1)], [.int (-1000001)], mz_up (mz_up (mz_i xs Ln) 64 1 1) 68 1 1)) rfl ?_
              exact mz_ret rfl
            exact mz_ret rfl
        · obtain ⟨mm1, me1, mg1, ms1⟩ := cz_end_1 ((mz_i xs Ln)) rfl a b 0 0
          have mw1 : Zf mm1 := zf_row (show Zf ((mz_i xs Ln)) from rfl) rfl me1
          have ms1 : mz_Me 60 mz_r36 [.ref 49, .int a, .int b, .int 0, .int 0, .int 1] ((mz_i xs Ln)) (some (.int 9)) (mz_up (mz_z mm1) 50 4 60) := by rw [zf_eq mw1, mz_up_id mg1]; exact ms1
          obtain ⟨mm2, me2, mg2, ms2⟩ := cz_end_2 (mz_up (mz_z mm1) 50 4 60) rfl a b 0 0
          have mw2 : Zf mm2 := zf_row (show Zf (mz_up (mz_z mm1) 50 4 60) from rfl) rfl me2
          have ms2 : mz_Me 60 mz_r36 [.ref 49, .int a, .int b, .int 0, .int 0, .int 2] (mz_up (mz_z mm1) 50 4 60) (some (.int 9)) (mz_up (mz_z mm2) 50 4 120) := by rw [zf_eq mw2, mz_up_id mg2]; exact ms2
          obtain ⟨mm3, me3, mg3, ms3⟩ := rz_runs_1 (mz_up (mz_up (mz_up (mz_up (mz_up (mz_up (mz_z mm2) 50 4 120) 65 4 (16 * a)) 65 5 (16 * b)) 65 6 0) 65 7 0) 65 8 0) rfl rfl
          have mw3 : Zf mm3 := zf_row (show Zf (mz_up (mz_up (mz_up (mz_up (mz_up (mz_up (mz_z mm2) 50 4 120) 65 4 (16 * a)) 65 5 (16 * b)) 65 6 0) 65 7 0) 65 8 0) from rfl) rfl me3
          have ms3 : mz_Me 60 mz_r154 [.ref 65, .int 1] (mz_up (mz_up (mz_up (mz_up (mz_up (mz_up (mz_z mm2) 50 4 120) 65 4 (16 * a)) 65 5 (16 * b)) 65 6 0) 65 7 0) 65 8 0) (some (.int 9)) (mz_up (mz_z mm3) 65 8 60) := by rw [zf_eq mw3, mz_up_id mg3]; exact ms3
          obtain ⟨mm4, me4, mg4, ms4⟩ := rz_runs_2 (mz_up (mz_up (mz_up (mz_up (mz_up (mz_up (mz_z mm3) 65 8 60) 65 4 (16 * a)) 65 5 (16 * b)) 65 6 0) 65 7 0) 65 8 0) rfl rfl
          have mw4 : Zf mm4 := zf_row (show Zf (mz_up (mz_up (mz_up (mz_up (mz_up (mz_up (mz_z mm3) 65 8 60) 65 4 (16 * a)) 65 5 (16 * b)) 65 6 0) 65 7 0) 65 8 0) from rfl) rfl me4
          have ms4 : mz_Me 60 mz_r154 [.ref 65, .int 2] (mz_up (mz_up (mz_up (mz_up (mz_up (mz_up (mz_z mm3) 65 8 60) 65 4 (16 * a)) 65 5 (16 * b)) 65 6 0) 65 7 0) 65 8 0) (some (.int 9)) (mz_up (mz_z mm4) 65 8 120) := by rw [zf_eq mw4, mz_up_id mg4]; exact ms4
          refine ⟨0, mz_up (mz_z mm2) 50 4 120, mz_up (mz_z mm4) 65 8 120, ⟨?_, rfl⟩, ⟨?_, rfl⟩⟩
          · refine mz_go 2 (c' := (2, [some (.ref 0), some (.int a), some (.int b), none, none], [.int b, .int a], (mz_i xs Ln))) rfl ?_
            refine mz_do (R := mz_r116) (as := [.int a, .int b]) (rest := []) (r1 := some (.int 1)) (m1 := (mz_i xs Ln)) rfl ⟨?_, rfl⟩ ?_
            · refine mz_go 3 (c' := (5, [some (.int a), some (.int b)], [.int 100, .int (-100), .int a], (mz_i xs Ln))) rfl ?_
              refine mz_do (R := mz_r121) (as := [.int a, .int (-100), .int 100]) (rest := []) (r1 := some (.int 1)) (m1 := (mz_i xs Ln)) rfl ⟨?_, rfl⟩ ?_
              · refine mz_go 3 (c' := (if a < (-100) then 14 else 5, [some (.int a), some (.int (-100)), some (.int 100)], [], (mz_i xs Ln))) rfl ?_
                refine mz_ifF h1 ?_
                refine mz_go 3 (c' := (if 100 < a then 14 else 10, [some (.int a), some (.int (-100)), some (.int 100)], [], (mz_i xs Ln))) rfl ?_
                refine mz_ifF h2 ?_
                refine mz_go 2 (c' := (15, [some (.int a), some (.int (-100)), some (.int 100)], [.int 1], (mz_i xs Ln))) rfl ?_
                exact mz_ret rfl
              refine mz_go 4 (c' := (16, [some (.int a), some (.int b)], [.int 100, .int (-100), .int b], (mz_i xs Ln))) rfl ?_
              refine mz_do (R := mz_r121) (as := [.int b, .int (-100), .int 100]) (rest := []) (r1 := some (.int 1)) (m1 := (mz_i xs Ln)) rfl ⟨?_, rfl⟩ ?_
              · refine mz_go 3 (c' := (if b < (-100) then 14 else 5, [some (.int b), some (.int (-100)), some (.int 100)], [], (mz_i xs Ln))) rfl ?_
                refine mz_ifF h3 ?_
                refine mz_go 3 (c' := (if 100 < b then 14 else 10, [some (.int b), some (.int (-100)), some (.int 100)], [], (mz_i xs Ln))) rfl ?_
                refine mz_ifF h4 ?_
                refine mz_go 2 (c' := (15, [some (.int b), some (.int (-100)), some (.int 100)], [.int 1], (mz_i xs Ln))) rfl ?_
                exact mz_ret rfl
              refine mz_go 3 (c' := (27, [some (.int a), some (.int b)], [.int 1], (mz_i xs Ln))) rfl ?_
              exact mz_ret rfl
            refine mz_go 14 (c' := (33, [some (.ref 0), some (.int a), some (.int b), some (.int 1), none], [.int 1, .int 0, .int 0, .int b, .int a, .ref 49], (mz_i xs Ln))) rfl ?_
            refine mz_do (R := mz_r36) (as := [.ref 49, .int a, .int b, .int 0, .int 0, .int 1]) (rest := []) (r1 := some (.int 9)) (m1 := mz_up (mz_z mm1) 50 4 60) rfl (mz_Me.deep ms1 (by decide)) ?_
            refine mz_go 11 (c' := (51, [some (.ref 0), some (.int a), some (.int b), some (.int 1), some (.int 9)], [.int 2, .int 0, .int 0, .int b, .int a, .ref 49, .int 9], mz_up (mz_z mm1) 50 4 60)) rfl ?_
            refine mz_do (R := mz_r36) (as := [.ref 49, .int a, .int b, .int 0, .int 0, .int 2]) (rest := [.int 9]) (r1 := some (.int 9)) (m1 := mz_up (mz_z mm2) 50 4 120) rfl (mz_Me.deep ms2 (by decide)) ?_
            refine mz_go 3 (c' := (62, [some (.ref 0), some (.int a), some (.int b), some (.int 1), some (.int 9)], [.int 0], mz_up (mz_z mm2) 50 4 120)) rfl ?_
            exact mz_ret rfl
          · refine mz_go 2 (c' := (2, [some (.ref 65), some (.int a), some (.int b)], [.int b, .int a], mz_up (mz_z mm2) 50 4 120)) rfl ?_
            refine mz_do (R := mz_r131) (as := [.int a, .int b]) (rest := []) (r1 := some (.int 1)) (m1 := mz_up (mz_z mm2) 50 4 120) rfl ⟨?_, rfl⟩ ?_
            · refine mz_go 3 (c' := (5, [some (.int a), some (.int b)], [.int 100, .int (-100), .int a], mz_up (mz_z mm2) 50 4 120)) rfl ?_
              refine mz_do (R := mz_r128) (as := [.int a, .int (-100), .int 100]) (rest := []) (r1 := some (.int 1)) (m1 := mz_up (mz_z mm2) 50 4 120) rfl ⟨?_, rfl⟩ ?_
              · refine mz_go 3 (c' := (if a < (-100) then 14 else 5, [some (.int a), some (.int (-100)), some (.int 100)], [], mz_up (mz_z mm2) 50 4 120)) rfl ?_
                refine mz_ifF h1 ?_
                refine mz_go 3 (c' := (if 100 < a then 14 else 10, [some (.int a), some (.int (-100)), some (.int 100)], [], mz_up (mz_z mm2) 50 4 120)) rfl ?_
                refine mz_ifF h2 ?_
                refine mz_go 2 (c' := (15, [some (.int a), some (.int (-100)), some (.int 100)], [.int 1], mz_up (mz_z mm2) 50 4 120)) rfl ?_
                exact mz_ret rfl
              refine mz_go 4 (c' := (16, [some (.int a), some (.int b)], [.int 100, .int (-100), .int b], mz_up (mz_z mm2) 50 4 120)) rfl ?_
              refine mz_do (R := mz_r128) (as := [.int b, .int (-100), .int 100]) (rest := []) (r1 := some (.int 1)) (m1 := mz_up (mz_z mm2) 50 4 120) rfl ⟨?_, rfl⟩ ?_
              · refine mz_go 3 (c' := (if b < (-100) then 14 else 5, [some (.int b), some (.int (-100)), some (.int 100)], [], mz_up (mz_z mm2) 50 4 120)) rfl ?_
                refine mz_ifF h3 ?_
                refine mz_go 3 (c' := (if 100 < b then 14 else 10, [some (.int b), some (.int (-100)), some (.int 100)], [], mz_up (mz_z mm2) 50 4 120)) rfl ?_
                refine mz_ifF h4 ?_
                refine mz_go 2 (c' := (15, [some (.int b), some (.int (-100)), some (.int 100)], [.int 1], mz_up (mz_z mm2) 50 4 120)) rfl ?_
                exact mz_ret rfl
              refine mz_go 3 (c' := (27, [some (.int a), some (.int b)], [.int 1], mz_up (mz_z mm2) 50 4 120)) rfl ?_
              exact mz_ret rfl
            refine mz_go 5 (c' := (18, [some (.ref 65), some (.int a), some (.int b)], [.ref 65, .int b, .int a, .ref 65], mz_up (mz_z mm2) 50 4 120)) rfl ?_
            refine mz_do (R := mz_r156) (as := [.ref 65]) (rest := [.int b, .int a, .ref 65]) (r1 := some (.int 1)) (m1 := mz_up (mz_z mm2) 50 4 120) rfl ⟨?_, rfl⟩ ?_
            · refine mz_go 4 (c' := (7, [some (.ref 65)], [.int 1], mz_up (mz_z mm2) 50 4 120)) rfl ?_
              exact mz_ret rfl
            refine mz_do (R := mz_r155) (as := [.ref 65, .int a, .int b, .int 1]) (rest := []) (r1 := some (.int 9)) (m1 := mz_up (mz_z mm3) 65 8 60) rfl ⟨?_, rfl⟩ ?_
            · refine mz_go 5 (c' := (5, [some (.ref 65), some (.int a), some (.int b), some (.int 1)], [.int 0, .int 0, .int b, .int a, .ref 65], mz_up (mz_z mm2) 50 4 120)) rfl ?_
              refine mz_do (R := mz_r144) (as := [.ref 65, .int a, .int b, .int 0, .int 0]) (rest := []) (r1 := none) (m1 := mz_up (mz_up (mz_up (mz_up (mz_up (mz_up (mz_z mm2) 50 4 120) 65 4 (16 * a)) 65 5 (16 * b)) 65 6 0) 65 7 0) 65 8 0) rfl ⟨?_, rfl⟩ ?_
              · refine mz_go 19 (c' := (32, [some (.ref 65), some (.int a), some (.int b), some (.int 0), some (.int 0)], [], mz_up (mz_up (mz_up (mz_up (mz_up (mz_up (mz_z mm2) 50 4 120) 65 4 (16 * a)) 65 5 (16 * b)) 65 6 0) 65 7 0) 65 8 0)) rfl ?_
                exact mz_ret rfl
              refine mz_go 2 (c' := (10, [some (.ref 65), some (.int a), some (.int b), some (.int 1)], [.int 1, .ref 65], mz_up (mz_up (mz_up (mz_up (mz_up (mz_up (mz_z mm2) 50 4 120) 65 4 (16 * a)) 65 5 (16 * b)) 65 6 0) 65 7 0) 65 8 0)) rfl ?_
              refine mz_do (R := mz_r154) (as := [.ref 65, .int 1]) (rest := []) (r1 := some (.int 9)) (m1 := mz_up (mz_z mm3) 65 8 60) rfl (mz_Me.deep ms3 (by decide)) ?_
              exact mz_ret rfl
            refine mz_go 5 (c' := (29, [some (.ref 65), some (.int a), some (.int b)], [.ref 65, .int 2, .int b, .int a, .ref 65, .int 9], mz_up (mz_z mm3) 65 8 60)) rfl ?_
            refine mz_do (R := mz_r156) (as := [.ref 65]) (rest := [.int 2, .int b, .int a, .ref 65, .int 9]) (r1 := some (.int 1)) (m1 := mz_up (mz_z mm3) 65 8 60) rfl ⟨?_, rfl⟩ ?_
            · refine mz_go 4 (c' := (7, [some (.ref 65)], [.int 1], mz_up (mz_z mm3) 65 8 60)) rfl ?_
              exact mz_ret rfl
            refine mz_go 1 (c' := (33, [some (.ref 65), some (.int a), some (.int b)], [.int 2, .int b, .int a, .ref 65, .int 9], mz_up (mz_z mm3) 65 8 60)) rfl ?_
            refine mz_do (R := mz_r155) (as := [.ref 65, .int a, .int b, .int 2]) (rest := [.int 9]) (r1 := some (.int 9)) (m1 := mz_up (mz_z mm4) 65 8 120) rfl ⟨?_, rfl⟩ ?_
            · refine mz_go 5 (c' := (5, [some (.ref 65), some (.int a), some (.int b), some (.int 2)], [.int 0, .int 0, .int b, .int a, .ref 65], mz_up (mz_z mm3) 65 8 60)) rfl ?_
              refine mz_do (R := mz_r144) (as := [.ref 65, .int a, .int b, .int 0, .int 0]) (rest := []) (r1 := none) (m1 := mz_up (mz_up (mz_up (mz_up (mz_up (mz_up (mz_z mm3) 65 8 60) 65 4 (16 * a)) 65 5 (16 * b)) 65 6 0) 65 7 0) 65 8 0) rfl ⟨?_, rfl⟩ ?_
              · refine mz_go 19 (c' := (32, [some (.ref 65), some (.int a), some (.int b), some (.int 0), some (.int 0)], [], mz_up (mz_up (mz_up (mz_up (mz_up (mz_up (mz_z mm3) 65 8 60) 65 4 (16 * a)) 65 5 (16 * b)) 65 6 0) 65 7 0) 65 8 0)) rfl ?_
                exact mz_ret rfl
              refine mz_go 2 (c' := (10, [some (.ref 65), some (.int a), some (.int b), some (.int 2)], [.int 2, .ref 65], mz_up (mz_up (mz_up (mz_up (mz_up (mz_up (mz_z mm3) 65 8 60) 65 4 (16 * a)) 65 5 (16 * b)) 65 6 0) 65 7 0) 65 8 0)) rfl ?_
              refine mz_do (R := mz_r154) (as := [.ref 65, .int 2]) (rest := []) (r1 := some (.int 9)) (m1 := mz_up (mz_z mm4) 65 8 120) rfl (mz_Me.deep ms4 (by decide)) ?_
              exact mz_ret rfl
            refine mz_go 3 (c' := (44, [some (.ref 65), some (.int a), some (.int b)], [.int 0], mz_up (mz_z mm4) 65 8 120)) rfl ?_
            exact mz_ret rfl
set_option maxHeartbeats 4000000 in
set_option maxRecDepth 100000 in
theorem p1_throwsOf (xs : Nat → Int32) (Ln : Nat) (a : Int32) (b : Int32) (c : Int32) (d : Int32) : ∃ v m1 m2, mz_Me 100 mz_r94 [.ref 0, .int a, .int b, .int c, .int d] (mz_i xs Ln) (some (.int v)) m1 ∧ mz_Me 100 mz_r206 [.ref 65, .int a, .int b, .int c, .int d] m1 (some (.int v)) m2 := by
  by_cases h1 : a < (-100)
  · refine ⟨(-1000001), mz_up (mz_i xs Ln) 64 1 1, mz_up (mz_up (mz_i xs Ln) 64 1 1) 68 1 1, ⟨?_, rfl⟩, ⟨?_, rfl⟩⟩
    · refine mz_go 2 (c' := (2, [some (.ref 0), some (.int a), some (.int b), some (.int c), some (.int d), none, none, none, none, none], [.int b, .int a], (mz_i xs Ln))) rfl ?_
      refine mz_do (R := mz_r116) (as := [.int a, .int b]) (rest := []) (r1 := some (.int 0)) (m1 := (mz_i xs Ln)) rfl ⟨?_, rfl⟩ ?_
      · refine mz_go 3 (c' := (5, [some (.int a), some (.int b)], [.int 100, .int (-100), .int a], (mz_i xs Ln))) rfl ?_
        refine mz_do (R := mz_r121) (as := [.int a, .int (-100), .int 100]) (rest := []) (r1 := some (.int 0)) (m1 := (mz_i xs Ln)) rfl ⟨?_, rfl⟩ ?_
        · refine mz_go 3 (c' := (if a < (-100) then 14 else 5, [some (.int a), some (.int (-100)), some (.int 100)], [], (mz_i xs Ln))) rfl ?_
          refine mz_ifT h1 ?_
          refine mz_go 1 (c' := (15, [some (.int a), some (.int (-100)), some (.int 100)], [.int 0], (mz_i xs Ln))) rfl ?_
          exact mz_ret rfl
        refine mz_go 2 (c' := (27, [some (.int a), some (.int b)], [.int 0], (mz_i xs Ln))) rfl ?_
        exact mz_ret rfl
      refine mz_go 3 (c' := (31, [some (.ref 0), some (.int a), some (.int b), some (.int c), some (.int d), none, none, none, none, none], [.int 1, .ref 0], (mz_i xs Ln))) rfl ?_
      refine mz_do (R := mz_r109) (as := [.ref 0, .int 1]) (rest := []) (r1 := some (.int (-1000001))) (m1 := mz_up (mz_i xs Ln) 64 1 1) rfl ⟨?_, rfl⟩ ?_
      · refine mz_go 3 (c' := (4, [some (.ref 0), some (.int 1)], [.int 6, .int 1, .int 1], (mz_i xs Ln))) rfl ?_
        refine mz_do (R := mz_r121) (as := [.int 1, .int 1, .int 6]) (rest := []) (r1 := some (.int 1)) (m1 := (mz_i xs Ln)) rfl ⟨?_, rfl⟩ ?_
        · refine mz_go 8 (c' := (15, [some (.int 1), some (.int 1), some (.int 6)], [.int 1], (mz_i xs Ln))) rfl ?_
          exact mz_ret rfl
        refine mz_go 12 (c' := (25, [some (.ref 0), some (.int 1)], [.int (-1000001)], mz_up (mz_i xs Ln) 64 1 1)) rfl ?_
        exact mz_ret rfl
      exact mz_ret rfl
    · refine mz_go 2 (c' := (2, [some (.ref 65), some (.int a), some (.int b), some (.int c), some (.int d), none, none, none, none, none], [.int b, .int a], mz_up (mz_i xs Ln) 64 1 1)) rfl ?_
      refine mz_do (R := mz_r131) (as := [.int a, .int b]) (rest := []) (r1 := some (.int 0)) (m1 := mz_up (mz_i xs Ln) 64 1 1) rfl ⟨?_, rfl⟩ ?_
      · refine mz_go 3 (c' := (5, [some (.int a), some (.int b)], [.int 100, .int (-100), .int a], mz_up (mz_i xs Ln) 64 1 1)) rfl ?_
        refine mz_do (R := mz_r128) (as := [.int a, .int (-100), .int 100]) (rest := []) (r1 := some (.int 0)) (m1 := mz_up (mz_i xs Ln) 64 1 1) rfl ⟨?_, rfl⟩ ?_
        · refine mz_go 3 (c' := (if a < (-100) then 14 else 5, [some (.int a), some (.int (-100)), some (.int 100)], [], mz_up (mz_i xs Ln) 64 1 1)) rfl ?_
          refine mz_ifT h1 ?_
          refine mz_go 1 (c' := (15, [some (.int a), some (.int (-100)), some (.int 100)], [.int 0], mz_up (mz_i xs Ln) 64 1 1)) rfl ?_
          exact mz_ret rfl
        refine mz_go 2 (c' := (27, [some (.int a), some (.int b)], [.int 0], mz_up (mz_i xs Ln) 64 1 1)) rfl ?_
        exact mz_ret rfl
      refine mz_go 3 (c' := (31, [some (.ref 65), some (.int a), some (.int b), some (.int c), some (.int d), none, none, none, none, none], [.int 1, .ref 65], mz_up (mz_i xs Ln) 64 1 1)) rfl ?_
      refine mz_do (R := mz_r127) (as := [.ref 65, .int 1]) (rest := []) (r1 := some (.int (-1000001))) (m1 := mz_up (mz_up (mz_i xs Ln) 64 1 1) 68 1 1) rfl ⟨?_, rfl⟩ ?_
      · refine mz_go 11 (c' := (14, [some (.ref 65), some (.int 1)], [.int (-1000001)], mz_up (mz_up (mz_i xs Ln) 64 1 1) 68 1 1)) rfl ?_
        exact mz_ret rfl
      exact mz_ret rfl
  · by_cases h2 : 100 < a
    · refine ⟨(-1000001), mz_up (mz_i xs Ln) 64 1 1, mz_up (mz_up (mz_i xs Ln) 64 1 1) 68 1 1, ⟨?_, rfl⟩, ⟨?_, rfl⟩⟩
      · refine mz_go 2 (c' := (2, [some (.ref 0), some (.int a), some (.int b), some (.int c), some (.int d), none, none, none, none, none], [.int b, .int a], (mz_i xs Ln))) rfl ?_
        refine mz_do (R := mz_r116) (as := [.int a, .int b]) (rest := []) (r1 := some (.int 0)) (m1 := (mz_i xs Ln)) rfl ⟨?_, rfl⟩ ?_
        · refine mz_go 3 (c' := (5, [some (.int a), some (.int b)], [.int 100, .int (-100), .int a], (mz_i xs Ln))) rfl ?_
          refine mz_do (R := mz_r121) (as := [.int a, .int (-100), .int 100]) (rest := []) (r1 := some (.int 0)) (m1 := (mz_i xs Ln)) rfl ⟨?_, rfl⟩ ?_
          · refine mz_go 3 (c' := (if a < (-100) then 14 else 5, [some (.int a), some (.int (-100)), some (.int 100)], [], (mz_i xs Ln))) rfl ?_
            refine mz_ifF h1 ?_
            refine mz_go 3 (c' := (if 100 < a then 14 else 10, [some (.int a), some (.int (-100)), some (.int 100)], [], (mz_i xs Ln))) rfl ?_
            refine mz_ifT h2 ?_
            refine mz_go 1 (c' := (15, [some (.int a), some (.int (-100)), some (.int 100)], [.int 0], (mz_i xs Ln))) rfl ?_
            exact mz_ret rfl
          refine mz_go 2 (c' := (27, [some (.int a), some (.int b)], [.int 0], (mz_i xs Ln))) rfl ?_
          exact mz_ret rfl
        refine mz_go 3 (c' := (31, [some (.ref 0), some (.int a), some (.int b), some (.int c), some (.int d), none, none, none, none, none], [.int 1, .ref 0], (mz_i xs Ln))) rfl ?_
        refine mz_do (R := mz_r109) (as := [.ref 0, .int 1]) (rest := []) (r1 := some (.int (-1000001))) (m1 := mz_up (mz_i xs Ln) 64 1 1) rfl ⟨?_, rfl⟩ ?_
        · refine mz_go 3 (c' := (4, [some (.ref 0), some (.int 1)], [.int 6, .int 1, .int 1], (mz_i xs Ln))) rfl ?_
          refine mz_do (R := mz_r121) (as := [.int 1, .int 1, .int 6]) (rest := []) (r1 := some (.int 1)) (m1 := (mz_i xs Ln)) rfl ⟨?_, rfl⟩ ?_
          · refine mz_go 8 (c' := (15, [some (.int 1), some (.int 1), some (.int 6)], [.int 1], (mz_i xs Ln))) rfl ?_
            exact mz_ret rfl
          refine mz_go 12 (c' := (25, [some (.ref 0), some (.int 1)], [.int (-1000001)], mz_up (mz_i xs Ln) 64 1 1)) rfl ?_
          exact mz_ret rfl
        exact mz_ret rfl
      · refine mz_go 2 (c' := (2, [some (.ref 65), some (.int a), some (.int b), some (.int c), some (.int d), none, none, none, none, none], [.int b, .int a], mz_up (mz_i xs Ln) 64 1 1)) rfl ?_
        refine mz_do (R := mz_r131) (as := [.int a, .int b]) (rest := []) (r1 := some (.int 0)) (m1 := mz_up (mz_i xs Ln) 64 1 1) rfl ⟨?_, rfl⟩ ?_
        · refine mz_go 3 (c' := (5, [some (.int a), some (.int b)], [.int 100, .int (-100), .int a], mz_up (mz_i xs Ln) 64 1 1)) rfl ?_
          refine mz_do (R := mz_r128) (as := [.int a, .int (-100), .int 100]) (rest := []) (r1 := some (.int 0)) (m1 := mz_up (mz_i xs Ln) 64 1 1) rfl ⟨?_, rfl⟩ ?_
          · refine mz_go 3 (c' := (if a < (-100) then 14 else 5, [some (.int a), some (.int (-100)), some (.int 100)], [], mz_up (mz_i xs Ln) 64 1 1)) rfl ?_
            refine mz_ifF h1 ?_
            refine mz_go 3 (c' := (if 100 < a then 14 else 10, [some (.int a), some (.int (-100)), some (.int 100)], [], mz_up (mz_i xs Ln) 64 1 1)) rfl ?_
            refine mz_ifT h2 ?_
            refine mz_go 1 (c' := (15, [some (.int a), some (.int (-100)), some (.int 100)], [.int 0], mz_up (mz_i xs Ln) 64 1 1)) rfl ?_
            exact mz_ret rfl
          refine mz_go 2 (c' := (27, [some (.int a), some (.int b)], [.int 0], mz_up (mz_i xs Ln) 64 1 1)) rfl ?_
          exact mz_ret rfl
        refine mz_go 3 (c' := (31, [some (.ref 65), some (.int a), some (.int b), some (.int c), some (.int d), none, none, none, none, none], [.int 1, .ref 65], mz_up (mz_i xs Ln) 64 1 1)) rfl ?_
        refine mz_do (R := mz_r127) (as := [.ref 65, .int 1]) (rest := []) (r1 := some (.int (-1000001))) (m1 := mz_up (mz_up (mz_i xs Ln) 64 1 1) 68 1 1) rfl ⟨?_, rfl⟩ ?_
        · refine mz_go 11 (c' := (14, [some (.ref 65), some (.int 1)], [.int (-1000001)], mz_up (mz_up (mz_i xs Ln) 64 1 1) 68 1 1)) rfl ?_
          exact mz_ret rfl
        exact mz_ret rfl
    · by_cases h3 : b < (-100)
      · refine ⟨(-1000001), mz_up (mz_i xs Ln) 64 1 1, mz_up (mz_up (mz_i xs Ln) 64 1 1) 68 1 1, ⟨?_, rfl⟩, ⟨?_, rfl⟩⟩
        · refine mz_go 2 (c' := (2, [some (.ref 0), some (.int a), some (.int b), some (.int c), some (.int d), none, none, none, none, none], [.int b, .int a], (mz_i xs Ln))) rfl ?_
          refine mz_do (R := mz_r116) (as := [.int a, .int b]) (rest := []) (r1 := some (.int 0)) (m1 := (mz_i xs Ln)) rfl ⟨?_, rfl⟩ ?_
          · refine mz_go 3 (c' := (5, [some (.int a), some (.int b)], [.int 100, .int (-100), .int a], (mz_i xs Ln))) rfl ?_
            refine mz_do (R := mz_r121) (as := [.int a, .int (-100), .int 100]) (rest := []) (r1 := some (.int 1)) (m1 := (mz_i xs Ln)) rfl ⟨?_, rfl⟩ ?_
            · refine mz_go 3 (c' := (if a < (-100) then 14 else 5, [some (.int a), some (.int (-100)), some (.int 100)], [], (mz_i xs Ln))) rfl ?_
              refine mz_ifF h1 ?_
              refine mz_go 3 (c' := (if 100 < a then 14 else 10, [some (.int a), some (.int (-100)), some (.int 100)], [], (mz_i xs Ln))) rfl ?_
              refine mz_ifF h2 ?_
              refine mz_go 2 (c' := (15, [some (.int a), some (.int (-100)), some (.int 100)], [.int 1], (mz_i xs Ln))) rfl ?_
              exact mz_ret rfl
            refine mz_go 4 (c' := (16, [some (.int a), some (.int b)], [.int 100, .int (-100), .int b], (mz_i xs Ln))) rfl ?_
            refine mz_do (R := mz_r121) (as := [.int b, .int (-100), .int 100]) (rest := []) (r1 := some (.int 0)) (m1 := (mz_i xs Ln)) rfl ⟨?_, rfl⟩ ?_
            · refine mz_go 3 (c' := (if b < (-100) then 14 else 5, [some (.int b), some (.int (-100)), some (.int 100)], [], (mz_i xs Ln))) rfl ?_
              refine mz_ifT h3 ?_
              refine mz_go 1 (c' := (15, [some (.int b), some (.int (-100)), some (.int 100)], [.int 0], (mz_i xs Ln))) rfl ?_
              exact mz_ret rfl
            refine mz_go 2 (c' := (27, [some (.int a), some (.int b)], [.int 0], (mz_i xs Ln))) rfl ?_
            exact mz_ret rfl
          refine mz_go 3 (c' := (31, [some (.ref 0), some (.int a), some (.int b), some (.int c), some (.int d), none, none, none, none, none], [.int 1, .ref 0], (mz_i xs Ln))) rfl ?_
          refine mz_do (R := mz_r109) (as := [.ref 0, .int 1]) (rest := []) (r1 := some (.int (-1000001))) (m1 := mz_up (mz_i xs Ln) 64 1 1) rfl ⟨?_, rfl⟩ ?_
          · refine mz_go 3 (c' := (4, [some (.ref 0), some (.int 1)], [.int 6, .int 1, .int 1], (mz_i xs Ln))) rfl ?_
            refine mz_do (R := mz_r121) (as := [.int 1, .int 1, .int 6]) (rest := []) (r1 := some (.int 1)) (m1 := (mz_i xs Ln)) rfl ⟨?_, rfl⟩ ?_
            · refine mz_go 8 (c' := (15, [some (.int 1), some (.int 1), some (.int 6)], [.int 1], (mz_i xs Ln))) rfl ?_
              exact mz_ret rfl
            refine mz_go 12 (c' := (25, [some (.ref 0), some (.int 1)], [.int (-1000001)], mz_up (mz_i xs Ln) 64 1 1)) rfl ?_
            exact mz_ret rfl
          exact mz_ret rfl
        · refine mz_go 2 (c' := (2, [some (.ref 65), some (.int a), some (.int b), some (.int c), some (.int d), none, none, none, none, none], [.int b, .int a], mz_up (mz_i xs Ln) 64 1 1)) rfl ?_
          refine mz_do (R := mz_r131) (as := [.int a, .int b]) (rest := []) (r1 := some (.int 0)) (m1 := mz_up (mz_i xs Ln) 64 1 1) rfl ⟨?_, rfl⟩ ?_
          · refine mz_go 3 (c' := (5, [some (.int a), some (.int b)], [.int 100, .int (-100), .int a], mz_up (mz_i xs Ln) 64 1 1)) rfl ?_
            refine mz_do (R := mz_r128) (as := [.int a, .int (-100), .int 100]) (rest := []) (r1 := some (.int 1)) (m1 := mz_up (mz_i xs Ln) 64 1 1) rfl ⟨?_, rfl⟩ ?_
            · refine mz_go 3 (c' := (if a < (-100) then 14 else 5, [some (.int a), some (.int (-100)), some (.int 100)], [], mz_up (mz_i xs Ln) 64 1 1)) rfl ?_
              refine mz_ifF h1 ?_
              refine mz_go 3 (c' := (if 100 < a then 14 else 10, [some (.int a), some (.int (-100)), some (.int 100)], [], mz_up (mz_i xs Ln) 64 1 1)) rfl ?_
              refine mz_ifF h2 ?_
              refine mz_go 2 (c' := (15, [some (.int a), some (.int (-100)), some (.int 100)], [.int 1], mz_up (mz_i xs Ln) 64 1 1)) rfl ?_
              exact mz_ret rfl
            refine mz_go 4 (c' := (16, [some (.int a), some (.int b)], [.int 100, .int (-100), .int b], mz_up (mz_i xs Ln) 64 1 1)) rfl ?_
            refine mz_do (R := mz_r128) (as := [.int b, .int (-100), .int 100]) (rest := []) (r1 := some (.int 0)) (m1 := mz_up (mz_i xs Ln) 64 1 1) rfl ⟨?_, rfl⟩ ?_
            · refine mz_go 3 (c' := (if b < (-100) then 14 else 5, [some (.int b), some (.int (-100)), some (.int 100)], [], mz_up (mz_i xs Ln) 64 1 1)) rfl ?_
              refine mz_ifT h3 ?_
              refine mz_go 1 (c' := (15, [some (.int b), some (.int (-100)), some (.int 100)], [.int 0], mz_up (mz_i xs Ln) 64 1 1)) rfl ?_
              exact mz_ret rfl
            refine mz_go 2 (c' := (27, [some (.int a), some (.int b)], [.int 0], mz_up (mz_i xs Ln) 64 1 1)) rfl ?_
            exact mz_ret rfl
          refine mz_go 3 (c' := (31, [some (.ref 65), some (.int a), some (.int b), some (.int c), some (.int d), none, none, none, none, none], [.int 1, .ref 65], mz_up (mz_i xs Ln) 64 1 1)) rfl ?_
          refine mz_do (R := mz_r127) (as := [.ref 65, .int 1]) (rest := []) (r1 := some (.int (-1000001))) (m1 := mz_up (mz_up (mz_i xs Ln) 64 1 1) 68 1 1) rfl ⟨?_, rfl⟩ ?_
          · refine mz_go 11 (c' := (14, [some (.ref 65), some (.int 1)], [.int (-1000001)], mz_up (mz_up (mz_i xs Ln) 64 1 1) 68 1 1)) rfl ?_
            exact mz_ret rfl
          exact mz_ret rfl
      · by_cases h4 : 100 < b
        · refine ⟨(-1000001), mz_up (mz_i xs Ln) 64 1 1, mz_up (mz_up (mz_i xs Ln) 64 1 1) 68 1 1, ⟨?_, rfl⟩, ⟨?_, rfl⟩⟩
          · refine mz_go 2 (c' := (2, [some (.ref 0), some (.int a), some (.int b), some (.int c), some (.int d), none, none, none, none, none], [.int b, .int a], (mz_i xs Ln))) rfl ?_
            refine mz_do (R := mz_r116) (as := [.int a, .int b]) (rest := []) (r1 := some (.int 0)) (m1 := (mz_i xs Ln)) rfl ⟨?_, rfl⟩ ?_
            · refine mz_go 3 (c' := (5, [some (.int a), some (.int b)], [.int 100, .int (-100), .int a], (mz_i xs Ln))) rfl ?_
              refine mz_do (R := mz_r121) (as := [.int a, .int (-100), .int 100]) (rest := []) (r1 := some (.int 1)) (m1 := (mz_i xs Ln)) rfl ⟨?_, rfl⟩ ?_
              · refine mz_go 3 (c' := (if a < (-100) then 14 else 5, [some (.int a), some (.int (-100)), some (.int 100)], [], (mz_i xs Ln))) rfl ?_
                refine mz_ifF h1 ?_
                refine mz_go 3 (c' := (if 100 < a then 14 else 10, [some (.int a), some (.int (-100)), some (.int 100)], [], (mz_i xs Ln))) rfl ?_
                refine mz_ifF h2 ?_
                refine mz_go 2 (c' := (15, [some (.int a), some (.int (-100)), some (.int 100)], [.int 1], (mz_i xs Ln))) rfl ?_
                exact mz_ret rfl
              refine mz_go 4 (c' := (16, [some (.int a), some (.int b)], [.int 100, .int (-100), .int b], (mz_i xs Ln))) rfl ?_
              refine mz_do (R := mz_r121) (as := [.int b, .int (-100), .int 100]) (rest := []) (r1 := some (.int 0)) (m1 := (mz_i xs Ln)) rfl ⟨?_, rfl⟩ ?_
              · refine mz_go 3 (c' := (if b < (-100) then 14 else 5, [some (.int b), some (.int (-100)), some (.int 100)], [], (mz_i xs Ln))) rfl ?_
                refine mz_ifF h3 ?_
                refine mz_go 3 (c' := (if 100 < b then 14 else 10, [some (.int b), some (.int (-100)), some (.int 100)], [], (mz_i xs Ln))) rfl ?_
                refine mz_ifT h4 ?_
                refine mz_go 1 (c' := (15, [some (.int b), some (.int (-100)), some (.int 100)], [.int 0], (mz_i xs Ln))) rfl ?_
                exact mz_ret rfl
              refine mz_go 2 (c' := (27, [some (.int a), some (.int b)], [.int 0], (mz_i xs Ln))) rfl ?_
              exact mz_ret rfl
            refine mz_go 3 (c' := (31, [some (.ref 0), some (.int a), some (.int b), some (.int c), some (.int d), none, none, none, none, none], [.int 1, .ref 0], (mz_i xs Ln))) rfl ?_
            refine mz_do (R := mz_r109) (as := [.ref 0, .int 1]) (rest := []) (r1 := some (.int (-1000001))) (m1 := mz_up (mz_i xs Ln) 64 1 1) rfl ⟨?_, rfl⟩ ?_
            · refine mz_go 3 (c' := (4, [some (.ref 0), some (.int 1)], [.int 6, .int 1, .int 1], (mz_i xs Ln))) rfl ?_
              refine mz_do (R := mz_r121) (as := [.int 1, .int 1, .int 6]) (rest := []) (r1 := some (.int 1)) (m1 := (mz_i xs Ln)) rfl ⟨?_, rfl⟩ ?_
              · refine mz_go 8 (c' := (15, [some (.int 1), some (.int 1), some (.int 6)], [.int 1], (mz_i xs Ln))) rfl ?_
                exact mz_ret rfl
              refine mz_go 12 (c' := (25, [some (.ref 0), some (.int 1)], [.int (-1000001)], mz_up (mz_i xs Ln) 64 1 1)) rfl ?_
              exact mz_ret rfl
            exact mz_ret rfl
          · refine mz_go 2 (c' := (2, [some (.ref 65), some (.int a), some (.int b), some (.int c), some (.int d), none, none, none, none, none], [.int b, .int a], mz_up (mz_i xs Ln) 64 1 1)) rfl ?_
            refine mz_do (R := mz_r131) (as := [.int a, .int b]) (rest := []) (r1 := some (.int 0)) (m1 := mz_up (mz_i xs Ln) 64 1 1) rfl ⟨?_, rfl⟩ ?_
            · refine mz_go 3 (c' := (5, [some (.int a), some (.int b)], [.int 100, .int (-100), .int a], mz_up (mz_i xs Ln) 64 1 1)) rfl ?_
              refine mz_do (R := mz_r128) (as := [.int a, .int (-100), .int 100]) (rest := []) (r1 := some (.int 1)) (m1 := mz_up (mz_i xs Ln) 64 1 1) rfl ⟨?_, rfl⟩ ?_
              · refine mz_go 3 (c' := (if a < (-100) then 14 else 5, [some (.int a), some (.int (-100)), some (.int 100)], [], mz_up (mz_i xs Ln) 64 1 1)) rfl ?_
                refine mz_ifF h1 ?_
                refine mz_go 3 (c' := (if 100 < a then 14 else 10, [some (.int a), some (.int (-100)), some (.int 100)], [], mz_up (mz_i xs Ln) 64 1 1)) rfl ?_
                refine mz_ifF h2 ?_
                refine mz_go 2 (c' := (15, [some (.int a), some (.int (-100)), some (.int 100)], [.int 1], mz_up (mz_i xs Ln) 64 1 1)) rfl ?_
                exact mz_ret rfl
              refine mz_go 4 (c' := (16, [some (.int a), some (.int b)], [.int 100, .int (-100), .int b], mz_up (mz_i xs Ln) 64 1 1)) rfl ?_
              refine mz_do (R := mz_r128) (as := [.int b, .int (-100), .int 100]) (rest := []) (r1 := some (.int 0)) (m1 := mz_up (mz_i xs Ln) 64 1 1) rfl ⟨?_, rfl⟩ ?_
              · refine mz_go 3 (c' := (if b < (-100) then 14 else 5, [some (.int b), some (.int (-100)), some (.int 100)], [], mz_up (mz_i xs Ln) 64 1 1)) rfl ?_
                refine mz_ifF h3 ?_
                refine mz_go 3 (c' := (if 100 < b then 14 else 10, [some (.int b), some (.int (-100)), some (.int 100)], [], mz_up (mz_i xs Ln) 64 1 1)) rfl ?_
                refine mz_ifT h4 ?_
                refine mz_go 1 (c' := (15, [some (.int b), some (.int (-100)), some (.int 100)], [.int 0], mz_up (mz_i xs Ln) 64 1 1)) rfl ?_
                exact mz_ret rfl
              refine mz_go 2 (c' := (27, [some (.int a), some (.int b)], [.int 0], mz_up (mz_i xs Ln) 64 1 1)) rfl ?_
              exact mz_ret rfl
            refine mz_go 3 (c' := (31, [some (.ref 65), some (.int a), some (.int b), some (.int c), some (.int d), none, none, none, none, none], [.int 1, .ref 65], mz_up (mz_i xs Ln) 64 1 1)) rfl ?_
            refine mz_do (R := mz_r127) (as := [.ref 65, .int 1]) (rest := []) (r1 := some (.int (-1000001))) (m1 := mz_up (mz_up (mz_i xs Ln) 64 1 1) 68 1 1) rfl ⟨?_, rfl⟩ ?_
            · refine mz_go 11 (c' := (14, [some (.ref 65), some (.int 1)], [.int (-1000001)], mz_up (mz_up (mz_i xs Ln) 64 1 1) 68 1 1)) rfl ?_
              exact mz_ret rfl
            exact mz_ret rfl
        · by_cases h5 : c < 0
          · refine ⟨(-1000001), mz_up (mz_i xs Ln) 64 1 1, mz_up (mz_up (mz_i xs Ln) 64 1 1) 68 1 1, ⟨?_, rfl⟩, ⟨?_, rfl⟩⟩
            · refine mz_go 2 (c' := (2, [some (.ref 0), some (.int a), some (.int b), some (.int c), some (.int d), none, none, none, none, none], [.int b, .int a], (mz_i xs Ln))) rfl ?_
              refine mz_do (R := mz_r116) (as := [.int a, .int b]) (rest := []) (r1 := some (.int 1)) (m1 := (mz_i xs Ln)) rfl ⟨?_, rfl⟩ ?_
              · refine mz_go 3 (c' := (5, [some (.int a), some (.int b)], [.int 100, .int (-100), .int a], (mz_i xs Ln))) rfl ?_
                refine mz_do (R := mz_r121) (as := [.int a, .int (-100), .int 100]) (rest := []) (r1 := some (.int 1)) (m1 := (mz_i xs Ln)) rfl ⟨?_, rfl⟩ ?_
                · refine mz_go 3 (c' := (if a < (-100) then 14 else 5, [some (.int a), some (.int (-100)), some (.int 100)], [], (mz_i xs Ln))) rfl ?_
                  refine mz_ifF h1 ?_
                  refine mz_go 3 (c' := (if 100 < a then 14 else 10, [some (.int a), some (.int (-100)), some (.int 100)], [], (mz_i xs Ln))) rfl ?_
                  refine mz_ifF h2 ?_
                  refine mz_go 2 (c' := (15, [some (.int a), some (.int (-100)), some (.int 100)], [.int 1], (mz_i xs Ln))) rfl ?_
                  exact mz_ret rfl
                refine mz_go 4 (c' := (16, [some (.int a), some (.int b)], [.int 100, .int (-100), .int b], (mz_i xs Ln))) rfl ?_
                refine mz_do (R := mz_r121) (as := [.int b, .int (-100), .int 100]) (rest := []) (r1 := some (.int 1)) (m1 := (mz_i xs Ln)) rfl ⟨?_, rfl⟩ ?_
                · refine mz_go 3 (c' := (if b < (-100) then 14 else 5, [some (.int b), some (.int (-100)), some (.int 100)], [], (mz_i xs Ln))) rfl ?_
                  refine mz_ifF h3 ?_
                  refine mz_go 3 (c' := (if 100 < b then 14 else 10, [some (.int b), some (.int (-100)), some (.int 100)], [], (mz_i xs Ln))) rfl ?_
                  refine mz_ifF h4 ?_
                  refine mz_go 2 (c' := (15, [some (.int b), some (.int (-100)), some (.int 100)], [.int 1], (mz_i xs Ln))) rfl ?_
                  exact mz_ret rfl
                refine mz_go 3 (c' := (27, [some (.int a), some (.int b)], [.int 1], (mz_i xs Ln))) rfl ?_
                exact mz_ret rfl
              refine mz_go 4 (c' := (12, [some (.ref 0), some (.int a), some (.int b), some (.int c), some (.int d), none, none, none, none, none], [.int 50, .int 0, .int c], (mz_i xs Ln))) rfl ?_
              refine mz_do (R := mz_r121) (as := [.int c, .int 0, .int 50]) (rest := []) (r1 := some (.int 0)) (m1 := (mz_i xs Ln)) rfl ⟨?_, rfl⟩ ?_
              · refine mz_go 3 (c' := (if c < 0 then 14 else 5, [some (.int c), some (.int 0), some (.int 50)], [], (mz_i xs Ln))) rfl ?_
                refine mz_ifT h5 ?_
                refine mz_go 1 (c' := (15, [some (.int c), some (.int 0), some (.int 50)], [.int 0], (mz_i xs Ln))) rfl ?_
                exact mz_ret rfl
              refine mz_go 3 (c' := (31, [some (.ref 0), some (.int a), some (.int b), some (.int c), some (.int d), none, none, none, none, none], [.int 1, .ref 0], (mz_i xs Ln))) rfl ?_
              refine mz_do (R := mz_r109) (as := [.ref 0, .int 1]) (rest := []) (r1 := some (.int (-1000001))) (m1 := mz_up (mz_i xs Ln) 64 1 1) rfl ⟨?_, rfl⟩ ?_
              · refine mz_go 3 (c' := (4, [some (.ref 0), some (.int 1)], [.int 6, .int 1, .int 1], (mz_i xs Ln))) rfl ?_
                refine mz_do (R := mz_r121) (as := [.int 1, .int 1, .int 6]) (rest := []) (r1 := some (.int 1)) (m1 := (mz_i xs Ln)) rfl ⟨?_, rfl⟩ ?_
                · refine mz_go 8 (c' := (15, [some (.int 1), some (.int 1), some (.int 6)], [.int 1], (mz_i xs Ln))) rfl ?_
                  exact mz_ret rfl
                refine mz_go 12 (c' := (25, [some (.ref 0), some (.int 1)], [.int (-1000001)], mz_up (mz_i xs Ln) 64 1 1)) rfl ?_
                exact mz_ret rfl
              exact mz_ret rfl
            · refine mz_go 2 (c' := (2, [some (.ref 65), some (.int a), some (.int b), some (.int c), some (.int d), none, none, none, none, none], [.int b, .int a], mz_up (mz_i xs Ln) 64 1 1)) rfl ?_
              refine mz_do (R := mz_r131) (as := [.int a, .int b]) (rest := []) (r1 := some (.int 1)) (m1 := mz_up (mz_i xs Ln) 64 1 1) rfl ⟨?_, rfl⟩ ?_
              · refine mz_go 3 (c' := (5, [some (.int a), some (.int b)], [.int 100, .int (-100), .int a], mz_up (mz_i xs Ln) 64 1 1)) rfl ?_
                refine mz_do (R := mz_r128) (as := [.int a, .int (-100), .int 100]) (rest := []) (r1 := some (.int 1)) (m1 := mz_up (mz_i xs Ln) 64 1 1) rfl ⟨?_, rfl⟩ ?_
                · refine mz_go 3 (c' := (if a < (-100) then 14 else 5, [some (.int a), some (.int (-100)), some (.int 100)], [], mz_up (mz_i xs Ln) 64 1 1)) rfl ?_
                  refine mz_ifF h1 ?_
                  refine mz_go 3 (c' := (if 100 < a then 14 else 10, [some (.int a), some (.int (-100)), some (.int 100)], [], mz_up (mz_i xs Ln) 64 1 1)) rfl ?_
                  refine mz_ifF h2 ?_
                  refine mz_go 2 (c' := (15, [some (.int a), some (.int (-100)), some (.int 100)], [.int 1], mz_up (mz_i xs Ln) 64 1 1)) rfl ?_
                  exact mz_ret rfl
                refine mz_go 4 (c' := (16, [some (.int a), some (.int b)], [.int 100, .int (-100), .int b], mz_up (mz_i xs Ln) 64 1 1)) rfl ?_
                refine mz_do (R := mz_r128) (as := [.int b, .int (-100), .int 100]) (rest := []) (r1 := some (.int 1)) (m1 := mz_up (mz_i xs Ln) 64 1 1) rfl ⟨?_, rfl⟩ ?_
                · refine mz_go 3 (c' := (if b < (-100) then 14 else 5, [some (.int b), some (.int (-100)), some (.int 100)], [], mz_up (mz_i xs Ln) 64 1 1)) rfl ?_
                  refine mz_ifF h3 ?_
                  refine mz_go 3 (c' := (if 100 < b then 14 else 10, [some (.int b), some (.int (-100)), some (.int 100)], [], mz_up (mz_i xs Ln) 64 1 1)) rfl ?_
                  refine mz_ifF h4 ?_
                  refine mz_go 2 (c' := (15, [some (.int b), some (.int (-100)), some (.int 100)], [.int 1], mz_up (mz_i xs Ln) 64 1 1)) rfl ?_
                  exact mz_ret rfl
                refine mz_go 3 (c' := (27, [some (.int a), some (.int b)], [.int 1], mz_up (mz_i xs Ln) 64 1 1)) rfl ?_
                exact mz_ret rfl
              refine mz_go 4 (c' := (12, [some (.ref 65), some (.int a), some (.int b), some (.int c), some (.int d), none, none, none, none, none], [.int 50, .int 0, .int c], mz_up (mz_i xs Ln) 64 1 1)) rfl ?_
              refine mz_do (R := mz_r128) (as := [.int c, .int 0, .int 50]) (rest := []) (r1 := some (.int 0)) (m1 := mz_up (mz_i xs Ln) 64 1 1) rfl ⟨?_, rfl⟩ ?_
              · refine mz_go 3 (c' := (if c < 0 then 14 else 5, [some (.int c), some (.int 0), some (.int 50)], [], mz_up (mz_i xs Ln) 64 1 1)) rfl ?_
                refine mz_ifT h5 ?_
                refine mz_go 1 (c' := (15, [some (.int c), some (.int 0), some (.int 50)], [.int 0], mz_up (mz_i xs Ln) 64 1 1)) rfl ?_
                exact mz_ret rfl
              refine mz_go 3 (c' := (31, [some (.ref 65), some (.int a), some (.int b), some (.int c), some (.int d), none, none, none, none, none], [.int 1, .ref 65], mz_up (mz_i xs Ln) 64 1 1)) rfl ?_
              refine mz_do (R := mz_r127) (as := [.ref 65, .int 1]) (rest := []) (r1 := some (.int (-1000001))) (m1 := mz_up (mz_up (mz_i xs Ln) 64 1 1) 68 1 1) rfl ⟨?_, rfl⟩ ?_
              · refine mz_go 11 (c' := (14, [some (.ref 65), some (.int 1)], [.int (-1000001)], mz_up (mz_up (mz_i xs Ln) 64 1 1) 68 1 1)) rfl ?_
                exact mz_ret rfl
              exact mz_ret rfl
          · by_cases h6 : 50 < c
            · refine ⟨(-1000001), mz_up (mz_i xs Ln) 64 1 1, mz_up (mz_up (mz_i xs Ln) 64 1 1) 68 1 1, ⟨?_, rfl⟩, ⟨?_, rfl⟩⟩
              · refine mz_go 2 (c' := (2, [some (.ref 0), some (.int a), some (.int b), some (.int c), some (.int d), none, none, none, none, none], [.int b, .int a], (mz_i xs Ln))) rfl ?_
                refine mz_do (R := mz_r116) (as := [.int a, .int b]) (rest := []) (r1 := some (.int 1)) (m1 := (mz_i xs Ln)) rfl ⟨?_, rfl⟩ ?_
                · refine mz_go 3 (c' := (5, [some (.int a), some (.int b)], [.int 100, .int (-100), .int a], (mz_i xs Ln))) rfl ?_
                  refine mz_do (R := mz_r121) (as := [.int a, .int (-100), .int 100]) (rest := []) (r1 := some (.int 1)) (m1 := (mz_i xs Ln)) rfl ⟨?_, rfl⟩ ?_
                  · refine mz_go 3 (c' := (if a < (-100) then 14 else 5, [some (.int a), some (.int (-100)), some (.int 100)], [], (mz_i xs Ln))) rfl ?_
                    refine mz_ifF h1 ?_
                    refine mz_go 3 (c' := (if 100 < a then 14 else 10, [some (.int a), some (.int (-100)), some (.int 100)], [], (mz_i xs Ln))) rfl ?_
                    refine mz_ifF h2 ?_
                    refine mz_go 2 (c' := (15, [some (.int a), some (.int (-100)), some (.int 100)], [.int 1], (mz_i xs Ln))) rfl ?_
                    exact mz_ret rfl
                  refine mz_go 4 (c' := (16, [some (.int a), some (.int b)], [.int 100, .int (-100), .int b], (mz_i xs Ln))) rfl ?_
                  refine mz_do (R := mz_r121) (as := [.int b, .int (-100), .int 100]) (rest := []) (r1 := some (.int 1)) (m1 := (mz_i xs Ln)) rfl ⟨?_, rfl⟩ ?_
                  · refine mz_go 3 (c' := (if b < (-100) then 14 else 5, [some (.int b), some (.int (-100)), some (.int 100)], [], (mz_i xs Ln))) rfl ?_
                    refine mz_ifF h3 ?_
                    refine mz_go 3 (c' := (if 100 < b then 14 else 10, [some (.int b), some (.int (-100)), some (.int 100)], [], (mz_i xs Ln))) rfl ?_
                    refine mz_ifF h4 ?_
                    refine mz_go 2 (c' := (15, [some (.int b), some (.int (-100)), some (.int 100)], [.int 1], (mz_i xs Ln))) rfl ?_
                    exact mz_ret rfl
                  refine mz_go 3 (c' := (27, [some (.int a), some (.int b)], [.int 1], (mz_i xs Ln))) rfl ?_
                  exact mz_ret rfl
                refine mz_go 4 (c' := (12, [some (.ref 0), some (.int a), some (.int b), some (.int c), some (.int d), none, none, none, none, none], [.int 50, .int 0, .int c], (mz_i xs Ln))) rfl ?_
                refine mz_do (R := mz_r121) (as := [.int c, .int 0, .int 50]) (rest := []) (r1 := some (.int 0)) (m1 := (mz_i xs Ln)) rfl ⟨?_, rfl⟩ ?_
                · refine mz_go 3 (c' := (if c < 0 then 14 else 5, [some (.int c), some (.int 0), some (.int 50)], [], (mz_i xs Ln))) rfl ?_
                  refine mz_ifF h5 ?_
                  refine mz_go 3 (c' := (if 50 < c then 14 else 10, [some (.int c), some (.int 0), some (.int 50)], [], (mz_i xs Ln))) rfl ?_
                  refine mz_ifT h6 ?_
                  refine mz_go 1 (c' := (15, [some (.int c), some (.int 0), some (.int 50)], [.int 0], (mz_i xs Ln))) rfl ?_
                  exact mz_ret rfl
                refine mz_go 3 (c' := (31, [some (.ref 0), some (.int a), some (.int b), some (.int c), some (.int d), none, none, none, none, none], [.int 1, .ref 0], (mz_i xs Ln))) rfl ?_
                refine mz_do (R := mz_r109) (as := [.ref 0, .int 1]) (rest := []) (r1 := some (.int (-1000001))) (m1 := mz_up (mz_i xs Ln) 64 1 1) rfl ⟨?_, rfl⟩ ?_
                · refine mz_go 3 (c' := (4, [some (.ref 0), some (.int 1)], [.int 6, .int 1, .int 1], (mz_i xs Ln))) rfl ?_
                  refine mz_do (R := mz_r121) (as := [.int 1, .int 1, .int 6]) (rest := []) (r1 := some (.int 1)) (m1 := (mz_i xs Ln)) rfl ⟨?_, rfl⟩ ?_
                  · refine mz_go 8 (c' := (15, [some (.int 1), some (.int 1), some (.int 6)], [.int 1], (mz_i xs Ln))) rfl ?_
                    exact mz_ret rfl
                  refine mz_go 12 (c' := (25, [some (.ref 0), some (.int 1)], [.int (-1000001)], mz_up (mz_i xs Ln) 64 1 1)) rfl ?_
                  exact mz_ret rfl
                exact mz_ret rfl
              · refine mz_go 2 (c' := (2, [some (.ref 65), some (.int a), some (.int b), some (.int c), some (.int d), none, none, none, none, none], [.int b, .int a], mz_up (mz_i xs Ln) 64 1 1)) rfl ?_
                refine mz_do (R := mz_r131) (as := [.int a, .int b]) (rest := []) (r1 := some (.int 1)) (m1 := mz_up (mz_i xs Ln) 64 1 1) rfl ⟨?_, rfl⟩ ?_
                · refine mz_go 3 (c' := (5, [some (.int a), some (.int b)], [.int 100, .int (-100), .int a], mz_up (mz_i xs Ln) 64 1 1)) rfl ?_
                  refine mz_do (R := mz_r128) (as := [.int a, .int (-100), .int 100]) (rest := []) (r1 := some (.int 1)) (m1 := mz_up (mz_i xs Ln) 64 1 1) rfl ⟨?_, rfl⟩ ?_
                  · refine mz_go 3 (c' := (if a < (-100) then 14 else 5, [some (.int a), some (.int (-100)), some (.int 100)], [], mz_up (mz_i xs Ln) 64 1 1)) rfl ?_
                    refine mz_ifF h1 ?_
                    refine mz_go 3 (c' := (if 100 < a then 14 else 10, [some (.int a), some (.int (-100)), some (.int 100)], [], mz_up (mz_i xs Ln) 64 1 1)) rfl ?_
                    refine mz_ifF h2 ?_
                    refine mz_go 2 (c' := (15, [some (.int a), some (.int (-100)), some (.int 100)], [.int 1], mz_up (mz_i xs Ln) 64 1 1)) rfl ?_
                    exact mz_ret rfl
                  refine mz_go 4 (c' := (16, [some (.int a), some (.int b)], [.int 100, .int (-100), .int b], mz_up (mz_i xs Ln) 64 1 1)) rfl ?_
                  refine mz_do (R := mz_r128) (as := [.int b, .int (-100), .int 100]) (rest := []) (r1 := some (.int 1)) (m1 := mz_up (mz_i xs Ln) 64 1 1) rfl ⟨?_, rfl⟩ ?_
                  · refine mz_go 3 (c' := (if b < (-100) then 14 else 5, [some (.int b), some (.int (-100)), some (.int 100)], [], mz_up (mz_i xs Ln) 64 1 1)) rfl ?_
                    refine mz_ifF h3 ?_
                    refine mz_go 3 (c' := (if 100 < b then 14 else 10, [some (.int b), some (.int (-100)), some (.int 100)], [], mz_up (mz_i xs Ln) 64 1 1)) rfl ?_
                    refine mz_ifF h4 ?_
                    refine mz_go 2 (c' := (15, [some (.int b), some (.int (-100)), some (.int 100)], [.int 1], mz_up (mz_i xs Ln) 64 1 1)) rfl ?_
                    exact mz_ret rfl
                  refine mz_go 3 (c' := (27, [some (.int a), some (.int b)], [.int 1], mz_up (mz_i xs Ln) 64 1 1)) rfl ?_
                  exact mz_ret rfl
                refine mz_go 4 (c' := (12, [some (.ref 65), some (.int a), some (.int b), some (.int c), some (.int d), none, none, none, none, none], [.int 50, .int 0, .int c], mz_up (mz_i xs Ln) 64 1 1)) rfl ?_
                refine mz_do (R := mz_r128) (as := [.int c, .int 0, .int 50]) (rest := []) (r1 := some (.int 0)) (m1 := mz_up (mz_i xs Ln) 64 1 1) rfl ⟨?_, rfl⟩ ?_
                · refine mz_go 3 (c' := (if c < 0 then 14 else 5, [some (.int c), some (.int 0), some (.int 50)], [], mz_up (mz_i xs Ln) 64 1 1)) rfl ?_
                  refine mz_ifF h5 ?_
                  refine mz_go 3 (c' := (if 50 < c then 14 else 10, [some (.int c), some (.int 0), some (.int 50)], [], mz_up (mz_i xs Ln) 64 1 1)) rfl ?_
                  refine mz_ifT h6 ?_
                  refine mz_go 1 (c' := (15, [some (.int c), some (.int 0), some (.int 50)], [.int 0], mz_up (mz_i xs Ln) 64 1 1)) rfl ?_
                  exact mz_ret rfl
                refine mz_go 3 (c' := (31, [some (.ref 65), some (.int a), some (.int b), some (.int c), some (.int d), none, none, none, none, none], [.int 1, .ref 65], mz_up (mz_i xs Ln) 64 1 1)) rfl ?_
                refine mz_do (R := mz_r127) (as := [.ref 65, .int 1]) (rest := []) (r1 := some (.int (-1000001))) (m1 := mz_up (mz_up (mz_i xs Ln) 64 1 1) 68 1 1) rfl ⟨?_, rfl⟩ ?_
                · refine mz_go 11 (c' := (14, [some (.ref 65), some (.int 1)], [.int (-1000001)], mz_up (mz_up (mz_i xs Ln) 64 1 1) 68 1 1)) rfl ?_
                  exact mz_ret rfl
                exact mz_ret rfl
            · by_cases h7 : d < 1
              · refine ⟨(-1000001), mz_up (mz_i xs Ln) 64 1 1, mz_up (mz_up (mz_i xs Ln) 64 1 1) 68 1 1, ⟨?_, rfl⟩, ⟨?_, rfl⟩⟩
                · refine mz_go 2 (c' := (2, [some (.ref 0), some (.int a), some (.int b), some (.int c), some (.int d), none, none, none, none, none], [.int b, .int a], (mz_i xs Ln))) rfl ?_
                  refine mz_do (R := mz_r116) (as := [.int a, .int b]) (rest := []) (r1 := some (.int 1)) (m1 := (mz_i xs Ln)) rfl ⟨?_, rfl⟩ ?_
                  · refine mz_go 3 (c' := (5, [some (.int a), some (.int b)], [.int 100, .int (-100), .int a], (mz_i xs Ln))) rfl ?_
                    refine mz_do (R := mz_r121) (as := [.int a, .int (-100), .int 100]) (rest := []) (r1 := some (.int 1)) (m1 := (mz_i xs Ln)) rfl ⟨?_, rfl⟩ ?_
                    · refine mz_go 3 (c' := (if a < (-100) then 14 else 5, [some (.int a), some (.int (-100)), some (.int 100)], [], (mz_i xs Ln))) rfl ?_
                      refine mz_ifF h1 ?_
                      refine mz_go 3 (c' := (if 100 < a then 14 else 10, [some (.int a), some (.int (-100)), some (.int 100)], [], (mz_i xs Ln))) rfl ?_
                      refine mz_ifF h2 ?_
                      refine mz_go 2 (c' := (15, [some (.int a), some (.int (-100)), some (.int 100)], [.int 1], (mz_i xs Ln))) rfl ?_
                      exact mz_ret rfl
                    refine mz_go 4 (c' := (16, [some (.int a), some (.int b)], [.int 100, .int (-100), .int b], (mz_i xs Ln))) rfl ?_
                    refine mz_do (R := mz_r121) (as := [.int b, .int (-100), .int 100]) (rest := []) (r1 := some (.int 1)) (m1 := (mz_i xs Ln)) rfl ⟨?_, rfl⟩ ?_
                    · refine mz_go 3 (c' := (if b < (-100) then 14 else 5, [some (.int b), some (.int (-100)), some (.int 100)], [], (mz_i xs Ln))) rfl ?_
                      refine mz_ifF h3 ?_
                      refine mz_go 3 (c' := (if 100 < b then 14 else 10, [some (.int b), some (.int (-100)), some (.int 100)], [], (mz_i xs Ln))) rfl ?_
                      refine mz_ifF h4 ?_
                      refine mz_go 2 (c' := (15, [some (.int b), some (.int (-100)), some (.int 100)], [.int 1], (mz_i xs Ln))) rfl ?_
                      exact mz_ret rfl
                    refine mz_go 3 (c' := (27, [some (.int a), some (.int b)], [.int 1], (mz_i xs Ln))) rfl ?_
                    exact mz_ret rfl
                  refine mz_go 4 (c' := (12, [some (.ref 0), some (.int a), some (.int b), some (.int c), some (.int d), none, none, none, none, none], [.int 50, .int 0, .int c], (mz_i xs Ln))) rfl ?_
                  refine mz_do (R := mz_r121) (as := [.int c, .int 0, .int 50]) (rest := []) (r1 := some (.int 1)) (m1 := (mz_i xs Ln)) rfl ⟨?_, rfl⟩ ?_
                  · refine mz_go 3 (c' := (if c < 0 then 14 else 5, [some (.int c), some (.int 0), some (.int 50)], [], (mz_i xs Ln))) rfl ?_
                    refine mz_ifF h5 ?_
                    refine mz_go 3 (c' := (if 50 < c then 14 else 10, [some (.int c), some (.int 0), some (.int 50)], [], (mz_i xs Ln))) rfl ?_
                    refine mz_ifF h6 ?_
                    refine mz_go 2 (c' := (15, [some (.int c), some (.int 0), some (.int 50)], [.int 1], (mz_i xs Ln))) rfl ?_
                    exact mz_ret rfl
                  refine mz_go 4 (c' := (23, [some (.ref 0), some (.int a), some (.int b), some (.int c), some (.int d), none, none, none, none, none], [.int 40, .int 1, .int d], (mz_i xs Ln))) rfl ?_
                  refine mz_do (R := mz_r121) (as := [.int d, .int 1, .int 40]) (rest := []) (r1 := some (.int 0)) (m1 := (mz_i xs Ln)) rfl ⟨?_, rfl⟩ ?_
                  · refine mz_go 3 (c' := (if d < 1 then 14 else 5, [some (.int d), some (.int 1), some (.int 40)], [], (mz_i xs Ln))) rfl ?_
                    refine mz_ifT h7 ?_
                    refine mz_go 1 (c' := (15, [some (.int d), some (.int 1), some (.int 40)], [.int 0], (mz_i xs Ln))) rfl ?_
                    exact mz_ret rfl
                  refine mz_go 3 (c' := (31, [some (.ref 0), some (.int a), some (.int b), some (.int c), some (.int d), none, none, none, none, none], [.int 1, .ref 0], (mz_i xs Ln))) rfl ?_
                  refine mz_do (R := mz_r109) (as := [.ref 0, .int 1]) (rest := []) (r1 := some (.int (-1000001))) (m1 := mz_up (mz_i xs Ln) 64 1 1) rfl ⟨?_, rfl⟩ ?_
                  · refine mz_go 3 (c' := (4, [some (.ref 0), some (.int 1)], [.int 6, .int 1, .int 1], (mz_i xs Ln))) rfl ?_
                    refine mz_do (R := mz_r121) (as := [.int 1, .int 1, .int 6]) (rest := []) (r1 := some (.int 1)) (m1 := (mz_i xs Ln)) rfl ⟨?_, rfl⟩ ?_
                    · refine mz_go 8 (c' := (15, [some (.int 1), some (.int 1), some (.int 6)], [.int 1], (mz_i xs Ln))) rfl ?_
                      exact mz_ret rfl
                    refine mz_go 12 (c' := (25, [some (.ref 0), some (.int 1)], [.int (-1000001)], mz_up (mz_i xs Ln) 64 1 1)) rfl ?_
                    exact mz_ret rfl
                  exact mz_ret rfl
                · refine mz_go 2 (c' := (2, [some (.ref 65), some (.int a), some (.int b), some (.int c), some (.int d), none, none, none, none, none], [.int b, .int a], mz_up (mz_i xs Ln) 64 1 1)) rfl ?_
                  refine mz_do (R := mz_r131) (as := [.int a, .int b]) (rest := []) (r1 := some (.int 1)) (m1 := mz_up (mz_i xs Ln) 64 1 1) rfl ⟨?_, rfl⟩ ?_
                  · refine mz_go 3 (c' := (5, [some (.int a), some (.int b)], [.int 100, .int (-100), .int a], mz_up (mz_i xs Ln) 64 1 1)) rfl ?_
                    refine mz_do (R := mz_r128) (as := [.int a, .int (-100), .int 100]) (rest := []) (r1 := some (.int 1)) (m1 := mz_up (mz_i xs Ln) 64 1 1) rfl ⟨?_, rfl⟩ ?_
                    · refine mz_go 3 (c' := (if a < (-100) then 14 else 5, [some (.int a), some (.int (-100)), some (.int 100)], [], mz_up (mz_i xs Ln) 64 1 1)) rfl ?_
                      refine mz_ifF h1 ?_
                      refine mz_go 3 (c' := (if 100 < a then 14 else 10, [some (.int a), some (.int (-100)), some (.int 100)], [], mz_up (mz_i xs Ln) 64 1 1)) rfl ?_
                      refine mz_ifF h2 ?_
                      refine mz_go 2 (c' := (15, [some (.int a), some (.int (-100)), some (.int 100)], [.int 1], mz_up (mz_i xs Ln) 64 1 1)) rfl ?_
                      exact mz_ret rfl
                    refine mz_go 4 (c' := (16, [some (.int a), some (.int b)], [.int 100, .int (-100), .int b], mz_up (mz_i xs Ln) 64 1 1)) rfl ?_
                    refine mz_do (R := mz_r128) (as := [.int b, .int (-100), .int 100]) (rest := []) (r1 := some (.int 1)) (m1 := mz_up (mz_i xs Ln) 64 1 1) rfl ⟨?_, rfl⟩ ?_
                    · refine mz_go 3 (c' := (if b < (-100) then 14 else 5, [some (.int b), some (.int (-100)), some (.int 100)], [], mz_up (mz_i xs Ln) 64 1 1)) rfl ?_
                      refine mz_ifF h3 ?_
                      refine mz_go 3 (c' := (if 100 < b then 14 else 10, [some (.int b), some (.int (-100)), some (.int 100)], [], mz_up (mz_i xs Ln) 64 1 1)) rfl ?_
                      refine mz_ifF h4 ?_
                      refine mz_go 2 (c' := (15, [some (.int b), some (.int (-100)), some (.int 100)], [.int 1], mz_up (mz_i xs Ln) 64 1 1)) rfl ?_
                      exact mz_ret rfl
                    refine mz_go 3 (c' := (27, [some (.int a), some (.int b)], [.int 1], mz_up (mz_i xs Ln) 64 1 1)) rfl ?_
                    exact mz_ret rfl
                  refine mz_go 4 (c' := (12, [some (.ref 65), some (.int a), some (.int b), some (.int c), some (.int d), none, none, none, none, none], [.int 50, .int 0, .int c], mz_up (mz_i xs Ln) 64 1 1)) rfl ?_
                  refine mz_do (R := mz_r128) (as := [.int c, .int 0, .int 50]) (rest := []) (r1 := some (.int 1)) (m1 := mz_up (mz_i xs Ln) 64 1 1) rfl ⟨?_, rfl⟩ ?_
                  · refine mz_go 3 (c' := (if c < 0 then 14 else 5, [some (.int c), some (.int 0), some (.int 50)], [], mz_up (mz_i xs Ln) 64 1 1)) rfl ?_
                    refine mz_ifF h5 ?_
                    refine mz_go 3 (c' := (if 50 < c then 14 else 10, [some (.int c), some (.int 0), some (.int 50)], [], mz_up (mz_i xs Ln) 64 1 1)) rfl ?_
                    refine mz_ifF h6 ?_
                    refine mz_go 2 (c' := (15, [some (.int c), some (.int 0), some (.int 50)], [.int 1], mz_up (mz_i xs Ln) 64 1 1)) rfl ?_
                    exact mz_ret rfl
                  refine mz_go 4 (c' := (23, [some (.ref 65), some (.int a), some (.int b), some (.int c), some (.int d), none, none, none, none, none], [.int 40, .int 1, .int d], mz_up (mz_i xs Ln) 64 1 1)) rfl ?_
                  refine mz_do (R := mz_r128) (as := [.int d, .int 1, .int 40]) (rest := []) (r1 := some (.int 0)) (m1 := mz_up (mz_i xs Ln) 64 1 1) rfl ⟨?_, rfl⟩ ?_
                  · refine mz_go 3 (c' := (if d < 1 then 14 else 5, [some (.int d), some (.int 1), some (.int 40)], [], mz_up (mz_i xs Ln) 64 1 1)) rfl ?_
                    refine mz_ifT h7 ?_
                    refine mz_go 1 (c' := (15, [some (.int d), some (.int 1), some (.int 40)], [.int 0], mz_up (mz_i xs Ln) 64 1 1)) rfl ?_
                    exact mz_ret rfl
                  refine mz_go 3 (c' := (31, [some (.ref 65), some (.int a), some (.int b), some (.int c), some (.int d), none, none, none, none, none], [.int 1, .ref 65], mz_up (mz_i xs Ln) 64 1 1)) rfl ?_
                  refine mz_do (R := mz_r127) (as := [.ref 65, .int 1]) (rest := []) (r1 := some (.int (-1000001))) (m1 := mz_up (mz_up (mz_i xs Ln) 64 1 1) 68 1 1) rfl ⟨?_, rfl⟩ ?_
                  · refine mz_go 11 (c' := (14, [some (.ref 65), some (.int 1)], [.int (-1000001)], mz_up (mz_up (mz_i xs Ln) 64 1 1) 68 1 1)) rfl ?_
                    exact mz_ret rfl
                  exact mz_ret rfl
              · by_cases h8 : 40 < d
                · refine ⟨(-1000001), mz_up (mz_i xs Ln) 64 1 1, mz_up (mz_up (mz_i xs Ln) 64 1 1) 68 1 1, ⟨?_, rfl⟩, ⟨?_, rfl⟩⟩
                  · refine mz_go 2 (c' := (2, [some (.ref 0), some (.int a), some (.int b), some (.int c), some (.int d), none, none, none, none, none], [.int b, .int a], (mz_i xs Ln))) rfl ?_
                    refine mz_do (R := mz_r116) (as := [.int a, .int b]) (rest := []) (r1 := some (.int 1)) (m1 := (mz_i xs Ln)) rfl ⟨?_, rfl⟩ ?_
                    · refine mz_go 3 (c' := (5, [some (.int a), some (.int b)], [.int 100, .int (-100), .int a], (mz_i xs Ln))) rfl ?_
                      refine mz_do (R := mz_r121) (as := [.int a, .int (-100), .int 100]) (rest := []) (r1 := some (.int 1)) (m1 := (mz_i xs Ln)) rfl ⟨?_, rfl⟩ ?_
                      · refine mz_go 3 (c' := (if a < (-100) then 14 else 5, [some (.int a), some (.int (-100)), some (.int 100)], [], (mz_i xs Ln))) rfl ?_
                        refine mz_ifF h1 ?_
                        refine mz_go 3 (c' := (if 100 < a then 14 else 10, [some (.int a), some (.int (-100)), some (.int 100)], [], (mz_i xs Ln))) rfl ?_
                        refine mz_ifF h2 ?_
                        refine mz_go 2 (c' := (15, [some (.int a), some (.int (-100)), some (.int 100)], [.int 1], (mz_i xs Ln))) rfl ?_
                        exact mz_ret rfl
                      refine mz_go 4 (c' := (16, [some (.int a), some (.int b)], [.int 100, .int (-100), .int b], (mz_i xs Ln))) rfl ?_
                      refine mz_do (R := mz_r121) (as := [.int b, .int (-100), .int 100]) (rest := []) (r1 := some (.int 1)) (m1 := (mz_i xs Ln)) rfl ⟨?_, rfl⟩ ?_
                      · refine mz_go 3 (c' := (if b < (-100) then 14 else 5, [some (.int b), some (.int (-100)), some (.int 100)], [], (mz_i xs Ln))) rfl ?_
                        refine mz_ifF h3 ?_
                        refine mz_go 3 (c' := (if 100 < b then 14 else 10, [some (.int b), some (.int (-100)), some (.int 100)], [], (mz_i xs Ln))) rfl ?_
                        refine mz_ifF h4 ?_
                        refine mz_go 2 (c' := (15, [some (.int b), some (.int (-100)), some (.int 100)], [.int 1], (mz_i xs Ln))) rfl ?_
                        exact mz_ret rfl
                      refine mz_go 3 (c' := (27, [some (.int a), some (.int b)], [.int 1], (mz_i xs Ln))) rfl ?_
                      exact mz_ret rfl
                    refine mz_go 4 (c' := (12, [some (.ref 0), some (.int a), some (.int b), some (.int c), some (.int d), none, none, none, none, none], [.int 50, .int 0, .int c], (mz_i xs Ln))) rfl ?_
                    refine mz_do (R := mz_r121) (as := [.int c, .int 0, .int 50]) (rest := []) (r1 := some (.int 1)) (m1 := (mz_i xs Ln)) rfl ⟨?_, rfl⟩ ?_
                    · refine mz_go 3 (c' := (if c < 0 then 14 else 5, [some (.int c), some (.int 0), some (.int 50)], [], (mz_i xs Ln))) rfl ?_
                      refine mz_ifF h5 ?_
                      refine mz_go 3 (c' := (if 50 < c then 14 else 10, [some (.int c), some (.int 0), some (.int 50)], [], (mz_i xs Ln))) rfl ?_
                      refine mz_ifF h6 ?_
                      refine mz_go 2 (c' := (15, [some (.int c), some (.int 0), some (.int 50)], [.int 1], (mz_i xs Ln))) rfl ?_
                      exact mz_ret rfl
                    refine mz_go 4 (c' := (23, [some (.ref 0), some (.int a), some (.int b), some (.int c), some (.int d), none, none, none, none, none], [.int 40, .int 1, .int d], (mz_i xs Ln))) rfl ?_
                    refine mz_do (R := mz_r121) (as := [.int d, .int 1, .int 40]) (rest := []) (r1 := some (.int 0)) (m1 := (mz_i xs Ln)) rfl ⟨?_, rfl⟩ ?_
                    · refine mz_go 3 (c' := (if d < 1 then 14 else 5, [some (.int d), some (.int 1), some (.int 40)], [], (mz_i xs Ln))) rfl ?_
                      refine mz_ifF h7 ?_
                      refine mz_go 3 (c' := (if 40 < d then 14 else 10, [some (.int d), some (.int 1), some (.int 40)], [], (mz_i xs Ln))) rfl ?_
                      refine mz_ifT h8 ?_
                      refine mz_go 1 (c' := (15, [some (.int d), some (.int 1), some (.int 40)], [.int 0], (mz_i xs Ln))) rfl ?_
                      exact mz_ret rfl
                    refine mz_go 3 (c' := (31, [some (.ref 0), some (.int a), some (.int b), some (.int c), some (.int d), none, none, none, none, none], [.int 1, .ref 0], (mz_i xs Ln))) rfl ?_
                    refine mz_do (R := mz_r109) (as := [.ref 0, .int 1]) (rest := []) (r1 := some (.int (-1000001))) (m1 := mz_up (mz_i xs Ln) 64 1 1) rfl ⟨?_, rfl⟩ ?_
                    · refine mz_go 3 (c' := (4, [some (.ref 0), some (.int 1)], [.int 6, .int 1, .int 1], (mz_i xs Ln))) rfl ?_
                      refine mz_do (R := mz_r121) (as := [.int 1, .int 1, .int 6]) (rest := []) (r1 := some (.int 1)) (m1 := (mz_i xs Ln)) rfl ⟨?_, rfl⟩ ?_
                      · refine mz_go 8 (c' := (15, [some (.int 1), some (.int 1), some (.int 6)], [.int 1], (mz_i xs Ln))) rfl ?_
                        exact mz_ret rfl
                      refine mz_go 12 (c' := (25, [some (.ref 0), some (.int 1)], [.int (-1000001)], mz_up (mz_i xs Ln) 64 1 1)) rfl ?_
                      exact mz_ret rfl
                    exact mz_ret rfl
                  · refine mz_go 2 (c' := (2, [some (.ref 65), some (.int a), some (.int b), some (.int c), some (.int d), none, none, none, none, none], [.int b, .int a], mz_up (mz_i xs Ln) 64 1 1)) rfl ?_
                    refine mz_do (R := mz_r131) (as := [.int a, .int b]) (rest := []) (r1 := some (.int 1)) (m1 := mz_up (mz_i xs Ln) 64 1 1) rfl ⟨?_, rfl⟩ ?_
                    · refine mz_go 3 (c' := (5, [some (.int a), some (.int b)], [.int 100, .int (-100), .int a], mz_up (mz_i xs Ln) 64 1 1)) rfl ?_
                      refine mz_do (R := mz_r128) (as := [.int a, .int (-100), .int 100]) (rest := []) (r1 := some (.int 1)) (m1 := mz_up (mz_i xs Ln) 64 1 1) rfl ⟨?_, rfl⟩ ?_
                      · refine mz_go 3 (c' := (if a < (-100) then 14 else 5, [some (.int a), some (.int (-100)), some (.int 100)], [], mz_up (mz_i xs Ln) 64 1 1)) rfl ?_
                        refine mz_ifF h1 ?_
                        refine mz_go 3 (c' := (if 100 < a then 14 else 10, [some (.int a), some (.int (-100)), some (.int 100)], [], mz_up (mz_i xs Ln) 64 1 1)) rfl ?_
                        refine mz_ifF h2 ?_
                        refine mz_go 2 (c' := (15, [some (.int a), some (.int (-100)), some (.int 100)], [.int 1], mz_up (mz_i xs Ln) 64 1 1)) rfl ?_
                        exact mz_ret rfl
                      refine mz_go 4 (c' := (16, [some (.int a), some (.int b)], [.int 100, .int (-100), .int b], mz_up (mz_i xs Ln) 64 1 1)) rfl ?_
                      refine mz_do (R := mz_r128) (as := [.int b, .int (-100), .int 100]) (rest := []) (r1 := some (.int 1)) (m1 := mz_up (mz_i xs Ln) 64 1 1) rfl ⟨?_, rfl⟩ ?_
                      · refine mz_go 3 (c' := (if b < (-100) then 14 else 5, [some (.int b), some (.int (-100)), some (.int 100)], [], mz_up (mz_i xs Ln) 64 1 1)) rfl ?_
                        refine mz_ifF h3 ?_
                        refine mz_go 3 (c' := (if 100 < b then 14 else 10, [some (.int b), some (.int (-100)), some (.int 100)], [], mz_up (mz_i xs Ln) 64 1 1)) rfl ?_
                        refine mz_ifF h4 ?_
                        refine mz_go 2 (c' := (15, [some (.int b), some (.int (-100)), some (.int 100)], [.int 1], mz_up (mz_i xs Ln) 64 1 1)) rfl ?_
                        exact mz_ret rfl
                      refine mz_go 3 (c' := (27, [some (.int a), some (.int b)], [.int 1], mz_up (mz_i xs Ln) 64 1 1)) rfl ?_
                      exact mz_ret rfl
                    refine mz_go 4 (c' := (12, [some (.ref 65), some (.int a), some (.int b), some (.int c), some (.int d), none, none, none, none, none], [.int 50, .int 0, .int c], mz_up (mz_i xs Ln) 64 1 1)) rfl ?_
                    refine mz_do (R := mz_r128) (as := [.int c, .int 0, .int 50]) (rest := []) (r1 := some (.int 1)) (m1 := mz_up (mz_i xs Ln) 64 1 1) rfl ⟨?_, rfl⟩ ?_
                    · refine mz_go 3 (c' := (if c < 0 then 14 else 5, [some (.int c), some (.int 0), some (.int 50)], [], mz_up (mz_i xs Ln) 64 1 1)) rfl ?_
                      refine mz_ifF h5 ?_
                      refine mz_go 3 (c' := (if 50 < c then 14 else 10, [some (.int c), some (.int 0), some (.int 50)], [], mz_up (mz_i xs Ln) 64 1 1)) rfl ?_
                      refine mz_ifF h6 ?_
                      refine mz_go 2 (c' := (15, [some (.int c), some (.int 0), some (.int 50)], [.int 1], mz_up (mz_i xs Ln) 64 1 1)) rfl ?_
                      exact mz_ret rfl
                    refine mz_go 4 (c' := (23, [some (.ref 65), some (.int a), some (.int b), some (.int c), some (.int d), none, none, none, none, none], [.int 40, .int 1, .int d], mz_up (mz_i xs Ln) 64 1 1)) rfl ?_
                    refine mz_do (R := mz_r128) (as := [.int d, .int 1, .int 40]) (rest := []) (r1 := some (.int 0)) (m1 := mz_up (mz_i xs Ln) 64 1 1) rfl ⟨?_, rfl⟩ ?_
                    · refine mz_go 3 (c' := (if d < 1 then 14 else 5, [some (.int d), some (.int 1), some (.int 40)], [], mz_up (mz_i xs Ln) 64 1 1)) rfl ?_
                      refine mz_ifF h7 ?_
                      refine mz_go 3 (c' := (if 40 < d then 14 else 10, [some (.int d), some (.int 1), some (.int 40)], [], mz_up (mz_i xs Ln) 64 1 1)) rfl ?_
                      refine mz_ifT h8 ?_
                      refine mz_go 1 (c' := (15, [some (.int d), some (.int 1), some (.int 40)], [.int 0], mz_up (mz_i xs Ln) 64 1 1)) rfl ?_
                      exact mz_ret rfl
                    refine mz_go 3 (c' := (31, [some (.ref 65), some (.int a), some (.int b), some (.int c), some (.int d), none, none, none, none, none], [.int 1, .ref 65], mz_up (mz_i xs Ln) 64 1 1)) rfl ?_
                    refine mz_do (R := mz_r127) (as := [.ref 65, .int 1]) (rest := []) (r1 := some (.int (-1000001))) (m1 := mz_up (mz_up (mz_i xs Ln) 64 1 1) 68 1 1) rfl ⟨?_, rfl⟩ ?_
                    · refine mz_go 11 (c' := (14, [some (.ref 65), some (.int 1)], [.int (-1000001)], mz_up (mz_up (mz_i xs Ln) 64 1 1) 68 1 1)) rfl ?_
                      exact mz_ret rfl
                    exact mz_ret rfl
                · obtain ⟨mm1, mw1, ms1⟩ := cz_thrown a b c d h7 (mz_up (mz_up (mz_up (mz_up (mz_up (mz_up (mz_up (mz_up (mz_up (mz_up (mz_up (mz_i xs Ln) 23 0 0) 23 1 0) 23 2 0) 23 3 0) 23 4 0) 23 5 0) 23 6 0) 23 7 0) 23 8 0) 23 9 0) 1 9 1) rfl rfl
                  rw [← zf_eq mw1] at ms1
                  obtain ⟨mm2, ms2⟩ := rz_thrown a b c d (rz_dz h5 h6) h7 (mz_up (mz_up (mz_up (mz_up (mz_up (mz_up (mz_up (mz_up (mz_up (mz_up (mz_up (mz_z mm1) 66 150 0) 66 151 0) 66 152 0) 66 153 0) 66 154 0) 66 155 0) 66 156 0) 66 157 0) 66 158 0) 66 159 0) 66 160 1) rfl
                  refine ⟨0, (mz_z mm1), mm2, ⟨?_, rfl⟩, ⟨?_, rfl⟩⟩
                  · refine mz_go 2 (c' := (2, [some (.ref 0), some (.int a), some (.int b), some (.int c), some (.int d), none, none, none, none, none], [.int b, .int a], (mz_i xs Ln))) rfl ?_
                    refine mz_do (R := mz_r116) (as := [.int a, .int b]) (rest := []) (r1 := some (.int 1)) (m1 := (mz_i xs Ln)) rfl ⟨?_, rfl⟩ ?_
                    · refine mz_go 3 (c' := (5, [some (.int a), some (.int b)], [.int 100, .int (-100), .int a], (mz_i xs Ln))) rfl ?_
                      refine mz_do (R := mz_r121) (as := [.int a, .int (-100), .int 100]) (rest := []) (r1 := some (.int 1)) (m1 := (mz_i xs Ln)) rfl ⟨?_, rfl⟩ ?_
                      · refine mz_go 3 (c' := (if a < (-100) then 14 else 5, [some (.int a), some (.int (-100)), some (.int 100)], [], (mz_i xs Ln))) rfl ?_
                        refine mz_ifF h1 ?_
                        refine mz_go 3 (c' := (if 100 < a then 14 else 10, [some (.int a), some (.int (-100)), some (.int 100)], [], (mz_i xs Ln))) rfl ?_
                        refine mz_ifF h2 ?_
                        refine mz_go 2 (c' := (15, [some (.int a), some (.int (-100)), some (.int 100)], [.int 1], (mz_i xs Ln))) rfl ?_
                        exact mz_ret rfl
                      refine mz_go 4 (c' := (16, [some (.int a), some (.int b)], [.int 100, .int (-100), .int b], (mz_i xs Ln))) rfl ?_
                      refine mz_do (R := mz_r121) (as := [.int b, .int (-100), .int 100]) (rest := []) (r1 := some (.int 1)) (m1 := (mz_i xs Ln)) rfl ⟨?_, rfl⟩ ?_
                      · refine mz_go 3 (c' := (if b < (-100) then 14 else 5, [some (.int b), some (.int (-100)), some (.int 100)], [], (mz_i xs Ln))) rfl ?_
                        refine mz_ifF h3 ?_
                        refine mz_go 3 (c' := (if 100 < b then 14 else 10, [some (.int b), some (.int (-100)), some (.int 100)], [], (mz_i xs Ln))) rfl ?_
                        refine mz_ifF h4 ?_
                        refine mz_go 2 (c' := (15, [some (.int b), some (.int (-100)), some (.int 100)], [.int 1], (mz_i xs Ln))) rfl ?_
                        exact mz_ret rfl
                      refine mz_go 3 (c' := (27, [some (.int a), some (.int b)], [.int 1], (mz_i xs Ln))) rfl ?_
                      exact mz_ret rfl
                    refine mz_go 4 (c' := (12, [some (.ref 0), some (.int a), some (.int b), some (.int c), some (.int d), none, none, none, none, none], [.int 50, .int 0, .int c], (mz_i xs Ln))) rfl ?_
                    refine mz_do (R := mz_r121) (as := [.int c, .int 0, .int 50]) (rest := []) (r1 := some (.int 1)) (m1 := (mz_i xs Ln)) rfl ⟨?_, rfl⟩ ?_
                    · refine mz_go 3 (c' := (if c < 0 then 14 else 5, [some (.int c), some (.int 0), some (.int 50)], [], (mz_i xs Ln))) rfl ?_
                      refine mz_ifF h5 ?_
                      refine mz_go 3 (c' := (if 50 < c then 14 else 10, [some (.int c), some (.int 0), some (.int 50)], [], (mz_i xs Ln))) rfl ?_
                      refine mz_ifF h6 ?_
                      refine mz_go 2 (c' := (15, [some (.int c), some (.int 0), some (.int 50)], [.int 1], (mz_i xs Ln))) rfl ?_
                      exact mz_ret rfl
                    refine mz_go 4 (c' := (23, [some (.ref 0), some (.int a), some (.int b), some (.int c), some (.int d), none, none, none, none, none], [.int 40, .int 1, .int d], (mz_i xs Ln))) rfl ?_
                    refine mz_do (R := mz_r121) (as := [.int d, .int 1, .int 40]) (rest := []) (r1 := some (.int 1)) (m1 := (mz_i xs Ln)) rfl ⟨?_, rfl⟩ ?_
                    · refine mz_go 3 (c' := (if d < 1 then 14 else 5, [some (.int d), some (.int 1), some (.int 40)], [], (mz_i xs Ln))) rfl ?_
                      refine mz_ifF h7 ?_
                      refine mz_go 3 (c' := (if 40 < d then 14 else 10, [some (.int d), some (.int 1), some (.int 40)], [], (mz_i xs Ln))) rfl ?_
                      refine mz_ifF h8 ?_
                      refine mz_go 2 (c' := (15, [some (.int d), some (.int 1), some (.int 40)], [.int 1], (mz_i xs Ln))) rfl ?_
                      exact mz_ret rfl
                    refine mz_go 6 (c' := (46, [some (.ref 0), some (.int a), some (.int b), some (.int c), some (.int d), some (.ref 23), none, none, none, none], [.ref 23], (mz_i xs Ln))) rfl ?_
                    refine mz_do (R := mz_r125) (as := [.ref 23]) (rest := []) (r1 := none) (m1 := mz_up (mz_up (mz_up (mz_up (mz_up (mz_up (mz_up (mz_up (mz_up (mz_up (mz_i xs Ln) 23 0 0) 23 1 0) 23 2 0) 23 3 0) 23 4 0) 23 5 0) 23 6 0) 23 7 0) 23 8 0) 23 9 0) rfl ⟨?_, rfl⟩ ?_
                    · refine mz_go 24 (c' := (4, [some (.ref 23), some (.int 2)], [.ref 23, .int 2], mz_up (mz_up (mz_i xs Ln) 23 0 0) 23 1 0)) rfl ?_
                      refine mz_go 24 (c' := (10, [some (.ref 23), some (.int 4)], [.int 4, .ref 23], mz_up (mz_up (mz_up (mz_up (mz_i xs Ln) 23 0 0) 23 1 0) 23 2 0) 23 3 0)) rfl ?_
                      refine mz_go 24 (c' := (2, [some (.ref 23), some (.int 7)], [], mz_up (mz_up (mz_up (mz_up (mz_up (mz_up (mz_up (mz_i xs Ln) 23 0 0) 23 1 0) 23 2 0) 23 3 0) 23 4 0) 23 5 0) 23 6 0)) rfl ?_
                      refine mz_go 24 (c' := (8, [some (.ref 23), some (.int 9)], [], mz_up (mz_up (mz_up (mz_up (mz_up (mz_up (mz_up (mz_up (mz_up (mz_i xs Ln) 23 0 0) 23 1 0) 23 2 0) 23 3 0) 23 4 0) 23 5 0) 23 6 0) 23 7 0) 23 8 0)) rfl ?_
                      refine mz_go 10 (c' := (18, [some (.ref 23), some (.int 10)], [], mz_up (mz_up (mz_up (mz_up (mz_up (mz_up (mz_up (mz_up (mz_up (mz_up (mz_i xs Ln) 23 0 0) 23 1 0) 23 2 0) 23 3 0) 23 4 0) 23 5 0) 23 6 0) 23 7 0) 23 8 0) 23 9 0)) rfl ?_
                      exact mz_ret rfl
                    refine mz_go 6 (c' := (60, [some (.ref 0), some (.int a), some (.int b), some (.int c), some (.int d), some (.ref 23), some (.int 0), none, none, none], [], mz_up (mz_up (mz_up (mz_up (mz_up (mz_up (mz_up (mz_up (mz_up (mz_up (mz_up (mz_i xs Ln) 23 0 0) 23 1 0) 23 2 0) 23 3 0) 23 4 0) 23 5 0) 23 6 0) 23 7 0) 23 8 0) 23 9 0) 1 9 1)) rfl ?_
                    exact (mz_Ex.deep ms1 (by decide))
                  · refine mz_go 2 (c' := (2, [some (.ref 65), some (.int a), some (.int b), some (.int c), some (.int d), none, none, none, none, none], [.int b, .int a], (mz_z mm1))) rfl ?_
                    refine mz_do (R := mz_r131) (as := [.int a, .int b]) (rest := []) (r1 := some (.int 1)) (m1 := (mz_z mm1)) rfl ⟨?_, rfl⟩ ?_
                    · refine mz_go 3 (c' := (5, [some (.int a), some (.int b)], [.int 100, .int (-100), .int a], (mz_z mm1))) rfl ?_
                      refine mz_do (R := mz_r128) (as := [.int a, .int (-100), .int 100]) (rest := []) (r1 := some (.int 1)) (m1 := (mz_z mm1)) rfl ⟨?_, rfl⟩ ?_
                      · refine mz_go 3 (c' := (if a < (-100) then 14 else 5, [some (.int a), some (.int (-100)), some (.int 100)], [], (mz_z mm1))) rfl ?_
                        refine mz_ifF h1 ?_
                        refine mz_go 3 (c' := (if 100 < a then 14 else 10, [some (.int a), some (.int (-100)), some (.int 100)], [], (mz_z mm1))) rfl ?_
                        refine mz_ifF h2 ?_
                        refine mz_go 2 (c' := (15, [some (.int a), some (.int (-100)), some (.int 100)], [.int 1], (mz_z mm1))) rfl ?_
                        exact mz_ret rfl
                      refine mz_go 4 (c' := (16, [some (.int a), some (.int b)], [.int 100, .int (-100), .int b], (mz_z mm1))) rfl ?_
                      refine mz_do (R := mz_r128) (as := [.int b, .int (-100), .int 100]) (rest := []) (r1 := some (.int 1)) (m1 := (mz_z mm1)) rfl ⟨?_, rfl⟩ ?_
                      · refine mz_go 3 (c' := (if b < (-100) then 14 else 5, [some (.int b), some (.int (-100)), some (.int 100)], [], (mz_z mm1))) rfl ?_
                        refine mz_ifF h3 ?_
                        refine mz_go 3 (c' := (if 100 < b then 14 else 10, [some (.int b), some (.int (-100)), some (.int 100)], [], (mz_z mm1))) rfl ?_
                        refine mz_ifF h4 ?_
                        refine mz_go 2 (c' := (15, [some (.int b), some (.int (-100)), some (.int 100)], [.int 1], (mz_z mm1))) rfl ?_
                        exact mz_ret rfl
                      refine mz_go 3 (c' := (27, [some (.int a), some (.int b)], [.int 1], (mz_z mm1))) rfl ?_
                      exact mz_ret rfl
                    refine mz_go 4 (c' := (12, [some (.ref 65), some (.int a), some (.int b), some (.int c), some (.int d), none, none, none, none, none], [.int 50, .int 0, .int c], (mz_z mm1))) rfl ?_
                    refine mz_do (R := mz_r128) (as := [.int c, .int 0, .int 50]) (rest := []) (r1 := some (.int 1)) (m1 := (mz_z mm1)) rfl ⟨?_, rfl⟩ ?_
                    · refine mz_go 3 (c' := (if c < 0 then 14 else 5, [some (.int c), some (.int 0), some (.int 50)], [], (mz_z mm1))) rfl ?_
                      refine mz_ifF h5 ?_
                      refine mz_go 3 (c' := (if 50 < c then 14 else 10, [some (.int c), some (.int 0), some (.int 50)], [], (mz_z mm1))) rfl ?_
                      refine mz_ifF h6 ?_
                      refine mz_go 2 (c' := (15, [some (.int c), some (.int 0), some (.int 50)], [.int 1], (mz_z mm1))) rfl ?_
                      exact mz_ret rfl
                    refine mz_go 4 (c' := (23, [some (.ref 65), some (.int a), some (.int b), some (.int c), some (.int d), none, none, none, none, none], [.int 40, .int 1, .int d], (mz_z mm1))) rfl ?_
                    refine mz_do (R := mz_r128) (as := [.int d, .int 1, .int 40]) (rest := []) (r1 := some (.int 1)) (m1 := (mz_z mm1)) rfl ⟨?_, rfl⟩ ?_
                    · refine mz_go 3 (c' := (if d < 1 then 14 else 5, [some (.int d), some (.int 1), some (.int 40)], [], (mz_z mm1))) rfl ?_
                      refine mz_ifF h7 ?_
                      refine mz_go 3 (c' := (if 40 < d then 14 else 10, [some (.int d), some (.int 1), some (.int 40)], [], (mz_z mm1))) rfl ?_
                      refine mz_ifF h8 ?_
                      refine mz_go 2 (c' := (15, [some (.int d), some (.int 1), some (.int 40)], [.int 1], (mz_z mm1))) rfl ?_
                      exact mz_ret rfl
                    refine mz_go 24 (c' := (56, [some (.ref 65), some (.int a), some (.int b), some (.int c), some (.int d), some (.int 1), none, none, none, none], [.int 0, .int 151, .ref 66], mz_up (mz_z mm1) 66 150 0)) rfl ?_
                    refine mz_go 24 (c' := (56, [some (.ref 65), some (.int a), some (.int b), some (.int c), some (.int d), some (.int 3), none, none, none, none], [.int 0, .int 153, .ref 66], mz_up (mz_up (mz_up (mz_z mm1) 66 150 0) 66 151 0) 66 152 0)) rfl ?_
                    refine mz_go 24 (c' := (56, [some (.ref 65), some (.int a), some (.int b), some (.int c), some (.int d), some (.int 5), none, none, none, none], [.int 0, .int 155, .ref 66], mz_up (mz_up (mz_up (mz_up (mz_up (mz_z mm1) 66 150 0) 66 151 0) 66 152 0) 66 153 0) 66 154 0)) rfl ?_
                    refine mz_go 24 (c' := (56, [some (.ref 65), some (.int a), some (.int b), some (.int c), some (.int d), some (.int 7), none, none, none, none], [.int 0, .int 157, .ref 66], mz_up (mz_up (mz_up (mz_up (mz_up (mz_up (mz_up (mz_z mm1) 66 150 0) 66 151 0) 66 152 0) 66 153 0) 66 154 0) 66 155 0) 66 156 0)) rfl ?_
                    refine mz_go 24 (c' := (56, [some (.ref 65), some (.int a), some (.int b), some (.int c), some (.int d), some (.int 9), none, none, none, none], [.int 0, .int 159, .ref 66], mz_up (mz_up (mz_up (mz_up (mz_up (mz_up (mz_up (mz_up (mz_up (mz_z mm1) 66 150 0) 66 151 0) 66 152 0) 66 153 0) 66 154 0) 66 155 0) 66 156 0) 66 157 0) 66 158 0)) rfl ?_
                    refine mz_go 15 (c' := (78, [some (.ref 65), some (.int a), some (.int b), some (.int c), some (.int d), some (.int 0), some (.int 0), none, none, none], [], mz_up (mz_up (mz_up (mz_up (mz_up (mz_up (mz_up (mz_up (mz_up (mz_up (mz_up (mz_z mm1) 66 150 0) 66 151 0) 66 152 0) 66 153 0) 66 154 0) 66 155 0) 66 156 0) 66 157 0) 66 158 0) 66 159 0) 66 160 1)) rfl ?_
                    exact (mz_Ex.deep ms2 (by decide))
set_option maxHeartbeats 4000000 in
set_option maxRecDepth 100000 in
theorem p1_image (xs : Nat → Int32) (Ln : Nat)  : ∃ v m1 m2, mz_Me 100 mz_r103 [.ref 0] (mz_i xs Ln) (some (.int v)) m1 ∧ mz_Me 100 mz_r224 [.ref 65] m1 (some (.int v)) m2 := by
  obtain ⟨mm1, ms1⟩ := rz_imaged (mz_up (mz_up (mz_up (mz_cp (mz_up (mz_cp (mz_cp (mz_cp (mz_up (mz_up (mz_up (mz_up (mz_up (mz_up (mz_up (mz_up (mz_up (mz_up (mz_up (mz_cp (mz_cp (mz_up (mz_cp (mz_cp (mz_up (mz_cp (mz_cp (mz_up (mz_cp (mz_cp (mz_up (mz_cp (mz_cp (mz_cp (mz_cp (mz_i xs Ln) 27 3 0 0 6) 28 4 0 0 6) 29 5 0 0 6) 30 6 0 0 6) 26 4 0) 31 7 0 0 6) 33 9 0 0 60) 32 1 0) 35 11 0 0 60) 36 12 0 0 60) 34 2 0) 38 14 0 0 60) 39 15 0 0 60) 37 2 0) 41 17 0 0 60) 42 18 0 0 60) 40 2 0) 43 0 0) 43 1 0) 43 2 0) 43 3 0) 43 4 0) 44 0 0) 44 1 0) 44 2 0) 44 3 0) 44 4 0) 45 21 0 0 36) 46 22 0 0 36) 47 23 0 0 10) 25 9 0) 48 24 0 0 24) 25 11 0) 25 12 1) 0 7 1) rfl
  refine ⟨1, mz_up (mz_up (mz_up (mz_cp (mz_up (mz_cp (mz_cp (mz_cp (mz_up (mz_up (mz_up (mz_up (mz_up (mz_up (mz_up (mz_up (mz_up (mz_up (mz_up (mz_cp (mz_cp (mz_up (mz_cp (mz_cp (mz_up (mz_cp (mz_cp (mz_up (mz_cp (mz_cp (mz_up (mz_cp (mz_cp (mz_cp (mz_cp (mz_i xs Ln) 27 3 0 0 6) 28 4 0 0 6) 29 5 0 0 6) 30 6 0 0 6) 26 4 0) 31 7 0 0 6) 33 9 0 0 60) 32 1 0) 35 11 0 0 60) 36 12 0 0 60) 34 2 0) 38 14 0 0 60) 39 15 0 0 60) 37 2 0) 41 17 0 0 60) 42 18 0 0 60) 40 2 0) 43 0 0) 43 1 0) 43 2 0) 43 3 0) 43 4 0) 44 0 0) 44 1 0) 44 2 0) 44 3 0) 44 4 0) 45 21 0 0 36) 46 22 0 0 36) 47 23 0 0 10) 25 9 0) 48 24 0 0 24) 25 11 0) 25 12 1) 0 7 1, mm1, ⟨?_, rfl⟩, ⟨?_, rfl⟩⟩
  · refine mz_go 4 (c' := (8, [some (.ref 0)], [.ref 1, .ref 25], (mz_i xs Ln))) rfl ?_
    refine mz_do (R := mz_r53) (as := [.ref 25, .ref 1]) (rest := []) (r1 := none) (m1 := mz_up (mz_up (mz_cp (mz_up (mz_cp (mz_cp (mz_cp (mz_up (mz_up (mz_up (mz_up (mz_up (mz_up (mz_up (mz_up (mz_up (mz_up (mz_up (mz_cp (mz_cp (mz_up (mz_cp (mz_cp (mz_up (mz_cp (mz_cp (mz_up (mz_cp (mz_cp (mz_up (mz_cp (mz_cp (mz_cp (mz_cp (mz_i xs Ln) 27 3 0 0 6) 28 4 0 0 6) 29 5 0 0 6) 30 6 0 0 6) 26 4 0) 31 7 0 0 6) 33 9 0 0 60) 32 1 0) 35 11 0 0 60) 36 12 0 0 60) 34 2 0) 38 14 0 0 60) 39 15 0 0 60) 37 2 0) 41 17 0 0 60) 42 18 0 0 60) 40 2 0) 43 0 0) 43 1 0) 43 2 0) 43 3 0) 43 4 0) 44 0 0) 44 1 0) 44 2 0) 44 3 0) 44 4 0) 45 21 0 0 36) 46 22 0 0 36) 47 23 0 0 10) 25 9 0) 48 24 0 0 24) 25 11 0) 25 12 1) rfl ⟨?_, rfl⟩ ?_
    · refine mz_go 4 (c' := (8, [some (.ref 25), some (.ref 1)], [.ref 2, .ref 26], (mz_i xs Ln))) rfl ?_
      refine mz_do (R := mz_r27) (as := [.ref 26, .ref 2]) (rest := []) (r1 := none) (m1 := mz_up (mz_cp (mz_cp (mz_cp (mz_cp (mz_i xs Ln) 27 3 0 0 6) 28 4 0 0 6) 29 5 0 0 6) 30 6 0 0 6) 26 4 0) rfl ⟨?_, rfl⟩ ?_
      · refine mz_go 4 (c' := (8, [some (.ref 26), some (.ref 2)], [.ref 27, .ref 3], (mz_i xs Ln))) rfl ?_
        refine mz_do (R := mz_r126) (as := [.ref 3, .ref 27]) (rest := []) (r1 := none) (m1 := mz_cp (mz_i xs Ln) 27 3 0 0 6) rfl ⟨?_, rfl⟩ ?_
        · refine mz_go 10 (c' := (14, [some (.ref 3), some (.ref 27)], [], mz_cp (mz_i xs Ln) 27 3 0 0 6)) rfl ?_
          exact mz_ret rfl
        refine mz_go 4 (c' := (19, [some (.ref 26), some (.ref 2)], [.ref 28, .ref 4], mz_cp (mz_i xs Ln) 27 3 0 0 6)) rfl ?_
        refine mz_do (R := mz_r126) (as := [.ref 4, .ref 28]) (rest := []) (r1 := none) (m1 := mz_cp (mz_cp (mz_i xs Ln) 27 3 0 0 6) 28 4 0 0 6) rfl ⟨?_, rfl⟩ ?_
        · refine mz_go 10 (c' := (14, [some (.ref 4), some (.ref 28)], [], mz_cp (mz_cp (mz_i xs Ln) 27 3 0 0 6) 28 4 0 0 6)) rfl ?_
          exact mz_ret rfl
        refine mz_go 4 (c' := (30, [some (.ref 26), some (.ref 2)], [.ref 29, .ref 5], mz_cp (mz_cp (mz_i xs Ln) 27 3 0 0 6) 28 4 0 0 6)) rfl ?_
        refine mz_do (R := mz_r126) (as := [.ref 5, .ref 29]) (rest := []) (r1 := none) (m1 := mz_cp (mz_cp (mz_cp (mz_i xs Ln) 27 3 0 0 6) 28 4 0 0 6) 29 5 0 0 6) rfl ⟨?_, rfl⟩ ?_
        · refine mz_go 10 (c' := (14, [some (.ref 5), some (.ref 29)], [], mz_cp (mz_cp (mz_cp (mz_i xs Ln) 27 3 0 0 6) 28 4 0 0 6) 29 5 0 0 6)) rfl ?_
          exact mz_ret rfl
        refine mz_go 4 (c' := (41, [some (.ref 26), some (.ref 2)], [.ref 30, .ref 6], mz_cp (mz_cp (mz_cp (mz_i xs Ln) 27 3 0 0 6) 28 4 0 0 6) 29 5 0 0 6)) rfl ?_
        refine mz_do (R := mz_r126) (as := [.ref 6, .ref 30]) (rest := []) (r1 := none) (m1 := mz_cp (mz_cp (mz_cp (mz_cp (mz_i xs Ln) 27 3 0 0 6) 28 4 0 0 6) 29 5 0 0 6) 30 6 0 0 6) rfl ⟨?_, rfl⟩ ?_
        · refine mz_go 10 (c' := (14, [some (.ref 6), some (.ref 30)], [], mz_cp (mz_cp (mz_cp (mz_cp (mz_i xs Ln) 27 3 0 0 6) 28 4 0 0 6) 29 5 0 0 6) 30 6 0 0 6)) rfl ?_
          exact mz_ret rfl
        refine mz_go 4 (c' := (52, [some (.ref 26), some (.ref 2)], [], mz_up (mz_cp (mz_cp (mz_cp (mz_cp (mz_i xs Ln) 27 3 0 0 6) 28 4 0 0 6) 29 5 0 0 6) 30 6 0 0 6) 26 4 0)) rfl ?_
        exact mz_ret rfl
      refine mz_go 4 (c' := (19, [some (.ref 25), some (.ref 1)], [.ref 31, .ref 7], mz_up (mz_cp (mz_cp (mz_cp (mz_cp (mz_i xs Ln) 27 3 0 0 6) 28 4 0 0 6) 29 5 0 0 6) 30 6 0 0 6) 26 4 0)) rfl ?_
      refine mz_do (R := mz_r126) (as := [.ref 7, .ref 31]) (rest := []) (r1 := none) (m1 := mz_cp (mz_up (mz_cp (mz_cp (mz_cp (mz_cp (mz_i xs Ln) 27 3 0 0 6) 28 4 0 0 6) 29 5 0 0 6) 30 6 0 0 6) 26 4 0) 31 7 0 0 6) rfl ⟨?_, rfl⟩ ?_
      · refine mz_go 10 (c' := (14, [some (.ref 7), some (.ref 31)], [], mz_cp (mz_up (mz_cp (mz_cp (mz_cp (mz_cp (mz_i xs Ln) 27 3 0 0 6) 28 4 0 0 6) 29 5 0 0 6) 30 6 0 0 6) 26 4 0) 31 7 0 0 6)) rfl ?_
        exact mz_ret rfl
      refine mz_go 4 (c' := (30, [some (.ref 25), some (.ref 1)], [.ref 8, .ref 32], mz_cp (mz_up (mz_cp (mz_cp (mz_cp (mz_cp (mz_i xs Ln) 27 3 0 0 6) 28 4 0 0 6) 29 5 0 0 6) 30 6 0 0 6) 26 4 0) 31 7 0 0 6)) rfl ?_
      refine mz_do (R := mz_r55) (as := [.ref 32, .ref 8]) (rest := []) (r1 := none) (m1 := mz_up (mz_cp (mz_cp (mz_up (mz_cp (mz_cp (mz_cp (mz_cp (mz_i xs Ln) 27 3 0 0 6) 28 4 0 0 6) 29 5 0 0 6) 30 6 0 0 6) 26 4 0) 31 7 0 0 6) 33 9 0 0 60) 32 1 0) rfl ⟨?_, rfl⟩ ?_
      · refine mz_go 4 (c' := (8, [some (.ref 32), some (.ref 8)], [.ref 33, .ref 9], mz_cp (mz_up (mz_cp (mz_cp (mz_cp (mz_cp (mz_i xs Ln) 27 3 0 0 6) 28 4 0 0 6) 29 5 0 0 6) 30 6 0 0 6) 26 4 0) 31 7 0 0 6)) rfl ?_
        refine mz_do (R := mz_r126) (as := [.ref 9, .ref 33]) (rest := []) (r1 := none) (m1 := mz_cp (mz_cp (mz_up (mz_cp (mz_cp (mz_cp (mz_cp (mz_i xs Ln) 27 3 0 0 6) 28 4 0 0 6) 29 5 0 0 6) 30 6 0 0 6) 26 4 0) 31 7 0 0 6) 33 9 0 0 60) rfl ⟨?_, rfl⟩ ?_
        · refine mz_go 10 (c' := (14, [some (.ref 9), some (.ref 33)], [], mz_cp (mz_cp (mz_up (mz_cp (mz_cp (mz_cp (mz_cp (mz_i xs Ln) 27 3 0 0 6) 28 4 0 0 6) 29 5 0 0 6) 30 6 0 0 6) 26 4 0) 31 7 0 0 6) 33 9 0 0 60)) rfl ?_
          exact mz_ret rfl
        refine mz_go 4 (c' := (19, [some (.ref 32), some (.ref 8)], [], mz_up (mz_cp (mz_cp (mz_up (mz_cp (mz_cp (mz_cp (mz_cp (mz_i xs Ln) 27 3 0 0 6) 28 4 0 0 6) 29 5 0 0 6) 30 6 0 0 6) 26 4 0) 31 7 0 0 6) 33 9 0 0 60) 32 1 0)) rfl ?_
        exact mz_ret rfl
      refine mz_go 4 (c' := (41, [some (.ref 25), some (.ref 1)], [.ref 10, .ref 34], mz_up (mz_cp (mz_cp (mz_up (mz_cp (mz_cp (mz_cp (mz_cp (mz_i xs Ln) 27 3 0 0 6) 28 4 0 0 6) 29 5 0 0 6) 30 6 0 0 6) 26 4 0) 31 7 0 0 6) 33 9 0 0 60) 32 1 0)) rfl ?_
      refine mz_do (R := mz_r59) (as := [.ref 34, .ref 10]) (rest := []) (r1 := none) (m1 := mz_up (mz_cp (mz_cp (mz_up (mz_cp (mz_cp (mz_up (mz_cp (mz_cp (mz_cp (mz_cp (mz_i xs Ln) 27 3 0 0 6) 28 4 0 0 6) 29 5 0 0 6) 30 6 0 0 6) 26 4 0) 31 7 0 0 6) 33 9 0 0 60) 32 1 0) 35 11 0 0 60) 36 12 0 0 60) 34 2 0) rfl ⟨?_, rfl⟩ ?_
      · refine mz_go 4 (c' := (8, [some (.ref 34), some (.ref 10)], [.ref 35, .ref 11], mz_up (mz_cp (mz_cp (mz_up (mz_cp (mz_cp (mz_cp (mz_cp (mz_i xs Ln) 27 3 0 0 6) 28 4 0 0 6) 29 5 0 0 6) 30 6 0 0 6) 26 4 0) 31 7 0 0 6) 33 9 0 0 60) 32 1 0)) rfl ?_
        refine mz_do (R := mz_r126) (as := [.ref 11, .ref 35]) (rest := []) (r1 := none) (m1 := mz_cp (mz_up (mz_cp (mz_cp (mz_up (mz_cp (mz_cp (mz_cp (mz_cp (mz_i xs Ln) 27 3 0 0 6) 28 4 0 0 6) 29 5 0 0 6) 30 6 0 0 6) 26 4 0) 31 7 0 0 6) 33 9 0 0 60) 32 1 0) 35 11 0 0 60) rfl ⟨?_, rfl⟩ ?_
        · refine mz_go 10 (c' := (14, [some (.ref 11), some (.ref 35)], [], mz_cp (mz_up (mz_cp (mz_cp (mz_up (mz_cp (mz_cp (mz_cp (mz_cp (mz_i xs Ln) 27 3 0 0 6) 28 4 0 0 6) 29 5 0 0 6) 30 6 0 0 6) 26 4 0) 31 7 0 0 6) 33 9 0 0 60) 32 1 0) 35 11 0 0 60)) rfl ?_
          exact mz_ret rfl
        refine mz_go 4 (c' := (19, [some (.ref 34), some (.ref 10)], [.ref 36, .ref 12], mz_cp (mz_up (mz_cp (mz_cp (mz_up (mz_cp (mz_cp (mz_cp (mz_cp (mz_i xs Ln) 27 3 0 0 6) 28 4 0 0 6) 29 5 0 0 6) 30 6 0 0 6) 26 4 0) 31 7 0 0 6) 33 9 0 0 60) 32 1 0) 35 11 0 0 60)) rfl ?_
        refine mz_do (R := mz_r126) (as := [.ref 12, .ref 36]) (rest := []) (r1 := none) (m1 := mz_cp (mz_cp (mz_up (mz_cp (mz_cp (mz_up (mz_cp (mz_cp (mz_cp (mz_cp (mz_i xs Ln) 27 3 0 0 6) 28 4 0 0 6) 29 5 0 0 6) 30 6 0 0 6) 26 4 0) 31 7 0 0 6) 33 9 0 0 60) 32 1 0) 35 11 0 0 60) 36 12 0 0 60) rfl ⟨?_, rfl⟩ ?_
        · refine mz_go 10 (c' := (14, [some (.ref 12), some (.ref 36)], [], mz_cp (mz_cp (mz_up (mz_cp (mz_cp (mz_up (mz_cp (mz_cp (mz_cp (mz_cp (mz_i xs Ln) 27 3 0 0 6) 28 4 0 0 6) 29 5 0 0 6) 30 6 0 0 6) 26 4 0) 31 7 0 0 6) 33 9 0 0 60) 32 1 0) 35 11 0 0 60) 36 12 0 0 60)) rfl ?_
          exact mz_ret rfl
        refine mz_go 4 (c' := (30, [some (.ref 34), some (.ref 10)], [], mz_up (mz_cp (mz_cp (mz_up (mz_cp (mz_cp (mz_up (mz_cp (mz_cp (mz_cp (mz_cp (mz_i xs Ln) 27 3 0 0 6) 28 4 0 0 6) 29 5 0 0 6) 30 6 0 0 6) 26 4 0) 31 7 0 0 6) 33 9 0 0 60) 32 1 0) 35 11 0 0 60) 36 12 0 0 60) 34 2 0)) rfl ?_
        exact mz_ret rfl
      refine mz_go 4 (c' := (52, [some (.ref 25), some (.ref 1)], [.ref 13, .ref 37], mz_up (mz_cp (mz_cp (mz_up (mz_cp (mz_cp (mz_up (mz_cp (mz_cp (mz_cp (mz_cp (mz_i xs Ln) 27 3 0 0 6) 28 4 0 0 6) 29 5 0 0 6) 30 6 0 0 6) 26 4 0) 31 7 0 0 6) 33 9 0 0 60) 32 1 0) 35 11 0 0 60) 36 12 0 0 60) 34 2 0)) rfl ?_
      refine mz_do (R := mz_r59) (as := [.ref 37, .ref 13]) (rest := []) (r1 := none) (m1 := mz_up (mz_cp (mz_cp (mz_up (mz_cp (mz_cp (mz_up (mz_cp (mz_cp (mz_up (mz_cp (mz_cp (mz_cp (mz_cp (mz_i xs Ln) 27 3 0 0 6) 28 4 0 0 6) 29 5 0 0 6) 30 6 0 0 6) 26 4 0) 31 7 0 0 6) 33 9 0 0 60) 32 1 0) 35 11 0 0 60) 36 12 0 0 60) 34 2 0) 38 14 0 0 60) 39 15 0 0 60) 37 2 0) rfl ⟨?_, rfl⟩ ?_
      · refine mz_go 4 (c' := (8, [some (.ref 37), some (.ref 13)], [.ref 38, .ref 14], mz_up (mz_cp (mz_cp (mz_up (mz_cp (mz_cp (mz_up (mz_cp (mz_cp (mz_cp (mz_cp (mz_i xs Ln) 27 3 0 0 6) 28 4 0 0 6) 29 5 0 0 6) 30 6 0 0 6) 26 4 0) 31 7 0 0 6) 33 9 0 0 60) 32 1 0) 35 11 0 0 60) 36 12 0 0 60) 34 2 0)) rfl ?_
        refine mz_do (R := mz_r126) (as := [.ref 14, .ref 38]) (rest := []) (r1 := none) (m1 := mz_cp (mz_up (mz_cp (mz_cp (mz_up (mz_cp (mz_cp (mz_up (mz_cp (mz_cp (mz_cp (mz_cp (mz_i xs Ln) 27 3 0 0 6) 28 4 0 0 6) 29 5 0 0 6) 30 6 0 0 6) 26 4 0) 31 7 0 0 6) 33 9 0 0 60) 32 1 0) 35 11 0 0 60) 36 12 0 0 60) 34 2 0) 38 14 0 0 60) rfl ⟨?_, rfl⟩ ?_
        · refine mz_go 10 (c' := (14, [some (.ref 14), some (.ref 38)], [], mz_cp (mz_up (mz_cp (mz_cp (mz_up (mz_cp (mz_cp (mz_up (mz_cp (mz_cp (mz_cp (mz_cp (mz_i xs Ln) 27 3 0 0 6) 28 4 0 0 6) 29 5 0 0 6) 30 6 0 0 6) 26 4 0) 31 7 0 0 6) 33 9 0 0 60) 32 1 0) 35 11 0 0 60) 36 12 0 0 60) 34 2 0) 38 14 0 0 60)) rfl ?_
          exact mz_ret rfl
        refine mz_go 4 (c' := (19, [some (.ref 37), some (.ref 13)], [.ref 39, .ref 15], mz_cp (mz_up (mz_cp (mz_cp (mz_up (mz_cp (mz_cp (mz_up (mz_cp (mz_cp (mz_cp (mz_cp (mz_i xs Ln) 27 3 0 0 6) 28 4 0 0 6) 29 5 0 0 6) 30 6 0 0 6) 26 4 0) 31 7 0 0 6) 33 9 0 0 60) 32 1 0) 35 11 0 0 60) 36 12 0 0 60) 34 2 0) 38 14 0 0 60)) rfl ?_
        refine mz_do (R := mz_r126) (as := [.ref 15, .ref 39]) (rest := []) (r1 := none) (m1 := mz_cp (mz_cp (mz_up (mz_cp (mz_cp (mz_up (mz_cp (mz_cp (mz_up (mz_cp (mz_cp (mz_cp (mz_cp (mz_i xs Ln) 27 3 0 0 6) 28 4 0 0 6) 29 5 0 0 6) 30 6 0 0 6) 26 4 0) 31 7 0 0 6) 33 9 0 0 60) 32 1 0) 35 11 0 0 60) 36 12 0 0 60) 34 2 0) 38 14 0 0 60) 39 15 0 0 60) rfl ⟨?_, rfl⟩ ?_
        · refine mz_go 10 (c' := (14, [some (.ref 15), some (.ref 39)], [], mz_cp (mz_cp (mz_up (mz_cp (mz_cp (mz_up (mz_cp (mz_cp (mz_up (mz_cp (mz_cp (mz_cp (mz_cp (mz_i xs Ln) 27 3 0 0 6) 28 4 0 0 6) 29 5 0 0 6) 30 6 0 0 6) 26 4 0) 31 7 0 0 6) 33 9 0 0 60) 32 1 0) 35 11 0 0 60) 36 12 0 0 60) 34 2 0) 38 14 0 0 60) 39 15 0 0 60)) rfl ?_
          exact mz_ret rfl
        refine mz_go 4 (c' := (30, [some (.ref 37), some (.ref 13)], [], mz_up (mz_cp (mz_cp (mz_up (mz_cp (mz_cp (mz_up (mz_cp (mz_cp (mz_up (mz_cp (mz_cp (mz_cp (mz_cp (mz_i xs Ln) 27 3 0 0 6) 28 4 0 0 6) 29 5 0 0 6) 30 6 0 0 6) 26 4 0) 31 7 0 0 6) 33 9 0 0 60) 32 1 0) 35 11 0 0 60) 36 12 0 0 60) 34 2 0) 38 14 0 0 60) 39 15 0 0 60) 37 2 0)) rfl ?_
        exact mz_ret rfl
      refine mz_go 4 (c' := (63, [some (.ref 25), some (.ref 1)], [.ref 16, .ref 40], mz_up (mz_cp (mz_cp (mz_up (mz_cp (mz_cp (mz_up (mz_cp (mz_cp (mz_up (mz_cp (mz_cp (mz_cp (mz_cp (mz_i xs Ln) 27 3 0 0 6) 28 4 0 0 6) 29 5 0 0 6) 30 6 0 0 6) 26 4 0) 31 7 0 0 6) 33 9 0 0 60) 32 1 0) 35 11 0 0 60) 36 12 0 0 60) 34 2 0) 38 14 0 0 60) 39 15 0 0 60) 37 2 0)) rfl ?_
      refine mz_do (R := mz_r59) (as := [.ref 40, .ref 16]) (rest := []) (r1 := none) (m1 := mz_up (mz_cp (mz_cp (mz_up (mz_cp (mz_cp (mz_up (mz_cp (mz_cp (mz_up (mz_cp (mz_cp (mz_up (mz_cp (mz_cp (mz_cp (mz_cp (mz_i xs Ln) 27 3 0 0 6) 28 4 0 0 6) 29 5 0 0 6) 30 6 0 0 6) 26 4 0) 31 7 0 0 6) 33 9 0 0 60) 32 1 0) 35 11 0 0 60) 36 12 0 0 60) 34 2 0) 38 14 0 0 60) 39 15 0 0 60) 37 2 0) 41 17 0 0 60) 42 18 0 0 60) 40 2 0) rfl ⟨?_, rfl⟩ ?_
      · refine mz_go 4 (c' := (8, [some (.ref 40), some (.ref 16)], [.ref 41, .ref 17], mz_up (mz_cp (mz_cp (mz_up (mz_cp (mz_cp (mz_up (mz_cp (mz_cp (mz_up (mz_cp (mz_cp (mz_cp (mz_cp (mz_i xs Ln) 27 3 0 0 6) 28 4 0 0 6) 29 5 0 0 6) 30 6 0 0 6) 26 4 0) 31 7 0 0 6) 33 9 0 0 60) 32 1 0) 35 11 0 0 60) 36 12 0 0 60) 34 2 0) 38 14 0 0 60) 39 15 0 0 60) 37 2 0)) rfl ?_
        refine mz_do (R := mz_r126) (as := [.ref 17, .ref 41]) (rest := []) (r1 := none) (m1 := mz_cp (mz_up (mz_cp (mz_cp (mz_up (mz_cp (mz_cp (mz_up (mz_cp (mz_cp (mz_up (mz_cp (mz_cp (mz_cp (mz_cp (mz_i xs Ln) 27 3 0 0 6) 28 4 0 0 6) 29 5 0 0 6) 30 6 0 0 6) 26 4 0) 31 7 0 0 6) 33 9 0 0 60) 32 1 0) 35 11 0 0 60) 36 12 0 0 60) 34 2 0) 38 14 0 0 60) 39 15 0 0 60) 37 2 0) 41 17 0 0 60) rfl ⟨?_, rfl⟩ ?_
        · refine mz_go 10 (c' := (14, [some (.ref 17), some (.ref 41)], [], mz_cp (mz_up (mz_cp (mz_cp (mz_up (mz_cp (mz_cp (mz_up (mz_cp (mz_cp (mz_up (mz_cp (mz_cp (mz_cp (mz_cp (mz_i xs Ln) 27 3 0 0 6) 28 4 0 0 6) 29 5 0 0 6) 30 6 0 0 6) 26 4 0) 31 7 0 0 6) 33 9 0 0 60) 32 1 0) 35 11 0 0 60) 36 12 0 0 60) 34 2 0) 38 14 0 0 60) 39 15 0 0 60) 37 2 0) 41 17 0 0 60)) rfl ?_
          exact mz_ret rfl
        refine mz_go 4 (c' := (19, [some (.ref 40), some (.ref 16)], [.ref 42, .ref 18], mz_cp (mz_up (mz_cp (mz_cp (mz_up (mz_cp (mz_cp (mz_up (mz_cp (mz_cp (mz_up (mz_cp (mz_cp (mz_cp (mz_cp (mz_i xs Ln) 27 3 0 0 6) 28 4 0 0 6) 29 5 0 0 6) 30 6 0 0 6) 26 4 0) 31 7 0 0 6) 33 9 0 0 60) 32 1 0) 35 11 0 0 60) 36 12 0 0 60) 34 2 0) 38 14 0 0 60) 39 15 0 0 60) 37 2 0) 41 17 0 0 60)) rfl ?_
        refine mz_do (R := mz_r126) (as := [.ref 18, .ref 42]) (rest := []) (r1 := none) (m1 := mz_cp (mz_cp (mz_up (mz_cp (mz_cp (mz_up (mz_cp (mz_cp (mz_up (mz_cp (mz_cp (mz_up (mz_cp (mz_cp (mz_cp (mz_cp (mz_i xs Ln) 27 3 0 0 6) 28 4 0 0 6) 29 5 0 0 6) 30 6 0 0 6) 26 4 0) 31 7 0 0 6) 33 9 0 0 60) 32 1 0) 35 11 0 0 60) 36 12 0 0 60) 34 2 0) 38 14 0 0 60) 39 15 0 0 60) 37 2 0) 41 17 0 0 60) 42 18 0 0 60) rfl ⟨?_, rfl⟩ ?_
        · refine mz_go 10 (c' := (14, [some (.ref 18), some (.ref 42)], [], mz_cp (mz_cp (mz_up (mz_cp (mz_cp (mz_up (mz_cp (mz_cp (mz_up (mz_cp (mz_cp (mz_up (mz_cp (mz_cp (mz_cp (mz_cp (mz_i xs Ln) 27 3 0 0 6) 28 4 0 0 6) 29 5 0 0 6) 30 6 0 0 6) 26 4 0) 31 7 0 0 6) 33 9 0 0 60) 32 1 0) 35 11 0 0 60) 36 12 0 0 60) 34 2 0) 38 14 0 0 60) 39 15 0 0 60) 37 2 0) 41 17 0 0 60) 42 18 0 0 60)) rfl ?_
          exact mz_ret rfl
        refine mz_go 4 (c' := (30, [some (.ref 40), some (.ref 16)], [], mz_up (mz_cp (mz_cp (mz_up (mz_cp (mz_cp (mz_up (mz_cp (mz_cp (mz_up (mz_cp (mz_cp (mz_up (mz_cp (mz_cp (mz_cp (mz_cp (mz_i xs Ln) 27 3 0 0 6) 28 4 0 0 6) 29 5 0 0 6) 30 6 0 0 6) 26 4 0) 31 7 0 0 6) 33 9 0 0 60) 32 1 0) 35 11 0 0 60) 36 12 0 0 60) 34 2 0) 38 14 0 0 60) 39 15 0 0 60) 37 2 0) 41 17 0 0 60) 42 18 0 0 60) 40 2 0)) rfl ?_
        exact mz_ret rfl
      refine mz_go 4 (c' := (74, [some (.ref 25), some (.ref 1)], [.ref 19, .ref 43], mz_up (mz_cp (mz_cp (mz_up (mz_cp (mz_cp (mz_up (mz_cp (mz_cp (mz_up (mz_cp (mz_cp (mz_up (mz_cp (mz_cp (mz_cp (mz_cp (mz_i xs Ln) 27 3 0 0 6) 28 4 0 0 6) 29 5 0 0 6) 30 6 0 0 6) 26 4 0) 31 7 0 0 6) 33 9 0 0 60) 32 1 0) 35 11 0 0 60) 36 12 0 0 60) 34 2 0) 38 14 0 0 60) 39 15 0 0 60) 37 2 0) 41 17 0 0 60) 42 18 0 0 60) 40 2 0)) rfl ?_
      refine mz_do (R := mz_r1) (as := [.ref 43, .ref 19]) (rest := []) (r1 := none) (m1 := mz_up (mz_up (mz_up (mz_up (mz_up (mz_up (mz_cp (mz_cp (mz_up (mz_cp (mz_cp (mz_up (mz_cp (mz_cp (mz_up (mz_cp (mz_cp (mz_up (mz_cp (mz_cp (mz_cp (mz_cp (mz_i xs Ln) 27 3 0 0 6) 28 4 0 0 6) 29 5 0 0 6) 30 6 0 0 6) 26 4 0) 31 7 0 0 6) 33 9 0 0 60) 32 1 0) 35 11 0 0 60) 36 12 0 0 60) 34 2 0) 38 14 0 0 60) 39 15 0 0 60) 37 2 0) 41 17 0 0 60) 42 18 0 0 60) 40 2 0) 43 0 0) 43 1 0) 43 2 0) 43 3 0) 43 4 0) rfl ⟨?_, rfl⟩ ?_
      · refine mz_go 20 (c' := (40, [some (.ref 43), some (.ref 19)], [], mz_up (mz_up (mz_up (mz_up (mz_up (mz_up (mz_cp (mz_cp (mz_up (mz_cp (mz_cp (mz_up (mz_cp (mz_cp (mz_up (mz_cp (mz_cp (mz_up (mz_cp (mz_cp (mz_cp (mz_cp (mz_i xs Ln) 27 3 0 0 6) 28 4 0 0 6) 29 5 0 0 6) 30 6 0 0 6) 26 4 0) 31 7 0 0 6) 33 9 0 0 60) 32 1 0) 35 11 0 0 60) 36 12 0 0 60) 34 2 0) 38 14 0 0 60) 39 15 0 0 60) 37 2 0) 41 17 0 0 60) 42 18 0 0 60) 40 2 0) 43 0 0) 43 1 0) 43 2 0) 43 3 0) 43 4 0)) rfl ?_
        exact mz_ret rfl
      refine mz_go 4 (c' := (85, [some (.ref 25), some (.ref 1)], [.ref 20, .ref 44], mz_up (mz_up (mz_up (mz_up (mz_up (mz_up (mz_cp (mz_cp (mz_up (mz_cp (mz_cp (mz_up (mz_cp (mz_cp (mz_up (mz_cp (mz_cp (mz_up (mz_cp (mz_cp (mz_cp (mz_cp (mz_i xs Ln) 27 3 0 0 6) 28 4 0 0 6) 29 5 0 0 6) 30 6 0 0 6) 26 4 0) 31 7 0 0 6) 33 9 0 0 60) 32 1 0) 35 11 0 0 60) 36 12 0 0 60) 34 2 0) 38 14 0 0 60) 39 15 0 0 60) 37 2 0) 41 17 0 0 60) 42 18 0 0 60) 40 2 0) 43 0 0) 43 1 0) 43 2 0) 43 3 0) 43 4 0)) rfl ?_
      refine mz_do (R := mz_r20) (as := [.ref 44, .ref 20]) (rest := []) (r1 := none) (m1 := mz_cp (mz_cp (mz_up (mz_up (mz_up (mz_up (mz_up (mz_up (mz_up (mz_up (mz_up (mz_up (mz_up (mz_cp (mz_cp (mz_up (mz_cp (mz_cp (mz_up (mz_cp (mz_cp (mz_up (mz_cp (mz_cp (mz_up (mz_cp (mz_cp (mz_cp (mz_cp (mz_i xs Ln) 27 3 0 0 6) 28 4 0 0 6) 29 5 0 0 6) 30 6 0 0 6) 26 4 0) 31 7 0 0 6) 33 9 0 0 60) 32 1 0) 35 11 0 0 60) 36 12 0 0 60) 34 2 0) 38 14 0 0 60) 39 15 0 0 60) 37 2 0) 41 17 0 0 60) 42 18 0 0 60) 40 2 0) 43 0 0) 43 1 0) 43 2 0) 43 3 0) 43 4 0) 44 0 0) 44 1 0) 44 2 0) 44 3 0) 44 4 0) 45 21 0 0 36) 46 22 0 0 36) rfl ⟨?_, rfl⟩ ?_
      · refine mz_go 11 (c' := (21, [some (.ref 44), some (.ref 20)], [.int 0, .int 0, .int 0, .int 0, .int 0, .ref 44], mz_up (mz_up (mz_up (mz_up (mz_up (mz_up (mz_cp (mz_cp (mz_up (mz_cp (mz_cp (mz_up (mz_cp (mz_cp (mz_up (mz_cp (mz_cp (mz_up (mz_cp (mz_cp (mz_cp (mz_cp (mz_i xs Ln) 27 3 0 0 6) 28 4 0 0 6) 29 5 0 0 6) 30 6 0 0 6) 26 4 0) 31 7 0 0 6) 33 9 0 0 60) 32 1 0) 35 11 0 0 60) 36 12 0 0 60) 34 2 0) 38 14 0 0 60) 39 15 0 0 60) 37 2 0) 41 17 0 0 60) 42 18 0 0 60) 40 2 0) 43 0 0) 43 1 0) 43 2 0) 43 3 0) 43 4 0)) rfl ?_
        refine mz_do (R := mz_r5) (as := [.ref 44, .int 0, .int 0, .int 0, .int 0, .int 0]) (rest := []) (r1 := none) (m1 := mz_up (mz_up (mz_up (mz_up (mz_up (mz_up (mz_up (mz_up (mz_up (mz_up (mz_up (mz_cp (mz_cp (mz_up (mz_cp (mz_cp (mz_up (mz_cp (mz_cp (mz_up (mz_cp (mz_cp (mz_up (mz_cp (mz_cp (mz_cp (mz_cp (mz_i xs Ln) 27 3 0 0 6) 28 4 0 0 6) 29 5 0 0 6) 30 6 0 0 6) 26 4 0) 31 7 0 0 6) 33 9 0 0 60) 32 1 0) 35 11 0 0 60) 36 12 0 0 60) 34 2 0) 38 14 0 0 60) 39 15 0 0 60) 37 2 0) 41 17 0 0 60) 42 18 0 0 60) 40 2 0) 43 0 0) 43 1 0) 43 2 0) 43 3 0) 43 4 0) 44 0 0) 44 1 0) 44 2 0) 44 3 0) 44 4 0) rfl ⟨?_, rfl⟩ ?_
        · refine mz_go 15 (c' := (27, [some (.ref 44), some (.int 0), some (.int 0), some (.int 0), some (.int 0), some (.int 0)], [], mz_up (mz_up (mz_up (mz_up (mz_up (mz_up (mz_up (mz_up (mz_up (mz_up (mz_up (mz_cp (mz_cp (mz_up (mz_cp (mz_cp (mz_up (mz_cp (mz_cp (mz_up (mz_cp (mz_cp (mz_up (mz_cp (mz_cp (mz_cp (mz_cp (mz_i xs Ln) 27 3 0 0 6) 28 4 0 0 6) 29 5 0 0 6) 30 6 0 0 6) 26 4 0) 31 7 0 0 6) 33 9 0 0 60) 32 1 0) 35 11 0 0 60) 36 12 0 0 60) 34 2 0) 38 14 0 0 60) 39 15 0 0 60) 37 2 0) 41 17 0 0 60) 42 18 0 0 60) 40 2 0) 43 0 0) 43 1 0) 43 2 0) 43 3 0) 43 4 0) 44 0 0) 44 1 0) 44 2 0) 44 3 0) 44 4 0)) rfl ?_
          exact mz_ret rfl
        refine mz_go 4 (c' := (32, [some (.ref 44), some (.ref 20)], [.ref 45, .ref 21], mz_up (mz_up (mz_up (mz_up (mz_up (mz_up (mz_up (mz_up (mz_up (mz_up (mz_up (mz_cp (mz_cp (mz_up (mz_cp (mz_cp (mz_up (mz_cp (mz_cp (mz_up (mz_cp (mz_cp (mz_up (mz_cp (mz_cp (mz_cp (mz_cp (mz_i xs Ln) 27 3 0 0 6) 28 4 0 0 6) 29 5 0 0 6) 30 6 0 0 6) 26 4 0) 31 7 0 0 6) 33 9 0 0 60) 32 1 0) 35 11 0 0 60) 36 12 0 0 60) 34 2 0) 38 14 0 0 60) 39 15 0 0 60) 37 2 0) 41 17 0 0 60) 42 18 0 0 60) 40 2 0) 43 0 0) 43 1 0) 43 2 0) 43 3 0) 43 4 0) 44 0 0) 44 1 0) 44 2 0) 44 3 0) 44 4 0)) rfl ?_
        refine mz_do (R := mz_r126) (as := [.ref 21, .ref 45]) (rest := []) (r1 := none) (m1 := mz_cp (mz_up (mz_up (mz_up (mz_up (mz_up (mz_up (mz_up (mz_up (mz_up (mz_up (mz_up (mz_cp (mz_cp (mz_up (mz_cp (mz_cp (mz_up (mz_cp (mz_cp (mz_up (mz_cp (mz_cp (mz_up (mz_cp (mz_cp (mz_cp (mz_cp (mz_i xs Ln) 27 3 0 0 6) 28 4 0 0 6) 29 5 0 0 6) 30 6 0 0 6) 26 4 0) 31 7 0 0 6) 33 9 0 0 60) 32 1 0) 35 11 0 0 60) 36 12 0 0 60) 34 2 0) 38 14 0 0 60) 39 15 0 0 60) 37 2 0) 41 17 0 0 60) 42 18 0 0 60) 40 2 0) 43 0 0) 43 1 0) 43 2 0) 43 3 0) 43 4 0) 44 0 0) 44 1 0) 44 2 0) 44 3 0) 44 4 0) 45 21 0 0 36) rfl ⟨?_, rfl⟩ ?_
        · refine mz_go 10 (c' := (14, [some (.ref 21), some (.ref 45)], [], mz_cp (mz_up (mz_up (mz_up (mz_up (mz_up (mz_up (mz_up (mz_up (mz_up (mz_up (mz_up (mz_cp (mz_cp (mz_up (mz_cp (mz_cp (mz_up (mz_cp (mz_cp (mz_up (mz_cp (mz_cp (mz_up (mz_cp (mz_cp (mz_cp (mz_cp (mz_i xs Ln) 27 3 0 0 6) 28 4 0 0 6) 29 5 0 0 6) 30 6 0 0 6) 26 4 0) 31 7 0 0 6) 33 9 0 0 60) 32 1 0) 35 11 0 0 60) 36 12 0 0 60) 34 2 0) 38 14 0 0 60) 39 15 0 0 60) 37 2 0) 41 17 0 0 60) 42 18 0 0 60) 40 2 0) 43 0 0) 43 1 0) 43 2 0) 43 3 0) 43 4 0) 44 0 0) 44 1 0) 44 2 0) 44 3 0) 44 4 0) 45 21 0 0 36)) rfl ?_
          exact mz_ret rfl
        refine mz_go 4 (c' := (43, [some (.ref 44), some (.ref 20)], [.ref 46, .ref 22], mz_cp (mz_up (mz_up (mz_up (mz_up (mz_up (mz_up (mz_up (mz_up (mz_up (mz_up (mz_up (mz_cp (mz_cp (mz_up (mz_cp (mz_cp (mz_up (mz_cp (mz_cp (mz_up (mz_cp (mz_cp (mz_up (mz_cp (mz_cp (mz_cp (mz_cp (mz_i xs Ln) 27 3 0 0 6) 28 4 0 0 6) 29 5 0 0 6) 30 6 0 0 6) 26 4 0) 31 7 0 0 6) 33 9 0 0 60) 32 1 0) 35 11 0 0 60) 36 12 0 0 60) 34 2 0) 38 14 0 0 60) 39 15 0 0 60) 37 2 0) 41 17 0 0 60) 42 18 0 0 60) 40 2 0) 43 0 0) 43 1 0) 43 2 0) 43 3 0) 43 4 0) 44 0 0) 44 1 0) 44 2 0) 44 3 0) 44 4 0) 45 21 0 0 36)) rfl ?_
        refine mz_do (R := mz_r126) (as := [.ref 22, .ref 46]) (rest := []) (r1 := none) (m1 := mz_cp (mz_cp (mz_up (mz_up (mz_up (mz_up (mz_up (mz_up (mz_up (mz_up (mz_up (mz_up (mz_up (mz_cp (mz_cp (mz_up (mz_cp (mz_cp (mz_up (mz_cp (mz_cp (mz_up (mz_cp (mz_cp (mz_up (mz_cp (mz_cp (mz_cp (mz_cp (mz_i xs Ln) 27 3 0 0 6) 28 4 0 0 6) 29 5 0 0 6) 30 6 0 0 6) 26 4 0) 31 7 0 0 6) 33 9 0 0 60) 32 1 0) 35 11 0 0 60) 36 12 0 0 60) 34 2 0) 38 14 0 0 60) 39 15 0 0 60) 37 2 0) 41 17 0 0 60) 42 18 0 0 60) 40 2 0) 43 0 0) 43 1 0) 43 2 0) 43 3 0) 43 4 0) 44 0 0) 44 1 0) 44 2 0) 44 3 0) 44 4 0) 45 21 0 0 36) 46 22 0 0 36) rfl ⟨?_, rfl⟩ ?_
        · refine mz_go 10 (c' := (14, [some (.ref 22), some (.ref 46)], [], mz_cp (mz_cp (mz_up (mz_up (mz_up (mz_up (mz_up (mz_up (mz_up (mz_up (mz_up (mz_up (mz_up (mz_cp (mz_cp (mz_up (mz_cp (mz_cp (mz_up (mz_cp (mz_cp (mz_up (mz_cp (mz_cp (mz_up (mz_cp (mz_cp (mz_cp (mz_cp (mz_i xs Ln) 27 3 0 0 6) 28 4 0 0 6) 29 5 0 0 6) 30 6 0 0 6) 26 4 0) 31 7 0 0 6) 33 9 0 0 60) 32 1 0) 35 11 0 0 60) 36 12 0 0 60) 34 2 0) 38 14 0 0 60) 39 15 0 0 60) 37 2 0) 41 17 0 0 60) 42 18 0 0 60) 40 2 0) 43 0 0) 43 1 0) 43 2 0) 43 3 0) 43 4 0) 44 0 0) 44 1 0) 44 2 0) 44 3 0) 44 4 0) 45 21 0 0 36) 46 22 0 0 36)) rfl ?_
          exact mz_ret rfl
        exact mz_ret rfl
      refine mz_go 4 (c' := (96, [some (.ref 25), some (.ref 1)], [.ref 47, .ref 23], mz_cp (mz_cp (mz_up (mz_up (mz_up (mz_up (mz_up (mz_up (mz_up (mz_up (mz_up (mz_up (mz_up (mz_cp (mz_cp (mz_up (mz_cp (mz_cp (mz_up (mz_cp (mz_cp (mz_up (mz_cp (mz_cp (mz_up (mz_cp (mz_cp (mz_cp (mz_cp (mz_i xs Ln) 27 3 0 0 6) 28 4 0 0 6) 29 5 0 0 6) 30 6 0 0 6) 26 4 0) 31 7 0 0 6) 33 9 0 0 60) 32 1 0) 35 11 0 0 60) 36 12 0 0 60) 34 2 0) 38 14 0 0 60) 39 15 0 0 60) 37 2 0) 41 17 0 0 60) 42 18 0 0 60) 40 2 0) 43 0 0) 43 1 0) 43 2 0) 43 3 0) 43 4 0) 44 0 0) 44 1 0) 44 2 0) 44 3 0) 44 4 0) 45 21 0 0 36) 46 22 0 0 36)) rfl ?_
      refine mz_do (R := mz_r126) (as := [.ref 23, .ref 47]) (rest := []) (r1 := none) (m1 := mz_cp (mz_cp (mz_cp (mz_up (mz_up (mz_up (mz_up (mz_up (mz_up (mz_up (mz_up (mz_up (mz_up (mz_up (mz_cp (mz_cp (mz_up (mz_cp (mz_cp (mz_up (mz_cp (mz_cp (mz_up (mz_cp (mz_cp (mz_up (mz_cp (mz_cp (mz_cp (mz_cp (mz_i xs Ln) 27 3 0 0 6) 28 4 0 0 6) 29 5 0 0 6) 30 6 0 0 6) 26 4 0) 31 7 0 0 6) 33 9 0 0 60) 32 1 0) 35 11 0 0 60) 36 12 0 0 60) 34 2 0) 38 14 0 0 60) 39 15 0 0 60) 37 2 0) 41 17 0 0 60) 42 18 0 0 60) 40 2 0) 43 0 0) 43 1 0) 43 2 0) 43 3 0) 43 4 0) 44 0 0) 44 1 0) 44 2 0) 44 3 0) 44 4 0) 45 21 0 0 36) 46 22 0 0 36) 47 23 0 0 10) rfl ⟨?_, rfl⟩ ?_
      · refine mz_go 10 (c' := (14, [some (.ref 23), some (.ref 47)], [], mz_cp (mz_cp (mz_cp (mz_up (mz_up (mz_up (mz_up (mz_up (mz_up (mz_up (mz_up (mz_up (mz_up (mz_up (mz_cp (mz_cp (mz_up (mz_cp (mz_cp (mz_up (mz_cp (mz_cp (mz_up (mz_cp (mz_cp (mz_up (mz_cp (mz_cp (mz_cp (mz_cp (mz_i xs Ln) 27 3 0 0 6) 28 4 0 0 6) 29 5 0 0 6) 30 6 0 0 6) 26 4 0) 31 7 0 0 6) 33 9 0 0 60) 32 1 0) 35 11 0 0 60) 36 12 0 0 60) 34 2 0) 38 14 0 0 60) 39 15 0 0 60) 37 2 0) 41 17 0 0 60) 42 18 0 0 60) 40 2 0) 43 0 0) 43 1 0) 43 2 0) 43 3 0) 43 4 0) 44 0 0) 44 1 0) 44 2 0) 44 3 0) 44 4 0) 45 21 0 0 36) 46 22 0 0 36) 47 23 0 0 10)) rfl ?_
        exact mz_ret rfl
      refine mz_go 8 (c' := (115, [some (.ref 25), some (.ref 1)], [.ref 48, .ref 24], mz_up (mz_cp (mz_cp (mz_cp (mz_up (mz_up (mz_up (mz_up (mz_up (mz_up (mz_up (mz_up (mz_up (mz_up (mz_up (mz_cp (mz_cp (mz_up (mz_cp (mz_cp (mz_up (mz_cp (mz_cp (mz_up (mz_cp (mz_cp (mz_up (mz_cp (mz_cp (mz_cp (mz_cp (mz_i xs Ln) 27 3 0 0 6) 28 4 0 0 6) 29 5 0 0 6) 30 6 0 0 6) 26 4 0) 31 7 0 0 6) 33 9 0 0 60) 32 1 0) 35 11 0 0 60) 36 12 0 0 60) 34 2 0) 38 14 0 0 60) 39 15 0 0 60) 37 2 0) 41 17 0 0 60) 42 18 0 0 60) 40 2 0) 43 0 0) 43 1 0) 43 2 0) 43 3 0) 43 4 0) 44 0 0) 44 1 0) 44 2 0) 44 3 0) 44 4 0) 45 21 0 0 36) 46 22 0 0 36) 47 23 0 0 10) 25 9 0)) rfl ?_
      refine mz_do (R := mz_r126) (as := [.ref 24, .ref 48]) (rest := []) (r1 := none) (m1 := mz_cp (mz_up (mz_cp (mz_cp (mz_cp (mz_up (mz_up (mz_up (mz_up (mz_up (mz_up (mz_up (mz_up (mz_up (mz_up (mz_up (mz_cp (mz_cp (mz_up (mz_cp (mz_cp (mz_up (mz_cp (mz_cp (mz_up (mz_cp (mz_cp (mz_up (mz_cp (mz_cp (mz_cp (mz_cp (mz_i xs Ln) 27 3 0 0 6) 28 4 0 0 6) 29 5 0 0 6) 30 6 0 0 6) 26 4 0) 31 7 0 0 6) 33 9 0 0 60) 32 1 0) 35 11 0 0 60) 36 12 0 0 60) 34 2 0) 38 14 0 0 60) 39 15 0 0 60) 37 2 0) 41 17 0 0 60) 42 18 0 0 60) 40 2 0) 43 0 0) 43 1 0) 43 2 0) 43 3 0) 43 4 0) 44 0 0) 44 1 0) 44 2 0) 44 3 0) 44 4 0) 45 21 0 0 36) 46 22 0 0 36) 47 23 0 0 10) 25 9 0) 48 24 0 0 24) rfl ⟨?_, rfl⟩ ?_
      · refine mz_go 10 (c' := (14, [some (.ref 24), some (.ref 48)], [], mz_cp (mz_up (mz_cp (mz_cp (mz_cp (mz_up (mz_up (mz_up (mz_up (mz_up (mz_up (mz_up (mz_up (mz_up (mz_up (mz_up (mz_cp (mz_cp (mz_up (mz_cp (mz_cp (mz_up (mz_cp (mz_cp (mz_up (mz_cp (mz_cp (mz_up (mz_cp (mz_cp (mz_cp (mz_cp (mz_i xs Ln) 27 3 0 0 6) 28 4 0 0 6) 29 5 0 0 6) 30 6 0 0 6) 26 4 0) 31 7 0 0 6) 33 9 0 0 60) 32 1 0) 35 11 0 0 60) 36 12 0 0 60) 34 2 0) 38 14 0 0 60) 39 15 0 0 60) 37 2 0) 41 17 0 0 60) 42 18 0 0 60) 40 2 0) 43 0 0) 43 1 0) 43 2 0) 43 3 0) 43 4 0) 44 0 0) 44 1 0) 44 2 0) 44 3 0) 44 4 0) 45 21 0 0 36) 46 22 0 0 36) 47 23 0 0 10) 25 9 0) 48 24 0 0 24)) rfl ?_
        exact mz_ret rfl
      refine mz_go 8 (c' := (134, [some (.ref 25), some (.ref 1)], [], mz_up (mz_up (mz_cp (mz_up (mz_cp (mz_cp (mz_cp (mz_up (mz_up (mz_up (mz_up (mz_up (mz_up (mz_up (mz_up (mz_up (mz_up (mz_up (mz_cp (mz_cp (mz_up (mz_cp (mz_cp (mz_up (mz_cp (mz_cp (mz_up (mz_cp (mz_cp (mz_up (mz_cp (mz_cp (mz_cp (mz_cp (mz_i xs Ln) 27 3 0 0 6) 28 4 0 0 6) 29 5 0 0 6) 30 6 0 0 6) 26 4 0) 31 7 0 0 6) 33 9 0 0 60) 32 1 0) 35 11 0 0 60) 36 12 0 0 60) 34 2 0) 38 14 0 0 60) 39 15 0 0 60) 37 2 0) 41 17 0 0 60) 42 18 0 0 60) 40 2 0) 43 0 0) 43 1 0) 43 2 0) 43 3 0) 43 4 0) 44 0 0) 44 1 0) 44 2 0) 44 3 0) 44 4 0) 45 21 0 0 36) 46 22 0 0 36) 47 23 0 0 10) 25 9 0) 48 24 0 0 24) 25 11 0) 25 12 1)) rfl ?_
      exact mz_ret rfl
    refine mz_go 8 (c' := (25, [some (.ref 0)], [.int 1], mz_up (mz_up (mz_up (mz_cp (mz_up (mz_cp (mz_cp (mz_cp (mz_up (mz_up (mz_up (mz_up (mz_up (mz_up (mz_up (mz_up (mz_up (mz_up (mz_up (mz_cp (mz_cp (mz_up (mz_cp (mz_cp (mz_up (mz_cp (mz_cp (mz_up (mz_cp (mz_cp (mz_up (mz_cp (mz_cp (mz_cp (mz_cp (mz_i xs Ln) 27 3 0 0 6) 28 4 0 0 6) 29 5 0 0 6) 30 6 0 0 6) 26 4 0) 31 7 0 0 6) 33 9 0 0 60) 32 1 0) 35 11 0 0 60) 36 12 0 0 60) 34 2 0) 38 14 0 0 60) 39 15 0 0 60) 37 2 0) 41 17 0 0 60) 42 18 0 0 60) 40 2 0) 43 0 0) 43 1 0) 43 2 0) 43 3 0) 43 4 0) 44 0 0) 44 1 0) 44 2 0) 44 3 0) 44 4 0) 45 21 0 0 36) 46 22 0 0 36) 47 23 0 0 10) 25 9 0) 48 24 0 0 24) 25 11 0) 25 12 1) 0 7 1)) rfl ?_
    exact mz_ret rfl
  · exact ((mz_Me.deep ms1 (by decide))).1
